/-! the reading of a text, pure: B tells the bytes, -1 where there is none that can stand -/
def tpn (B : Int → Int) (p : Int) : Int := if 48 ≤ B p ∧ B p ≤ 57 then (if 48 ≤ B (p + 1) ∧ B (p + 1) ≤ 57 then (if 48 ≤ B (p + 2) ∧ B (p + 2) ≤ 57 then 3 else 2) else 1) else 0
theorem tpn_c (B : Int → Int) (p : Int) : (tpn B p = 0 ∧ ¬ (48 ≤ B p ∧ B p ≤ 57)) ∨ (tpn B p = 1 ∧ (48 ≤ B p ∧ B p ≤ 57) ∧ ¬ (48 ≤ B (p + 1) ∧ B (p + 1) ≤ 57)) ∨ (tpn B p = 2 ∧ (48 ≤ B p ∧ B p ≤ 57) ∧ (48 ≤ B (p + 1) ∧ B (p + 1) ≤ 57) ∧ ¬ (48 ≤ B (p + 2) ∧ B (p + 2) ≤ 57)) ∨ (tpn B p = 3 ∧ (48 ≤ B p ∧ B p ≤ 57) ∧ (48 ≤ B (p + 1) ∧ B (p + 1) ≤ 57) ∧ (48 ≤ B (p + 2) ∧ B (p + 2) ≤ 57)) := by
  unfold tpn
  by_cases h : 48 ≤ B p ∧ B p ≤ 57
  · by_cases h1 : 48 ≤ B (p + 1) ∧ B (p + 1) ≤ 57
    · by_cases h2 : 48 ≤ B (p + 2) ∧ B (p + 2) ≤ 57
      · rw [if_pos h, if_pos h1, if_pos h2]; exact Or.inr (Or.inr (Or.inr ⟨rfl, h, h1, h2⟩))
      · rw [if_pos h, if_pos h1, if_neg h2]; exact Or.inr (Or.inr (Or.inl ⟨rfl, h, h1, h2⟩))
    · rw [if_pos h, if_neg h1]; exact Or.inr (Or.inl ⟨rfl, h, h1⟩)
  · rw [if_neg h]; exact Or.inl ⟨rfl, h⟩
def tpv (B : Int → Int) (p : Int) : Int := if tpn B p = 1 then B p - 48 else (B p - 48) * 10 + (B (p + 1) - 48)
theorem tpv_c (B : Int → Int) (p : Int) : (tpn B p = 1 ∧ tpv B p = B p - 48) ∨ (¬ tpn B p = 1 ∧ tpv B p = (B p - 48) * 10 + (B (p + 1) - 48)) := by
  unfold tpv
  by_cases h : tpn B p = 1
  · exact Or.inl ⟨h, if_pos h⟩
  · exact Or.inr ⟨h, if_neg h⟩
def tpk (B : Int → Int) (a b p : Int) : Int := if tpn B p = 1 ∨ tpn B p = 2 then (if a ≤ tpv B p ∧ tpv B p ≤ b then 0 else 2) else 1
theorem tpk_c (B : Int → Int) (a b p : Int) : ((tpn B p = 1 ∨ tpn B p = 2) ∧ (a ≤ tpv B p ∧ tpv B p ≤ b) ∧ tpk B a b p = 0) ∨ ((tpn B p = 1 ∨ tpn B p = 2) ∧ ¬ (a ≤ tpv B p ∧ tpv B p ≤ b) ∧ tpk B a b p = 2) ∨ (¬ (tpn B p = 1 ∨ tpn B p = 2) ∧ tpk B a b p = 1) := by
  unfold tpk
  by_cases h : tpn B p = 1 ∨ tpn B p = 2
  · by_cases h1 : a ≤ tpv B p ∧ tpv B p ≤ b
    · exact Or.inl ⟨h, h1, by rw [if_pos h, if_pos h1]⟩
    · exact Or.inr (Or.inl ⟨h, h1, by rw [if_pos h, if_neg h1]⟩)
  · exact Or.inr (Or.inr ⟨h, if_neg h⟩)
theorem tp_at (B : Int → Int) (k i : Int) : (¬ i = k ∨ B i = B k) ∧ (¬ i = k + 1 ∨ B i = B (k + 1)) ∧ (¬ i = k + 2 ∨ B i = B (k + 2)) := by
  refine ⟨?_, ?_, ?_⟩
  · by_cases h : i = k
    · exact Or.inr (by rw [h])
    · exact Or.inl h
  · by_cases h : i = k + 1
    · exact Or.inr (by rw [h])
    · exact Or.inl h
  · by_cases h : i = k + 2
    · exact Or.inr (by rw [h])
    · exact Or.inl h
/-- faulty, the fault's number, its place; the place -/
abbrev TPS : Type := Int × Int × Int × Int
def tF (n k : Int) (t : TPS) : TPS := if t.1 = 0 then (1, n, k, t.2.2.2) else t
theorem tF_y {n k f a b d : Int} (h : ¬ f = 0) : tF n k (f, a, b, d) = (f, a, b, d) := if_neg h
theorem tF_n {n k f a b d : Int} (h : f = 0) : tF n k (f, a, b, d) = (1, n, k, d) := if_pos h
def tL (r : Int) (t : TPS) : TPS := if r = 0 then tF 3 t.2.2.2 t else (t.1, t.2.1, t.2.2.1, t.2.2.2 + 1)
theorem tL_0 {r f a b d : Int} (h : r = 0) : tL r (f, a, b, d) = tF 3 d (f, a, b, d) := if_pos h
theorem tL_1 {r f a b d e : Int} (h : ¬ r = 0) (h2 : e = d + 1) : (f, a, b, e) = tL r (f, a, b, d) := by
  rw [h2]; exact (if_neg (c := r = 0) h).symm
def tS (B : Int → Int) (k : Int) (t : TPS) : TPS := if t.1 = 0 ∧ B t.2.2.2 = k then (t.1, t.2.1, t.2.2.1, t.2.2.2 + 1) else tF 1 t.2.2.2 t
theorem tS_ok {B : Int → Int} {k f a b d e : Int} (h : f = 0) (h1 : B d = k) (h2 : e = d + 1) : (f, a, b, e) = tS B k (f, a, b, d) := by
  rw [h2]; exact (if_pos (c := f = 0 ∧ B d = k) ⟨h, h1⟩).symm
theorem tS_no {B : Int → Int} {k f a b d : Int} (h : ¬ (f = 0 ∧ B d = k)) : tF 1 d (f, a, b, d) = tS B k (f, a, b, d) := (if_neg (c := f = 0 ∧ B d = k) h).symm
def tN (B : Int → Int) (a b : Int) (t : TPS) : TPS := if t.1 = 0 ∧ tpk B a b t.2.2.2 = 0 then (t.1, t.2.1, t.2.2.1, t.2.2.2 + tpn B t.2.2.2) else tF (tpk B a b t.2.2.2) t.2.2.2 t
theorem tN_ok {B : Int → Int} {a b f x y d e : Int} (h : f = 0) (h1 : tpk B a b d = 0) (h2 : e = d + tpn B d) : (f, x, y, e) = tN B a b (f, x, y, d) := by
  rw [h2]; exact (if_pos (c := f = 0 ∧ tpk B a b d = 0) ⟨h, h1⟩).symm
theorem tN_no {B : Int → Int} {a b f x y d n : Int} (h : ¬ f = 0 ∨ (n = tpk B a b d ∧ ¬ tpk B a b d = 0)) : tF n d (f, x, y, d) = tN B a b (f, x, y, d) := by
  rcases h with h | ⟨h, h1⟩
  · rw [tF_y h]; exact ((if_neg (c := f = 0 ∧ tpk B a b d = 0) (fun z => h z.1)).trans (tF_y h)).symm
  · rw [h]; exact (if_neg (c := f = 0 ∧ tpk B a b d = 0) (fun z => h1 z.2)).symm
def tV (B : Int → Int) (a b : Int) (t : TPS) : Int := if t.1 = 0 ∧ tpk B a b t.2.2.2 = 0 then tpv B t.2.2.2 else 0
theorem tV_c (B : Int → Int) (a b f x y d : Int) : (f = 0 ∧ tpk B a b d = 0 ∧ tV B a b (f, x, y, d) = tpv B d) ∨ (¬ (f = 0 ∧ tpk B a b d = 0) ∧ tV B a b (f, x, y, d) = 0) := by
  by_cases h : f = 0 ∧ tpk B a b d = 0
  · exact Or.inl ⟨h.1, h.2, if_pos h⟩
  · exact Or.inr ⟨h, if_neg h⟩
/-- behind a fault nothing changes -/
theorem tF_s {n k : Int} {t : TPS} (h : ¬ t.1 = 0) : tF n k t = t := if_neg h
theorem tS_s {B : Int → Int} {k : Int} {t : TPS} (h : ¬ t.1 = 0) : tS B k t = t := (if_neg (fun z => h z.1)).trans (tF_s h)
theorem tN_s {B : Int → Int} {a b : Int} {t : TPS} (h : ¬ t.1 = 0) : tN B a b t = t := (if_neg (fun z => h z.1)).trans (tF_s h)
/-- villages, roads told, walkers, where roads lead, kinds -/
abbrev TPU : Type := Int × Int × Int × (Nat → Int32) × (Nat → Int32)
abbrev TPT : Type := TPS × TPU
def tr8 (f : Nat → Int32) : Nat → Int32 := fun a => if a < 8 then f a else 0
def trk (w : Int) (f : Nat → Int32) : Nat → Int32 := fun j => if (j : Int) < w then f j else 0
theorem tr8_at {f : Nat → Int32} {a : Nat} (h : a < 8) : tr8 f a = f a := if_pos h
theorem tr8_up {f : Nat → Int32} {i : Nat} {x : Int32} (h : i < 8) : tr8 (upd f i x) = upd (tr8 f) i x := by
  funext a
  by_cases e : a = i
  · rw [e, pk_us]; exact (if_pos h).trans pk_us
  · rw [pk_un e]
    by_cases h8 : a < 8
    · rw [tr8_at h8, tr8_at h8, pk_un e]
    · exact (if_neg h8).trans (if_neg h8).symm
theorem tr8_0 : tr8 (fun _ => 0) = fun _ => 0 := by
  funext a
  by_cases h8 : a < 8
  · exact if_pos h8
  · exact if_neg h8
theorem trk_0 {w : Int} {f : Nat → Int32} (h : w = 0) : trk w f = fun _ => 0 := by
  funext a
  exact if_neg (by omega)
theorem trk_at {w : Int} {f : Nat → Int32} {j : Nat} (h : (j : Int) < w) : trk w f j = f j := if_pos h
theorem trk_up {w v : Int} {f : Nat → Int32} {i : Nat} {x : Int32} (h : w = i) (hv : v = w + 1) : trk v (upd f i x) = upd (trk w f) i x := by
  funext a
  by_cases e : a = i
  · rw [e, pk_us]; exact (if_pos (by omega)).trans pk_us
  · rw [pk_un e]
    by_cases h8 : (a : Int) < w
    · exact (if_pos (by omega)).trans ((pk_un e).trans (if_pos h8).symm)
    · exact (if_neg (by omega)).trans (if_neg h8).symm
def tpVt (B : Int → Int) (t : TPS) (v : Int) : TPS := tS B 59 (tN B 0 20 (tS B 44 (tN B 0 9 (tL (if v < 8 then 1 else 0) t))))
def tpV (B : Int → Int) (s : TPT) : TPT := (tpVt B s.1 s.2.1, if (tpVt B s.1 s.2.1).1 = 0 then (s.2.1 + 1, s.2.2) else s.2)
theorem tpV_ok {B : Int → Int} {t : TPS} {f a b d v v' r w : Int} {g k : Nat → Int32} (hT : (f, a, b, d) = tpVt B t v) (h : f = 0) (hv : v' = v + 1) : (((f, a, b, d), (v', r, w, g, k)) : TPT) = tpV B (t, (v, r, w, g, k)) := by
  show _ = (tpVt B t v, if (tpVt B t v).1 = 0 then (v + 1, (r, w, g, k)) else (v, r, w, g, k))
  rw [← hT, if_pos h, hv]
theorem tpV_no {B : Int → Int} {t : TPS} {f a b d v r w : Int} {g k : Nat → Int32} (hT : (f, a, b, d) = tpVt B t v) (h : ¬ f = 0) : (((f, a, b, d), (v, r, w, g, k)) : TPT) = tpV B (t, (v, r, w, g, k)) := by
  show _ = (tpVt B t v, if (tpVt B t v).1 = 0 then (v + 1, (r, w, g, k)) else (v, r, w, g, k))
  rw [← hT, if_neg h]
/-- a bit of a set -/
def tbi (x : Int32) (b : Int) : Int := if ((x >>> (Int32.ofInt b &&& 31)) &&& 1) = 0 then 0 else 1
theorem tbi_1 {x v a b : Int32} (h1 : a = x >>> (v &&& 31)) (h2 : b = a &&& 1) (h : ¬ b.toInt = 0) : tbi x v.toInt = 1 := by
  unfold tbi
  rw [Int32.ofInt_toInt, ← h1, ← h2, if_neg (fun z => h (by rw [z]; rfl))]
theorem tbi_0 {x v a b : Int32} (h1 : a = x >>> (v &&& 31)) (h2 : b = a &&& 1) (h : b.toInt = 0) : tbi x v.toInt = 0 := by
  unfold tbi
  rw [Int32.ofInt_toInt, ← h1, ← h2, if_pos (Int32.toInt_inj.mp h)]
def tor (f : Nat → Int32) (a b : Int) : Nat → Int32 := upd f a.toNat (f a.toNat ||| ((1 : Int32) <<< (Int32.ofInt b &&& 31)))
theorem tor_of {f : Nat → Int32} {a b x y z w : Int32} (h1 : x = (1 : Int32) <<< (b &&& 31)) (h2 : y = f a.toNatClampNeg ||| x) (h3 : z = (1 : Int32) <<< (a &&& 31)) (h4 : w = upd f a.toNatClampNeg y b.toNatClampNeg ||| z) : upd (upd f a.toNatClampNeg y) b.toNatClampNeg w = tor (tor f a.toInt b.toInt) b.toInt a.toInt := by
  subst h4 h3 h2 h1
  unfold tor
  rw [Int32.ofInt_toInt, Int32.ofInt_toInt]
  rfl
abbrev tjn (f : Nat → Int32) (a b : Int) : Prop := ¬ a = b ∧ tbi (f a.toNat) b = 0
def tpJ (f : Nat → Int32) (a b k : Int) (t : TPS) : TPS := if tjn f a b then t else tF 2 k t
theorem tpJ_y {f : Nat → Int32} {a b k : Int} {t : TPS} (h : tjn f a b) : tpJ f a b k t = t := if_pos h
theorem tpJ_n {f : Nat → Int32} {a b k : Int} {t : TPS} (h : ¬ tjn f a b) : tpJ f a b k t = tF 2 k t := if_neg h
theorem tpJ_s {f : Nat → Int32} {a b k : Int} {t : TPS} (h : ¬ t.1 = 0) : tpJ f a b k t = t := by
  by_cases c : tjn f a b
  · exact tpJ_y c
  · exact (tpJ_n c).trans (tF_s h)
def tpRt (B : Int → Int) (t : TPS) (v r : Int) : TPS := tS B 44 (tN B 0 (v - 1) (tL (if r < 12 then 1 else 0) t))
def tpRa (B : Int → Int) (t : TPS) (v r : Int) : Int := tV B 0 (v - 1) (tL (if r < 12 then 1 else 0) t)
def tpRb (B : Int → Int) (t : TPS) (v r : Int) : Int := tV B 0 (v - 1) (tpRt B t v r)
def tpRx (B : Int → Int) (t : TPS) (v r : Int) (g : Nat → Int32) : TPS := tS B 59 (tpJ g (tpRa B t v r) (tpRb B t v r) (tpRt B t v r).2.2.2 (tN B 0 (v - 1) (tpRt B t v r)))
def tpR (B : Int → Int) (s : TPT) : TPT := (tpRx B s.1 s.2.1 s.2.2.1 s.2.2.2.2.1, if (tpRx B s.1 s.2.1 s.2.2.1 s.2.2.2.2.1).1 = 0 then (s.2.1, s.2.2.1 + 1, s.2.2.2.1, tor (tor s.2.2.2.2.1 (tpRa B s.1 s.2.1 s.2.2.1) (tpRb B s.1 s.2.1 s.2.2.1)) (tpRb B s.1 s.2.1 s.2.2.1) (tpRa B s.1 s.2.1 s.2.2.1), s.2.2.2.2.2) else s.2)
theorem tpR_ok {B : Int → Int} {t : TPS} {f a b d v r r' w : Int} {g g' k : Nat → Int32} (hT : (f, a, b, d) = tpRx B t v r g) (h : f = 0) (hr : r' = r + 1) (hg : g' = tor (tor g (tpRa B t v r) (tpRb B t v r)) (tpRb B t v r) (tpRa B t v r)) : (((f, a, b, d), (v, r', w, g', k)) : TPT) = tpR B (t, (v, r, w, g, k)) := by
  show _ = (tpRx B t v r g, if (tpRx B t v r g).1 = 0 then (v, r + 1, w, tor (tor g (tpRa B t v r) (tpRb B t v r)) (tpRb B t v r) (tpRa B t v r), k) else (v, r, w, g, k))
  rw [← hT, if_pos h, hr, hg]
theorem tpR_no {B : Int → Int} {t : TPS} {f a b d v r w : Int} {g k : Nat → Int32} (hT : (f, a, b, d) = tpRx B t v r g) (h : ¬ f = 0) : (((f, a, b, d), (v, r, w, g, k)) : TPT) = tpR B (t, (v, r, w, g, k)) := by
  show _ = (tpRx B t v r g, if (tpRx B t v r g).1 = 0 then (v, r + 1, w, tor (tor g (tpRa B t v r) (tpRb B t v r)) (tpRb B t v r) (tpRa B t v r), k) else (v, r, w, g, k))
  rw [← hT, if_neg h]
/-- the kind of a letter -/
def tpo (x : Int) : Int := if x = 111 then 1 else if x = 115 then 2 else if x = 108 then 3 else if x = 116 then 4 else if x = 101 then 5 else 0
theorem tpo_c (x : Int) : (x = 111 ∧ tpo x = 1) ∨ (x = 115 ∧ tpo x = 2) ∨ (x = 108 ∧ tpo x = 3) ∨ (x = 116 ∧ tpo x = 4) ∨ (x = 101 ∧ tpo x = 5) ∨ ((¬ x = 111 ∧ ¬ x = 115 ∧ ¬ x = 108 ∧ ¬ x = 116 ∧ ¬ x = 101) ∧ tpo x = 0) := by
  unfold tpo
  by_cases h1 : x = 111
  · rw [if_pos h1]; exact Or.inl ⟨h1, rfl⟩
  rw [if_neg h1]
  by_cases h2 : x = 115
  · rw [if_pos h2]; exact Or.inr (Or.inl ⟨h2, rfl⟩)
  rw [if_neg h2]
  by_cases h3 : x = 108
  · rw [if_pos h3]; exact Or.inr (Or.inr (Or.inl ⟨h3, rfl⟩))
  rw [if_neg h3]
  by_cases h4 : x = 116
  · rw [if_pos h4]; exact Or.inr (Or.inr (Or.inr (Or.inl ⟨h4, rfl⟩)))
  rw [if_neg h4]
  by_cases h5 : x = 101
  · rw [if_pos h5]; exact Or.inr (Or.inr (Or.inr (Or.inr (Or.inl ⟨h5, rfl⟩))))
  rw [if_neg h5]
  exact Or.inr (Or.inr (Or.inr (Or.inr (Or.inr ⟨⟨h1, h2, h3, h4, h5⟩, rfl⟩))))
def tpWt (B : Int → Int) (t : TPS) (v w : Int) : TPS := tS B 59 (tN B 0 (v - 1) (tL (if w < 3 then 1 else 0) t))
def tpW (B : Int → Int) (s : TPT) : TPT := (tpWt B s.1 s.2.1 s.2.2.2.1, if (tpWt B s.1 s.2.1 s.2.2.2.1).1 = 0 then (s.2.1, s.2.2.1, s.2.2.2.1 + 1, s.2.2.2.2.1, upd s.2.2.2.2.2 s.2.2.2.1.toNat (Int32.ofInt (tpo (B s.1.2.2.2)))) else s.2)
theorem tpW_ok {B : Int → Int} {t : TPS} {f a b d v r w w' : Int} {g k k' : Nat → Int32} (hT : (f, a, b, d) = tpWt B t v w) (h : f = 0) (hw : w' = w + 1) (hk : k' = upd k w.toNat (Int32.ofInt (tpo (B t.2.2.2)))) : (((f, a, b, d), (v, r, w', g, k')) : TPT) = tpW B (t, (v, r, w, g, k)) := by
  show _ = (tpWt B t v w, if (tpWt B t v w).1 = 0 then (v, r, w + 1, g, upd k w.toNat (Int32.ofInt (tpo (B t.2.2.2)))) else (v, r, w, g, k))
  rw [← hT, if_pos h, hw, hk]
theorem tpW_no {B : Int → Int} {t : TPS} {f a b d v r w : Int} {g k : Nat → Int32} (hT : (f, a, b, d) = tpWt B t v w) (h : ¬ f = 0) : (((f, a, b, d), (v, r, w, g, k)) : TPT) = tpW B (t, (v, r, w, g, k)) := by
  show _ = (tpWt B t v w, if (tpWt B t v w).1 = 0 then (v, r, w + 1, g, upd k w.toNat (Int32.ofInt (tpo (B t.2.2.2)))) else (v, r, w, g, k))
  rw [← hT, if_neg h]
/-- a loop, n times at most -/
def tlp {S : Type} (c : S → Bool) (f : S → S) : Nat → S → S
  | 0, s => s
  | n + 1, s => bif c s then tlp c f n (f s) else s
theorem tlp_y {S : Type} {c : S → Bool} {f : S → S} {n : Nat} {s : S} (h : c s = true) : tlp c f (n + 1) s = tlp c f n (f s) := by
  show (bif c s then tlp c f n (f s) else s) = _
  rw [h]; rfl
theorem tlp_n {S : Type} {c : S → Bool} {f : S → S} {n : Nat} {s : S} (h : c s = false) : tlp c f n s = s := by
  cases n with
  | zero => rfl
  | succ n =>
    show (bif c s then tlp c f n (f s) else s) = _
    rw [h]; rfl
theorem tlp_more {S : Type} {c : S → Bool} {f : S → S} (m : S → Nat) (h0 : ∀ s, c s = true → 0 < m s) (h1 : ∀ s, c s = true → c (f s) = false ∨ m (f s) < m s) : ∀ (n : Nat) (s : S), m s ≤ n → tlp c f (n + 1) s = tlp c f n s := by
  intro n
  induction n with
  | zero =>
    intro s hs
    cases hc : c s with
    | false => rw [tlp_n hc, tlp_n hc]
    | true => exact absurd (h0 s hc) (by omega)
  | succ n ih =>
    intro s hs
    cases hc : c s with
    | false => rw [tlp_n hc, tlp_n hc]
    | true =>
      rw [tlp_y hc, tlp_y hc]
      rcases h1 s hc with h | h
      · rw [tlp_n h, tlp_n h]
      · exact ih (f s) (by omega)
theorem tlp_step {S : Type} {c : S → Bool} {f : S → S} (m : S → Nat) (h0 : ∀ s, c s = true → 0 < m s) (h1 : ∀ s, c s = true → c (f s) = false ∨ m (f s) < m s) {s : S} (h : c s = true) (hm : m s ≤ 120) : tlp c f 120 s = tlp c f 120 (f s) := by
  rw [show (120 : Nat) = 119 + 1 from rfl, tlp_y h]
  rcases h1 s h with h2 | h2
  · rw [tlp_n h2, tlp_n h2]
  · exact (tlp_more m h0 h1 119 (f s) (by omega)).symm
def bV (B : Int → Int) (s : TPT) : Bool := decide (s.1.1 = 0 ∧ (B s.1.2.2.2 = 103 ∨ B s.1.2.2.2 = 99))
def bR (B : Int → Int) (s : TPT) : Bool := decide (s.1.1 = 0 ∧ B s.1.2.2.2 = 114)
def bW (B : Int → Int) (s : TPT) : Bool := decide (s.1.1 = 0 ∧ ¬ tpo (B s.1.2.2.2) = 0)
/-- no village at all -/
def tpC (B : Int → Int) (s : TPT) : TPT := (if s.2.1 = 0 ∧ bV B s = false then tF 1 s.1.2.2.2 s.1 else s.1, s.2)
/-- a text that goes on -/
def tpE (L : Int) (s : TPT) : TPT := (if s.1.2.2.2 < L then tF 1 s.1.2.2.2 s.1 else s.1, s.2)
def tp2 (B : Int → Int) (L : Int) (s : TPT) : TPT := tpE L (tlp (bW B) (tpW B) 120 s)
def tp1 (B : Int → Int) (L : Int) (s : TPT) : TPT := tp2 B L (tlp (bR B) (tpR B) 120 s)
def tp0 (B : Int → Int) (L : Int) (s : TPT) : TPT := tp1 B L (tlp (bV B) (tpV B) 120 (tpC B s))
def tpLaw (B : Int → Int) (t : TPS) : TPS := tS B 59 (tN B 1 9 (tS B 102 t))
def tpA (B : Int → Int) (L x y : Int) : TPT := tp0 B L (tpLaw B (0, x, y, 0), (0, 0, 0, (fun _ => 0), (fun _ => 0)))
/-! the bytes, as both sides keep them -/
def tbc (f : Nat → Int32) (L i : Int) : Int := if 0 ≤ i ∧ i < L ∧ (f i.toNat).toInt < 128 then (f i.toNat).toInt else (-1)
def tbr (f : Nat → Int32) (L i : Int) : Int := if 0 ≤ i ∧ i < L ∧ 0 ≤ (f i.toNat).toInt then (f i.toNat).toInt else (-1)
theorem tbc_c (f : Nat → Int32) (L : Int) (i : Int32) : (0 ≤ i.toInt ∧ i.toInt < L ∧ (f i.toNatClampNeg).toInt < 128 ∧ tbc f L i.toInt = (f i.toNatClampNeg).toInt) ∨ (0 ≤ i.toInt ∧ i.toInt < L ∧ 128 ≤ (f i.toNatClampNeg).toInt ∧ tbc f L i.toInt = (-1)) ∨ (¬ (0 ≤ i.toInt ∧ i.toInt < L) ∧ tbc f L i.toInt = (-1)) := by
  unfold tbc
  by_cases h : 0 ≤ i.toInt ∧ i.toInt < L
  · have e : i.toInt.toNat = i.toNatClampNeg := by have e2 := zi_cn h.1; omega
    rw [e]
    by_cases h1 : (f i.toNatClampNeg).toInt < 128
    · exact Or.inl ⟨h.1, h.2, h1, if_pos ⟨h.1, h.2, h1⟩⟩
    · exact Or.inr (Or.inl ⟨h.1, h.2, by omega, if_neg (fun z => h1 z.2.2)⟩)
  · exact Or.inr (Or.inr ⟨h, if_neg (fun z => h ⟨z.1, z.2.1⟩)⟩)
theorem tbr_c (f : Nat → Int32) (L : Int) (i : Int32) : (0 ≤ i.toInt ∧ i.toInt < L ∧ 0 ≤ (f i.toNatClampNeg).toInt ∧ tbr f L i.toInt = (f i.toNatClampNeg).toInt) ∨ (0 ≤ i.toInt ∧ i.toInt < L ∧ (f i.toNatClampNeg).toInt < 0 ∧ tbr f L i.toInt = (-1)) ∨ (¬ (0 ≤ i.toInt ∧ i.toInt < L) ∧ tbr f L i.toInt = (-1)) := by
  unfold tbr
  by_cases h : 0 ≤ i.toInt ∧ i.toInt < L
  · have e : i.toInt.toNat = i.toNatClampNeg := by have e2 := zi_cn h.1; omega
    rw [e]
    by_cases h1 : 0 ≤ (f i.toNatClampNeg).toInt
    · exact Or.inl ⟨h.1, h.2, h1, if_pos ⟨h.1, h.2, h1⟩⟩
    · exact Or.inr (Or.inl ⟨h.1, h.2, by omega, if_neg (fun z => h1 z.2.2)⟩)
  · exact Or.inr (Or.inr ⟨h, if_neg (fun z => h ⟨z.1, z.2.1⟩)⟩)
theorem tbr_hi {f : Nat → Int32} {L i : Int} (h : L ≤ i) : tbr f L i = (-1) := if_neg (by omega)
/-- the tapes of both sides -/
def TR (f g : Nat → Int32) (L : Int) : Prop := ∀ j : Nat, (j : Int) < L → ((f j).toInt = (g j).toInt ∧ 0 ≤ (f j).toInt ∧ (f j).toInt < 128) ∨ (128 ≤ (f j).toInt ∧ (g j).toInt < 0)
theorem TR.same {f g : Nat → Int32} {L M : Int} (h : TR f g L) (e : L = M) : tbc f L = tbr g M := by
  rw [← e]
  funext i
  unfold tbc tbr
  by_cases h1 : 0 ≤ i ∧ i < L
  · rcases h i.toNat (by omega) with ⟨a, b, c⟩ | ⟨a, b⟩
    · rw [if_pos ⟨h1.1, h1.2, c⟩, if_pos ⟨h1.1, h1.2, by omega⟩, a]
    · rw [if_neg (by omega), if_neg (by omega)]
  · rw [if_neg (by omega), if_neg (by omega)]
theorem TR.zero {f g : Nat → Int32} {L : Int} (h : L = 0) : TR f g L := fun j hj => absurd hj (by omega)
/-! small facts of the steps -/
theorem tpVt_1 {B : Int → Int} {t : TPS} {v : Int} (h : v < 8) : tpVt B t v = tS B 59 (tN B 0 20 (tS B 44 (tN B 0 9 (tL 1 t)))) := by unfold tpVt; rw [if_pos h]
theorem tpVt_0 {B : Int → Int} {t : TPS} {v : Int} (h : ¬ v < 8) : tpVt B t v = tS B 59 (tN B 0 20 (tS B 44 (tN B 0 9 (tL 0 t)))) := by unfold tpVt; rw [if_neg h]
theorem tpWt_1 {B : Int → Int} {t : TPS} {v w : Int} (h : w < 3) : tpWt B t v w = tS B 59 (tN B 0 (v - 1) (tL 1 t)) := by unfold tpWt; rw [if_pos h]
theorem tpWt_0 {B : Int → Int} {t : TPS} {v w : Int} (h : ¬ w < 3) : tpWt B t v w = tS B 59 (tN B 0 (v - 1) (tL 0 t)) := by unfold tpWt; rw [if_neg h]
theorem tF_f {n k : Int} {t : TPS} : ¬ (tF n k t).1 = 0 := by
  unfold tF
  by_cases h : t.1 = 0
  · rw [if_pos h]; exact Int.one_ne_zero
  · rw [if_neg h]; exact h
theorem tL_f {t : TPS} : ¬ (tL 0 t).1 = 0 := by
  unfold tL
  rw [if_pos rfl]; exact tF_f
theorem tS_f {B : Int → Int} {k : Int} {t : TPS} (h : ¬ t.1 = 0) : ¬ (tS B k t).1 = 0 := by rw [tS_s h]; exact h
theorem tN_f {B : Int → Int} {a b : Int} {t : TPS} (h : ¬ t.1 = 0) : ¬ (tN B a b t).1 = 0 := by rw [tN_s h]; exact h
theorem tpJ_f {f : Nat → Int32} {a b k : Int} {t : TPS} (h : ¬ t.1 = 0) : ¬ (tpJ f a b k t).1 = 0 := by rw [tpJ_s h]; exact h
theorem tpVt_f {B : Int → Int} {t : TPS} {v f a b d : Int} (hT : (f, a, b, d) = tpVt B t v) : v < 8 ∨ ¬ f = 0 := by
  by_cases h : v < 8
  · exact Or.inl h
  · refine Or.inr ?_
    rw [show f = (tpVt B t v).1 from congrArg Prod.fst hT, tpVt_0 h]
    exact tS_f (tN_f (tS_f (tN_f tL_f)))
theorem tpWt_f {B : Int → Int} {t : TPS} {v w f a b d : Int} (hT : (f, a, b, d) = tpWt B t v w) : w < 3 ∨ ¬ f = 0 := by
  by_cases h : w < 3
  · exact Or.inl h
  · refine Or.inr ?_
    rw [show f = (tpWt B t v w).1 from congrArg Prod.fst hT, tpWt_0 h]
    exact tS_f (tN_f tL_f)
theorem tpRx_f {B : Int → Int} {t : TPS} {v r f a b d : Int} {g : Nat → Int32} (hT : (f, a, b, d) = tpRx B t v r g) : r < 12 ∨ ¬ f = 0 := by
  by_cases h : r < 12
  · exact Or.inl h
  · refine Or.inr ?_
    rw [show f = (tpRx B t v r g).1 from congrArg Prod.fst hT]
    unfold tpRx
    refine tS_f (tpJ_f (tN_f ?_))
    unfold tpRt
    rw [if_neg h]
    exact tS_f (tN_f tL_f)
theorem tpRx_of {B : Int → Int} {t t1 t2 t3 t4 t5 t6 : TPS} {v r a b k : Int} {g : Nat → Int32} (hk : k = if r < 12 then 1 else 0) (h1 : t1 = tL k t) (h2 : t2 = tN B 0 (v - 1) t1) (ha : a = tV B 0 (v - 1) t1) (h3 : t3 = tS B 44 t2) (h4 : t4 = tN B 0 (v - 1) t3) (hb : b = tV B 0 (v - 1) t3) (h5 : t5 = tpJ g a b t3.2.2.2 t4) (h6 : t6 = tS B 59 t5) : t6 = tpRx B t v r g ∧ a = tpRa B t v r ∧ b = tpRb B t v r := by
  subst h6 h5 h4 hb h3 h2 ha h1 hk
  exact ⟨rfl, rfl, rfl⟩
theorem tor_tr8 {f : Nat → Int32} {a b : Int} (h : a.toNat < 8) : tr8 (tor f a b) = tor (tr8 f) a b := by
  unfold tor
  rw [tr8_up h, tr8_at h]
theorem tS_g {B : Int → Int} {k f a b d f' a' b' d' : Int} (h : (f', a', b', d') = tS B k (f, a, b, d)) (hf : ¬ f = 0) : ¬ f' = 0 := by
  rw [show f' = (tS B k (f, a, b, d)).1 from congrArg Prod.fst h]; exact tS_f hf
theorem tF_g {n k f a b d : Int} {t : TPS} (h : (f, a, b, d) = tF n k t) : ¬ f = 0 := by
  rw [show f = (tF n k t).1 from congrArg Prod.fst h]; exact tF_f
theorem tpJ_g {g : Nat → Int32} {x y k f a b d : Int} (h : ¬ f = 0) : tpJ g x y k (f, a, b, d) = (f, a, b, d) := tpJ_s h
theorem tjn_of {g : Nat → Int32} {a b : Int32} (h : ¬ a.toInt = b.toInt) (h2 : tbi (g a.toNatClampNeg) b.toInt = 0) : tjn g a.toInt b.toInt := ⟨h, h2⟩
theorem tjn_no {g : Nat → Int32} {a b : Int32} (h : ¬ (¬ a.toInt = b.toInt ∧ tbi (g a.toNatClampNeg) b.toInt = 0)) : ¬ tjn g a.toInt b.toInt := h
theorem bV_t {B : Int → Int} {f a b d : Int} {u : TPU} (h : f = 0 ∧ (B d = 103 ∨ B d = 99)) : bV B ((f, a, b, d), u) = true := decide_eq_true h
theorem bV_f {B : Int → Int} {f a b d : Int} {u : TPU} (h : ¬ (f = 0 ∧ (B d = 103 ∨ B d = 99))) : bV B ((f, a, b, d), u) = false := decide_eq_false h
theorem bR_t {B : Int → Int} {f a b d : Int} {u : TPU} (h : f = 0 ∧ B d = 114) : bR B ((f, a, b, d), u) = true := decide_eq_true h
theorem bR_f {B : Int → Int} {f a b d : Int} {u : TPU} (h : ¬ (f = 0 ∧ B d = 114)) : bR B ((f, a, b, d), u) = false := decide_eq_false h
theorem bW_t {B : Int → Int} {f a b d : Int} {u : TPU} (h : f = 0 ∧ ¬ tpo (B d) = 0) : bW B ((f, a, b, d), u) = true := decide_eq_true h
theorem bW_f {B : Int → Int} {f a b d : Int} {u : TPU} (h : ¬ (f = 0 ∧ ¬ tpo (B d) = 0)) : bW B ((f, a, b, d), u) = false := decide_eq_false h
theorem tlp_back {S : Type} {c : S → Bool} {f : S → S} {n m : Nat} {s s' R : S} (h : tlp c f n s = R) (hc : c s = true) (hs : s' = f s) (hn : n = m + 1) : tlp c f m s' = R := by
  rw [hs, ← tlp_y hc, ← hn]; exact h
theorem tlp_e0 {S : Type} {c : S → Bool} {f : S → S} {n : Nat} {s R : S} (h : tlp c f n s = R) (hn : n = 0) : s = R := by
  rw [hn] at h; exact h
theorem tlp_en {S : Type} {c : S → Bool} {f : S → S} {n : Nat} {s R : S} (h : tlp c f n s = R) (hc : c s = false) : s = R := (tlp_n hc).symm.trans h
theorem tlp_0 {S : Type} {c : S → Bool} {f : S → S} {n : Nat} {s R : S} (hn : n = 120) (h : s = R) : tlp c f n s = tlp c f 120 R := by rw [hn, h]
theorem tpC_b {B : Int → Int} {s : TPT} (h : bV B s = true) : tpC B s = s := by
  unfold tpC
  rw [if_neg (fun z => by rw [h] at z; exact absurd z.2 (by decide))]
theorem tpC_n {B : Int → Int} {t t' : TPS} {u : TPU} (h : bV B (t, u) = false) (hv : u.1 = 0) (ht : t' = tF 1 t.2.2.2 t) : (t', u) = tpC B (t, u) := by
  unfold tpC
  rw [if_pos ⟨hv, h⟩, ht]
theorem tpC_v {B : Int → Int} {s : TPT} (h : ¬ s.2.1 = 0) : tpC B s = s := by
  unfold tpC
  rw [if_neg (fun z => h z.1)]
theorem tpE_y {L : Int} {t t' : TPS} {u : TPU} (h : t.2.2.2 < L) (ht : t' = tF 1 t.2.2.2 t) : (t', u) = tpE L (t, u) := by
  unfold tpE
  rw [if_pos h, ht]
theorem tpE_n {L : Int} {s : TPT} (h : ¬ s.1.2.2.2 < L) : s = tpE L s := by
  unfold tpE
  rw [if_neg h]
theorem tp_ofi {k : Int32} {x : Int} (h : k.toInt = x) : k = Int32.ofInt x := by rw [← h, Int32.ofInt_toInt]
theorem trk_w {w v : Int32} {f : Nat → Int32} {x : Int32} (h0 : 0 ≤ w.toInt) (h : v.toInt = w.toInt + 1) : trk v.toInt (upd f w.toNatClampNeg x) = upd (trk w.toInt f) w.toInt.toNat x := trk_up (i := w.toNatClampNeg) (zi_cn h0).symm h
theorem zfl {f : Nat → Int32} {t v : Int32} {u : Int} (h : ∀ q : Nat, q < 8 → (q : Int) < t.toInt → f q = v) {q : Nat} (h8 : q < 8) (h0 : 0 ≤ t.toInt) (hq : (q : Int) < u) (hu : u = t.toInt + 1) : upd f t.toNatClampNeg v q = v := by
  have e := zi_cn h0
  by_cases c : q = t.toNatClampNeg
  · rw [c, pk_us]
  · rw [pk_un c]; exact h q h8 (by omega)
theorem tpU_0 {a b c : Int} {g f : Nat → Int32} (ha : a = 0) (hb : b = 0) (hc : c = 0) : ((a, b, c, g, trk c f) : TPU) = (0, 0, 0, g, fun _ => 0) := by rw [trk_0 hc, ha, hb, hc]
theorem tpA_of {B : Int → Int} {L x y : Int} {t1 t2 t3 t4 t5 : TPS} {u0 u2 u3 u4 : TPU} (h1 : t1 = tpLaw B (0, x, y, 0)) (h0 : u0 = (0, 0, 0, (fun _ => 0), (fun _ => 0))) (h2 : (t2, u2) = tlp (bV B) (tpV B) 120 (tpC B (t1, u0))) (h3 : (t3, u3) = tlp (bR B) (tpR B) 120 (t2, u2)) (h4 : (t4, u4) = tlp (bW B) (tpW B) 120 (t3, u3)) (h5 : (t5, u4) = tpE L (t4, u4)) : (t5, u4) = tpA B L x y := by
  rw [h5, h4, h3, h2, h1, h0]
  rfl
/-! the reference's side: where a fault ends it -/
def tfa (t : TPS) (x y : Int) : Prop := ∃ d, t = (1, x, y, d)
theorem tfa_S {B : Int → Int} {k x y : Int} {t : TPS} (h : tfa t x y) : tfa (tS B k t) x y := by
  obtain ⟨d, rfl⟩ := h
  exact ⟨d, tS_s Int.one_ne_zero⟩
theorem tfa_N {B : Int → Int} {a b x y : Int} {t : TPS} (h : tfa t x y) : tfa (tN B a b t) x y := by
  obtain ⟨d, rfl⟩ := h
  exact ⟨d, tN_s Int.one_ne_zero⟩
theorem tfa_J {f : Nat → Int32} {a b k x y : Int} {t : TPS} (h : tfa t x y) : tfa (tpJ f a b k t) x y := by
  obtain ⟨d, rfl⟩ := h
  exact ⟨d, tpJ_s Int.one_ne_zero⟩
theorem tS_r {B : Int → Int} {k a b d x y : Int} (h : ¬ B d = k) (hx : x = 1) (hy : y = d) : tfa (tS B k (0, a, b, d)) x y := ⟨d, by rw [← tS_no (fun z => h z.2), tF_n rfl, hx, hy]⟩
theorem tN_r {B : Int → Int} {a b u v d x y : Int} (hx : x = tpk B a b d) (h : ¬ tpk B a b d = 0) (hy : y = d) : tfa (tN B a b (0, u, v, d)) x y := ⟨d, by rw [← tN_no (n := tpk B a b d) (Or.inr ⟨rfl, h⟩), tF_n rfl, hx, hy]⟩
theorem tL_r {a b d x y : Int} (hx : x = 3) (hy : y = d) : tfa (tL 0 (0, a, b, d)) x y := ⟨d, by rw [tL_0 rfl, tF_n rfl, hx, hy]⟩
theorem tF_r {n k a b d x y : Int} (hx : x = n) (hy : y = k) : tfa (tF n k (0, a, b, d)) x y := ⟨d, by rw [tF_n rfl, hx, hy]⟩
/-- what the reference reads into its last slot -/
def ur (f : Nat → Int32) : TPU := ((f 1597).toInt, (f 1599).toInt, (f 1598).toInt, tr8 (fun a => f (1608 + a)), trk (f 1598).toInt (fun j => f (1616 + j)))
theorem ux_v {f : Nat → Int32} : (f (1597 : Int32).toNatClampNeg).toInt = (ur f).1 := by rw [show (1597 : Int32).toNatClampNeg = 1597 from by decide]; rfl
theorem ux_o {f : Nat → Int32} : (f (1599 : Int32).toNatClampNeg).toInt = (ur f).2.1 := by rw [show (1599 : Int32).toNatClampNeg = 1599 from by decide]; rfl
theorem ux_w {f : Nat → Int32} : (f (1598 : Int32).toNatClampNeg).toInt = (ur f).2.2.1 := by rw [show (1598 : Int32).toNatClampNeg = 1598 from by decide]; rfl
theorem ur_w3 {f : Nat → Int32} {v0 : Int} (h : SI f v0) : (f 1598).toInt ≤ 3 := (h.1 28 (by omega)).2.1.2
theorem ur_ne {f : Nat → Int32} {i x : Int32} (hw : (f 1598).toInt ≤ 3) (h0 : 0 ≤ i.toInt) (h : i.toInt < 1597 ∨ (1600 ≤ i.toInt ∧ i.toInt < 1608) ∨ 1619 ≤ i.toInt) : ur (upd f i.toNatClampNeg x) = ur f := by
  have e := zi_cn h0
  have h1 : ∀ j : Nat, (j = 1597 ∨ j = 1598 ∨ j = 1599 ∨ (1608 ≤ j ∧ j < 1619)) → upd f i.toNatClampNeg x j = f j := fun j hj => pk_un (by omega)
  have h2 : tr8 (fun a => upd f i.toNatClampNeg x (1608 + a)) = tr8 (fun a => f (1608 + a)) := by
    funext a
    by_cases h8 : a < 8
    · rw [tr8_at h8, tr8_at h8]; exact h1 _ (by omega)
    · exact (if_neg h8).trans (if_neg h8).symm
  have h3 : trk (f 1598).toInt (fun j => upd f i.toNatClampNeg x (1616 + j)) = trk (f 1598).toInt (fun j => f (1616 + j)) := by
    funext a
    by_cases h8 : (a : Int) < (f 1598).toInt
    · rw [trk_at h8, trk_at h8]; exact h1 _ (by omega)
    · exact (if_neg h8).trans (if_neg h8).symm
  unfold ur
  rw [h1 1597 (by omega), h1 1598 (by omega), h1 1599 (by omega), h2, h3]
theorem ur_v {f : Nat → Int32} {x : Int32} : ur (upd f (1597 : Int32).toNatClampNeg x) = (x.toInt, (ur f).2) := by
  rw [show (1597 : Int32).toNatClampNeg = 1597 from by decide]
  have h2 : (fun a => upd f 1597 x (1608 + a)) = fun a => f (1608 + a) := by funext a; exact pk_un (by omega)
  have h3 : (fun a => upd f 1597 x (1616 + a)) = fun a => f (1616 + a) := by funext a; exact pk_un (by omega)
  unfold ur
  rw [pk_us, pk_un (show 1599 ≠ 1597 by decide), pk_un (show 1598 ≠ 1597 by decide), h2, h3]
theorem ur_o {f : Nat → Int32} {x : Int32} : ur (upd f (1599 : Int32).toNatClampNeg x) = ((ur f).1, x.toInt, (ur f).2.2) := by
  rw [show (1599 : Int32).toNatClampNeg = 1599 from by decide]
  have h2 : (fun a => upd f 1599 x (1608 + a)) = fun a => f (1608 + a) := by funext a; exact pk_un (by omega)
  have h3 : (fun a => upd f 1599 x (1616 + a)) = fun a => f (1616 + a) := by funext a; exact pk_un (by omega)
  unfold ur
  rw [pk_us, pk_un (show 1597 ≠ 1599 by decide), pk_un (show 1598 ≠ 1599 by decide), h2, h3]
theorem ur_l {f : Nat → Int32} {i x : Int32} {a : Int} (hw : (f 1598).toInt ≤ 3) (h0 : 0 ≤ a ∧ a < 8) (e : i.toInt = 1608 + a) : ur (upd f i.toNatClampNeg x) = ((ur f).1, (ur f).2.1, (ur f).2.2.1, upd (ur f).2.2.2.1 a.toNat x, (ur f).2.2.2.2) := by
  have e1 := zi_cn (x := i) (by omega)
  have e2 : i.toNatClampNeg = 1608 + a.toNat := by omega
  rw [e2]
  have h2 : tr8 (fun b => upd f (1608 + a.toNat) x (1608 + b)) = upd (tr8 (fun b => f (1608 + b))) a.toNat x := by
    funext b
    by_cases h8 : b < 8
    · by_cases h9 : b = a.toNat
      · rw [tr8_at h8, h9, pk_us, pk_us]
      · rw [tr8_at h8, pk_un h9, tr8_at h8, pk_un (by omega)]
    · rw [pk_un (by omega)]
      exact (if_neg h8).trans (if_neg h8).symm
  have h3 : (fun b => upd f (1608 + a.toNat) x (1616 + b)) = fun b => f (1616 + b) := by funext b; exact pk_un (by omega)
  unfold ur
  rw [pk_un (show 1597 ≠ 1608 + a.toNat by omega), pk_un (show 1599 ≠ 1608 + a.toNat by omega), pk_un (show 1598 ≠ 1608 + a.toNat by omega), h2, h3]
theorem ur_at {f : Nat → Int32} {i : Int32} {a : Int} (h0 : 0 ≤ a ∧ a < 8) (e : i.toInt = 1608 + a) : (ur f).2.2.2.1 a.toNat = f i.toNatClampNeg := by
  have e1 := zi_cn (x := i) (by omega)
  have e2 : i.toNatClampNeg = 1608 + a.toNat := by omega
  rw [e2]
  exact tr8_at (f := fun b => f (1608 + b)) (by omega)
theorem ur_V3 {f : Nat → Int32} {v0 : Int} (h : SI f v0) {i j n x y : Int32} {v : Int} (hv : 0 ≤ v ∧ v < 8) (ei : i.toInt = 1600 + v) (ej : j.toInt = 1619 + v) (hn : n.toInt = (ur f).1 + 1) : ur (upd (upd (upd f i.toNatClampNeg x) j.toNatClampNeg y) (1597 : Int32).toNatClampNeg n) = ((ur f).1 + 1, (ur f).2) := by
  have e1 := zi_cn (x := i) (by omega)
  rw [ur_v, ur_ne (by rw [pk_un (by omega)]; exact ur_w3 h) (by omega) (by omega), ur_ne (ur_w3 h) (by omega) (by omega), hn]
theorem ur_R3 {f : Nat → Int32} {v0 : Int} (h : SI f v0) {i j n x y p q b a : Int32} (ha : 0 ≤ a.toInt ∧ a.toInt < 8) (hb : 0 ≤ b.toInt ∧ b.toInt < 8) (ei : i.toInt = 1608 + a.toInt) (ej : j.toInt = 1608 + b.toInt) (h1 : p = (1 : Int32) <<< (b &&& 31)) (h2 : x = f i.toNatClampNeg ||| p) (h3 : q = (1 : Int32) <<< (a &&& 31)) (h4 : y = upd f i.toNatClampNeg x j.toNatClampNeg ||| q) (hn : n.toInt = (ur f).2.1 + 1) : ur (upd (upd (upd f i.toNatClampNeg x) j.toNatClampNeg y) (1599 : Int32).toNatClampNeg n) = ((ur f).1, (ur f).2.1 + 1, (ur f).2.2.1, tor (tor (ur f).2.2.2.1 a.toInt b.toInt) b.toInt a.toInt, (ur f).2.2.2.2) := by
  have e1 := zi_cn (x := i) (by omega)
  have hw := ur_w3 h
  have u1 := ur_l (f := f) (i := i) (x := x) hw ha ei
  have u2 := ur_l (f := upd f i.toNatClampNeg x) (i := j) (x := y) (by rw [pk_un (by omega)]; exact hw) hb ej
  have r1 := ur_at (f := f) ha ei
  have r2 := ur_at (f := upd f i.toNatClampNeg x) hb ej
  have t1 : tor (ur f).2.2.2.1 a.toInt b.toInt = upd (ur f).2.2.2.1 a.toInt.toNat x := by
    unfold tor
    rw [r1, Int32.ofInt_toInt, ← h1, ← h2]
  have t2 : tor (upd (ur f).2.2.2.1 a.toInt.toNat x) b.toInt a.toInt = upd (upd (ur f).2.2.2.1 a.toInt.toNat x) b.toInt.toNat y := by
    rw [u1] at r2
    unfold tor
    rw [Int32.ofInt_toInt, ← h3, show upd (ur f).2.2.2.1 a.toInt.toNat x b.toInt.toNat = _ from r2, ← h4]
  rw [ur_o, u2, u1, hn, t1, t2]
theorem ur_W4 {f : Nat → Int32} {v0 : Int} (h : SI f v0) {i j k n s x y : Int32} (hw : 0 ≤ (ur f).2.2.1 ∧ (ur f).2.2.1 < 3) (ei : i.toInt = 1616 + (ur f).2.2.1) (ej : j.toInt = 1644 + (ur f).2.2.1) (ek : k.toInt = 1647 + (ur f).2.2.1) (hn : n.toInt = (ur f).2.2.1 + 1) : ur (upd (upd (upd (upd f i.toNatClampNeg s) j.toNatClampNeg x) k.toNatClampNeg y) (1598 : Int32).toNatClampNeg n) = ((ur f).1, (ur f).2.1, (ur f).2.2.1 + 1, (ur f).2.2.2.1, upd (ur f).2.2.2.2 (ur f).2.2.1.toNat s) := by
  have w0 : (f 1598).toInt = (ur f).2.2.1 := rfl
  have e1 := zi_cn (x := i) (by omega)
  have e2 := zi_cn (x := j) (by omega)
  have e3 := zi_cn (x := k) (by omega)
  rw [show (1598 : Int32).toNatClampNeg = 1598 from by decide]
  have hg : ∀ q : Nat, q ≠ 1598 → q ≠ i.toNatClampNeg → q ≠ j.toNatClampNeg → q ≠ k.toNatClampNeg → upd (upd (upd (upd f i.toNatClampNeg s) j.toNatClampNeg x) k.toNatClampNeg y) 1598 n q = f q := fun q h1 h2 h3 h4 => by rw [pk_un h1, pk_un h4, pk_un h3, pk_un h2]
  have hs : upd (upd (upd (upd f i.toNatClampNeg s) j.toNatClampNeg x) k.toNatClampNeg y) 1598 n i.toNatClampNeg = s := by rw [pk_un (by omega), pk_un (by omega), pk_un (by omega), pk_us]
  have h2 : tr8 (fun b => upd (upd (upd (upd f i.toNatClampNeg s) j.toNatClampNeg x) k.toNatClampNeg y) 1598 n (1608 + b)) = tr8 (fun b => f (1608 + b)) := by
    funext b
    by_cases h8 : b < 8
    · rw [tr8_at h8, tr8_at h8]; exact hg _ (by omega) (by omega) (by omega) (by omega)
    · exact (if_neg h8).trans (if_neg h8).symm
  have h3 : trk ((ur f).2.2.1 + 1) (fun b => upd (upd (upd (upd f i.toNatClampNeg s) j.toNatClampNeg x) k.toNatClampNeg y) 1598 n (1616 + b)) = upd (trk (ur f).2.2.1 (fun b => f (1616 + b))) (ur f).2.2.1.toNat s := by
    funext b
    by_cases h8 : (b : Int) < (ur f).2.2.1
    · refine (trk_at (show (b : Int) < (ur f).2.2.1 + 1 by omega)).trans ((hg (1616 + b) (by omega) (by omega) (by omega) (by omega)).trans ?_)
      exact ((pk_un (show b ≠ (ur f).2.2.1.toNat by omega)).trans (trk_at (f := fun b => f (1616 + b)) h8)).symm
    · by_cases h9 : (b : Int) = (ur f).2.2.1
      · rw [trk_at (show (b : Int) < (ur f).2.2.1 + 1 by omega), show b = (ur f).2.2.1.toNat by omega, pk_us, show 1616 + (ur f).2.2.1.toNat = i.toNatClampNeg by omega]; exact hs
      · rw [pk_un (by omega)]
        exact (if_neg (by omega)).trans (if_neg h8).symm
  show ((upd (upd (upd (upd f i.toNatClampNeg s) j.toNatClampNeg x) k.toNatClampNeg y) 1598 n 1597).toInt, (upd (upd (upd (upd f i.toNatClampNeg s) j.toNatClampNeg x) k.toNatClampNeg y) 1598 n 1599).toInt, (upd (upd (upd (upd f i.toNatClampNeg s) j.toNatClampNeg x) k.toNatClampNeg y) 1598 n 1598).toInt, tr8 (fun b => upd (upd (upd (upd f i.toNatClampNeg s) j.toNatClampNeg x) k.toNatClampNeg y) 1598 n (1608 + b)), trk (upd (upd (upd (upd f i.toNatClampNeg s) j.toNatClampNeg x) k.toNatClampNeg y) 1598 n 1598).toInt (fun b => upd (upd (upd (upd f i.toNatClampNeg s) j.toNatClampNeg x) k.toNatClampNeg y) 1598 n (1616 + b))) = _
  rw [pk_us, hn, h2, h3, hg 1597 (by decide) (by omega) (by omega) (by omega), hg 1599 (by decide) (by omega) (by omega) (by omega)]
  rfl
theorem zi_a1 {a b : Int32} (h : b = a &&& 1) : b.toInt = 0 ∨ b.toInt = 1 := by
  obtain ⟨j, hj, e⟩ := pk_andE a (m := 1) 1 (by decide)
  rw [h, show a &&& (1 : Int32) = nI j from e, nI_toInt (by omega)]
  omega
theorem tpV_okr {B : Int → Int} {t : TPS} {f a b d : Int} {u u' : TPU} (hT : (f, a, b, d) = tpVt B t u.1) (h : f = 0) (hu : u' = (u.1 + 1, u.2)) : (((f, a, b, d), u') : TPT) = tpV B (t, u) := by
  show _ = (tpVt B t u.1, if (tpVt B t u.1).1 = 0 then (u.1 + 1, u.2) else u)
  rw [← hT, if_pos h, hu]
theorem tpR_okr {B : Int → Int} {t : TPS} {f a b d : Int} {u u' : TPU} (hT : (f, a, b, d) = tpRx B t u.1 u.2.1 u.2.2.2.1) (h : f = 0) (hu : u' = (u.1, u.2.1 + 1, u.2.2.1, tor (tor u.2.2.2.1 (tpRa B t u.1 u.2.1) (tpRb B t u.1 u.2.1)) (tpRb B t u.1 u.2.1) (tpRa B t u.1 u.2.1), u.2.2.2.2)) : (((f, a, b, d), u') : TPT) = tpR B (t, u) := by
  show _ = (tpRx B t u.1 u.2.1 u.2.2.2.1, if (tpRx B t u.1 u.2.1 u.2.2.2.1).1 = 0 then (u.1, u.2.1 + 1, u.2.2.1, tor (tor u.2.2.2.1 (tpRa B t u.1 u.2.1) (tpRb B t u.1 u.2.1)) (tpRb B t u.1 u.2.1) (tpRa B t u.1 u.2.1), u.2.2.2.2) else u)
  rw [← hT, if_pos h, hu]
theorem tpW_okr {B : Int → Int} {t : TPS} {f a b d : Int} {u u' : TPU} (hT : (f, a, b, d) = tpWt B t u.1 u.2.2.1) (h : f = 0) (hu : u' = (u.1, u.2.1, u.2.2.1 + 1, u.2.2.2.1, upd u.2.2.2.2 u.2.2.1.toNat (Int32.ofInt (tpo (B t.2.2.2))))) : (((f, a, b, d), u') : TPT) = tpW B (t, u) := by
  show _ = (tpWt B t u.1 u.2.2.1, if (tpWt B t u.1 u.2.2.1).1 = 0 then (u.1, u.2.1, u.2.2.1 + 1, u.2.2.2.1, upd u.2.2.2.2 u.2.2.1.toNat (Int32.ofInt (tpo (B t.2.2.2)))) else u)
  rw [← hT, if_pos h, hu]
theorem tpRx_s0 {B : Int → Int} {a b d v r x y : Int} {g : Nat → Int32} (hr : ¬ r < 12) (hx : x = 3) (hy : y = d) : tfa (tpRx B (0, a, b, d) v r g) x y := by
  unfold tpRx tpRt
  rw [if_neg hr]
  exact tfa_S (tfa_J (tfa_N (tfa_S (tfa_N (tL_r hx hy)))))
theorem tpRx_s1 {B : Int → Int} {t t1 : TPS} {v r x y : Int} {g : Nat → Int32} (hr : r < 12) (h1 : t1 = tL 1 t) (h2 : tfa (tN B 0 (v - 1) t1) x y) : tfa (tpRx B t v r g) x y := by
  subst h1
  unfold tpRx tpRt
  rw [if_pos hr]
  exact tfa_S (tfa_J (tfa_N (tfa_S h2)))
theorem tpRx_s2 {B : Int → Int} {t t1 t2 : TPS} {v r x y : Int} {g : Nat → Int32} (hr : r < 12) (h1 : t1 = tL 1 t) (h2 : t2 = tN B 0 (v - 1) t1) (h3 : tfa (tS B 44 t2) x y) : tfa (tpRx B t v r g) x y := by
  subst h2 h1
  unfold tpRx tpRt
  rw [if_pos hr]
  exact tfa_S (tfa_J (tfa_N h3))
theorem tpRx_s3 {B : Int → Int} {t t1 t2 t3 : TPS} {v r x y : Int} {g : Nat → Int32} (hr : r < 12) (h1 : t1 = tL 1 t) (h2 : t2 = tN B 0 (v - 1) t1) (h3 : t3 = tS B 44 t2) (h4 : tfa (tN B 0 (v - 1) t3) x y) : tfa (tpRx B t v r g) x y := by
  subst h3 h2 h1
  unfold tpRx tpRt
  rw [if_pos hr]
  exact tfa_S (tfa_J h4)
theorem tpRx_s4 {B : Int → Int} {t t1 t2 t3 : TPS} {v r x y a b e1 e2 e3 k : Int} {g : Nat → Int32} (hr : r < 12) (h1 : t1 = tL 1 t) (h2 : t2 = tN B 0 (v - 1) t1) (ha : a = tV B 0 (v - 1) t1) (h3 : t3 = tS B 44 t2) (h4 : (0, e1, e2, e3) = tN B 0 (v - 1) t3) (hb : b = tV B 0 (v - 1) t3) (hj : ¬ tjn g a b) (hk : t3.2.2.2 = k) (hx : x = 2) (hy : y = k) : tfa (tpRx B t v r g) x y := by
  subst h3 h2 h1 ha hb
  have e : tpRx B t v r g = tS B 59 (tpJ g (tV B 0 (v - 1) (tL 1 t)) (tV B 0 (v - 1) (tS B 44 (tN B 0 (v - 1) (tL 1 t)))) (tS B 44 (tN B 0 (v - 1) (tL 1 t))).2.2.2 (tN B 0 (v - 1) (tS B 44 (tN B 0 (v - 1) (tL 1 t))))) := by
    unfold tpRx tpRa tpRb tpRt
    rw [if_pos hr]
  rw [e, tpJ_n hj, ← h4]
  exact tfa_S (tF_r hx (hy.trans hk.symm))
theorem tpRx_s5 {B : Int → Int} {t t1 t2 t3 t4 : TPS} {v r x y a b : Int} {g : Nat → Int32} (hr : r < 12) (h1 : t1 = tL 1 t) (h2 : t2 = tN B 0 (v - 1) t1) (ha : a = tV B 0 (v - 1) t1) (h3 : t3 = tS B 44 t2) (h4 : t4 = tN B 0 (v - 1) t3) (hb : b = tV B 0 (v - 1) t3) (hj : tjn g a b) (h6 : tfa (tS B 59 t4) x y) : tfa (tpRx B t v r g) x y := by
  subst h4 h3 h2 h1 ha hb
  have e : tpRx B t v r g = tS B 59 (tpJ g (tV B 0 (v - 1) (tL 1 t)) (tV B 0 (v - 1) (tS B 44 (tN B 0 (v - 1) (tL 1 t)))) (tS B 44 (tN B 0 (v - 1) (tL 1 t))).2.2.2 (tN B 0 (v - 1) (tS B 44 (tN B 0 (v - 1) (tL 1 t))))) := by
    unfold tpRx tpRa tpRb tpRt
    rw [if_pos hr]
  rw [e, tpJ_y hj]
  exact h6
/-! places go on -/
theorem tS_pl {B : Int → Int} {k : Int} {t : TPS} (h : (tS B k t).1 = 0) : t.1 = 0 ∧ (tS B k t).2.2.2 = t.2.2.2 + 1 := by
  by_cases c : t.1 = 0 ∧ B t.2.2.2 = k
  · exact ⟨c.1, by unfold tS; rw [if_pos c]⟩
  · unfold tS at h
    rw [if_neg c] at h
    exact absurd h tF_f
theorem tN_pl {B : Int → Int} {a b : Int} {t : TPS} (h : (tN B a b t).1 = 0) : t.1 = 0 ∧ t.2.2.2 ≤ (tN B a b t).2.2.2 := by
  have h9 := tpn_c B t.2.2.2
  by_cases c : t.1 = 0 ∧ tpk B a b t.2.2.2 = 0
  · refine ⟨c.1, ?_⟩
    unfold tN
    rw [if_pos c]
    show t.2.2.2 ≤ t.2.2.2 + tpn B t.2.2.2
    omega
  · unfold tN at h
    rw [if_neg c] at h
    exact absurd h tF_f
theorem tL_pl {r : Int} {t : TPS} (h : (tL r t).1 = 0) : t.1 = 0 ∧ (tL r t).2.2.2 = t.2.2.2 + 1 := by
  by_cases c : r = 0
  · unfold tL at h
    rw [if_pos c] at h
    exact absurd h tF_f
  · unfold tL at h ⊢
    rw [if_neg c] at h ⊢
    exact ⟨h, rfl⟩
theorem tpJ_pl {f : Nat → Int32} {a b k : Int} {t : TPS} (h : (tpJ f a b k t).1 = 0) : t.1 = 0 ∧ (tpJ f a b k t).2.2.2 = t.2.2.2 := by
  by_cases c : tjn f a b
  · rw [tpJ_y c] at h ⊢
    exact ⟨h, rfl⟩
  · rw [tpJ_n c] at h
    exact absurd h tF_f
theorem tpVt_pl {B : Int → Int} {t : TPS} {v : Int} (h : (tpVt B t v).1 = 0) : t.2.2.2 < (tpVt B t v).2.2.2 := by
  unfold tpVt at h ⊢
  obtain ⟨h1, e1⟩ := tS_pl h
  obtain ⟨h2, e2⟩ := tN_pl h1
  obtain ⟨h3, e3⟩ := tS_pl h2
  obtain ⟨h4, e4⟩ := tN_pl h3
  obtain ⟨h5, e5⟩ := tL_pl h4
  omega
theorem tpRx_pl {B : Int → Int} {t : TPS} {v r : Int} {g : Nat → Int32} (h : (tpRx B t v r g).1 = 0) : t.2.2.2 < (tpRx B t v r g).2.2.2 := by
  unfold tpRx at h ⊢
  obtain ⟨h1, e1⟩ := tS_pl h
  obtain ⟨h2, e2⟩ := tpJ_pl h1
  obtain ⟨h3, e3⟩ := tN_pl h2
  have h3' := h3
  unfold tpRt at h3'
  obtain ⟨h4, e4⟩ := tS_pl h3'
  obtain ⟨h5, e5⟩ := tN_pl h4
  obtain ⟨h6, e6⟩ := tL_pl h5
  have e7 : (tpRt B t v r).2.2.2 = (tN B 0 (v - 1) (tL (if r < 12 then 1 else 0) t)).2.2.2 + 1 := e4
  omega
theorem tpWt_pl {B : Int → Int} {t : TPS} {v w : Int} (h : (tpWt B t v w).1 = 0) : t.2.2.2 < (tpWt B t v w).2.2.2 := by
  unfold tpWt at h ⊢
  obtain ⟨h1, e1⟩ := tS_pl h
  obtain ⟨h2, e2⟩ := tN_pl h1
  obtain ⟨h3, e3⟩ := tL_pl h2
  omega
def mz (L : Int) (s : TPT) : Nat := (L - s.1.2.2.2).toNat
theorem bV_0 {B : Int → Int} {s : TPT} (h : ¬ s.1.1 = 0) : bV B s = false := decide_eq_false (fun z => h z.1)
theorem bR_0 {B : Int → Int} {s : TPT} (h : ¬ s.1.1 = 0) : bR B s = false := decide_eq_false (fun z => h z.1)
theorem bW_0 {B : Int → Int} {s : TPT} (h : ¬ s.1.1 = 0) : bW B s = false := decide_eq_false (fun z => h z.1)
theorem bV_m {B : Int → Int} {L : Int} (hB : ∀ p, L ≤ p → B p = (-1)) (s : TPT) (h : bV B s = true) : 0 < mz L s := by
  have h1 := of_decide_eq_true h
  have h2 := hB s.1.2.2.2
  unfold mz
  by_cases c : L ≤ s.1.2.2.2
  · have := h2 c; omega
  · omega
theorem bR_m {B : Int → Int} {L : Int} (hB : ∀ p, L ≤ p → B p = (-1)) (s : TPT) (h : bR B s = true) : 0 < mz L s := by
  have h1 := of_decide_eq_true h
  have h2 := hB s.1.2.2.2
  unfold mz
  by_cases c : L ≤ s.1.2.2.2
  · have := h2 c; omega
  · omega
theorem bW_m {B : Int → Int} {L : Int} (hB : ∀ p, L ≤ p → B p = (-1)) (s : TPT) (h : bW B s = true) : 0 < mz L s := by
  have h1 := of_decide_eq_true h
  have h2 := hB s.1.2.2.2
  have h3 := tpo_c (B s.1.2.2.2)
  unfold mz
  by_cases c : L ≤ s.1.2.2.2
  · have := h2 c; omega
  · omega
theorem tpV_m {B : Int → Int} {L : Int} (hB : ∀ p, L ≤ p → B p = (-1)) (s : TPT) (h : bV B s = true) : bV B (tpV B s) = false ∨ mz L (tpV B s) < mz L s := by
  by_cases c : (tpVt B s.1 s.2.1).1 = 0
  · have h1 := bV_m hB s h
    have h2 := tpVt_pl c
    have e : (tpV B s).1 = tpVt B s.1 s.2.1 := rfl
    refine Or.inr ?_
    unfold mz at h1 ⊢
    rw [e]
    omega
  · exact Or.inl (bV_0 c)
theorem tpR_m {B : Int → Int} {L : Int} (hB : ∀ p, L ≤ p → B p = (-1)) (s : TPT) (h : bR B s = true) : bR B (tpR B s) = false ∨ mz L (tpR B s) < mz L s := by
  by_cases c : (tpRx B s.1 s.2.1 s.2.2.1 s.2.2.2.2.1).1 = 0
  · have h1 := bR_m hB s h
    have h2 := tpRx_pl c
    have e : (tpR B s).1 = tpRx B s.1 s.2.1 s.2.2.1 s.2.2.2.2.1 := rfl
    refine Or.inr ?_
    unfold mz at h1 ⊢
    rw [e]
    omega
  · exact Or.inl (bR_0 c)
theorem tpW_m {B : Int → Int} {L : Int} (hB : ∀ p, L ≤ p → B p = (-1)) (s : TPT) (h : bW B s = true) : bW B (tpW B s) = false ∨ mz L (tpW B s) < mz L s := by
  by_cases c : (tpWt B s.1 s.2.1 s.2.2.2.1).1 = 0
  · have h1 := bW_m hB s h
    have h2 := tpWt_pl c
    have e : (tpW B s).1 = tpWt B s.1 s.2.1 s.2.2.2.1 := rfl
    refine Or.inr ?_
    unfold mz at h1 ⊢
    rw [e]
    omega
  · exact Or.inl (bW_0 c)
theorem tpC_f {B : Int → Int} {s : TPT} (h : ¬ s.1.1 = 0) : tpC B s = s := by
  by_cases c : s.2.1 = 0 ∧ bV B s = false
  · unfold tpC
    rw [if_pos c, tF_s h]
  · unfold tpC
    rw [if_neg c]
theorem tpE_f {L : Int} {s : TPT} (h : ¬ s.1.1 = 0) : tpE L s = s := by
  by_cases c : s.1.2.2.2 < L
  · unfold tpE
    rw [if_pos c, tF_s h]
  · unfold tpE
    rw [if_neg c]
theorem tp2_f {B : Int → Int} {L : Int} {s : TPT} (h : ¬ s.1.1 = 0) : tp2 B L s = s := by
  unfold tp2
  rw [tlp_n (bW_0 h), tpE_f h]
theorem tp1_f {B : Int → Int} {L : Int} {s : TPT} (h : ¬ s.1.1 = 0) : tp1 B L s = s := by
  unfold tp1
  rw [tlp_n (bR_0 h), tp2_f h]
theorem tp0_f {B : Int → Int} {L : Int} {s : TPT} (h : ¬ s.1.1 = 0) : tp0 B L s = s := by
  unfold tp0
  rw [tpC_f h, tlp_n (bV_0 h), tp1_f h]
theorem tp0_V {B : Int → Int} {L : Int} {s : TPT} (hB : ∀ p, L ≤ p → B p = (-1)) (hL : L ≤ 120) (hp : 0 ≤ s.1.2.2.2) (h0 : 0 ≤ s.2.1) (h : bV B s = true) : tp0 B L s = tp0 B L (tpV B s) := by
  have e : tpC B (tpV B s) = tpV B s := by
    by_cases c : (tpVt B s.1 s.2.1).1 = 0
    · refine tpC_v ?_
      have e1 : (tpV B s).2 = (s.2.1 + 1, s.2.2) := if_pos c
      rw [e1]
      show ¬ s.2.1 + 1 = 0
      omega
    · exact tpC_f c
  unfold tp0
  rw [tpC_b h, e, tlp_step (mz L) (bV_m hB) (tpV_m hB) h (by unfold mz; omega)]
theorem tp0_1 {B : Int → Int} {L : Int} {s : TPT} (h : bV B s = false) (hv : ¬ s.2.1 = 0) : tp0 B L s = tp1 B L s := by
  unfold tp0
  rw [tpC_v hv, tlp_n h]
theorem tp1_R {B : Int → Int} {L : Int} {s : TPT} (hB : ∀ p, L ≤ p → B p = (-1)) (hL : L ≤ 120) (hp : 0 ≤ s.1.2.2.2) (h : bR B s = true) : tp1 B L s = tp1 B L (tpR B s) := by
  unfold tp1
  rw [tlp_step (mz L) (bR_m hB) (tpR_m hB) h (by unfold mz; omega)]
theorem tp1_2 {B : Int → Int} {L : Int} {s : TPT} (h : bR B s = false) : tp1 B L s = tp2 B L s := by
  unfold tp1
  rw [tlp_n h]
theorem tp2_W {B : Int → Int} {L : Int} {s : TPT} (hB : ∀ p, L ≤ p → B p = (-1)) (hL : L ≤ 120) (hp : 0 ≤ s.1.2.2.2) (h : bW B s = true) : tp2 B L s = tp2 B L (tpW B s) := by
  unfold tp2
  rw [tlp_step (mz L) (bW_m hB) (tpW_m hB) h (by unfold mz; omega)]
theorem tp2_E {B : Int → Int} {L : Int} {s : TPT} (h : bW B s = false) : tp2 B L s = tpE L s := by
  unfold tp2
  rw [tlp_n h]
/-- what is left of a text, by the part that it has come to -/
def tpq (B : Int → Int) (L p : Int) (s : TPT) : TPT := if p = 0 then tp0 B L s else if p = 1 then tp1 B L s else tp2 B L s
theorem tpq_0 {B : Int → Int} {L p : Int} {s : TPT} (h : p = 0) : tpq B L p s = tp0 B L s := if_pos h
theorem tpq_1 {B : Int → Int} {L p : Int} {s : TPT} (h : p = 1) : tpq B L p s = tp1 B L s := by
  unfold tpq
  rw [if_neg (by omega), if_pos h]
theorem tpq_2 {B : Int → Int} {L p : Int} {s : TPT} (h : p = 2) : tpq B L p s = tp2 B L s := by
  unfold tpq
  rw [if_neg (by omega), if_neg (by omega)]
theorem tpq_f {B : Int → Int} {L p x y : Int} {s : TPT} (h : tfa s.1 x y) : tfa (tpq B L p s).1 x y := by
  have h1 : ¬ s.1.1 = 0 := by
    obtain ⟨d, e⟩ := h
    rw [e]; exact Int.one_ne_zero
  unfold tpq
  rw [tp0_f h1, tp1_f h1, tp2_f h1]
  by_cases c : p = 0
  · rw [if_pos c]; exact h
  · rw [if_neg c]
    by_cases c2 : p = 1
    · rw [if_pos c2]; exact h
    · rw [if_neg c2]; exact h
theorem tpq_V {B : Int → Int} {L p a b d : Int} {u : TPU} (hB : ∀ p, L ≤ p → B p = (-1)) (hL : L ≤ 120) (hd : 0 ≤ d) (hu : 0 ≤ u.1) (hp : p = 0) (h : B d = 103 ∨ B d = 99) : tpq B L p ((0, a, b, d), u) = tpq B L 0 (tpV B ((0, a, b, d), u)) := by
  rw [tpq_0 hp, tpq_0 rfl]
  exact tp0_V hB hL hd hu (bV_t ⟨rfl, h⟩)
theorem tpq_R {B : Int → Int} {L p a b d : Int} {u : TPU} (hB : ∀ p, L ≤ p → B p = (-1)) (hL : L ≤ 120) (hd : 0 ≤ d) (hu : 0 < u.1) (hp : p = 0 ∨ p = 1) (h : B d = 114) : tpq B L p ((0, a, b, d), u) = tpq B L 1 (tpR B ((0, a, b, d), u)) := by
  rw [tpq_1 rfl, ← tp1_R hB hL hd (bR_t ⟨rfl, h⟩)]
  rcases hp with hp | hp
  · rw [tpq_0 hp]
    exact tp0_1 (bV_f (by omega)) (fun z => by rw [show u.1 = 0 from z] at hu; exact absurd hu (by decide))
  · rw [tpq_1 hp]
theorem tpq_W {B : Int → Int} {L p a b d : Int} {u : TPU} (hB : ∀ p, L ≤ p → B p = (-1)) (hL : L ≤ 120) (hd : 0 ≤ d) (hu : 0 < u.1) (hp : p = 0 ∨ p = 1 ∨ p = 2) (h : ¬ tpo (B d) = 0) : tpq B L p ((0, a, b, d), u) = tpq B L 2 (tpW B ((0, a, b, d), u)) := by
  have h9 := tpo_c (B d)
  rw [tpq_2 rfl, ← tp2_W hB hL hd (bW_t ⟨rfl, h⟩)]
  have e1 : tp1 B L ((0, a, b, d), u) = tp2 B L ((0, a, b, d), u) := tp1_2 (bR_f (by omega))
  have e0 : tp0 B L ((0, a, b, d), u) = tp1 B L ((0, a, b, d), u) := tp0_1 (bV_f (by omega)) (fun z => by rw [show u.1 = 0 from z] at hu; exact absurd hu (by decide))
  rcases hp with hp | hp | hp
  · rw [tpq_0 hp, e0, e1]
  · rw [tpq_1 hp, e1]
  · rw [tpq_2 hp]
theorem tpq_x {B : Int → Int} {L p a b d x y : Int} {u : TPU} (hp : p = 0 ∨ p = 1 ∨ p = 2) (h1 : ¬ (p = 0 ∧ (B d = 103 ∨ B d = 99))) (h2 : ¬ (B d = 114 ∧ p < 2 ∧ 0 < u.1)) (h3 : ¬ (¬ tpo (B d) = 0 ∧ 0 < u.1)) (hl : d < L ∨ u.1 = 0) (hu : 0 ≤ u.1) (hpu : p = 0 ∨ 1 ≤ u.1) (hx : x = 1) (hy : y = d) : tfa (tpq B L p ((0, a, b, d), u)).1 x y := by
  have e9 : tF 1 d (0, a, b, d) = (1, 1, d, d) := tF_n rfl
  by_cases hv : u.1 = 0
  · have hp0 : p = 0 := by omega
    have e : tpC B ((0, a, b, d), u) = ((1, 1, d, d), u) := (tpC_n (bV_f (by omega)) hv e9.symm).symm
    rw [tpq_0 hp0]
    unfold tp0
    rw [e, tlp_n (bV_0 Int.one_ne_zero), tp1_f Int.one_ne_zero, hx, hy]
    exact ⟨d, rfl⟩
  · have hd : d < L := by omega
    have e2 : tp2 B L ((0, a, b, d), u) = ((1, 1, d, d), u) := by
      rw [tp2_E (bW_f (by omega))]
      exact (tpE_y hd e9.symm).symm
    rcases hp with hp | hp | hp
    · rw [tpq_0 hp, tp0_1 (bV_f (by omega)) hv, tp1_2 (bR_f (by omega)), e2, hx, hy]
      exact ⟨d, rfl⟩
    · rw [tpq_1 hp, tp1_2 (bR_f (by omega)), e2, hx, hy]
      exact ⟨d, rfl⟩
    · rw [tpq_2 hp, e2, hx, hy]
      exact ⟨d, rfl⟩
theorem tpq_e {B : Int → Int} {L p a b d : Int} {u : TPU} (hB : ∀ p, L ≤ p → B p = (-1)) (hp : p = 0 ∨ p = 1 ∨ p = 2) (hd : ¬ d < L) (hv : ¬ u.1 = 0) : tpq B L p ((0, a, b, d), u) = ((0, a, b, d), u) := by
  have hb := hB d (by omega)
  have h9 := tpo_c (B d)
  have e2 : tp2 B L ((0, a, b, d), u) = ((0, a, b, d), u) := by
    rw [tp2_E (bW_f (by omega))]
    exact (tpE_n hd).symm
  have e1 : tp1 B L ((0, a, b, d), u) = ((0, a, b, d), u) := (tp1_2 (bR_f (by omega))).trans e2
  rcases hp with hp | hp | hp
  · rw [tpq_0 hp, tp0_1 (bV_f (by omega)) hv, e1]
  · rw [tpq_1 hp, e1]
  · rw [tpq_2 hp, e2]
theorem ur_zero {f : Nat → Int32} (h : ∀ q : Nat, q < 57 → f (1596 + q) = 0) : ur f = (0, 0, 0, (fun _ => 0), (fun _ => 0)) := by
  have h1 : f 1597 = 0 := h 1 (by decide)
  have h2 : f 1598 = 0 := h 2 (by decide)
  have h3 : f 1599 = 0 := h 3 (by decide)
  have h4 : tr8 (fun a => f (1608 + a)) = fun _ => 0 := by
    funext a
    by_cases h8 : a < 8
    · rw [tr8_at h8, show 1608 + a = 1596 + (12 + a) by omega]; exact h _ (by omega)
    · exact if_neg h8
  unfold ur
  rw [h1, h2, h3, h4, trk_0 (show (0 : Int32).toInt = 0 by decide)]
  rfl
theorem tpW_okr2 {B : Int → Int} {f a b d g x y p : Int} {s : Int32} {u u' : TPU} (hT : (f, a, b, d) = tpWt B (g, x, y, p) u.1 u.2.2.1) (h : f = 0) (hs : s = Int32.ofInt (tpo (B p))) (hu : u' = (u.1, u.2.1, u.2.2.1 + 1, u.2.2.2.1, upd u.2.2.2.2 u.2.2.1.toNat s)) : (((f, a, b, d), u') : TPT) = tpW B ((g, x, y, p), u) := by
  subst hs
  exact tpW_okr hT h hu
theorem tpA_f {B : Int → Int} {L x y p q : Int} (h : tfa (tpLaw B (0, x, y, 0)) p q) : tfa (tpA B L x y).1 p q := by
  unfold tpA
  rw [← tpq_0 (p := 0) rfl]
  exact tpq_f h
theorem tpA_in {B : Int → Int} {L x y p : Int} {t : TPS} {u : TPU} (hT : t = tpLaw B (0, x, y, 0)) (hu : u = (0, 0, 0, (fun _ => 0), (fun _ => 0))) (hp : p = 0) : tpq B L p (t, u) = tpA B L x y := by
  rw [tpq_0 hp, hT, hu]
  rfl
theorem tpq_back {B : Int → Int} {L p p' k : Int} {s s' s2 R : TPT} (q : tpq B L p s = R) (e : tpq B L p s = tpq B L k s2) (hs : s' = s2) (hp : p' = k) : tpq B L p' s' = R := by rw [hp, hs, ← e]; exact q
theorem tfa_1 {t : TPS} {x y : Int} (h : tfa t x y) : t.1 = 1 ∧ t.2.1 = x ∧ t.2.2.1 = y := by
  obtain ⟨d, e⟩ := h
  rw [e]
  exact ⟨rfl, rfl, rfl⟩
theorem zfm {f g : Nat → Int32} {t i x : Int32} {u a : Int} (h : ∀ q : Nat, (q : Int) < t.toInt → g q = f (57 * a.toNat + q)) (h0 : 0 ≤ t.toInt) (ei : i.toInt = t.toInt) (hx : x = f (57 * a.toNat + t.toInt.toNat)) {q : Nat} (hq : (q : Int) < u) (hu : u = t.toInt + 1) : upd g i.toNatClampNeg x q = f (57 * a.toNat + q) := by
  have e := zi_cn (x := i) (by omega)
  by_cases c : q = i.toNatClampNeg
  · rw [c, pk_us, hx, show t.toInt.toNat = i.toNatClampNeg by omega]
  · rw [pk_un c]; exact h q (by omega)
theorem tpq_fb {B : Int → Int} {L p k x y : Int} {s s2 R : TPT} (q : tpq B L p s = R) (e : tpq B L p s = tpq B L k s2) (h : tfa s2.1 x y) : tfa R.1 x y := by rw [← q, e]; exact tpq_f h
theorem zfz {g : Nat → Int32} {t i : Int32} {u : Int} (h : ∀ q : Nat, (q : Int) < t.toInt → g (1596 + q) = 0) (h0 : 0 ≤ t.toInt) (ei : i.toInt = 1596 + t.toInt) {q : Nat} (hq : (q : Int) < u) (hu : u = t.toInt + 1) : upd g i.toNatClampNeg 0 (1596 + q) = 0 := by
  have e := zi_cn (x := i) (by omega)
  by_cases c : 1596 + q = i.toNatClampNeg
  · rw [c, pk_us]
  · rw [pk_un c]; exact h q (by omega)
theorem zfm2 {f g : Nat → Int32} {i : Int32} {a t : Int} (h : ∀ q : Nat, 57 ≤ q → g q = f q) (h1 : 1 ≤ a) (h2 : 0 ≤ t) (e : i.toInt = 57 * a + t) : g i.toNatClampNeg = f (57 * a.toNat + t.toNat) := by
  have e1 := zi_cn (x := i) (by omega)
  rw [h _ (by omega), show i.toNatClampNeg = 57 * a.toNat + t.toNat by omega]
theorem zfm3 {f g : Nat → Int32} {i x : Int32} (h : ∀ q : Nat, 57 ≤ q → g q = f q) (h0 : 0 ≤ i.toInt) (h1 : i.toInt < 57) : ∀ q : Nat, 57 ≤ q → upd g i.toNatClampNeg x q = f q := by
  intro q hq
  have e1 := zi_cn h0
  rw [pk_un (by omega)]
  exact h q hq
/-! figures, one by one -/
def tdg (B : Int → Int) (k j : Int) : Prop := (1 ≤ j → 48 ≤ B k ∧ B k ≤ 57) ∧ (2 ≤ j → 48 ≤ B (k + 1) ∧ B (k + 1) ≤ 57) ∧ (3 ≤ j → 48 ≤ B (k + 2) ∧ B (k + 2) ≤ 57)
theorem tdg_0 {B : Int → Int} {k j : Int} (h : j = 0) : tdg B k j := ⟨fun z => absurd z (by omega), fun z => absurd z (by omega), fun z => absurd z (by omega)⟩
theorem tdg_s {B : Int → Int} {k j i j' : Int} (h : tdg B k j) (hj : 0 ≤ j) (e : i = k + j) (hd : 48 ≤ B i ∧ B i ≤ 57) (e' : j' = j + 1) : tdg B k j' := by
  refine ⟨fun z => ?_, fun z => ?_, fun z => ?_⟩
  · by_cases c : j = 0
    · rw [show k = i by omega]; exact hd
    · exact h.1 (by omega)
  · by_cases c : j = 1
    · rw [show k + 1 = i by omega]; exact hd
    · exact h.2.1 (by omega)
  · by_cases c : j = 2
    · rw [show k + 2 = i by omega]; exact hd
    · exact h.2.2 (by omega)
theorem tdg_n {B : Int → Int} {k j i : Int} (h : tdg B k j) (hj : 0 ≤ j) (e : i = k + j) (hd : ¬ (48 ≤ B i ∧ B i ≤ 57)) : (j ≤ 2 ∧ j = tpn B k) ∨ (3 ≤ j ∧ tpn B k = 3) := by
  have ht := tpn_c B k
  by_cases c : 3 ≤ j
  · have h1 := h.1 (by omega)
    have h2 := h.2.1 (by omega)
    have h3 := h.2.2 (by omega)
    omega
  · by_cases c2 : j = 2
    · have h1 := h.1 (by omega)
      have h2 := h.2.1 (by omega)
      rw [show i = k + 2 by omega] at hd
      omega
    · by_cases c1 : j = 1
      · have h1 := h.1 (by omega)
        rw [show i = k + 1 by omega] at hd
        omega
      · rw [show i = k by omega] at hd
        omega
theorem tbc_hi {f : Nat → Int32} {L i : Int} (h : L ≤ i) : tbc f L i = (-1) := if_neg (by omega)
theorem tpk_1 {B : Int → Int} {a b p : Int} (h : ¬ (tpn B p = 1 ∨ tpn B p = 2)) : tpk B a b p = 1 := if_neg h
theorem tpk_0 {B : Int → Int} {a b p : Int} (h : tpn B p = 1 ∨ tpn B p = 2) (h1 : a ≤ tpv B p ∧ tpv B p ≤ b) : tpk B a b p = 0 := by
  unfold tpk
  rw [if_pos h, if_pos h1]
theorem tpk_2 {B : Int → Int} {a b p : Int} (h : tpn B p = 1 ∨ tpn B p = 2) (h1 : ¬ (a ≤ tpv B p ∧ tpv B p ≤ b)) : tpk B a b p = 2 := by
  unfold tpk
  rw [if_pos h, if_neg h1]
/-- a number, figure by figure -/
def tnv (B : Int → Int) (p i n : Int) : Prop := (i = p ∧ n = 0) ∨ (i = p + 1 ∧ n = B p - 48) ∨ (p + 2 ≤ i ∧ n = (B p - 48) * 10 + (B (p + 1) - 48))
theorem tnv_0 {B : Int → Int} {p i n : Int} (h : i = p) (h1 : n = 0) : tnv B p i n := Or.inl ⟨h, h1⟩
theorem tnv_s {B : Int → Int} {p i n i' n' b : Int} (h : tnv B p i n) (hi : i < p + 2) (hb : b = B i) (e : n' = n * 10 + b - 48) (e' : i' = i + 1) : tnv B p i' n' := by
  rcases h with ⟨h1, h2⟩ | ⟨h1, h2⟩ | ⟨h1, h2⟩
  · rw [h1] at hb
    exact Or.inr (Or.inl ⟨by omega, by omega⟩)
  · rw [h1] at hb
    exact Or.inr (Or.inr ⟨by omega, by omega⟩)
  · exact absurd h1 (by omega)
theorem tnv_k {B : Int → Int} {p i n i' : Int} (h : tnv B p i n) (hi : p + 2 ≤ i) (e' : i' = i + 1) : tnv B p i' n := by
  rcases h with ⟨h1, h2⟩ | ⟨h1, h2⟩ | ⟨h1, h2⟩
  · exact absurd h1 (by omega)
  · exact absurd h1 (by omega)
  · exact Or.inr (Or.inr ⟨by omega, h2⟩)
theorem tnv_d {B : Int → Int} {p i t : Int} (ht : t = tpn B p) (h0 : p ≤ i ∧ i < p + t) (h2 : t ≤ 2) : 48 ≤ B i ∧ B i ≤ 57 := by
  have h := tpn_c B p
  by_cases c : i = p
  · rw [c]; omega
  · rw [show i = p + 1 by omega]; omega
theorem tnv_r {B : Int → Int} {p i n t : Int} (h : tnv B p i n) (ht : t = tpn B p) (h2 : t ≤ 2) (hi : i ≤ p + t) : 0 ≤ n ∧ n ≤ 99 := by
  have h9 := tpn_c B p
  rcases h with ⟨h1, h2⟩ | ⟨h1, h2⟩ | ⟨h1, h2⟩ <;> omega
theorem tnv_g {B : Int → Int} {p i n : Int} (h : tnv B p i n) (hd : tdg B p (i - p)) : 0 ≤ n ∧ n ≤ 99 := by
  rcases h with ⟨h1, h2⟩ | ⟨h1, h2⟩ | ⟨h1, h2⟩
  · omega
  · have h3 := hd.1 (by omega); omega
  · have h3 := hd.1 (by omega)
    have h4 := hd.2.1 (by omega)
    omega
theorem tnv_e {B : Int → Int} {p i n t : Int} (h : tnv B p i n) (ht : t = tpn B p) (h2 : 1 ≤ t ∧ t ≤ 2) (hi : i = p + t) : n = tpv B p := by
  have h9 := tpv_c B p
  rcases h with ⟨h1, h2⟩ | ⟨h1, h2⟩ | ⟨h1, h2⟩ <;> omega
theorem tN_n1 {B : Int → Int} {a b f x y d : Int} (h : ¬ (tpn B d = 1 ∨ tpn B d = 2)) : tF 1 d (f, x, y, d) = tN B a b (f, x, y, d) := tN_no (Or.inr (by rw [tpk_1 h]; exact ⟨rfl, Int.one_ne_zero⟩))
theorem tN_n2 {B : Int → Int} {a b f x y d n : Int} (h : tpn B d = 1 ∨ tpn B d = 2) (hn : n = tpv B d) (h1 : ¬ (a ≤ n ∧ n ≤ b)) : tF 2 d (f, x, y, d) = tN B a b (f, x, y, d) := tN_no (Or.inr (by rw [tpk_2 h (by rw [← hn]; exact h1)]; exact ⟨rfl, by decide⟩))
theorem tN_o {B : Int → Int} {a b f x y d e n : Int} (h : f = 0) (h0 : tpn B d = 1 ∨ tpn B d = 2) (hn : n = tpv B d) (h1 : a ≤ n ∧ n ≤ b) (h2 : e = d + tpn B d) : (f, x, y, e) = tN B a b (f, x, y, d) := tN_ok h (tpk_0 h0 (by rw [← hn]; exact h1)) h2
theorem tV_f {B : Int → Int} {a b f x y d r : Int} (h : ¬ f = 0) (hr : r = 0) : r = tV B a b (f, x, y, d) := by
  rw [hr]; exact (if_neg (c := f = 0 ∧ tpk B a b d = 0) (fun z => h z.1)).symm
theorem tV_1 {B : Int → Int} {a b f x y d r : Int} (h : ¬ (tpn B d = 1 ∨ tpn B d = 2)) (hr : r = 0) : r = tV B a b (f, x, y, d) := by
  rw [hr]; exact (if_neg (c := f = 0 ∧ tpk B a b d = 0) (fun z => by have h9 := z.2; rw [tpk_1 h] at h9; exact absurd h9 (by decide))).symm
theorem tV_2 {B : Int → Int} {a b f x y d r n : Int} (h : tpn B d = 1 ∨ tpn B d = 2) (hn : n = tpv B d) (h1 : ¬ (a ≤ n ∧ n ≤ b)) (hr : r = 0) : r = tV B a b (f, x, y, d) := by
  rw [hr]; exact (if_neg (c := f = 0 ∧ tpk B a b d = 0) (fun z => by have h9 := z.2; rw [tpk_2 h (by rw [← hn]; exact h1)] at h9; exact absurd h9 (by decide))).symm
theorem tV_o {B : Int → Int} {a b f x y d n : Int} (hf : f = 0) (h : tpn B d = 1 ∨ tpn B d = 2) (hn : n = tpv B d) (h1 : a ≤ n ∧ n ≤ b) : n = tV B a b (f, x, y, d) := by
  refine hn.trans (if_pos (c := f = 0 ∧ tpk B a b d = 0) ⟨hf, tpk_0 h (by rw [← hn]; exact h1)⟩).symm
theorem tN_r1 {B : Int → Int} {a b u v d x y : Int} (h : ¬ (tpn B d = 1 ∨ tpn B d = 2)) (hx : x = 1) (hy : y = d) : tfa (tN B a b (0, u, v, d)) x y := tN_r (by rw [tpk_1 h]; exact hx) (by rw [tpk_1 h]; exact Int.one_ne_zero) hy
theorem tN_r2 {B : Int → Int} {a b u v d x y n : Int} (h : tpn B d = 1 ∨ tpn B d = 2) (hn : n = tpv B d) (h1 : ¬ (a ≤ n ∧ n ≤ b)) (hx : x = 2) (hy : y = d) : tfa (tN B a b (0, u, v, d)) x y := tN_r (by rw [tpk_2 h (by rw [← hn]; exact h1)]; exact hx) (by rw [tpk_2 h (by rw [← hn]; exact h1)]; decide) hy
theorem tpo_same {r b : Int} (h : r = b ∨ (r < 0 ∧ b = (-1))) : tpo r = tpo b := by
  rcases h with h | h
  · rw [h]
  · have h1 := tpo_c r
    have h2 := tpo_c b
    omega
theorem tpo_nx {f r b : Int} (h : (¬ f = 0 ∧ r = (-1)) ∨ (f = 0 ∧ (r = b ∨ (128 ≤ r ∧ b = (-1))))) : (¬ f = 0 ∧ tpo r = 0) ∨ (f = 0 ∧ tpo r = tpo b) := by
  rcases h with ⟨h, h1⟩ | ⟨h, h1 | h1⟩
  · exact Or.inl ⟨h, by rw [h1]; decide⟩
  · exact Or.inr ⟨h, by rw [h1]⟩
  · have h3 := tpo_c r
    have h4 := tpo_c b
    exact Or.inr ⟨h, by omega⟩

