/-! what a method leaves of the reference's slots -/
def FRM (lo hi : Int) (f g : Nat → Int32) : Prop := ∀ q : Nat, ((q : Int) < lo ∨ hi ≤ (q : Int)) → g q = f q
theorem FRM.refl {lo hi : Int} {f : Nat → Int32} : FRM lo hi f f := fun _ _ => rfl
theorem FRM.up {lo hi : Int} {f g : Nat → Int32} {i x : Int32} (h : FRM lo hi f g) (hi' : lo ≤ i.toInt ∧ i.toInt < hi ∧ 0 ≤ i.toInt) : FRM lo hi f (upd g i.toNatClampNeg x) := by
  intro q hq
  have e := zi_cn hi'.2.2
  rw [pk_un (by omega)]
  exact h q hq
theorem FRM.trans {lo hi : Int} {f g k : Nat → Int32} (h : FRM lo hi f g) (h2 : FRM lo hi g k) : FRM lo hi f k := fun q hq => (h2 q hq).trans (h q hq)
theorem FRM.sub {lo hi a b : Int} {f g : Nat → Int32} (h : FRM a b f g) (h1 : lo ≤ a) (h2 : b ≤ hi) : FRM lo hi f g := fun q hq => h q (by omega)
theorem kfm {f g : Nat → Int32} {t i x : Int32} {u a b : Int} (h : ∀ q : Nat, (q : Int) < t.toInt → g (57 * b.toNat + q) = f (57 * a.toNat + q)) (h0 : 0 ≤ t.toInt ∧ 0 ≤ b) (ei : i.toInt = 57 * b + t.toInt) (hx : x = f (57 * a.toNat + t.toInt.toNat)) {q : Nat} (hq : (q : Int) < u) (hu : u = t.toInt + 1) : upd g i.toNatClampNeg x (57 * b.toNat + q) = f (57 * a.toNat + q) := by
  have e := zi_cn (x := i) (by omega)
  by_cases c : 57 * b.toNat + q = i.toNatClampNeg
  · rw [c, pk_us, hx, show t.toInt.toNat = q by omega]
  · rw [pk_un c]; exact h q (by omega)
theorem kfm2 {f g : Nat → Int32} {i : Int32} {a b t : Int} (h : FRM (57 * b) (57 * b + 57) f g) (h1 : 0 ≤ a ∧ ¬ a = b) (h2 : 0 ≤ t ∧ t < 57) (e : i.toInt = 57 * a + t) : g i.toNatClampNeg = f (57 * a.toNat + t.toNat) := by
  have e1 := zi_cn (x := i) (by omega)
  rw [h _ (by omega), show i.toNatClampNeg = 57 * a.toNat + t.toNat by omega]
/-! villages, walkers, kinds -/
abbrev TPK : Type := Int × Int × (Nat → Int32)
def kr (f : Nat → Int32) (s : Int) : TPK := ((f (57 * s.toNat + 1)).toInt, (f (57 * s.toNat + 2)).toInt, trk (f (57 * s.toNat + 2)).toInt (fun j => f (57 * s.toNat + 20 + j)))
theorem kr_eq {f g : Nat → Int32} {a b : Int} (hw : (f (57 * a.toNat + 2)).toInt ≤ 3) (h : ∀ q : Nat, q < 23 → g (57 * b.toNat + q) = f (57 * a.toNat + q)) : kr g b = kr f a := by
  have h3 : trk (f (57 * a.toNat + 2)).toInt (fun j => g (57 * b.toNat + 20 + j)) = trk (f (57 * a.toNat + 2)).toInt (fun j => f (57 * a.toNat + 20 + j)) := by
    funext j
    by_cases h8 : (j : Int) < (f (57 * a.toNat + 2)).toInt
    · rw [trk_at h8, trk_at h8]
      show g (57 * b.toNat + 20 + j) = f (57 * a.toNat + 20 + j)
      rw [Nat.add_assoc, Nat.add_assoc]
      exact h (20 + j) (by omega)
    · exact (if_neg h8).trans (if_neg h8).symm
  unfold kr
  rw [h 1 (by decide), h 2 (by decide), h3]
theorem si_w3 {f : Nat → Int32} {v0 : Int} (h : SI f v0) {a : Int} (ha : 0 ≤ a ∧ a < 29) : (f (57 * a.toNat + 2)).toInt ≤ 3 := (h.1 a.toNat (by omega)).2.1.2
theorem kr_copy {f g : Nat → Int32} {v0 a b : Int} (hs : SI f v0) (ha : 0 ≤ a ∧ a < 29) (h : ∀ q : Nat, q < 57 → g (57 * b.toNat + q) = f (57 * a.toNat + q)) : kr g b = kr f a := kr_eq (si_w3 hs ha) (fun q hq => h q (by omega))
theorem kr_frm {f g : Nat → Int32} {v0 a lo hi : Int} (hs : SI f v0) (h : FRM lo hi f g) (ha : 0 ≤ a ∧ a < 29) (hl : 57 * a + 23 ≤ lo ∨ hi ≤ 57 * a) : kr g a = kr f a := kr_eq (si_w3 hs ha) (fun q hq => h _ (by omega))
/-- the first n kept acts have K -/
def KA (f : Nat → Int32) (n : Int) (K : TPK) : Prop := ∀ k : Int, 0 ≤ k → k < n → kr f (3 + k) = K
theorem KA.less {f : Nat → Int32} {n m : Int} {K : TPK} (h : KA f n K) (hm : m ≤ n) : KA f m K := fun k h0 h1 => h k h0 (by omega)
theorem KA.zero {f : Nat → Int32} {n : Int} {K : TPK} (h : n ≤ 0) : KA f n K := fun k h0 h1 => absurd h1 (by omega)
theorem KA.frm {f g : Nat → Int32} {v0 n lo hi : Int} {K : TPK} (h : KA f n K) (hs : SI f v0) (hf : FRM lo hi f g) (hn : n ≤ 24) (hl : hi ≤ 171 ∨ 1539 ≤ lo) : KA g n K := fun k h0 h1 => (kr_frm hs hf (by omega) (by omega)).trans (h k h0 h1)
theorem KA.step {f g : Nat → Int32} {v0 n m b : Int} {K : TPK} (h : KA f n K) (hs : SI f v0) (hb : b = 3 + n) (hm : m = n + 1) (hn : 0 ≤ n ∧ n < 24) (hc : ∀ q : Nat, q < 57 → g (57 * b.toNat + q) = f (57 * (0 : Int).toNat + q)) (hf : FRM (57 * b) (57 * b + 57) f g) (hK : kr f 0 = K) : KA g m K := by
  intro k h0 h1
  by_cases c : k = n
  · rw [c, ← hb]
    exact (kr_copy hs (by omega) hc).trans hK
  · exact (kr_frm hs hf (by omega) (by omega)).trans (h k h0 (by omega))
theorem KA.shift {f g : Nat → Int32} {v0 k a b : Int} {K : TPK} (h : KA f 24 K) (hs : SI f v0) (hk : 0 ≤ k ∧ k < 23) (ha : a = 3 + k + 1) (hb : b = 3 + k) (hc : ∀ q : Nat, q < 57 → g (57 * b.toNat + q) = f (57 * a.toNat + q)) (hf : FRM (57 * b) (57 * b + 57) f g) : KA g 24 K := by
  intro j h0 h1
  by_cases c : j = k
  · rw [c, ← hb, kr_copy hs (by omega) hc, ha, show 3 + k + 1 = 3 + (k + 1) by omega]
    exact h (k + 1) (by omega) (by omega)
  · exact (kr_frm hs hf (by omega) (by omega)).trans (h j h0 h1)
theorem kr_28 {f : Nat → Int32} : kr f 28 = ((ur f).1, (ur f).2.2.1, (ur f).2.2.2.2) := rfl
theorem kr_copy0 {f g : Nat → Int32} {v0 a : Int} (hs : SI f v0) (ha : 0 ≤ a ∧ a < 29) (h : ∀ q : Nat, q < 57 → g q = f (57 * a.toNat + q)) : kr g 0 = kr f a := kr_eq (si_w3 hs ha) (fun q hq => by rw [show 57 * (0 : Int).toNat + q = q by simp]; exact h q (by omega))
theorem KA.at {f : Nat → Int32} {n k a : Int} {K : TPK} (h : KA f n K) (h0 : 0 ≤ k ∧ k < n) (e : a = 3 + k) : kr f a = K := by rw [e]; exact h k h0.1 h0.2
/-! the three slots that last: the land that is, and the images -/
def KS (f g : Nat → Int32) : Prop := ∀ a : Int, 0 ≤ a → a ≤ 2 → kr g a = kr f a
theorem KS.refl {f : Nat → Int32} : KS f f := fun _ _ _ => rfl
theorem KS.trans {f g k : Nat → Int32} (h : KS f g) (h2 : KS g k) : KS f k := fun a h0 h1 => (h2 a h0 h1).trans (h a h0 h1)
theorem KS.zero {f g : Nat → Int32} (h : KS f g) : kr g 0 = kr f 0 := h 0 (by decide) (by decide)
theorem KS.frm {f g : Nat → Int32} {v0 lo hi : Int} (hs : SI f v0) (h : FRM lo hi f g) (hl : 171 ≤ lo ∨ (23 ≤ lo ∧ hi ≤ 57)) : KS f g := fun a h0 h1 => kr_frm hs h (by omega) (by omega)
theorem KS.up {g : Nat → Int32} {v0 : Int} {i x : Int32} (hs : SI g v0) (hi : 23 ≤ i.toInt ∧ i.toInt < 57) : KS g (upd g i.toNatClampNeg x) := KS.frm hs (FRM.up (lo := 23) (hi := 57) FRM.refl (by omega)) (by omega)
theorem KS.of0 {f g : Nat → Int32} {v0 : Int} (hs : SI f v0) (h : FRM 0 57 f g) (e : kr g 0 = kr f 0) : KS f g := by
  intro a h0 h1
  by_cases c : a = 0
  · rw [c]; exact e
  · exact kr_frm hs h (by omega) (by omega)
theorem KA.of {f g : Nat → Int32} {n : Int} (h : KA g n (kr f 0)) (ks : KS f g) : KA g n (kr g 0) := by rw [ks.zero]; exact h
theorem KA.to {f g k : Nat → Int32} {n : Int} (h : KA k n (kr g 0)) (ks : KS f g) : KA k n (kr f 0) := by rw [← ks.zero]; exact h
theorem KA.up {g : Nat → Int32} {v0 n : Int} {i x : Int32} {K : TPK} (h : KA g n K) (hs : SI g v0) (hi : 23 ≤ i.toInt ∧ i.toInt < 57) (hn : n ≤ 24) : KA (upd g i.toNatClampNeg x) n K := KA.frm h hs (FRM.up (lo := 23) (hi := 57) FRM.refl (by omega)) hn (by omega)
/-- an image is taken -/
def KI (f g : Nat → Int32) (k : Int) : Prop := kr g 0 = kr f 0 ∧ ∀ j : Nat, j < 2 → kr g (1 + (j : Int)) = (if (j : Int) = k then kr f 0 else kr f (1 + (j : Int)))
theorem KI.of {f g : Nat → Int32} {v0 k b : Int} (hs : SI f v0) (hk : 0 ≤ k ∧ k ≤ 1) (hb : b = k + 1) (hc : ∀ q : Nat, q < 57 → g (57 * b.toNat + q) = f (57 * (0 : Int).toNat + q)) (hf : FRM (57 * b) (57 * b + 57) f g) : KI f g k := by
  refine ⟨kr_frm hs hf (by omega) (by omega), fun j hj => ?_⟩
  by_cases c : (j : Int) = k
  · rw [if_pos c, show 1 + (j : Int) = b by omega]
    exact kr_copy hs (by omega) hc
  · rw [if_neg c]
    exact kr_frm hs hf (by omega) (by omega)
theorem kr1_at {f : Nat → Int32} {i : Int32} {a : Int} (e : i.toInt = 57 * a + 1) (ha : 0 ≤ a) : (kr f a).1 = (f i.toNatClampNeg).toInt := by
  have h1 := zi_cn (x := i) (by omega)
  show (f (57 * a.toNat + 1)).toInt = _
  rw [show i.toNatClampNeg = 57 * a.toNat + 1 by omega]
theorem kr_v {f : Nat → Int32} : (kr f 0).1 = (f 1).toInt := rfl
theorem kr_w {f : Nat → Int32} : (kr f 0).2.1 = (f 2).toInt := rfl
/-- villages, walkers, kinds of what a text tells -/
def kof (u : TPU) : TPK := (u.1, u.2.2.1, u.2.2.2.2)
theorem kr_land {f g : Nat → Int32} {v0 : Int} (hs : SI f v0) (h : ∀ q : Nat, q < 57 → g q = f (57 * (28 : Int).toNat + q)) : kr g 0 = kof (ur f) := (kr_copy0 hs (by decide) h).trans kr_28
/-! what calls of image, restore, land did to the slots -/
def IMR (k v : Int) (r : Int) (f g : Nat → Int32) : Prop :=
  ((0 ≤ k ∧ k ≤ 1) ∧ ¬ v = 0 ∧ r = 1 ∧ KI f g k) ∨ (¬ (0 ≤ k ∧ k ≤ 1) ∧ r = (-1000001) ∧ g = f) ∨ ((0 ≤ k ∧ k ≤ 1) ∧ v = 0 ∧ r = (-1000002) ∧ g = f)
def RSR (k : Int) (r : Int) (f g : Nat → Int32) (na na' : Int) : Prop :=
  ((0 ≤ k ∧ k ≤ 1) ∧ ¬ (kr f (k + 1)).1 = 0 ∧ r = 1 ∧ kr g 0 = kr f (k + 1) ∧ FRM 0 57 f g ∧ na' = 0) ∨ (¬ (0 ≤ k ∧ k ≤ 1) ∧ r = (-1000001) ∧ g = f ∧ na' = na) ∨ ((0 ≤ k ∧ k ≤ 1) ∧ (kr f (k + 1)).1 = 0 ∧ r = (-1000002) ∧ g = f ∧ na' = na)
def LDR (ok : Int) (T : TPK) (f g : Nat → Int32) (na na' : Int) : Prop := (∀ a : Int, 1 ≤ a → a ≤ 2 → kr g a = kr f a) ∧ KA g na' (kr g 0) ∧ ((ok = 0 ∧ kr g 0 = T) ∨ (¬ ok = 0 ∧ kr g 0 = kr f 0))
set_option maxHeartbeats 4000000 in
set_option maxRecDepth 100000 in
theorem p_X8_has (l : Launch) (D : va_G) (cI cB cQ : ClassId) (sz : Nat) (k : Int32) (v : Int32) : mi l yX8_has wsX8_has ({ frames := 0, cells := 0, slots := 0, locals := 0 }) D cI cB cQ [.int k, .int v] sz [] (fun (r : Int32) (_u : Unit) => ((r = 1 ∧ tbi k v.toInt = 1) ∨ (r = 0 ∧ tbi k v.toInt = 0))) (fun _ => []) 0 0 := by
  refine wm_i (cc := cX8_has) (maxL := 2) (ret := (some .boolean)) (by decide) rfl (Nat.le_of_ble_eq_true rfl) ?_
  intro p e s m below meth c A ls hx hb hr hml hown hts hlocks hin hP hK hD hN hA hl hS
  have hown : s.vm.findClass RX8 = some m.cls := hown
  have hl : lv_has ls 2 [(0, .int k), (1, .int v)] := hl
  change W p l e ({ frames := 0, cells := 0, slots := 0, locals := 0 }) s m ([.int k, .int v] : List Value).toArray below meth c s.heap [] 0 0 (MQ below (va_Qi (fun (r : Int32) (_u : Unit) => ((r = 1 ∧ tbi k v.toInt = 1) ∨ (r = 0 ∧ tbi k v.toInt = 0))) (fun u t => wb D A ((fun _ => []) u) t) A) ([.int k, .int v] : List Value).toArray s 0 0 A) (F0 m 0 ls [])
  refine lv_iload_n hx hb dX8_has_0 rfl (lv_at hl 0 rfl) ?_
  refine lv_iload_n hx hb dX8_has_1 rfl (lv_at hl 1 rfl) ?_
  refine lv_ishr hx hb dX8_has_2 ?_
  refine lv_topi (fun x_1 ex_1 => ?_)
  refine lv_iconst (v := 1) hx hb dX8_has_3 (by decide) ?_
  refine lv_iand hx hb dX8_has_4 ?_
  refine lv_topi (fun x_2 ex_2 => ?_)
  refine lv_iconst (v := 1) hx hb dX8_has_5 (by decide) ?_
  refine lv_icmp_ne (tgt := 13) hx hb dX8_has_6 (by decide) (fun c_3 => ?_) (fun c_3 => ?_)
  · have f_3 : ¬ x_2.toInt = 1 := zi_ne c_3
    refine lv_iconst (v := 0) hx hb dX8_has_13 (by decide) ?_
    exact wr_z (v := 0) hx hb hr hlocks hS () (by exact Or.inr (⟨rfl, show tbi k v.toInt = 0 from tbi_0 ex_1 ex_2 (by have h9 := zi_a1 ex_2; omega)⟩)) (hP.sub [] rfl) (hD.sub [] (by decide) rfl) dX8_has_14 rfl
  · have f_3 : x_2.toInt = 1 := zi_eq c_3
    refine lv_iconst (v := 1) hx hb dX8_has_9 (by decide) ?_
    refine lv_goto (tgt := 14) hx hb dX8_has_10 (by decide) ?_
    exact wr_z (v := 1) hx hb hr hlocks hS () (by exact Or.inl ⟨rfl, show tbi k v.toInt = 1 from tbi_1 ex_1 ex_2 (by omega)⟩) (hP.sub [] rfl) (hD.sub [] (by decide) rfl) dX8_has_14 rfl
set_option maxHeartbeats 4000000 in
set_option maxRecDepth 100000 in
theorem p_X8_next (l : Launch) (D : va_G) (cI cB cQ : ClassId) (sz : Nat) (h : Nat) (sl : Nat) (zs : Nat) (ln : Nat) (ir : Nat) (tk : Nat) (tb : Nat) (tr : Nat) (fz : Nat) (na : Int32) (su : Int32) (le : Int32) (fu : Int32) (ap : Int32) (pp : Int32) (tc : Int32) (nm : Int32) (tbf : Nat → Int32) (h_na : 0 ≤ na.toInt ∧ na.toInt ≤ 24) (h_le : 0 ≤ le.toInt ∧ le.toInt ≤ 120) (h_ap : 0 ≤ ap.toInt ∧ ap.toInt ≤ 120) (h_tc : 0 ≤ tc.toInt ∧ tc.toInt ≤ 16) (h_pp : 0 ≤ pp.toInt ∧ pp.toInt ≤ 120) : mi l yX8_next wsX8_next ({ frames := 0, cells := 0, slots := 0, locals := 0 }) D cI cB cQ [.ref h] sz [(h, .inr (7, [.ref sl, .int na, .ref zs, .ref ln, .ref ir, .ref tk, .int su, .int le, .ref tb, .int fu, .int ap, .int pp, .ref tr, .int tc, .ref fz, .int nm])), (tb, .inl (cB, 120, .inl tbf))] (fun (r : Int32) (_u : Unit) => ((r.toInt = tbr tbf le.toInt ap.toInt ∨ (r.toInt < 0 ∧ tbr tbf le.toInt ap.toInt = (-1))) ∧ (r.toInt = (-1) ∨ ap.toInt < le.toInt))) (fun _ => [(h, .inr (7, [.ref sl, .int na, .ref zs, .ref ln, .ref ir, .ref tk, .int su, .int le, .ref tb, .int fu, .int ap, .int pp, .ref tr, .int tc, .ref fz, .int nm])), (tb, .inl (cB, 120, .inl tbf))]) 0 0 := by
  refine wm_i (cc := cX8_next) (maxL := 1) (ret := (some .int)) (by decide) rfl (Nat.le_of_ble_eq_true rfl) ?_
  intro p e s m below meth c A ls hx hb hr hml hown hts hlocks hin hP hK hD hN hA hl hS
  have hown : s.vm.findClass RX8 = some m.cls := hown
  have hl : lv_has ls 1 [(0, .ref h)] := hl
  change W p l e ({ frames := 0, cells := 0, slots := 0, locals := 0 }) s m ([.ref h] : List Value).toArray below meth c s.heap [] 0 0 (MQ below (va_Qi (fun (r : Int32) (_u : Unit) => ((r.toInt = tbr tbf le.toInt ap.toInt ∨ (r.toInt < 0 ∧ tbr tbf le.toInt ap.toInt = (-1))) ∧ (r.toInt = (-1) ∨ ap.toInt < le.toInt))) (fun u t => wb D A ((fun _ => [(h, .inr (7, [.ref sl, .int na, .ref zs, .ref ln, .ref ir, .ref tk, .int su, .int le, .ref tb, .int fu, .int ap, .int pp, .ref tr, .int tc, .ref fz, .int nm])), (tb, .inl (cB, 120, .inl tbf))]) u) t) A) ([.ref h] : List Value).toArray s 0 0 A) (F0 m 0 ls [])
  have hB := tbr_c tbf le.toInt ap
  refine lv_aload_n hx hb dX8_next_0 rfl (lv_at hl 0 rfl) ?_
  refine va_get (D := D) (ci := 7) (v := .int ap) (C := RX8) (T := TX8) (N := 16) hx hb hts (fun _ h => List.mem_cons_of_mem _ (List.mem_append_right _ h)) hown hK hP 0 rfl rfl 10 (by decide) (hts (.fieldLink RX8 62 "WinterWalkModel" "at" "I") (List.mem_of_getElem? (i := 1) rfl)) (fun _ h9 => h9) rfl dX8_next_1 ?_
  refine lv_aload_n hx hb dX8_next_4 rfl (lv_at hl 0 rfl) ?_
  refine va_get (D := D) (ci := 7) (v := .int le) (C := RX8) (T := TX8) (N := 16) hx hb hts (fun _ h => List.mem_cons_of_mem _ (List.mem_append_right _ h)) hown hK hP 0 rfl rfl 7 (by decide) (hts (.fieldLink RX8 58 "WinterWalkModel" "length" "I") (List.mem_of_getElem? (i := 2) rfl)) (fun _ h9 => h9) rfl dX8_next_5 ?_
  refine lv_icmp_ge (tgt := 23) hx hb dX8_next_8 (by decide) (fun c_1 => ?_) (fun c_1 => ?_)
  · have f_1 : le.toInt ≤ ap.toInt := zi_le c_1
    refine lv_iconst (v := (-1)) hx hb dX8_next_23 (by decide) ?_
    exact wr_i (v := (-1)) hx hb hr hlocks hS () (by exact show ((-1) = tbr tbf le.toInt ap.toInt ∨ ((-1) < 0 ∧ tbr tbf le.toInt ap.toInt = (-1))) ∧ ((-1) = (-1) ∨ ap.toInt < le.toInt) from by omega) (hP.sub [0, 1] rfl) (hD.sub [0, 1] (by decide) rfl) dX8_next_24
  · have f_1 : ¬ le.toInt ≤ ap.toInt := zi_nle c_1
    refine lv_aload_n hx hb dX8_next_11 rfl (lv_at hl 0 rfl) ?_
    refine va_get (D := D) (ci := 7) (v := .ref tb) (C := RX8) (T := TX8) (N := 16) hx hb hts (fun _ h => List.mem_cons_of_mem _ (List.mem_append_right _ h)) hown hK hP 0 rfl rfl 8 (by decide) (hts (.fieldLink RX8 25 "WinterWalkModel" "tape" "[B") (List.mem_of_getElem? (i := 3) rfl)) (fun _ h9 => h9) rfl dX8_next_12 ?_
    refine lv_aload_n hx hb dX8_next_15 rfl (lv_at hl 0 rfl) ?_
    refine va_get (D := D) (ci := 7) (v := .int ap) (C := RX8) (T := TX8) (N := 16) hx hb hts (fun _ h => List.mem_cons_of_mem _ (List.mem_append_right _ h)) hown hK hP 0 rfl rfl 10 (by decide) (hts (.fieldLink RX8 62 "WinterWalkModel" "at" "I") (List.mem_of_getElem? (i := 1) rfl)) (fun _ h9 => h9) rfl dX8_next_16 ?_
    refine va_bald hx hb hK hP 1 1 rfl rfl (zi_in (by omega) (by omega)) dX8_next_19 ?_
    refine lv_topi (fun x_2 ex_2 => ?_)
    have g_2 : x_2.toInt = (tbf (ap : Int32).toNatClampNeg).toInt := by rw [ex_2]
    refine lv_goto (tgt := 24) hx hb dX8_next_20 (by decide) ?_
    exact wr_i (v := x_2) hx hb hr hlocks hS () (by exact show (x_2.toInt = tbr tbf le.toInt ap.toInt ∨ (x_2.toInt < 0 ∧ tbr tbf le.toInt ap.toInt = (-1))) ∧ (x_2.toInt = (-1) ∨ ap.toInt < le.toInt) from by omega) (hP.sub [0, 1] rfl) (hD.sub [0, 1] (by decide) rfl) dX8_next_24
set_option maxHeartbeats 4000000 in
set_option maxRecDepth 100000 in
theorem p_X8_fails (l : Launch) (D : va_G) (cI cB cQ : ClassId) (sz : Nat) (h : Nat) (sl : Nat) (zs : Nat) (ln : Nat) (ir : Nat) (tk : Nat) (tb : Nat) (tr : Nat) (fz : Nat) (na : Int32) (su : Int32) (le : Int32) (fu : Int32) (ap : Int32) (pp : Int32) (tc : Int32) (nm : Int32) (a : Int32) (b : Int32) (h_pp : 0 ≤ pp.toInt ∧ pp.toInt ≤ 120) (h_b : 0 ≤ b.toInt ∧ b.toInt ≤ 120) : mi l yX8_fails wsX8_fails ({ frames := 0, cells := 0, slots := 0, locals := 0 }) D cI cB cQ [.ref h, .int a, .int b] sz [(h, .inr (7, [.ref sl, .int na, .ref zs, .ref ln, .ref ir, .ref tk, .int su, .int le, .ref tb, .int fu, .int ap, .int pp, .ref tr, .int tc, .ref fz, .int nm]))] (fun (r : Int32) (u : Int32 × Int32) => ((r = 0)) ∧ (u.1.toInt = a.toInt ∧ u.2.toInt = b.toInt) ∧ (0 ≤ u.2.toInt ∧ u.2.toInt ≤ 120)) (fun u => [(h, .inr (7, [.ref sl, .int na, .ref zs, .ref ln, .ref ir, .ref tk, .int su, .int le, .ref tb, .int u.1, .int ap, .int u.2, .ref tr, .int tc, .ref fz, .int nm]))]) 0 0 := by
  refine wm_i (cc := cX8_fails) (maxL := 3) (ret := (some .boolean)) (by decide) rfl (Nat.le_of_ble_eq_true rfl) ?_
  intro p e s m below meth c A ls hx hb hr hml hown hts hlocks hin hP hK hD hN hA hl hS
  have hown : s.vm.findClass RX8 = some m.cls := hown
  have hl : lv_has ls 3 [(0, .ref h), (1, .int a), (2, .int b)] := hl
  change W p l e ({ frames := 0, cells := 0, slots := 0, locals := 0 }) s m ([.ref h, .int a, .int b] : List Value).toArray below meth c s.heap [] 0 0 (MQ below (va_Qi (fun (r : Int32) (u : Int32 × Int32) => ((r = 0)) ∧ (u.1.toInt = a.toInt ∧ u.2.toInt = b.toInt) ∧ (0 ≤ u.2.toInt ∧ u.2.toInt ≤ 120)) (fun u t => wb D A ((fun u => [(h, .inr (7, [.ref sl, .int na, .ref zs, .ref ln, .ref ir, .ref tk, .int su, .int le, .ref tb, .int u.1, .int ap, .int u.2, .ref tr, .int tc, .ref fz, .int nm]))]) u) t) A) ([.ref h, .int a, .int b] : List Value).toArray s 0 0 A) (F0 m 0 ls [])
  refine lv_aload_n hx hb dX8_fails_0 rfl (lv_at hl 0 rfl) ?_
  refine lv_iload_n hx hb dX8_fails_1 rfl (lv_at hl 1 rfl) ?_
  refine va_put (D := D) (ci := 7) (v := .int a) (ty := .int) (C := RX8) (T := TX8) (N := 16) hx hb hts (fun _ h => List.mem_cons_of_mem _ (List.mem_append_right _ h)) tyX8 tyX8_ok nmX8 hown hK hP hD hS 0 rfl rfl 9 (by decide) (hts (.fieldLink RX8 65 "WinterWalkModel" "fault" "I") (List.mem_of_getElem? (i := 1) rfl)) (fun _ h9 => h9) rfl (by decide +kernel) rfl rfl (Nat.le_of_ble_eq_true rfl) dX8_fails_2 (fun H locs hP hD hS => ?_)
  have hP : va_P D kl [(h, .inr (7, [.ref sl, .int na, .ref zs, .ref ln, .ref ir, .ref tk, .int su, .int le, .ref tb, .int a, .int ap, .int pp, .ref tr, .int tc, .ref fz, .int nm]))] H := hP
  have hD : va_D A [(h, .inr (7, [.ref sl, .int na, .ref zs, .ref ln, .ref ir, .ref tk, .int su, .int le, .ref tb, .int a, .int ap, .int pp, .ref tr, .int tc, .ref fz, .int nm]))] := hD
  refine lv_aload_n hx hb dX8_fails_5 rfl (lv_at hl 0 rfl) ?_
  refine lv_iload_n hx hb dX8_fails_6 rfl (lv_at hl 2 rfl) ?_
  refine va_put (D := D) (ci := 7) (v := .int b) (ty := .int) (C := RX8) (T := TX8) (N := 16) hx hb hts (fun _ h => List.mem_cons_of_mem _ (List.mem_append_right _ h)) tyX8 tyX8_ok nmX8 hown hK hP hD hS 0 rfl rfl 11 (by decide) (hts (.fieldLink RX8 68 "WinterWalkModel" "place" "I") (List.mem_of_getElem? (i := 2) rfl)) (fun _ h9 => h9) rfl (by decide +kernel) rfl rfl (Nat.le_of_ble_eq_true rfl) dX8_fails_7 (fun H locs hP hD hS => ?_)
  have hP : va_P D kl [(h, .inr (7, [.ref sl, .int na, .ref zs, .ref ln, .ref ir, .ref tk, .int su, .int le, .ref tb, .int a, .int ap, .int b, .ref tr, .int tc, .ref fz, .int nm]))] H := hP
  have hD : va_D A [(h, .inr (7, [.ref sl, .int na, .ref zs, .ref ln, .ref ir, .ref tk, .int su, .int le, .ref tb, .int a, .int ap, .int b, .ref tr, .int tc, .ref fz, .int nm]))] := hD
  refine lv_iconst (v := 0) hx hb dX8_fails_10 (by decide) ?_
  exact wr_z (v := 0) hx hb hr hlocks hS (a, b) (by exact ⟨rfl, show a.toInt = a.toInt ∧ b.toInt = b.toInt from by omega, show 0 ≤ (b : Int32).toInt ∧ (b : Int32).toInt ≤ 120 from by omega⟩) (hP.sub [0] rfl) (hD.sub [0] (by decide) rfl) dX8_fails_11 rfl
set_option maxHeartbeats 4000000 in
set_option maxRecDepth 100000 in
theorem p_X8_isSign (l : Launch) (D : va_G) (cI cB cQ : ClassId) (sz : Nat) (h : Nat) (sl : Nat) (zs : Nat) (ln : Nat) (ir : Nat) (tk : Nat) (tb : Nat) (tr : Nat) (fz : Nat) (na : Int32) (su : Int32) (le : Int32) (fu : Int32) (ap : Int32) (pp : Int32) (tc : Int32) (nm : Int32) (k : Int32) (tbf : Nat → Int32) (h_na : 0 ≤ na.toInt ∧ na.toInt ≤ 24) (h_le : 0 ≤ le.toInt ∧ le.toInt ≤ 120) (h_ap : 0 ≤ ap.toInt ∧ ap.toInt ≤ 120) (h_tc : 0 ≤ tc.toInt ∧ tc.toInt ≤ 16) (h_pp : 0 ≤ pp.toInt ∧ pp.toInt ≤ 120) (h_k : 0 ≤ k.toInt ∧ k.toInt ≤ 127) : mi l yX8_isSign wsX8_isSign ({ frames := 1, cells := 0, slots := 0, locals := 22 }) D cI cB cQ [.ref h, .int k] sz [(h, .inr (7, [.ref sl, .int na, .ref zs, .ref ln, .ref ir, .ref tk, .int su, .int le, .ref tb, .int fu, .int ap, .int pp, .ref tr, .int tc, .ref fz, .int nm])), (tb, .inl (cB, 120, .inl tbf))] (fun (r : Int32) (u : Int32 × Int32 × Int32) => ((r = 1 ∧ ((0, u.1.toInt, u.2.2.toInt, u.2.1.toInt) : TPS) = tS (tbr tbf le.toInt) k.toInt (0, fu.toInt, pp.toInt, ap.toInt)) ∨ (r = 0 ∧ tfa (tS (tbr tbf le.toInt) k.toInt (0, fu.toInt, pp.toInt, ap.toInt)) u.1.toInt u.2.2.toInt)) ∧ (ap.toInt ≤ u.2.1.toInt) ∧ (0 ≤ u.2.1.toInt ∧ u.2.1.toInt ≤ 120) ∧ (0 ≤ u.2.2.toInt ∧ u.2.2.toInt ≤ 120)) (fun u => [(h, .inr (7, [.ref sl, .int na, .ref zs, .ref ln, .ref ir, .ref tk, .int su, .int le, .ref tb, .int u.1, .int u.2.1, .int u.2.2, .ref tr, .int tc, .ref fz, .int nm])), (tb, .inl (cB, 120, .inl tbf))]) 0 0 := by
  refine wm_i (cc := cX8_isSign) (maxL := 2) (ret := (some .boolean)) (by decide) rfl (Nat.le_of_ble_eq_true rfl) ?_
  intro p e s m below meth c A ls hx hb hr hml hown hts hlocks hin hP hK hD hN hA hl hS
  have hown : s.vm.findClass RX8 = some m.cls := hown
  have hl : lv_has ls 2 [(0, .ref h), (1, .int k)] := hl
  change W p l e ({ frames := 1, cells := 0, slots := 0, locals := 22 }) s m ([.ref h, .int k] : List Value).toArray below meth c s.heap [] 0 0 (MQ below (va_Qi (fun (r : Int32) (u : Int32 × Int32 × Int32) => ((r = 1 ∧ ((0, u.1.toInt, u.2.2.toInt, u.2.1.toInt) : TPS) = tS (tbr tbf le.toInt) k.toInt (0, fu.toInt, pp.toInt, ap.toInt)) ∨ (r = 0 ∧ tfa (tS (tbr tbf le.toInt) k.toInt (0, fu.toInt, pp.toInt, ap.toInt)) u.1.toInt u.2.2.toInt)) ∧ (ap.toInt ≤ u.2.1.toInt) ∧ (0 ≤ u.2.1.toInt ∧ u.2.1.toInt ≤ 120) ∧ (0 ≤ u.2.2.toInt ∧ u.2.2.toInt ≤ 120)) (fun u t => wb D A ((fun u => [(h, .inr (7, [.ref sl, .int na, .ref zs, .ref ln, .ref ir, .ref tk, .int su, .int le, .ref tb, .int u.1, .int u.2.1, .int u.2.2, .ref tr, .int tc, .ref fz, .int nm])), (tb, .inl (cB, 120, .inl tbf))]) u) t) A) ([.ref h, .int k] : List Value).toArray s 0 0 A) (F0 m 0 ls [])
  refine lv_aload_n hx hb dX8_isSign_0 rfl (lv_at hl 0 rfl) ?_
  have k_1 := (p_X8_next l D cI cB cQ s.heap.size h sl zs ln ir tk tb tr fz na su le fu ap pp tc nm tbf (by omega) (by omega) (by omega) (by omega) (by omega))
  refine wc_i (WC := [(h, .inr (7, [.ref sl, .int na, .ref zs, .ref ln, .ref ir, .ref tk, .int su, .int le, .ref tb, .int fu, .int ap, .int pp, .ref tr, .int tc, .ref fz, .int nm])), (tb, .inl (cB, 120, .inl tbf))]) (WR := []) (va_runV (As := []) (rest := []) ⟨hx, hb, hml, hown, hts⟩ k_1 (cwV 0 hts gX8_isSign_X8_next rfl rfl rfl (by decide +kernel) ⟨Nat.le_of_ble_eq_true rfl, Nat.le_of_ble_eq_true rfl⟩) (wp_V hP hK hD hN [0, 1] (by decide) rfl (ci := 7) rfl rfl) rfl rfl hl.1 rfl (lv_room (Nat.le_of_ble_eq_true rfl)) dX8_isSign_1 ⟨Nat.le_of_ble_eq_true rfl, Nat.le_of_ble_eq_true rfl⟩) hP hD hS hA [0, 1] [] rfl rfl (by decide) (by decide) (fun r_1 u_1 H locs hw_1 hP hD hS => ?_)
  clear k_1
  have hP : va_P D kl [(h, .inr (7, [.ref sl, .int na, .ref zs, .ref ln, .ref ir, .ref tk, .int su, .int le, .ref tb, .int fu, .int ap, .int pp, .ref tr, .int tc, .ref fz, .int nm])), (tb, .inl (cB, 120, .inl tbf))] H := hP
  have hD : va_D A [(h, .inr (7, [.ref sl, .int na, .ref zs, .ref ln, .ref ir, .ref tk, .int su, .int le, .ref tb, .int fu, .int ap, .int pp, .ref tr, .int tc, .ref fz, .int nm])), (tb, .inl (cB, 120, .inl tbf))] := hD
  have c1_0 := hw_1
  have c1_0 : (r_1.toInt = tbr tbf le.toInt ap.toInt ∨ (r_1.toInt < 0 ∧ tbr tbf le.toInt ap.toInt = (-1))) ∧ (r_1.toInt = (-1) ∨ ap.toInt < le.toInt) := c1_0
  refine lv_iload_n hx hb dX8_isSign_4 rfl (lv_at hl 1 rfl) ?_
  refine lv_icmp_eq (tgt := 18) hx hb dX8_isSign_5 (by decide) (fun c_2 => ?_) (fun c_2 => ?_)
  · have f_2 : r_1.toInt = k.toInt := zi_eq c_2
    refine lv_aload_n hx hb dX8_isSign_18 rfl (lv_at hl 0 rfl) ?_
    refine lv_dup hx hb dX8_isSign_19 rfl ?_
    refine va_get (D := D) (ci := 7) (v := .int ap) (C := RX8) (T := TX8) (N := 16) hx hb hts (fun _ h => List.mem_cons_of_mem _ (List.mem_append_right _ h)) hown hK hP 0 rfl rfl 10 (by decide) (hts (.fieldLink RX8 62 "WinterWalkModel" "at" "I") (List.mem_of_getElem? (i := 1) rfl)) (fun _ h9 => h9) rfl dX8_isSign_20 ?_
    refine lv_iconst (v := 1) hx hb dX8_isSign_23 (by decide) ?_
    refine lv_iadd hx hb dX8_isSign_24 ?_
    refine lv_topi (fun x_3 ex_3 => ?_)
    have e_3 : x_3.toInt = ap.toInt + 1 := by rw [ex_3]; exact zi_add (rfl) (by decide) (by omega) (by omega)
    clear ex_3
    refine va_put (D := D) (ci := 7) (v := .int x_3) (ty := .int) (C := RX8) (T := TX8) (N := 16) hx hb hts (fun _ h => List.mem_cons_of_mem _ (List.mem_append_right _ h)) tyX8 tyX8_ok nmX8 hown hK hP hD hS 0 rfl rfl 10 (by decide) (hts (.fieldLink RX8 62 "WinterWalkModel" "at" "I") (List.mem_of_getElem? (i := 1) rfl)) (fun _ h9 => h9) rfl (by decide +kernel) rfl rfl (Nat.le_of_ble_eq_true rfl) dX8_isSign_25 (fun H locs hP hD hS => ?_)
    have hP : va_P D kl [(h, .inr (7, [.ref sl, .int na, .ref zs, .ref ln, .ref ir, .ref tk, .int su, .int le, .ref tb, .int fu, .int x_3, .int pp, .ref tr, .int tc, .ref fz, .int nm])), (tb, .inl (cB, 120, .inl tbf))] H := hP
    have hD : va_D A [(h, .inr (7, [.ref sl, .int na, .ref zs, .ref ln, .ref ir, .ref tk, .int su, .int le, .ref tb, .int fu, .int x_3, .int pp, .ref tr, .int tc, .ref fz, .int nm])), (tb, .inl (cB, 120, .inl tbf))] := hD
    refine lv_iconst (v := 1) hx hb dX8_isSign_28 (by decide) ?_
    exact wr_z (v := 1) hx hb hr hlocks hS (fu, x_3, pp) (by exact ⟨Or.inl ⟨rfl, show ((0, fu.toInt, pp.toInt, x_3.toInt) : TPS) = tS (tbr tbf le.toInt) k.toInt (0, fu.toInt, pp.toInt, ap.toInt) from tS_ok rfl (by omega) (by omega)⟩, show ap.toInt ≤ x_3.toInt from by omega, show 0 ≤ (x_3 : Int32).toInt ∧ (x_3 : Int32).toInt ≤ 120 from by omega, show 0 ≤ (pp : Int32).toInt ∧ (pp : Int32).toInt ≤ 120 from by omega⟩) (hP.sub [0, 1] rfl) (hD.sub [0, 1] (by decide) rfl) dX8_isSign_29 rfl
  · have f_2 : ¬ r_1.toInt = k.toInt := zi_ne c_2
    refine lv_aload_n hx hb dX8_isSign_8 rfl (lv_at hl 0 rfl) ?_
    refine lv_iconst (v := 1) hx hb dX8_isSign_9 (by decide) ?_
    refine lv_aload_n hx hb dX8_isSign_10 rfl (lv_at hl 0 rfl) ?_
    refine va_get (D := D) (ci := 7) (v := .int ap) (C := RX8) (T := TX8) (N := 16) hx hb hts (fun _ h => List.mem_cons_of_mem _ (List.mem_append_right _ h)) hown hK hP 0 rfl rfl 10 (by decide) (hts (.fieldLink RX8 62 "WinterWalkModel" "at" "I") (List.mem_of_getElem? (i := 1) rfl)) (fun _ h9 => h9) rfl dX8_isSign_11 ?_
    have k_4 := (p_X8_fails l D cI cB cQ H.size h sl zs ln ir tk tb tr fz na su le fu ap pp tc nm 1 ap (by omega) (by omega))
    refine wc_i (WC := [(h, .inr (7, [.ref sl, .int na, .ref zs, .ref ln, .ref ir, .ref tk, .int su, .int le, .ref tb, .int fu, .int ap, .int pp, .ref tr, .int tc, .ref fz, .int nm]))]) (WR := [(tb, .inl (cB, 120, .inl tbf))]) (va_runV (As := [.int 1, .int ap]) (rest := []) ⟨hx, hb, hml, hown, hts⟩ k_4 (cwV 2 hts gX8_isSign_X8_fails rfl rfl rfl (by decide +kernel) ⟨Nat.le_of_ble_eq_true rfl, Nat.le_of_ble_eq_true rfl⟩) (wp_V hP hK hD hN [0] (by decide) rfl (ci := 7) rfl rfl) rfl rfl hl.1 rfl (lv_room (Nat.le_of_ble_eq_true rfl)) dX8_isSign_14 ⟨Nat.le_of_ble_eq_true rfl, Nat.le_of_ble_eq_true rfl⟩) hP hD hS hA [0] [1] rfl rfl (by decide) (by decide) (fun r_4 => pe2 (fun v4_0 v4_1 H locs hw_4 hP hD hS => ?_))
    clear k_4
    have hP : va_P D kl [(tb, .inl (cB, 120, .inl tbf)), (h, .inr (7, [.ref sl, .int na, .ref zs, .ref ln, .ref ir, .ref tk, .int su, .int le, .ref tb, .int v4_0, .int ap, .int v4_1, .ref tr, .int tc, .ref fz, .int nm]))] H := hP
    have hD : va_D A [(tb, .inl (cB, 120, .inl tbf)), (h, .inr (7, [.ref sl, .int na, .ref zs, .ref ln, .ref ir, .ref tk, .int su, .int le, .ref tb, .int v4_0, .int ap, .int v4_1, .ref tr, .int tc, .ref fz, .int nm]))] := hD
    obtain ⟨c4_0, c4_1, c4_2⟩ := hw_4
    have c4_1 : v4_0.toInt = (1 : Int) ∧ v4_1.toInt = ap.toInt := c4_1
    have c4_2 : 0 ≤ v4_1.toInt ∧ v4_1.toInt ≤ 120 := c4_2
    have e_4 := c4_0
    · subst e_4
      exact wr_z (v := 0) hx hb hr hlocks hS (v4_0, ap, v4_1) (by exact ⟨Or.inr (⟨rfl, show tfa (tS (tbr tbf le.toInt) k.toInt (0, fu.toInt, pp.toInt, ap.toInt)) v4_0.toInt v4_1.toInt from tS_r (by omega) (by omega) (by omega)⟩), show ap.toInt ≤ ap.toInt from by omega, show 0 ≤ (ap : Int32).toInt ∧ (ap : Int32).toInt ≤ 120 from by omega, show 0 ≤ (v4_1 : Int32).toInt ∧ (v4_1 : Int32).toInt ≤ 120 from by omega⟩) (hP.sub [1, 0] rfl) (hD.sub [1, 0] (by decide) rfl) dX8_isSign_17 rfl
set_option maxHeartbeats 4000000 in
set_option maxRecDepth 100000 in
theorem p_X8_isNumber (l : Launch) (D : va_G) (cI cB cQ : ClassId) (sz : Nat) (h : Nat) (sl : Nat) (zs : Nat) (ln : Nat) (ir : Nat) (tk : Nat) (tb : Nat) (tr : Nat) (fz : Nat) (na : Int32) (su : Int32) (le : Int32) (fu : Int32) (ap : Int32) (pp : Int32) (tc : Int32) (nm : Int32) (a : Int32) (b : Int32) (tbf : Nat → Int32) (h_na : 0 ≤ na.toInt ∧ na.toInt ≤ 24) (h_le : 0 ≤ le.toInt ∧ le.toInt ≤ 120) (h_ap : 0 ≤ ap.toInt ∧ ap.toInt ≤ 120) (h_tc : 0 ≤ tc.toInt ∧ tc.toInt ≤ 16) (h_pp : 0 ≤ pp.toInt ∧ pp.toInt ≤ 120) : mi l yX8_isNumber wsX8_isNumber ({ frames := 1, cells := 0, slots := 0, locals := 25 }) D cI cB cQ [.ref h, .int a, .int b] sz [(h, .inr (7, [.ref sl, .int na, .ref zs, .ref ln, .ref ir, .ref tk, .int su, .int le, .ref tb, .int fu, .int ap, .int pp, .ref tr, .int tc, .ref fz, .int nm])), (tb, .inl (cB, 120, .inl tbf))] (fun (r : Int32) (u : Int32 × Int32 × Int32 × Int32) => ((r = 1 ∧ ((0, u.1.toInt, u.2.2.1.toInt, u.2.1.toInt) : TPS) = tN (tbr tbf le.toInt) a.toInt b.toInt (0, fu.toInt, pp.toInt, ap.toInt) ∧ u.2.2.2.toInt = tV (tbr tbf le.toInt) a.toInt b.toInt (0, fu.toInt, pp.toInt, ap.toInt) ∧ (a.toInt ≤ u.2.2.2.toInt ∧ u.2.2.2.toInt ≤ b.toInt)) ∨ (r = 0 ∧ tfa (tN (tbr tbf le.toInt) a.toInt b.toInt (0, fu.toInt, pp.toInt, ap.toInt)) u.1.toInt u.2.2.1.toInt)) ∧ (ap.toInt ≤ u.2.1.toInt) ∧ (0 ≤ u.2.1.toInt ∧ u.2.1.toInt ≤ 120) ∧ (0 ≤ u.2.2.1.toInt ∧ u.2.2.1.toInt ≤ 120)) (fun u => [(h, .inr (7, [.ref sl, .int na, .ref zs, .ref ln, .ref ir, .ref tk, .int su, .int le, .ref tb, .int u.1, .int u.2.1, .int u.2.2.1, .ref tr, .int tc, .ref fz, .int u.2.2.2])), (tb, .inl (cB, 120, .inl tbf))]) 0 0 := by
  refine wm_i (cc := cX8_isNumber) (maxL := 5) (ret := (some .boolean)) (by decide) rfl (Nat.le_of_ble_eq_true rfl) ?_
  intro p e s m below meth c A ls hx hb hr hml hown hts hlocks hin hP hK hD hN hA hl hS
  have hown : s.vm.findClass RX8 = some m.cls := hown
  have hl : lv_has ls 5 [(0, .ref h), (1, .int a), (2, .int b)] := hl
  change W p l e ({ frames := 1, cells := 0, slots := 0, locals := 25 }) s m ([.ref h, .int a, .int b] : List Value).toArray below meth c s.heap [] 0 0 (MQ below (va_Qi (fun (r : Int32) (u : Int32 × Int32 × Int32 × Int32) => ((r = 1 ∧ ((0, u.1.toInt, u.2.2.1.toInt, u.2.1.toInt) : TPS) = tN (tbr tbf le.toInt) a.toInt b.toInt (0, fu.toInt, pp.toInt, ap.toInt) ∧ u.2.2.2.toInt = tV (tbr tbf le.toInt) a.toInt b.toInt (0, fu.toInt, pp.toInt, ap.toInt) ∧ (a.toInt ≤ u.2.2.2.toInt ∧ u.2.2.2.toInt ≤ b.toInt)) ∨ (r = 0 ∧ tfa (tN (tbr tbf le.toInt) a.toInt b.toInt (0, fu.toInt, pp.toInt, ap.toInt)) u.1.toInt u.2.2.1.toInt)) ∧ (ap.toInt ≤ u.2.1.toInt) ∧ (0 ≤ u.2.1.toInt ∧ u.2.1.toInt ≤ 120) ∧ (0 ≤ u.2.2.1.toInt ∧ u.2.2.1.toInt ≤ 120)) (fun u t => wb D A ((fun u => [(h, .inr (7, [.ref sl, .int na, .ref zs, .ref ln, .ref ir, .ref tk, .int su, .int le, .ref tb, .int u.1, .int u.2.1, .int u.2.2.1, .ref tr, .int tc, .ref fz, .int u.2.2.2])), (tb, .inl (cB, 120, .inl tbf))]) u) t) A) ([.ref h, .int a, .int b] : List Value).toArray s 0 0 A) (F0 m 0 ls [])
  refine lv_aload_n hx hb dX8_isNumber_0 rfl (lv_at hl 0 rfl) ?_
  refine va_get (D := D) (ci := 7) (v := .int ap) (C := RX8) (T := TX8) (N := 16) hx hb hts (fun _ h => List.mem_cons_of_mem _ (List.mem_append_right _ h)) hown hK hP 0 rfl rfl 10 (by decide) (hts (.fieldLink RX8 62 "WinterWalkModel" "at" "I") (List.mem_of_getElem? (i := 1) rfl)) (fun _ h9 => h9) rfl dX8_isNumber_1 ?_
  refine lv_istore_n (lv' := [(3, .int ap), (0, .ref h), (1, .int a), (2, .int b)]) hx hb dX8_isNumber_4 rfl hl (by decide) rfl (fun ls hl => ?_)
  refine lv_iconst (v := 0) hx hb dX8_isNumber_5 (by decide) ?_
  refine lv_istore (lv' := [(4, .int 0), (3, .int ap), (0, .ref h), (1, .int a), (2, .int b)]) hx hb dX8_isNumber_6 hl (by decide) rfl (fun ls hl => ?_)
  have hL8 : ∀ (nf : Nat) (t4_c8 : Int32) (g0_c8 : Int32) (H : Heap) (locs : List Loc) (ls : Array Slot), (0 ≤ t4_c8.toInt ∧ t4_c8.toInt ≤ 99) → (0 ≤ g0_c8.toInt ∧ g0_c8.toInt ≤ 120) → (ap.toInt ≤ g0_c8.toInt) → (tnv (tbr tbf le.toInt) ap.toInt g0_c8.toInt t4_c8.toInt) → (tdg (tbr tbf le.toInt) ap.toInt (g0_c8.toInt - ap.toInt)) → (120 - g0_c8.toInt).toNat < nf → va_P D kl [(h, .inr (7, [.ref sl, .int na, .ref zs, .ref ln, .ref ir, .ref tk, .int su, .int le, .ref tb, .int fu, .int g0_c8, .int pp, .ref tr, .int tc, .ref fz, .int nm])), (tb, .inl (cB, 120, .inl tbf))] H → va_D A [(h, .inr (7, [.ref sl, .int na, .ref zs, .ref ln, .ref ir, .ref tk, .int su, .int le, .ref tb, .int fu, .int g0_c8, .int pp, .ref tr, .int tc, .ref fz, .int nm])), (tb, .inl (cB, 120, .inl tbf))] → va_S A s.heap H locs → lv_has ls 5 [(4, .int t4_c8), (3, .int ap), (0, .ref h), (1, .int a), (2, .int b)] → W p l e ({ frames := 1, cells := 0, slots := 0, locals := 25 }) s m ([.ref h, .int a, .int b] : List Value).toArray below meth c H locs 0 0 (MQ below (va_Qi (fun (r : Int32) (u : Int32 × Int32 × Int32 × Int32) => ((r = 1 ∧ ((0, u.1.toInt, u.2.2.1.toInt, u.2.1.toInt) : TPS) = tN (tbr tbf le.toInt) a.toInt b.toInt (0, fu.toInt, pp.toInt, ap.toInt) ∧ u.2.2.2.toInt = tV (tbr tbf le.toInt) a.toInt b.toInt (0, fu.toInt, pp.toInt, ap.toInt) ∧ (a.toInt ≤ u.2.2.2.toInt ∧ u.2.2.2.toInt ≤ b.toInt)) ∨ (r = 0 ∧ tfa (tN (tbr tbf le.toInt) a.toInt b.toInt (0, fu.toInt, pp.toInt, ap.toInt)) u.1.toInt u.2.2.1.toInt)) ∧ (ap.toInt ≤ u.2.1.toInt) ∧ (0 ≤ u.2.1.toInt ∧ u.2.1.toInt ≤ 120) ∧ (0 ≤ u.2.2.1.toInt ∧ u.2.2.1.toInt ≤ 120)) (fun u t => wb D A ((fun u => [(h, .inr (7, [.ref sl, .int na, .ref zs, .ref ln, .ref ir, .ref tk, .int su, .int le, .ref tb, .int u.1, .int u.2.1, .int u.2.2.1, .ref tr, .int tc, .ref fz, .int u.2.2.2])), (tb, .inl (cB, 120, .inl tbf))]) u) t) A) ([.ref h, .int a, .int b] : List Value).toArray s 0 0 A) (F0 m 8 ls []) := by
    intro nf
    induction nf with
    | zero =>
      intro t4_c8 g0_c8 H locs ls i_t4_c8 i_g0_c8 j0_c8 q0_c8 q1_c8 hm
      exact absurd hm (Nat.not_lt_zero _)
    | succ nf ih8 =>
      intro t4_c8 g0_c8 H locs ls i_t4_c8 i_g0_c8 j0_c8 q0_c8 q1_c8 hm8 hP hD hS hl
      refine lv_aload_n hx hb dX8_isNumber_8 rfl (lv_at hl 2 rfl) ?_
      have k_1 := (p_X8_next l D cI cB cQ H.size h sl zs ln ir tk tb tr fz na su le fu g0_c8 pp tc nm tbf (by omega) (by omega) (by omega) (by omega) (by omega))
      refine wc_i (WC := [(h, .inr (7, [.ref sl, .int na, .ref zs, .ref ln, .ref ir, .ref tk, .int su, .int le, .ref tb, .int fu, .int g0_c8, .int pp, .ref tr, .int tc, .ref fz, .int nm])), (tb, .inl (cB, 120, .inl tbf))]) (WR := []) (va_runV (As := []) (rest := []) ⟨hx, hb, hml, hown, hts⟩ k_1 (cwV 0 hts gX8_isNumber_X8_next rfl rfl rfl (by decide +kernel) ⟨Nat.le_of_ble_eq_true rfl, Nat.le_of_ble_eq_true rfl⟩) (wp_V hP hK hD hN [0, 1] (by decide) rfl (ci := 7) rfl rfl) rfl rfl hl.1 rfl (lv_room (Nat.le_of_ble_eq_true rfl)) dX8_isNumber_9 ⟨Nat.le_of_ble_eq_true rfl, Nat.le_of_ble_eq_true rfl⟩) hP hD hS hA [0, 1] [] rfl rfl (by decide) (by decide) (fun r_1 u_1 H locs hw_1 hP hD hS => ?_)
      clear k_1
      have hP : va_P D kl [(h, .inr (7, [.ref sl, .int na, .ref zs, .ref ln, .ref ir, .ref tk, .int su, .int le, .ref tb, .int fu, .int g0_c8, .int pp, .ref tr, .int tc, .ref fz, .int nm])), (tb, .inl (cB, 120, .inl tbf))] H := hP
      have hD : va_D A [(h, .inr (7, [.ref sl, .int na, .ref zs, .ref ln, .ref ir, .ref tk, .int su, .int le, .ref tb, .int fu, .int g0_c8, .int pp, .ref tr, .int tc, .ref fz, .int nm])), (tb, .inl (cB, 120, .inl tbf))] := hD
      have c1_0 := hw_1
      have c1_0 : (r_1.toInt = tbr tbf le.toInt g0_c8.toInt ∨ (r_1.toInt < 0 ∧ tbr tbf le.toInt g0_c8.toInt = (-1))) ∧ (r_1.toInt = (-1) ∨ g0_c8.toInt < le.toInt) := c1_0
      refine lv_i2l (v := (r_1.toInt64)) hx hb dX8_isNumber_12 rfl ?_
      refine lv_ldc2 (v := 48) hx hb hown (hts (.constantLong RX8 79 (48)) (List.mem_of_getElem? (i := 2) rfl)) dX8_isNumber_13 ?_
      refine lv_ldc2 (v := 57) hx hb hown (hts (.constantLong RX8 81 (57)) (List.mem_of_getElem? (i := 3) rfl)) dX8_isNumber_16 ?_
      have k_2 := (g_X8_in l D cI cB cQ H.size (r_1.toInt64) 48 57)
      refine wc_i (WC := []) (WR := [(h, .inr (7, [.ref sl, .int na, .ref zs, .ref ln, .ref ir, .ref tk, .int su, .int le, .ref tb, .int fu, .int g0_c8, .int pp, .ref tr, .int tc, .ref fz, .int nm])), (tb, .inl (cB, 120, .inl tbf))]) (va_runS (As := [.long (r_1.toInt64), .long 48, .long 57]) (rest := []) ⟨hx, hb, hml, hown, hts⟩ k_2 (va_cwS 3 hts gX8_isNumber_X8_in rfl rfl rfl (by decide +kernel) ⟨Nat.le_of_ble_eq_true rfl, Nat.le_of_ble_eq_true rfl⟩) (wp_S hP hK hD hN [] (by decide) rfl) rfl rfl hl.1 rfl (lv_room (Nat.le_of_ble_eq_true rfl)) dX8_isNumber_19 ⟨Nat.le_of_ble_eq_true rfl, Nat.le_of_ble_eq_true rfl⟩) hP hD hS hA [] [0, 1] rfl rfl (by decide) (by decide) (fun r_2 u_2 H locs hw_2 hP hD hS => ?_)
      clear k_2
      have hP : va_P D kl [(h, .inr (7, [.ref sl, .int na, .ref zs, .ref ln, .ref ir, .ref tk, .int su, .int le, .ref tb, .int fu, .int g0_c8, .int pp, .ref tr, .int tc, .ref fz, .int nm])), (tb, .inl (cB, 120, .inl tbf))] H := hP
      have hD : va_D A [(h, .inr (7, [.ref sl, .int na, .ref zs, .ref ln, .ref ir, .ref tk, .int su, .int le, .ref tb, .int fu, .int g0_c8, .int pp, .ref tr, .int tc, .ref fz, .int nm])), (tb, .inl (cB, 120, .inl tbf))] := hD
      have c2_0 := hw_2
      rcases c2_0 with ⟨e_2, f_2⟩ | ⟨e_2, f_2⟩
      · subst e_2
        have f_2 : (48 : Int) ≤ r_1.toInt ∧ r_1.toInt ≤ (57 : Int) := by
          have h8 := f_2
          try simp only [zl_of] at h8
          exact h8
        refine lv_if_eq (tgt := 68) hx hb dX8_isNumber_22 (by decide) (fun c9 => absurd c9 (by decide)) (fun _ => ?_)
        refine lv_aload_n hx hb dX8_isNumber_25 rfl (lv_at hl 2 rfl) ?_
        refine va_get (D := D) (ci := 7) (v := .int g0_c8) (C := RX8) (T := TX8) (N := 16) hx hb hts (fun _ h => List.mem_cons_of_mem _ (List.mem_append_right _ h)) hown hK hP 0 rfl rfl 10 (by decide) (hts (.fieldLink RX8 62 "WinterWalkModel" "at" "I") (List.mem_of_getElem? (i := 1) rfl)) (fun _ h9 => h9) rfl dX8_isNumber_26 ?_
        refine lv_iload_n hx hb dX8_isNumber_29 rfl (lv_at hl 1 rfl) ?_
        refine lv_isub hx hb dX8_isNumber_30 ?_
        refine lv_topi (fun x_3 ex_3 => ?_)
        have e_3 : x_3.toInt = g0_c8.toInt - ap.toInt := by rw [ex_3]; exact zi_sub (rfl) (rfl) (by omega) (by omega)
        clear ex_3
        refine lv_iconst (v := 2) hx hb dX8_isNumber_31 (by decide) ?_
        refine lv_icmp_ge (tgt := 51) hx hb dX8_isNumber_32 (by decide) (fun c_4 => ?_) (fun c_4 => ?_)
        · have f_4 : 2 ≤ x_3.toInt := zi_le c_4
          refine lv_iload hx hb dX8_isNumber_51 (lv_at hl 0 rfl) ?_
          refine lv_istore (lv' := [(4, .int t4_c8), (3, .int ap), (0, .ref h), (1, .int a), (2, .int b)]) hx hb dX8_isNumber_53 hl (by decide) rfl (fun ls hl => ?_)
          refine lv_aload_n hx hb dX8_isNumber_55 rfl (lv_at hl 2 rfl) ?_
          refine lv_dup hx hb dX8_isNumber_56 rfl ?_
          refine va_get (D := D) (ci := 7) (v := .int g0_c8) (C := RX8) (T := TX8) (N := 16) hx hb hts (fun _ h => List.mem_cons_of_mem _ (List.mem_append_right _ h)) hown hK hP 0 rfl rfl 10 (by decide) (hts (.fieldLink RX8 62 "WinterWalkModel" "at" "I") (List.mem_of_getElem? (i := 1) rfl)) (fun _ h9 => h9) rfl dX8_isNumber_57 ?_
          refine lv_iconst (v := 1) hx hb dX8_isNumber_60 (by decide) ?_
          refine lv_iadd hx hb dX8_isNumber_61 ?_
          refine lv_topi (fun x_5 ex_5 => ?_)
          have e_5 : x_5.toInt = g0_c8.toInt + 1 := by rw [ex_5]; exact zi_add (rfl) (by decide) (by omega) (by omega)
          clear ex_5
          refine va_put (D := D) (ci := 7) (v := .int x_5) (ty := .int) (C := RX8) (T := TX8) (N := 16) hx hb hts (fun _ h => List.mem_cons_of_mem _ (List.mem_append_right _ h)) tyX8 tyX8_ok nmX8 hown hK hP hD hS 0 rfl rfl 10 (by decide) (hts (.fieldLink RX8 62 "WinterWalkModel" "at" "I") (List.mem_of_getElem? (i := 1) rfl)) (fun _ h9 => h9) rfl (by decide +kernel) rfl rfl (Nat.le_of_ble_eq_true rfl) dX8_isNumber_62 (fun H locs hP hD hS => ?_)
          have hP : va_P D kl [(h, .inr (7, [.ref sl, .int na, .ref zs, .ref ln, .ref ir, .ref tk, .int su, .int le, .ref tb, .int fu, .int x_5, .int pp, .ref tr, .int tc, .ref fz, .int nm])), (tb, .inl (cB, 120, .inl tbf))] H := hP
          have hD : va_D A [(h, .inr (7, [.ref sl, .int na, .ref zs, .ref ln, .ref ir, .ref tk, .int su, .int le, .ref tb, .int fu, .int x_5, .int pp, .ref tr, .int tc, .ref fz, .int nm])), (tb, .inl (cB, 120, .inl tbf))] := hD
          refine lv_goto (tgt := 8) hx hb dX8_isNumber_65 (by decide) ?_
          exact ih8 t4_c8 x_5 _ _ _ (show 0 ≤ t4_c8.toInt ∧ t4_c8.toInt ≤ 99 from by omega) (show 0 ≤ x_5.toInt ∧ x_5.toInt ≤ 120 from by omega) (show ap.toInt ≤ x_5.toInt from by omega) (tnv_k q0_c8 (by omega) (by omega)) (tdg_s (i := g0_c8.toInt) q1_c8 (by omega) (by omega) (by omega) (by omega)) (by omega) (hP.sub [0, 1] rfl) (hD.sub [0, 1] (by decide) rfl) hS (lv_sub hl [0, 1, 2, 3, 4] rfl)
        · have f_4 : ¬ 2 ≤ x_3.toInt := zi_nle c_4
          refine lv_bipush (v := 10) hx hb dX8_isNumber_35 (by decide) ?_
          refine lv_iload hx hb dX8_isNumber_37 (lv_at hl 0 rfl) ?_
          refine lv_imul hx hb dX8_isNumber_39 ?_
          refine lv_topi (fun x_6 ex_6 => ?_)
          have e_6 : x_6.toInt = 10 * t4_c8.toInt := by rw [ex_6]; exact zi_mul (by decide) (rfl) (by omega) (by omega)
          clear ex_6
          refine lv_aload_n hx hb dX8_isNumber_40 rfl (lv_at hl 2 rfl) ?_
          have k_7 := (p_X8_next l D cI cB cQ H.size h sl zs ln ir tk tb tr fz na su le fu g0_c8 pp tc nm tbf (by omega) (by omega) (by omega) (by omega) (by omega))
          refine wc_i (WC := [(h, .inr (7, [.ref sl, .int na, .ref zs, .ref ln, .ref ir, .ref tk, .int su, .int le, .ref tb, .int fu, .int g0_c8, .int pp, .ref tr, .int tc, .ref fz, .int nm])), (tb, .inl (cB, 120, .inl tbf))]) (WR := []) (va_runV (As := []) (rest := [.int x_6]) ⟨hx, hb, hml, hown, hts⟩ k_7 (cwV 0 hts gX8_isNumber_X8_next rfl rfl rfl (by decide +kernel) ⟨Nat.le_of_ble_eq_true rfl, Nat.le_of_ble_eq_true rfl⟩) (wp_V hP hK hD hN [0, 1] (by decide) rfl (ci := 7) rfl rfl) rfl rfl hl.1 rfl (lv_room (Nat.le_of_ble_eq_true rfl)) dX8_isNumber_41 ⟨Nat.le_of_ble_eq_true rfl, Nat.le_of_ble_eq_true rfl⟩) hP hD hS hA [0, 1] [] rfl rfl (by decide) (by decide) (fun r_7 u_7 H locs hw_7 hP hD hS => ?_)
          clear k_7
          have hP : va_P D kl [(h, .inr (7, [.ref sl, .int na, .ref zs, .ref ln, .ref ir, .ref tk, .int su, .int le, .ref tb, .int fu, .int g0_c8, .int pp, .ref tr, .int tc, .ref fz, .int nm])), (tb, .inl (cB, 120, .inl tbf))] H := hP
          have hD : va_D A [(h, .inr (7, [.ref sl, .int na, .ref zs, .ref ln, .ref ir, .ref tk, .int su, .int le, .ref tb, .int fu, .int g0_c8, .int pp, .ref tr, .int tc, .ref fz, .int nm])), (tb, .inl (cB, 120, .inl tbf))] := hD
          have c7_0 := hw_7
          have c7_0 : (r_7.toInt = tbr tbf le.toInt g0_c8.toInt ∨ (r_7.toInt < 0 ∧ tbr tbf le.toInt g0_c8.toInt = (-1))) ∧ (r_7.toInt = (-1) ∨ g0_c8.toInt < le.toInt) := c7_0
          have hb_7 : 48 ≤ r_7.toInt ∧ r_7.toInt ≤ 57 := by omega
          have hn_7 := tnv_s (b := r_7.toInt) (n' := t4_c8.toInt * 10 + r_7.toInt - 48) (i' := g0_c8.toInt + 1) q0_c8 (by omega) (by omega) rfl rfl
          have hd_7 := tdg_s (i := g0_c8.toInt) (j' := g0_c8.toInt + 1 - ap.toInt) q1_c8 (by omega) (by omega) (by omega) (by omega)
          have hg_7 := tnv_g hn_7 hd_7
          refine lv_iadd hx hb dX8_isNumber_44 ?_
          refine lv_topi (fun x_8 ex_8 => ?_)
          have e_8 : x_8.toInt = x_6.toInt + r_7.toInt := by rw [ex_8]; exact zi_add (rfl) (rfl) (by omega) (by omega)
          clear ex_8
          refine lv_bipush (v := 48) hx hb dX8_isNumber_45 (by decide) ?_
          refine lv_isub hx hb dX8_isNumber_47 ?_
          refine lv_topi (fun x_9 ex_9 => ?_)
          have e_9 : x_9.toInt = x_8.toInt - 48 := by rw [ex_9]; exact zi_sub (rfl) (by decide) (by omega) (by omega)
          clear ex_9
          refine lv_goto (tgt := 53) hx hb dX8_isNumber_48 (by decide) ?_
          refine lv_istore (lv' := [(4, .int x_9), (3, .int ap), (0, .ref h), (1, .int a), (2, .int b)]) hx hb dX8_isNumber_53 hl (by decide) rfl (fun ls hl => ?_)
          refine lv_aload_n hx hb dX8_isNumber_55 rfl (lv_at hl 2 rfl) ?_
          refine lv_dup hx hb dX8_isNumber_56 rfl ?_
          refine va_get (D := D) (ci := 7) (v := .int g0_c8) (C := RX8) (T := TX8) (N := 16) hx hb hts (fun _ h => List.mem_cons_of_mem _ (List.mem_append_right _ h)) hown hK hP 0 rfl rfl 10 (by decide) (hts (.fieldLink RX8 62 "WinterWalkModel" "at" "I") (List.mem_of_getElem? (i := 1) rfl)) (fun _ h9 => h9) rfl dX8_isNumber_57 ?_
          refine lv_iconst (v := 1) hx hb dX8_isNumber_60 (by decide) ?_
          refine lv_iadd hx hb dX8_isNumber_61 ?_
          refine lv_topi (fun x_10 ex_10 => ?_)
          have e_10 : x_10.toInt = g0_c8.toInt + 1 := by rw [ex_10]; exact zi_add (rfl) (by decide) (by omega) (by omega)
          clear ex_10
          refine va_put (D := D) (ci := 7) (v := .int x_10) (ty := .int) (C := RX8) (T := TX8) (N := 16) hx hb hts (fun _ h => List.mem_cons_of_mem _ (List.mem_append_right _ h)) tyX8 tyX8_ok nmX8 hown hK hP hD hS 0 rfl rfl 10 (by decide) (hts (.fieldLink RX8 62 "WinterWalkModel" "at" "I") (List.mem_of_getElem? (i := 1) rfl)) (fun _ h9 => h9) rfl (by decide +kernel) rfl rfl (Nat.le_of_ble_eq_true rfl) dX8_isNumber_62 (fun H locs hP hD hS => ?_)
          have hP : va_P D kl [(h, .inr (7, [.ref sl, .int na, .ref zs, .ref ln, .ref ir, .ref tk, .int su, .int le, .ref tb, .int fu, .int x_10, .int pp, .ref tr, .int tc, .ref fz, .int nm])), (tb, .inl (cB, 120, .inl tbf))] H := hP
          have hD : va_D A [(h, .inr (7, [.ref sl, .int na, .ref zs, .ref ln, .ref ir, .ref tk, .int su, .int le, .ref tb, .int fu, .int x_10, .int pp, .ref tr, .int tc, .ref fz, .int nm])), (tb, .inl (cB, 120, .inl tbf))] := hD
          refine lv_goto (tgt := 8) hx hb dX8_isNumber_65 (by decide) ?_
          exact ih8 x_9 x_10 _ _ _ (show 0 ≤ x_9.toInt ∧ x_9.toInt ≤ 99 from by omega) (show 0 ≤ x_10.toInt ∧ x_10.toInt ≤ 120 from by omega) (show ap.toInt ≤ x_10.toInt from by omega) (tnv_s (b := r_7.toInt) q0_c8 (by omega) (by omega) (by omega) (by omega)) (tdg_s (i := g0_c8.toInt) q1_c8 (by omega) (by omega) (by omega) (by omega)) (by omega) (hP.sub [0, 1] rfl) (hD.sub [0, 1] (by decide) rfl) hS (lv_sub hl [0, 1, 2, 3, 4] rfl)
      · subst e_2
        have f_2 : ¬ ((48 : Int) ≤ r_1.toInt ∧ r_1.toInt ≤ (57 : Int)) := by
          have h8 := f_2
          try simp only [zl_of] at h8
          exact h8
        refine lv_if_eq (tgt := 68) hx hb dX8_isNumber_22 (by decide) (fun _ => ?_) (fun c9 => absurd (by decide) c9)
        refine lv_aload_n hx hb dX8_isNumber_68 rfl (lv_at hl 2 rfl) ?_
        refine va_get (D := D) (ci := 7) (v := .int g0_c8) (C := RX8) (T := TX8) (N := 16) hx hb hts (fun _ h => List.mem_cons_of_mem _ (List.mem_append_right _ h)) hown hK hP 0 rfl rfl 10 (by decide) (hts (.fieldLink RX8 62 "WinterWalkModel" "at" "I") (List.mem_of_getElem? (i := 1) rfl)) (fun _ h9 => h9) rfl dX8_isNumber_69 ?_
        refine lv_iload_n hx hb dX8_isNumber_72 rfl (lv_at hl 1 rfl) ?_
        refine lv_isub hx hb dX8_isNumber_73 ?_
        refine lv_topi (fun x_11 ex_11 => ?_)
        have e_11 : x_11.toInt = g0_c8.toInt - ap.toInt := by rw [ex_11]; exact zi_sub (rfl) (rfl) (by omega) (by omega)
        clear ex_11
        refine lv_i2l (v := (x_11.toInt64)) hx hb dX8_isNumber_74 rfl ?_
        refine lv_lconst (v := 1) hx hb dX8_isNumber_75 (by decide) ?_
        refine lv_ldc2 (v := 2) hx hb hown (hts (.constantLong RX8 46 (2)) (List.mem_of_getElem? (i := 4) rfl)) dX8_isNumber_76 ?_
        have k_12 := (g_X8_in l D cI cB cQ H.size (x_11.toInt64) 1 2)
        refine wc_i (WC := []) (WR := [(h, .inr (7, [.ref sl, .int na, .ref zs, .ref ln, .ref ir, .ref tk, .int su, .int le, .ref tb, .int fu, .int g0_c8, .int pp, .ref tr, .int tc, .ref fz, .int nm])), (tb, .inl (cB, 120, .inl tbf))]) (va_runS (As := [.long (x_11.toInt64), .long 1, .long 2]) (rest := []) ⟨hx, hb, hml, hown, hts⟩ k_12 (va_cwS 3 hts gX8_isNumber_X8_in rfl rfl rfl (by decide +kernel) ⟨Nat.le_of_ble_eq_true rfl, Nat.le_of_ble_eq_true rfl⟩) (wp_S hP hK hD hN [] (by decide) rfl) rfl rfl hl.1 rfl (lv_room (Nat.le_of_ble_eq_true rfl)) dX8_isNumber_79 ⟨Nat.le_of_ble_eq_true rfl, Nat.le_of_ble_eq_true rfl⟩) hP hD hS hA [] [0, 1] rfl rfl (by decide) (by decide) (fun r_12 u_12 H locs hw_12 hP hD hS => ?_)
        clear k_12
        have hP : va_P D kl [(h, .inr (7, [.ref sl, .int na, .ref zs, .ref ln, .ref ir, .ref tk, .int su, .int le, .ref tb, .int fu, .int g0_c8, .int pp, .ref tr, .int tc, .ref fz, .int nm])), (tb, .inl (cB, 120, .inl tbf))] H := hP
        have hD : va_D A [(h, .inr (7, [.ref sl, .int na, .ref zs, .ref ln, .ref ir, .ref tk, .int su, .int le, .ref tb, .int fu, .int g0_c8, .int pp, .ref tr, .int tc, .ref fz, .int nm])), (tb, .inl (cB, 120, .inl tbf))] := hD
        have c12_0 := hw_12
        rcases c12_0 with ⟨e_12, f_12⟩ | ⟨e_12, f_12⟩
        · subst e_12
          have f_12 : (1 : Int) ≤ x_11.toInt ∧ x_11.toInt ≤ (2 : Int) := by
            have h8 := f_12
            try simp only [zl_of] at h8
            exact h8
          refine lv_if_ne (tgt := 92) hx hb dX8_isNumber_82 (by decide) (fun _ => ?_) (fun c9 => absurd c9 (by decide))
          refine lv_aload_n hx hb dX8_isNumber_92 rfl (lv_at hl 2 rfl) ?_
          refine lv_iload hx hb dX8_isNumber_93 (lv_at hl 0 rfl) ?_
          refine va_put (D := D) (ci := 7) (v := .int t4_c8) (ty := .int) (C := RX8) (T := TX8) (N := 16) hx hb hts (fun _ h => List.mem_cons_of_mem _ (List.mem_append_right _ h)) tyX8 tyX8_ok nmX8 hown hK hP hD hS 0 rfl rfl 15 (by decide) (hts (.fieldLink RX8 83 "WinterWalkModel" "number" "I") (List.mem_of_getElem? (i := 5) rfl)) (fun _ h9 => h9) rfl (by decide +kernel) rfl rfl (Nat.le_of_ble_eq_true rfl) dX8_isNumber_95 (fun H locs hP hD hS => ?_)
          have hP : va_P D kl [(h, .inr (7, [.ref sl, .int na, .ref zs, .ref ln, .ref ir, .ref tk, .int su, .int le, .ref tb, .int fu, .int g0_c8, .int pp, .ref tr, .int tc, .ref fz, .int t4_c8])), (tb, .inl (cB, 120, .inl tbf))] H := hP
          have hD : va_D A [(h, .inr (7, [.ref sl, .int na, .ref zs, .ref ln, .ref ir, .ref tk, .int su, .int le, .ref tb, .int fu, .int g0_c8, .int pp, .ref tr, .int tc, .ref fz, .int t4_c8])), (tb, .inl (cB, 120, .inl tbf))] := hD
          refine lv_iload hx hb dX8_isNumber_98 (lv_at hl 0 rfl) ?_
          refine lv_i2l (v := (t4_c8.toInt64)) hx hb dX8_isNumber_100 rfl ?_
          refine lv_iload_n hx hb dX8_isNumber_101 rfl (lv_at hl 3 rfl) ?_
          refine lv_i2l (v := (a.toInt64)) hx hb dX8_isNumber_102 rfl ?_
          refine lv_iload_n hx hb dX8_isNumber_103 rfl (lv_at hl 4 rfl) ?_
          refine lv_i2l (v := (b.toInt64)) hx hb dX8_isNumber_104 rfl ?_
          have k_13 := (g_X8_in l D cI cB cQ H.size (t4_c8.toInt64) (a.toInt64) (b.toInt64))
          refine wc_i (WC := []) (WR := [(h, .inr (7, [.ref sl, .int na, .ref zs, .ref ln, .ref ir, .ref tk, .int su, .int le, .ref tb, .int fu, .int g0_c8, .int pp, .ref tr, .int tc, .ref fz, .int t4_c8])), (tb, .inl (cB, 120, .inl tbf))]) (va_runS (As := [.long (t4_c8.toInt64), .long (a.toInt64), .long (b.toInt64)]) (rest := []) ⟨hx, hb, hml, hown, hts⟩ k_13 (va_cwS 3 hts gX8_isNumber_X8_in rfl rfl rfl (by decide +kernel) ⟨Nat.le_of_ble_eq_true rfl, Nat.le_of_ble_eq_true rfl⟩) (wp_S hP hK hD hN [] (by decide) rfl) rfl rfl hl.1 rfl (lv_room (Nat.le_of_ble_eq_true rfl)) dX8_isNumber_105 ⟨Nat.le_of_ble_eq_true rfl, Nat.le_of_ble_eq_true rfl⟩) hP hD hS hA [] [0, 1] rfl rfl (by decide) (by decide) (fun r_13 u_13 H locs hw_13 hP hD hS => ?_)
          clear k_13
          have hP : va_P D kl [(h, .inr (7, [.ref sl, .int na, .ref zs, .ref ln, .ref ir, .ref tk, .int su, .int le, .ref tb, .int fu, .int g0_c8, .int pp, .ref tr, .int tc, .ref fz, .int t4_c8])), (tb, .inl (cB, 120, .inl tbf))] H := hP
          have hD : va_D A [(h, .inr (7, [.ref sl, .int na, .ref zs, .ref ln, .ref ir, .ref tk, .int su, .int le, .ref tb, .int fu, .int g0_c8, .int pp, .ref tr, .int tc, .ref fz, .int t4_c8])), (tb, .inl (cB, 120, .inl tbf))] := hD
          have c13_0 := hw_13
          rcases c13_0 with ⟨e_13, f_13⟩ | ⟨e_13, f_13⟩
          · subst e_13
            have f_13 : a.toInt ≤ t4_c8.toInt ∧ t4_c8.toInt ≤ b.toInt := by
              have h8 := f_13
              try simp only [zl_of] at h8
              exact h8
            refine lv_if_ne (tgt := 120) hx hb dX8_isNumber_108 (by decide) (fun _ => ?_) (fun c9 => absurd c9 (by decide))
            refine lv_iconst (v := 1) hx hb dX8_isNumber_120 (by decide) ?_
            refine lv_goto (tgt := 125) hx hb dX8_isNumber_121 (by decide) ?_
            exact wr_z (v := 1) hx hb hr hlocks hS (fu, g0_c8, pp, t4_c8) (by exact ⟨Or.inl ⟨rfl, show ((0, fu.toInt, pp.toInt, g0_c8.toInt) : TPS) = tN (tbr tbf le.toInt) a.toInt b.toInt (0, fu.toInt, pp.toInt, ap.toInt) ∧ t4_c8.toInt = tV (tbr tbf le.toInt) a.toInt b.toInt (0, fu.toInt, pp.toInt, ap.toInt) ∧ (a.toInt ≤ t4_c8.toInt ∧ t4_c8.toInt ≤ b.toInt) from by have h9 := tdg_n (i := g0_c8.toInt) q1_c8 (by omega) (by omega) (by omega); exact ⟨tN_o rfl (by omega) (tnv_e (t := g0_c8.toInt - ap.toInt) q0_c8 (by omega) (by omega) (by omega)) (by omega) (by omega), tV_o rfl (by omega) (tnv_e (t := g0_c8.toInt - ap.toInt) q0_c8 (by omega) (by omega) (by omega)) (by omega), by omega⟩⟩, show ap.toInt ≤ g0_c8.toInt from by omega, show 0 ≤ (g0_c8 : Int32).toInt ∧ (g0_c8 : Int32).toInt ≤ 120 from by omega, show 0 ≤ (pp : Int32).toInt ∧ (pp : Int32).toInt ≤ 120 from by omega⟩) (hP.sub [0, 1] rfl) (hD.sub [0, 1] (by decide) rfl) dX8_isNumber_125 rfl
          · subst e_13
            have f_13 : ¬ (a.toInt ≤ t4_c8.toInt ∧ t4_c8.toInt ≤ b.toInt) := by
              have h8 := f_13
              try simp only [zl_of] at h8
              exact h8
            refine lv_if_ne (tgt := 120) hx hb dX8_isNumber_108 (by decide) (fun c9 => absurd (by decide) c9) (fun _ => ?_)
            refine lv_aload_n hx hb dX8_isNumber_111 rfl (lv_at hl 2 rfl) ?_
            refine lv_iconst (v := 2) hx hb dX8_isNumber_112 (by decide) ?_
            refine lv_iload_n hx hb dX8_isNumber_113 rfl (lv_at hl 1 rfl) ?_
            have k_14 := (p_X8_fails l D cI cB cQ H.size h sl zs ln ir tk tb tr fz na su le fu g0_c8 pp tc t4_c8 2 ap (by omega) (by omega))
            refine wc_i (WC := [(h, .inr (7, [.ref sl, .int na, .ref zs, .ref ln, .ref ir, .ref tk, .int su, .int le, .ref tb, .int fu, .int g0_c8, .int pp, .ref tr, .int tc, .ref fz, .int t4_c8]))]) (WR := [(tb, .inl (cB, 120, .inl tbf))]) (va_runV (As := [.int 2, .int ap]) (rest := []) ⟨hx, hb, hml, hown, hts⟩ k_14 (cwV 2 hts gX8_isNumber_X8_fails rfl rfl rfl (by decide +kernel) ⟨Nat.le_of_ble_eq_true rfl, Nat.le_of_ble_eq_true rfl⟩) (wp_V hP hK hD hN [0] (by decide) rfl (ci := 7) rfl rfl) rfl rfl hl.1 rfl (lv_room (Nat.le_of_ble_eq_true rfl)) dX8_isNumber_114 ⟨Nat.le_of_ble_eq_true rfl, Nat.le_of_ble_eq_true rfl⟩) hP hD hS hA [0] [1] rfl rfl (by decide) (by decide) (fun r_14 => pe2 (fun v14_0 v14_1 H locs hw_14 hP hD hS => ?_))
            clear k_14
            have hP : va_P D kl [(tb, .inl (cB, 120, .inl tbf)), (h, .inr (7, [.ref sl, .int na, .ref zs, .ref ln, .ref ir, .ref tk, .int su, .int le, .ref tb, .int v14_0, .int g0_c8, .int v14_1, .ref tr, .int tc, .ref fz, .int t4_c8]))] H := hP
            have hD : va_D A [(tb, .inl (cB, 120, .inl tbf)), (h, .inr (7, [.ref sl, .int na, .ref zs, .ref ln, .ref ir, .ref tk, .int su, .int le, .ref tb, .int v14_0, .int g0_c8, .int v14_1, .ref tr, .int tc, .ref fz, .int t4_c8]))] := hD
            obtain ⟨c14_0, c14_1, c14_2⟩ := hw_14
            have c14_1 : v14_0.toInt = (2 : Int) ∧ v14_1.toInt = ap.toInt := c14_1
            have c14_2 : 0 ≤ v14_1.toInt ∧ v14_1.toInt ≤ 120 := c14_2
            have e_14 := c14_0
            · subst e_14
              refine lv_if_eq (tgt := 124) hx hb dX8_isNumber_117 (by decide) (fun _ => ?_) (fun c9 => absurd (by decide) c9)
              refine lv_iconst (v := 0) hx hb dX8_isNumber_124 (by decide) ?_
              exact wr_z (v := 0) hx hb hr hlocks hS (v14_0, g0_c8, v14_1, t4_c8) (by exact ⟨Or.inr (⟨rfl, show tfa (tN (tbr tbf le.toInt) a.toInt b.toInt (0, fu.toInt, pp.toInt, ap.toInt)) v14_0.toInt v14_1.toInt from by have h9 := tdg_n (i := g0_c8.toInt) q1_c8 (by omega) (by omega) (by omega); exact tN_r2 (by omega) (tnv_e (t := g0_c8.toInt - ap.toInt) q0_c8 (by omega) (by omega) (by omega)) (by omega) (by omega) (by omega)⟩), show ap.toInt ≤ g0_c8.toInt from by omega, show 0 ≤ (g0_c8 : Int32).toInt ∧ (g0_c8 : Int32).toInt ≤ 120 from by omega, show 0 ≤ (v14_1 : Int32).toInt ∧ (v14_1 : Int32).toInt ≤ 120 from by omega⟩) (hP.sub [1, 0] rfl) (hD.sub [1, 0] (by decide) rfl) dX8_isNumber_125 rfl
        · subst e_12
          have f_12 : ¬ ((1 : Int) ≤ x_11.toInt ∧ x_11.toInt ≤ (2 : Int)) := by
            have h8 := f_12
            try simp only [zl_of] at h8
            exact h8
          refine lv_if_ne (tgt := 92) hx hb dX8_isNumber_82 (by decide) (fun c9 => absurd (by decide) c9) (fun _ => ?_)
          refine lv_aload_n hx hb dX8_isNumber_85 rfl (lv_at hl 2 rfl) ?_
          refine lv_iconst (v := 1) hx hb dX8_isNumber_86 (by decide) ?_
          refine lv_iload_n hx hb dX8_isNumber_87 rfl (lv_at hl 1 rfl) ?_
          have k_15 := (p_X8_fails l D cI cB cQ H.size h sl zs ln ir tk tb tr fz na su le fu g0_c8 pp tc nm 1 ap (by omega) (by omega))
          refine wc_i (WC := [(h, .inr (7, [.ref sl, .int na, .ref zs, .ref ln, .ref ir, .ref tk, .int su, .int le, .ref tb, .int fu, .int g0_c8, .int pp, .ref tr, .int tc, .ref fz, .int nm]))]) (WR := [(tb, .inl (cB, 120, .inl tbf))]) (va_runV (As := [.int 1, .int ap]) (rest := []) ⟨hx, hb, hml, hown, hts⟩ k_15 (cwV 2 hts gX8_isNumber_X8_fails rfl rfl rfl (by decide +kernel) ⟨Nat.le_of_ble_eq_true rfl, Nat.le_of_ble_eq_true rfl⟩) (wp_V hP hK hD hN [0] (by decide) rfl (ci := 7) rfl rfl) rfl rfl hl.1 rfl (lv_room (Nat.le_of_ble_eq_true rfl)) dX8_isNumber_88 ⟨Nat.le_of_ble_eq_true rfl, Nat.le_of_ble_eq_true rfl⟩) hP hD hS hA [0] [1] rfl rfl (by decide) (by decide) (fun r_15 => pe2 (fun v15_0 v15_1 H locs hw_15 hP hD hS => ?_))
          clear k_15
          have hP : va_P D kl [(tb, .inl (cB, 120, .inl tbf)), (h, .inr (7, [.ref sl, .int na, .ref zs, .ref ln, .ref ir, .ref tk, .int su, .int le, .ref tb, .int v15_0, .int g0_c8, .int v15_1, .ref tr, .int tc, .ref fz, .int nm]))] H := hP
          have hD : va_D A [(tb, .inl (cB, 120, .inl tbf)), (h, .inr (7, [.ref sl, .int na, .ref zs, .ref ln, .ref ir, .ref tk, .int su, .int le, .ref tb, .int v15_0, .int g0_c8, .int v15_1, .ref tr, .int tc, .ref fz, .int nm]))] := hD
          obtain ⟨c15_0, c15_1, c15_2⟩ := hw_15
          have c15_1 : v15_0.toInt = (1 : Int) ∧ v15_1.toInt = ap.toInt := c15_1
          have c15_2 : 0 ≤ v15_1.toInt ∧ v15_1.toInt ≤ 120 := c15_2
          have e_15 := c15_0
          · subst e_15
            exact wr_z (v := 0) hx hb hr hlocks hS (v15_0, g0_c8, v15_1, nm) (by exact ⟨Or.inr (⟨rfl, show tfa (tN (tbr tbf le.toInt) a.toInt b.toInt (0, fu.toInt, pp.toInt, ap.toInt)) v15_0.toInt v15_1.toInt from by have h9 := tdg_n (i := g0_c8.toInt) q1_c8 (by omega) (by omega) (by omega); exact tN_r1 (by omega) (by omega) (by omega)⟩), show ap.toInt ≤ g0_c8.toInt from by omega, show 0 ≤ (g0_c8 : Int32).toInt ∧ (g0_c8 : Int32).toInt ≤ 120 from by omega, show 0 ≤ (v15_1 : Int32).toInt ∧ (v15_1 : Int32).toInt ≤ 120 from by omega⟩) (hP.sub [1, 0] rfl) (hD.sub [1, 0] (by decide) rfl) dX8_isNumber_91 rfl
  exact hL8 (((120 - (ap : Int32).toInt).toNat) + 1) 0 ap _ _ _ (show 0 ≤ 0 ∧ 0 ≤ 99 from by omega) (show 0 ≤ ap.toInt ∧ ap.toInt ≤ 120 from by omega) (show ap.toInt ≤ ap.toInt from by omega) (tnv_0 rfl (by decide)) (tdg_0 (by omega)) (Nat.lt_succ_self _) (hP.sub [0, 1] rfl) (hD.sub [0, 1] (by decide) rfl) hS (lv_sub hl [0, 1, 2, 3, 4] rfl)
set_option maxHeartbeats 4000000 in
set_option maxRecDepth 100000 in
theorem p_X8_sortOf (l : Launch) (D : va_G) (cI cB cQ : ClassId) (sz : Nat) (k : Int32) : mi l yX8_sortOf wsX8_sortOf ({ frames := 0, cells := 0, slots := 0, locals := 0 }) D cI cB cQ [.int k] sz [] (fun (r : Int32) (_u : Unit) => (r.toInt = tpo k.toInt ∧ ((0 ≤ r.toInt ∧ r.toInt ≤ 5) ∧ (r.toInt = 0 ∨ 0 ≤ k.toInt)))) (fun _ => []) 0 0 := by
  refine wm_i (cc := cX8_sortOf) (maxL := 1) (ret := (some .int)) (by decide) rfl (Nat.le_of_ble_eq_true rfl) ?_
  intro p e s m below meth c A ls hx hb hr hml hown hts hlocks hin hP hK hD hN hA hl hS
  have hown : s.vm.findClass RX8 = some m.cls := hown
  have hl : lv_has ls 1 [(0, .int k)] := hl
  change W p l e ({ frames := 0, cells := 0, slots := 0, locals := 0 }) s m ([.int k] : List Value).toArray below meth c s.heap [] 0 0 (MQ below (va_Qi (fun (r : Int32) (_u : Unit) => (r.toInt = tpo k.toInt ∧ ((0 ≤ r.toInt ∧ r.toInt ≤ 5) ∧ (r.toInt = 0 ∨ 0 ≤ k.toInt)))) (fun u t => wb D A ((fun _ => []) u) t) A) ([.int k] : List Value).toArray s 0 0 A) (F0 m 0 ls [])
  have hto := tpo_c k.toInt
  refine lv_iload_n hx hb dX8_sortOf_0 rfl (lv_at hl 0 rfl) ?_
  refine lv_bipush (v := 111) hx hb dX8_sortOf_1 (by decide) ?_
  refine lv_icmp_ne (tgt := 10) hx hb dX8_sortOf_3 (by decide) (fun c_1 => ?_) (fun c_1 => ?_)
  · have f_1 : ¬ k.toInt = 111 := zi_ne c_1
    refine lv_iload_n hx hb dX8_sortOf_10 rfl (lv_at hl 0 rfl) ?_
    refine lv_bipush (v := 115) hx hb dX8_sortOf_11 (by decide) ?_
    refine lv_icmp_ne (tgt := 20) hx hb dX8_sortOf_13 (by decide) (fun c_2 => ?_) (fun c_2 => ?_)
    · have f_2 : ¬ k.toInt = 115 := zi_ne c_2
      refine lv_iload_n hx hb dX8_sortOf_20 rfl (lv_at hl 0 rfl) ?_
      refine lv_bipush (v := 108) hx hb dX8_sortOf_21 (by decide) ?_
      refine lv_icmp_ne (tgt := 30) hx hb dX8_sortOf_23 (by decide) (fun c_3 => ?_) (fun c_3 => ?_)
      · have f_3 : ¬ k.toInt = 108 := zi_ne c_3
        refine lv_iload_n hx hb dX8_sortOf_30 rfl (lv_at hl 0 rfl) ?_
        refine lv_bipush (v := 116) hx hb dX8_sortOf_31 (by decide) ?_
        refine lv_icmp_ne (tgt := 40) hx hb dX8_sortOf_33 (by decide) (fun c_4 => ?_) (fun c_4 => ?_)
        · have f_4 : ¬ k.toInt = 116 := zi_ne c_4
          refine lv_iload_n hx hb dX8_sortOf_40 rfl (lv_at hl 0 rfl) ?_
          refine lv_bipush (v := 101) hx hb dX8_sortOf_41 (by decide) ?_
          refine lv_icmp_ne (tgt := 50) hx hb dX8_sortOf_43 (by decide) (fun c_5 => ?_) (fun c_5 => ?_)
          · have f_5 : ¬ k.toInt = 101 := zi_ne c_5
            refine lv_iconst (v := 0) hx hb dX8_sortOf_50 (by decide) ?_
            exact wr_i (v := 0) hx hb hr hlocks hS () (by exact show 0 = tpo k.toInt ∧ ((0 ≤ 0 ∧ 0 ≤ 5) ∧ (0 = 0 ∨ 0 ≤ k.toInt)) from by omega) (hP.sub [] rfl) (hD.sub [] (by decide) rfl) dX8_sortOf_51
          · have f_5 : k.toInt = 101 := zi_eq c_5
            refine lv_iconst (v := 5) hx hb dX8_sortOf_46 (by decide) ?_
            refine lv_goto (tgt := 51) hx hb dX8_sortOf_47 (by decide) ?_
            exact wr_i (v := 5) hx hb hr hlocks hS () (by exact show 5 = tpo k.toInt ∧ ((0 ≤ 5 ∧ 5 ≤ 5) ∧ (5 = 0 ∨ 0 ≤ k.toInt)) from by omega) (hP.sub [] rfl) (hD.sub [] (by decide) rfl) dX8_sortOf_51
        · have f_4 : k.toInt = 116 := zi_eq c_4
          refine lv_iconst (v := 4) hx hb dX8_sortOf_36 (by decide) ?_
          refine lv_goto (tgt := 51) hx hb dX8_sortOf_37 (by decide) ?_
          exact wr_i (v := 4) hx hb hr hlocks hS () (by exact show 4 = tpo k.toInt ∧ ((0 ≤ 4 ∧ 4 ≤ 5) ∧ (4 = 0 ∨ 0 ≤ k.toInt)) from by omega) (hP.sub [] rfl) (hD.sub [] (by decide) rfl) dX8_sortOf_51
      · have f_3 : k.toInt = 108 := zi_eq c_3
        refine lv_iconst (v := 3) hx hb dX8_sortOf_26 (by decide) ?_
        refine lv_goto (tgt := 51) hx hb dX8_sortOf_27 (by decide) ?_
        exact wr_i (v := 3) hx hb hr hlocks hS () (by exact show 3 = tpo k.toInt ∧ ((0 ≤ 3 ∧ 3 ≤ 5) ∧ (3 = 0 ∨ 0 ≤ k.toInt)) from by omega) (hP.sub [] rfl) (hD.sub [] (by decide) rfl) dX8_sortOf_51
    · have f_2 : k.toInt = 115 := zi_eq c_2
      refine lv_iconst (v := 2) hx hb dX8_sortOf_16 (by decide) ?_
      refine lv_goto (tgt := 51) hx hb dX8_sortOf_17 (by decide) ?_
      exact wr_i (v := 2) hx hb hr hlocks hS () (by exact show 2 = tpo k.toInt ∧ ((0 ≤ 2 ∧ 2 ≤ 5) ∧ (2 = 0 ∨ 0 ≤ k.toInt)) from by omega) (hP.sub [] rfl) (hD.sub [] (by decide) rfl) dX8_sortOf_51
  · have f_1 : k.toInt = 111 := zi_eq c_1
    refine lv_iconst (v := 1) hx hb dX8_sortOf_6 (by decide) ?_
    refine lv_goto (tgt := 51) hx hb dX8_sortOf_7 (by decide) ?_
    exact wr_i (v := 1) hx hb hr hlocks hS () (by exact show 1 = tpo k.toInt ∧ ((0 ≤ 1 ∧ 1 ≤ 5) ∧ (1 = 0 ∨ 0 ≤ k.toInt)) from by omega) (hP.sub [] rfl) (hD.sub [] (by decide) rfl) dX8_sortOf_51
