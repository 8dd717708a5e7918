/-- what the reference's slots hold: villages, walkers, and where walkers are -/
def SB (f : Nat → Int32) : Prop := ∀ s : Nat, s < 29 → (0 ≤ (f (57 * s + 1)).toInt ∧ (f (57 * s + 1)).toInt ≤ 8) ∧ (0 ≤ (f (57 * s + 2)).toInt ∧ (f (57 * s + 2)).toInt ≤ 3) ∧ ∀ w : Nat, w < 3 → 0 ≤ (f (57 * s + 48 + w)).toInt ∧ (f (57 * s + 48 + w)).toInt ≤ 7
/-- and how many villages there are now -/
def SI (f : Nat → Int32) (v0 : Int) : Prop := SB f ∧ (f 1).toInt = v0
theorem SI.self {f : Nat → Int32} {v0 : Int} (h : SI f v0) : SI f (f 1).toInt := ⟨h.1, rfl⟩
theorem si_v {f : Nat → Int32} {v0 : Int} (h : SI f v0) {i : Int32} {s : Int} (e : i.toInt = 57 * s + 1) (hs : 0 ≤ s ∧ s < 29) : 0 ≤ (f i.toNatClampNeg).toInt ∧ (f i.toNatClampNeg).toInt ≤ 8 := by
  have h1 := zi_cn (x := i) (by omega)
  have h2 : i.toNatClampNeg = 57 * s.toNat + 1 := by omega
  rw [h2]
  exact (h.1 s.toNat (by omega)).1
theorem si_w {f : Nat → Int32} {v0 : Int} (h : SI f v0) {i : Int32} {s : Int} (e : i.toInt = 57 * s + 2) (hs : 0 ≤ s ∧ s < 29) : 0 ≤ (f i.toNatClampNeg).toInt ∧ (f i.toNatClampNeg).toInt ≤ 3 := by
  have h1 := zi_cn (x := i) (by omega)
  have h2 : i.toNatClampNeg = 57 * s.toNat + 2 := by omega
  rw [h2]
  exact (h.1 s.toNat (by omega)).2.1
theorem si_a {f : Nat → Int32} {v0 : Int} (h : SI f v0) {i : Int32} {s k : Int} (e : i.toInt = 57 * s + 48 + k) (hs : 0 ≤ s ∧ s < 29) (hk : 0 ≤ k ∧ k < 3) : 0 ≤ (f i.toNatClampNeg).toInt ∧ (f i.toNatClampNeg).toInt ≤ 7 := by
  have h1 := zi_cn (x := i) (by omega)
  have h2 : i.toNatClampNeg = 57 * s.toNat + 48 + k.toNat := by omega
  rw [h2]
  exact (h.1 s.toNat (by omega)).2.2 k.toNat (by omega)
theorem si_g {f : Nat → Int32} {v0 : Int} (h : SI f v0) {i : Int32} {s k : Int} (e : i.toInt = 57 * s + k) (hs : 0 ≤ s ∧ s < 29) (hk : 0 ≤ k ∧ k < 57) : (k = 1 → 0 ≤ (f i.toNatClampNeg).toInt ∧ (f i.toNatClampNeg).toInt ≤ 8) ∧ (k = 2 → 0 ≤ (f i.toNatClampNeg).toInt ∧ (f i.toNatClampNeg).toInt ≤ 3) ∧ (48 ≤ k ∧ k ≤ 50 → 0 ≤ (f i.toNatClampNeg).toInt ∧ (f i.toNatClampNeg).toInt ≤ 7) :=
  ⟨fun z => si_v h (s := s) (by omega) hs, fun z => si_w h (s := s) (by omega) hs, fun z => si_a h (s := s) (k := k - 48) (by omega) hs (by omega)⟩
theorem sb_up {f : Nat → Int32} {i v : Int32} (h : SB f) (h0 : 0 ≤ i.toInt) (h1 : ∀ s : Int, 0 ≤ s → s < 29 → i.toInt = 57 * s + 1 → 0 ≤ v.toInt ∧ v.toInt ≤ 8) (h2 : ∀ s : Int, 0 ≤ s → s < 29 → i.toInt = 57 * s + 2 → 0 ≤ v.toInt ∧ v.toInt ≤ 3) (h3 : ∀ s k : Int, 0 ≤ s → s < 29 → 0 ≤ k → k < 3 → i.toInt = 57 * s + 48 + k → 0 ≤ v.toInt ∧ v.toInt ≤ 7) : SB (upd f i.toNatClampNeg v) := by
  have hc := zi_cn h0
  intro s hs
  refine ⟨?_, ?_, fun w hw => ?_⟩
  · by_cases e : 57 * s + 1 = i.toNatClampNeg
    · rw [e, pk_us]; exact h1 s (by omega) (by omega) (by omega)
    · rw [pk_un e]; exact (h s hs).1
  · by_cases e : 57 * s + 2 = i.toNatClampNeg
    · rw [e, pk_us]; exact h2 s (by omega) (by omega) (by omega)
    · rw [pk_un e]; exact (h s hs).2.1
  · by_cases e : 57 * s + 48 + w = i.toNatClampNeg
    · rw [e, pk_us]; exact h3 s w (by omega) (by omega) (by omega) (by omega) (by omega)
    · rw [pk_un e]; exact (h s hs).2.2 w hw
theorem si_up {f : Nat → Int32} {v0 : Int} {i v : Int32} (h : SI f v0) (h0 : 0 ≤ i.toInt) (h1 : ∀ s : Int, 0 ≤ s → s < 29 → i.toInt = 57 * s + 1 → 0 ≤ v.toInt ∧ v.toInt ≤ 8) (h2 : ∀ s : Int, 0 ≤ s → s < 29 → i.toInt = 57 * s + 2 → 0 ≤ v.toInt ∧ v.toInt ≤ 3) (h3 : ∀ s k : Int, 0 ≤ s → s < 29 → 0 ≤ k → k < 3 → i.toInt = 57 * s + 48 + k → 0 ≤ v.toInt ∧ v.toInt ≤ 7) (h4 : ¬ i.toInt = 1) : SI (upd f i.toNatClampNeg v) v0 := by
  have hc := zi_cn h0
  exact ⟨sb_up h.1 h0 h1 h2 h3, by rw [pk_un (by omega)]; exact h.2⟩
theorem zu_ne {f : Nat → Int32} {i j v : Int32} (h0 : 0 ≤ i.toInt) (h1 : 0 ≤ j.toInt) (h : ¬ j.toInt = i.toInt) : upd f i.toNatClampNeg v j.toNatClampNeg = f j.toNatClampNeg := by
  have e0 := zi_cn h0
  have e1 := zi_cn h1
  exact pk_un (by omega)
theorem zl_mul {x y : Int64} {a b : Int} (hx : x.toInt = a) (hy : y.toInt = b) (h1 : -9223372036854775808 ≤ a * b) (h2 : a * b < 9223372036854775808) : (x * y).toInt = a * b := by rw [Int64.toInt_mul, hx, hy]; exact Int.bmod_eq_of_le (by omega) (by omega)
theorem zl_bm {z : Int} (h1 : -9223372036854775808 ≤ z) (h2 : z < 9223372036854775808) : z.bmod (2 ^ 64) = z := Int.bmod_eq_of_le (by omega) (by omega)
theorem zl_add {x y : Int64} {a b : Int} (hx : x.toInt = a) (hy : y.toInt = b) (h1 : -9223372036854775808 ≤ a + b) (h2 : a + b < 9223372036854775808) : (x + y).toInt = a + b := by rw [Int64.toInt_add, hx, hy]; exact zl_bm h1 h2
set_option maxHeartbeats 4000000 in
set_option maxRecDepth 100000 in
theorem g_X8_in (l : Launch) (D : va_G) (cI cB cQ : ClassId) (sz : Nat) (v : Int64) (a : Int64) (b : Int64) : mi l yX8_in wsX8_in ({ frames := 0, cells := 0, slots := 0, locals := 0 }) D cI cB cQ [.long v, .long a, .long b] sz [] (fun (r : Int32) (_u : Unit) => ((r = 1 ∧ a.toInt ≤ v.toInt ∧ v.toInt ≤ b.toInt) ∨ (r = 0 ∧ ¬ (a.toInt ≤ v.toInt ∧ v.toInt ≤ b.toInt)))) (fun _ => []) 0 0 := by
  refine wm_i (cc := cX8_in) (maxL := 6) (ret := (some .boolean)) (by decide) rfl (Nat.le_of_ble_eq_true rfl) ?_
  intro p e s m below meth c A ls hx hb hr hml hown hts hlocks hin hP hK hD hN hA hl hS
  have hown : s.vm.findClass RX8 = some m.cls := hown
  have hl : lv_has ls 6 [(0, .long v), (2, .long a), (4, .long b)] := hl
  change W p l e ({ frames := 0, cells := 0, slots := 0, locals := 0 }) s m ([.long v, .long a, .long b] : List Value).toArray below meth c s.heap [] 0 0 (MQ below (va_Qi (fun (r : Int32) (_u : Unit) => ((r = 1 ∧ a.toInt ≤ v.toInt ∧ v.toInt ≤ b.toInt) ∨ (r = 0 ∧ ¬ (a.toInt ≤ v.toInt ∧ v.toInt ≤ b.toInt)))) (fun u t => wb D A ((fun _ => []) u) t) A) ([.long v, .long a, .long b] : List Value).toArray s 0 0 A) (F0 m 0 ls [])
  refine lv_lload_n hx hb dX8_in_0 rfl (lv_at hl 0 rfl) ?_
  refine lv_lload_n hx hb dX8_in_1 rfl (lv_at hl 1 rfl) ?_
  refine W.lcmp hx hb dX8_in_2 ?_
  refine lv_topi (fun x_1 ex_1 => ?_)
  rcases zc_cases v a with ⟨h1, f_1⟩ | ⟨h1, f_1⟩ | ⟨h1, f_1⟩
  · obtain rfl : x_1 = 1 := ex_1.trans h1
    have f_1 : a.toInt < v.toInt := f_1
    refine lv_if_lt (tgt := 17) hx hb dX8_in_3 (by decide) (fun c9 => absurd c9 (by decide)) (fun _ => ?_)
    refine lv_lload_n hx hb dX8_in_6 rfl (lv_at hl 0 rfl) ?_
    refine lv_lload hx hb dX8_in_7 (lv_at hl 2 rfl) ?_
    refine W.lcmp hx hb dX8_in_9 ?_
    refine lv_topi (fun x_2 ex_2 => ?_)
    rcases zc_cases v b with ⟨h1, f_2⟩ | ⟨h1, f_2⟩ | ⟨h1, f_2⟩
    · obtain rfl : x_2 = 1 := ex_2.trans h1
      have f_2 : b.toInt < v.toInt := f_2
      refine lv_if_gt (tgt := 17) hx hb dX8_in_10 (by decide) (fun _ => ?_) (fun c9 => absurd (by decide) c9)
      refine lv_iconst (v := 0) hx hb dX8_in_17 (by decide) ?_
      exact wr_z (v := 0) hx hb hr hlocks hS () (by exact Or.inr (⟨rfl, show ¬ (a.toInt ≤ v.toInt ∧ v.toInt ≤ b.toInt) from by omega⟩)) (hP.sub [] rfl) (hD.sub [] (by decide) rfl) dX8_in_18 rfl
    · obtain rfl : x_2 = 0 := ex_2.trans h1
      have f_2 : v.toInt = b.toInt := f_2
      refine lv_if_gt (tgt := 17) hx hb dX8_in_10 (by decide) (fun c9 => absurd c9 (by decide)) (fun _ => ?_)
      refine lv_iconst (v := 1) hx hb dX8_in_13 (by decide) ?_
      refine lv_goto (tgt := 18) hx hb dX8_in_14 (by decide) ?_
      exact wr_z (v := 1) hx hb hr hlocks hS () (by exact Or.inl ⟨rfl, show a.toInt ≤ v.toInt ∧ v.toInt ≤ b.toInt from by omega⟩) (hP.sub [] rfl) (hD.sub [] (by decide) rfl) dX8_in_18 rfl
    · obtain rfl : x_2 = (-1) := ex_2.trans h1
      have f_2 : v.toInt < b.toInt := f_2
      refine lv_if_gt (tgt := 17) hx hb dX8_in_10 (by decide) (fun c9 => absurd c9 (by decide)) (fun _ => ?_)
      refine lv_iconst (v := 1) hx hb dX8_in_13 (by decide) ?_
      refine lv_goto (tgt := 18) hx hb dX8_in_14 (by decide) ?_
      exact wr_z (v := 1) hx hb hr hlocks hS () (by exact Or.inl ⟨rfl, show a.toInt ≤ v.toInt ∧ v.toInt ≤ b.toInt from by omega⟩) (hP.sub [] rfl) (hD.sub [] (by decide) rfl) dX8_in_18 rfl
  · obtain rfl : x_1 = 0 := ex_1.trans h1
    have f_1 : v.toInt = a.toInt := f_1
    refine lv_if_lt (tgt := 17) hx hb dX8_in_3 (by decide) (fun c9 => absurd c9 (by decide)) (fun _ => ?_)
    refine lv_lload_n hx hb dX8_in_6 rfl (lv_at hl 0 rfl) ?_
    refine lv_lload hx hb dX8_in_7 (lv_at hl 2 rfl) ?_
    refine W.lcmp hx hb dX8_in_9 ?_
    refine lv_topi (fun x_3 ex_3 => ?_)
    rcases zc_cases v b with ⟨h1, f_3⟩ | ⟨h1, f_3⟩ | ⟨h1, f_3⟩
    · obtain rfl : x_3 = 1 := ex_3.trans h1
      have f_3 : b.toInt < v.toInt := f_3
      refine lv_if_gt (tgt := 17) hx hb dX8_in_10 (by decide) (fun _ => ?_) (fun c9 => absurd (by decide) c9)
      refine lv_iconst (v := 0) hx hb dX8_in_17 (by decide) ?_
      exact wr_z (v := 0) hx hb hr hlocks hS () (by exact Or.inr (⟨rfl, show ¬ (a.toInt ≤ v.toInt ∧ v.toInt ≤ b.toInt) from by omega⟩)) (hP.sub [] rfl) (hD.sub [] (by decide) rfl) dX8_in_18 rfl
    · obtain rfl : x_3 = 0 := ex_3.trans h1
      have f_3 : v.toInt = b.toInt := f_3
      refine lv_if_gt (tgt := 17) hx hb dX8_in_10 (by decide) (fun c9 => absurd c9 (by decide)) (fun _ => ?_)
      refine lv_iconst (v := 1) hx hb dX8_in_13 (by decide) ?_
      refine lv_goto (tgt := 18) hx hb dX8_in_14 (by decide) ?_
      exact wr_z (v := 1) hx hb hr hlocks hS () (by exact Or.inl ⟨rfl, show a.toInt ≤ v.toInt ∧ v.toInt ≤ b.toInt from by omega⟩) (hP.sub [] rfl) (hD.sub [] (by decide) rfl) dX8_in_18 rfl
    · obtain rfl : x_3 = (-1) := ex_3.trans h1
      have f_3 : v.toInt < b.toInt := f_3
      refine lv_if_gt (tgt := 17) hx hb dX8_in_10 (by decide) (fun c9 => absurd c9 (by decide)) (fun _ => ?_)
      refine lv_iconst (v := 1) hx hb dX8_in_13 (by decide) ?_
      refine lv_goto (tgt := 18) hx hb dX8_in_14 (by decide) ?_
      exact wr_z (v := 1) hx hb hr hlocks hS () (by exact Or.inl ⟨rfl, show a.toInt ≤ v.toInt ∧ v.toInt ≤ b.toInt from by omega⟩) (hP.sub [] rfl) (hD.sub [] (by decide) rfl) dX8_in_18 rfl
  · obtain rfl : x_1 = (-1) := ex_1.trans h1
    have f_1 : v.toInt < a.toInt := f_1
    refine lv_if_lt (tgt := 17) hx hb dX8_in_3 (by decide) (fun _ => ?_) (fun c9 => absurd (by decide) c9)
    refine lv_iconst (v := 0) hx hb dX8_in_17 (by decide) ?_
    exact wr_z (v := 0) hx hb hr hlocks hS () (by exact Or.inr (⟨rfl, show ¬ (a.toInt ≤ v.toInt ∧ v.toInt ≤ b.toInt) from by omega⟩)) (hP.sub [] rfl) (hD.sub [] (by decide) rfl) dX8_in_18 rfl
set_option maxHeartbeats 4000000 in
set_option maxRecDepth 100000 in
theorem g_X8_has (l : Launch) (D : va_G) (cI cB cQ : ClassId) (sz : Nat) (k : Int32) (v : Int32) : mi l yX8_has wsX8_has ({ frames := 0, cells := 0, slots := 0, locals := 0 }) D cI cB cQ [.int k, .int v] sz [] (fun (r : Int32) (_u : Unit) => ((r = 1) ∨ (r = 0))) (fun _ => []) 0 0 := by
  refine wm_i (cc := cX8_has) (maxL := 2) (ret := (some .boolean)) (by decide) rfl (Nat.le_of_ble_eq_true rfl) ?_
  intro p e s m below meth c A ls hx hb hr hml hown hts hlocks hin hP hK hD hN hA hl hS
  have hown : s.vm.findClass RX8 = some m.cls := hown
  have hl : lv_has ls 2 [(0, .int k), (1, .int v)] := hl
  change W p l e ({ frames := 0, cells := 0, slots := 0, locals := 0 }) s m ([.int k, .int v] : List Value).toArray below meth c s.heap [] 0 0 (MQ below (va_Qi (fun (r : Int32) (_u : Unit) => ((r = 1) ∨ (r = 0))) (fun u t => wb D A ((fun _ => []) u) t) A) ([.int k, .int v] : List Value).toArray s 0 0 A) (F0 m 0 ls [])
  refine lv_iload_n hx hb dX8_has_0 rfl (lv_at hl 0 rfl) ?_
  refine lv_iload_n hx hb dX8_has_1 rfl (lv_at hl 1 rfl) ?_
  refine lv_ishr hx hb dX8_has_2 ?_
  refine lv_topi (fun x_1 ex_1 => ?_)
  clear ex_1
  refine lv_iconst (v := 1) hx hb dX8_has_3 (by decide) ?_
  refine lv_iand hx hb dX8_has_4 ?_
  refine lv_topi (fun x_2 ex_2 => ?_)
  clear ex_2
  refine lv_iconst (v := 1) hx hb dX8_has_5 (by decide) ?_
  refine lv_icmp_ne (tgt := 13) hx hb dX8_has_6 (by decide) (fun c_3 => ?_) (fun c_3 => ?_)
  · have f_3 : ¬ x_2.toInt = 1 := zi_ne c_3
    refine lv_iconst (v := 0) hx hb dX8_has_13 (by decide) ?_
    exact wr_z (v := 0) hx hb hr hlocks hS () (by exact Or.inr (rfl)) (hP.sub [] rfl) (hD.sub [] (by decide) rfl) dX8_has_14 rfl
  · have f_3 : x_2.toInt = 1 := zi_eq c_3
    refine lv_iconst (v := 1) hx hb dX8_has_9 (by decide) ?_
    refine lv_goto (tgt := 14) hx hb dX8_has_10 (by decide) ?_
    exact wr_z (v := 1) hx hb hr hlocks hS () (by exact Or.inl rfl) (hP.sub [] rfl) (hD.sub [] (by decide) rfl) dX8_has_14 rfl
