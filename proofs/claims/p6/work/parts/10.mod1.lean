/-- what the reference's slots hold: villages, walkers, and where walkers are -/
def SB (f : Nat → Int32) : Prop := ∀ s : Nat, s < 29 → (0 ≤ (f (57 * s + 1)).toInt ∧ (f (57 * s + 1)).toInt ≤ 8) ∧ (0 ≤ (f (57 * s + 2)).toInt ∧ (f (57 * s + 2)).toInt ≤ 3) ∧ ∀ w : Nat, w < 3 → 0 ≤ (f (57 * s + 48 + w)).toInt ∧ (f (57 * s + 48 + w)).toInt ≤ 7
/-- and how many villages there are now -/
def SI (f : Nat → Int32) (v0 : Int) : Prop := SB f ∧ (f 1).toInt = v0
theorem SI.self {f : Nat → Int32} {v0 : Int} (h : SI f v0) : SI f (f 1).toInt := ⟨h.1, rfl⟩
theorem si_v {f : Nat → Int32} {v0 : Int} (h : SI f v0) {i : Int32} {s : Int} (e : i.toInt = 57 * s + 1) (hs : 0 ≤ s ∧ s < 29) : 0 ≤ (f i.toNatClampNeg).toInt ∧ (f i.toNatClampNeg).toInt ≤ 8 := by
  have h1 := zi_cn (x := i) (by omega)
  have h2 : i.toNatClampNeg = 57 * s.toNat + 1 := by omega
  rw [h2]
  exact (h.1 s.toNat (by omega)).1
theorem si_w {f : Nat → Int32} {v0 : Int} (h : SI f v0) {i : Int32} {s : Int} (e : i.toInt = 57 * s + 2) (hs : 0 ≤ s ∧ s < 29) : 0 ≤ (f i.toNatClampNeg).toInt ∧ (f i.toNatClampNeg).toInt ≤ 3 := by
  have h1 := zi_cn (x := i) (by omega)
  have h2 : i.toNatClampNeg = 57 * s.toNat + 2 := by omega
  rw [h2]
  exact (h.1 s.toNat (by omega)).2.1
theorem si_a {f : Nat → Int32} {v0 : Int} (h : SI f v0) {i : Int32} {s k : Int} (e : i.toInt = 57 * s + 48 + k) (hs : 0 ≤ s ∧ s < 29) (hk : 0 ≤ k ∧ k < 3) : 0 ≤ (f i.toNatClampNeg).toInt ∧ (f i.toNatClampNeg).toInt ≤ 7 := by
  have h1 := zi_cn (x := i) (by omega)
  have h2 : i.toNatClampNeg = 57 * s.toNat + 48 + k.toNat := by omega
  rw [h2]
  exact (h.1 s.toNat (by omega)).2.2 k.toNat (by omega)
theorem si_g {f : Nat → Int32} {v0 : Int} (h : SI f v0) {i : Int32} {s k : Int} (e : i.toInt = 57 * s + k) (hs : 0 ≤ s ∧ s < 29) (hk : 0 ≤ k ∧ k < 57) : (k = 1 → 0 ≤ (f i.toNatClampNeg).toInt ∧ (f i.toNatClampNeg).toInt ≤ 8) ∧ (k = 2 → 0 ≤ (f i.toNatClampNeg).toInt ∧ (f i.toNatClampNeg).toInt ≤ 3) ∧ (48 ≤ k ∧ k ≤ 50 → 0 ≤ (f i.toNatClampNeg).toInt ∧ (f i.toNatClampNeg).toInt ≤ 7) :=
  ⟨fun z => si_v h (s := s) (by omega) hs, fun z => si_w h (s := s) (by omega) hs, fun z => si_a h (s := s) (k := k - 48) (by omega) hs (by omega)⟩
theorem sb_up {f : Nat → Int32} {i v : Int32} (h : SB f) (h0 : 0 ≤ i.toInt) (h1 : ∀ s : Int, 0 ≤ s → s < 29 → i.toInt = 57 * s + 1 → 0 ≤ v.toInt ∧ v.toInt ≤ 8) (h2 : ∀ s : Int, 0 ≤ s → s < 29 → i.toInt = 57 * s + 2 → 0 ≤ v.toInt ∧ v.toInt ≤ 3) (h3 : ∀ s k : Int, 0 ≤ s → s < 29 → 0 ≤ k → k < 3 → i.toInt = 57 * s + 48 + k → 0 ≤ v.toInt ∧ v.toInt ≤ 7) : SB (upd f i.toNatClampNeg v) := by
  have hc := zi_cn h0
  intro s hs
  refine ⟨?_, ?_, fun w hw => ?_⟩
  · by_cases e : 57 * s + 1 = i.toNatClampNeg
    · rw [e, pk_us]; exact h1 s (by omega) (by omega) (by omega)
    · rw [pk_un e]; exact (h s hs).1
  · by_cases e : 57 * s + 2 = i.toNatClampNeg
    · rw [e, pk_us]; exact h2 s (by omega) (by omega) (by omega)
    · rw [pk_un e]; exact (h s hs).2.1
  · by_cases e : 57 * s + 48 + w = i.toNatClampNeg
    · rw [e, pk_us]; exact h3 s w (by omega) (by omega) (by omega) (by omega) (by omega)
    · rw [pk_un e]; exact (h s hs).2.2 w hw
theorem si_up {f : Nat → Int32} {v0 : Int} {i v : Int32} (h : SI f v0) (h0 : 0 ≤ i.toInt) (h1 : ∀ s : Int, 0 ≤ s → s < 29 → i.toInt = 57 * s + 1 → 0 ≤ v.toInt ∧ v.toInt ≤ 8) (h2 : ∀ s : Int, 0 ≤ s → s < 29 → i.toInt = 57 * s + 2 → 0 ≤ v.toInt ∧ v.toInt ≤ 3) (h3 : ∀ s k : Int, 0 ≤ s → s < 29 → 0 ≤ k → k < 3 → i.toInt = 57 * s + 48 + k → 0 ≤ v.toInt ∧ v.toInt ≤ 7) (h4 : ¬ i.toInt = 1) : SI (upd f i.toNatClampNeg v) v0 := by
  have hc := zi_cn h0
  exact ⟨sb_up h.1 h0 h1 h2 h3, by rw [pk_un (by omega)]; exact h.2⟩
theorem zu_ne {f : Nat → Int32} {i j v : Int32} (h0 : 0 ≤ i.toInt) (h1 : 0 ≤ j.toInt) (h : ¬ j.toInt = i.toInt) : upd f i.toNatClampNeg v j.toNatClampNeg = f j.toNatClampNeg := by
  have e0 := zi_cn h0
  have e1 := zi_cn h1
  exact pk_un (by omega)
theorem zl_mul {x y : Int64} {a b : Int} (hx : x.toInt = a) (hy : y.toInt = b) (h1 : -9223372036854775808 ≤ a * b) (h2 : a * b < 9223372036854775808) : (x * y).toInt = a * b := by rw [Int64.toInt_mul, hx, hy]; exact Int.bmod_eq_of_le (by omega) (by omega)
theorem zl_bm {z : Int} (h1 : -9223372036854775808 ≤ z) (h2 : z < 9223372036854775808) : z.bmod (2 ^ 64) = z := Int.bmod_eq_of_le (by omega) (by omega)
theorem zl_add {x y : Int64} {a b : Int} (hx : x.toInt = a) (hy : y.toInt = b) (h1 : -9223372036854775808 ≤ a + b) (h2 : a + b < 9223372036854775808) : (x + y).toInt = a + b := by rw [Int64.toInt_add, hx, hy]; exact zl_bm h1 h2
set_option maxHeartbeats 4000000 in
set_option maxRecDepth 100000 in
theorem g_X8_in (l : Launch) (D : va_G) (cI cB cQ : ClassId) (sz : Nat) (v : Int64) (a : Int64) (b : Int64) : mi l yX8_in wsX8_in ({ frames := 0, cells := 0, slots := 0, locals := 0 }) D cI cB cQ [.long v, .long a, .long b] sz [] (fun (r : Int32) (_u : Unit) => ((r = 1 ∧ a.toInt ≤ v.toInt ∧ v.toInt ≤ b.toInt) ∨ (r = 0 ∧ ¬ (a.toInt ≤ v.toInt ∧ v.toInt ≤ b.toInt)))) (fun _ => []) 0 0 := by
  refine wm_i (cc := cX8_in) (maxL := 6) (ret := (some .boolean)) (by decide) rfl (Nat.le_of_ble_eq_true rfl) ?_
  intro p e s m below meth c A ls hx hb hr hml hown hts hlocks hin hP hK hD hN hA hl hS
  have hown : s.vm.findClass RX8 = some m.cls := hown
  have hl : lv_has ls 6 [(0, .long v), (2, .long a), (4, .long b)] := hl
  change W p l e ({ frames := 0, cells := 0, slots := 0, locals := 0 }) s m ([.long v, .long a, .long b] : List Value).toArray below meth c s.heap [] 0 0 (MQ below (va_Qi (fun (r : Int32) (_u : Unit) => ((r = 1 ∧ a.toInt ≤ v.toInt ∧ v.toInt ≤ b.toInt) ∨ (r = 0 ∧ ¬ (a.toInt ≤ v.toInt ∧ v.toInt ≤ b.toInt)))) (fun u t => wb D A ((fun _ => []) u) t) A) ([.long v, .long a, .long b] : List Value).toArray s 0 0 A) (F0 m 0 ls [])
  refine lv_lload_n hx hb dX8_in_0 rfl (lv_at hl 0 rfl) ?_
  refine lv_lload_n hx hb dX8_in_1 rfl (lv_at hl 1 rfl) ?_
  refine W.lcmp hx hb dX8_in_2 ?_
  refine lv_topi (fun x_1 ex_1 => ?_)
  rcases zc_cases v a with ⟨h1, f_1⟩ | ⟨h1, f_1⟩ | ⟨h1, f_1⟩
  · obtain rfl : x_1 = 1 := ex_1.trans h1
    have f_1 : a.toInt < v.toInt := f_1
    refine lv_if_lt (tgt := 17) hx hb dX8_in_3 (by decide) (fun c9 => absurd c9 (by decide)) (fun _ => ?_)
    refine lv_lload_n hx hb dX8_in_6 rfl (lv_at hl 0 rfl) ?_
    refine lv_lload hx hb dX8_in_7 (lv_at hl 2 rfl) ?_
    refine W.lcmp hx hb dX8_in_9 ?_
    refine lv_topi (fun x_2 ex_2 => ?_)
    rcases zc_cases v b with ⟨h1, f_2⟩ | ⟨h1, f_2⟩ | ⟨h1, f_2⟩
    · obtain rfl : x_2 = 1 := ex_2.trans h1
      have f_2 : b.toInt < v.toInt := f_2
      refine lv_if_gt (tgt := 17) hx hb dX8_in_10 (by decide) (fun _ => ?_) (fun c9 => absurd (by decide) c9)
      refine lv_iconst (v := 0) hx hb dX8_in_17 (by decide) ?_
      exact wr_z (v := 0) hx hb hr hlocks hS () (by exact Or.inr (⟨rfl, show ¬ (a.toInt ≤ v.toInt ∧ v.toInt ≤ b.toInt) from by omega⟩)) (hP.sub [] rfl) (hD.sub [] (by decide) rfl) dX8_in_18 rfl
    · obtain rfl : x_2 = 0 := ex_2.trans h1
      have f_2 : v.toInt = b.toInt := f_2
      refine lv_if_gt (tgt := 17) hx hb dX8_in_10 (by decide) (fun c9 => absurd c9 (by decide)) (fun _ => ?_)
      refine lv_iconst (v := 1) hx hb dX8_in_13 (by decide) ?_
      refine lv_goto (tgt := 18) hx hb dX8_in_14 (by decide) ?_
      exact wr_z (v := 1) hx hb hr hlocks hS () (by exact Or.inl ⟨rfl, show a.toInt ≤ v.toInt ∧ v.toInt ≤ b.toInt from by omega⟩) (hP.sub [] rfl) (hD.sub [] (by decide) rfl) dX8_in_18 rfl
    · obtain rfl : x_2 = (-1) := ex_2.trans h1
      have f_2 : v.toInt < b.toInt := f_2
      refine lv_if_gt (tgt := 17) hx hb dX8_in_10 (by decide) (fun c9 => absurd c9 (by decide)) (fun _ => ?_)
      refine lv_iconst (v := 1) hx hb dX8_in_13 (by decide) ?_
      refine lv_goto (tgt := 18) hx hb dX8_in_14 (by decide) ?_
      exact wr_z (v := 1) hx hb hr hlocks hS () (by exact Or.inl ⟨rfl, show a.toInt ≤ v.toInt ∧ v.toInt ≤ b.toInt from by omega⟩) (hP.sub [] rfl) (hD.sub [] (by decide) rfl) dX8_in_18 rfl
  · obtain rfl : x_1 = 0 := ex_1.trans h1
    have f_1 : v.toInt = a.toInt := f_1
    refine lv_if_lt (tgt := 17) hx hb dX8_in_3 (by decide) (fun c9 => absurd c9 (by decide)) (fun _ => ?_)
    refine lv_lload_n hx hb dX8_in_6 rfl (lv_at hl 0 rfl) ?_
    refine lv_lload hx hb dX8_in_7 (lv_at hl 2 rfl) ?_
    refine W.lcmp hx hb dX8_in_9 ?_
    refine lv_topi (fun x_3 ex_3 => ?_)
    rcases zc_cases v b with ⟨h1, f_3⟩ | ⟨h1, f_3⟩ | ⟨h1, f_3⟩
    · obtain rfl : x_3 = 1 := ex_3.trans h1
      have f_3 : b.toInt < v.toInt := f_3
      refine lv_if_gt (tgt := 17) hx hb dX8_in_10 (by decide) (fun _ => ?_) (fun c9 => absurd (by decide) c9)
      refine lv_iconst (v := 0) hx hb dX8_in_17 (by decide) ?_
      exact wr_z (v := 0) hx hb hr hlocks hS () (by exact Or.inr (⟨rfl, show ¬ (a.toInt ≤ v.toInt ∧ v.toInt ≤ b.toInt) from by omega⟩)) (hP.sub [] rfl) (hD.sub [] (by decide) rfl) dX8_in_18 rfl
    · obtain rfl : x_3 = 0 := ex_3.trans h1
      have f_3 : v.toInt = b.toInt := f_3
      refine lv_if_gt (tgt := 17) hx hb dX8_in_10 (by decide) (fun c9 => absurd c9 (by decide)) (fun _ => ?_)
      refine lv_iconst (v := 1) hx hb dX8_in_13 (by decide) ?_
      refine lv_goto (tgt := 18) hx hb dX8_in_14 (by decide) ?_
      exact wr_z (v := 1) hx hb hr hlocks hS () (by exact Or.inl ⟨rfl, show a.toInt ≤ v.toInt ∧ v.toInt ≤ b.toInt from by omega⟩) (hP.sub [] rfl) (hD.sub [] (by decide) rfl) dX8_in_18 rfl
    · obtain rfl : x_3 = (-1) := ex_3.trans h1
      have f_3 : v.toInt < b.toInt := f_3
      refine lv_if_gt (tgt := 17) hx hb dX8_in_10 (by decide) (fun c9 => absurd c9 (by decide)) (fun _ => ?_)
      refine lv_iconst (v := 1) hx hb dX8_in_13 (by decide) ?_
      refine lv_goto (tgt := 18) hx hb dX8_in_14 (by decide) ?_
      exact wr_z (v := 1) hx hb hr hlocks hS () (by exact Or.inl ⟨rfl, show a.toInt ≤ v.toInt ∧ v.toInt ≤ b.toInt from by omega⟩) (hP.sub [] rfl) (hD.sub [] (by decide) rfl) dX8_in_18 rfl
  · obtain rfl : x_1 = (-1) := ex_1.trans h1
    have f_1 : v.toInt < a.toInt := f_1
    refine lv_if_lt (tgt := 17) hx hb dX8_in_3 (by decide) (fun _ => ?_) (fun c9 => absurd (by decide) c9)
    refine lv_iconst (v := 0) hx hb dX8_in_17 (by decide) ?_
    exact wr_z (v := 0) hx hb hr hlocks hS () (by exact Or.inr (⟨rfl, show ¬ (a.toInt ≤ v.toInt ∧ v.toInt ≤ b.toInt) from by omega⟩)) (hP.sub [] rfl) (hD.sub [] (by decide) rfl) dX8_in_18 rfl
set_option maxHeartbeats 4000000 in
set_option maxRecDepth 100000 in
theorem g_X8_has (l : Launch) (D : va_G) (cI cB cQ : ClassId) (sz : Nat) (k : Int32) (v : Int32) : mi l yX8_has wsX8_has ({ frames := 0, cells := 0, slots := 0, locals := 0 }) D cI cB cQ [.int k, .int v] sz [] (fun (r : Int32) (_u : Unit) => ((r = 1) ∨ (r = 0))) (fun _ => []) 0 0 := by
  refine wm_i (cc := cX8_has) (maxL := 2) (ret := (some .boolean)) (by decide) rfl (Nat.le_of_ble_eq_true rfl) ?_
  intro p e s m below meth c A ls hx hb hr hml hown hts hlocks hin hP hK hD hN hA hl hS
  have hown : s.vm.findClass RX8 = some m.cls := hown
  have hl : lv_has ls 2 [(0, .int k), (1, .int v)] := hl
  change W p l e ({ frames := 0, cells := 0, slots := 0, locals := 0 }) s m ([.int k, .int v] : List Value).toArray below meth c s.heap [] 0 0 (MQ below (va_Qi (fun (r : Int32) (_u : Unit) => ((r = 1) ∨ (r = 0))) (fun u t => wb D A ((fun _ => []) u) t) A) ([.int k, .int v] : List Value).toArray s 0 0 A) (F0 m 0 ls [])
  refine lv_iload_n hx hb dX8_has_0 rfl (lv_at hl 0 rfl) ?_
  refine lv_iload_n hx hb dX8_has_1 rfl (lv_at hl 1 rfl) ?_
  refine lv_ishr hx hb dX8_has_2 ?_
  refine lv_topi (fun x_1 ex_1 => ?_)
  clear ex_1
  refine lv_iconst (v := 1) hx hb dX8_has_3 (by decide) ?_
  refine lv_iand hx hb dX8_has_4 ?_
  refine lv_topi (fun x_2 ex_2 => ?_)
  clear ex_2
  refine lv_iconst (v := 1) hx hb dX8_has_5 (by decide) ?_
  refine lv_icmp_ne (tgt := 13) hx hb dX8_has_6 (by decide) (fun c_3 => ?_) (fun c_3 => ?_)
  · have f_3 : ¬ x_2.toInt = 1 := zi_ne c_3
    refine lv_iconst (v := 0) hx hb dX8_has_13 (by decide) ?_
    exact wr_z (v := 0) hx hb hr hlocks hS () (by exact Or.inr (rfl)) (hP.sub [] rfl) (hD.sub [] (by decide) rfl) dX8_has_14 rfl
  · have f_3 : x_2.toInt = 1 := zi_eq c_3
    refine lv_iconst (v := 1) hx hb dX8_has_9 (by decide) ?_
    refine lv_goto (tgt := 14) hx hb dX8_has_10 (by decide) ?_
    exact wr_z (v := 1) hx hb hr hlocks hS () (by exact Or.inl rfl) (hP.sub [] rfl) (hD.sub [] (by decide) rfl) dX8_has_14 rfl
set_option maxHeartbeats 4000000 in
set_option maxRecDepth 100000 in
theorem g_X8_finds (l : Launch) (D : va_G) (cI cB cQ : ClassId) (sz : Nat) (h : Nat) (sl : Nat) (zs : Nat) (ln : Nat) (ir : Nat) (tk : Nat) (tb : Nat) (tr : Nat) (fz : Nat) (na : Int32) (su : Int32) (le : Int32) (fu : Int32) (ap : Int32) (pp : Int32) (tc : Int32) (nm : Int32) (n : Int32) : mi l yX8_finds wsX8_finds ({ frames := 0, cells := 0, slots := 0, locals := 0 }) D cI cB cQ [.ref h, .int n] sz [(h, .inr (7, [.ref sl, .int na, .ref zs, .ref ln, .ref ir, .ref tk, .int su, .int le, .ref tb, .int fu, .int ap, .int pp, .ref tr, .int tc, .ref fz, .int nm]))] (fun (r : Int32) (u : Int32) => True) (fun u => [(h, .inr (7, [.ref sl, .int na, .ref zs, .ref ln, .ref ir, .ref tk, .int u, .int le, .ref tb, .int fu, .int ap, .int pp, .ref tr, .int tc, .ref fz, .int nm]))]) 0 0 := by
  refine wm_i (cc := cX8_finds) (maxL := 2) (ret := (some .int)) (by decide) rfl (Nat.le_of_ble_eq_true rfl) ?_
  intro p e s m below meth c A ls hx hb hr hml hown hts hlocks hin hP hK hD hN hA hl hS
  have hown : s.vm.findClass RX8 = some m.cls := hown
  have hl : lv_has ls 2 [(0, .ref h), (1, .int n)] := hl
  change W p l e ({ frames := 0, cells := 0, slots := 0, locals := 0 }) s m ([.ref h, .int n] : List Value).toArray below meth c s.heap [] 0 0 (MQ below (va_Qi (fun (r : Int32) (u : Int32) => True) (fun u t => wb D A ((fun u => [(h, .inr (7, [.ref sl, .int na, .ref zs, .ref ln, .ref ir, .ref tk, .int u, .int le, .ref tb, .int fu, .int ap, .int pp, .ref tr, .int tc, .ref fz, .int nm]))]) u) t) A) ([.ref h, .int n] : List Value).toArray s 0 0 A) (F0 m 0 ls [])
  refine lv_aload_n hx hb dX8_finds_0 rfl (lv_at hl 0 rfl) ?_
  refine lv_iload_n hx hb dX8_finds_1 rfl (lv_at hl 1 rfl) ?_
  refine va_put (D := D) (ci := 7) (v := .int n) (ty := .int) (C := RX8) (T := TX8) (N := 16) hx hb hts (fun _ h => List.mem_cons_of_mem _ (List.mem_append_right _ h)) tyX8 tyX8_ok nmX8 hown hK hP hD hS 0 rfl rfl 6 (by decide) (hts (.fieldLink RX8 35 "WinterWalkModel" "status" "I") (List.mem_of_getElem? (i := 1) rfl)) (fun _ h9 => h9) rfl (by decide +kernel) rfl rfl (Nat.le_of_ble_eq_true rfl) dX8_finds_2 (fun H locs hP hD hS => ?_)
  have hP : va_P D kl [(h, .inr (7, [.ref sl, .int na, .ref zs, .ref ln, .ref ir, .ref tk, .int n, .int le, .ref tb, .int fu, .int ap, .int pp, .ref tr, .int tc, .ref fz, .int nm]))] H := hP
  have hD : va_D A [(h, .inr (7, [.ref sl, .int na, .ref zs, .ref ln, .ref ir, .ref tk, .int n, .int le, .ref tb, .int fu, .int ap, .int pp, .ref tr, .int tc, .ref fz, .int nm]))] := hD
  refine lv_ldc (v := (-1000010)) hx hb hown (hts (.constant RX8 39 (-1000010)) (List.mem_of_getElem? (i := 2) rfl)) dX8_finds_5 ?_
  refine lv_iload_n hx hb dX8_finds_7 rfl (lv_at hl 1 rfl) ?_
  refine lv_isub hx hb dX8_finds_8 ?_
  refine lv_topi (fun x_1 ex_1 => ?_)
  clear ex_1
  exact wr_i (v := x_1) hx hb hr hlocks hS n (by trivial) (hP.sub [0] rfl) (hD.sub [0] (by decide) rfl) dX8_finds_9
set_option maxHeartbeats 4000000 in
set_option maxRecDepth 100000 in
theorem g_X8_told (l : Launch) (D : va_G) (cI cB cQ : ClassId) (sz : Nat) (h : Nat) (sl : Nat) (zs : Nat) (ln : Nat) (ir : Nat) (tk : Nat) (tb : Nat) (tr : Nat) (fz : Nat) (na : Int32) (su : Int32) (le : Int32) (fu : Int32) (ap : Int32) (pp : Int32) (tc : Int32) (nm : Int32) (n : Int32) : mi l yX8_told wsX8_told ({ frames := 0, cells := 0, slots := 0, locals := 0 }) D cI cB cQ [.ref h, .int n] sz [(h, .inr (7, [.ref sl, .int na, .ref zs, .ref ln, .ref ir, .ref tk, .int su, .int le, .ref tb, .int fu, .int ap, .int pp, .ref tr, .int tc, .ref fz, .int nm]))] (fun (r : Int32) (u : Int32) => True) (fun u => [(h, .inr (7, [.ref sl, .int na, .ref zs, .ref ln, .ref ir, .ref tk, .int u, .int le, .ref tb, .int fu, .int ap, .int pp, .ref tr, .int tc, .ref fz, .int nm]))]) 0 0 := by
  refine wm_i (cc := cX8_told) (maxL := 2) (ret := (some .int)) (by decide) rfl (Nat.le_of_ble_eq_true rfl) ?_
  intro p e s m below meth c A ls hx hb hr hml hown hts hlocks hin hP hK hD hN hA hl hS
  have hown : s.vm.findClass RX8 = some m.cls := hown
  have hl : lv_has ls 2 [(0, .ref h), (1, .int n)] := hl
  change W p l e ({ frames := 0, cells := 0, slots := 0, locals := 0 }) s m ([.ref h, .int n] : List Value).toArray below meth c s.heap [] 0 0 (MQ below (va_Qi (fun (r : Int32) (u : Int32) => True) (fun u t => wb D A ((fun u => [(h, .inr (7, [.ref sl, .int na, .ref zs, .ref ln, .ref ir, .ref tk, .int u, .int le, .ref tb, .int fu, .int ap, .int pp, .ref tr, .int tc, .ref fz, .int nm]))]) u) t) A) ([.ref h, .int n] : List Value).toArray s 0 0 A) (F0 m 0 ls [])
  refine lv_aload_n hx hb dX8_told_0 rfl (lv_at hl 0 rfl) ?_
  refine lv_iconst (v := 0) hx hb dX8_told_1 (by decide) ?_
  refine va_put (D := D) (ci := 7) (v := .int 0) (ty := .int) (C := RX8) (T := TX8) (N := 16) hx hb hts (fun _ h => List.mem_cons_of_mem _ (List.mem_append_right _ h)) tyX8 tyX8_ok nmX8 hown hK hP hD hS 0 rfl rfl 6 (by decide) (hts (.fieldLink RX8 35 "WinterWalkModel" "status" "I") (List.mem_of_getElem? (i := 1) rfl)) (fun _ h9 => h9) rfl (by decide +kernel) rfl rfl (Nat.le_of_ble_eq_true rfl) dX8_told_2 (fun H locs hP hD hS => ?_)
  have hP : va_P D kl [(h, .inr (7, [.ref sl, .int na, .ref zs, .ref ln, .ref ir, .ref tk, .int 0, .int le, .ref tb, .int fu, .int ap, .int pp, .ref tr, .int tc, .ref fz, .int nm]))] H := hP
  have hD : va_D A [(h, .inr (7, [.ref sl, .int na, .ref zs, .ref ln, .ref ir, .ref tk, .int 0, .int le, .ref tb, .int fu, .int ap, .int pp, .ref tr, .int tc, .ref fz, .int nm]))] := hD
  refine lv_iload_n hx hb dX8_told_5 rfl (lv_at hl 1 rfl) ?_
  exact wr_i (v := n) hx hb hr hlocks hS 0 (by trivial) (hP.sub [0] rfl) (hD.sub [0] (by decide) rfl) dX8_told_6
set_option maxHeartbeats 4000000 in
set_option maxRecDepth 100000 in
theorem g_X8_next (l : Launch) (D : va_G) (cI cB cQ : ClassId) (sz : Nat) (h : Nat) (sl : Nat) (zs : Nat) (ln : Nat) (ir : Nat) (tk : Nat) (tb : Nat) (tr : Nat) (fz : Nat) (na : Int32) (su : Int32) (le : Int32) (fu : Int32) (ap : Int32) (pp : Int32) (tc : Int32) (nm : Int32) (tbf : Nat → Int32) (h_na : 0 ≤ na.toInt ∧ na.toInt ≤ 24) (h_le : 0 ≤ le.toInt ∧ le.toInt ≤ 120) (h_ap : 0 ≤ ap.toInt ∧ ap.toInt ≤ 120) (h_tc : 0 ≤ tc.toInt ∧ tc.toInt ≤ 16) : mi l yX8_next wsX8_next ({ frames := 0, cells := 0, slots := 0, locals := 0 }) D cI cB cQ [.ref h] sz [(h, .inr (7, [.ref sl, .int na, .ref zs, .ref ln, .ref ir, .ref tk, .int su, .int le, .ref tb, .int fu, .int ap, .int pp, .ref tr, .int tc, .ref fz, .int nm])), (tb, .inl (cB, 120, .inl tbf))] (fun (r : Int32) (_u : Unit) => (r.toInt = (-1) ∨ ap.toInt < le.toInt)) (fun _ => [(h, .inr (7, [.ref sl, .int na, .ref zs, .ref ln, .ref ir, .ref tk, .int su, .int le, .ref tb, .int fu, .int ap, .int pp, .ref tr, .int tc, .ref fz, .int nm])), (tb, .inl (cB, 120, .inl tbf))]) 0 0 := by
  refine wm_i (cc := cX8_next) (maxL := 1) (ret := (some .int)) (by decide) rfl (Nat.le_of_ble_eq_true rfl) ?_
  intro p e s m below meth c A ls hx hb hr hml hown hts hlocks hin hP hK hD hN hA hl hS
  have hown : s.vm.findClass RX8 = some m.cls := hown
  have hl : lv_has ls 1 [(0, .ref h)] := hl
  change W p l e ({ frames := 0, cells := 0, slots := 0, locals := 0 }) s m ([.ref h] : List Value).toArray below meth c s.heap [] 0 0 (MQ below (va_Qi (fun (r : Int32) (_u : Unit) => (r.toInt = (-1) ∨ ap.toInt < le.toInt)) (fun u t => wb D A ((fun _ => [(h, .inr (7, [.ref sl, .int na, .ref zs, .ref ln, .ref ir, .ref tk, .int su, .int le, .ref tb, .int fu, .int ap, .int pp, .ref tr, .int tc, .ref fz, .int nm])), (tb, .inl (cB, 120, .inl tbf))]) u) t) A) ([.ref h] : List Value).toArray s 0 0 A) (F0 m 0 ls [])
  refine lv_aload_n hx hb dX8_next_0 rfl (lv_at hl 0 rfl) ?_
  refine va_get (D := D) (ci := 7) (v := .int ap) (C := RX8) (T := TX8) (N := 16) hx hb hts (fun _ h => List.mem_cons_of_mem _ (List.mem_append_right _ h)) hown hK hP 0 rfl rfl 10 (by decide) (hts (.fieldLink RX8 62 "WinterWalkModel" "at" "I") (List.mem_of_getElem? (i := 1) rfl)) (fun _ h9 => h9) rfl dX8_next_1 ?_
  refine lv_aload_n hx hb dX8_next_4 rfl (lv_at hl 0 rfl) ?_
  refine va_get (D := D) (ci := 7) (v := .int le) (C := RX8) (T := TX8) (N := 16) hx hb hts (fun _ h => List.mem_cons_of_mem _ (List.mem_append_right _ h)) hown hK hP 0 rfl rfl 7 (by decide) (hts (.fieldLink RX8 58 "WinterWalkModel" "length" "I") (List.mem_of_getElem? (i := 2) rfl)) (fun _ h9 => h9) rfl dX8_next_5 ?_
  refine lv_icmp_ge (tgt := 23) hx hb dX8_next_8 (by decide) (fun c_1 => ?_) (fun c_1 => ?_)
  · have f_1 : le.toInt ≤ ap.toInt := zi_le c_1
    refine lv_iconst (v := (-1)) hx hb dX8_next_23 (by decide) ?_
    exact wr_i (v := (-1)) hx hb hr hlocks hS () (by exact show (-1) = (-1) ∨ ap.toInt < le.toInt from by omega) (hP.sub [0, 1] rfl) (hD.sub [0, 1] (by decide) rfl) dX8_next_24
  · have f_1 : ¬ le.toInt ≤ ap.toInt := zi_nle c_1
    refine lv_aload_n hx hb dX8_next_11 rfl (lv_at hl 0 rfl) ?_
    refine va_get (D := D) (ci := 7) (v := .ref tb) (C := RX8) (T := TX8) (N := 16) hx hb hts (fun _ h => List.mem_cons_of_mem _ (List.mem_append_right _ h)) hown hK hP 0 rfl rfl 8 (by decide) (hts (.fieldLink RX8 25 "WinterWalkModel" "tape" "[B") (List.mem_of_getElem? (i := 3) rfl)) (fun _ h9 => h9) rfl dX8_next_12 ?_
    refine lv_aload_n hx hb dX8_next_15 rfl (lv_at hl 0 rfl) ?_
    refine va_get (D := D) (ci := 7) (v := .int ap) (C := RX8) (T := TX8) (N := 16) hx hb hts (fun _ h => List.mem_cons_of_mem _ (List.mem_append_right _ h)) hown hK hP 0 rfl rfl 10 (by decide) (hts (.fieldLink RX8 62 "WinterWalkModel" "at" "I") (List.mem_of_getElem? (i := 1) rfl)) (fun _ h9 => h9) rfl dX8_next_16 ?_
    refine va_bald hx hb hK hP 1 1 rfl rfl (zi_in (by omega) (by omega)) dX8_next_19 ?_
    refine lv_topi (fun x_2 ex_2 => ?_)
    clear ex_2
    refine lv_goto (tgt := 24) hx hb dX8_next_20 (by decide) ?_
    exact wr_i (v := x_2) hx hb hr hlocks hS () (by exact show x_2.toInt = (-1) ∨ ap.toInt < le.toInt from by omega) (hP.sub [0, 1] rfl) (hD.sub [0, 1] (by decide) rfl) dX8_next_24
set_option maxHeartbeats 4000000 in
set_option maxRecDepth 100000 in
theorem g_X8_fails (l : Launch) (D : va_G) (cI cB cQ : ClassId) (sz : Nat) (h : Nat) (sl : Nat) (zs : Nat) (ln : Nat) (ir : Nat) (tk : Nat) (tb : Nat) (tr : Nat) (fz : Nat) (na : Int32) (su : Int32) (le : Int32) (fu : Int32) (ap : Int32) (pp : Int32) (tc : Int32) (nm : Int32) (a : Int32) (b : Int32) : mi l yX8_fails wsX8_fails ({ frames := 0, cells := 0, slots := 0, locals := 0 }) D cI cB cQ [.ref h, .int a, .int b] sz [(h, .inr (7, [.ref sl, .int na, .ref zs, .ref ln, .ref ir, .ref tk, .int su, .int le, .ref tb, .int fu, .int ap, .int pp, .ref tr, .int tc, .ref fz, .int nm]))] (fun (r : Int32) (u : Int32 × Int32) => ((r = 0))) (fun u => [(h, .inr (7, [.ref sl, .int na, .ref zs, .ref ln, .ref ir, .ref tk, .int su, .int le, .ref tb, .int u.1, .int ap, .int u.2, .ref tr, .int tc, .ref fz, .int nm]))]) 0 0 := by
  refine wm_i (cc := cX8_fails) (maxL := 3) (ret := (some .boolean)) (by decide) rfl (Nat.le_of_ble_eq_true rfl) ?_
  intro p e s m below meth c A ls hx hb hr hml hown hts hlocks hin hP hK hD hN hA hl hS
  have hown : s.vm.findClass RX8 = some m.cls := hown
  have hl : lv_has ls 3 [(0, .ref h), (1, .int a), (2, .int b)] := hl
  change W p l e ({ frames := 0, cells := 0, slots := 0, locals := 0 }) s m ([.ref h, .int a, .int b] : List Value).toArray below meth c s.heap [] 0 0 (MQ below (va_Qi (fun (r : Int32) (u : Int32 × Int32) => ((r = 0))) (fun u t => wb D A ((fun u => [(h, .inr (7, [.ref sl, .int na, .ref zs, .ref ln, .ref ir, .ref tk, .int su, .int le, .ref tb, .int u.1, .int ap, .int u.2, .ref tr, .int tc, .ref fz, .int nm]))]) u) t) A) ([.ref h, .int a, .int b] : List Value).toArray s 0 0 A) (F0 m 0 ls [])
  refine lv_aload_n hx hb dX8_fails_0 rfl (lv_at hl 0 rfl) ?_
  refine lv_iload_n hx hb dX8_fails_1 rfl (lv_at hl 1 rfl) ?_
  refine va_put (D := D) (ci := 7) (v := .int a) (ty := .int) (C := RX8) (T := TX8) (N := 16) hx hb hts (fun _ h => List.mem_cons_of_mem _ (List.mem_append_right _ h)) tyX8 tyX8_ok nmX8 hown hK hP hD hS 0 rfl rfl 9 (by decide) (hts (.fieldLink RX8 65 "WinterWalkModel" "fault" "I") (List.mem_of_getElem? (i := 1) rfl)) (fun _ h9 => h9) rfl (by decide +kernel) rfl rfl (Nat.le_of_ble_eq_true rfl) dX8_fails_2 (fun H locs hP hD hS => ?_)
  have hP : va_P D kl [(h, .inr (7, [.ref sl, .int na, .ref zs, .ref ln, .ref ir, .ref tk, .int su, .int le, .ref tb, .int a, .int ap, .int pp, .ref tr, .int tc, .ref fz, .int nm]))] H := hP
  have hD : va_D A [(h, .inr (7, [.ref sl, .int na, .ref zs, .ref ln, .ref ir, .ref tk, .int su, .int le, .ref tb, .int a, .int ap, .int pp, .ref tr, .int tc, .ref fz, .int nm]))] := hD
  refine lv_aload_n hx hb dX8_fails_5 rfl (lv_at hl 0 rfl) ?_
  refine lv_iload_n hx hb dX8_fails_6 rfl (lv_at hl 2 rfl) ?_
  refine va_put (D := D) (ci := 7) (v := .int b) (ty := .int) (C := RX8) (T := TX8) (N := 16) hx hb hts (fun _ h => List.mem_cons_of_mem _ (List.mem_append_right _ h)) tyX8 tyX8_ok nmX8 hown hK hP hD hS 0 rfl rfl 11 (by decide) (hts (.fieldLink RX8 68 "WinterWalkModel" "place" "I") (List.mem_of_getElem? (i := 2) rfl)) (fun _ h9 => h9) rfl (by decide +kernel) rfl rfl (Nat.le_of_ble_eq_true rfl) dX8_fails_7 (fun H locs hP hD hS => ?_)
  have hP : va_P D kl [(h, .inr (7, [.ref sl, .int na, .ref zs, .ref ln, .ref ir, .ref tk, .int su, .int le, .ref tb, .int a, .int ap, .int b, .ref tr, .int tc, .ref fz, .int nm]))] H := hP
  have hD : va_D A [(h, .inr (7, [.ref sl, .int na, .ref zs, .ref ln, .ref ir, .ref tk, .int su, .int le, .ref tb, .int a, .int ap, .int b, .ref tr, .int tc, .ref fz, .int nm]))] := hD
  refine lv_iconst (v := 0) hx hb dX8_fails_10 (by decide) ?_
  exact wr_z (v := 0) hx hb hr hlocks hS (a, b) (by exact rfl) (hP.sub [0] rfl) (hD.sub [0] (by decide) rfl) dX8_fails_11 rfl
set_option maxHeartbeats 4000000 in
set_option maxRecDepth 100000 in
theorem g_X8_isSign (l : Launch) (D : va_G) (cI cB cQ : ClassId) (sz : Nat) (h : Nat) (sl : Nat) (zs : Nat) (ln : Nat) (ir : Nat) (tk : Nat) (tb : Nat) (tr : Nat) (fz : Nat) (na : Int32) (su : Int32) (le : Int32) (fu : Int32) (ap : Int32) (pp : Int32) (tc : Int32) (nm : Int32) (k : Int32) (tbf : Nat → Int32) (h_na : 0 ≤ na.toInt ∧ na.toInt ≤ 24) (h_le : 0 ≤ le.toInt ∧ le.toInt ≤ 120) (h_ap : 0 ≤ ap.toInt ∧ ap.toInt ≤ 120) (h_tc : 0 ≤ tc.toInt ∧ tc.toInt ≤ 16) (h_k : 0 ≤ k.toInt ∧ k.toInt ≤ 255) : mi l yX8_isSign wsX8_isSign ({ frames := 1, cells := 0, slots := 0, locals := 22 }) D cI cB cQ [.ref h, .int k] sz [(h, .inr (7, [.ref sl, .int na, .ref zs, .ref ln, .ref ir, .ref tk, .int su, .int le, .ref tb, .int fu, .int ap, .int pp, .ref tr, .int tc, .ref fz, .int nm])), (tb, .inl (cB, 120, .inl tbf))] (fun (r : Int32) (u : Int32 × Int32 × Int32) => ((r = 1) ∨ (r = 0)) ∧ (ap.toInt ≤ u.2.1.toInt) ∧ (0 ≤ u.2.1.toInt ∧ u.2.1.toInt ≤ 120)) (fun u => [(h, .inr (7, [.ref sl, .int na, .ref zs, .ref ln, .ref ir, .ref tk, .int su, .int le, .ref tb, .int u.1, .int u.2.1, .int u.2.2, .ref tr, .int tc, .ref fz, .int nm])), (tb, .inl (cB, 120, .inl tbf))]) 0 0 := by
  refine wm_i (cc := cX8_isSign) (maxL := 2) (ret := (some .boolean)) (by decide) rfl (Nat.le_of_ble_eq_true rfl) ?_
  intro p e s m below meth c A ls hx hb hr hml hown hts hlocks hin hP hK hD hN hA hl hS
  have hown : s.vm.findClass RX8 = some m.cls := hown
  have hl : lv_has ls 2 [(0, .ref h), (1, .int k)] := hl
  change W p l e ({ frames := 1, cells := 0, slots := 0, locals := 22 }) s m ([.ref h, .int k] : List Value).toArray below meth c s.heap [] 0 0 (MQ below (va_Qi (fun (r : Int32) (u : Int32 × Int32 × Int32) => ((r = 1) ∨ (r = 0)) ∧ (ap.toInt ≤ u.2.1.toInt) ∧ (0 ≤ u.2.1.toInt ∧ u.2.1.toInt ≤ 120)) (fun u t => wb D A ((fun u => [(h, .inr (7, [.ref sl, .int na, .ref zs, .ref ln, .ref ir, .ref tk, .int su, .int le, .ref tb, .int u.1, .int u.2.1, .int u.2.2, .ref tr, .int tc, .ref fz, .int nm])), (tb, .inl (cB, 120, .inl tbf))]) u) t) A) ([.ref h, .int k] : List Value).toArray s 0 0 A) (F0 m 0 ls [])
  refine lv_aload_n hx hb dX8_isSign_0 rfl (lv_at hl 0 rfl) ?_
  have k_1 := (g_X8_next l D cI cB cQ s.heap.size h sl zs ln ir tk tb tr fz na su le fu ap pp tc nm tbf (by omega) (by omega) (by omega) (by omega))
  refine wc_i (WC := [(h, .inr (7, [.ref sl, .int na, .ref zs, .ref ln, .ref ir, .ref tk, .int su, .int le, .ref tb, .int fu, .int ap, .int pp, .ref tr, .int tc, .ref fz, .int nm])), (tb, .inl (cB, 120, .inl tbf))]) (WR := []) (va_runV (As := []) (rest := []) ⟨hx, hb, hml, hown, hts⟩ k_1 (cwV 0 hts gX8_isSign_X8_next rfl rfl rfl (by decide +kernel) ⟨Nat.le_of_ble_eq_true rfl, Nat.le_of_ble_eq_true rfl⟩) (wp_V hP hK hD hN [0, 1] (by decide) rfl (ci := 7) rfl rfl) rfl rfl hl.1 rfl (lv_room (Nat.le_of_ble_eq_true rfl)) dX8_isSign_1 ⟨Nat.le_of_ble_eq_true rfl, Nat.le_of_ble_eq_true rfl⟩) hP hD hS hA [0, 1] [] rfl rfl (by decide) (by decide) (fun r_1 u_1 H locs hw_1 hP hD hS => ?_)
  clear k_1
  have hP : va_P D kl [(h, .inr (7, [.ref sl, .int na, .ref zs, .ref ln, .ref ir, .ref tk, .int su, .int le, .ref tb, .int fu, .int ap, .int pp, .ref tr, .int tc, .ref fz, .int nm])), (tb, .inl (cB, 120, .inl tbf))] H := hP
  have hD : va_D A [(h, .inr (7, [.ref sl, .int na, .ref zs, .ref ln, .ref ir, .ref tk, .int su, .int le, .ref tb, .int fu, .int ap, .int pp, .ref tr, .int tc, .ref fz, .int nm])), (tb, .inl (cB, 120, .inl tbf))] := hD
  have c1_0 := hw_1
  have c1_0 : r_1.toInt = (-1) ∨ ap.toInt < le.toInt := c1_0
  refine lv_iload_n hx hb dX8_isSign_4 rfl (lv_at hl 1 rfl) ?_
  refine lv_icmp_eq (tgt := 18) hx hb dX8_isSign_5 (by decide) (fun c_2 => ?_) (fun c_2 => ?_)
  · have f_2 : r_1.toInt = k.toInt := zi_eq c_2
    refine lv_aload_n hx hb dX8_isSign_18 rfl (lv_at hl 0 rfl) ?_
    refine lv_dup hx hb dX8_isSign_19 rfl ?_
    refine va_get (D := D) (ci := 7) (v := .int ap) (C := RX8) (T := TX8) (N := 16) hx hb hts (fun _ h => List.mem_cons_of_mem _ (List.mem_append_right _ h)) hown hK hP 0 rfl rfl 10 (by decide) (hts (.fieldLink RX8 62 "WinterWalkModel" "at" "I") (List.mem_of_getElem? (i := 1) rfl)) (fun _ h9 => h9) rfl dX8_isSign_20 ?_
    refine lv_iconst (v := 1) hx hb dX8_isSign_23 (by decide) ?_
    refine lv_iadd hx hb dX8_isSign_24 ?_
    refine lv_topi (fun x_3 ex_3 => ?_)
    have e_3 : x_3.toInt = ap.toInt + 1 := by rw [ex_3]; exact zi_add (rfl) (by decide) (by omega) (by omega)
    clear ex_3
    refine va_put (D := D) (ci := 7) (v := .int x_3) (ty := .int) (C := RX8) (T := TX8) (N := 16) hx hb hts (fun _ h => List.mem_cons_of_mem _ (List.mem_append_right _ h)) tyX8 tyX8_ok nmX8 hown hK hP hD hS 0 rfl rfl 10 (by decide) (hts (.fieldLink RX8 62 "WinterWalkModel" "at" "I") (List.mem_of_getElem? (i := 1) rfl)) (fun _ h9 => h9) rfl (by decide +kernel) rfl rfl (Nat.le_of_ble_eq_true rfl) dX8_isSign_25 (fun H locs hP hD hS => ?_)
    have hP : va_P D kl [(h, .inr (7, [.ref sl, .int na, .ref zs, .ref ln, .ref ir, .ref tk, .int su, .int le, .ref tb, .int fu, .int x_3, .int pp, .ref tr, .int tc, .ref fz, .int nm])), (tb, .inl (cB, 120, .inl tbf))] H := hP
    have hD : va_D A [(h, .inr (7, [.ref sl, .int na, .ref zs, .ref ln, .ref ir, .ref tk, .int su, .int le, .ref tb, .int fu, .int x_3, .int pp, .ref tr, .int tc, .ref fz, .int nm])), (tb, .inl (cB, 120, .inl tbf))] := hD
    refine lv_iconst (v := 1) hx hb dX8_isSign_28 (by decide) ?_
    exact wr_z (v := 1) hx hb hr hlocks hS (fu, x_3, pp) (by exact ⟨Or.inl rfl, show ap.toInt ≤ x_3.toInt from by omega, show 0 ≤ (x_3 : Int32).toInt ∧ (x_3 : Int32).toInt ≤ 120 from by omega⟩) (hP.sub [0, 1] rfl) (hD.sub [0, 1] (by decide) rfl) dX8_isSign_29 rfl
  · have f_2 : ¬ r_1.toInt = k.toInt := zi_ne c_2
    refine lv_aload_n hx hb dX8_isSign_8 rfl (lv_at hl 0 rfl) ?_
    refine lv_iconst (v := 1) hx hb dX8_isSign_9 (by decide) ?_
    refine lv_aload_n hx hb dX8_isSign_10 rfl (lv_at hl 0 rfl) ?_
    refine va_get (D := D) (ci := 7) (v := .int ap) (C := RX8) (T := TX8) (N := 16) hx hb hts (fun _ h => List.mem_cons_of_mem _ (List.mem_append_right _ h)) hown hK hP 0 rfl rfl 10 (by decide) (hts (.fieldLink RX8 62 "WinterWalkModel" "at" "I") (List.mem_of_getElem? (i := 1) rfl)) (fun _ h9 => h9) rfl dX8_isSign_11 ?_
    have k_4 := (g_X8_fails l D cI cB cQ H.size h sl zs ln ir tk tb tr fz na su le fu ap pp tc nm 1 ap)
    refine wc_i (WC := [(h, .inr (7, [.ref sl, .int na, .ref zs, .ref ln, .ref ir, .ref tk, .int su, .int le, .ref tb, .int fu, .int ap, .int pp, .ref tr, .int tc, .ref fz, .int nm]))]) (WR := [(tb, .inl (cB, 120, .inl tbf))]) (va_runV (As := [.int 1, .int ap]) (rest := []) ⟨hx, hb, hml, hown, hts⟩ k_4 (cwV 2 hts gX8_isSign_X8_fails rfl rfl rfl (by decide +kernel) ⟨Nat.le_of_ble_eq_true rfl, Nat.le_of_ble_eq_true rfl⟩) (wp_V hP hK hD hN [0] (by decide) rfl (ci := 7) rfl rfl) rfl rfl hl.1 rfl (lv_room (Nat.le_of_ble_eq_true rfl)) dX8_isSign_14 ⟨Nat.le_of_ble_eq_true rfl, Nat.le_of_ble_eq_true rfl⟩) hP hD hS hA [0] [1] rfl rfl (by decide) (by decide) (fun r_4 => pe2 (fun v4_0 v4_1 H locs hw_4 hP hD hS => ?_))
    clear k_4
    have hP : va_P D kl [(tb, .inl (cB, 120, .inl tbf)), (h, .inr (7, [.ref sl, .int na, .ref zs, .ref ln, .ref ir, .ref tk, .int su, .int le, .ref tb, .int v4_0, .int ap, .int v4_1, .ref tr, .int tc, .ref fz, .int nm]))] H := hP
    have hD : va_D A [(tb, .inl (cB, 120, .inl tbf)), (h, .inr (7, [.ref sl, .int na, .ref zs, .ref ln, .ref ir, .ref tk, .int su, .int le, .ref tb, .int v4_0, .int ap, .int v4_1, .ref tr, .int tc, .ref fz, .int nm]))] := hD
    have c4_0 := hw_4
    have e_4 := c4_0
    · subst e_4
      exact wr_z (v := 0) hx hb hr hlocks hS (v4_0, ap, v4_1) (by exact ⟨Or.inr (rfl), show ap.toInt ≤ ap.toInt from by omega, show 0 ≤ (ap : Int32).toInt ∧ (ap : Int32).toInt ≤ 120 from by omega⟩) (hP.sub [1, 0] rfl) (hD.sub [1, 0] (by decide) rfl) dX8_isSign_17 rfl
set_option maxHeartbeats 4000000 in
set_option maxRecDepth 100000 in
theorem g_X8_isNumber (l : Launch) (D : va_G) (cI cB cQ : ClassId) (sz : Nat) (h : Nat) (sl : Nat) (zs : Nat) (ln : Nat) (ir : Nat) (tk : Nat) (tb : Nat) (tr : Nat) (fz : Nat) (na : Int32) (su : Int32) (le : Int32) (fu : Int32) (ap : Int32) (pp : Int32) (tc : Int32) (nm : Int32) (a : Int32) (b : Int32) (tbf : Nat → Int32) (h_na : 0 ≤ na.toInt ∧ na.toInt ≤ 24) (h_le : 0 ≤ le.toInt ∧ le.toInt ≤ 120) (h_ap : 0 ≤ ap.toInt ∧ ap.toInt ≤ 120) (h_tc : 0 ≤ tc.toInt ∧ tc.toInt ≤ 16) : mi l yX8_isNumber wsX8_isNumber ({ frames := 1, cells := 0, slots := 0, locals := 25 }) D cI cB cQ [.ref h, .int a, .int b] sz [(h, .inr (7, [.ref sl, .int na, .ref zs, .ref ln, .ref ir, .ref tk, .int su, .int le, .ref tb, .int fu, .int ap, .int pp, .ref tr, .int tc, .ref fz, .int nm])), (tb, .inl (cB, 120, .inl tbf))] (fun (r : Int32) (u : Int32 × Int32 × Int32 × Int32) => ((r = 1 ∧ a.toInt ≤ u.2.2.2.toInt ∧ u.2.2.2.toInt ≤ b.toInt) ∨ (r = 0)) ∧ (ap.toInt ≤ u.2.1.toInt) ∧ (0 ≤ u.2.1.toInt ∧ u.2.1.toInt ≤ 120)) (fun u => [(h, .inr (7, [.ref sl, .int na, .ref zs, .ref ln, .ref ir, .ref tk, .int su, .int le, .ref tb, .int u.1, .int u.2.1, .int u.2.2.1, .ref tr, .int tc, .ref fz, .int u.2.2.2])), (tb, .inl (cB, 120, .inl tbf))]) 0 0 := by
  refine wm_i (cc := cX8_isNumber) (maxL := 5) (ret := (some .boolean)) (by decide) rfl (Nat.le_of_ble_eq_true rfl) ?_
  intro p e s m below meth c A ls hx hb hr hml hown hts hlocks hin hP hK hD hN hA hl hS
  have hown : s.vm.findClass RX8 = some m.cls := hown
  have hl : lv_has ls 5 [(0, .ref h), (1, .int a), (2, .int b)] := hl
  change W p l e ({ frames := 1, cells := 0, slots := 0, locals := 25 }) s m ([.ref h, .int a, .int b] : List Value).toArray below meth c s.heap [] 0 0 (MQ below (va_Qi (fun (r : Int32) (u : Int32 × Int32 × Int32 × Int32) => ((r = 1 ∧ a.toInt ≤ u.2.2.2.toInt ∧ u.2.2.2.toInt ≤ b.toInt) ∨ (r = 0)) ∧ (ap.toInt ≤ u.2.1.toInt) ∧ (0 ≤ u.2.1.toInt ∧ u.2.1.toInt ≤ 120)) (fun u t => wb D A ((fun u => [(h, .inr (7, [.ref sl, .int na, .ref zs, .ref ln, .ref ir, .ref tk, .int su, .int le, .ref tb, .int u.1, .int u.2.1, .int u.2.2.1, .ref tr, .int tc, .ref fz, .int u.2.2.2])), (tb, .inl (cB, 120, .inl tbf))]) u) t) A) ([.ref h, .int a, .int b] : List Value).toArray s 0 0 A) (F0 m 0 ls [])
  refine lv_aload_n hx hb dX8_isNumber_0 rfl (lv_at hl 0 rfl) ?_
  refine va_get (D := D) (ci := 7) (v := .int ap) (C := RX8) (T := TX8) (N := 16) hx hb hts (fun _ h => List.mem_cons_of_mem _ (List.mem_append_right _ h)) hown hK hP 0 rfl rfl 10 (by decide) (hts (.fieldLink RX8 62 "WinterWalkModel" "at" "I") (List.mem_of_getElem? (i := 1) rfl)) (fun _ h9 => h9) rfl dX8_isNumber_1 ?_
  refine lv_istore_n (lv' := [(3, .int ap), (0, .ref h), (1, .int a), (2, .int b)]) hx hb dX8_isNumber_4 rfl hl (by decide) rfl (fun ls hl => ?_)
  refine lv_iconst (v := 0) hx hb dX8_isNumber_5 (by decide) ?_
  refine lv_istore (lv' := [(4, .int 0), (3, .int ap), (0, .ref h), (1, .int a), (2, .int b)]) hx hb dX8_isNumber_6 hl (by decide) rfl (fun ls hl => ?_)
  have hL8 : ∀ (nf : Nat) (t4_c8 : Int32) (g0_c8 : Int32) (H : Heap) (locs : List Loc) (ls : Array Slot), (0 ≤ g0_c8.toInt ∧ g0_c8.toInt ≤ 120) → (ap.toInt ≤ g0_c8.toInt) → (120 - g0_c8.toInt).toNat < nf → va_P D kl [(h, .inr (7, [.ref sl, .int na, .ref zs, .ref ln, .ref ir, .ref tk, .int su, .int le, .ref tb, .int fu, .int g0_c8, .int pp, .ref tr, .int tc, .ref fz, .int nm])), (tb, .inl (cB, 120, .inl tbf))] H → va_D A [(h, .inr (7, [.ref sl, .int na, .ref zs, .ref ln, .ref ir, .ref tk, .int su, .int le, .ref tb, .int fu, .int g0_c8, .int pp, .ref tr, .int tc, .ref fz, .int nm])), (tb, .inl (cB, 120, .inl tbf))] → va_S A s.heap H locs → lv_has ls 5 [(4, .int t4_c8), (3, .int ap), (0, .ref h), (1, .int a), (2, .int b)] → W p l e ({ frames := 1, cells := 0, slots := 0, locals := 25 }) s m ([.ref h, .int a, .int b] : List Value).toArray below meth c H locs 0 0 (MQ below (va_Qi (fun (r : Int32) (u : Int32 × Int32 × Int32 × Int32) => ((r = 1 ∧ a.toInt ≤ u.2.2.2.toInt ∧ u.2.2.2.toInt ≤ b.toInt) ∨ (r = 0)) ∧ (ap.toInt ≤ u.2.1.toInt) ∧ (0 ≤ u.2.1.toInt ∧ u.2.1.toInt ≤ 120)) (fun u t => wb D A ((fun u => [(h, .inr (7, [.ref sl, .int na, .ref zs, .ref ln, .ref ir, .ref tk, .int su, .int le, .ref tb, .int u.1, .int u.2.1, .int u.2.2.1, .ref tr, .int tc, .ref fz, .int u.2.2.2])), (tb, .inl (cB, 120, .inl tbf))]) u) t) A) ([.ref h, .int a, .int b] : List Value).toArray s 0 0 A) (F0 m 8 ls []) := by
    intro nf
    induction nf with
    | zero =>
      intro t4_c8 g0_c8 H locs ls i_g0_c8 j0_c8 hm
      exact absurd hm (Nat.not_lt_zero _)
    | succ nf ih8 =>
      intro t4_c8 g0_c8 H locs ls i_g0_c8 j0_c8 hm8 hP hD hS hl
      refine lv_aload_n hx hb dX8_isNumber_8 rfl (lv_at hl 2 rfl) ?_
      have k_1 := (g_X8_next l D cI cB cQ H.size h sl zs ln ir tk tb tr fz na su le fu g0_c8 pp tc nm tbf (by omega) (by omega) (by omega) (by omega))
      refine wc_i (WC := [(h, .inr (7, [.ref sl, .int na, .ref zs, .ref ln, .ref ir, .ref tk, .int su, .int le, .ref tb, .int fu, .int g0_c8, .int pp, .ref tr, .int tc, .ref fz, .int nm])), (tb, .inl (cB, 120, .inl tbf))]) (WR := []) (va_runV (As := []) (rest := []) ⟨hx, hb, hml, hown, hts⟩ k_1 (cwV 0 hts gX8_isNumber_X8_next rfl rfl rfl (by decide +kernel) ⟨Nat.le_of_ble_eq_true rfl, Nat.le_of_ble_eq_true rfl⟩) (wp_V hP hK hD hN [0, 1] (by decide) rfl (ci := 7) rfl rfl) rfl rfl hl.1 rfl (lv_room (Nat.le_of_ble_eq_true rfl)) dX8_isNumber_9 ⟨Nat.le_of_ble_eq_true rfl, Nat.le_of_ble_eq_true rfl⟩) hP hD hS hA [0, 1] [] rfl rfl (by decide) (by decide) (fun r_1 u_1 H locs hw_1 hP hD hS => ?_)
      clear k_1
      have hP : va_P D kl [(h, .inr (7, [.ref sl, .int na, .ref zs, .ref ln, .ref ir, .ref tk, .int su, .int le, .ref tb, .int fu, .int g0_c8, .int pp, .ref tr, .int tc, .ref fz, .int nm])), (tb, .inl (cB, 120, .inl tbf))] H := hP
      have hD : va_D A [(h, .inr (7, [.ref sl, .int na, .ref zs, .ref ln, .ref ir, .ref tk, .int su, .int le, .ref tb, .int fu, .int g0_c8, .int pp, .ref tr, .int tc, .ref fz, .int nm])), (tb, .inl (cB, 120, .inl tbf))] := hD
      have c1_0 := hw_1
      have c1_0 : r_1.toInt = (-1) ∨ g0_c8.toInt < le.toInt := c1_0
      refine lv_i2l (v := (r_1.toInt64)) hx hb dX8_isNumber_12 rfl ?_
      refine lv_ldc2 (v := 48) hx hb hown (hts (.constantLong RX8 79 (48)) (List.mem_of_getElem? (i := 2) rfl)) dX8_isNumber_13 ?_
      refine lv_ldc2 (v := 57) hx hb hown (hts (.constantLong RX8 81 (57)) (List.mem_of_getElem? (i := 3) rfl)) dX8_isNumber_16 ?_
      have k_2 := (g_X8_in l D cI cB cQ H.size (r_1.toInt64) 48 57)
      refine wc_i (WC := []) (WR := [(h, .inr (7, [.ref sl, .int na, .ref zs, .ref ln, .ref ir, .ref tk, .int su, .int le, .ref tb, .int fu, .int g0_c8, .int pp, .ref tr, .int tc, .ref fz, .int nm])), (tb, .inl (cB, 120, .inl tbf))]) (va_runS (As := [.long (r_1.toInt64), .long 48, .long 57]) (rest := []) ⟨hx, hb, hml, hown, hts⟩ k_2 (va_cwS 3 hts gX8_isNumber_X8_in rfl rfl rfl (by decide +kernel) ⟨Nat.le_of_ble_eq_true rfl, Nat.le_of_ble_eq_true rfl⟩) (wp_S hP hK hD hN [] (by decide) rfl) rfl rfl hl.1 rfl (lv_room (Nat.le_of_ble_eq_true rfl)) dX8_isNumber_19 ⟨Nat.le_of_ble_eq_true rfl, Nat.le_of_ble_eq_true rfl⟩) hP hD hS hA [] [0, 1] rfl rfl (by decide) (by decide) (fun r_2 u_2 H locs hw_2 hP hD hS => ?_)
      clear k_2
      have hP : va_P D kl [(h, .inr (7, [.ref sl, .int na, .ref zs, .ref ln, .ref ir, .ref tk, .int su, .int le, .ref tb, .int fu, .int g0_c8, .int pp, .ref tr, .int tc, .ref fz, .int nm])), (tb, .inl (cB, 120, .inl tbf))] H := hP
      have hD : va_D A [(h, .inr (7, [.ref sl, .int na, .ref zs, .ref ln, .ref ir, .ref tk, .int su, .int le, .ref tb, .int fu, .int g0_c8, .int pp, .ref tr, .int tc, .ref fz, .int nm])), (tb, .inl (cB, 120, .inl tbf))] := hD
      have c2_0 := hw_2
      rcases c2_0 with ⟨e_2, f_2⟩ | ⟨e_2, f_2⟩
      · subst e_2
        have f_2 : (48 : Int) ≤ r_1.toInt ∧ r_1.toInt ≤ (57 : Int) := by
          have h8 := f_2
          try simp only [zl_of] at h8
          exact h8
        refine lv_if_eq (tgt := 68) hx hb dX8_isNumber_22 (by decide) (fun c9 => absurd c9 (by decide)) (fun _ => ?_)
        refine lv_aload_n hx hb dX8_isNumber_25 rfl (lv_at hl 2 rfl) ?_
        refine va_get (D := D) (ci := 7) (v := .int g0_c8) (C := RX8) (T := TX8) (N := 16) hx hb hts (fun _ h => List.mem_cons_of_mem _ (List.mem_append_right _ h)) hown hK hP 0 rfl rfl 10 (by decide) (hts (.fieldLink RX8 62 "WinterWalkModel" "at" "I") (List.mem_of_getElem? (i := 1) rfl)) (fun _ h9 => h9) rfl dX8_isNumber_26 ?_
        refine lv_iload_n hx hb dX8_isNumber_29 rfl (lv_at hl 1 rfl) ?_
        refine lv_isub hx hb dX8_isNumber_30 ?_
        refine lv_topi (fun x_3 ex_3 => ?_)
        have e_3 : x_3.toInt = g0_c8.toInt - ap.toInt := by rw [ex_3]; exact zi_sub (rfl) (rfl) (by omega) (by omega)
        clear ex_3
        refine lv_iconst (v := 2) hx hb dX8_isNumber_31 (by decide) ?_
        refine lv_icmp_ge (tgt := 51) hx hb dX8_isNumber_32 (by decide) (fun c_4 => ?_) (fun c_4 => ?_)
        · have f_4 : 2 ≤ x_3.toInt := zi_le c_4
          refine lv_iload hx hb dX8_isNumber_51 (lv_at hl 0 rfl) ?_
          refine lv_istore (lv' := [(4, .int t4_c8), (3, .int ap), (0, .ref h), (1, .int a), (2, .int b)]) hx hb dX8_isNumber_53 hl (by decide) rfl (fun ls hl => ?_)
          refine lv_aload_n hx hb dX8_isNumber_55 rfl (lv_at hl 2 rfl) ?_
          refine lv_dup hx hb dX8_isNumber_56 rfl ?_
          refine va_get (D := D) (ci := 7) (v := .int g0_c8) (C := RX8) (T := TX8) (N := 16) hx hb hts (fun _ h => List.mem_cons_of_mem _ (List.mem_append_right _ h)) hown hK hP 0 rfl rfl 10 (by decide) (hts (.fieldLink RX8 62 "WinterWalkModel" "at" "I") (List.mem_of_getElem? (i := 1) rfl)) (fun _ h9 => h9) rfl dX8_isNumber_57 ?_
          refine lv_iconst (v := 1) hx hb dX8_isNumber_60 (by decide) ?_
          refine lv_iadd hx hb dX8_isNumber_61 ?_
          refine lv_topi (fun x_5 ex_5 => ?_)
          have e_5 : x_5.toInt = g0_c8.toInt + 1 := by rw [ex_5]; exact zi_add (rfl) (by decide) (by omega) (by omega)
          clear ex_5
          refine va_put (D := D) (ci := 7) (v := .int x_5) (ty := .int) (C := RX8) (T := TX8) (N := 16) hx hb hts (fun _ h => List.mem_cons_of_mem _ (List.mem_append_right _ h)) tyX8 tyX8_ok nmX8 hown hK hP hD hS 0 rfl rfl 10 (by decide) (hts (.fieldLink RX8 62 "WinterWalkModel" "at" "I") (List.mem_of_getElem? (i := 1) rfl)) (fun _ h9 => h9) rfl (by decide +kernel) rfl rfl (Nat.le_of_ble_eq_true rfl) dX8_isNumber_62 (fun H locs hP hD hS => ?_)
          have hP : va_P D kl [(h, .inr (7, [.ref sl, .int na, .ref zs, .ref ln, .ref ir, .ref tk, .int su, .int le, .ref tb, .int fu, .int x_5, .int pp, .ref tr, .int tc, .ref fz, .int nm])), (tb, .inl (cB, 120, .inl tbf))] H := hP
          have hD : va_D A [(h, .inr (7, [.ref sl, .int na, .ref zs, .ref ln, .ref ir, .ref tk, .int su, .int le, .ref tb, .int fu, .int x_5, .int pp, .ref tr, .int tc, .ref fz, .int nm])), (tb, .inl (cB, 120, .inl tbf))] := hD
          refine lv_goto (tgt := 8) hx hb dX8_isNumber_65 (by decide) ?_
          exact ih8 t4_c8 x_5 _ _ _ (show 0 ≤ x_5.toInt ∧ x_5.toInt ≤ 120 from by omega) (show ap.toInt ≤ x_5.toInt from by omega) (by omega) (hP.sub [0, 1] rfl) (hD.sub [0, 1] (by decide) rfl) hS (lv_sub hl [0, 1, 2, 3, 4] rfl)
        · have f_4 : ¬ 2 ≤ x_3.toInt := zi_nle c_4
          refine lv_bipush (v := 10) hx hb dX8_isNumber_35 (by decide) ?_
          refine lv_iload hx hb dX8_isNumber_37 (lv_at hl 0 rfl) ?_
          refine lv_imul hx hb dX8_isNumber_39 ?_
          refine lv_topi (fun x_6 ex_6 => ?_)
          clear ex_6
          refine lv_aload_n hx hb dX8_isNumber_40 rfl (lv_at hl 2 rfl) ?_
          have k_7 := (g_X8_next l D cI cB cQ H.size h sl zs ln ir tk tb tr fz na su le fu g0_c8 pp tc nm tbf (by omega) (by omega) (by omega) (by omega))
          refine wc_i (WC := [(h, .inr (7, [.ref sl, .int na, .ref zs, .ref ln, .ref ir, .ref tk, .int su, .int le, .ref tb, .int fu, .int g0_c8, .int pp, .ref tr, .int tc, .ref fz, .int nm])), (tb, .inl (cB, 120, .inl tbf))]) (WR := []) (va_runV (As := []) (rest := [.int x_6]) ⟨hx, hb, hml, hown, hts⟩ k_7 (cwV 0 hts gX8_isNumber_X8_next rfl rfl rfl (by decide +kernel) ⟨Nat.le_of_ble_eq_true rfl, Nat.le_of_ble_eq_true rfl⟩) (wp_V hP hK hD hN [0, 1] (by decide) rfl (ci := 7) rfl rfl) rfl rfl hl.1 rfl (lv_room (Nat.le_of_ble_eq_true rfl)) dX8_isNumber_41 ⟨Nat.le_of_ble_eq_true rfl, Nat.le_of_ble_eq_true rfl⟩) hP hD hS hA [0, 1] [] rfl rfl (by decide) (by decide) (fun r_7 u_7 H locs hw_7 hP hD hS => ?_)
          clear k_7
          have hP : va_P D kl [(h, .inr (7, [.ref sl, .int na, .ref zs, .ref ln, .ref ir, .ref tk, .int su, .int le, .ref tb, .int fu, .int g0_c8, .int pp, .ref tr, .int tc, .ref fz, .int nm])), (tb, .inl (cB, 120, .inl tbf))] H := hP
          have hD : va_D A [(h, .inr (7, [.ref sl, .int na, .ref zs, .ref ln, .ref ir, .ref tk, .int su, .int le, .ref tb, .int fu, .int g0_c8, .int pp, .ref tr, .int tc, .ref fz, .int nm])), (tb, .inl (cB, 120, .inl tbf))] := hD
          have c7_0 := hw_7
          have c7_0 : r_7.toInt = (-1) ∨ g0_c8.toInt < le.toInt := c7_0
          refine lv_iadd hx hb dX8_isNumber_44 ?_
          refine lv_topi (fun x_8 ex_8 => ?_)
          clear ex_8
          refine lv_bipush (v := 48) hx hb dX8_isNumber_45 (by decide) ?_
          refine lv_isub hx hb dX8_isNumber_47 ?_
          refine lv_topi (fun x_9 ex_9 => ?_)
          clear ex_9
          refine lv_goto (tgt := 53) hx hb dX8_isNumber_48 (by decide) ?_
          refine lv_istore (lv' := [(4, .int x_9), (3, .int ap), (0, .ref h), (1, .int a), (2, .int b)]) hx hb dX8_isNumber_53 hl (by decide) rfl (fun ls hl => ?_)
          refine lv_aload_n hx hb dX8_isNumber_55 rfl (lv_at hl 2 rfl) ?_
          refine lv_dup hx hb dX8_isNumber_56 rfl ?_
          refine va_get (D := D) (ci := 7) (v := .int g0_c8) (C := RX8) (T := TX8) (N := 16) hx hb hts (fun _ h => List.mem_cons_of_mem _ (List.mem_append_right _ h)) hown hK hP 0 rfl rfl 10 (by decide) (hts (.fieldLink RX8 62 "WinterWalkModel" "at" "I") (List.mem_of_getElem? (i := 1) rfl)) (fun _ h9 => h9) rfl dX8_isNumber_57 ?_
          refine lv_iconst (v := 1) hx hb dX8_isNumber_60 (by decide) ?_
          refine lv_iadd hx hb dX8_isNumber_61 ?_
          refine lv_topi (fun x_10 ex_10 => ?_)
          have e_10 : x_10.toInt = g0_c8.toInt + 1 := by rw [ex_10]; exact zi_add (rfl) (by decide) (by omega) (by omega)
          clear ex_10
          refine va_put (D := D) (ci := 7) (v := .int x_10) (ty := .int) (C := RX8) (T := TX8) (N := 16) hx hb hts (fun _ h => List.mem_cons_of_mem _ (List.mem_append_right _ h)) tyX8 tyX8_ok nmX8 hown hK hP hD hS 0 rfl rfl 10 (by decide) (hts (.fieldLink RX8 62 "WinterWalkModel" "at" "I") (List.mem_of_getElem? (i := 1) rfl)) (fun _ h9 => h9) rfl (by decide +kernel) rfl rfl (Nat.le_of_ble_eq_true rfl) dX8_isNumber_62 (fun H locs hP hD hS => ?_)
          have hP : va_P D kl [(h, .inr (7, [.ref sl, .int na, .ref zs, .ref ln, .ref ir, .ref tk, .int su, .int le, .ref tb, .int fu, .int x_10, .int pp, .ref tr, .int tc, .ref fz, .int nm])), (tb, .inl (cB, 120, .inl tbf))] H := hP
          have hD : va_D A [(h, .inr (7, [.ref sl, .int na, .ref zs, .ref ln, .ref ir, .ref tk, .int su, .int le, .ref tb, .int fu, .int x_10, .int pp, .ref tr, .int tc, .ref fz, .int nm])), (tb, .inl (cB, 120, .inl tbf))] := hD
          refine lv_goto (tgt := 8) hx hb dX8_isNumber_65 (by decide) ?_
          exact ih8 x_9 x_10 _ _ _ (show 0 ≤ x_10.toInt ∧ x_10.toInt ≤ 120 from by omega) (show ap.toInt ≤ x_10.toInt from by omega) (by omega) (hP.sub [0, 1] rfl) (hD.sub [0, 1] (by decide) rfl) hS (lv_sub hl [0, 1, 2, 3, 4] rfl)
      · subst e_2
        have f_2 : ¬ ((48 : Int) ≤ r_1.toInt ∧ r_1.toInt ≤ (57 : Int)) := by
          have h8 := f_2
          try simp only [zl_of] at h8
          exact h8
        refine lv_if_eq (tgt := 68) hx hb dX8_isNumber_22 (by decide) (fun _ => ?_) (fun c9 => absurd (by decide) c9)
        refine lv_aload_n hx hb dX8_isNumber_68 rfl (lv_at hl 2 rfl) ?_
        refine va_get (D := D) (ci := 7) (v := .int g0_c8) (C := RX8) (T := TX8) (N := 16) hx hb hts (fun _ h => List.mem_cons_of_mem _ (List.mem_append_right _ h)) hown hK hP 0 rfl rfl 10 (by decide) (hts (.fieldLink RX8 62 "WinterWalkModel" "at" "I") (List.mem_of_getElem? (i := 1) rfl)) (fun _ h9 => h9) rfl dX8_isNumber_69 ?_
        refine lv_iload_n hx hb dX8_isNumber_72 rfl (lv_at hl 1 rfl) ?_
        refine lv_isub hx hb dX8_isNumber_73 ?_
        refine lv_topi (fun x_11 ex_11 => ?_)
        have e_11 : x_11.toInt = g0_c8.toInt - ap.toInt := by rw [ex_11]; exact zi_sub (rfl) (rfl) (by omega) (by omega)
        clear ex_11
        refine lv_i2l (v := (x_11.toInt64)) hx hb dX8_isNumber_74 rfl ?_
        refine lv_lconst (v := 1) hx hb dX8_isNumber_75 (by decide) ?_
        refine lv_ldc2 (v := 2) hx hb hown (hts (.constantLong RX8 46 (2)) (List.mem_of_getElem? (i := 4) rfl)) dX8_isNumber_76 ?_
        have k_12 := (g_X8_in l D cI cB cQ H.size (x_11.toInt64) 1 2)
        refine wc_i (WC := []) (WR := [(h, .inr (7, [.ref sl, .int na, .ref zs, .ref ln, .ref ir, .ref tk, .int su, .int le, .ref tb, .int fu, .int g0_c8, .int pp, .ref tr, .int tc, .ref fz, .int nm])), (tb, .inl (cB, 120, .inl tbf))]) (va_runS (As := [.long (x_11.toInt64), .long 1, .long 2]) (rest := []) ⟨hx, hb, hml, hown, hts⟩ k_12 (va_cwS 3 hts gX8_isNumber_X8_in rfl rfl rfl (by decide +kernel) ⟨Nat.le_of_ble_eq_true rfl, Nat.le_of_ble_eq_true rfl⟩) (wp_S hP hK hD hN [] (by decide) rfl) rfl rfl hl.1 rfl (lv_room (Nat.le_of_ble_eq_true rfl)) dX8_isNumber_79 ⟨Nat.le_of_ble_eq_true rfl, Nat.le_of_ble_eq_true rfl⟩) hP hD hS hA [] [0, 1] rfl rfl (by decide) (by decide) (fun r_12 u_12 H locs hw_12 hP hD hS => ?_)
        clear k_12
        have hP : va_P D kl [(h, .inr (7, [.ref sl, .int na, .ref zs, .ref ln, .ref ir, .ref tk, .int su, .int le, .ref tb, .int fu, .int g0_c8, .int pp, .ref tr, .int tc, .ref fz, .int nm])), (tb, .inl (cB, 120, .inl tbf))] H := hP
        have hD : va_D A [(h, .inr (7, [.ref sl, .int na, .ref zs, .ref ln, .ref ir, .ref tk, .int su, .int le, .ref tb, .int fu, .int g0_c8, .int pp, .ref tr, .int tc, .ref fz, .int nm])), (tb, .inl (cB, 120, .inl tbf))] := hD
        have c12_0 := hw_12
        rcases c12_0 with ⟨e_12, f_12⟩ | ⟨e_12, f_12⟩
        · subst e_12
          have f_12 : (1 : Int) ≤ x_11.toInt ∧ x_11.toInt ≤ (2 : Int) := by
            have h8 := f_12
            try simp only [zl_of] at h8
            exact h8
          refine lv_if_ne (tgt := 92) hx hb dX8_isNumber_82 (by decide) (fun _ => ?_) (fun c9 => absurd c9 (by decide))
          refine lv_aload_n hx hb dX8_isNumber_92 rfl (lv_at hl 2 rfl) ?_
          refine lv_iload hx hb dX8_isNumber_93 (lv_at hl 0 rfl) ?_
          refine va_put (D := D) (ci := 7) (v := .int t4_c8) (ty := .int) (C := RX8) (T := TX8) (N := 16) hx hb hts (fun _ h => List.mem_cons_of_mem _ (List.mem_append_right _ h)) tyX8 tyX8_ok nmX8 hown hK hP hD hS 0 rfl rfl 15 (by decide) (hts (.fieldLink RX8 83 "WinterWalkModel" "number" "I") (List.mem_of_getElem? (i := 5) rfl)) (fun _ h9 => h9) rfl (by decide +kernel) rfl rfl (Nat.le_of_ble_eq_true rfl) dX8_isNumber_95 (fun H locs hP hD hS => ?_)
          have hP : va_P D kl [(h, .inr (7, [.ref sl, .int na, .ref zs, .ref ln, .ref ir, .ref tk, .int su, .int le, .ref tb, .int fu, .int g0_c8, .int pp, .ref tr, .int tc, .ref fz, .int t4_c8])), (tb, .inl (cB, 120, .inl tbf))] H := hP
          have hD : va_D A [(h, .inr (7, [.ref sl, .int na, .ref zs, .ref ln, .ref ir, .ref tk, .int su, .int le, .ref tb, .int fu, .int g0_c8, .int pp, .ref tr, .int tc, .ref fz, .int t4_c8])), (tb, .inl (cB, 120, .inl tbf))] := hD
          refine lv_iload hx hb dX8_isNumber_98 (lv_at hl 0 rfl) ?_
          refine lv_i2l (v := (t4_c8.toInt64)) hx hb dX8_isNumber_100 rfl ?_
          refine lv_iload_n hx hb dX8_isNumber_101 rfl (lv_at hl 3 rfl) ?_
          refine lv_i2l (v := (a.toInt64)) hx hb dX8_isNumber_102 rfl ?_
          refine lv_iload_n hx hb dX8_isNumber_103 rfl (lv_at hl 4 rfl) ?_
          refine lv_i2l (v := (b.toInt64)) hx hb dX8_isNumber_104 rfl ?_
          have k_13 := (g_X8_in l D cI cB cQ H.size (t4_c8.toInt64) (a.toInt64) (b.toInt64))
          refine wc_i (WC := []) (WR := [(h, .inr (7, [.ref sl, .int na, .ref zs, .ref ln, .ref ir, .ref tk, .int su, .int le, .ref tb, .int fu, .int g0_c8, .int pp, .ref tr, .int tc, .ref fz, .int t4_c8])), (tb, .inl (cB, 120, .inl tbf))]) (va_runS (As := [.long (t4_c8.toInt64), .long (a.toInt64), .long (b.toInt64)]) (rest := []) ⟨hx, hb, hml, hown, hts⟩ k_13 (va_cwS 3 hts gX8_isNumber_X8_in rfl rfl rfl (by decide +kernel) ⟨Nat.le_of_ble_eq_true rfl, Nat.le_of_ble_eq_true rfl⟩) (wp_S hP hK hD hN [] (by decide) rfl) rfl rfl hl.1 rfl (lv_room (Nat.le_of_ble_eq_true rfl)) dX8_isNumber_105 ⟨Nat.le_of_ble_eq_true rfl, Nat.le_of_ble_eq_true rfl⟩) hP hD hS hA [] [0, 1] rfl rfl (by decide) (by decide) (fun r_13 u_13 H locs hw_13 hP hD hS => ?_)
          clear k_13
          have hP : va_P D kl [(h, .inr (7, [.ref sl, .int na, .ref zs, .ref ln, .ref ir, .ref tk, .int su, .int le, .ref tb, .int fu, .int g0_c8, .int pp, .ref tr, .int tc, .ref fz, .int t4_c8])), (tb, .inl (cB, 120, .inl tbf))] H := hP
          have hD : va_D A [(h, .inr (7, [.ref sl, .int na, .ref zs, .ref ln, .ref ir, .ref tk, .int su, .int le, .ref tb, .int fu, .int g0_c8, .int pp, .ref tr, .int tc, .ref fz, .int t4_c8])), (tb, .inl (cB, 120, .inl tbf))] := hD
          have c13_0 := hw_13
          rcases c13_0 with ⟨e_13, f_13⟩ | ⟨e_13, f_13⟩
          · subst e_13
            have f_13 : a.toInt ≤ t4_c8.toInt ∧ t4_c8.toInt ≤ b.toInt := by
              have h8 := f_13
              try simp only [zl_of] at h8
              exact h8
            refine lv_if_ne (tgt := 120) hx hb dX8_isNumber_108 (by decide) (fun _ => ?_) (fun c9 => absurd c9 (by decide))
            refine lv_iconst (v := 1) hx hb dX8_isNumber_120 (by decide) ?_
            refine lv_goto (tgt := 125) hx hb dX8_isNumber_121 (by decide) ?_
            exact wr_z (v := 1) hx hb hr hlocks hS (fu, g0_c8, pp, t4_c8) (by exact ⟨Or.inl ⟨rfl, show a.toInt ≤ t4_c8.toInt ∧ t4_c8.toInt ≤ b.toInt from by omega⟩, show ap.toInt ≤ g0_c8.toInt from by omega, show 0 ≤ (g0_c8 : Int32).toInt ∧ (g0_c8 : Int32).toInt ≤ 120 from by omega⟩) (hP.sub [0, 1] rfl) (hD.sub [0, 1] (by decide) rfl) dX8_isNumber_125 rfl
          · subst e_13
            have f_13 : ¬ (a.toInt ≤ t4_c8.toInt ∧ t4_c8.toInt ≤ b.toInt) := by
              have h8 := f_13
              try simp only [zl_of] at h8
              exact h8
            refine lv_if_ne (tgt := 120) hx hb dX8_isNumber_108 (by decide) (fun c9 => absurd (by decide) c9) (fun _ => ?_)
            refine lv_aload_n hx hb dX8_isNumber_111 rfl (lv_at hl 2 rfl) ?_
            refine lv_iconst (v := 2) hx hb dX8_isNumber_112 (by decide) ?_
            refine lv_iload_n hx hb dX8_isNumber_113 rfl (lv_at hl 1 rfl) ?_
            have k_14 := (g_X8_fails l D cI cB cQ H.size h sl zs ln ir tk tb tr fz na su le fu g0_c8 pp tc t4_c8 2 ap)
            refine wc_i (WC := [(h, .inr (7, [.ref sl, .int na, .ref zs, .ref ln, .ref ir, .ref tk, .int su, .int le, .ref tb, .int fu, .int g0_c8, .int pp, .ref tr, .int tc, .ref fz, .int t4_c8]))]) (WR := [(tb, .inl (cB, 120, .inl tbf))]) (va_runV (As := [.int 2, .int ap]) (rest := []) ⟨hx, hb, hml, hown, hts⟩ k_14 (cwV 2 hts gX8_isNumber_X8_fails rfl rfl rfl (by decide +kernel) ⟨Nat.le_of_ble_eq_true rfl, Nat.le_of_ble_eq_true rfl⟩) (wp_V hP hK hD hN [0] (by decide) rfl (ci := 7) rfl rfl) rfl rfl hl.1 rfl (lv_room (Nat.le_of_ble_eq_true rfl)) dX8_isNumber_114 ⟨Nat.le_of_ble_eq_true rfl, Nat.le_of_ble_eq_true rfl⟩) hP hD hS hA [0] [1] rfl rfl (by decide) (by decide) (fun r_14 => pe2 (fun v14_0 v14_1 H locs hw_14 hP hD hS => ?_))
            clear k_14
            have hP : va_P D kl [(tb, .inl (cB, 120, .inl tbf)), (h, .inr (7, [.ref sl, .int na, .ref zs, .ref ln, .ref ir, .ref tk, .int su, .int le, .ref tb, .int v14_0, .int g0_c8, .int v14_1, .ref tr, .int tc, .ref fz, .int t4_c8]))] H := hP
            have hD : va_D A [(tb, .inl (cB, 120, .inl tbf)), (h, .inr (7, [.ref sl, .int na, .ref zs, .ref ln, .ref ir, .ref tk, .int su, .int le, .ref tb, .int v14_0, .int g0_c8, .int v14_1, .ref tr, .int tc, .ref fz, .int t4_c8]))] := hD
            have c14_0 := hw_14
            have e_14 := c14_0
            · subst e_14
              refine lv_if_eq (tgt := 124) hx hb dX8_isNumber_117 (by decide) (fun _ => ?_) (fun c9 => absurd (by decide) c9)
              refine lv_iconst (v := 0) hx hb dX8_isNumber_124 (by decide) ?_
              exact wr_z (v := 0) hx hb hr hlocks hS (v14_0, g0_c8, v14_1, t4_c8) (by exact ⟨Or.inr (rfl), show ap.toInt ≤ g0_c8.toInt from by omega, show 0 ≤ (g0_c8 : Int32).toInt ∧ (g0_c8 : Int32).toInt ≤ 120 from by omega⟩) (hP.sub [1, 0] rfl) (hD.sub [1, 0] (by decide) rfl) dX8_isNumber_125 rfl
        · subst e_12
          have f_12 : ¬ ((1 : Int) ≤ x_11.toInt ∧ x_11.toInt ≤ (2 : Int)) := by
            have h8 := f_12
            try simp only [zl_of] at h8
            exact h8
          refine lv_if_ne (tgt := 92) hx hb dX8_isNumber_82 (by decide) (fun c9 => absurd (by decide) c9) (fun _ => ?_)
          refine lv_aload_n hx hb dX8_isNumber_85 rfl (lv_at hl 2 rfl) ?_
          refine lv_iconst (v := 1) hx hb dX8_isNumber_86 (by decide) ?_
          refine lv_iload_n hx hb dX8_isNumber_87 rfl (lv_at hl 1 rfl) ?_
          have k_15 := (g_X8_fails l D cI cB cQ H.size h sl zs ln ir tk tb tr fz na su le fu g0_c8 pp tc nm 1 ap)
          refine wc_i (WC := [(h, .inr (7, [.ref sl, .int na, .ref zs, .ref ln, .ref ir, .ref tk, .int su, .int le, .ref tb, .int fu, .int g0_c8, .int pp, .ref tr, .int tc, .ref fz, .int nm]))]) (WR := [(tb, .inl (cB, 120, .inl tbf))]) (va_runV (As := [.int 1, .int ap]) (rest := []) ⟨hx, hb, hml, hown, hts⟩ k_15 (cwV 2 hts gX8_isNumber_X8_fails rfl rfl rfl (by decide +kernel) ⟨Nat.le_of_ble_eq_true rfl, Nat.le_of_ble_eq_true rfl⟩) (wp_V hP hK hD hN [0] (by decide) rfl (ci := 7) rfl rfl) rfl rfl hl.1 rfl (lv_room (Nat.le_of_ble_eq_true rfl)) dX8_isNumber_88 ⟨Nat.le_of_ble_eq_true rfl, Nat.le_of_ble_eq_true rfl⟩) hP hD hS hA [0] [1] rfl rfl (by decide) (by decide) (fun r_15 => pe2 (fun v15_0 v15_1 H locs hw_15 hP hD hS => ?_))
          clear k_15
          have hP : va_P D kl [(tb, .inl (cB, 120, .inl tbf)), (h, .inr (7, [.ref sl, .int na, .ref zs, .ref ln, .ref ir, .ref tk, .int su, .int le, .ref tb, .int v15_0, .int g0_c8, .int v15_1, .ref tr, .int tc, .ref fz, .int nm]))] H := hP
          have hD : va_D A [(tb, .inl (cB, 120, .inl tbf)), (h, .inr (7, [.ref sl, .int na, .ref zs, .ref ln, .ref ir, .ref tk, .int su, .int le, .ref tb, .int v15_0, .int g0_c8, .int v15_1, .ref tr, .int tc, .ref fz, .int nm]))] := hD
          have c15_0 := hw_15
          have e_15 := c15_0
          · subst e_15
            exact wr_z (v := 0) hx hb hr hlocks hS (v15_0, g0_c8, v15_1, nm) (by exact ⟨Or.inr (rfl), show ap.toInt ≤ g0_c8.toInt from by omega, show 0 ≤ (g0_c8 : Int32).toInt ∧ (g0_c8 : Int32).toInt ≤ 120 from by omega⟩) (hP.sub [1, 0] rfl) (hD.sub [1, 0] (by decide) rfl) dX8_isNumber_91 rfl
  exact hL8 (((120 - (ap : Int32).toInt).toNat) + 1) 0 ap _ _ _ (show 0 ≤ ap.toInt ∧ ap.toInt ≤ 120 from by omega) (show ap.toInt ≤ ap.toInt from by omega) (Nat.lt_succ_self _) (hP.sub [0, 1] rfl) (hD.sub [0, 1] (by decide) rfl) hS (lv_sub hl [0, 1, 2, 3, 4] rfl)
set_option maxHeartbeats 4000000 in
set_option maxRecDepth 100000 in
theorem g_X8_sortOf (l : Launch) (D : va_G) (cI cB cQ : ClassId) (sz : Nat) (k : Int32) : mi l yX8_sortOf wsX8_sortOf ({ frames := 0, cells := 0, slots := 0, locals := 0 }) D cI cB cQ [.int k] sz [] (fun (r : Int32) (_u : Unit) => ((0 ≤ r.toInt ∧ r.toInt ≤ 5) ∧ (r.toInt = 0 ∨ 0 ≤ k.toInt))) (fun _ => []) 0 0 := by
  refine wm_i (cc := cX8_sortOf) (maxL := 1) (ret := (some .int)) (by decide) rfl (Nat.le_of_ble_eq_true rfl) ?_
  intro p e s m below meth c A ls hx hb hr hml hown hts hlocks hin hP hK hD hN hA hl hS
  have hown : s.vm.findClass RX8 = some m.cls := hown
  have hl : lv_has ls 1 [(0, .int k)] := hl
  change W p l e ({ frames := 0, cells := 0, slots := 0, locals := 0 }) s m ([.int k] : List Value).toArray below meth c s.heap [] 0 0 (MQ below (va_Qi (fun (r : Int32) (_u : Unit) => ((0 ≤ r.toInt ∧ r.toInt ≤ 5) ∧ (r.toInt = 0 ∨ 0 ≤ k.toInt))) (fun u t => wb D A ((fun _ => []) u) t) A) ([.int k] : List Value).toArray s 0 0 A) (F0 m 0 ls [])
  refine lv_iload_n hx hb dX8_sortOf_0 rfl (lv_at hl 0 rfl) ?_
  refine lv_bipush (v := 111) hx hb dX8_sortOf_1 (by decide) ?_
  refine lv_icmp_ne (tgt := 10) hx hb dX8_sortOf_3 (by decide) (fun c_1 => ?_) (fun c_1 => ?_)
  · have f_1 : ¬ k.toInt = 111 := zi_ne c_1
    refine lv_iload_n hx hb dX8_sortOf_10 rfl (lv_at hl 0 rfl) ?_
    refine lv_bipush (v := 115) hx hb dX8_sortOf_11 (by decide) ?_
    refine lv_icmp_ne (tgt := 20) hx hb dX8_sortOf_13 (by decide) (fun c_2 => ?_) (fun c_2 => ?_)
    · have f_2 : ¬ k.toInt = 115 := zi_ne c_2
      refine lv_iload_n hx hb dX8_sortOf_20 rfl (lv_at hl 0 rfl) ?_
      refine lv_bipush (v := 108) hx hb dX8_sortOf_21 (by decide) ?_
      refine lv_icmp_ne (tgt := 30) hx hb dX8_sortOf_23 (by decide) (fun c_3 => ?_) (fun c_3 => ?_)
      · have f_3 : ¬ k.toInt = 108 := zi_ne c_3
        refine lv_iload_n hx hb dX8_sortOf_30 rfl (lv_at hl 0 rfl) ?_
        refine lv_bipush (v := 116) hx hb dX8_sortOf_31 (by decide) ?_
        refine lv_icmp_ne (tgt := 40) hx hb dX8_sortOf_33 (by decide) (fun c_4 => ?_) (fun c_4 => ?_)
        · have f_4 : ¬ k.toInt = 116 := zi_ne c_4
          refine lv_iload_n hx hb dX8_sortOf_40 rfl (lv_at hl 0 rfl) ?_
          refine lv_bipush (v := 101) hx hb dX8_sortOf_41 (by decide) ?_
          refine lv_icmp_ne (tgt := 50) hx hb dX8_sortOf_43 (by decide) (fun c_5 => ?_) (fun c_5 => ?_)
          · have f_5 : ¬ k.toInt = 101 := zi_ne c_5
            refine lv_iconst (v := 0) hx hb dX8_sortOf_50 (by decide) ?_
            exact wr_i (v := 0) hx hb hr hlocks hS () (by exact show (0 ≤ 0 ∧ 0 ≤ 5) ∧ (0 = 0 ∨ 0 ≤ k.toInt) from by omega) (hP.sub [] rfl) (hD.sub [] (by decide) rfl) dX8_sortOf_51
          · have f_5 : k.toInt = 101 := zi_eq c_5
            refine lv_iconst (v := 5) hx hb dX8_sortOf_46 (by decide) ?_
            refine lv_goto (tgt := 51) hx hb dX8_sortOf_47 (by decide) ?_
            exact wr_i (v := 5) hx hb hr hlocks hS () (by exact show (0 ≤ 5 ∧ 5 ≤ 5) ∧ (5 = 0 ∨ 0 ≤ k.toInt) from by omega) (hP.sub [] rfl) (hD.sub [] (by decide) rfl) dX8_sortOf_51
        · have f_4 : k.toInt = 116 := zi_eq c_4
          refine lv_iconst (v := 4) hx hb dX8_sortOf_36 (by decide) ?_
          refine lv_goto (tgt := 51) hx hb dX8_sortOf_37 (by decide) ?_
          exact wr_i (v := 4) hx hb hr hlocks hS () (by exact show (0 ≤ 4 ∧ 4 ≤ 5) ∧ (4 = 0 ∨ 0 ≤ k.toInt) from by omega) (hP.sub [] rfl) (hD.sub [] (by decide) rfl) dX8_sortOf_51
      · have f_3 : k.toInt = 108 := zi_eq c_3
        refine lv_iconst (v := 3) hx hb dX8_sortOf_26 (by decide) ?_
        refine lv_goto (tgt := 51) hx hb dX8_sortOf_27 (by decide) ?_
        exact wr_i (v := 3) hx hb hr hlocks hS () (by exact show (0 ≤ 3 ∧ 3 ≤ 5) ∧ (3 = 0 ∨ 0 ≤ k.toInt) from by omega) (hP.sub [] rfl) (hD.sub [] (by decide) rfl) dX8_sortOf_51
    · have f_2 : k.toInt = 115 := zi_eq c_2
      refine lv_iconst (v := 2) hx hb dX8_sortOf_16 (by decide) ?_
      refine lv_goto (tgt := 51) hx hb dX8_sortOf_17 (by decide) ?_
      exact wr_i (v := 2) hx hb hr hlocks hS () (by exact show (0 ≤ 2 ∧ 2 ≤ 5) ∧ (2 = 0 ∨ 0 ≤ k.toInt) from by omega) (hP.sub [] rfl) (hD.sub [] (by decide) rfl) dX8_sortOf_51
  · have f_1 : k.toInt = 111 := zi_eq c_1
    refine lv_iconst (v := 1) hx hb dX8_sortOf_6 (by decide) ?_
    refine lv_goto (tgt := 51) hx hb dX8_sortOf_7 (by decide) ?_
    exact wr_i (v := 1) hx hb hr hlocks hS () (by exact show (0 ≤ 1 ∧ 1 ≤ 5) ∧ (1 = 0 ∨ 0 ≤ k.toInt) from by omega) (hP.sub [] rfl) (hD.sub [] (by decide) rfl) dX8_sortOf_51
set_option maxHeartbeats 4000000 in
set_option maxRecDepth 100000 in
theorem g_X8_isVillage (l : Launch) (D : va_G) (cI cB cQ : ClassId) (sz : Nat) (h : Nat) (sl : Nat) (zs : Nat) (ln : Nat) (ir : Nat) (tk : Nat) (tb : Nat) (tr : Nat) (fz : Nat) (na : Int32) (su : Int32) (le : Int32) (fu : Int32) (ap : Int32) (pp : Int32) (tc : Int32) (nm : Int32) (k : Int32) (sf : Nat → Int32) (tbf : Nat → Int32) (v0 : Int) (hsi : SI sf v0) (h_na : 0 ≤ na.toInt ∧ na.toInt ≤ 24) (h_le : 0 ≤ le.toInt ∧ le.toInt ≤ 120) (h_ap : 0 ≤ ap.toInt ∧ ap.toInt ≤ 120) (h_tc : 0 ≤ tc.toInt ∧ tc.toInt ≤ 16) (h_x : ap.toInt < le.toInt) : mi l yX8_isVillage wsX8_isVillage ({ frames := 2, cells := 0, slots := 0, locals := 49 }) D cI cB cQ [.ref h, .int k] sz [(h, .inr (7, [.ref sl, .int na, .ref zs, .ref ln, .ref ir, .ref tk, .int su, .int le, .ref tb, .int fu, .int ap, .int pp, .ref tr, .int tc, .ref fz, .int nm])), (sl, .inl (cI, 1653, .inl sf)), (tb, .inl (cB, 120, .inl tbf))] (fun (r : Int32) (u : Int32 × Int32 × Int32 × Int32 × (Nat → Int32)) => ((r = 1 ∧ ap.toInt < u.2.1.toInt) ∨ (r = 0)) ∧ (0 ≤ u.2.1.toInt ∧ u.2.1.toInt ≤ 120) ∧ (SI u.2.2.2.2 v0)) (fun u => [(h, .inr (7, [.ref sl, .int na, .ref zs, .ref ln, .ref ir, .ref tk, .int su, .int le, .ref tb, .int u.1, .int u.2.1, .int u.2.2.1, .ref tr, .int tc, .ref fz, .int u.2.2.2.1])), (sl, .inl (cI, 1653, .inl u.2.2.2.2)), (tb, .inl (cB, 120, .inl tbf))]) 0 0 := by
  refine wm_i (cc := cX8_isVillage) (maxL := 3) (ret := (some .boolean)) (by decide) rfl (Nat.le_of_ble_eq_true rfl) ?_
  intro p e s m below meth c A ls hx hb hr hml hown hts hlocks hin hP hK hD hN hA hl hS
  have hown : s.vm.findClass RX8 = some m.cls := hown
  have hl : lv_has ls 3 [(0, .ref h), (1, .int k)] := hl
  change W p l e ({ frames := 2, cells := 0, slots := 0, locals := 49 }) s m ([.ref h, .int k] : List Value).toArray below meth c s.heap [] 0 0 (MQ below (va_Qi (fun (r : Int32) (u : Int32 × Int32 × Int32 × Int32 × (Nat → Int32)) => ((r = 1 ∧ ap.toInt < u.2.1.toInt) ∨ (r = 0)) ∧ (0 ≤ u.2.1.toInt ∧ u.2.1.toInt ≤ 120) ∧ (SI u.2.2.2.2 v0)) (fun u t => wb D A ((fun u => [(h, .inr (7, [.ref sl, .int na, .ref zs, .ref ln, .ref ir, .ref tk, .int su, .int le, .ref tb, .int u.1, .int u.2.1, .int u.2.2.1, .ref tr, .int tc, .ref fz, .int u.2.2.2.1])), (sl, .inl (cI, 1653, .inl u.2.2.2.2)), (tb, .inl (cB, 120, .inl tbf))]) u) t) A) ([.ref h, .int k] : List Value).toArray s 0 0 A) (F0 m 0 ls [])
  refine lv_aload_n hx hb dX8_isVillage_0 rfl (lv_at hl 0 rfl) ?_
  refine va_get (D := D) (ci := 7) (v := .ref sl) (C := RX8) (T := TX8) (N := 16) hx hb hts (fun _ h => List.mem_cons_of_mem _ (List.mem_append_right _ h)) hown hK hP 0 rfl rfl 0 (by decide) (hts (.fieldLink RX8 7 "WinterWalkModel" "slot" "[I") (List.mem_of_getElem? (i := 1) rfl)) (fun _ h9 => h9) rfl dX8_isVillage_1 ?_
  refine lv_sipush (v := 1597) hx hb dX8_isVillage_4 (by decide) ?_
  refine va_iald hx hb hK hP 1 0 rfl rfl (zi_in (by decide) (by decide)) dX8_isVillage_7 ?_
  refine lv_topi (fun x_1 ex_1 => ?_)
  have f_1 : 0 ≤ x_1.toInt ∧ x_1.toInt ≤ 8 := by rw [ex_1]; exact si_v hsi (s := 28) (by decide) (by omega)
  refine lv_istore_n (lv' := [(2, .int x_1), (0, .ref h), (1, .int k)]) hx hb dX8_isVillage_8 rfl hl (by decide) rfl (fun ls hl => ?_)
  refine lv_iload_n hx hb dX8_isVillage_9 rfl (lv_at hl 0 rfl) ?_
  refine lv_bipush (v := 8) hx hb dX8_isVillage_10 (by decide) ?_
  refine lv_icmp_ne (tgt := 25) hx hb dX8_isVillage_12 (by decide) (fun c_2 => ?_) (fun c_2 => ?_)
  · have f_2 : ¬ x_1.toInt = 8 := zi_ne c_2
    refine lv_aload_n hx hb dX8_isVillage_25 rfl (lv_at hl 1 rfl) ?_
    refine lv_dup hx hb dX8_isVillage_26 rfl ?_
    refine va_get (D := D) (ci := 7) (v := .int ap) (C := RX8) (T := TX8) (N := 16) hx hb hts (fun _ h => List.mem_cons_of_mem _ (List.mem_append_right _ h)) hown hK hP 0 rfl rfl 10 (by decide) (hts (.fieldLink RX8 62 "WinterWalkModel" "at" "I") (List.mem_of_getElem? (i := 2) rfl)) (fun _ h9 => h9) rfl dX8_isVillage_27 ?_
    refine lv_iconst (v := 1) hx hb dX8_isVillage_30 (by decide) ?_
    refine lv_iadd hx hb dX8_isVillage_31 ?_
    refine lv_topi (fun x_3 ex_3 => ?_)
    have e_3 : x_3.toInt = ap.toInt + 1 := by rw [ex_3]; exact zi_add (rfl) (by decide) (by omega) (by omega)
    clear ex_3
    refine va_put (D := D) (ci := 7) (v := .int x_3) (ty := .int) (C := RX8) (T := TX8) (N := 16) hx hb hts (fun _ h => List.mem_cons_of_mem _ (List.mem_append_right _ h)) tyX8 tyX8_ok nmX8 hown hK hP hD hS 0 rfl rfl 10 (by decide) (hts (.fieldLink RX8 62 "WinterWalkModel" "at" "I") (List.mem_of_getElem? (i := 2) rfl)) (fun _ h9 => h9) rfl (by decide +kernel) rfl rfl (Nat.le_of_ble_eq_true rfl) dX8_isVillage_32 (fun H locs hP hD hS => ?_)
    have hP : va_P D kl [(h, .inr (7, [.ref sl, .int na, .ref zs, .ref ln, .ref ir, .ref tk, .int su, .int le, .ref tb, .int fu, .int x_3, .int pp, .ref tr, .int tc, .ref fz, .int nm])), (sl, .inl (cI, 1653, .inl sf)), (tb, .inl (cB, 120, .inl tbf))] H := hP
    have hD : va_D A [(h, .inr (7, [.ref sl, .int na, .ref zs, .ref ln, .ref ir, .ref tk, .int su, .int le, .ref tb, .int fu, .int x_3, .int pp, .ref tr, .int tc, .ref fz, .int nm])), (sl, .inl (cI, 1653, .inl sf)), (tb, .inl (cB, 120, .inl tbf))] := hD
    refine lv_aload_n hx hb dX8_isVillage_35 rfl (lv_at hl 1 rfl) ?_
    refine lv_iconst (v := 0) hx hb dX8_isVillage_36 (by decide) ?_
    refine lv_bipush (v := 9) hx hb dX8_isVillage_37 (by decide) ?_
    have k_4 := (g_X8_isNumber l D cI cB cQ H.size h sl zs ln ir tk tb tr fz na su le fu x_3 pp tc nm 0 9 tbf (by omega) (by omega) (by omega) (by omega))
    refine wc_i (WC := [(h, .inr (7, [.ref sl, .int na, .ref zs, .ref ln, .ref ir, .ref tk, .int su, .int le, .ref tb, .int fu, .int x_3, .int pp, .ref tr, .int tc, .ref fz, .int nm])), (tb, .inl (cB, 120, .inl tbf))]) (WR := [(sl, .inl (cI, 1653, .inl sf))]) (va_runV (As := [.int 0, .int 9]) (rest := []) ⟨hx, hb, hml, hown, hts⟩ k_4 (cwV 2 hts gX8_isVillage_X8_isNumber rfl rfl rfl (by decide +kernel) ⟨Nat.le_of_ble_eq_true rfl, Nat.le_of_ble_eq_true rfl⟩) (wp_V hP hK hD hN [0, 2] (by decide) rfl (ci := 7) rfl rfl) rfl rfl hl.1 rfl (lv_room (Nat.le_of_ble_eq_true rfl)) dX8_isVillage_39 ⟨Nat.le_of_ble_eq_true rfl, Nat.le_of_ble_eq_true rfl⟩) hP hD hS hA [0, 2] [1] rfl rfl (by decide) (by decide) (fun r_4 => pe4 (fun v4_0 v4_1 v4_2 v4_3 H locs hw_4 hP hD hS => ?_))
    clear k_4
    have hP : va_P D kl [(sl, .inl (cI, 1653, .inl sf)), (h, .inr (7, [.ref sl, .int na, .ref zs, .ref ln, .ref ir, .ref tk, .int su, .int le, .ref tb, .int v4_0, .int v4_1, .int v4_2, .ref tr, .int tc, .ref fz, .int v4_3])), (tb, .inl (cB, 120, .inl tbf))] H := hP
    have hD : va_D A [(sl, .inl (cI, 1653, .inl sf)), (h, .inr (7, [.ref sl, .int na, .ref zs, .ref ln, .ref ir, .ref tk, .int su, .int le, .ref tb, .int v4_0, .int v4_1, .int v4_2, .ref tr, .int tc, .ref fz, .int v4_3])), (tb, .inl (cB, 120, .inl tbf))] := hD
    obtain ⟨c4_0, c4_1, c4_2⟩ := hw_4
    have c4_1 : x_3.toInt ≤ v4_1.toInt := c4_1
    have c4_2 : 0 ≤ v4_1.toInt ∧ v4_1.toInt ≤ 120 := c4_2
    rcases c4_0 with ⟨e_4, f_4⟩ | e_4
    · subst e_4
      have f_4 : (0 : Int) ≤ v4_3.toInt ∧ v4_3.toInt ≤ (9 : Int) := f_4
      refine lv_if_ne (tgt := 47) hx hb dX8_isVillage_42 (by decide) (fun _ => ?_) (fun c9 => absurd c9 (by decide))
      refine lv_aload_n hx hb dX8_isVillage_47 rfl (lv_at hl 1 rfl) ?_
      refine va_get (D := D) (ci := 7) (v := .ref sl) (C := RX8) (T := TX8) (N := 16) hx hb hts (fun _ h => List.mem_cons_of_mem _ (List.mem_append_right _ h)) hown hK hP 1 rfl rfl 0 (by decide) (hts (.fieldLink RX8 7 "WinterWalkModel" "slot" "[I") (List.mem_of_getElem? (i := 1) rfl)) (fun _ h9 => h9) rfl dX8_isVillage_48 ?_
      refine lv_sipush (v := 1600) hx hb dX8_isVillage_51 (by decide) ?_
      refine lv_iload_n hx hb dX8_isVillage_54 rfl (lv_at hl 0 rfl) ?_
      refine lv_iadd hx hb dX8_isVillage_55 ?_
      refine lv_topi (fun x_5 ex_5 => ?_)
      have e_5 : x_5.toInt = 1600 + x_1.toInt := by rw [ex_5]; exact zi_add (by decide) (rfl) (by omega) (by omega)
      clear ex_5
      refine lv_iload_n hx hb dX8_isVillage_56 rfl (lv_at hl 2 rfl) ?_
      refine lv_bipush (v := 103) hx hb dX8_isVillage_57 (by decide) ?_
      refine lv_icmp_ne (tgt := 69) hx hb dX8_isVillage_59 (by decide) (fun c_6 => ?_) (fun c_6 => ?_)
      · have f_6 : ¬ k.toInt = 103 := zi_ne c_6
        refine lv_aload_n hx hb dX8_isVillage_69 rfl (lv_at hl 1 rfl) ?_
        refine va_get (D := D) (ci := 7) (v := .int v4_3) (C := RX8) (T := TX8) (N := 16) hx hb hts (fun _ h => List.mem_cons_of_mem _ (List.mem_append_right _ h)) hown hK hP 1 rfl rfl 15 (by decide) (hts (.fieldLink RX8 83 "WinterWalkModel" "number" "I") (List.mem_of_getElem? (i := 3) rfl)) (fun _ h9 => h9) rfl dX8_isVillage_70 ?_
        refine lv_ineg hx hb dX8_isVillage_73 ?_
        refine lv_topi (fun x_7 ex_7 => ?_)
        clear ex_7
        refine va_iast hx hb hK hP hD hS 0 0 rfl rfl (zi_in (by omega) (by omega)) dX8_isVillage_74 (fun H locs hP hD hS => ?_)
        have hP : va_P D kl [(sl, .inl (cI, 1653, .inl (upd sf (x_5 : Int32).toNatClampNeg x_7))), (h, .inr (7, [.ref sl, .int na, .ref zs, .ref ln, .ref ir, .ref tk, .int su, .int le, .ref tb, .int v4_0, .int v4_1, .int v4_2, .ref tr, .int tc, .ref fz, .int v4_3])), (tb, .inl (cB, 120, .inl tbf))] H := hP
        have hD : va_D A [(sl, .inl (cI, 1653, .inl (upd sf (x_5 : Int32).toNatClampNeg x_7))), (h, .inr (7, [.ref sl, .int na, .ref zs, .ref ln, .ref ir, .ref tk, .int su, .int le, .ref tb, .int v4_0, .int v4_1, .int v4_2, .ref tr, .int tc, .ref fz, .int v4_3])), (tb, .inl (cB, 120, .inl tbf))] := hD
        have ha_8 : SI (upd sf (x_5 : Int32).toNatClampNeg x_7) v0 := si_up hsi (by omega) (fun s0 a0 b0 e0 => by omega) (fun s0 a0 b0 e0 => by omega) (fun s0 k0 a0 b0 c0 d0 e0 => by omega) (by omega)
        refine lv_aload_n hx hb dX8_isVillage_75 rfl (lv_at hl 1 rfl) ?_
        refine lv_bipush (v := 44) hx hb dX8_isVillage_76 (by decide) ?_
        have k_9 := (g_X8_isSign l D cI cB cQ H.size h sl zs ln ir tk tb tr fz na su le v4_0 v4_1 v4_2 tc v4_3 44 tbf (by omega) (by omega) (by omega) (by omega) ⟨by decide, by decide⟩)
        refine wc_i (WC := [(h, .inr (7, [.ref sl, .int na, .ref zs, .ref ln, .ref ir, .ref tk, .int su, .int le, .ref tb, .int v4_0, .int v4_1, .int v4_2, .ref tr, .int tc, .ref fz, .int v4_3])), (tb, .inl (cB, 120, .inl tbf))]) (WR := [(sl, .inl (cI, 1653, .inl (upd sf (x_5 : Int32).toNatClampNeg x_7)))]) (va_runV (As := [.int 44]) (rest := []) ⟨hx, hb, hml, hown, hts⟩ k_9 (cwV 1 hts gX8_isVillage_X8_isSign rfl rfl rfl (by decide +kernel) ⟨Nat.le_of_ble_eq_true rfl, Nat.le_of_ble_eq_true rfl⟩) (wp_V hP hK hD hN [1, 2] (by decide) rfl (ci := 7) rfl rfl) rfl rfl hl.1 rfl (lv_room (Nat.le_of_ble_eq_true rfl)) dX8_isVillage_78 ⟨Nat.le_of_ble_eq_true rfl, Nat.le_of_ble_eq_true rfl⟩) hP hD hS hA [1, 2] [0] rfl rfl (by decide) (by decide) (fun r_9 => pe3 (fun v9_0 v9_1 v9_2 H locs hw_9 hP hD hS => ?_))
        clear k_9
        have hP : va_P D kl [(sl, .inl (cI, 1653, .inl (upd sf (x_5 : Int32).toNatClampNeg x_7))), (h, .inr (7, [.ref sl, .int na, .ref zs, .ref ln, .ref ir, .ref tk, .int su, .int le, .ref tb, .int v9_0, .int v9_1, .int v9_2, .ref tr, .int tc, .ref fz, .int v4_3])), (tb, .inl (cB, 120, .inl tbf))] H := hP
        have hD : va_D A [(sl, .inl (cI, 1653, .inl (upd sf (x_5 : Int32).toNatClampNeg x_7))), (h, .inr (7, [.ref sl, .int na, .ref zs, .ref ln, .ref ir, .ref tk, .int su, .int le, .ref tb, .int v9_0, .int v9_1, .int v9_2, .ref tr, .int tc, .ref fz, .int v4_3])), (tb, .inl (cB, 120, .inl tbf))] := hD
        obtain ⟨c9_0, c9_1, c9_2⟩ := hw_9
        have c9_1 : v4_1.toInt ≤ v9_1.toInt := c9_1
        have c9_2 : 0 ≤ v9_1.toInt ∧ v9_1.toInt ≤ 120 := c9_2
        rcases c9_0 with e_9 | e_9
        · subst e_9
          refine lv_if_eq (tgt := 94) hx hb dX8_isVillage_81 (by decide) (fun c9 => absurd c9 (by decide)) (fun _ => ?_)
          refine lv_aload_n hx hb dX8_isVillage_84 rfl (lv_at hl 1 rfl) ?_
          refine lv_iconst (v := 0) hx hb dX8_isVillage_85 (by decide) ?_
          refine lv_bipush (v := 20) hx hb dX8_isVillage_86 (by decide) ?_
          have k_10 := (g_X8_isNumber l D cI cB cQ H.size h sl zs ln ir tk tb tr fz na su le v9_0 v9_1 v9_2 tc v4_3 0 20 tbf (by omega) (by omega) (by omega) (by omega))
          refine wc_i (WC := [(h, .inr (7, [.ref sl, .int na, .ref zs, .ref ln, .ref ir, .ref tk, .int su, .int le, .ref tb, .int v9_0, .int v9_1, .int v9_2, .ref tr, .int tc, .ref fz, .int v4_3])), (tb, .inl (cB, 120, .inl tbf))]) (WR := [(sl, .inl (cI, 1653, .inl (upd sf (x_5 : Int32).toNatClampNeg x_7)))]) (va_runV (As := [.int 0, .int 20]) (rest := []) ⟨hx, hb, hml, hown, hts⟩ k_10 (cwV 2 hts gX8_isVillage_X8_isNumber rfl rfl rfl (by decide +kernel) ⟨Nat.le_of_ble_eq_true rfl, Nat.le_of_ble_eq_true rfl⟩) (wp_V hP hK hD hN [1, 2] (by decide) rfl (ci := 7) rfl rfl) rfl rfl hl.1 rfl (lv_room (Nat.le_of_ble_eq_true rfl)) dX8_isVillage_88 ⟨Nat.le_of_ble_eq_true rfl, Nat.le_of_ble_eq_true rfl⟩) hP hD hS hA [1, 2] [0] rfl rfl (by decide) (by decide) (fun r_10 => pe4 (fun v10_0 v10_1 v10_2 v10_3 H locs hw_10 hP hD hS => ?_))
          clear k_10
          have hP : va_P D kl [(sl, .inl (cI, 1653, .inl (upd sf (x_5 : Int32).toNatClampNeg x_7))), (h, .inr (7, [.ref sl, .int na, .ref zs, .ref ln, .ref ir, .ref tk, .int su, .int le, .ref tb, .int v10_0, .int v10_1, .int v10_2, .ref tr, .int tc, .ref fz, .int v10_3])), (tb, .inl (cB, 120, .inl tbf))] H := hP
          have hD : va_D A [(sl, .inl (cI, 1653, .inl (upd sf (x_5 : Int32).toNatClampNeg x_7))), (h, .inr (7, [.ref sl, .int na, .ref zs, .ref ln, .ref ir, .ref tk, .int su, .int le, .ref tb, .int v10_0, .int v10_1, .int v10_2, .ref tr, .int tc, .ref fz, .int v10_3])), (tb, .inl (cB, 120, .inl tbf))] := hD
          obtain ⟨c10_0, c10_1, c10_2⟩ := hw_10
          have c10_1 : v9_1.toInt ≤ v10_1.toInt := c10_1
          have c10_2 : 0 ≤ v10_1.toInt ∧ v10_1.toInt ≤ 120 := c10_2
          rcases c10_0 with ⟨e_10, f_10⟩ | e_10
          · subst e_10
            have f_10 : (0 : Int) ≤ v10_3.toInt ∧ v10_3.toInt ≤ (20 : Int) := f_10
            refine lv_if_ne (tgt := 96) hx hb dX8_isVillage_91 (by decide) (fun _ => ?_) (fun c9 => absurd c9 (by decide))
            refine lv_aload_n hx hb dX8_isVillage_96 rfl (lv_at hl 1 rfl) ?_
            refine va_get (D := D) (ci := 7) (v := .ref sl) (C := RX8) (T := TX8) (N := 16) hx hb hts (fun _ h => List.mem_cons_of_mem _ (List.mem_append_right _ h)) hown hK hP 1 rfl rfl 0 (by decide) (hts (.fieldLink RX8 7 "WinterWalkModel" "slot" "[I") (List.mem_of_getElem? (i := 1) rfl)) (fun _ h9 => h9) rfl dX8_isVillage_97 ?_
            refine lv_sipush (v := 1619) hx hb dX8_isVillage_100 (by decide) ?_
            refine lv_iload_n hx hb dX8_isVillage_103 rfl (lv_at hl 0 rfl) ?_
            refine lv_iadd hx hb dX8_isVillage_104 ?_
            refine lv_topi (fun x_11 ex_11 => ?_)
            have e_11 : x_11.toInt = 1619 + x_1.toInt := by rw [ex_11]; exact zi_add (by decide) (rfl) (by omega) (by omega)
            clear ex_11
            refine lv_aload_n hx hb dX8_isVillage_105 rfl (lv_at hl 1 rfl) ?_
            refine va_get (D := D) (ci := 7) (v := .int v10_3) (C := RX8) (T := TX8) (N := 16) hx hb hts (fun _ h => List.mem_cons_of_mem _ (List.mem_append_right _ h)) hown hK hP 1 rfl rfl 15 (by decide) (hts (.fieldLink RX8 83 "WinterWalkModel" "number" "I") (List.mem_of_getElem? (i := 3) rfl)) (fun _ h9 => h9) rfl dX8_isVillage_106 ?_
            refine va_iast hx hb hK hP hD hS 0 0 rfl rfl (zi_in (by omega) (by omega)) dX8_isVillage_109 (fun H locs hP hD hS => ?_)
            have hP : va_P D kl [(sl, .inl (cI, 1653, .inl (upd (upd sf (x_5 : Int32).toNatClampNeg x_7) (x_11 : Int32).toNatClampNeg v10_3))), (h, .inr (7, [.ref sl, .int na, .ref zs, .ref ln, .ref ir, .ref tk, .int su, .int le, .ref tb, .int v10_0, .int v10_1, .int v10_2, .ref tr, .int tc, .ref fz, .int v10_3])), (tb, .inl (cB, 120, .inl tbf))] H := hP
            have hD : va_D A [(sl, .inl (cI, 1653, .inl (upd (upd sf (x_5 : Int32).toNatClampNeg x_7) (x_11 : Int32).toNatClampNeg v10_3))), (h, .inr (7, [.ref sl, .int na, .ref zs, .ref ln, .ref ir, .ref tk, .int su, .int le, .ref tb, .int v10_0, .int v10_1, .int v10_2, .ref tr, .int tc, .ref fz, .int v10_3])), (tb, .inl (cB, 120, .inl tbf))] := hD
            have ha_12 : SI (upd (upd sf (x_5 : Int32).toNatClampNeg x_7) (x_11 : Int32).toNatClampNeg v10_3) v0 := si_up ha_8 (by omega) (fun s0 a0 b0 e0 => by omega) (fun s0 a0 b0 e0 => by omega) (fun s0 k0 a0 b0 c0 d0 e0 => by omega) (by omega)
            refine lv_aload_n hx hb dX8_isVillage_110 rfl (lv_at hl 1 rfl) ?_
            refine va_get (D := D) (ci := 7) (v := .ref sl) (C := RX8) (T := TX8) (N := 16) hx hb hts (fun _ h => List.mem_cons_of_mem _ (List.mem_append_right _ h)) hown hK hP 1 rfl rfl 0 (by decide) (hts (.fieldLink RX8 7 "WinterWalkModel" "slot" "[I") (List.mem_of_getElem? (i := 1) rfl)) (fun _ h9 => h9) rfl dX8_isVillage_111 ?_
            refine lv_sipush (v := 1597) hx hb dX8_isVillage_114 (by decide) ?_
            refine lv_dup2_11 hx hb dX8_isVillage_117 rfl rfl ?_
            refine va_iald hx hb hK hP 0 0 rfl rfl (zi_in (by decide) (by decide)) dX8_isVillage_118 ?_
            refine lv_topi (fun x_13 ex_13 => ?_)
            have f_13 : 0 ≤ x_13.toInt ∧ x_13.toInt ≤ 8 := by rw [ex_13]; exact si_v ha_12 (s := 28) (by decide) (by omega)
            have g_13 : x_13.toInt = x_1.toInt := by have hk0 : (1597 : Int32).toInt = 1597 := (by decide); rw [ex_13, zu_ne (by omega) (by omega) (by omega), zu_ne (by omega) (by omega) (by omega), ex_1]
            clear ex_13
            refine lv_iconst (v := 1) hx hb dX8_isVillage_119 (by decide) ?_
            refine lv_iadd hx hb dX8_isVillage_120 ?_
            refine lv_topi (fun x_14 ex_14 => ?_)
            have e_14 : x_14.toInt = x_13.toInt + 1 := by rw [ex_14]; exact zi_add (rfl) (by decide) (by omega) (by omega)
            clear ex_14
            refine va_iast hx hb hK hP hD hS 0 0 rfl rfl (zi_in (by decide) (by decide)) dX8_isVillage_121 (fun H locs hP hD hS => ?_)
            have hP : va_P D kl [(sl, .inl (cI, 1653, .inl (upd (upd (upd sf (x_5 : Int32).toNatClampNeg x_7) (x_11 : Int32).toNatClampNeg v10_3) (1597 : Int32).toNatClampNeg x_14))), (h, .inr (7, [.ref sl, .int na, .ref zs, .ref ln, .ref ir, .ref tk, .int su, .int le, .ref tb, .int v10_0, .int v10_1, .int v10_2, .ref tr, .int tc, .ref fz, .int v10_3])), (tb, .inl (cB, 120, .inl tbf))] H := hP
            have hD : va_D A [(sl, .inl (cI, 1653, .inl (upd (upd (upd sf (x_5 : Int32).toNatClampNeg x_7) (x_11 : Int32).toNatClampNeg v10_3) (1597 : Int32).toNatClampNeg x_14))), (h, .inr (7, [.ref sl, .int na, .ref zs, .ref ln, .ref ir, .ref tk, .int su, .int le, .ref tb, .int v10_0, .int v10_1, .int v10_2, .ref tr, .int tc, .ref fz, .int v10_3])), (tb, .inl (cB, 120, .inl tbf))] := hD
            have hq_15 : (1597 : Int32).toInt = 1597 := by decide
            have ha_15 : SI (upd (upd (upd sf (x_5 : Int32).toNatClampNeg x_7) (x_11 : Int32).toNatClampNeg v10_3) (1597 : Int32).toNatClampNeg x_14) v0 := si_up ha_12 (by omega) (fun s0 a0 b0 e0 => by omega) (fun s0 a0 b0 e0 => by omega) (fun s0 k0 a0 b0 c0 d0 e0 => by omega) (by omega)
            refine lv_aload_n hx hb dX8_isVillage_122 rfl (lv_at hl 1 rfl) ?_
            refine lv_bipush (v := 59) hx hb dX8_isVillage_123 (by decide) ?_
            have k_16 := (g_X8_isSign l D cI cB cQ H.size h sl zs ln ir tk tb tr fz na su le v10_0 v10_1 v10_2 tc v10_3 59 tbf (by omega) (by omega) (by omega) (by omega) ⟨by decide, by decide⟩)
            refine wc_i (WC := [(h, .inr (7, [.ref sl, .int na, .ref zs, .ref ln, .ref ir, .ref tk, .int su, .int le, .ref tb, .int v10_0, .int v10_1, .int v10_2, .ref tr, .int tc, .ref fz, .int v10_3])), (tb, .inl (cB, 120, .inl tbf))]) (WR := [(sl, .inl (cI, 1653, .inl (upd (upd (upd sf (x_5 : Int32).toNatClampNeg x_7) (x_11 : Int32).toNatClampNeg v10_3) (1597 : Int32).toNatClampNeg x_14)))]) (va_runV (As := [.int 59]) (rest := []) ⟨hx, hb, hml, hown, hts⟩ k_16 (cwV 1 hts gX8_isVillage_X8_isSign rfl rfl rfl (by decide +kernel) ⟨Nat.le_of_ble_eq_true rfl, Nat.le_of_ble_eq_true rfl⟩) (wp_V hP hK hD hN [1, 2] (by decide) rfl (ci := 7) rfl rfl) rfl rfl hl.1 rfl (lv_room (Nat.le_of_ble_eq_true rfl)) dX8_isVillage_125 ⟨Nat.le_of_ble_eq_true rfl, Nat.le_of_ble_eq_true rfl⟩) hP hD hS hA [1, 2] [0] rfl rfl (by decide) (by decide) (fun r_16 => pe3 (fun v16_0 v16_1 v16_2 H locs hw_16 hP hD hS => ?_))
            clear k_16
            have hP : va_P D kl [(sl, .inl (cI, 1653, .inl (upd (upd (upd sf (x_5 : Int32).toNatClampNeg x_7) (x_11 : Int32).toNatClampNeg v10_3) (1597 : Int32).toNatClampNeg x_14))), (h, .inr (7, [.ref sl, .int na, .ref zs, .ref ln, .ref ir, .ref tk, .int su, .int le, .ref tb, .int v16_0, .int v16_1, .int v16_2, .ref tr, .int tc, .ref fz, .int v10_3])), (tb, .inl (cB, 120, .inl tbf))] H := hP
            have hD : va_D A [(sl, .inl (cI, 1653, .inl (upd (upd (upd sf (x_5 : Int32).toNatClampNeg x_7) (x_11 : Int32).toNatClampNeg v10_3) (1597 : Int32).toNatClampNeg x_14))), (h, .inr (7, [.ref sl, .int na, .ref zs, .ref ln, .ref ir, .ref tk, .int su, .int le, .ref tb, .int v16_0, .int v16_1, .int v16_2, .ref tr, .int tc, .ref fz, .int v10_3])), (tb, .inl (cB, 120, .inl tbf))] := hD
            obtain ⟨c16_0, c16_1, c16_2⟩ := hw_16
            have c16_1 : v10_1.toInt ≤ v16_1.toInt := c16_1
            have c16_2 : 0 ≤ v16_1.toInt ∧ v16_1.toInt ≤ 120 := c16_2
            rcases c16_0 with e_16 | e_16
            · subst e_16
              exact wr_z (v := 1) hx hb hr hlocks hS (v16_0, v16_1, v16_2, v10_3, (upd (upd (upd sf (x_5 : Int32).toNatClampNeg x_7) (x_11 : Int32).toNatClampNeg v10_3) (1597 : Int32).toNatClampNeg x_14)) (by exact ⟨Or.inl ⟨rfl, show ap.toInt < v16_1.toInt from by omega⟩, show 0 ≤ (v16_1 : Int32).toInt ∧ (v16_1 : Int32).toInt ≤ 120 from by omega, ha_15⟩) (hP.sub [1, 0, 2] rfl) (hD.sub [1, 0, 2] (by decide) rfl) dX8_isVillage_128 rfl
            · subst e_16
              exact wr_z (v := 0) hx hb hr hlocks hS (v16_0, v16_1, v16_2, v10_3, (upd (upd (upd sf (x_5 : Int32).toNatClampNeg x_7) (x_11 : Int32).toNatClampNeg v10_3) (1597 : Int32).toNatClampNeg x_14)) (by exact ⟨Or.inr (rfl), show 0 ≤ (v16_1 : Int32).toInt ∧ (v16_1 : Int32).toInt ≤ 120 from by omega, ha_15⟩) (hP.sub [1, 0, 2] rfl) (hD.sub [1, 0, 2] (by decide) rfl) dX8_isVillage_128 rfl
          · subst e_10
            refine lv_if_ne (tgt := 96) hx hb dX8_isVillage_91 (by decide) (fun c9 => absurd (by decide) c9) (fun _ => ?_)
            refine lv_iconst (v := 0) hx hb dX8_isVillage_94 (by decide) ?_
            exact wr_z (v := 0) hx hb hr hlocks hS (v10_0, v10_1, v10_2, v10_3, (upd sf (x_5 : Int32).toNatClampNeg x_7)) (by exact ⟨Or.inr (rfl), show 0 ≤ (v10_1 : Int32).toInt ∧ (v10_1 : Int32).toInt ≤ 120 from by omega, ha_8⟩) (hP.sub [1, 0, 2] rfl) (hD.sub [1, 0, 2] (by decide) rfl) dX8_isVillage_95 rfl
        · subst e_9
          refine lv_if_eq (tgt := 94) hx hb dX8_isVillage_81 (by decide) (fun _ => ?_) (fun c9 => absurd (by decide) c9)
          refine lv_iconst (v := 0) hx hb dX8_isVillage_94 (by decide) ?_
          exact wr_z (v := 0) hx hb hr hlocks hS (v9_0, v9_1, v9_2, v4_3, (upd sf (x_5 : Int32).toNatClampNeg x_7)) (by exact ⟨Or.inr (rfl), show 0 ≤ (v9_1 : Int32).toInt ∧ (v9_1 : Int32).toInt ≤ 120 from by omega, ha_8⟩) (hP.sub [1, 0, 2] rfl) (hD.sub [1, 0, 2] (by decide) rfl) dX8_isVillage_95 rfl
      · have f_6 : k.toInt = 103 := zi_eq c_6
        refine lv_aload_n hx hb dX8_isVillage_62 rfl (lv_at hl 1 rfl) ?_
        refine va_get (D := D) (ci := 7) (v := .int v4_3) (C := RX8) (T := TX8) (N := 16) hx hb hts (fun _ h => List.mem_cons_of_mem _ (List.mem_append_right _ h)) hown hK hP 1 rfl rfl 15 (by decide) (hts (.fieldLink RX8 83 "WinterWalkModel" "number" "I") (List.mem_of_getElem? (i := 3) rfl)) (fun _ h9 => h9) rfl dX8_isVillage_63 ?_
        refine lv_goto (tgt := 74) hx hb dX8_isVillage_66 (by decide) ?_
        refine va_iast hx hb hK hP hD hS 0 0 rfl rfl (zi_in (by omega) (by omega)) dX8_isVillage_74 (fun H locs hP hD hS => ?_)
        have hP : va_P D kl [(sl, .inl (cI, 1653, .inl (upd sf (x_5 : Int32).toNatClampNeg v4_3))), (h, .inr (7, [.ref sl, .int na, .ref zs, .ref ln, .ref ir, .ref tk, .int su, .int le, .ref tb, .int v4_0, .int v4_1, .int v4_2, .ref tr, .int tc, .ref fz, .int v4_3])), (tb, .inl (cB, 120, .inl tbf))] H := hP
        have hD : va_D A [(sl, .inl (cI, 1653, .inl (upd sf (x_5 : Int32).toNatClampNeg v4_3))), (h, .inr (7, [.ref sl, .int na, .ref zs, .ref ln, .ref ir, .ref tk, .int su, .int le, .ref tb, .int v4_0, .int v4_1, .int v4_2, .ref tr, .int tc, .ref fz, .int v4_3])), (tb, .inl (cB, 120, .inl tbf))] := hD
        have ha_17 : SI (upd sf (x_5 : Int32).toNatClampNeg v4_3) v0 := si_up hsi (by omega) (fun s0 a0 b0 e0 => by omega) (fun s0 a0 b0 e0 => by omega) (fun s0 k0 a0 b0 c0 d0 e0 => by omega) (by omega)
        refine lv_aload_n hx hb dX8_isVillage_75 rfl (lv_at hl 1 rfl) ?_
        refine lv_bipush (v := 44) hx hb dX8_isVillage_76 (by decide) ?_
        have k_18 := (g_X8_isSign l D cI cB cQ H.size h sl zs ln ir tk tb tr fz na su le v4_0 v4_1 v4_2 tc v4_3 44 tbf (by omega) (by omega) (by omega) (by omega) ⟨by decide, by decide⟩)
        refine wc_i (WC := [(h, .inr (7, [.ref sl, .int na, .ref zs, .ref ln, .ref ir, .ref tk, .int su, .int le, .ref tb, .int v4_0, .int v4_1, .int v4_2, .ref tr, .int tc, .ref fz, .int v4_3])), (tb, .inl (cB, 120, .inl tbf))]) (WR := [(sl, .inl (cI, 1653, .inl (upd sf (x_5 : Int32).toNatClampNeg v4_3)))]) (va_runV (As := [.int 44]) (rest := []) ⟨hx, hb, hml, hown, hts⟩ k_18 (cwV 1 hts gX8_isVillage_X8_isSign rfl rfl rfl (by decide +kernel) ⟨Nat.le_of_ble_eq_true rfl, Nat.le_of_ble_eq_true rfl⟩) (wp_V hP hK hD hN [1, 2] (by decide) rfl (ci := 7) rfl rfl) rfl rfl hl.1 rfl (lv_room (Nat.le_of_ble_eq_true rfl)) dX8_isVillage_78 ⟨Nat.le_of_ble_eq_true rfl, Nat.le_of_ble_eq_true rfl⟩) hP hD hS hA [1, 2] [0] rfl rfl (by decide) (by decide) (fun r_18 => pe3 (fun v18_0 v18_1 v18_2 H locs hw_18 hP hD hS => ?_))
        clear k_18
        have hP : va_P D kl [(sl, .inl (cI, 1653, .inl (upd sf (x_5 : Int32).toNatClampNeg v4_3))), (h, .inr (7, [.ref sl, .int na, .ref zs, .ref ln, .ref ir, .ref tk, .int su, .int le, .ref tb, .int v18_0, .int v18_1, .int v18_2, .ref tr, .int tc, .ref fz, .int v4_3])), (tb, .inl (cB, 120, .inl tbf))] H := hP
        have hD : va_D A [(sl, .inl (cI, 1653, .inl (upd sf (x_5 : Int32).toNatClampNeg v4_3))), (h, .inr (7, [.ref sl, .int na, .ref zs, .ref ln, .ref ir, .ref tk, .int su, .int le, .ref tb, .int v18_0, .int v18_1, .int v18_2, .ref tr, .int tc, .ref fz, .int v4_3])), (tb, .inl (cB, 120, .inl tbf))] := hD
        obtain ⟨c18_0, c18_1, c18_2⟩ := hw_18
        have c18_1 : v4_1.toInt ≤ v18_1.toInt := c18_1
        have c18_2 : 0 ≤ v18_1.toInt ∧ v18_1.toInt ≤ 120 := c18_2
        rcases c18_0 with e_18 | e_18
        · subst e_18
          refine lv_if_eq (tgt := 94) hx hb dX8_isVillage_81 (by decide) (fun c9 => absurd c9 (by decide)) (fun _ => ?_)
          refine lv_aload_n hx hb dX8_isVillage_84 rfl (lv_at hl 1 rfl) ?_
          refine lv_iconst (v := 0) hx hb dX8_isVillage_85 (by decide) ?_
          refine lv_bipush (v := 20) hx hb dX8_isVillage_86 (by decide) ?_
          have k_19 := (g_X8_isNumber l D cI cB cQ H.size h sl zs ln ir tk tb tr fz na su le v18_0 v18_1 v18_2 tc v4_3 0 20 tbf (by omega) (by omega) (by omega) (by omega))
          refine wc_i (WC := [(h, .inr (7, [.ref sl, .int na, .ref zs, .ref ln, .ref ir, .ref tk, .int su, .int le, .ref tb, .int v18_0, .int v18_1, .int v18_2, .ref tr, .int tc, .ref fz, .int v4_3])), (tb, .inl (cB, 120, .inl tbf))]) (WR := [(sl, .inl (cI, 1653, .inl (upd sf (x_5 : Int32).toNatClampNeg v4_3)))]) (va_runV (As := [.int 0, .int 20]) (rest := []) ⟨hx, hb, hml, hown, hts⟩ k_19 (cwV 2 hts gX8_isVillage_X8_isNumber rfl rfl rfl (by decide +kernel) ⟨Nat.le_of_ble_eq_true rfl, Nat.le_of_ble_eq_true rfl⟩) (wp_V hP hK hD hN [1, 2] (by decide) rfl (ci := 7) rfl rfl) rfl rfl hl.1 rfl (lv_room (Nat.le_of_ble_eq_true rfl)) dX8_isVillage_88 ⟨Nat.le_of_ble_eq_true rfl, Nat.le_of_ble_eq_true rfl⟩) hP hD hS hA [1, 2] [0] rfl rfl (by decide) (by decide) (fun r_19 => pe4 (fun v19_0 v19_1 v19_2 v19_3 H locs hw_19 hP hD hS => ?_))
          clear k_19
          have hP : va_P D kl [(sl, .inl (cI, 1653, .inl (upd sf (x_5 : Int32).toNatClampNeg v4_3))), (h, .inr (7, [.ref sl, .int na, .ref zs, .ref ln, .ref ir, .ref tk, .int su, .int le, .ref tb, .int v19_0, .int v19_1, .int v19_2, .ref tr, .int tc, .ref fz, .int v19_3])), (tb, .inl (cB, 120, .inl tbf))] H := hP
          have hD : va_D A [(sl, .inl (cI, 1653, .inl (upd sf (x_5 : Int32).toNatClampNeg v4_3))), (h, .inr (7, [.ref sl, .int na, .ref zs, .ref ln, .ref ir, .ref tk, .int su, .int le, .ref tb, .int v19_0, .int v19_1, .int v19_2, .ref tr, .int tc, .ref fz, .int v19_3])), (tb, .inl (cB, 120, .inl tbf))] := hD
          obtain ⟨c19_0, c19_1, c19_2⟩ := hw_19
          have c19_1 : v18_1.toInt ≤ v19_1.toInt := c19_1
          have c19_2 : 0 ≤ v19_1.toInt ∧ v19_1.toInt ≤ 120 := c19_2
          rcases c19_0 with ⟨e_19, f_19⟩ | e_19
          · subst e_19
            have f_19 : (0 : Int) ≤ v19_3.toInt ∧ v19_3.toInt ≤ (20 : Int) := f_19
            refine lv_if_ne (tgt := 96) hx hb dX8_isVillage_91 (by decide) (fun _ => ?_) (fun c9 => absurd c9 (by decide))
            refine lv_aload_n hx hb dX8_isVillage_96 rfl (lv_at hl 1 rfl) ?_
            refine va_get (D := D) (ci := 7) (v := .ref sl) (C := RX8) (T := TX8) (N := 16) hx hb hts (fun _ h => List.mem_cons_of_mem _ (List.mem_append_right _ h)) hown hK hP 1 rfl rfl 0 (by decide) (hts (.fieldLink RX8 7 "WinterWalkModel" "slot" "[I") (List.mem_of_getElem? (i := 1) rfl)) (fun _ h9 => h9) rfl dX8_isVillage_97 ?_
            refine lv_sipush (v := 1619) hx hb dX8_isVillage_100 (by decide) ?_
            refine lv_iload_n hx hb dX8_isVillage_103 rfl (lv_at hl 0 rfl) ?_
            refine lv_iadd hx hb dX8_isVillage_104 ?_
            refine lv_topi (fun x_20 ex_20 => ?_)
            have e_20 : x_20.toInt = 1619 + x_1.toInt := by rw [ex_20]; exact zi_add (by decide) (rfl) (by omega) (by omega)
            clear ex_20
            refine lv_aload_n hx hb dX8_isVillage_105 rfl (lv_at hl 1 rfl) ?_
            refine va_get (D := D) (ci := 7) (v := .int v19_3) (C := RX8) (T := TX8) (N := 16) hx hb hts (fun _ h => List.mem_cons_of_mem _ (List.mem_append_right _ h)) hown hK hP 1 rfl rfl 15 (by decide) (hts (.fieldLink RX8 83 "WinterWalkModel" "number" "I") (List.mem_of_getElem? (i := 3) rfl)) (fun _ h9 => h9) rfl dX8_isVillage_106 ?_
            refine va_iast hx hb hK hP hD hS 0 0 rfl rfl (zi_in (by omega) (by omega)) dX8_isVillage_109 (fun H locs hP hD hS => ?_)
            have hP : va_P D kl [(sl, .inl (cI, 1653, .inl (upd (upd sf (x_5 : Int32).toNatClampNeg v4_3) (x_20 : Int32).toNatClampNeg v19_3))), (h, .inr (7, [.ref sl, .int na, .ref zs, .ref ln, .ref ir, .ref tk, .int su, .int le, .ref tb, .int v19_0, .int v19_1, .int v19_2, .ref tr, .int tc, .ref fz, .int v19_3])), (tb, .inl (cB, 120, .inl tbf))] H := hP
            have hD : va_D A [(sl, .inl (cI, 1653, .inl (upd (upd sf (x_5 : Int32).toNatClampNeg v4_3) (x_20 : Int32).toNatClampNeg v19_3))), (h, .inr (7, [.ref sl, .int na, .ref zs, .ref ln, .ref ir, .ref tk, .int su, .int le, .ref tb, .int v19_0, .int v19_1, .int v19_2, .ref tr, .int tc, .ref fz, .int v19_3])), (tb, .inl (cB, 120, .inl tbf))] := hD
            have ha_21 : SI (upd (upd sf (x_5 : Int32).toNatClampNeg v4_3) (x_20 : Int32).toNatClampNeg v19_3) v0 := si_up ha_17 (by omega) (fun s0 a0 b0 e0 => by omega) (fun s0 a0 b0 e0 => by omega) (fun s0 k0 a0 b0 c0 d0 e0 => by omega) (by omega)
            refine lv_aload_n hx hb dX8_isVillage_110 rfl (lv_at hl 1 rfl) ?_
            refine va_get (D := D) (ci := 7) (v := .ref sl) (C := RX8) (T := TX8) (N := 16) hx hb hts (fun _ h => List.mem_cons_of_mem _ (List.mem_append_right _ h)) hown hK hP 1 rfl rfl 0 (by decide) (hts (.fieldLink RX8 7 "WinterWalkModel" "slot" "[I") (List.mem_of_getElem? (i := 1) rfl)) (fun _ h9 => h9) rfl dX8_isVillage_111 ?_
            refine lv_sipush (v := 1597) hx hb dX8_isVillage_114 (by decide) ?_
            refine lv_dup2_11 hx hb dX8_isVillage_117 rfl rfl ?_
            refine va_iald hx hb hK hP 0 0 rfl rfl (zi_in (by decide) (by decide)) dX8_isVillage_118 ?_
            refine lv_topi (fun x_22 ex_22 => ?_)
            have f_22 : 0 ≤ x_22.toInt ∧ x_22.toInt ≤ 8 := by rw [ex_22]; exact si_v ha_21 (s := 28) (by decide) (by omega)
            have g_22 : x_22.toInt = x_1.toInt := by have hk0 : (1597 : Int32).toInt = 1597 := (by decide); rw [ex_22, zu_ne (by omega) (by omega) (by omega), zu_ne (by omega) (by omega) (by omega), ex_1]
            clear ex_22
            refine lv_iconst (v := 1) hx hb dX8_isVillage_119 (by decide) ?_
            refine lv_iadd hx hb dX8_isVillage_120 ?_
            refine lv_topi (fun x_23 ex_23 => ?_)
            have e_23 : x_23.toInt = x_22.toInt + 1 := by rw [ex_23]; exact zi_add (rfl) (by decide) (by omega) (by omega)
            clear ex_23
            refine va_iast hx hb hK hP hD hS 0 0 rfl rfl (zi_in (by decide) (by decide)) dX8_isVillage_121 (fun H locs hP hD hS => ?_)
            have hP : va_P D kl [(sl, .inl (cI, 1653, .inl (upd (upd (upd sf (x_5 : Int32).toNatClampNeg v4_3) (x_20 : Int32).toNatClampNeg v19_3) (1597 : Int32).toNatClampNeg x_23))), (h, .inr (7, [.ref sl, .int na, .ref zs, .ref ln, .ref ir, .ref tk, .int su, .int le, .ref tb, .int v19_0, .int v19_1, .int v19_2, .ref tr, .int tc, .ref fz, .int v19_3])), (tb, .inl (cB, 120, .inl tbf))] H := hP
            have hD : va_D A [(sl, .inl (cI, 1653, .inl (upd (upd (upd sf (x_5 : Int32).toNatClampNeg v4_3) (x_20 : Int32).toNatClampNeg v19_3) (1597 : Int32).toNatClampNeg x_23))), (h, .inr (7, [.ref sl, .int na, .ref zs, .ref ln, .ref ir, .ref tk, .int su, .int le, .ref tb, .int v19_0, .int v19_1, .int v19_2, .ref tr, .int tc, .ref fz, .int v19_3])), (tb, .inl (cB, 120, .inl tbf))] := hD
            have hq_24 : (1597 : Int32).toInt = 1597 := by decide
            have ha_24 : SI (upd (upd (upd sf (x_5 : Int32).toNatClampNeg v4_3) (x_20 : Int32).toNatClampNeg v19_3) (1597 : Int32).toNatClampNeg x_23) v0 := si_up ha_21 (by omega) (fun s0 a0 b0 e0 => by omega) (fun s0 a0 b0 e0 => by omega) (fun s0 k0 a0 b0 c0 d0 e0 => by omega) (by omega)
            refine lv_aload_n hx hb dX8_isVillage_122 rfl (lv_at hl 1 rfl) ?_
            refine lv_bipush (v := 59) hx hb dX8_isVillage_123 (by decide) ?_
            have k_25 := (g_X8_isSign l D cI cB cQ H.size h sl zs ln ir tk tb tr fz na su le v19_0 v19_1 v19_2 tc v19_3 59 tbf (by omega) (by omega) (by omega) (by omega) ⟨by decide, by decide⟩)
            refine wc_i (WC := [(h, .inr (7, [.ref sl, .int na, .ref zs, .ref ln, .ref ir, .ref tk, .int su, .int le, .ref tb, .int v19_0, .int v19_1, .int v19_2, .ref tr, .int tc, .ref fz, .int v19_3])), (tb, .inl (cB, 120, .inl tbf))]) (WR := [(sl, .inl (cI, 1653, .inl (upd (upd (upd sf (x_5 : Int32).toNatClampNeg v4_3) (x_20 : Int32).toNatClampNeg v19_3) (1597 : Int32).toNatClampNeg x_23)))]) (va_runV (As := [.int 59]) (rest := []) ⟨hx, hb, hml, hown, hts⟩ k_25 (cwV 1 hts gX8_isVillage_X8_isSign rfl rfl rfl (by decide +kernel) ⟨Nat.le_of_ble_eq_true rfl, Nat.le_of_ble_eq_true rfl⟩) (wp_V hP hK hD hN [1, 2] (by decide) rfl (ci := 7) rfl rfl) rfl rfl hl.1 rfl (lv_room (Nat.le_of_ble_eq_true rfl)) dX8_isVillage_125 ⟨Nat.le_of_ble_eq_true rfl, Nat.le_of_ble_eq_true rfl⟩) hP hD hS hA [1, 2] [0] rfl rfl (by decide) (by decide) (fun r_25 => pe3 (fun v25_0 v25_1 v25_2 H locs hw_25 hP hD hS => ?_))
            clear k_25
            have hP : va_P D kl [(sl, .inl (cI, 1653, .inl (upd (upd (upd sf (x_5 : Int32).toNatClampNeg v4_3) (x_20 : Int32).toNatClampNeg v19_3) (1597 : Int32).toNatClampNeg x_23))), (h, .inr (7, [.ref sl, .int na, .ref zs, .ref ln, .ref ir, .ref tk, .int su, .int le, .ref tb, .int v25_0, .int v25_1, .int v25_2, .ref tr, .int tc, .ref fz, .int v19_3])), (tb, .inl (cB, 120, .inl tbf))] H := hP
            have hD : va_D A [(sl, .inl (cI, 1653, .inl (upd (upd (upd sf (x_5 : Int32).toNatClampNeg v4_3) (x_20 : Int32).toNatClampNeg v19_3) (1597 : Int32).toNatClampNeg x_23))), (h, .inr (7, [.ref sl, .int na, .ref zs, .ref ln, .ref ir, .ref tk, .int su, .int le, .ref tb, .int v25_0, .int v25_1, .int v25_2, .ref tr, .int tc, .ref fz, .int v19_3])), (tb, .inl (cB, 120, .inl tbf))] := hD
            obtain ⟨c25_0, c25_1, c25_2⟩ := hw_25
            have c25_1 : v19_1.toInt ≤ v25_1.toInt := c25_1
            have c25_2 : 0 ≤ v25_1.toInt ∧ v25_1.toInt ≤ 120 := c25_2
            rcases c25_0 with e_25 | e_25
            · subst e_25
              exact wr_z (v := 1) hx hb hr hlocks hS (v25_0, v25_1, v25_2, v19_3, (upd (upd (upd sf (x_5 : Int32).toNatClampNeg v4_3) (x_20 : Int32).toNatClampNeg v19_3) (1597 : Int32).toNatClampNeg x_23)) (by exact ⟨Or.inl ⟨rfl, show ap.toInt < v25_1.toInt from by omega⟩, show 0 ≤ (v25_1 : Int32).toInt ∧ (v25_1 : Int32).toInt ≤ 120 from by omega, ha_24⟩) (hP.sub [1, 0, 2] rfl) (hD.sub [1, 0, 2] (by decide) rfl) dX8_isVillage_128 rfl
            · subst e_25
              exact wr_z (v := 0) hx hb hr hlocks hS (v25_0, v25_1, v25_2, v19_3, (upd (upd (upd sf (x_5 : Int32).toNatClampNeg v4_3) (x_20 : Int32).toNatClampNeg v19_3) (1597 : Int32).toNatClampNeg x_23)) (by exact ⟨Or.inr (rfl), show 0 ≤ (v25_1 : Int32).toInt ∧ (v25_1 : Int32).toInt ≤ 120 from by omega, ha_24⟩) (hP.sub [1, 0, 2] rfl) (hD.sub [1, 0, 2] (by decide) rfl) dX8_isVillage_128 rfl
          · subst e_19
            refine lv_if_ne (tgt := 96) hx hb dX8_isVillage_91 (by decide) (fun c9 => absurd (by decide) c9) (fun _ => ?_)
            refine lv_iconst (v := 0) hx hb dX8_isVillage_94 (by decide) ?_
            exact wr_z (v := 0) hx hb hr hlocks hS (v19_0, v19_1, v19_2, v19_3, (upd sf (x_5 : Int32).toNatClampNeg v4_3)) (by exact ⟨Or.inr (rfl), show 0 ≤ (v19_1 : Int32).toInt ∧ (v19_1 : Int32).toInt ≤ 120 from by omega, ha_17⟩) (hP.sub [1, 0, 2] rfl) (hD.sub [1, 0, 2] (by decide) rfl) dX8_isVillage_95 rfl
        · subst e_18
          refine lv_if_eq (tgt := 94) hx hb dX8_isVillage_81 (by decide) (fun _ => ?_) (fun c9 => absurd (by decide) c9)
          refine lv_iconst (v := 0) hx hb dX8_isVillage_94 (by decide) ?_
          exact wr_z (v := 0) hx hb hr hlocks hS (v18_0, v18_1, v18_2, v4_3, (upd sf (x_5 : Int32).toNatClampNeg v4_3)) (by exact ⟨Or.inr (rfl), show 0 ≤ (v18_1 : Int32).toInt ∧ (v18_1 : Int32).toInt ≤ 120 from by omega, ha_17⟩) (hP.sub [1, 0, 2] rfl) (hD.sub [1, 0, 2] (by decide) rfl) dX8_isVillage_95 rfl
    · subst e_4
      refine lv_if_ne (tgt := 47) hx hb dX8_isVillage_42 (by decide) (fun c9 => absurd (by decide) c9) (fun _ => ?_)
      refine lv_iconst (v := 0) hx hb dX8_isVillage_45 (by decide) ?_
      exact wr_z (v := 0) hx hb hr hlocks hS (v4_0, v4_1, v4_2, v4_3, sf) (by exact ⟨Or.inr (rfl), show 0 ≤ (v4_1 : Int32).toInt ∧ (v4_1 : Int32).toInt ≤ 120 from by omega, hsi⟩) (hP.sub [1, 0, 2] rfl) (hD.sub [1, 0, 2] (by decide) rfl) dX8_isVillage_46 rfl
  · have f_2 : x_1.toInt = 8 := zi_eq c_2
    refine lv_aload_n hx hb dX8_isVillage_15 rfl (lv_at hl 1 rfl) ?_
    refine lv_iconst (v := 3) hx hb dX8_isVillage_16 (by decide) ?_
    refine lv_aload_n hx hb dX8_isVillage_17 rfl (lv_at hl 1 rfl) ?_
    refine va_get (D := D) (ci := 7) (v := .int ap) (C := RX8) (T := TX8) (N := 16) hx hb hts (fun _ h => List.mem_cons_of_mem _ (List.mem_append_right _ h)) hown hK hP 0 rfl rfl 10 (by decide) (hts (.fieldLink RX8 62 "WinterWalkModel" "at" "I") (List.mem_of_getElem? (i := 2) rfl)) (fun _ h9 => h9) rfl dX8_isVillage_18 ?_
    have k_26 := (g_X8_fails l D cI cB cQ s.heap.size h sl zs ln ir tk tb tr fz na su le fu ap pp tc nm 3 ap)
    refine wc_i (WC := [(h, .inr (7, [.ref sl, .int na, .ref zs, .ref ln, .ref ir, .ref tk, .int su, .int le, .ref tb, .int fu, .int ap, .int pp, .ref tr, .int tc, .ref fz, .int nm]))]) (WR := [(sl, .inl (cI, 1653, .inl sf)), (tb, .inl (cB, 120, .inl tbf))]) (va_runV (As := [.int 3, .int ap]) (rest := []) ⟨hx, hb, hml, hown, hts⟩ k_26 (cwV 2 hts gX8_isVillage_X8_fails rfl rfl rfl (by decide +kernel) ⟨Nat.le_of_ble_eq_true rfl, Nat.le_of_ble_eq_true rfl⟩) (wp_V hP hK hD hN [0] (by decide) rfl (ci := 7) rfl rfl) rfl rfl hl.1 rfl (lv_room (Nat.le_of_ble_eq_true rfl)) dX8_isVillage_21 ⟨Nat.le_of_ble_eq_true rfl, Nat.le_of_ble_eq_true rfl⟩) hP hD hS hA [0] [1, 2] rfl rfl (by decide) (by decide) (fun r_26 => pe2 (fun v26_0 v26_1 H locs hw_26 hP hD hS => ?_))
    clear k_26
    have hP : va_P D kl [(sl, .inl (cI, 1653, .inl sf)), (tb, .inl (cB, 120, .inl tbf)), (h, .inr (7, [.ref sl, .int na, .ref zs, .ref ln, .ref ir, .ref tk, .int su, .int le, .ref tb, .int v26_0, .int ap, .int v26_1, .ref tr, .int tc, .ref fz, .int nm]))] H := hP
    have hD : va_D A [(sl, .inl (cI, 1653, .inl sf)), (tb, .inl (cB, 120, .inl tbf)), (h, .inr (7, [.ref sl, .int na, .ref zs, .ref ln, .ref ir, .ref tk, .int su, .int le, .ref tb, .int v26_0, .int ap, .int v26_1, .ref tr, .int tc, .ref fz, .int nm]))] := hD
    have c26_0 := hw_26
    have e_26 := c26_0
    · subst e_26
      exact wr_z (v := 0) hx hb hr hlocks hS (v26_0, ap, v26_1, nm, sf) (by exact ⟨Or.inr (rfl), show 0 ≤ (ap : Int32).toInt ∧ (ap : Int32).toInt ≤ 120 from by omega, hsi⟩) (hP.sub [2, 0, 1] rfl) (hD.sub [2, 0, 1] (by decide) rfl) dX8_isVillage_24 rfl
set_option maxHeartbeats 4000000 in
set_option maxRecDepth 100000 in
theorem g_X8_isRoad (l : Launch) (D : va_G) (cI cB cQ : ClassId) (sz : Nat) (h : Nat) (sl : Nat) (zs : Nat) (ln : Nat) (ir : Nat) (tk : Nat) (tb : Nat) (tr : Nat) (fz : Nat) (na : Int32) (su : Int32) (le : Int32) (fu : Int32) (ap : Int32) (pp : Int32) (tc : Int32) (nm : Int32) (sf : Nat → Int32) (tbf : Nat → Int32) (v0 : Int) (hsi : SI sf v0) (h_na : 0 ≤ na.toInt ∧ na.toInt ≤ 24) (h_le : 0 ≤ le.toInt ∧ le.toInt ≤ 120) (h_ap : 0 ≤ ap.toInt ∧ ap.toInt ≤ 120) (h_tc : 0 ≤ tc.toInt ∧ tc.toInt ≤ 16) (h_x : ap.toInt < le.toInt) : mi l yX8_isRoad wsX8_isRoad ({ frames := 2, cells := 0, slots := 0, locals := 49 }) D cI cB cQ [.ref h] sz [(h, .inr (7, [.ref sl, .int na, .ref zs, .ref ln, .ref ir, .ref tk, .int su, .int le, .ref tb, .int fu, .int ap, .int pp, .ref tr, .int tc, .ref fz, .int nm])), (sl, .inl (cI, 1653, .inl sf)), (tb, .inl (cB, 120, .inl tbf))] (fun (r : Int32) (u : Int32 × Int32 × Int32 × Int32 × (Nat → Int32)) => ((r = 1 ∧ ap.toInt < u.2.1.toInt) ∨ (r = 0)) ∧ (0 ≤ u.2.1.toInt ∧ u.2.1.toInt ≤ 120) ∧ (SI u.2.2.2.2 v0)) (fun u => [(h, .inr (7, [.ref sl, .int na, .ref zs, .ref ln, .ref ir, .ref tk, .int su, .int le, .ref tb, .int u.1, .int u.2.1, .int u.2.2.1, .ref tr, .int tc, .ref fz, .int u.2.2.2.1])), (sl, .inl (cI, 1653, .inl u.2.2.2.2)), (tb, .inl (cB, 120, .inl tbf))]) 0 0 := by
  refine wm_i (cc := cX8_isRoad) (maxL := 5) (ret := (some .boolean)) (by decide) rfl (Nat.le_of_ble_eq_true rfl) ?_
  intro p e s m below meth c A ls hx hb hr hml hown hts hlocks hin hP hK hD hN hA hl hS
  have hown : s.vm.findClass RX8 = some m.cls := hown
  have hl : lv_has ls 5 [(0, .ref h)] := hl
  change W p l e ({ frames := 2, cells := 0, slots := 0, locals := 49 }) s m ([.ref h] : List Value).toArray below meth c s.heap [] 0 0 (MQ below (va_Qi (fun (r : Int32) (u : Int32 × Int32 × Int32 × Int32 × (Nat → Int32)) => ((r = 1 ∧ ap.toInt < u.2.1.toInt) ∨ (r = 0)) ∧ (0 ≤ u.2.1.toInt ∧ u.2.1.toInt ≤ 120) ∧ (SI u.2.2.2.2 v0)) (fun u t => wb D A ((fun u => [(h, .inr (7, [.ref sl, .int na, .ref zs, .ref ln, .ref ir, .ref tk, .int su, .int le, .ref tb, .int u.1, .int u.2.1, .int u.2.2.1, .ref tr, .int tc, .ref fz, .int u.2.2.2.1])), (sl, .inl (cI, 1653, .inl u.2.2.2.2)), (tb, .inl (cB, 120, .inl tbf))]) u) t) A) ([.ref h] : List Value).toArray s 0 0 A) (F0 m 0 ls [])
  refine lv_aload_n hx hb dX8_isRoad_0 rfl (lv_at hl 0 rfl) ?_
  refine va_get (D := D) (ci := 7) (v := .ref sl) (C := RX8) (T := TX8) (N := 16) hx hb hts (fun _ h => List.mem_cons_of_mem _ (List.mem_append_right _ h)) hown hK hP 0 rfl rfl 0 (by decide) (hts (.fieldLink RX8 7 "WinterWalkModel" "slot" "[I") (List.mem_of_getElem? (i := 1) rfl)) (fun _ h9 => h9) rfl dX8_isRoad_1 ?_
  refine lv_sipush (v := 1599) hx hb dX8_isRoad_4 (by decide) ?_
  refine va_iald hx hb hK hP 1 0 rfl rfl (zi_in (by decide) (by decide)) dX8_isRoad_7 ?_
  refine lv_topi (fun x_1 ex_1 => ?_)
  refine lv_bipush (v := 12) hx hb dX8_isRoad_8 (by decide) ?_
  refine lv_icmp_ne (tgt := 23) hx hb dX8_isRoad_10 (by decide) (fun c_2 => ?_) (fun c_2 => ?_)
  · have f_2 : ¬ x_1.toInt = 12 := zi_ne c_2
    refine lv_aload_n hx hb dX8_isRoad_23 rfl (lv_at hl 0 rfl) ?_
    refine lv_dup hx hb dX8_isRoad_24 rfl ?_
    refine va_get (D := D) (ci := 7) (v := .int ap) (C := RX8) (T := TX8) (N := 16) hx hb hts (fun _ h => List.mem_cons_of_mem _ (List.mem_append_right _ h)) hown hK hP 0 rfl rfl 10 (by decide) (hts (.fieldLink RX8 62 "WinterWalkModel" "at" "I") (List.mem_of_getElem? (i := 2) rfl)) (fun _ h9 => h9) rfl dX8_isRoad_25 ?_
    refine lv_iconst (v := 1) hx hb dX8_isRoad_28 (by decide) ?_
    refine lv_iadd hx hb dX8_isRoad_29 ?_
    refine lv_topi (fun x_3 ex_3 => ?_)
    have e_3 : x_3.toInt = ap.toInt + 1 := by rw [ex_3]; exact zi_add (rfl) (by decide) (by omega) (by omega)
    clear ex_3
    refine va_put (D := D) (ci := 7) (v := .int x_3) (ty := .int) (C := RX8) (T := TX8) (N := 16) hx hb hts (fun _ h => List.mem_cons_of_mem _ (List.mem_append_right _ h)) tyX8 tyX8_ok nmX8 hown hK hP hD hS 0 rfl rfl 10 (by decide) (hts (.fieldLink RX8 62 "WinterWalkModel" "at" "I") (List.mem_of_getElem? (i := 2) rfl)) (fun _ h9 => h9) rfl (by decide +kernel) rfl rfl (Nat.le_of_ble_eq_true rfl) dX8_isRoad_30 (fun H locs hP hD hS => ?_)
    have hP : va_P D kl [(h, .inr (7, [.ref sl, .int na, .ref zs, .ref ln, .ref ir, .ref tk, .int su, .int le, .ref tb, .int fu, .int x_3, .int pp, .ref tr, .int tc, .ref fz, .int nm])), (sl, .inl (cI, 1653, .inl sf)), (tb, .inl (cB, 120, .inl tbf))] H := hP
    have hD : va_D A [(h, .inr (7, [.ref sl, .int na, .ref zs, .ref ln, .ref ir, .ref tk, .int su, .int le, .ref tb, .int fu, .int x_3, .int pp, .ref tr, .int tc, .ref fz, .int nm])), (sl, .inl (cI, 1653, .inl sf)), (tb, .inl (cB, 120, .inl tbf))] := hD
    refine lv_aload_n hx hb dX8_isRoad_33 rfl (lv_at hl 0 rfl) ?_
    refine va_get (D := D) (ci := 7) (v := .ref sl) (C := RX8) (T := TX8) (N := 16) hx hb hts (fun _ h => List.mem_cons_of_mem _ (List.mem_append_right _ h)) hown hK hP 0 rfl rfl 0 (by decide) (hts (.fieldLink RX8 7 "WinterWalkModel" "slot" "[I") (List.mem_of_getElem? (i := 1) rfl)) (fun _ h9 => h9) rfl dX8_isRoad_34 ?_
    refine lv_sipush (v := 1597) hx hb dX8_isRoad_37 (by decide) ?_
    refine va_iald hx hb hK hP 1 0 rfl rfl (zi_in (by decide) (by decide)) dX8_isRoad_40 ?_
    refine lv_topi (fun x_4 ex_4 => ?_)
    have f_4 : 0 ≤ x_4.toInt ∧ x_4.toInt ≤ 8 := by rw [ex_4]; exact si_v hsi (s := 28) (by decide) (by omega)
    refine lv_iconst (v := 1) hx hb dX8_isRoad_41 (by decide) ?_
    refine lv_isub hx hb dX8_isRoad_42 ?_
    refine lv_topi (fun x_5 ex_5 => ?_)
    have e_5 : x_5.toInt = x_4.toInt - 1 := by rw [ex_5]; exact zi_sub (rfl) (by decide) (by omega) (by omega)
    clear ex_5
    refine lv_istore_n (lv' := [(1, .int x_5), (0, .ref h)]) hx hb dX8_isRoad_43 rfl hl (by decide) rfl (fun ls hl => ?_)
    refine lv_aload_n hx hb dX8_isRoad_44 rfl (lv_at hl 1 rfl) ?_
    refine lv_iconst (v := 0) hx hb dX8_isRoad_45 (by decide) ?_
    refine lv_iload_n hx hb dX8_isRoad_46 rfl (lv_at hl 0 rfl) ?_
    have k_6 := (g_X8_isNumber l D cI cB cQ H.size h sl zs ln ir tk tb tr fz na su le fu x_3 pp tc nm 0 x_5 tbf (by omega) (by omega) (by omega) (by omega))
    refine wc_i (WC := [(h, .inr (7, [.ref sl, .int na, .ref zs, .ref ln, .ref ir, .ref tk, .int su, .int le, .ref tb, .int fu, .int x_3, .int pp, .ref tr, .int tc, .ref fz, .int nm])), (tb, .inl (cB, 120, .inl tbf))]) (WR := [(sl, .inl (cI, 1653, .inl sf))]) (va_runV (As := [.int 0, .int x_5]) (rest := []) ⟨hx, hb, hml, hown, hts⟩ k_6 (cwV 2 hts gX8_isRoad_X8_isNumber rfl rfl rfl (by decide +kernel) ⟨Nat.le_of_ble_eq_true rfl, Nat.le_of_ble_eq_true rfl⟩) (wp_V hP hK hD hN [0, 2] (by decide) rfl (ci := 7) rfl rfl) rfl rfl hl.1 rfl (lv_room (Nat.le_of_ble_eq_true rfl)) dX8_isRoad_47 ⟨Nat.le_of_ble_eq_true rfl, Nat.le_of_ble_eq_true rfl⟩) hP hD hS hA [0, 2] [1] rfl rfl (by decide) (by decide) (fun r_6 => pe4 (fun v6_0 v6_1 v6_2 v6_3 H locs hw_6 hP hD hS => ?_))
    clear k_6
    have hP : va_P D kl [(sl, .inl (cI, 1653, .inl sf)), (h, .inr (7, [.ref sl, .int na, .ref zs, .ref ln, .ref ir, .ref tk, .int su, .int le, .ref tb, .int v6_0, .int v6_1, .int v6_2, .ref tr, .int tc, .ref fz, .int v6_3])), (tb, .inl (cB, 120, .inl tbf))] H := hP
    have hD : va_D A [(sl, .inl (cI, 1653, .inl sf)), (h, .inr (7, [.ref sl, .int na, .ref zs, .ref ln, .ref ir, .ref tk, .int su, .int le, .ref tb, .int v6_0, .int v6_1, .int v6_2, .ref tr, .int tc, .ref fz, .int v6_3])), (tb, .inl (cB, 120, .inl tbf))] := hD
    obtain ⟨c6_0, c6_1, c6_2⟩ := hw_6
    have c6_1 : x_3.toInt ≤ v6_1.toInt := c6_1
    have c6_2 : 0 ≤ v6_1.toInt ∧ v6_1.toInt ≤ 120 := c6_2
    rcases c6_0 with ⟨e_6, f_6⟩ | e_6
    · subst e_6
      have f_6 : (0 : Int) ≤ v6_3.toInt ∧ v6_3.toInt ≤ x_5.toInt := f_6
      refine lv_if_ne (tgt := 55) hx hb dX8_isRoad_50 (by decide) (fun _ => ?_) (fun c9 => absurd c9 (by decide))
      refine lv_aload_n hx hb dX8_isRoad_55 rfl (lv_at hl 1 rfl) ?_
      refine va_get (D := D) (ci := 7) (v := .int v6_3) (C := RX8) (T := TX8) (N := 16) hx hb hts (fun _ h => List.mem_cons_of_mem _ (List.mem_append_right _ h)) hown hK hP 1 rfl rfl 15 (by decide) (hts (.fieldLink RX8 83 "WinterWalkModel" "number" "I") (List.mem_of_getElem? (i := 3) rfl)) (fun _ h9 => h9) rfl dX8_isRoad_56 ?_
      refine lv_istore_n (lv' := [(2, .int v6_3), (1, .int x_5), (0, .ref h)]) hx hb dX8_isRoad_59 rfl hl (by decide) rfl (fun ls hl => ?_)
      refine lv_aload_n hx hb dX8_isRoad_60 rfl (lv_at hl 2 rfl) ?_
      refine lv_bipush (v := 44) hx hb dX8_isRoad_61 (by decide) ?_
      have k_7 := (g_X8_isSign l D cI cB cQ H.size h sl zs ln ir tk tb tr fz na su le v6_0 v6_1 v6_2 tc v6_3 44 tbf (by omega) (by omega) (by omega) (by omega) ⟨by decide, by decide⟩)
      refine wc_i (WC := [(h, .inr (7, [.ref sl, .int na, .ref zs, .ref ln, .ref ir, .ref tk, .int su, .int le, .ref tb, .int v6_0, .int v6_1, .int v6_2, .ref tr, .int tc, .ref fz, .int v6_3])), (tb, .inl (cB, 120, .inl tbf))]) (WR := [(sl, .inl (cI, 1653, .inl sf))]) (va_runV (As := [.int 44]) (rest := []) ⟨hx, hb, hml, hown, hts⟩ k_7 (cwV 1 hts gX8_isRoad_X8_isSign rfl rfl rfl (by decide +kernel) ⟨Nat.le_of_ble_eq_true rfl, Nat.le_of_ble_eq_true rfl⟩) (wp_V hP hK hD hN [1, 2] (by decide) rfl (ci := 7) rfl rfl) rfl rfl hl.1 rfl (lv_room (Nat.le_of_ble_eq_true rfl)) dX8_isRoad_63 ⟨Nat.le_of_ble_eq_true rfl, Nat.le_of_ble_eq_true rfl⟩) hP hD hS hA [1, 2] [0] rfl rfl (by decide) (by decide) (fun r_7 => pe3 (fun v7_0 v7_1 v7_2 H locs hw_7 hP hD hS => ?_))
      clear k_7
      have hP : va_P D kl [(sl, .inl (cI, 1653, .inl sf)), (h, .inr (7, [.ref sl, .int na, .ref zs, .ref ln, .ref ir, .ref tk, .int su, .int le, .ref tb, .int v7_0, .int v7_1, .int v7_2, .ref tr, .int tc, .ref fz, .int v6_3])), (tb, .inl (cB, 120, .inl tbf))] H := hP
      have hD : va_D A [(sl, .inl (cI, 1653, .inl sf)), (h, .inr (7, [.ref sl, .int na, .ref zs, .ref ln, .ref ir, .ref tk, .int su, .int le, .ref tb, .int v7_0, .int v7_1, .int v7_2, .ref tr, .int tc, .ref fz, .int v6_3])), (tb, .inl (cB, 120, .inl tbf))] := hD
      obtain ⟨c7_0, c7_1, c7_2⟩ := hw_7
      have c7_1 : v6_1.toInt ≤ v7_1.toInt := c7_1
      have c7_2 : 0 ≤ v7_1.toInt ∧ v7_1.toInt ≤ 120 := c7_2
      rcases c7_0 with e_7 | e_7
      · subst e_7
        refine lv_if_ne (tgt := 71) hx hb dX8_isRoad_66 (by decide) (fun _ => ?_) (fun c9 => absurd c9 (by decide))
        refine lv_aload_n hx hb dX8_isRoad_71 rfl (lv_at hl 2 rfl) ?_
        refine va_get (D := D) (ci := 7) (v := .int v7_1) (C := RX8) (T := TX8) (N := 16) hx hb hts (fun _ h => List.mem_cons_of_mem _ (List.mem_append_right _ h)) hown hK hP 1 rfl rfl 10 (by decide) (hts (.fieldLink RX8 62 "WinterWalkModel" "at" "I") (List.mem_of_getElem? (i := 2) rfl)) (fun _ h9 => h9) rfl dX8_isRoad_72 ?_
        refine lv_istore_n (lv' := [(3, .int v7_1), (2, .int v6_3), (1, .int x_5), (0, .ref h)]) hx hb dX8_isRoad_75 rfl hl (by decide) rfl (fun ls hl => ?_)
        refine lv_aload_n hx hb dX8_isRoad_76 rfl (lv_at hl 3 rfl) ?_
        refine lv_iconst (v := 0) hx hb dX8_isRoad_77 (by decide) ?_
        refine lv_iload_n hx hb dX8_isRoad_78 rfl (lv_at hl 2 rfl) ?_
        have k_8 := (g_X8_isNumber l D cI cB cQ H.size h sl zs ln ir tk tb tr fz na su le v7_0 v7_1 v7_2 tc v6_3 0 x_5 tbf (by omega) (by omega) (by omega) (by omega))
        refine wc_i (WC := [(h, .inr (7, [.ref sl, .int na, .ref zs, .ref ln, .ref ir, .ref tk, .int su, .int le, .ref tb, .int v7_0, .int v7_1, .int v7_2, .ref tr, .int tc, .ref fz, .int v6_3])), (tb, .inl (cB, 120, .inl tbf))]) (WR := [(sl, .inl (cI, 1653, .inl sf))]) (va_runV (As := [.int 0, .int x_5]) (rest := []) ⟨hx, hb, hml, hown, hts⟩ k_8 (cwV 2 hts gX8_isRoad_X8_isNumber rfl rfl rfl (by decide +kernel) ⟨Nat.le_of_ble_eq_true rfl, Nat.le_of_ble_eq_true rfl⟩) (wp_V hP hK hD hN [1, 2] (by decide) rfl (ci := 7) rfl rfl) rfl rfl hl.1 rfl (lv_room (Nat.le_of_ble_eq_true rfl)) dX8_isRoad_79 ⟨Nat.le_of_ble_eq_true rfl, Nat.le_of_ble_eq_true rfl⟩) hP hD hS hA [1, 2] [0] rfl rfl (by decide) (by decide) (fun r_8 => pe4 (fun v8_0 v8_1 v8_2 v8_3 H locs hw_8 hP hD hS => ?_))
        clear k_8
        have hP : va_P D kl [(sl, .inl (cI, 1653, .inl sf)), (h, .inr (7, [.ref sl, .int na, .ref zs, .ref ln, .ref ir, .ref tk, .int su, .int le, .ref tb, .int v8_0, .int v8_1, .int v8_2, .ref tr, .int tc, .ref fz, .int v8_3])), (tb, .inl (cB, 120, .inl tbf))] H := hP
        have hD : va_D A [(sl, .inl (cI, 1653, .inl sf)), (h, .inr (7, [.ref sl, .int na, .ref zs, .ref ln, .ref ir, .ref tk, .int su, .int le, .ref tb, .int v8_0, .int v8_1, .int v8_2, .ref tr, .int tc, .ref fz, .int v8_3])), (tb, .inl (cB, 120, .inl tbf))] := hD
        obtain ⟨c8_0, c8_1, c8_2⟩ := hw_8
        have c8_1 : v7_1.toInt ≤ v8_1.toInt := c8_1
        have c8_2 : 0 ≤ v8_1.toInt ∧ v8_1.toInt ≤ 120 := c8_2
        rcases c8_0 with ⟨e_8, f_8⟩ | e_8
        · subst e_8
          have f_8 : (0 : Int) ≤ v8_3.toInt ∧ v8_3.toInt ≤ x_5.toInt := f_8
          refine lv_if_ne (tgt := 87) hx hb dX8_isRoad_82 (by decide) (fun _ => ?_) (fun c9 => absurd c9 (by decide))
          refine lv_aload_n hx hb dX8_isRoad_87 rfl (lv_at hl 3 rfl) ?_
          refine va_get (D := D) (ci := 7) (v := .int v8_3) (C := RX8) (T := TX8) (N := 16) hx hb hts (fun _ h => List.mem_cons_of_mem _ (List.mem_append_right _ h)) hown hK hP 1 rfl rfl 15 (by decide) (hts (.fieldLink RX8 83 "WinterWalkModel" "number" "I") (List.mem_of_getElem? (i := 3) rfl)) (fun _ h9 => h9) rfl dX8_isRoad_88 ?_
          refine lv_istore (lv' := [(4, .int v8_3), (3, .int v7_1), (2, .int v6_3), (1, .int x_5), (0, .ref h)]) hx hb dX8_isRoad_91 hl (by decide) rfl (fun ls hl => ?_)
          refine lv_iload_n hx hb dX8_isRoad_93 rfl (lv_at hl 2 rfl) ?_
          refine lv_iload hx hb dX8_isRoad_94 (lv_at hl 0 rfl) ?_
          refine lv_icmp_eq (tgt := 117) hx hb dX8_isRoad_96 (by decide) (fun c_9 => ?_) (fun c_9 => ?_)
          · have f_9 : v6_3.toInt = v8_3.toInt := zi_eq c_9
            refine lv_aload_n hx hb dX8_isRoad_117 rfl (lv_at hl 4 rfl) ?_
            refine lv_iconst (v := 2) hx hb dX8_isRoad_118 (by decide) ?_
            refine lv_iload_n hx hb dX8_isRoad_119 rfl (lv_at hl 1 rfl) ?_
            have k_10 := (g_X8_fails l D cI cB cQ H.size h sl zs ln ir tk tb tr fz na su le v8_0 v8_1 v8_2 tc v8_3 2 v7_1)
            refine wc_i (WC := [(h, .inr (7, [.ref sl, .int na, .ref zs, .ref ln, .ref ir, .ref tk, .int su, .int le, .ref tb, .int v8_0, .int v8_1, .int v8_2, .ref tr, .int tc, .ref fz, .int v8_3]))]) (WR := [(sl, .inl (cI, 1653, .inl sf)), (tb, .inl (cB, 120, .inl tbf))]) (va_runV (As := [.int 2, .int v7_1]) (rest := []) ⟨hx, hb, hml, hown, hts⟩ k_10 (cwV 2 hts gX8_isRoad_X8_fails rfl rfl rfl (by decide +kernel) ⟨Nat.le_of_ble_eq_true rfl, Nat.le_of_ble_eq_true rfl⟩) (wp_V hP hK hD hN [1] (by decide) rfl (ci := 7) rfl rfl) rfl rfl hl.1 rfl (lv_room (Nat.le_of_ble_eq_true rfl)) dX8_isRoad_120 ⟨Nat.le_of_ble_eq_true rfl, Nat.le_of_ble_eq_true rfl⟩) hP hD hS hA [1] [0, 2] rfl rfl (by decide) (by decide) (fun r_10 => pe2 (fun v10_0 v10_1 H locs hw_10 hP hD hS => ?_))
            clear k_10
            have hP : va_P D kl [(sl, .inl (cI, 1653, .inl sf)), (tb, .inl (cB, 120, .inl tbf)), (h, .inr (7, [.ref sl, .int na, .ref zs, .ref ln, .ref ir, .ref tk, .int su, .int le, .ref tb, .int v10_0, .int v8_1, .int v10_1, .ref tr, .int tc, .ref fz, .int v8_3]))] H := hP
            have hD : va_D A [(sl, .inl (cI, 1653, .inl sf)), (tb, .inl (cB, 120, .inl tbf)), (h, .inr (7, [.ref sl, .int na, .ref zs, .ref ln, .ref ir, .ref tk, .int su, .int le, .ref tb, .int v10_0, .int v8_1, .int v10_1, .ref tr, .int tc, .ref fz, .int v8_3]))] := hD
            have c10_0 := hw_10
            have e_10 := c10_0
            · subst e_10
              exact wr_z (v := 0) hx hb hr hlocks hS (v10_0, v8_1, v10_1, v8_3, sf) (by exact ⟨Or.inr (rfl), show 0 ≤ (v8_1 : Int32).toInt ∧ (v8_1 : Int32).toInt ≤ 120 from by omega, hsi⟩) (hP.sub [2, 0, 1] rfl) (hD.sub [2, 0, 1] (by decide) rfl) dX8_isRoad_123 rfl
          · have f_9 : ¬ v6_3.toInt = v8_3.toInt := zi_ne c_9
            refine lv_aload_n hx hb dX8_isRoad_99 rfl (lv_at hl 4 rfl) ?_
            refine va_get (D := D) (ci := 7) (v := .ref sl) (C := RX8) (T := TX8) (N := 16) hx hb hts (fun _ h => List.mem_cons_of_mem _ (List.mem_append_right _ h)) hown hK hP 1 rfl rfl 0 (by decide) (hts (.fieldLink RX8 7 "WinterWalkModel" "slot" "[I") (List.mem_of_getElem? (i := 1) rfl)) (fun _ h9 => h9) rfl dX8_isRoad_100 ?_
            refine lv_sipush (v := 1608) hx hb dX8_isRoad_103 (by decide) ?_
            refine lv_iload_n hx hb dX8_isRoad_106 rfl (lv_at hl 2 rfl) ?_
            refine lv_iadd hx hb dX8_isRoad_107 ?_
            refine lv_topi (fun x_11 ex_11 => ?_)
            have e_11 : x_11.toInt = 1608 + v6_3.toInt := by rw [ex_11]; exact zi_add (by decide) (rfl) (by omega) (by omega)
            clear ex_11
            refine va_iald hx hb hK hP 0 0 rfl rfl (zi_in (by omega) (by omega)) dX8_isRoad_108 ?_
            refine lv_topi (fun x_12 ex_12 => ?_)
            clear ex_12
            refine lv_iload hx hb dX8_isRoad_109 (lv_at hl 0 rfl) ?_
            have k_13 := (g_X8_has l D cI cB cQ H.size x_12 v8_3)
            refine wc_i (WC := []) (WR := [(sl, .inl (cI, 1653, .inl sf)), (h, .inr (7, [.ref sl, .int na, .ref zs, .ref ln, .ref ir, .ref tk, .int su, .int le, .ref tb, .int v8_0, .int v8_1, .int v8_2, .ref tr, .int tc, .ref fz, .int v8_3])), (tb, .inl (cB, 120, .inl tbf))]) (va_runS (As := [.int x_12, .int v8_3]) (rest := []) ⟨hx, hb, hml, hown, hts⟩ k_13 (va_cwS 2 hts gX8_isRoad_X8_has rfl rfl rfl (by decide +kernel) ⟨Nat.le_of_ble_eq_true rfl, Nat.le_of_ble_eq_true rfl⟩) (wp_S hP hK hD hN [] (by decide) rfl) rfl rfl hl.1 rfl (lv_room (Nat.le_of_ble_eq_true rfl)) dX8_isRoad_111 ⟨Nat.le_of_ble_eq_true rfl, Nat.le_of_ble_eq_true rfl⟩) hP hD hS hA [] [0, 1, 2] rfl rfl (by decide) (by decide) (fun r_13 u_13 H locs hw_13 hP hD hS => ?_)
            clear k_13
            have hP : va_P D kl [(sl, .inl (cI, 1653, .inl sf)), (h, .inr (7, [.ref sl, .int na, .ref zs, .ref ln, .ref ir, .ref tk, .int su, .int le, .ref tb, .int v8_0, .int v8_1, .int v8_2, .ref tr, .int tc, .ref fz, .int v8_3])), (tb, .inl (cB, 120, .inl tbf))] H := hP
            have hD : va_D A [(sl, .inl (cI, 1653, .inl sf)), (h, .inr (7, [.ref sl, .int na, .ref zs, .ref ln, .ref ir, .ref tk, .int su, .int le, .ref tb, .int v8_0, .int v8_1, .int v8_2, .ref tr, .int tc, .ref fz, .int v8_3])), (tb, .inl (cB, 120, .inl tbf))] := hD
            have c13_0 := hw_13
            rcases c13_0 with e_13 | e_13
            · subst e_13
              refine lv_if_eq (tgt := 124) hx hb dX8_isRoad_114 (by decide) (fun c9 => absurd c9 (by decide)) (fun _ => ?_)
              refine lv_aload_n hx hb dX8_isRoad_117 rfl (lv_at hl 4 rfl) ?_
              refine lv_iconst (v := 2) hx hb dX8_isRoad_118 (by decide) ?_
              refine lv_iload_n hx hb dX8_isRoad_119 rfl (lv_at hl 1 rfl) ?_
              have k_14 := (g_X8_fails l D cI cB cQ H.size h sl zs ln ir tk tb tr fz na su le v8_0 v8_1 v8_2 tc v8_3 2 v7_1)
              refine wc_i (WC := [(h, .inr (7, [.ref sl, .int na, .ref zs, .ref ln, .ref ir, .ref tk, .int su, .int le, .ref tb, .int v8_0, .int v8_1, .int v8_2, .ref tr, .int tc, .ref fz, .int v8_3]))]) (WR := [(sl, .inl (cI, 1653, .inl sf)), (tb, .inl (cB, 120, .inl tbf))]) (va_runV (As := [.int 2, .int v7_1]) (rest := []) ⟨hx, hb, hml, hown, hts⟩ k_14 (cwV 2 hts gX8_isRoad_X8_fails rfl rfl rfl (by decide +kernel) ⟨Nat.le_of_ble_eq_true rfl, Nat.le_of_ble_eq_true rfl⟩) (wp_V hP hK hD hN [1] (by decide) rfl (ci := 7) rfl rfl) rfl rfl hl.1 rfl (lv_room (Nat.le_of_ble_eq_true rfl)) dX8_isRoad_120 ⟨Nat.le_of_ble_eq_true rfl, Nat.le_of_ble_eq_true rfl⟩) hP hD hS hA [1] [0, 2] rfl rfl (by decide) (by decide) (fun r_14 => pe2 (fun v14_0 v14_1 H locs hw_14 hP hD hS => ?_))
              clear k_14
              have hP : va_P D kl [(sl, .inl (cI, 1653, .inl sf)), (tb, .inl (cB, 120, .inl tbf)), (h, .inr (7, [.ref sl, .int na, .ref zs, .ref ln, .ref ir, .ref tk, .int su, .int le, .ref tb, .int v14_0, .int v8_1, .int v14_1, .ref tr, .int tc, .ref fz, .int v8_3]))] H := hP
              have hD : va_D A [(sl, .inl (cI, 1653, .inl sf)), (tb, .inl (cB, 120, .inl tbf)), (h, .inr (7, [.ref sl, .int na, .ref zs, .ref ln, .ref ir, .ref tk, .int su, .int le, .ref tb, .int v14_0, .int v8_1, .int v14_1, .ref tr, .int tc, .ref fz, .int v8_3]))] := hD
              have c14_0 := hw_14
              have e_14 := c14_0
              · subst e_14
                exact wr_z (v := 0) hx hb hr hlocks hS (v14_0, v8_1, v14_1, v8_3, sf) (by exact ⟨Or.inr (rfl), show 0 ≤ (v8_1 : Int32).toInt ∧ (v8_1 : Int32).toInt ≤ 120 from by omega, hsi⟩) (hP.sub [2, 0, 1] rfl) (hD.sub [2, 0, 1] (by decide) rfl) dX8_isRoad_123 rfl
            · subst e_13
              refine lv_if_eq (tgt := 124) hx hb dX8_isRoad_114 (by decide) (fun _ => ?_) (fun c9 => absurd (by decide) c9)
              refine lv_aload_n hx hb dX8_isRoad_124 rfl (lv_at hl 4 rfl) ?_
              refine va_get (D := D) (ci := 7) (v := .ref sl) (C := RX8) (T := TX8) (N := 16) hx hb hts (fun _ h => List.mem_cons_of_mem _ (List.mem_append_right _ h)) hown hK hP 1 rfl rfl 0 (by decide) (hts (.fieldLink RX8 7 "WinterWalkModel" "slot" "[I") (List.mem_of_getElem? (i := 1) rfl)) (fun _ h9 => h9) rfl dX8_isRoad_125 ?_
              refine lv_sipush (v := 1608) hx hb dX8_isRoad_128 (by decide) ?_
              refine lv_iload_n hx hb dX8_isRoad_131 rfl (lv_at hl 2 rfl) ?_
              refine lv_iadd hx hb dX8_isRoad_132 ?_
              refine lv_topi (fun x_15 ex_15 => ?_)
              have e_15 : x_15.toInt = 1608 + v6_3.toInt := by rw [ex_15]; exact zi_add (by decide) (rfl) (by omega) (by omega)
              clear ex_15
              refine lv_dup2_11 hx hb dX8_isRoad_133 rfl rfl ?_
              refine va_iald hx hb hK hP 0 0 rfl rfl (zi_in (by omega) (by omega)) dX8_isRoad_134 ?_
              refine lv_topi (fun x_16 ex_16 => ?_)
              clear ex_16
              refine lv_iconst (v := 1) hx hb dX8_isRoad_135 (by decide) ?_
              refine lv_iload hx hb dX8_isRoad_136 (lv_at hl 0 rfl) ?_
              refine lv_ishl hx hb dX8_isRoad_138 ?_
              refine lv_topi (fun x_17 ex_17 => ?_)
              have e_17 : 1 ≤ x_17.toInt ∧ x_17.toInt ≤ 256 := by rw [ex_17]; exact zi_sh (by omega)
              clear ex_17
              refine lv_ior hx hb dX8_isRoad_139 ?_
              refine lv_topi (fun x_18 ex_18 => ?_)
              clear ex_18
              refine va_iast hx hb hK hP hD hS 0 0 rfl rfl (zi_in (by omega) (by omega)) dX8_isRoad_140 (fun H locs hP hD hS => ?_)
              have hP : va_P D kl [(sl, .inl (cI, 1653, .inl (upd sf (x_15 : Int32).toNatClampNeg x_18))), (h, .inr (7, [.ref sl, .int na, .ref zs, .ref ln, .ref ir, .ref tk, .int su, .int le, .ref tb, .int v8_0, .int v8_1, .int v8_2, .ref tr, .int tc, .ref fz, .int v8_3])), (tb, .inl (cB, 120, .inl tbf))] H := hP
              have hD : va_D A [(sl, .inl (cI, 1653, .inl (upd sf (x_15 : Int32).toNatClampNeg x_18))), (h, .inr (7, [.ref sl, .int na, .ref zs, .ref ln, .ref ir, .ref tk, .int su, .int le, .ref tb, .int v8_0, .int v8_1, .int v8_2, .ref tr, .int tc, .ref fz, .int v8_3])), (tb, .inl (cB, 120, .inl tbf))] := hD
              have ha_19 : SI (upd sf (x_15 : Int32).toNatClampNeg x_18) v0 := si_up hsi (by omega) (fun s0 a0 b0 e0 => by omega) (fun s0 a0 b0 e0 => by omega) (fun s0 k0 a0 b0 c0 d0 e0 => by omega) (by omega)
              refine lv_aload_n hx hb dX8_isRoad_141 rfl (lv_at hl 4 rfl) ?_
              refine va_get (D := D) (ci := 7) (v := .ref sl) (C := RX8) (T := TX8) (N := 16) hx hb hts (fun _ h => List.mem_cons_of_mem _ (List.mem_append_right _ h)) hown hK hP 1 rfl rfl 0 (by decide) (hts (.fieldLink RX8 7 "WinterWalkModel" "slot" "[I") (List.mem_of_getElem? (i := 1) rfl)) (fun _ h9 => h9) rfl dX8_isRoad_142 ?_
              refine lv_sipush (v := 1608) hx hb dX8_isRoad_145 (by decide) ?_
              refine lv_iload hx hb dX8_isRoad_148 (lv_at hl 0 rfl) ?_
              refine lv_iadd hx hb dX8_isRoad_150 ?_
              refine lv_topi (fun x_20 ex_20 => ?_)
              have e_20 : x_20.toInt = 1608 + v8_3.toInt := by rw [ex_20]; exact zi_add (by decide) (rfl) (by omega) (by omega)
              clear ex_20
              refine lv_dup2_11 hx hb dX8_isRoad_151 rfl rfl ?_
              refine va_iald hx hb hK hP 0 0 rfl rfl (zi_in (by omega) (by omega)) dX8_isRoad_152 ?_
              refine lv_topi (fun x_21 ex_21 => ?_)
              clear ex_21
              refine lv_iconst (v := 1) hx hb dX8_isRoad_153 (by decide) ?_
              refine lv_iload_n hx hb dX8_isRoad_154 rfl (lv_at hl 2 rfl) ?_
              refine lv_ishl hx hb dX8_isRoad_155 ?_
              refine lv_topi (fun x_22 ex_22 => ?_)
              have e_22 : 1 ≤ x_22.toInt ∧ x_22.toInt ≤ 256 := by rw [ex_22]; exact zi_sh (by omega)
              clear ex_22
              refine lv_ior hx hb dX8_isRoad_156 ?_
              refine lv_topi (fun x_23 ex_23 => ?_)
              clear ex_23
              refine va_iast hx hb hK hP hD hS 0 0 rfl rfl (zi_in (by omega) (by omega)) dX8_isRoad_157 (fun H locs hP hD hS => ?_)
              have hP : va_P D kl [(sl, .inl (cI, 1653, .inl (upd (upd sf (x_15 : Int32).toNatClampNeg x_18) (x_20 : Int32).toNatClampNeg x_23))), (h, .inr (7, [.ref sl, .int na, .ref zs, .ref ln, .ref ir, .ref tk, .int su, .int le, .ref tb, .int v8_0, .int v8_1, .int v8_2, .ref tr, .int tc, .ref fz, .int v8_3])), (tb, .inl (cB, 120, .inl tbf))] H := hP
              have hD : va_D A [(sl, .inl (cI, 1653, .inl (upd (upd sf (x_15 : Int32).toNatClampNeg x_18) (x_20 : Int32).toNatClampNeg x_23))), (h, .inr (7, [.ref sl, .int na, .ref zs, .ref ln, .ref ir, .ref tk, .int su, .int le, .ref tb, .int v8_0, .int v8_1, .int v8_2, .ref tr, .int tc, .ref fz, .int v8_3])), (tb, .inl (cB, 120, .inl tbf))] := hD
              have ha_24 : SI (upd (upd sf (x_15 : Int32).toNatClampNeg x_18) (x_20 : Int32).toNatClampNeg x_23) v0 := si_up ha_19 (by omega) (fun s0 a0 b0 e0 => by omega) (fun s0 a0 b0 e0 => by omega) (fun s0 k0 a0 b0 c0 d0 e0 => by omega) (by omega)
              refine lv_aload_n hx hb dX8_isRoad_158 rfl (lv_at hl 4 rfl) ?_
              refine va_get (D := D) (ci := 7) (v := .ref sl) (C := RX8) (T := TX8) (N := 16) hx hb hts (fun _ h => List.mem_cons_of_mem _ (List.mem_append_right _ h)) hown hK hP 1 rfl rfl 0 (by decide) (hts (.fieldLink RX8 7 "WinterWalkModel" "slot" "[I") (List.mem_of_getElem? (i := 1) rfl)) (fun _ h9 => h9) rfl dX8_isRoad_159 ?_
              refine lv_sipush (v := 1599) hx hb dX8_isRoad_162 (by decide) ?_
              refine lv_dup2_11 hx hb dX8_isRoad_165 rfl rfl ?_
              refine va_iald hx hb hK hP 0 0 rfl rfl (zi_in (by decide) (by decide)) dX8_isRoad_166 ?_
              refine lv_topi (fun x_25 ex_25 => ?_)
              have g_25 : x_25.toInt = x_1.toInt := by have hk0 : (1599 : Int32).toInt = 1599 := (by decide); rw [ex_25, zu_ne (by omega) (by omega) (by omega), zu_ne (by omega) (by omega) (by omega), ex_1]
              clear ex_25
              refine lv_iconst (v := 1) hx hb dX8_isRoad_167 (by decide) ?_
              refine lv_iadd hx hb dX8_isRoad_168 ?_
              refine lv_topi (fun x_26 ex_26 => ?_)
              clear ex_26
              refine va_iast hx hb hK hP hD hS 0 0 rfl rfl (zi_in (by decide) (by decide)) dX8_isRoad_169 (fun H locs hP hD hS => ?_)
              have hP : va_P D kl [(sl, .inl (cI, 1653, .inl (upd (upd (upd sf (x_15 : Int32).toNatClampNeg x_18) (x_20 : Int32).toNatClampNeg x_23) (1599 : Int32).toNatClampNeg x_26))), (h, .inr (7, [.ref sl, .int na, .ref zs, .ref ln, .ref ir, .ref tk, .int su, .int le, .ref tb, .int v8_0, .int v8_1, .int v8_2, .ref tr, .int tc, .ref fz, .int v8_3])), (tb, .inl (cB, 120, .inl tbf))] H := hP
              have hD : va_D A [(sl, .inl (cI, 1653, .inl (upd (upd (upd sf (x_15 : Int32).toNatClampNeg x_18) (x_20 : Int32).toNatClampNeg x_23) (1599 : Int32).toNatClampNeg x_26))), (h, .inr (7, [.ref sl, .int na, .ref zs, .ref ln, .ref ir, .ref tk, .int su, .int le, .ref tb, .int v8_0, .int v8_1, .int v8_2, .ref tr, .int tc, .ref fz, .int v8_3])), (tb, .inl (cB, 120, .inl tbf))] := hD
              have hq_27 : (1599 : Int32).toInt = 1599 := by decide
              have ha_27 : SI (upd (upd (upd sf (x_15 : Int32).toNatClampNeg x_18) (x_20 : Int32).toNatClampNeg x_23) (1599 : Int32).toNatClampNeg x_26) v0 := si_up ha_24 (by omega) (fun s0 a0 b0 e0 => by omega) (fun s0 a0 b0 e0 => by omega) (fun s0 k0 a0 b0 c0 d0 e0 => by omega) (by omega)
              refine lv_aload_n hx hb dX8_isRoad_170 rfl (lv_at hl 4 rfl) ?_
              refine lv_bipush (v := 59) hx hb dX8_isRoad_171 (by decide) ?_
              have k_28 := (g_X8_isSign l D cI cB cQ H.size h sl zs ln ir tk tb tr fz na su le v8_0 v8_1 v8_2 tc v8_3 59 tbf (by omega) (by omega) (by omega) (by omega) ⟨by decide, by decide⟩)
              refine wc_i (WC := [(h, .inr (7, [.ref sl, .int na, .ref zs, .ref ln, .ref ir, .ref tk, .int su, .int le, .ref tb, .int v8_0, .int v8_1, .int v8_2, .ref tr, .int tc, .ref fz, .int v8_3])), (tb, .inl (cB, 120, .inl tbf))]) (WR := [(sl, .inl (cI, 1653, .inl (upd (upd (upd sf (x_15 : Int32).toNatClampNeg x_18) (x_20 : Int32).toNatClampNeg x_23) (1599 : Int32).toNatClampNeg x_26)))]) (va_runV (As := [.int 59]) (rest := []) ⟨hx, hb, hml, hown, hts⟩ k_28 (cwV 1 hts gX8_isRoad_X8_isSign rfl rfl rfl (by decide +kernel) ⟨Nat.le_of_ble_eq_true rfl, Nat.le_of_ble_eq_true rfl⟩) (wp_V hP hK hD hN [1, 2] (by decide) rfl (ci := 7) rfl rfl) rfl rfl hl.1 rfl (lv_room (Nat.le_of_ble_eq_true rfl)) dX8_isRoad_173 ⟨Nat.le_of_ble_eq_true rfl, Nat.le_of_ble_eq_true rfl⟩) hP hD hS hA [1, 2] [0] rfl rfl (by decide) (by decide) (fun r_28 => pe3 (fun v28_0 v28_1 v28_2 H locs hw_28 hP hD hS => ?_))
              clear k_28
              have hP : va_P D kl [(sl, .inl (cI, 1653, .inl (upd (upd (upd sf (x_15 : Int32).toNatClampNeg x_18) (x_20 : Int32).toNatClampNeg x_23) (1599 : Int32).toNatClampNeg x_26))), (h, .inr (7, [.ref sl, .int na, .ref zs, .ref ln, .ref ir, .ref tk, .int su, .int le, .ref tb, .int v28_0, .int v28_1, .int v28_2, .ref tr, .int tc, .ref fz, .int v8_3])), (tb, .inl (cB, 120, .inl tbf))] H := hP
              have hD : va_D A [(sl, .inl (cI, 1653, .inl (upd (upd (upd sf (x_15 : Int32).toNatClampNeg x_18) (x_20 : Int32).toNatClampNeg x_23) (1599 : Int32).toNatClampNeg x_26))), (h, .inr (7, [.ref sl, .int na, .ref zs, .ref ln, .ref ir, .ref tk, .int su, .int le, .ref tb, .int v28_0, .int v28_1, .int v28_2, .ref tr, .int tc, .ref fz, .int v8_3])), (tb, .inl (cB, 120, .inl tbf))] := hD
              obtain ⟨c28_0, c28_1, c28_2⟩ := hw_28
              have c28_1 : v8_1.toInt ≤ v28_1.toInt := c28_1
              have c28_2 : 0 ≤ v28_1.toInt ∧ v28_1.toInt ≤ 120 := c28_2
              rcases c28_0 with e_28 | e_28
              · subst e_28
                exact wr_z (v := 1) hx hb hr hlocks hS (v28_0, v28_1, v28_2, v8_3, (upd (upd (upd sf (x_15 : Int32).toNatClampNeg x_18) (x_20 : Int32).toNatClampNeg x_23) (1599 : Int32).toNatClampNeg x_26)) (by exact ⟨Or.inl ⟨rfl, show ap.toInt < v28_1.toInt from by omega⟩, show 0 ≤ (v28_1 : Int32).toInt ∧ (v28_1 : Int32).toInt ≤ 120 from by omega, ha_27⟩) (hP.sub [1, 0, 2] rfl) (hD.sub [1, 0, 2] (by decide) rfl) dX8_isRoad_176 rfl
              · subst e_28
                exact wr_z (v := 0) hx hb hr hlocks hS (v28_0, v28_1, v28_2, v8_3, (upd (upd (upd sf (x_15 : Int32).toNatClampNeg x_18) (x_20 : Int32).toNatClampNeg x_23) (1599 : Int32).toNatClampNeg x_26)) (by exact ⟨Or.inr (rfl), show 0 ≤ (v28_1 : Int32).toInt ∧ (v28_1 : Int32).toInt ≤ 120 from by omega, ha_27⟩) (hP.sub [1, 0, 2] rfl) (hD.sub [1, 0, 2] (by decide) rfl) dX8_isRoad_176 rfl
        · subst e_8
          refine lv_if_ne (tgt := 87) hx hb dX8_isRoad_82 (by decide) (fun c9 => absurd (by decide) c9) (fun _ => ?_)
          refine lv_iconst (v := 0) hx hb dX8_isRoad_85 (by decide) ?_
          exact wr_z (v := 0) hx hb hr hlocks hS (v8_0, v8_1, v8_2, v8_3, sf) (by exact ⟨Or.inr (rfl), show 0 ≤ (v8_1 : Int32).toInt ∧ (v8_1 : Int32).toInt ≤ 120 from by omega, hsi⟩) (hP.sub [1, 0, 2] rfl) (hD.sub [1, 0, 2] (by decide) rfl) dX8_isRoad_86 rfl
      · subst e_7
        refine lv_if_ne (tgt := 71) hx hb dX8_isRoad_66 (by decide) (fun c9 => absurd (by decide) c9) (fun _ => ?_)
        refine lv_iconst (v := 0) hx hb dX8_isRoad_69 (by decide) ?_
        exact wr_z (v := 0) hx hb hr hlocks hS (v7_0, v7_1, v7_2, v6_3, sf) (by exact ⟨Or.inr (rfl), show 0 ≤ (v7_1 : Int32).toInt ∧ (v7_1 : Int32).toInt ≤ 120 from by omega, hsi⟩) (hP.sub [1, 0, 2] rfl) (hD.sub [1, 0, 2] (by decide) rfl) dX8_isRoad_70 rfl
    · subst e_6
      refine lv_if_ne (tgt := 55) hx hb dX8_isRoad_50 (by decide) (fun c9 => absurd (by decide) c9) (fun _ => ?_)
      refine lv_iconst (v := 0) hx hb dX8_isRoad_53 (by decide) ?_
      exact wr_z (v := 0) hx hb hr hlocks hS (v6_0, v6_1, v6_2, v6_3, sf) (by exact ⟨Or.inr (rfl), show 0 ≤ (v6_1 : Int32).toInt ∧ (v6_1 : Int32).toInt ≤ 120 from by omega, hsi⟩) (hP.sub [1, 0, 2] rfl) (hD.sub [1, 0, 2] (by decide) rfl) dX8_isRoad_54 rfl
  · have f_2 : x_1.toInt = 12 := zi_eq c_2
    refine lv_aload_n hx hb dX8_isRoad_13 rfl (lv_at hl 0 rfl) ?_
    refine lv_iconst (v := 3) hx hb dX8_isRoad_14 (by decide) ?_
    refine lv_aload_n hx hb dX8_isRoad_15 rfl (lv_at hl 0 rfl) ?_
    refine va_get (D := D) (ci := 7) (v := .int ap) (C := RX8) (T := TX8) (N := 16) hx hb hts (fun _ h => List.mem_cons_of_mem _ (List.mem_append_right _ h)) hown hK hP 0 rfl rfl 10 (by decide) (hts (.fieldLink RX8 62 "WinterWalkModel" "at" "I") (List.mem_of_getElem? (i := 2) rfl)) (fun _ h9 => h9) rfl dX8_isRoad_16 ?_
    have k_29 := (g_X8_fails l D cI cB cQ s.heap.size h sl zs ln ir tk tb tr fz na su le fu ap pp tc nm 3 ap)
    refine wc_i (WC := [(h, .inr (7, [.ref sl, .int na, .ref zs, .ref ln, .ref ir, .ref tk, .int su, .int le, .ref tb, .int fu, .int ap, .int pp, .ref tr, .int tc, .ref fz, .int nm]))]) (WR := [(sl, .inl (cI, 1653, .inl sf)), (tb, .inl (cB, 120, .inl tbf))]) (va_runV (As := [.int 3, .int ap]) (rest := []) ⟨hx, hb, hml, hown, hts⟩ k_29 (cwV 2 hts gX8_isRoad_X8_fails rfl rfl rfl (by decide +kernel) ⟨Nat.le_of_ble_eq_true rfl, Nat.le_of_ble_eq_true rfl⟩) (wp_V hP hK hD hN [0] (by decide) rfl (ci := 7) rfl rfl) rfl rfl hl.1 rfl (lv_room (Nat.le_of_ble_eq_true rfl)) dX8_isRoad_19 ⟨Nat.le_of_ble_eq_true rfl, Nat.le_of_ble_eq_true rfl⟩) hP hD hS hA [0] [1, 2] rfl rfl (by decide) (by decide) (fun r_29 => pe2 (fun v29_0 v29_1 H locs hw_29 hP hD hS => ?_))
    clear k_29
    have hP : va_P D kl [(sl, .inl (cI, 1653, .inl sf)), (tb, .inl (cB, 120, .inl tbf)), (h, .inr (7, [.ref sl, .int na, .ref zs, .ref ln, .ref ir, .ref tk, .int su, .int le, .ref tb, .int v29_0, .int ap, .int v29_1, .ref tr, .int tc, .ref fz, .int nm]))] H := hP
    have hD : va_D A [(sl, .inl (cI, 1653, .inl sf)), (tb, .inl (cB, 120, .inl tbf)), (h, .inr (7, [.ref sl, .int na, .ref zs, .ref ln, .ref ir, .ref tk, .int su, .int le, .ref tb, .int v29_0, .int ap, .int v29_1, .ref tr, .int tc, .ref fz, .int nm]))] := hD
    have c29_0 := hw_29
    have e_29 := c29_0
    · subst e_29
      exact wr_z (v := 0) hx hb hr hlocks hS (v29_0, ap, v29_1, nm, sf) (by exact ⟨Or.inr (rfl), show 0 ≤ (ap : Int32).toInt ∧ (ap : Int32).toInt ≤ 120 from by omega, hsi⟩) (hP.sub [2, 0, 1] rfl) (hD.sub [2, 0, 1] (by decide) rfl) dX8_isRoad_22 rfl
set_option maxHeartbeats 4000000 in
set_option maxRecDepth 100000 in
theorem g_X8_isWalker (l : Launch) (D : va_G) (cI cB cQ : ClassId) (sz : Nat) (h : Nat) (sl : Nat) (zs : Nat) (ln : Nat) (ir : Nat) (tk : Nat) (tb : Nat) (tr : Nat) (fz : Nat) (na : Int32) (su : Int32) (le : Int32) (fu : Int32) (ap : Int32) (pp : Int32) (tc : Int32) (nm : Int32) (k : Int32) (sf : Nat → Int32) (tbf : Nat → Int32) (v0 : Int) (hsi : SI sf v0) (h_na : 0 ≤ na.toInt ∧ na.toInt ≤ 24) (h_le : 0 ≤ le.toInt ∧ le.toInt ≤ 120) (h_ap : 0 ≤ ap.toInt ∧ ap.toInt ≤ 120) (h_tc : 0 ≤ tc.toInt ∧ tc.toInt ≤ 16) (h_x : ap.toInt < le.toInt) : mi l yX8_isWalker wsX8_isWalker ({ frames := 2, cells := 0, slots := 0, locals := 49 }) D cI cB cQ [.ref h, .int k] sz [(h, .inr (7, [.ref sl, .int na, .ref zs, .ref ln, .ref ir, .ref tk, .int su, .int le, .ref tb, .int fu, .int ap, .int pp, .ref tr, .int tc, .ref fz, .int nm])), (sl, .inl (cI, 1653, .inl sf)), (tb, .inl (cB, 120, .inl tbf))] (fun (r : Int32) (u : Int32 × Int32 × Int32 × Int32 × (Nat → Int32)) => ((r = 1 ∧ ap.toInt < u.2.1.toInt) ∨ (r = 0)) ∧ (0 ≤ u.2.1.toInt ∧ u.2.1.toInt ≤ 120) ∧ (SI u.2.2.2.2 v0)) (fun u => [(h, .inr (7, [.ref sl, .int na, .ref zs, .ref ln, .ref ir, .ref tk, .int su, .int le, .ref tb, .int u.1, .int u.2.1, .int u.2.2.1, .ref tr, .int tc, .ref fz, .int u.2.2.2.1])), (sl, .inl (cI, 1653, .inl u.2.2.2.2)), (tb, .inl (cB, 120, .inl tbf))]) 0 0 := by
  refine wm_i (cc := cX8_isWalker) (maxL := 3) (ret := (some .boolean)) (by decide) rfl (Nat.le_of_ble_eq_true rfl) ?_
  intro p e s m below meth c A ls hx hb hr hml hown hts hlocks hin hP hK hD hN hA hl hS
  have hown : s.vm.findClass RX8 = some m.cls := hown
  have hl : lv_has ls 3 [(0, .ref h), (1, .int k)] := hl
  change W p l e ({ frames := 2, cells := 0, slots := 0, locals := 49 }) s m ([.ref h, .int k] : List Value).toArray below meth c s.heap [] 0 0 (MQ below (va_Qi (fun (r : Int32) (u : Int32 × Int32 × Int32 × Int32 × (Nat → Int32)) => ((r = 1 ∧ ap.toInt < u.2.1.toInt) ∨ (r = 0)) ∧ (0 ≤ u.2.1.toInt ∧ u.2.1.toInt ≤ 120) ∧ (SI u.2.2.2.2 v0)) (fun u t => wb D A ((fun u => [(h, .inr (7, [.ref sl, .int na, .ref zs, .ref ln, .ref ir, .ref tk, .int su, .int le, .ref tb, .int u.1, .int u.2.1, .int u.2.2.1, .ref tr, .int tc, .ref fz, .int u.2.2.2.1])), (sl, .inl (cI, 1653, .inl u.2.2.2.2)), (tb, .inl (cB, 120, .inl tbf))]) u) t) A) ([.ref h, .int k] : List Value).toArray s 0 0 A) (F0 m 0 ls [])
  refine lv_aload_n hx hb dX8_isWalker_0 rfl (lv_at hl 0 rfl) ?_
  refine va_get (D := D) (ci := 7) (v := .ref sl) (C := RX8) (T := TX8) (N := 16) hx hb hts (fun _ h => List.mem_cons_of_mem _ (List.mem_append_right _ h)) hown hK hP 0 rfl rfl 0 (by decide) (hts (.fieldLink RX8 7 "WinterWalkModel" "slot" "[I") (List.mem_of_getElem? (i := 1) rfl)) (fun _ h9 => h9) rfl dX8_isWalker_1 ?_
  refine lv_sipush (v := 1598) hx hb dX8_isWalker_4 (by decide) ?_
  refine va_iald hx hb hK hP 1 0 rfl rfl (zi_in (by decide) (by decide)) dX8_isWalker_7 ?_
  refine lv_topi (fun x_1 ex_1 => ?_)
  have f_1 : 0 ≤ x_1.toInt ∧ x_1.toInt ≤ 3 := by rw [ex_1]; exact si_w hsi (s := 28) (by decide) (by omega)
  refine lv_istore_n (lv' := [(2, .int x_1), (0, .ref h), (1, .int k)]) hx hb dX8_isWalker_8 rfl hl (by decide) rfl (fun ls hl => ?_)
  refine lv_iload_n hx hb dX8_isWalker_9 rfl (lv_at hl 0 rfl) ?_
  refine lv_iconst (v := 3) hx hb dX8_isWalker_10 (by decide) ?_
  refine lv_icmp_ne (tgt := 24) hx hb dX8_isWalker_11 (by decide) (fun c_2 => ?_) (fun c_2 => ?_)
  · have f_2 : ¬ x_1.toInt = 3 := zi_ne c_2
    refine lv_aload_n hx hb dX8_isWalker_24 rfl (lv_at hl 1 rfl) ?_
    refine lv_dup hx hb dX8_isWalker_25 rfl ?_
    refine va_get (D := D) (ci := 7) (v := .int ap) (C := RX8) (T := TX8) (N := 16) hx hb hts (fun _ h => List.mem_cons_of_mem _ (List.mem_append_right _ h)) hown hK hP 0 rfl rfl 10 (by decide) (hts (.fieldLink RX8 62 "WinterWalkModel" "at" "I") (List.mem_of_getElem? (i := 2) rfl)) (fun _ h9 => h9) rfl dX8_isWalker_26 ?_
    refine lv_iconst (v := 1) hx hb dX8_isWalker_29 (by decide) ?_
    refine lv_iadd hx hb dX8_isWalker_30 ?_
    refine lv_topi (fun x_3 ex_3 => ?_)
    have e_3 : x_3.toInt = ap.toInt + 1 := by rw [ex_3]; exact zi_add (rfl) (by decide) (by omega) (by omega)
    clear ex_3
    refine va_put (D := D) (ci := 7) (v := .int x_3) (ty := .int) (C := RX8) (T := TX8) (N := 16) hx hb hts (fun _ h => List.mem_cons_of_mem _ (List.mem_append_right _ h)) tyX8 tyX8_ok nmX8 hown hK hP hD hS 0 rfl rfl 10 (by decide) (hts (.fieldLink RX8 62 "WinterWalkModel" "at" "I") (List.mem_of_getElem? (i := 2) rfl)) (fun _ h9 => h9) rfl (by decide +kernel) rfl rfl (Nat.le_of_ble_eq_true rfl) dX8_isWalker_31 (fun H locs hP hD hS => ?_)
    have hP : va_P D kl [(h, .inr (7, [.ref sl, .int na, .ref zs, .ref ln, .ref ir, .ref tk, .int su, .int le, .ref tb, .int fu, .int x_3, .int pp, .ref tr, .int tc, .ref fz, .int nm])), (sl, .inl (cI, 1653, .inl sf)), (tb, .inl (cB, 120, .inl tbf))] H := hP
    have hD : va_D A [(h, .inr (7, [.ref sl, .int na, .ref zs, .ref ln, .ref ir, .ref tk, .int su, .int le, .ref tb, .int fu, .int x_3, .int pp, .ref tr, .int tc, .ref fz, .int nm])), (sl, .inl (cI, 1653, .inl sf)), (tb, .inl (cB, 120, .inl tbf))] := hD
    refine lv_aload_n hx hb dX8_isWalker_34 rfl (lv_at hl 1 rfl) ?_
    refine lv_iconst (v := 0) hx hb dX8_isWalker_35 (by decide) ?_
    refine lv_aload_n hx hb dX8_isWalker_36 rfl (lv_at hl 1 rfl) ?_
    refine va_get (D := D) (ci := 7) (v := .ref sl) (C := RX8) (T := TX8) (N := 16) hx hb hts (fun _ h => List.mem_cons_of_mem _ (List.mem_append_right _ h)) hown hK hP 0 rfl rfl 0 (by decide) (hts (.fieldLink RX8 7 "WinterWalkModel" "slot" "[I") (List.mem_of_getElem? (i := 1) rfl)) (fun _ h9 => h9) rfl dX8_isWalker_37 ?_
    refine lv_sipush (v := 1597) hx hb dX8_isWalker_40 (by decide) ?_
    refine va_iald hx hb hK hP 1 0 rfl rfl (zi_in (by decide) (by decide)) dX8_isWalker_43 ?_
    refine lv_topi (fun x_4 ex_4 => ?_)
    have f_4 : 0 ≤ x_4.toInt ∧ x_4.toInt ≤ 8 := by rw [ex_4]; exact si_v hsi (s := 28) (by decide) (by omega)
    refine lv_iconst (v := 1) hx hb dX8_isWalker_44 (by decide) ?_
    refine lv_isub hx hb dX8_isWalker_45 ?_
    refine lv_topi (fun x_5 ex_5 => ?_)
    have e_5 : x_5.toInt = x_4.toInt - 1 := by rw [ex_5]; exact zi_sub (rfl) (by decide) (by omega) (by omega)
    clear ex_5
    have k_6 := (g_X8_isNumber l D cI cB cQ H.size h sl zs ln ir tk tb tr fz na su le fu x_3 pp tc nm 0 x_5 tbf (by omega) (by omega) (by omega) (by omega))
    refine wc_i (WC := [(h, .inr (7, [.ref sl, .int na, .ref zs, .ref ln, .ref ir, .ref tk, .int su, .int le, .ref tb, .int fu, .int x_3, .int pp, .ref tr, .int tc, .ref fz, .int nm])), (tb, .inl (cB, 120, .inl tbf))]) (WR := [(sl, .inl (cI, 1653, .inl sf))]) (va_runV (As := [.int 0, .int x_5]) (rest := []) ⟨hx, hb, hml, hown, hts⟩ k_6 (cwV 2 hts gX8_isWalker_X8_isNumber rfl rfl rfl (by decide +kernel) ⟨Nat.le_of_ble_eq_true rfl, Nat.le_of_ble_eq_true rfl⟩) (wp_V hP hK hD hN [0, 2] (by decide) rfl (ci := 7) rfl rfl) rfl rfl hl.1 rfl (lv_room (Nat.le_of_ble_eq_true rfl)) dX8_isWalker_46 ⟨Nat.le_of_ble_eq_true rfl, Nat.le_of_ble_eq_true rfl⟩) hP hD hS hA [0, 2] [1] rfl rfl (by decide) (by decide) (fun r_6 => pe4 (fun v6_0 v6_1 v6_2 v6_3 H locs hw_6 hP hD hS => ?_))
    clear k_6
    have hP : va_P D kl [(sl, .inl (cI, 1653, .inl sf)), (h, .inr (7, [.ref sl, .int na, .ref zs, .ref ln, .ref ir, .ref tk, .int su, .int le, .ref tb, .int v6_0, .int v6_1, .int v6_2, .ref tr, .int tc, .ref fz, .int v6_3])), (tb, .inl (cB, 120, .inl tbf))] H := hP
    have hD : va_D A [(sl, .inl (cI, 1653, .inl sf)), (h, .inr (7, [.ref sl, .int na, .ref zs, .ref ln, .ref ir, .ref tk, .int su, .int le, .ref tb, .int v6_0, .int v6_1, .int v6_2, .ref tr, .int tc, .ref fz, .int v6_3])), (tb, .inl (cB, 120, .inl tbf))] := hD
    obtain ⟨c6_0, c6_1, c6_2⟩ := hw_6
    have c6_1 : x_3.toInt ≤ v6_1.toInt := c6_1
    have c6_2 : 0 ≤ v6_1.toInt ∧ v6_1.toInt ≤ 120 := c6_2
    rcases c6_0 with ⟨e_6, f_6⟩ | e_6
    · subst e_6
      have f_6 : (0 : Int) ≤ v6_3.toInt ∧ v6_3.toInt ≤ x_5.toInt := f_6
      refine lv_if_ne (tgt := 54) hx hb dX8_isWalker_49 (by decide) (fun _ => ?_) (fun c9 => absurd c9 (by decide))
      refine lv_aload_n hx hb dX8_isWalker_54 rfl (lv_at hl 1 rfl) ?_
      refine va_get (D := D) (ci := 7) (v := .ref sl) (C := RX8) (T := TX8) (N := 16) hx hb hts (fun _ h => List.mem_cons_of_mem _ (List.mem_append_right _ h)) hown hK hP 1 rfl rfl 0 (by decide) (hts (.fieldLink RX8 7 "WinterWalkModel" "slot" "[I") (List.mem_of_getElem? (i := 1) rfl)) (fun _ h9 => h9) rfl dX8_isWalker_55 ?_
      refine lv_sipush (v := 1616) hx hb dX8_isWalker_58 (by decide) ?_
      refine lv_iload_n hx hb dX8_isWalker_61 rfl (lv_at hl 0 rfl) ?_
      refine lv_iadd hx hb dX8_isWalker_62 ?_
      refine lv_topi (fun x_7 ex_7 => ?_)
      have e_7 : x_7.toInt = 1616 + x_1.toInt := by rw [ex_7]; exact zi_add (by decide) (rfl) (by omega) (by omega)
      clear ex_7
      refine lv_iload_n hx hb dX8_isWalker_63 rfl (lv_at hl 2 rfl) ?_
      have k_8 := (g_X8_sortOf l D cI cB cQ H.size k)
      refine wc_i (WC := []) (WR := [(sl, .inl (cI, 1653, .inl sf)), (h, .inr (7, [.ref sl, .int na, .ref zs, .ref ln, .ref ir, .ref tk, .int su, .int le, .ref tb, .int v6_0, .int v6_1, .int v6_2, .ref tr, .int tc, .ref fz, .int v6_3])), (tb, .inl (cB, 120, .inl tbf))]) (va_runS (As := [.int k]) (rest := [.int x_7, .ref sl]) ⟨hx, hb, hml, hown, hts⟩ k_8 (va_cwS 1 hts gX8_isWalker_X8_sortOf rfl rfl rfl (by decide +kernel) ⟨Nat.le_of_ble_eq_true rfl, Nat.le_of_ble_eq_true rfl⟩) (wp_S hP hK hD hN [] (by decide) rfl) rfl rfl hl.1 rfl (lv_room (Nat.le_of_ble_eq_true rfl)) dX8_isWalker_64 ⟨Nat.le_of_ble_eq_true rfl, Nat.le_of_ble_eq_true rfl⟩) hP hD hS hA [] [0, 1, 2] rfl rfl (by decide) (by decide) (fun r_8 u_8 H locs hw_8 hP hD hS => ?_)
      clear k_8
      have hP : va_P D kl [(sl, .inl (cI, 1653, .inl sf)), (h, .inr (7, [.ref sl, .int na, .ref zs, .ref ln, .ref ir, .ref tk, .int su, .int le, .ref tb, .int v6_0, .int v6_1, .int v6_2, .ref tr, .int tc, .ref fz, .int v6_3])), (tb, .inl (cB, 120, .inl tbf))] H := hP
      have hD : va_D A [(sl, .inl (cI, 1653, .inl sf)), (h, .inr (7, [.ref sl, .int na, .ref zs, .ref ln, .ref ir, .ref tk, .int su, .int le, .ref tb, .int v6_0, .int v6_1, .int v6_2, .ref tr, .int tc, .ref fz, .int v6_3])), (tb, .inl (cB, 120, .inl tbf))] := hD
      have c8_0 := hw_8
      have c8_0 : (0 ≤ r_8.toInt ∧ r_8.toInt ≤ 5) ∧ (r_8.toInt = 0 ∨ 0 ≤ k.toInt) := c8_0
      refine va_iast hx hb hK hP hD hS 0 0 rfl rfl (zi_in (by omega) (by omega)) dX8_isWalker_67 (fun H locs hP hD hS => ?_)
      have hP : va_P D kl [(sl, .inl (cI, 1653, .inl (upd sf (x_7 : Int32).toNatClampNeg r_8))), (h, .inr (7, [.ref sl, .int na, .ref zs, .ref ln, .ref ir, .ref tk, .int su, .int le, .ref tb, .int v6_0, .int v6_1, .int v6_2, .ref tr, .int tc, .ref fz, .int v6_3])), (tb, .inl (cB, 120, .inl tbf))] H := hP
      have hD : va_D A [(sl, .inl (cI, 1653, .inl (upd sf (x_7 : Int32).toNatClampNeg r_8))), (h, .inr (7, [.ref sl, .int na, .ref zs, .ref ln, .ref ir, .ref tk, .int su, .int le, .ref tb, .int v6_0, .int v6_1, .int v6_2, .ref tr, .int tc, .ref fz, .int v6_3])), (tb, .inl (cB, 120, .inl tbf))] := hD
      have ha_9 : SI (upd sf (x_7 : Int32).toNatClampNeg r_8) v0 := si_up hsi (by omega) (fun s0 a0 b0 e0 => by omega) (fun s0 a0 b0 e0 => by omega) (fun s0 k0 a0 b0 c0 d0 e0 => by omega) (by omega)
      refine lv_aload_n hx hb dX8_isWalker_68 rfl (lv_at hl 1 rfl) ?_
      refine va_get (D := D) (ci := 7) (v := .ref sl) (C := RX8) (T := TX8) (N := 16) hx hb hts (fun _ h => List.mem_cons_of_mem _ (List.mem_append_right _ h)) hown hK hP 1 rfl rfl 0 (by decide) (hts (.fieldLink RX8 7 "WinterWalkModel" "slot" "[I") (List.mem_of_getElem? (i := 1) rfl)) (fun _ h9 => h9) rfl dX8_isWalker_69 ?_
      refine lv_sipush (v := 1644) hx hb dX8_isWalker_72 (by decide) ?_
      refine lv_iload_n hx hb dX8_isWalker_75 rfl (lv_at hl 0 rfl) ?_
      refine lv_iadd hx hb dX8_isWalker_76 ?_
      refine lv_topi (fun x_10 ex_10 => ?_)
      have e_10 : x_10.toInt = 1644 + x_1.toInt := by rw [ex_10]; exact zi_add (by decide) (rfl) (by omega) (by omega)
      clear ex_10
      refine lv_aload_n hx hb dX8_isWalker_77 rfl (lv_at hl 1 rfl) ?_
      refine va_get (D := D) (ci := 7) (v := .int v6_3) (C := RX8) (T := TX8) (N := 16) hx hb hts (fun _ h => List.mem_cons_of_mem _ (List.mem_append_right _ h)) hown hK hP 1 rfl rfl 15 (by decide) (hts (.fieldLink RX8 83 "WinterWalkModel" "number" "I") (List.mem_of_getElem? (i := 3) rfl)) (fun _ h9 => h9) rfl dX8_isWalker_78 ?_
      refine va_iast hx hb hK hP hD hS 0 0 rfl rfl (zi_in (by omega) (by omega)) dX8_isWalker_81 (fun H locs hP hD hS => ?_)
      have hP : va_P D kl [(sl, .inl (cI, 1653, .inl (upd (upd sf (x_7 : Int32).toNatClampNeg r_8) (x_10 : Int32).toNatClampNeg v6_3))), (h, .inr (7, [.ref sl, .int na, .ref zs, .ref ln, .ref ir, .ref tk, .int su, .int le, .ref tb, .int v6_0, .int v6_1, .int v6_2, .ref tr, .int tc, .ref fz, .int v6_3])), (tb, .inl (cB, 120, .inl tbf))] H := hP
      have hD : va_D A [(sl, .inl (cI, 1653, .inl (upd (upd sf (x_7 : Int32).toNatClampNeg r_8) (x_10 : Int32).toNatClampNeg v6_3))), (h, .inr (7, [.ref sl, .int na, .ref zs, .ref ln, .ref ir, .ref tk, .int su, .int le, .ref tb, .int v6_0, .int v6_1, .int v6_2, .ref tr, .int tc, .ref fz, .int v6_3])), (tb, .inl (cB, 120, .inl tbf))] := hD
      have ha_11 : SI (upd (upd sf (x_7 : Int32).toNatClampNeg r_8) (x_10 : Int32).toNatClampNeg v6_3) v0 := si_up ha_9 (by omega) (fun s0 a0 b0 e0 => by omega) (fun s0 a0 b0 e0 => by omega) (fun s0 k0 a0 b0 c0 d0 e0 => by omega) (by omega)
      refine lv_aload_n hx hb dX8_isWalker_82 rfl (lv_at hl 1 rfl) ?_
      refine va_get (D := D) (ci := 7) (v := .ref sl) (C := RX8) (T := TX8) (N := 16) hx hb hts (fun _ h => List.mem_cons_of_mem _ (List.mem_append_right _ h)) hown hK hP 1 rfl rfl 0 (by decide) (hts (.fieldLink RX8 7 "WinterWalkModel" "slot" "[I") (List.mem_of_getElem? (i := 1) rfl)) (fun _ h9 => h9) rfl dX8_isWalker_83 ?_
      refine lv_sipush (v := 1647) hx hb dX8_isWalker_86 (by decide) ?_
      refine lv_iload_n hx hb dX8_isWalker_89 rfl (lv_at hl 0 rfl) ?_
      refine lv_iadd hx hb dX8_isWalker_90 ?_
      refine lv_topi (fun x_12 ex_12 => ?_)
      have e_12 : x_12.toInt = 1647 + x_1.toInt := by rw [ex_12]; exact zi_add (by decide) (rfl) (by omega) (by omega)
      clear ex_12
      refine lv_ldc (v := (-1000000)) hx hb hown (hts (.constant RX8 99 (-1000000)) (List.mem_of_getElem? (i := 4) rfl)) dX8_isWalker_91 ?_
      refine va_iast hx hb hK hP hD hS 0 0 rfl rfl (zi_in (by omega) (by omega)) dX8_isWalker_93 (fun H locs hP hD hS => ?_)
      have hP : va_P D kl [(sl, .inl (cI, 1653, .inl (upd (upd (upd sf (x_7 : Int32).toNatClampNeg r_8) (x_10 : Int32).toNatClampNeg v6_3) (x_12 : Int32).toNatClampNeg (-1000000)))), (h, .inr (7, [.ref sl, .int na, .ref zs, .ref ln, .ref ir, .ref tk, .int su, .int le, .ref tb, .int v6_0, .int v6_1, .int v6_2, .ref tr, .int tc, .ref fz, .int v6_3])), (tb, .inl (cB, 120, .inl tbf))] H := hP
      have hD : va_D A [(sl, .inl (cI, 1653, .inl (upd (upd (upd sf (x_7 : Int32).toNatClampNeg r_8) (x_10 : Int32).toNatClampNeg v6_3) (x_12 : Int32).toNatClampNeg (-1000000)))), (h, .inr (7, [.ref sl, .int na, .ref zs, .ref ln, .ref ir, .ref tk, .int su, .int le, .ref tb, .int v6_0, .int v6_1, .int v6_2, .ref tr, .int tc, .ref fz, .int v6_3])), (tb, .inl (cB, 120, .inl tbf))] := hD
      have ha_13 : SI (upd (upd (upd sf (x_7 : Int32).toNatClampNeg r_8) (x_10 : Int32).toNatClampNeg v6_3) (x_12 : Int32).toNatClampNeg (-1000000)) v0 := si_up ha_11 (by omega) (fun s0 a0 b0 e0 => by first | decide | omega) (fun s0 a0 b0 e0 => by first | decide | omega) (fun s0 k0 a0 b0 c0 d0 e0 => by first | decide | omega) (by omega)
      refine lv_aload_n hx hb dX8_isWalker_94 rfl (lv_at hl 1 rfl) ?_
      refine va_get (D := D) (ci := 7) (v := .ref sl) (C := RX8) (T := TX8) (N := 16) hx hb hts (fun _ h => List.mem_cons_of_mem _ (List.mem_append_right _ h)) hown hK hP 1 rfl rfl 0 (by decide) (hts (.fieldLink RX8 7 "WinterWalkModel" "slot" "[I") (List.mem_of_getElem? (i := 1) rfl)) (fun _ h9 => h9) rfl dX8_isWalker_95 ?_
      refine lv_sipush (v := 1598) hx hb dX8_isWalker_98 (by decide) ?_
      refine lv_dup2_11 hx hb dX8_isWalker_101 rfl rfl ?_
      refine va_iald hx hb hK hP 0 0 rfl rfl (zi_in (by decide) (by decide)) dX8_isWalker_102 ?_
      refine lv_topi (fun x_14 ex_14 => ?_)
      have f_14 : 0 ≤ x_14.toInt ∧ x_14.toInt ≤ 3 := by rw [ex_14]; exact si_w ha_13 (s := 28) (by decide) (by omega)
      have g_14 : x_14.toInt = x_1.toInt := by have hk0 : (1598 : Int32).toInt = 1598 := (by decide); rw [ex_14, zu_ne (by omega) (by omega) (by omega), zu_ne (by omega) (by omega) (by omega), zu_ne (by omega) (by omega) (by omega), ex_1]
      clear ex_14
      refine lv_iconst (v := 1) hx hb dX8_isWalker_103 (by decide) ?_
      refine lv_iadd hx hb dX8_isWalker_104 ?_
      refine lv_topi (fun x_15 ex_15 => ?_)
      have e_15 : x_15.toInt = x_14.toInt + 1 := by rw [ex_15]; exact zi_add (rfl) (by decide) (by omega) (by omega)
      clear ex_15
      refine va_iast hx hb hK hP hD hS 0 0 rfl rfl (zi_in (by decide) (by decide)) dX8_isWalker_105 (fun H locs hP hD hS => ?_)
      have hP : va_P D kl [(sl, .inl (cI, 1653, .inl (upd (upd (upd (upd sf (x_7 : Int32).toNatClampNeg r_8) (x_10 : Int32).toNatClampNeg v6_3) (x_12 : Int32).toNatClampNeg (-1000000)) (1598 : Int32).toNatClampNeg x_15))), (h, .inr (7, [.ref sl, .int na, .ref zs, .ref ln, .ref ir, .ref tk, .int su, .int le, .ref tb, .int v6_0, .int v6_1, .int v6_2, .ref tr, .int tc, .ref fz, .int v6_3])), (tb, .inl (cB, 120, .inl tbf))] H := hP
      have hD : va_D A [(sl, .inl (cI, 1653, .inl (upd (upd (upd (upd sf (x_7 : Int32).toNatClampNeg r_8) (x_10 : Int32).toNatClampNeg v6_3) (x_12 : Int32).toNatClampNeg (-1000000)) (1598 : Int32).toNatClampNeg x_15))), (h, .inr (7, [.ref sl, .int na, .ref zs, .ref ln, .ref ir, .ref tk, .int su, .int le, .ref tb, .int v6_0, .int v6_1, .int v6_2, .ref tr, .int tc, .ref fz, .int v6_3])), (tb, .inl (cB, 120, .inl tbf))] := hD
      have hq_16 : (1598 : Int32).toInt = 1598 := by decide
      have ha_16 : SI (upd (upd (upd (upd sf (x_7 : Int32).toNatClampNeg r_8) (x_10 : Int32).toNatClampNeg v6_3) (x_12 : Int32).toNatClampNeg (-1000000)) (1598 : Int32).toNatClampNeg x_15) v0 := si_up ha_13 (by omega) (fun s0 a0 b0 e0 => by omega) (fun s0 a0 b0 e0 => by omega) (fun s0 k0 a0 b0 c0 d0 e0 => by omega) (by omega)
      refine lv_aload_n hx hb dX8_isWalker_106 rfl (lv_at hl 1 rfl) ?_
      refine lv_bipush (v := 59) hx hb dX8_isWalker_107 (by decide) ?_
      have k_17 := (g_X8_isSign l D cI cB cQ H.size h sl zs ln ir tk tb tr fz na su le v6_0 v6_1 v6_2 tc v6_3 59 tbf (by omega) (by omega) (by omega) (by omega) ⟨by decide, by decide⟩)
      refine wc_i (WC := [(h, .inr (7, [.ref sl, .int na, .ref zs, .ref ln, .ref ir, .ref tk, .int su, .int le, .ref tb, .int v6_0, .int v6_1, .int v6_2, .ref tr, .int tc, .ref fz, .int v6_3])), (tb, .inl (cB, 120, .inl tbf))]) (WR := [(sl, .inl (cI, 1653, .inl (upd (upd (upd (upd sf (x_7 : Int32).toNatClampNeg r_8) (x_10 : Int32).toNatClampNeg v6_3) (x_12 : Int32).toNatClampNeg (-1000000)) (1598 : Int32).toNatClampNeg x_15)))]) (va_runV (As := [.int 59]) (rest := []) ⟨hx, hb, hml, hown, hts⟩ k_17 (cwV 1 hts gX8_isWalker_X8_isSign rfl rfl rfl (by decide +kernel) ⟨Nat.le_of_ble_eq_true rfl, Nat.le_of_ble_eq_true rfl⟩) (wp_V hP hK hD hN [1, 2] (by decide) rfl (ci := 7) rfl rfl) rfl rfl hl.1 rfl (lv_room (Nat.le_of_ble_eq_true rfl)) dX8_isWalker_109 ⟨Nat.le_of_ble_eq_true rfl, Nat.le_of_ble_eq_true rfl⟩) hP hD hS hA [1, 2] [0] rfl rfl (by decide) (by decide) (fun r_17 => pe3 (fun v17_0 v17_1 v17_2 H locs hw_17 hP hD hS => ?_))
      clear k_17
      have hP : va_P D kl [(sl, .inl (cI, 1653, .inl (upd (upd (upd (upd sf (x_7 : Int32).toNatClampNeg r_8) (x_10 : Int32).toNatClampNeg v6_3) (x_12 : Int32).toNatClampNeg (-1000000)) (1598 : Int32).toNatClampNeg x_15))), (h, .inr (7, [.ref sl, .int na, .ref zs, .ref ln, .ref ir, .ref tk, .int su, .int le, .ref tb, .int v17_0, .int v17_1, .int v17_2, .ref tr, .int tc, .ref fz, .int v6_3])), (tb, .inl (cB, 120, .inl tbf))] H := hP
      have hD : va_D A [(sl, .inl (cI, 1653, .inl (upd (upd (upd (upd sf (x_7 : Int32).toNatClampNeg r_8) (x_10 : Int32).toNatClampNeg v6_3) (x_12 : Int32).toNatClampNeg (-1000000)) (1598 : Int32).toNatClampNeg x_15))), (h, .inr (7, [.ref sl, .int na, .ref zs, .ref ln, .ref ir, .ref tk, .int su, .int le, .ref tb, .int v17_0, .int v17_1, .int v17_2, .ref tr, .int tc, .ref fz, .int v6_3])), (tb, .inl (cB, 120, .inl tbf))] := hD
      obtain ⟨c17_0, c17_1, c17_2⟩ := hw_17
      have c17_1 : v6_1.toInt ≤ v17_1.toInt := c17_1
      have c17_2 : 0 ≤ v17_1.toInt ∧ v17_1.toInt ≤ 120 := c17_2
      rcases c17_0 with e_17 | e_17
      · subst e_17
        exact wr_z (v := 1) hx hb hr hlocks hS (v17_0, v17_1, v17_2, v6_3, (upd (upd (upd (upd sf (x_7 : Int32).toNatClampNeg r_8) (x_10 : Int32).toNatClampNeg v6_3) (x_12 : Int32).toNatClampNeg (-1000000)) (1598 : Int32).toNatClampNeg x_15)) (by exact ⟨Or.inl ⟨rfl, show ap.toInt < v17_1.toInt from by omega⟩, show 0 ≤ (v17_1 : Int32).toInt ∧ (v17_1 : Int32).toInt ≤ 120 from by omega, ha_16⟩) (hP.sub [1, 0, 2] rfl) (hD.sub [1, 0, 2] (by decide) rfl) dX8_isWalker_112 rfl
      · subst e_17
        exact wr_z (v := 0) hx hb hr hlocks hS (v17_0, v17_1, v17_2, v6_3, (upd (upd (upd (upd sf (x_7 : Int32).toNatClampNeg r_8) (x_10 : Int32).toNatClampNeg v6_3) (x_12 : Int32).toNatClampNeg (-1000000)) (1598 : Int32).toNatClampNeg x_15)) (by exact ⟨Or.inr (rfl), show 0 ≤ (v17_1 : Int32).toInt ∧ (v17_1 : Int32).toInt ≤ 120 from by omega, ha_16⟩) (hP.sub [1, 0, 2] rfl) (hD.sub [1, 0, 2] (by decide) rfl) dX8_isWalker_112 rfl
    · subst e_6
      refine lv_if_ne (tgt := 54) hx hb dX8_isWalker_49 (by decide) (fun c9 => absurd (by decide) c9) (fun _ => ?_)
      refine lv_iconst (v := 0) hx hb dX8_isWalker_52 (by decide) ?_
      exact wr_z (v := 0) hx hb hr hlocks hS (v6_0, v6_1, v6_2, v6_3, sf) (by exact ⟨Or.inr (rfl), show 0 ≤ (v6_1 : Int32).toInt ∧ (v6_1 : Int32).toInt ≤ 120 from by omega, hsi⟩) (hP.sub [1, 0, 2] rfl) (hD.sub [1, 0, 2] (by decide) rfl) dX8_isWalker_53 rfl
  · have f_2 : x_1.toInt = 3 := zi_eq c_2
    refine lv_aload_n hx hb dX8_isWalker_14 rfl (lv_at hl 1 rfl) ?_
    refine lv_iconst (v := 3) hx hb dX8_isWalker_15 (by decide) ?_
    refine lv_aload_n hx hb dX8_isWalker_16 rfl (lv_at hl 1 rfl) ?_
    refine va_get (D := D) (ci := 7) (v := .int ap) (C := RX8) (T := TX8) (N := 16) hx hb hts (fun _ h => List.mem_cons_of_mem _ (List.mem_append_right _ h)) hown hK hP 0 rfl rfl 10 (by decide) (hts (.fieldLink RX8 62 "WinterWalkModel" "at" "I") (List.mem_of_getElem? (i := 2) rfl)) (fun _ h9 => h9) rfl dX8_isWalker_17 ?_
    have k_18 := (g_X8_fails l D cI cB cQ s.heap.size h sl zs ln ir tk tb tr fz na su le fu ap pp tc nm 3 ap)
    refine wc_i (WC := [(h, .inr (7, [.ref sl, .int na, .ref zs, .ref ln, .ref ir, .ref tk, .int su, .int le, .ref tb, .int fu, .int ap, .int pp, .ref tr, .int tc, .ref fz, .int nm]))]) (WR := [(sl, .inl (cI, 1653, .inl sf)), (tb, .inl (cB, 120, .inl tbf))]) (va_runV (As := [.int 3, .int ap]) (rest := []) ⟨hx, hb, hml, hown, hts⟩ k_18 (cwV 2 hts gX8_isWalker_X8_fails rfl rfl rfl (by decide +kernel) ⟨Nat.le_of_ble_eq_true rfl, Nat.le_of_ble_eq_true rfl⟩) (wp_V hP hK hD hN [0] (by decide) rfl (ci := 7) rfl rfl) rfl rfl hl.1 rfl (lv_room (Nat.le_of_ble_eq_true rfl)) dX8_isWalker_20 ⟨Nat.le_of_ble_eq_true rfl, Nat.le_of_ble_eq_true rfl⟩) hP hD hS hA [0] [1, 2] rfl rfl (by decide) (by decide) (fun r_18 => pe2 (fun v18_0 v18_1 H locs hw_18 hP hD hS => ?_))
    clear k_18
    have hP : va_P D kl [(sl, .inl (cI, 1653, .inl sf)), (tb, .inl (cB, 120, .inl tbf)), (h, .inr (7, [.ref sl, .int na, .ref zs, .ref ln, .ref ir, .ref tk, .int su, .int le, .ref tb, .int v18_0, .int ap, .int v18_1, .ref tr, .int tc, .ref fz, .int nm]))] H := hP
    have hD : va_D A [(sl, .inl (cI, 1653, .inl sf)), (tb, .inl (cB, 120, .inl tbf)), (h, .inr (7, [.ref sl, .int na, .ref zs, .ref ln, .ref ir, .ref tk, .int su, .int le, .ref tb, .int v18_0, .int ap, .int v18_1, .ref tr, .int tc, .ref fz, .int nm]))] := hD
    have c18_0 := hw_18
    have e_18 := c18_0
    · subst e_18
      exact wr_z (v := 0) hx hb hr hlocks hS (v18_0, ap, v18_1, nm, sf) (by exact ⟨Or.inr (rfl), show 0 ≤ (ap : Int32).toInt ∧ (ap : Int32).toInt ≤ 120 from by omega, hsi⟩) (hP.sub [2, 0, 1] rfl) (hD.sub [2, 0, 1] (by decide) rfl) dX8_isWalker_23 rfl
set_option maxHeartbeats 4000000 in
set_option maxRecDepth 100000 in
theorem g_X8_isLand (l : Launch) (D : va_G) (cI cB cQ : ClassId) (sz : Nat) (h : Nat) (sl : Nat) (zs : Nat) (ln : Nat) (ir : Nat) (tk : Nat) (tb : Nat) (tr : Nat) (fz : Nat) (na : Int32) (su : Int32) (le : Int32) (fu : Int32) (ap : Int32) (pp : Int32) (tc : Int32) (nm : Int32) (sf : Nat → Int32) (tbf : Nat → Int32) (v0 : Int) (hsi : SI sf v0) (h_na : 0 ≤ na.toInt ∧ na.toInt ≤ 24) (h_le : 0 ≤ le.toInt ∧ le.toInt ≤ 120) (h_ap : 0 ≤ ap.toInt ∧ ap.toInt ≤ 120) (h_tc : 0 ≤ tc.toInt ∧ tc.toInt ≤ 16) : mi l yX8_isLand wsX8_isLand ({ frames := 3, cells := 0, slots := 0, locals := 73 }) D cI cB cQ [.ref h] sz [(h, .inr (7, [.ref sl, .int na, .ref zs, .ref ln, .ref ir, .ref tk, .int su, .int le, .ref tb, .int fu, .int ap, .int pp, .ref tr, .int tc, .ref fz, .int nm])), (sl, .inl (cI, 1653, .inl sf)), (tb, .inl (cB, 120, .inl tbf))] (fun (r : Int32) (u : Int32 × Int32 × Int32 × Int32 × (Nat → Int32)) => ((r = 1) ∨ (r = 0)) ∧ (0 ≤ u.2.1.toInt ∧ u.2.1.toInt ≤ 120) ∧ (SI u.2.2.2.2 v0)) (fun u => [(h, .inr (7, [.ref sl, .int na, .ref zs, .ref ln, .ref ir, .ref tk, .int su, .int le, .ref tb, .int u.1, .int u.2.1, .int u.2.2.1, .ref tr, .int tc, .ref fz, .int u.2.2.2.1])), (sl, .inl (cI, 1653, .inl u.2.2.2.2)), (tb, .inl (cB, 120, .inl tbf))]) 0 0 := by
  refine wm_i (cc := cX8_isLand) (maxL := 5) (ret := (some .boolean)) (by decide) rfl (Nat.le_of_ble_eq_true rfl) ?_
  intro p e s m below meth c A ls hx hb hr hml hown hts hlocks hin hP hK hD hN hA hl hS
  have hown : s.vm.findClass RX8 = some m.cls := hown
  have hl : lv_has ls 5 [(0, .ref h)] := hl
  change W p l e ({ frames := 3, cells := 0, slots := 0, locals := 73 }) s m ([.ref h] : List Value).toArray below meth c s.heap [] 0 0 (MQ below (va_Qi (fun (r : Int32) (u : Int32 × Int32 × Int32 × Int32 × (Nat → Int32)) => ((r = 1) ∨ (r = 0)) ∧ (0 ≤ u.2.1.toInt ∧ u.2.1.toInt ≤ 120) ∧ (SI u.2.2.2.2 v0)) (fun u t => wb D A ((fun u => [(h, .inr (7, [.ref sl, .int na, .ref zs, .ref ln, .ref ir, .ref tk, .int su, .int le, .ref tb, .int u.1, .int u.2.1, .int u.2.2.1, .ref tr, .int tc, .ref fz, .int u.2.2.2.1])), (sl, .inl (cI, 1653, .inl u.2.2.2.2)), (tb, .inl (cB, 120, .inl tbf))]) u) t) A) ([.ref h] : List Value).toArray s 0 0 A) (F0 m 0 ls [])
  refine lv_aload_n hx hb dX8_isLand_0 rfl (lv_at hl 0 rfl) ?_
  refine lv_iconst (v := 0) hx hb dX8_isLand_1 (by decide) ?_
  refine va_put (D := D) (ci := 7) (v := .int 0) (ty := .int) (C := RX8) (T := TX8) (N := 16) hx hb hts (fun _ h => List.mem_cons_of_mem _ (List.mem_append_right _ h)) tyX8 tyX8_ok nmX8 hown hK hP hD hS 0 rfl rfl 10 (by decide) (hts (.fieldLink RX8 62 "WinterWalkModel" "at" "I") (List.mem_of_getElem? (i := 1) rfl)) (fun _ h9 => h9) rfl (by decide +kernel) rfl rfl (Nat.le_of_ble_eq_true rfl) dX8_isLand_2 (fun H locs hP hD hS => ?_)
  have hP : va_P D kl [(h, .inr (7, [.ref sl, .int na, .ref zs, .ref ln, .ref ir, .ref tk, .int su, .int le, .ref tb, .int fu, .int 0, .int pp, .ref tr, .int tc, .ref fz, .int nm])), (sl, .inl (cI, 1653, .inl sf)), (tb, .inl (cB, 120, .inl tbf))] H := hP
  have hD : va_D A [(h, .inr (7, [.ref sl, .int na, .ref zs, .ref ln, .ref ir, .ref tk, .int su, .int le, .ref tb, .int fu, .int 0, .int pp, .ref tr, .int tc, .ref fz, .int nm])), (sl, .inl (cI, 1653, .inl sf)), (tb, .inl (cB, 120, .inl tbf))] := hD
  refine lv_iconst (v := 0) hx hb dX8_isLand_5 (by decide) ?_
  refine lv_istore_n (lv' := [(1, .int 0), (0, .ref h)]) hx hb dX8_isLand_6 rfl hl (by decide) rfl (fun ls hl => ?_)
  have hL7 : ∀ (nf : Nat) (t1_c7 : Int32) (g0_c7 : Nat → Int32) (H : Heap) (locs : List Loc) (ls : Array Slot), (0 ≤ t1_c7.toInt ∧ t1_c7.toInt ≤ 57) → (SI g0_c7 v0) → (57 - t1_c7.toInt).toNat < nf → va_P D kl [(h, .inr (7, [.ref sl, .int na, .ref zs, .ref ln, .ref ir, .ref tk, .int su, .int le, .ref tb, .int fu, .int 0, .int pp, .ref tr, .int tc, .ref fz, .int nm])), (sl, .inl (cI, 1653, .inl g0_c7)), (tb, .inl (cB, 120, .inl tbf))] H → va_D A [(h, .inr (7, [.ref sl, .int na, .ref zs, .ref ln, .ref ir, .ref tk, .int su, .int le, .ref tb, .int fu, .int 0, .int pp, .ref tr, .int tc, .ref fz, .int nm])), (sl, .inl (cI, 1653, .inl g0_c7)), (tb, .inl (cB, 120, .inl tbf))] → va_S A s.heap H locs → lv_has ls 5 [(1, .int t1_c7), (0, .ref h)] → W p l e ({ frames := 3, cells := 0, slots := 0, locals := 73 }) s m ([.ref h] : List Value).toArray below meth c H locs 0 0 (MQ below (va_Qi (fun (r : Int32) (u : Int32 × Int32 × Int32 × Int32 × (Nat → Int32)) => ((r = 1) ∨ (r = 0)) ∧ (0 ≤ u.2.1.toInt ∧ u.2.1.toInt ≤ 120) ∧ (SI u.2.2.2.2 v0)) (fun u t => wb D A ((fun u => [(h, .inr (7, [.ref sl, .int na, .ref zs, .ref ln, .ref ir, .ref tk, .int su, .int le, .ref tb, .int u.1, .int u.2.1, .int u.2.2.1, .ref tr, .int tc, .ref fz, .int u.2.2.2.1])), (sl, .inl (cI, 1653, .inl u.2.2.2.2)), (tb, .inl (cB, 120, .inl tbf))]) u) t) A) ([.ref h] : List Value).toArray s 0 0 A) (F0 m 7 ls []) := by
    intro nf
    induction nf with
    | zero =>
      intro t1_c7 g0_c7 H locs ls i_t1_c7 ha_g0_c7 hm
      exact absurd hm (Nat.not_lt_zero _)
    | succ nf ih7 =>
      intro t1_c7 g0_c7 H locs ls i_t1_c7 ha_g0_c7 hm7 hP hD hS hl
      refine lv_iload_n hx hb dX8_isLand_7 rfl (lv_at hl 0 rfl) ?_
      refine lv_bipush (v := 57) hx hb dX8_isLand_8 (by decide) ?_
      refine lv_icmp_ge (tgt := 30) hx hb dX8_isLand_10 (by decide) (fun c_1 => ?_) (fun c_1 => ?_)
      · have f_1 : 57 ≤ t1_c7.toInt := zi_le c_1
        refine lv_aload_n hx hb dX8_isLand_30 rfl (lv_at hl 1 rfl) ?_
        refine lv_bipush (v := 102) hx hb dX8_isLand_31 (by decide) ?_
        have k_2 := (g_X8_isSign l D cI cB cQ H.size h sl zs ln ir tk tb tr fz na su le fu 0 pp tc nm 102 tbf (by omega) (by omega) ⟨by decide, by decide⟩ (by omega) ⟨by decide, by decide⟩)
        refine wc_i (WC := [(h, .inr (7, [.ref sl, .int na, .ref zs, .ref ln, .ref ir, .ref tk, .int su, .int le, .ref tb, .int fu, .int 0, .int pp, .ref tr, .int tc, .ref fz, .int nm])), (tb, .inl (cB, 120, .inl tbf))]) (WR := [(sl, .inl (cI, 1653, .inl g0_c7))]) (va_runV (As := [.int 102]) (rest := []) ⟨hx, hb, hml, hown, hts⟩ k_2 (cwV 1 hts gX8_isLand_X8_isSign rfl rfl rfl (by decide +kernel) ⟨Nat.le_of_ble_eq_true rfl, Nat.le_of_ble_eq_true rfl⟩) (wp_V hP hK hD hN [0, 2] (by decide) rfl (ci := 7) rfl rfl) rfl rfl hl.1 rfl (lv_room (Nat.le_of_ble_eq_true rfl)) dX8_isLand_33 ⟨Nat.le_of_ble_eq_true rfl, Nat.le_of_ble_eq_true rfl⟩) hP hD hS hA [0, 2] [1] rfl rfl (by decide) (by decide) (fun r_2 => pe3 (fun v2_0 v2_1 v2_2 H locs hw_2 hP hD hS => ?_))
        clear k_2
        have hP : va_P D kl [(sl, .inl (cI, 1653, .inl g0_c7)), (h, .inr (7, [.ref sl, .int na, .ref zs, .ref ln, .ref ir, .ref tk, .int su, .int le, .ref tb, .int v2_0, .int v2_1, .int v2_2, .ref tr, .int tc, .ref fz, .int nm])), (tb, .inl (cB, 120, .inl tbf))] H := hP
        have hD : va_D A [(sl, .inl (cI, 1653, .inl g0_c7)), (h, .inr (7, [.ref sl, .int na, .ref zs, .ref ln, .ref ir, .ref tk, .int su, .int le, .ref tb, .int v2_0, .int v2_1, .int v2_2, .ref tr, .int tc, .ref fz, .int nm])), (tb, .inl (cB, 120, .inl tbf))] := hD
        obtain ⟨c2_0, c2_1, c2_2⟩ := hw_2
        have c2_1 : (0 : Int) ≤ v2_1.toInt := c2_1
        have c2_2 : 0 ≤ v2_1.toInt ∧ v2_1.toInt ≤ 120 := c2_2
        rcases c2_0 with e_2 | e_2
        · subst e_2
          refine lv_if_eq (tgt := 49) hx hb dX8_isLand_36 (by decide) (fun c9 => absurd c9 (by decide)) (fun _ => ?_)
          refine lv_aload_n hx hb dX8_isLand_39 rfl (lv_at hl 1 rfl) ?_
          refine lv_iconst (v := 1) hx hb dX8_isLand_40 (by decide) ?_
          refine lv_bipush (v := 9) hx hb dX8_isLand_41 (by decide) ?_
          have k_3 := (g_X8_isNumber l D cI cB cQ H.size h sl zs ln ir tk tb tr fz na su le v2_0 v2_1 v2_2 tc nm 1 9 tbf (by omega) (by omega) (by omega) (by omega))
          refine wc_i (WC := [(h, .inr (7, [.ref sl, .int na, .ref zs, .ref ln, .ref ir, .ref tk, .int su, .int le, .ref tb, .int v2_0, .int v2_1, .int v2_2, .ref tr, .int tc, .ref fz, .int nm])), (tb, .inl (cB, 120, .inl tbf))]) (WR := [(sl, .inl (cI, 1653, .inl g0_c7))]) (va_runV (As := [.int 1, .int 9]) (rest := []) ⟨hx, hb, hml, hown, hts⟩ k_3 (cwV 2 hts gX8_isLand_X8_isNumber rfl rfl rfl (by decide +kernel) ⟨Nat.le_of_ble_eq_true rfl, Nat.le_of_ble_eq_true rfl⟩) (wp_V hP hK hD hN [1, 2] (by decide) rfl (ci := 7) rfl rfl) rfl rfl hl.1 rfl (lv_room (Nat.le_of_ble_eq_true rfl)) dX8_isLand_43 ⟨Nat.le_of_ble_eq_true rfl, Nat.le_of_ble_eq_true rfl⟩) hP hD hS hA [1, 2] [0] rfl rfl (by decide) (by decide) (fun r_3 => pe4 (fun v3_0 v3_1 v3_2 v3_3 H locs hw_3 hP hD hS => ?_))
          clear k_3
          have hP : va_P D kl [(sl, .inl (cI, 1653, .inl g0_c7)), (h, .inr (7, [.ref sl, .int na, .ref zs, .ref ln, .ref ir, .ref tk, .int su, .int le, .ref tb, .int v3_0, .int v3_1, .int v3_2, .ref tr, .int tc, .ref fz, .int v3_3])), (tb, .inl (cB, 120, .inl tbf))] H := hP
          have hD : va_D A [(sl, .inl (cI, 1653, .inl g0_c7)), (h, .inr (7, [.ref sl, .int na, .ref zs, .ref ln, .ref ir, .ref tk, .int su, .int le, .ref tb, .int v3_0, .int v3_1, .int v3_2, .ref tr, .int tc, .ref fz, .int v3_3])), (tb, .inl (cB, 120, .inl tbf))] := hD
          obtain ⟨c3_0, c3_1, c3_2⟩ := hw_3
          have c3_1 : v2_1.toInt ≤ v3_1.toInt := c3_1
          have c3_2 : 0 ≤ v3_1.toInt ∧ v3_1.toInt ≤ 120 := c3_2
          rcases c3_0 with ⟨e_3, f_3⟩ | e_3
          · subst e_3
            have f_3 : (1 : Int) ≤ v3_3.toInt ∧ v3_3.toInt ≤ (9 : Int) := f_3
            refine lv_if_ne (tgt := 51) hx hb dX8_isLand_46 (by decide) (fun _ => ?_) (fun c9 => absurd c9 (by decide))
            refine lv_aload_n hx hb dX8_isLand_51 rfl (lv_at hl 1 rfl) ?_
            refine va_get (D := D) (ci := 7) (v := .ref sl) (C := RX8) (T := TX8) (N := 16) hx hb hts (fun _ h => List.mem_cons_of_mem _ (List.mem_append_right _ h)) hown hK hP 1 rfl rfl 0 (by decide) (hts (.fieldLink RX8 7 "WinterWalkModel" "slot" "[I") (List.mem_of_getElem? (i := 2) rfl)) (fun _ h9 => h9) rfl dX8_isLand_52 ?_
            refine lv_sipush (v := 1596) hx hb dX8_isLand_55 (by decide) ?_
            refine lv_aload_n hx hb dX8_isLand_58 rfl (lv_at hl 1 rfl) ?_
            refine va_get (D := D) (ci := 7) (v := .int v3_3) (C := RX8) (T := TX8) (N := 16) hx hb hts (fun _ h => List.mem_cons_of_mem _ (List.mem_append_right _ h)) hown hK hP 1 rfl rfl 15 (by decide) (hts (.fieldLink RX8 83 "WinterWalkModel" "number" "I") (List.mem_of_getElem? (i := 3) rfl)) (fun _ h9 => h9) rfl dX8_isLand_59 ?_
            refine va_iast hx hb hK hP hD hS 0 0 rfl rfl (zi_in (by decide) (by decide)) dX8_isLand_62 (fun H locs hP hD hS => ?_)
            have hP : va_P D kl [(sl, .inl (cI, 1653, .inl (upd g0_c7 (1596 : Int32).toNatClampNeg v3_3))), (h, .inr (7, [.ref sl, .int na, .ref zs, .ref ln, .ref ir, .ref tk, .int su, .int le, .ref tb, .int v3_0, .int v3_1, .int v3_2, .ref tr, .int tc, .ref fz, .int v3_3])), (tb, .inl (cB, 120, .inl tbf))] H := hP
            have hD : va_D A [(sl, .inl (cI, 1653, .inl (upd g0_c7 (1596 : Int32).toNatClampNeg v3_3))), (h, .inr (7, [.ref sl, .int na, .ref zs, .ref ln, .ref ir, .ref tk, .int su, .int le, .ref tb, .int v3_0, .int v3_1, .int v3_2, .ref tr, .int tc, .ref fz, .int v3_3])), (tb, .inl (cB, 120, .inl tbf))] := hD
            have hq_4 : (1596 : Int32).toInt = 1596 := by decide
            have ha_4 : SI (upd g0_c7 (1596 : Int32).toNatClampNeg v3_3) v0 := si_up ha_g0_c7 (by omega) (fun s0 a0 b0 e0 => by omega) (fun s0 a0 b0 e0 => by omega) (fun s0 k0 a0 b0 c0 d0 e0 => by omega) (by omega)
            refine lv_aload_n hx hb dX8_isLand_63 rfl (lv_at hl 1 rfl) ?_
            refine lv_bipush (v := 59) hx hb dX8_isLand_64 (by decide) ?_
            have k_5 := (g_X8_isSign l D cI cB cQ H.size h sl zs ln ir tk tb tr fz na su le v3_0 v3_1 v3_2 tc v3_3 59 tbf (by omega) (by omega) (by omega) (by omega) ⟨by decide, by decide⟩)
            refine wc_i (WC := [(h, .inr (7, [.ref sl, .int na, .ref zs, .ref ln, .ref ir, .ref tk, .int su, .int le, .ref tb, .int v3_0, .int v3_1, .int v3_2, .ref tr, .int tc, .ref fz, .int v3_3])), (tb, .inl (cB, 120, .inl tbf))]) (WR := [(sl, .inl (cI, 1653, .inl (upd g0_c7 (1596 : Int32).toNatClampNeg v3_3)))]) (va_runV (As := [.int 59]) (rest := []) ⟨hx, hb, hml, hown, hts⟩ k_5 (cwV 1 hts gX8_isLand_X8_isSign rfl rfl rfl (by decide +kernel) ⟨Nat.le_of_ble_eq_true rfl, Nat.le_of_ble_eq_true rfl⟩) (wp_V hP hK hD hN [1, 2] (by decide) rfl (ci := 7) rfl rfl) rfl rfl hl.1 rfl (lv_room (Nat.le_of_ble_eq_true rfl)) dX8_isLand_66 ⟨Nat.le_of_ble_eq_true rfl, Nat.le_of_ble_eq_true rfl⟩) hP hD hS hA [1, 2] [0] rfl rfl (by decide) (by decide) (fun r_5 => pe3 (fun v5_0 v5_1 v5_2 H locs hw_5 hP hD hS => ?_))
            clear k_5
            have hP : va_P D kl [(sl, .inl (cI, 1653, .inl (upd g0_c7 (1596 : Int32).toNatClampNeg v3_3))), (h, .inr (7, [.ref sl, .int na, .ref zs, .ref ln, .ref ir, .ref tk, .int su, .int le, .ref tb, .int v5_0, .int v5_1, .int v5_2, .ref tr, .int tc, .ref fz, .int v3_3])), (tb, .inl (cB, 120, .inl tbf))] H := hP
            have hD : va_D A [(sl, .inl (cI, 1653, .inl (upd g0_c7 (1596 : Int32).toNatClampNeg v3_3))), (h, .inr (7, [.ref sl, .int na, .ref zs, .ref ln, .ref ir, .ref tk, .int su, .int le, .ref tb, .int v5_0, .int v5_1, .int v5_2, .ref tr, .int tc, .ref fz, .int v3_3])), (tb, .inl (cB, 120, .inl tbf))] := hD
            obtain ⟨c5_0, c5_1, c5_2⟩ := hw_5
            have c5_1 : v3_1.toInt ≤ v5_1.toInt := c5_1
            have c5_2 : 0 ≤ v5_1.toInt ∧ v5_1.toInt ≤ 120 := c5_2
            rcases c5_0 with e_5 | e_5
            · subst e_5
              refine lv_if_ne (tgt := 74) hx hb dX8_isLand_69 (by decide) (fun _ => ?_) (fun c9 => absurd c9 (by decide))
              refine lv_iconst (v := 0) hx hb dX8_isLand_74 (by decide) ?_
              refine lv_istore_n (lv' := [(1, .int 0), (0, .ref h)]) hx hb dX8_isLand_75 rfl hl (by decide) rfl (fun ls hl => ?_)
              have hL76 : ∀ (nf : Nat) (t1_c76 : Int32) (g0_c76 : Int32) (g1_c76 : Int32) (g2_c76 : Int32) (g3_c76 : Int32) (g4_c76 : Nat → Int32) (H : Heap) (locs : List Loc) (ls : Array Slot), (0 ≤ g1_c76.toInt ∧ g1_c76.toInt ≤ 120) → (SI g4_c76 v0) → (120 - g1_c76.toInt).toNat < nf → va_P D kl [(sl, .inl (cI, 1653, .inl g4_c76)), (h, .inr (7, [.ref sl, .int na, .ref zs, .ref ln, .ref ir, .ref tk, .int su, .int le, .ref tb, .int g0_c76, .int g1_c76, .int g2_c76, .ref tr, .int tc, .ref fz, .int g3_c76])), (tb, .inl (cB, 120, .inl tbf))] H → va_D A [(sl, .inl (cI, 1653, .inl g4_c76)), (h, .inr (7, [.ref sl, .int na, .ref zs, .ref ln, .ref ir, .ref tk, .int su, .int le, .ref tb, .int g0_c76, .int g1_c76, .int g2_c76, .ref tr, .int tc, .ref fz, .int g3_c76])), (tb, .inl (cB, 120, .inl tbf))] → va_S A s.heap H locs → lv_has ls 5 [(1, .int t1_c76), (0, .ref h)] → W p l e ({ frames := 3, cells := 0, slots := 0, locals := 73 }) s m ([.ref h] : List Value).toArray below meth c H locs 0 0 (MQ below (va_Qi (fun (r : Int32) (u : Int32 × Int32 × Int32 × Int32 × (Nat → Int32)) => ((r = 1) ∨ (r = 0)) ∧ (0 ≤ u.2.1.toInt ∧ u.2.1.toInt ≤ 120) ∧ (SI u.2.2.2.2 v0)) (fun u t => wb D A ((fun u => [(h, .inr (7, [.ref sl, .int na, .ref zs, .ref ln, .ref ir, .ref tk, .int su, .int le, .ref tb, .int u.1, .int u.2.1, .int u.2.2.1, .ref tr, .int tc, .ref fz, .int u.2.2.2.1])), (sl, .inl (cI, 1653, .inl u.2.2.2.2)), (tb, .inl (cB, 120, .inl tbf))]) u) t) A) ([.ref h] : List Value).toArray s 0 0 A) (F0 m 76 ls []) := by
                intro nf
                induction nf with
                | zero =>
                  intro t1_c76 g0_c76 g1_c76 g2_c76 g3_c76 g4_c76 H locs ls i_g1_c76 ha_g4_c76 hm
                  exact absurd hm (Nat.not_lt_zero _)
                | succ nf ih76 =>
                  intro t1_c76 g0_c76 g1_c76 g2_c76 g3_c76 g4_c76 H locs ls i_g1_c76 ha_g4_c76 hm76 hP hD hS hl
                  refine lv_aload_n hx hb dX8_isLand_76 rfl (lv_at hl 1 rfl) ?_
                  refine va_get (D := D) (ci := 7) (v := .int g1_c76) (C := RX8) (T := TX8) (N := 16) hx hb hts (fun _ h => List.mem_cons_of_mem _ (List.mem_append_right _ h)) hown hK hP 1 rfl rfl 10 (by decide) (hts (.fieldLink RX8 62 "WinterWalkModel" "at" "I") (List.mem_of_getElem? (i := 1) rfl)) (fun _ h9 => h9) rfl dX8_isLand_77 ?_
                  refine lv_aload_n hx hb dX8_isLand_80 rfl (lv_at hl 1 rfl) ?_
                  refine va_get (D := D) (ci := 7) (v := .int le) (C := RX8) (T := TX8) (N := 16) hx hb hts (fun _ h => List.mem_cons_of_mem _ (List.mem_append_right _ h)) hown hK hP 1 rfl rfl 7 (by decide) (hts (.fieldLink RX8 58 "WinterWalkModel" "length" "I") (List.mem_of_getElem? (i := 4) rfl)) (fun _ h9 => h9) rfl dX8_isLand_81 ?_
                  refine lv_icmp_lt (tgt := 98) hx hb dX8_isLand_84 (by decide) (fun c_6 => ?_) (fun c_6 => ?_)
                  · have f_6 : g1_c76.toInt < le.toInt := zi_lt c_6
                    refine lv_aload_n hx hb dX8_isLand_98 rfl (lv_at hl 1 rfl) ?_
                    have k_7 := (g_X8_next l D cI cB cQ H.size h sl zs ln ir tk tb tr fz na su le g0_c76 g1_c76 g2_c76 tc g3_c76 tbf (by omega) (by omega) (by omega) (by omega))
                    refine wc_i (WC := [(h, .inr (7, [.ref sl, .int na, .ref zs, .ref ln, .ref ir, .ref tk, .int su, .int le, .ref tb, .int g0_c76, .int g1_c76, .int g2_c76, .ref tr, .int tc, .ref fz, .int g3_c76])), (tb, .inl (cB, 120, .inl tbf))]) (WR := [(sl, .inl (cI, 1653, .inl g4_c76))]) (va_runV (As := []) (rest := []) ⟨hx, hb, hml, hown, hts⟩ k_7 (cwV 0 hts gX8_isLand_X8_next rfl rfl rfl (by decide +kernel) ⟨Nat.le_of_ble_eq_true rfl, Nat.le_of_ble_eq_true rfl⟩) (wp_V hP hK hD hN [1, 2] (by decide) rfl (ci := 7) rfl rfl) rfl rfl hl.1 rfl (lv_room (Nat.le_of_ble_eq_true rfl)) dX8_isLand_99 ⟨Nat.le_of_ble_eq_true rfl, Nat.le_of_ble_eq_true rfl⟩) hP hD hS hA [1, 2] [0] rfl rfl (by decide) (by decide) (fun r_7 u_7 H locs hw_7 hP hD hS => ?_)
                    clear k_7
                    have hP : va_P D kl [(sl, .inl (cI, 1653, .inl g4_c76)), (h, .inr (7, [.ref sl, .int na, .ref zs, .ref ln, .ref ir, .ref tk, .int su, .int le, .ref tb, .int g0_c76, .int g1_c76, .int g2_c76, .ref tr, .int tc, .ref fz, .int g3_c76])), (tb, .inl (cB, 120, .inl tbf))] H := hP
                    have hD : va_D A [(sl, .inl (cI, 1653, .inl g4_c76)), (h, .inr (7, [.ref sl, .int na, .ref zs, .ref ln, .ref ir, .ref tk, .int su, .int le, .ref tb, .int g0_c76, .int g1_c76, .int g2_c76, .ref tr, .int tc, .ref fz, .int g3_c76])), (tb, .inl (cB, 120, .inl tbf))] := hD
                    have c7_0 := hw_7
                    have c7_0 : r_7.toInt = (-1) ∨ g1_c76.toInt < le.toInt := c7_0
                    refine lv_istore_n (lv' := [(2, .int r_7), (1, .int t1_c76), (0, .ref h)]) hx hb dX8_isLand_102 rfl hl (by decide) rfl (fun ls hl => ?_)
                    refine lv_iload_n hx hb dX8_isLand_103 rfl (lv_at hl 0 rfl) ?_
                    have k_8 := (g_X8_sortOf l D cI cB cQ H.size r_7)
                    refine wc_i (WC := []) (WR := [(sl, .inl (cI, 1653, .inl g4_c76)), (h, .inr (7, [.ref sl, .int na, .ref zs, .ref ln, .ref ir, .ref tk, .int su, .int le, .ref tb, .int g0_c76, .int g1_c76, .int g2_c76, .ref tr, .int tc, .ref fz, .int g3_c76])), (tb, .inl (cB, 120, .inl tbf))]) (va_runS (As := [.int r_7]) (rest := []) ⟨hx, hb, hml, hown, hts⟩ k_8 (va_cwS 1 hts gX8_isLand_X8_sortOf rfl rfl rfl (by decide +kernel) ⟨Nat.le_of_ble_eq_true rfl, Nat.le_of_ble_eq_true rfl⟩) (wp_S hP hK hD hN [] (by decide) rfl) rfl rfl hl.1 rfl (lv_room (Nat.le_of_ble_eq_true rfl)) dX8_isLand_104 ⟨Nat.le_of_ble_eq_true rfl, Nat.le_of_ble_eq_true rfl⟩) hP hD hS hA [] [0, 1, 2] rfl rfl (by decide) (by decide) (fun r_8 u_8 H locs hw_8 hP hD hS => ?_)
                    clear k_8
                    have hP : va_P D kl [(sl, .inl (cI, 1653, .inl g4_c76)), (h, .inr (7, [.ref sl, .int na, .ref zs, .ref ln, .ref ir, .ref tk, .int su, .int le, .ref tb, .int g0_c76, .int g1_c76, .int g2_c76, .ref tr, .int tc, .ref fz, .int g3_c76])), (tb, .inl (cB, 120, .inl tbf))] H := hP
                    have hD : va_D A [(sl, .inl (cI, 1653, .inl g4_c76)), (h, .inr (7, [.ref sl, .int na, .ref zs, .ref ln, .ref ir, .ref tk, .int su, .int le, .ref tb, .int g0_c76, .int g1_c76, .int g2_c76, .ref tr, .int tc, .ref fz, .int g3_c76])), (tb, .inl (cB, 120, .inl tbf))] := hD
                    have c8_0 := hw_8
                    have c8_0 : (0 ≤ r_8.toInt ∧ r_8.toInt ≤ 5) ∧ (r_8.toInt = 0 ∨ 0 ≤ r_7.toInt) := c8_0
                    refine lv_istore_n (lv' := [(3, .int r_8), (2, .int r_7), (1, .int t1_c76), (0, .ref h)]) hx hb dX8_isLand_107 rfl hl (by decide) rfl (fun ls hl => ?_)
                    refine lv_iload_n hx hb dX8_isLand_108 rfl (lv_at hl 1 rfl) ?_
                    refine lv_bipush (v := 103) hx hb dX8_isLand_109 (by decide) ?_
                    refine lv_icmp_eq (tgt := 120) hx hb dX8_isLand_111 (by decide) (fun c_9 => ?_) (fun c_9 => ?_)
                    · have f_9 : r_7.toInt = 103 := zi_eq c_9
                      refine lv_iload_n hx hb dX8_isLand_120 rfl (lv_at hl 2 rfl) ?_
                      refine lv_if_ne (tgt := 134) hx hb dX8_isLand_121 (by decide) (fun c_10 => ?_) (fun c_10 => ?_)
                      · have f_10 : ¬ t1_c76.toInt = 0 := zi_ne c_10
                        refine lv_iload_n hx hb dX8_isLand_134 rfl (lv_at hl 1 rfl) ?_
                        refine lv_bipush (v := 114) hx hb dX8_isLand_135 (by decide) ?_
                        refine lv_icmp_ne (tgt := 167) hx hb dX8_isLand_137 (by decide) (fun c_11 => ?_) (fun c_11 => ?_)
                        · have f_11 : ¬ r_7.toInt = 114 := zi_ne c_11
                          refine lv_iload_n hx hb dX8_isLand_167 rfl (lv_at hl 0 rfl) ?_
                          refine lv_if_le (tgt := 194) hx hb dX8_isLand_168 (by decide) (fun c_12 => ?_) (fun c_12 => ?_)
                          · have f_12 : r_8.toInt ≤ 0 := zi_le c_12
                            refine lv_aload_n hx hb dX8_isLand_194 rfl (lv_at hl 3 rfl) ?_
                            refine lv_iconst (v := 1) hx hb dX8_isLand_195 (by decide) ?_
                            refine lv_aload_n hx hb dX8_isLand_196 rfl (lv_at hl 3 rfl) ?_
                            refine va_get (D := D) (ci := 7) (v := .int g1_c76) (C := RX8) (T := TX8) (N := 16) hx hb hts (fun _ h => List.mem_cons_of_mem _ (List.mem_append_right _ h)) hown hK hP 1 rfl rfl 10 (by decide) (hts (.fieldLink RX8 62 "WinterWalkModel" "at" "I") (List.mem_of_getElem? (i := 1) rfl)) (fun _ h9 => h9) rfl dX8_isLand_197 ?_
                            have k_13 := (g_X8_fails l D cI cB cQ H.size h sl zs ln ir tk tb tr fz na su le g0_c76 g1_c76 g2_c76 tc g3_c76 1 g1_c76)
                            refine wc_i (WC := [(h, .inr (7, [.ref sl, .int na, .ref zs, .ref ln, .ref ir, .ref tk, .int su, .int le, .ref tb, .int g0_c76, .int g1_c76, .int g2_c76, .ref tr, .int tc, .ref fz, .int g3_c76]))]) (WR := [(sl, .inl (cI, 1653, .inl g4_c76)), (tb, .inl (cB, 120, .inl tbf))]) (va_runV (As := [.int 1, .int g1_c76]) (rest := []) ⟨hx, hb, hml, hown, hts⟩ k_13 (cwV 2 hts gX8_isLand_X8_fails rfl rfl rfl (by decide +kernel) ⟨Nat.le_of_ble_eq_true rfl, Nat.le_of_ble_eq_true rfl⟩) (wp_V hP hK hD hN [1] (by decide) rfl (ci := 7) rfl rfl) rfl rfl hl.1 rfl (lv_room (Nat.le_of_ble_eq_true rfl)) dX8_isLand_200 ⟨Nat.le_of_ble_eq_true rfl, Nat.le_of_ble_eq_true rfl⟩) hP hD hS hA [1] [0, 2] rfl rfl (by decide) (by decide) (fun r_13 => pe2 (fun v13_0 v13_1 H locs hw_13 hP hD hS => ?_))
                            clear k_13
                            have hP : va_P D kl [(sl, .inl (cI, 1653, .inl g4_c76)), (tb, .inl (cB, 120, .inl tbf)), (h, .inr (7, [.ref sl, .int na, .ref zs, .ref ln, .ref ir, .ref tk, .int su, .int le, .ref tb, .int v13_0, .int g1_c76, .int v13_1, .ref tr, .int tc, .ref fz, .int g3_c76]))] H := hP
                            have hD : va_D A [(sl, .inl (cI, 1653, .inl g4_c76)), (tb, .inl (cB, 120, .inl tbf)), (h, .inr (7, [.ref sl, .int na, .ref zs, .ref ln, .ref ir, .ref tk, .int su, .int le, .ref tb, .int v13_0, .int g1_c76, .int v13_1, .ref tr, .int tc, .ref fz, .int g3_c76]))] := hD
                            have c13_0 := hw_13
                            have e_13 := c13_0
                            · subst e_13
                              refine lv_istore (lv' := [(4, .int 0), (3, .int r_8), (2, .int r_7), (1, .int t1_c76), (0, .ref h)]) hx hb dX8_isLand_203 hl (by decide) rfl (fun ls hl => ?_)
                              refine lv_iload hx hb dX8_isLand_205 (lv_at hl 0 rfl) ?_
                              refine lv_if_ne (tgt := 212) hx hb dX8_isLand_207 (by decide) (fun c9 => absurd (by decide) c9) (fun _ => ?_)
                              refine lv_iconst (v := 0) hx hb dX8_isLand_210 (by decide) ?_
                              exact wr_z (v := 0) hx hb hr hlocks hS (v13_0, g1_c76, v13_1, g3_c76, g4_c76) (by exact ⟨Or.inr (rfl), show 0 ≤ (g1_c76 : Int32).toInt ∧ (g1_c76 : Int32).toInt ≤ 120 from by omega, ha_g4_c76⟩) (hP.sub [2, 0, 1] rfl) (hD.sub [2, 0, 1] (by decide) rfl) dX8_isLand_211 rfl
                          · have f_12 : ¬ r_8.toInt ≤ 0 := zi_nle c_12
                            refine lv_aload_n hx hb dX8_isLand_171 rfl (lv_at hl 3 rfl) ?_
                            refine va_get (D := D) (ci := 7) (v := .ref sl) (C := RX8) (T := TX8) (N := 16) hx hb hts (fun _ h => List.mem_cons_of_mem _ (List.mem_append_right _ h)) hown hK hP 1 rfl rfl 0 (by decide) (hts (.fieldLink RX8 7 "WinterWalkModel" "slot" "[I") (List.mem_of_getElem? (i := 2) rfl)) (fun _ h9 => h9) rfl dX8_isLand_172 ?_
                            refine lv_sipush (v := 1597) hx hb dX8_isLand_175 (by decide) ?_
                            refine va_iald hx hb hK hP 0 0 rfl rfl (zi_in (by decide) (by decide)) dX8_isLand_178 ?_
                            refine lv_topi (fun x_14 ex_14 => ?_)
                            have f_14 : 0 ≤ x_14.toInt ∧ x_14.toInt ≤ 8 := by rw [ex_14]; exact si_v ha_g4_c76 (s := 28) (by decide) (by omega)
                            refine lv_if_le (tgt := 194) hx hb dX8_isLand_179 (by decide) (fun c_15 => ?_) (fun c_15 => ?_)
                            · have f_15 : x_14.toInt ≤ 0 := zi_le c_15
                              refine lv_aload_n hx hb dX8_isLand_194 rfl (lv_at hl 3 rfl) ?_
                              refine lv_iconst (v := 1) hx hb dX8_isLand_195 (by decide) ?_
                              refine lv_aload_n hx hb dX8_isLand_196 rfl (lv_at hl 3 rfl) ?_
                              refine va_get (D := D) (ci := 7) (v := .int g1_c76) (C := RX8) (T := TX8) (N := 16) hx hb hts (fun _ h => List.mem_cons_of_mem _ (List.mem_append_right _ h)) hown hK hP 1 rfl rfl 10 (by decide) (hts (.fieldLink RX8 62 "WinterWalkModel" "at" "I") (List.mem_of_getElem? (i := 1) rfl)) (fun _ h9 => h9) rfl dX8_isLand_197 ?_
                              have k_16 := (g_X8_fails l D cI cB cQ H.size h sl zs ln ir tk tb tr fz na su le g0_c76 g1_c76 g2_c76 tc g3_c76 1 g1_c76)
                              refine wc_i (WC := [(h, .inr (7, [.ref sl, .int na, .ref zs, .ref ln, .ref ir, .ref tk, .int su, .int le, .ref tb, .int g0_c76, .int g1_c76, .int g2_c76, .ref tr, .int tc, .ref fz, .int g3_c76]))]) (WR := [(sl, .inl (cI, 1653, .inl g4_c76)), (tb, .inl (cB, 120, .inl tbf))]) (va_runV (As := [.int 1, .int g1_c76]) (rest := []) ⟨hx, hb, hml, hown, hts⟩ k_16 (cwV 2 hts gX8_isLand_X8_fails rfl rfl rfl (by decide +kernel) ⟨Nat.le_of_ble_eq_true rfl, Nat.le_of_ble_eq_true rfl⟩) (wp_V hP hK hD hN [1] (by decide) rfl (ci := 7) rfl rfl) rfl rfl hl.1 rfl (lv_room (Nat.le_of_ble_eq_true rfl)) dX8_isLand_200 ⟨Nat.le_of_ble_eq_true rfl, Nat.le_of_ble_eq_true rfl⟩) hP hD hS hA [1] [0, 2] rfl rfl (by decide) (by decide) (fun r_16 => pe2 (fun v16_0 v16_1 H locs hw_16 hP hD hS => ?_))
                              clear k_16
                              have hP : va_P D kl [(sl, .inl (cI, 1653, .inl g4_c76)), (tb, .inl (cB, 120, .inl tbf)), (h, .inr (7, [.ref sl, .int na, .ref zs, .ref ln, .ref ir, .ref tk, .int su, .int le, .ref tb, .int v16_0, .int g1_c76, .int v16_1, .ref tr, .int tc, .ref fz, .int g3_c76]))] H := hP
                              have hD : va_D A [(sl, .inl (cI, 1653, .inl g4_c76)), (tb, .inl (cB, 120, .inl tbf)), (h, .inr (7, [.ref sl, .int na, .ref zs, .ref ln, .ref ir, .ref tk, .int su, .int le, .ref tb, .int v16_0, .int g1_c76, .int v16_1, .ref tr, .int tc, .ref fz, .int g3_c76]))] := hD
                              have c16_0 := hw_16
                              have e_16 := c16_0
                              · subst e_16
                                refine lv_istore (lv' := [(4, .int 0), (3, .int r_8), (2, .int r_7), (1, .int t1_c76), (0, .ref h)]) hx hb dX8_isLand_203 hl (by decide) rfl (fun ls hl => ?_)
                                refine lv_iload hx hb dX8_isLand_205 (lv_at hl 0 rfl) ?_
                                refine lv_if_ne (tgt := 212) hx hb dX8_isLand_207 (by decide) (fun c9 => absurd (by decide) c9) (fun _ => ?_)
                                refine lv_iconst (v := 0) hx hb dX8_isLand_210 (by decide) ?_
                                exact wr_z (v := 0) hx hb hr hlocks hS (v16_0, g1_c76, v16_1, g3_c76, g4_c76) (by exact ⟨Or.inr (rfl), show 0 ≤ (g1_c76 : Int32).toInt ∧ (g1_c76 : Int32).toInt ≤ 120 from by omega, ha_g4_c76⟩) (hP.sub [2, 0, 1] rfl) (hD.sub [2, 0, 1] (by decide) rfl) dX8_isLand_211 rfl
                            · have f_15 : ¬ x_14.toInt ≤ 0 := zi_nle c_15
                              refine lv_iconst (v := 2) hx hb dX8_isLand_182 (by decide) ?_
                              refine lv_istore_n (lv' := [(1, .int 2), (3, .int r_8), (2, .int r_7), (0, .ref h)]) hx hb dX8_isLand_183 rfl hl (by decide) rfl (fun ls hl => ?_)
                              refine lv_aload_n hx hb dX8_isLand_184 rfl (lv_at hl 3 rfl) ?_
                              refine lv_iload_n hx hb dX8_isLand_185 rfl (lv_at hl 2 rfl) ?_
                              have k_17 := (g_X8_isWalker l D cI cB cQ H.size h sl zs ln ir tk tb tr fz na su le g0_c76 g1_c76 g2_c76 tc g3_c76 r_7 g4_c76 tbf v0 ha_g4_c76 (by omega) (by omega) (by omega) (by omega) (by omega))
                              refine wc_i (WC := [(h, .inr (7, [.ref sl, .int na, .ref zs, .ref ln, .ref ir, .ref tk, .int su, .int le, .ref tb, .int g0_c76, .int g1_c76, .int g2_c76, .ref tr, .int tc, .ref fz, .int g3_c76])), (sl, .inl (cI, 1653, .inl g4_c76)), (tb, .inl (cB, 120, .inl tbf))]) (WR := []) (va_runV (As := [.int r_7]) (rest := []) ⟨hx, hb, hml, hown, hts⟩ k_17 (cwV 1 hts gX8_isLand_X8_isWalker rfl rfl rfl (by decide +kernel) ⟨Nat.le_of_ble_eq_true rfl, Nat.le_of_ble_eq_true rfl⟩) (wp_V hP hK hD hN [1, 0, 2] (by decide) rfl (ci := 7) rfl rfl) rfl rfl hl.1 rfl (lv_room (Nat.le_of_ble_eq_true rfl)) dX8_isLand_186 ⟨Nat.le_of_ble_eq_true rfl, Nat.le_of_ble_eq_true rfl⟩) hP hD hS hA [1, 0, 2] [] rfl rfl (by decide) (by decide) (fun r_17 => pe5 (fun v17_0 v17_1 v17_2 v17_3 v17_4 H locs hw_17 hP hD hS => ?_))
                              clear k_17
                              have hP : va_P D kl [(h, .inr (7, [.ref sl, .int na, .ref zs, .ref ln, .ref ir, .ref tk, .int su, .int le, .ref tb, .int v17_0, .int v17_1, .int v17_2, .ref tr, .int tc, .ref fz, .int v17_3])), (sl, .inl (cI, 1653, .inl v17_4)), (tb, .inl (cB, 120, .inl tbf))] H := hP
                              have hD : va_D A [(h, .inr (7, [.ref sl, .int na, .ref zs, .ref ln, .ref ir, .ref tk, .int su, .int le, .ref tb, .int v17_0, .int v17_1, .int v17_2, .ref tr, .int tc, .ref fz, .int v17_3])), (sl, .inl (cI, 1653, .inl v17_4)), (tb, .inl (cB, 120, .inl tbf))] := hD
                              obtain ⟨c17_0, c17_1, c17_2⟩ := hw_17
                              have c17_1 : 0 ≤ v17_1.toInt ∧ v17_1.toInt ≤ 120 := c17_1
                              have c17_2 : SI v17_4 v0 := c17_2
                              rcases c17_0 with ⟨e_17, f_17⟩ | e_17
                              · subst e_17
                                have f_17 : g1_c76.toInt < v17_1.toInt := f_17
                                refine lv_istore (lv' := [(4, .int 1), (1, .int 2), (3, .int r_8), (2, .int r_7), (0, .ref h)]) hx hb dX8_isLand_189 hl (by decide) rfl (fun ls hl => ?_)
                                refine lv_goto (tgt := 205) hx hb dX8_isLand_191 (by decide) ?_
                                refine lv_iload hx hb dX8_isLand_205 (lv_at hl 0 rfl) ?_
                                refine lv_if_ne (tgt := 212) hx hb dX8_isLand_207 (by decide) (fun _ => ?_) (fun c9 => absurd c9 (by decide))
                                refine lv_goto (tgt := 76) hx hb dX8_isLand_212 (by decide) ?_
                                exact ih76 2 v17_0 v17_1 v17_2 v17_3 v17_4 _ _ _ (show 0 ≤ v17_1.toInt ∧ v17_1.toInt ≤ 120 from by omega) c17_2 (by omega) (hP.sub [1, 0, 2] rfl) (hD.sub [1, 0, 2] (by decide) rfl) hS (lv_sub hl [1, 4] rfl)
                              · subst e_17
                                refine lv_istore (lv' := [(4, .int 0), (1, .int 2), (3, .int r_8), (2, .int r_7), (0, .ref h)]) hx hb dX8_isLand_189 hl (by decide) rfl (fun ls hl => ?_)
                                refine lv_goto (tgt := 205) hx hb dX8_isLand_191 (by decide) ?_
                                refine lv_iload hx hb dX8_isLand_205 (lv_at hl 0 rfl) ?_
                                refine lv_if_ne (tgt := 212) hx hb dX8_isLand_207 (by decide) (fun c9 => absurd (by decide) c9) (fun _ => ?_)
                                refine lv_iconst (v := 0) hx hb dX8_isLand_210 (by decide) ?_
                                exact wr_z (v := 0) hx hb hr hlocks hS (v17_0, v17_1, v17_2, v17_3, v17_4) (by exact ⟨Or.inr (rfl), show 0 ≤ (v17_1 : Int32).toInt ∧ (v17_1 : Int32).toInt ≤ 120 from by omega, c17_2⟩) (hP.sub [0, 1, 2] rfl) (hD.sub [0, 1, 2] (by decide) rfl) dX8_isLand_211 rfl
                        · have f_11 : r_7.toInt = 114 := zi_eq c_11
                          exfalso; omega
                      · have f_10 : t1_c76.toInt = 0 := zi_eq c_10
                        refine lv_aload_n hx hb dX8_isLand_124 rfl (lv_at hl 3 rfl) ?_
                        refine lv_iload_n hx hb dX8_isLand_125 rfl (lv_at hl 1 rfl) ?_
                        have k_18 := (g_X8_isVillage l D cI cB cQ H.size h sl zs ln ir tk tb tr fz na su le g0_c76 g1_c76 g2_c76 tc g3_c76 r_7 g4_c76 tbf v0 ha_g4_c76 (by omega) (by omega) (by omega) (by omega) (by omega))
                        refine wc_i (WC := [(h, .inr (7, [.ref sl, .int na, .ref zs, .ref ln, .ref ir, .ref tk, .int su, .int le, .ref tb, .int g0_c76, .int g1_c76, .int g2_c76, .ref tr, .int tc, .ref fz, .int g3_c76])), (sl, .inl (cI, 1653, .inl g4_c76)), (tb, .inl (cB, 120, .inl tbf))]) (WR := []) (va_runV (As := [.int r_7]) (rest := []) ⟨hx, hb, hml, hown, hts⟩ k_18 (cwV 1 hts gX8_isLand_X8_isVillage rfl rfl rfl (by decide +kernel) ⟨Nat.le_of_ble_eq_true rfl, Nat.le_of_ble_eq_true rfl⟩) (wp_V hP hK hD hN [1, 0, 2] (by decide) rfl (ci := 7) rfl rfl) rfl rfl hl.1 rfl (lv_room (Nat.le_of_ble_eq_true rfl)) dX8_isLand_126 ⟨Nat.le_of_ble_eq_true rfl, Nat.le_of_ble_eq_true rfl⟩) hP hD hS hA [1, 0, 2] [] rfl rfl (by decide) (by decide) (fun r_18 => pe5 (fun v18_0 v18_1 v18_2 v18_3 v18_4 H locs hw_18 hP hD hS => ?_))
                        clear k_18
                        have hP : va_P D kl [(h, .inr (7, [.ref sl, .int na, .ref zs, .ref ln, .ref ir, .ref tk, .int su, .int le, .ref tb, .int v18_0, .int v18_1, .int v18_2, .ref tr, .int tc, .ref fz, .int v18_3])), (sl, .inl (cI, 1653, .inl v18_4)), (tb, .inl (cB, 120, .inl tbf))] H := hP
                        have hD : va_D A [(h, .inr (7, [.ref sl, .int na, .ref zs, .ref ln, .ref ir, .ref tk, .int su, .int le, .ref tb, .int v18_0, .int v18_1, .int v18_2, .ref tr, .int tc, .ref fz, .int v18_3])), (sl, .inl (cI, 1653, .inl v18_4)), (tb, .inl (cB, 120, .inl tbf))] := hD
                        obtain ⟨c18_0, c18_1, c18_2⟩ := hw_18
                        have c18_1 : 0 ≤ v18_1.toInt ∧ v18_1.toInt ≤ 120 := c18_1
                        have c18_2 : SI v18_4 v0 := c18_2
                        rcases c18_0 with ⟨e_18, f_18⟩ | e_18
                        · subst e_18
                          have f_18 : g1_c76.toInt < v18_1.toInt := f_18
                          refine lv_istore (lv' := [(4, .int 1), (3, .int r_8), (2, .int r_7), (1, .int t1_c76), (0, .ref h)]) hx hb dX8_isLand_129 hl (by decide) rfl (fun ls hl => ?_)
                          refine lv_goto (tgt := 205) hx hb dX8_isLand_131 (by decide) ?_
                          refine lv_iload hx hb dX8_isLand_205 (lv_at hl 0 rfl) ?_
                          refine lv_if_ne (tgt := 212) hx hb dX8_isLand_207 (by decide) (fun _ => ?_) (fun c9 => absurd c9 (by decide))
                          refine lv_goto (tgt := 76) hx hb dX8_isLand_212 (by decide) ?_
                          exact ih76 t1_c76 v18_0 v18_1 v18_2 v18_3 v18_4 _ _ _ (show 0 ≤ v18_1.toInt ∧ v18_1.toInt ≤ 120 from by omega) c18_2 (by omega) (hP.sub [1, 0, 2] rfl) (hD.sub [1, 0, 2] (by decide) rfl) hS (lv_sub hl [3, 4] rfl)
                        · subst e_18
                          refine lv_istore (lv' := [(4, .int 0), (3, .int r_8), (2, .int r_7), (1, .int t1_c76), (0, .ref h)]) hx hb dX8_isLand_129 hl (by decide) rfl (fun ls hl => ?_)
                          refine lv_goto (tgt := 205) hx hb dX8_isLand_131 (by decide) ?_
                          refine lv_iload hx hb dX8_isLand_205 (lv_at hl 0 rfl) ?_
                          refine lv_if_ne (tgt := 212) hx hb dX8_isLand_207 (by decide) (fun c9 => absurd (by decide) c9) (fun _ => ?_)
                          refine lv_iconst (v := 0) hx hb dX8_isLand_210 (by decide) ?_
                          exact wr_z (v := 0) hx hb hr hlocks hS (v18_0, v18_1, v18_2, v18_3, v18_4) (by exact ⟨Or.inr (rfl), show 0 ≤ (v18_1 : Int32).toInt ∧ (v18_1 : Int32).toInt ≤ 120 from by omega, c18_2⟩) (hP.sub [0, 1, 2] rfl) (hD.sub [0, 1, 2] (by decide) rfl) dX8_isLand_211 rfl
                    · have f_9 : ¬ r_7.toInt = 103 := zi_ne c_9
                      refine lv_iload_n hx hb dX8_isLand_114 rfl (lv_at hl 1 rfl) ?_
                      refine lv_bipush (v := 99) hx hb dX8_isLand_115 (by decide) ?_
                      refine lv_icmp_ne (tgt := 134) hx hb dX8_isLand_117 (by decide) (fun c_19 => ?_) (fun c_19 => ?_)
                      · have f_19 : ¬ r_7.toInt = 99 := zi_ne c_19
                        refine lv_iload_n hx hb dX8_isLand_134 rfl (lv_at hl 1 rfl) ?_
                        refine lv_bipush (v := 114) hx hb dX8_isLand_135 (by decide) ?_
                        refine lv_icmp_ne (tgt := 167) hx hb dX8_isLand_137 (by decide) (fun c_20 => ?_) (fun c_20 => ?_)
                        · have f_20 : ¬ r_7.toInt = 114 := zi_ne c_20
                          refine lv_iload_n hx hb dX8_isLand_167 rfl (lv_at hl 0 rfl) ?_
                          refine lv_if_le (tgt := 194) hx hb dX8_isLand_168 (by decide) (fun c_21 => ?_) (fun c_21 => ?_)
                          · have f_21 : r_8.toInt ≤ 0 := zi_le c_21
                            refine lv_aload_n hx hb dX8_isLand_194 rfl (lv_at hl 3 rfl) ?_
                            refine lv_iconst (v := 1) hx hb dX8_isLand_195 (by decide) ?_
                            refine lv_aload_n hx hb dX8_isLand_196 rfl (lv_at hl 3 rfl) ?_
                            refine va_get (D := D) (ci := 7) (v := .int g1_c76) (C := RX8) (T := TX8) (N := 16) hx hb hts (fun _ h => List.mem_cons_of_mem _ (List.mem_append_right _ h)) hown hK hP 1 rfl rfl 10 (by decide) (hts (.fieldLink RX8 62 "WinterWalkModel" "at" "I") (List.mem_of_getElem? (i := 1) rfl)) (fun _ h9 => h9) rfl dX8_isLand_197 ?_
                            have k_22 := (g_X8_fails l D cI cB cQ H.size h sl zs ln ir tk tb tr fz na su le g0_c76 g1_c76 g2_c76 tc g3_c76 1 g1_c76)
                            refine wc_i (WC := [(h, .inr (7, [.ref sl, .int na, .ref zs, .ref ln, .ref ir, .ref tk, .int su, .int le, .ref tb, .int g0_c76, .int g1_c76, .int g2_c76, .ref tr, .int tc, .ref fz, .int g3_c76]))]) (WR := [(sl, .inl (cI, 1653, .inl g4_c76)), (tb, .inl (cB, 120, .inl tbf))]) (va_runV (As := [.int 1, .int g1_c76]) (rest := []) ⟨hx, hb, hml, hown, hts⟩ k_22 (cwV 2 hts gX8_isLand_X8_fails rfl rfl rfl (by decide +kernel) ⟨Nat.le_of_ble_eq_true rfl, Nat.le_of_ble_eq_true rfl⟩) (wp_V hP hK hD hN [1] (by decide) rfl (ci := 7) rfl rfl) rfl rfl hl.1 rfl (lv_room (Nat.le_of_ble_eq_true rfl)) dX8_isLand_200 ⟨Nat.le_of_ble_eq_true rfl, Nat.le_of_ble_eq_true rfl⟩) hP hD hS hA [1] [0, 2] rfl rfl (by decide) (by decide) (fun r_22 => pe2 (fun v22_0 v22_1 H locs hw_22 hP hD hS => ?_))
                            clear k_22
                            have hP : va_P D kl [(sl, .inl (cI, 1653, .inl g4_c76)), (tb, .inl (cB, 120, .inl tbf)), (h, .inr (7, [.ref sl, .int na, .ref zs, .ref ln, .ref ir, .ref tk, .int su, .int le, .ref tb, .int v22_0, .int g1_c76, .int v22_1, .ref tr, .int tc, .ref fz, .int g3_c76]))] H := hP
                            have hD : va_D A [(sl, .inl (cI, 1653, .inl g4_c76)), (tb, .inl (cB, 120, .inl tbf)), (h, .inr (7, [.ref sl, .int na, .ref zs, .ref ln, .ref ir, .ref tk, .int su, .int le, .ref tb, .int v22_0, .int g1_c76, .int v22_1, .ref tr, .int tc, .ref fz, .int g3_c76]))] := hD
                            have c22_0 := hw_22
                            have e_22 := c22_0
                            · subst e_22
                              refine lv_istore (lv' := [(4, .int 0), (3, .int r_8), (2, .int r_7), (1, .int t1_c76), (0, .ref h)]) hx hb dX8_isLand_203 hl (by decide) rfl (fun ls hl => ?_)
                              refine lv_iload hx hb dX8_isLand_205 (lv_at hl 0 rfl) ?_
                              refine lv_if_ne (tgt := 212) hx hb dX8_isLand_207 (by decide) (fun c9 => absurd (by decide) c9) (fun _ => ?_)
                              refine lv_iconst (v := 0) hx hb dX8_isLand_210 (by decide) ?_
                              exact wr_z (v := 0) hx hb hr hlocks hS (v22_0, g1_c76, v22_1, g3_c76, g4_c76) (by exact ⟨Or.inr (rfl), show 0 ≤ (g1_c76 : Int32).toInt ∧ (g1_c76 : Int32).toInt ≤ 120 from by omega, ha_g4_c76⟩) (hP.sub [2, 0, 1] rfl) (hD.sub [2, 0, 1] (by decide) rfl) dX8_isLand_211 rfl
                          · have f_21 : ¬ r_8.toInt ≤ 0 := zi_nle c_21
                            refine lv_aload_n hx hb dX8_isLand_171 rfl (lv_at hl 3 rfl) ?_
                            refine va_get (D := D) (ci := 7) (v := .ref sl) (C := RX8) (T := TX8) (N := 16) hx hb hts (fun _ h => List.mem_cons_of_mem _ (List.mem_append_right _ h)) hown hK hP 1 rfl rfl 0 (by decide) (hts (.fieldLink RX8 7 "WinterWalkModel" "slot" "[I") (List.mem_of_getElem? (i := 2) rfl)) (fun _ h9 => h9) rfl dX8_isLand_172 ?_
                            refine lv_sipush (v := 1597) hx hb dX8_isLand_175 (by decide) ?_
                            refine va_iald hx hb hK hP 0 0 rfl rfl (zi_in (by decide) (by decide)) dX8_isLand_178 ?_
                            refine lv_topi (fun x_23 ex_23 => ?_)
                            have f_23 : 0 ≤ x_23.toInt ∧ x_23.toInt ≤ 8 := by rw [ex_23]; exact si_v ha_g4_c76 (s := 28) (by decide) (by omega)
                            refine lv_if_le (tgt := 194) hx hb dX8_isLand_179 (by decide) (fun c_24 => ?_) (fun c_24 => ?_)
                            · have f_24 : x_23.toInt ≤ 0 := zi_le c_24
                              refine lv_aload_n hx hb dX8_isLand_194 rfl (lv_at hl 3 rfl) ?_
                              refine lv_iconst (v := 1) hx hb dX8_isLand_195 (by decide) ?_
                              refine lv_aload_n hx hb dX8_isLand_196 rfl (lv_at hl 3 rfl) ?_
                              refine va_get (D := D) (ci := 7) (v := .int g1_c76) (C := RX8) (T := TX8) (N := 16) hx hb hts (fun _ h => List.mem_cons_of_mem _ (List.mem_append_right _ h)) hown hK hP 1 rfl rfl 10 (by decide) (hts (.fieldLink RX8 62 "WinterWalkModel" "at" "I") (List.mem_of_getElem? (i := 1) rfl)) (fun _ h9 => h9) rfl dX8_isLand_197 ?_
                              have k_25 := (g_X8_fails l D cI cB cQ H.size h sl zs ln ir tk tb tr fz na su le g0_c76 g1_c76 g2_c76 tc g3_c76 1 g1_c76)
                              refine wc_i (WC := [(h, .inr (7, [.ref sl, .int na, .ref zs, .ref ln, .ref ir, .ref tk, .int su, .int le, .ref tb, .int g0_c76, .int g1_c76, .int g2_c76, .ref tr, .int tc, .ref fz, .int g3_c76]))]) (WR := [(sl, .inl (cI, 1653, .inl g4_c76)), (tb, .inl (cB, 120, .inl tbf))]) (va_runV (As := [.int 1, .int g1_c76]) (rest := []) ⟨hx, hb, hml, hown, hts⟩ k_25 (cwV 2 hts gX8_isLand_X8_fails rfl rfl rfl (by decide +kernel) ⟨Nat.le_of_ble_eq_true rfl, Nat.le_of_ble_eq_true rfl⟩) (wp_V hP hK hD hN [1] (by decide) rfl (ci := 7) rfl rfl) rfl rfl hl.1 rfl (lv_room (Nat.le_of_ble_eq_true rfl)) dX8_isLand_200 ⟨Nat.le_of_ble_eq_true rfl, Nat.le_of_ble_eq_true rfl⟩) hP hD hS hA [1] [0, 2] rfl rfl (by decide) (by decide) (fun r_25 => pe2 (fun v25_0 v25_1 H locs hw_25 hP hD hS => ?_))
                              clear k_25
                              have hP : va_P D kl [(sl, .inl (cI, 1653, .inl g4_c76)), (tb, .inl (cB, 120, .inl tbf)), (h, .inr (7, [.ref sl, .int na, .ref zs, .ref ln, .ref ir, .ref tk, .int su, .int le, .ref tb, .int v25_0, .int g1_c76, .int v25_1, .ref tr, .int tc, .ref fz, .int g3_c76]))] H := hP
                              have hD : va_D A [(sl, .inl (cI, 1653, .inl g4_c76)), (tb, .inl (cB, 120, .inl tbf)), (h, .inr (7, [.ref sl, .int na, .ref zs, .ref ln, .ref ir, .ref tk, .int su, .int le, .ref tb, .int v25_0, .int g1_c76, .int v25_1, .ref tr, .int tc, .ref fz, .int g3_c76]))] := hD
                              have c25_0 := hw_25
                              have e_25 := c25_0
                              · subst e_25
                                refine lv_istore (lv' := [(4, .int 0), (3, .int r_8), (2, .int r_7), (1, .int t1_c76), (0, .ref h)]) hx hb dX8_isLand_203 hl (by decide) rfl (fun ls hl => ?_)
                                refine lv_iload hx hb dX8_isLand_205 (lv_at hl 0 rfl) ?_
                                refine lv_if_ne (tgt := 212) hx hb dX8_isLand_207 (by decide) (fun c9 => absurd (by decide) c9) (fun _ => ?_)
                                refine lv_iconst (v := 0) hx hb dX8_isLand_210 (by decide) ?_
                                exact wr_z (v := 0) hx hb hr hlocks hS (v25_0, g1_c76, v25_1, g3_c76, g4_c76) (by exact ⟨Or.inr (rfl), show 0 ≤ (g1_c76 : Int32).toInt ∧ (g1_c76 : Int32).toInt ≤ 120 from by omega, ha_g4_c76⟩) (hP.sub [2, 0, 1] rfl) (hD.sub [2, 0, 1] (by decide) rfl) dX8_isLand_211 rfl
                            · have f_24 : ¬ x_23.toInt ≤ 0 := zi_nle c_24
                              refine lv_iconst (v := 2) hx hb dX8_isLand_182 (by decide) ?_
                              refine lv_istore_n (lv' := [(1, .int 2), (3, .int r_8), (2, .int r_7), (0, .ref h)]) hx hb dX8_isLand_183 rfl hl (by decide) rfl (fun ls hl => ?_)
                              refine lv_aload_n hx hb dX8_isLand_184 rfl (lv_at hl 3 rfl) ?_
                              refine lv_iload_n hx hb dX8_isLand_185 rfl (lv_at hl 2 rfl) ?_
                              have k_26 := (g_X8_isWalker l D cI cB cQ H.size h sl zs ln ir tk tb tr fz na su le g0_c76 g1_c76 g2_c76 tc g3_c76 r_7 g4_c76 tbf v0 ha_g4_c76 (by omega) (by omega) (by omega) (by omega) (by omega))
                              refine wc_i (WC := [(h, .inr (7, [.ref sl, .int na, .ref zs, .ref ln, .ref ir, .ref tk, .int su, .int le, .ref tb, .int g0_c76, .int g1_c76, .int g2_c76, .ref tr, .int tc, .ref fz, .int g3_c76])), (sl, .inl (cI, 1653, .inl g4_c76)), (tb, .inl (cB, 120, .inl tbf))]) (WR := []) (va_runV (As := [.int r_7]) (rest := []) ⟨hx, hb, hml, hown, hts⟩ k_26 (cwV 1 hts gX8_isLand_X8_isWalker rfl rfl rfl (by decide +kernel) ⟨Nat.le_of_ble_eq_true rfl, Nat.le_of_ble_eq_true rfl⟩) (wp_V hP hK hD hN [1, 0, 2] (by decide) rfl (ci := 7) rfl rfl) rfl rfl hl.1 rfl (lv_room (Nat.le_of_ble_eq_true rfl)) dX8_isLand_186 ⟨Nat.le_of_ble_eq_true rfl, Nat.le_of_ble_eq_true rfl⟩) hP hD hS hA [1, 0, 2] [] rfl rfl (by decide) (by decide) (fun r_26 => pe5 (fun v26_0 v26_1 v26_2 v26_3 v26_4 H locs hw_26 hP hD hS => ?_))
                              clear k_26
                              have hP : va_P D kl [(h, .inr (7, [.ref sl, .int na, .ref zs, .ref ln, .ref ir, .ref tk, .int su, .int le, .ref tb, .int v26_0, .int v26_1, .int v26_2, .ref tr, .int tc, .ref fz, .int v26_3])), (sl, .inl (cI, 1653, .inl v26_4)), (tb, .inl (cB, 120, .inl tbf))] H := hP
                              have hD : va_D A [(h, .inr (7, [.ref sl, .int na, .ref zs, .ref ln, .ref ir, .ref tk, .int su, .int le, .ref tb, .int v26_0, .int v26_1, .int v26_2, .ref tr, .int tc, .ref fz, .int v26_3])), (sl, .inl (cI, 1653, .inl v26_4)), (tb, .inl (cB, 120, .inl tbf))] := hD
                              obtain ⟨c26_0, c26_1, c26_2⟩ := hw_26
                              have c26_1 : 0 ≤ v26_1.toInt ∧ v26_1.toInt ≤ 120 := c26_1
                              have c26_2 : SI v26_4 v0 := c26_2
                              rcases c26_0 with ⟨e_26, f_26⟩ | e_26
                              · subst e_26
                                have f_26 : g1_c76.toInt < v26_1.toInt := f_26
                                refine lv_istore (lv' := [(4, .int 1), (1, .int 2), (3, .int r_8), (2, .int r_7), (0, .ref h)]) hx hb dX8_isLand_189 hl (by decide) rfl (fun ls hl => ?_)
                                refine lv_goto (tgt := 205) hx hb dX8_isLand_191 (by decide) ?_
                                refine lv_iload hx hb dX8_isLand_205 (lv_at hl 0 rfl) ?_
                                refine lv_if_ne (tgt := 212) hx hb dX8_isLand_207 (by decide) (fun _ => ?_) (fun c9 => absurd c9 (by decide))
                                refine lv_goto (tgt := 76) hx hb dX8_isLand_212 (by decide) ?_
                                exact ih76 2 v26_0 v26_1 v26_2 v26_3 v26_4 _ _ _ (show 0 ≤ v26_1.toInt ∧ v26_1.toInt ≤ 120 from by omega) c26_2 (by omega) (hP.sub [1, 0, 2] rfl) (hD.sub [1, 0, 2] (by decide) rfl) hS (lv_sub hl [1, 4] rfl)
                              · subst e_26
                                refine lv_istore (lv' := [(4, .int 0), (1, .int 2), (3, .int r_8), (2, .int r_7), (0, .ref h)]) hx hb dX8_isLand_189 hl (by decide) rfl (fun ls hl => ?_)
                                refine lv_goto (tgt := 205) hx hb dX8_isLand_191 (by decide) ?_
                                refine lv_iload hx hb dX8_isLand_205 (lv_at hl 0 rfl) ?_
                                refine lv_if_ne (tgt := 212) hx hb dX8_isLand_207 (by decide) (fun c9 => absurd (by decide) c9) (fun _ => ?_)
                                refine lv_iconst (v := 0) hx hb dX8_isLand_210 (by decide) ?_
                                exact wr_z (v := 0) hx hb hr hlocks hS (v26_0, v26_1, v26_2, v26_3, v26_4) (by exact ⟨Or.inr (rfl), show 0 ≤ (v26_1 : Int32).toInt ∧ (v26_1 : Int32).toInt ≤ 120 from by omega, c26_2⟩) (hP.sub [0, 1, 2] rfl) (hD.sub [0, 1, 2] (by decide) rfl) dX8_isLand_211 rfl
                        · have f_20 : r_7.toInt = 114 := zi_eq c_20
                          refine lv_iload_n hx hb dX8_isLand_140 rfl (lv_at hl 2 rfl) ?_
                          refine lv_iconst (v := 2) hx hb dX8_isLand_141 (by decide) ?_
                          refine lv_icmp_ge (tgt := 167) hx hb dX8_isLand_142 (by decide) (fun c_27 => ?_) (fun c_27 => ?_)
                          · have f_27 : 2 ≤ t1_c76.toInt := zi_le c_27
                            refine lv_iload_n hx hb dX8_isLand_167 rfl (lv_at hl 0 rfl) ?_
                            refine lv_if_le (tgt := 194) hx hb dX8_isLand_168 (by decide) (fun c_28 => ?_) (fun c_28 => ?_)
                            · have f_28 : r_8.toInt ≤ 0 := zi_le c_28
                              refine lv_aload_n hx hb dX8_isLand_194 rfl (lv_at hl 3 rfl) ?_
                              refine lv_iconst (v := 1) hx hb dX8_isLand_195 (by decide) ?_
                              refine lv_aload_n hx hb dX8_isLand_196 rfl (lv_at hl 3 rfl) ?_
                              refine va_get (D := D) (ci := 7) (v := .int g1_c76) (C := RX8) (T := TX8) (N := 16) hx hb hts (fun _ h => List.mem_cons_of_mem _ (List.mem_append_right _ h)) hown hK hP 1 rfl rfl 10 (by decide) (hts (.fieldLink RX8 62 "WinterWalkModel" "at" "I") (List.mem_of_getElem? (i := 1) rfl)) (fun _ h9 => h9) rfl dX8_isLand_197 ?_
                              have k_29 := (g_X8_fails l D cI cB cQ H.size h sl zs ln ir tk tb tr fz na su le g0_c76 g1_c76 g2_c76 tc g3_c76 1 g1_c76)
                              refine wc_i (WC := [(h, .inr (7, [.ref sl, .int na, .ref zs, .ref ln, .ref ir, .ref tk, .int su, .int le, .ref tb, .int g0_c76, .int g1_c76, .int g2_c76, .ref tr, .int tc, .ref fz, .int g3_c76]))]) (WR := [(sl, .inl (cI, 1653, .inl g4_c76)), (tb, .inl (cB, 120, .inl tbf))]) (va_runV (As := [.int 1, .int g1_c76]) (rest := []) ⟨hx, hb, hml, hown, hts⟩ k_29 (cwV 2 hts gX8_isLand_X8_fails rfl rfl rfl (by decide +kernel) ⟨Nat.le_of_ble_eq_true rfl, Nat.le_of_ble_eq_true rfl⟩) (wp_V hP hK hD hN [1] (by decide) rfl (ci := 7) rfl rfl) rfl rfl hl.1 rfl (lv_room (Nat.le_of_ble_eq_true rfl)) dX8_isLand_200 ⟨Nat.le_of_ble_eq_true rfl, Nat.le_of_ble_eq_true rfl⟩) hP hD hS hA [1] [0, 2] rfl rfl (by decide) (by decide) (fun r_29 => pe2 (fun v29_0 v29_1 H locs hw_29 hP hD hS => ?_))
                              clear k_29
                              have hP : va_P D kl [(sl, .inl (cI, 1653, .inl g4_c76)), (tb, .inl (cB, 120, .inl tbf)), (h, .inr (7, [.ref sl, .int na, .ref zs, .ref ln, .ref ir, .ref tk, .int su, .int le, .ref tb, .int v29_0, .int g1_c76, .int v29_1, .ref tr, .int tc, .ref fz, .int g3_c76]))] H := hP
                              have hD : va_D A [(sl, .inl (cI, 1653, .inl g4_c76)), (tb, .inl (cB, 120, .inl tbf)), (h, .inr (7, [.ref sl, .int na, .ref zs, .ref ln, .ref ir, .ref tk, .int su, .int le, .ref tb, .int v29_0, .int g1_c76, .int v29_1, .ref tr, .int tc, .ref fz, .int g3_c76]))] := hD
                              have c29_0 := hw_29
                              have e_29 := c29_0
                              · subst e_29
                                refine lv_istore (lv' := [(4, .int 0), (3, .int r_8), (2, .int r_7), (1, .int t1_c76), (0, .ref h)]) hx hb dX8_isLand_203 hl (by decide) rfl (fun ls hl => ?_)
                                refine lv_iload hx hb dX8_isLand_205 (lv_at hl 0 rfl) ?_
                                refine lv_if_ne (tgt := 212) hx hb dX8_isLand_207 (by decide) (fun c9 => absurd (by decide) c9) (fun _ => ?_)
                                refine lv_iconst (v := 0) hx hb dX8_isLand_210 (by decide) ?_
                                exact wr_z (v := 0) hx hb hr hlocks hS (v29_0, g1_c76, v29_1, g3_c76, g4_c76) (by exact ⟨Or.inr (rfl), show 0 ≤ (g1_c76 : Int32).toInt ∧ (g1_c76 : Int32).toInt ≤ 120 from by omega, ha_g4_c76⟩) (hP.sub [2, 0, 1] rfl) (hD.sub [2, 0, 1] (by decide) rfl) dX8_isLand_211 rfl
                            · have f_28 : ¬ r_8.toInt ≤ 0 := zi_nle c_28
                              refine lv_aload_n hx hb dX8_isLand_171 rfl (lv_at hl 3 rfl) ?_
                              refine va_get (D := D) (ci := 7) (v := .ref sl) (C := RX8) (T := TX8) (N := 16) hx hb hts (fun _ h => List.mem_cons_of_mem _ (List.mem_append_right _ h)) hown hK hP 1 rfl rfl 0 (by decide) (hts (.fieldLink RX8 7 "WinterWalkModel" "slot" "[I") (List.mem_of_getElem? (i := 2) rfl)) (fun _ h9 => h9) rfl dX8_isLand_172 ?_
                              refine lv_sipush (v := 1597) hx hb dX8_isLand_175 (by decide) ?_
                              refine va_iald hx hb hK hP 0 0 rfl rfl (zi_in (by decide) (by decide)) dX8_isLand_178 ?_
                              refine lv_topi (fun x_30 ex_30 => ?_)
                              have f_30 : 0 ≤ x_30.toInt ∧ x_30.toInt ≤ 8 := by rw [ex_30]; exact si_v ha_g4_c76 (s := 28) (by decide) (by omega)
                              refine lv_if_le (tgt := 194) hx hb dX8_isLand_179 (by decide) (fun c_31 => ?_) (fun c_31 => ?_)
                              · have f_31 : x_30.toInt ≤ 0 := zi_le c_31
                                refine lv_aload_n hx hb dX8_isLand_194 rfl (lv_at hl 3 rfl) ?_
                                refine lv_iconst (v := 1) hx hb dX8_isLand_195 (by decide) ?_
                                refine lv_aload_n hx hb dX8_isLand_196 rfl (lv_at hl 3 rfl) ?_
                                refine va_get (D := D) (ci := 7) (v := .int g1_c76) (C := RX8) (T := TX8) (N := 16) hx hb hts (fun _ h => List.mem_cons_of_mem _ (List.mem_append_right _ h)) hown hK hP 1 rfl rfl 10 (by decide) (hts (.fieldLink RX8 62 "WinterWalkModel" "at" "I") (List.mem_of_getElem? (i := 1) rfl)) (fun _ h9 => h9) rfl dX8_isLand_197 ?_
                                have k_32 := (g_X8_fails l D cI cB cQ H.size h sl zs ln ir tk tb tr fz na su le g0_c76 g1_c76 g2_c76 tc g3_c76 1 g1_c76)
                                refine wc_i (WC := [(h, .inr (7, [.ref sl, .int na, .ref zs, .ref ln, .ref ir, .ref tk, .int su, .int le, .ref tb, .int g0_c76, .int g1_c76, .int g2_c76, .ref tr, .int tc, .ref fz, .int g3_c76]))]) (WR := [(sl, .inl (cI, 1653, .inl g4_c76)), (tb, .inl (cB, 120, .inl tbf))]) (va_runV (As := [.int 1, .int g1_c76]) (rest := []) ⟨hx, hb, hml, hown, hts⟩ k_32 (cwV 2 hts gX8_isLand_X8_fails rfl rfl rfl (by decide +kernel) ⟨Nat.le_of_ble_eq_true rfl, Nat.le_of_ble_eq_true rfl⟩) (wp_V hP hK hD hN [1] (by decide) rfl (ci := 7) rfl rfl) rfl rfl hl.1 rfl (lv_room (Nat.le_of_ble_eq_true rfl)) dX8_isLand_200 ⟨Nat.le_of_ble_eq_true rfl, Nat.le_of_ble_eq_true rfl⟩) hP hD hS hA [1] [0, 2] rfl rfl (by decide) (by decide) (fun r_32 => pe2 (fun v32_0 v32_1 H locs hw_32 hP hD hS => ?_))
                                clear k_32
                                have hP : va_P D kl [(sl, .inl (cI, 1653, .inl g4_c76)), (tb, .inl (cB, 120, .inl tbf)), (h, .inr (7, [.ref sl, .int na, .ref zs, .ref ln, .ref ir, .ref tk, .int su, .int le, .ref tb, .int v32_0, .int g1_c76, .int v32_1, .ref tr, .int tc, .ref fz, .int g3_c76]))] H := hP
                                have hD : va_D A [(sl, .inl (cI, 1653, .inl g4_c76)), (tb, .inl (cB, 120, .inl tbf)), (h, .inr (7, [.ref sl, .int na, .ref zs, .ref ln, .ref ir, .ref tk, .int su, .int le, .ref tb, .int v32_0, .int g1_c76, .int v32_1, .ref tr, .int tc, .ref fz, .int g3_c76]))] := hD
                                have c32_0 := hw_32
                                have e_32 := c32_0
                                · subst e_32
                                  refine lv_istore (lv' := [(4, .int 0), (3, .int r_8), (2, .int r_7), (1, .int t1_c76), (0, .ref h)]) hx hb dX8_isLand_203 hl (by decide) rfl (fun ls hl => ?_)
                                  refine lv_iload hx hb dX8_isLand_205 (lv_at hl 0 rfl) ?_
                                  refine lv_if_ne (tgt := 212) hx hb dX8_isLand_207 (by decide) (fun c9 => absurd (by decide) c9) (fun _ => ?_)
                                  refine lv_iconst (v := 0) hx hb dX8_isLand_210 (by decide) ?_
                                  exact wr_z (v := 0) hx hb hr hlocks hS (v32_0, g1_c76, v32_1, g3_c76, g4_c76) (by exact ⟨Or.inr (rfl), show 0 ≤ (g1_c76 : Int32).toInt ∧ (g1_c76 : Int32).toInt ≤ 120 from by omega, ha_g4_c76⟩) (hP.sub [2, 0, 1] rfl) (hD.sub [2, 0, 1] (by decide) rfl) dX8_isLand_211 rfl
                              · have f_31 : ¬ x_30.toInt ≤ 0 := zi_nle c_31
                                refine lv_iconst (v := 2) hx hb dX8_isLand_182 (by decide) ?_
                                refine lv_istore_n (lv' := [(1, .int 2), (3, .int r_8), (2, .int r_7), (0, .ref h)]) hx hb dX8_isLand_183 rfl hl (by decide) rfl (fun ls hl => ?_)
                                refine lv_aload_n hx hb dX8_isLand_184 rfl (lv_at hl 3 rfl) ?_
                                refine lv_iload_n hx hb dX8_isLand_185 rfl (lv_at hl 2 rfl) ?_
                                have k_33 := (g_X8_isWalker l D cI cB cQ H.size h sl zs ln ir tk tb tr fz na su le g0_c76 g1_c76 g2_c76 tc g3_c76 r_7 g4_c76 tbf v0 ha_g4_c76 (by omega) (by omega) (by omega) (by omega) (by omega))
                                refine wc_i (WC := [(h, .inr (7, [.ref sl, .int na, .ref zs, .ref ln, .ref ir, .ref tk, .int su, .int le, .ref tb, .int g0_c76, .int g1_c76, .int g2_c76, .ref tr, .int tc, .ref fz, .int g3_c76])), (sl, .inl (cI, 1653, .inl g4_c76)), (tb, .inl (cB, 120, .inl tbf))]) (WR := []) (va_runV (As := [.int r_7]) (rest := []) ⟨hx, hb, hml, hown, hts⟩ k_33 (cwV 1 hts gX8_isLand_X8_isWalker rfl rfl rfl (by decide +kernel) ⟨Nat.le_of_ble_eq_true rfl, Nat.le_of_ble_eq_true rfl⟩) (wp_V hP hK hD hN [1, 0, 2] (by decide) rfl (ci := 7) rfl rfl) rfl rfl hl.1 rfl (lv_room (Nat.le_of_ble_eq_true rfl)) dX8_isLand_186 ⟨Nat.le_of_ble_eq_true rfl, Nat.le_of_ble_eq_true rfl⟩) hP hD hS hA [1, 0, 2] [] rfl rfl (by decide) (by decide) (fun r_33 => pe5 (fun v33_0 v33_1 v33_2 v33_3 v33_4 H locs hw_33 hP hD hS => ?_))
                                clear k_33
                                have hP : va_P D kl [(h, .inr (7, [.ref sl, .int na, .ref zs, .ref ln, .ref ir, .ref tk, .int su, .int le, .ref tb, .int v33_0, .int v33_1, .int v33_2, .ref tr, .int tc, .ref fz, .int v33_3])), (sl, .inl (cI, 1653, .inl v33_4)), (tb, .inl (cB, 120, .inl tbf))] H := hP
                                have hD : va_D A [(h, .inr (7, [.ref sl, .int na, .ref zs, .ref ln, .ref ir, .ref tk, .int su, .int le, .ref tb, .int v33_0, .int v33_1, .int v33_2, .ref tr, .int tc, .ref fz, .int v33_3])), (sl, .inl (cI, 1653, .inl v33_4)), (tb, .inl (cB, 120, .inl tbf))] := hD
                                obtain ⟨c33_0, c33_1, c33_2⟩ := hw_33
                                have c33_1 : 0 ≤ v33_1.toInt ∧ v33_1.toInt ≤ 120 := c33_1
                                have c33_2 : SI v33_4 v0 := c33_2
                                rcases c33_0 with ⟨e_33, f_33⟩ | e_33
                                · subst e_33
                                  have f_33 : g1_c76.toInt < v33_1.toInt := f_33
                                  refine lv_istore (lv' := [(4, .int 1), (1, .int 2), (3, .int r_8), (2, .int r_7), (0, .ref h)]) hx hb dX8_isLand_189 hl (by decide) rfl (fun ls hl => ?_)
                                  refine lv_goto (tgt := 205) hx hb dX8_isLand_191 (by decide) ?_
                                  refine lv_iload hx hb dX8_isLand_205 (lv_at hl 0 rfl) ?_
                                  refine lv_if_ne (tgt := 212) hx hb dX8_isLand_207 (by decide) (fun _ => ?_) (fun c9 => absurd c9 (by decide))
                                  refine lv_goto (tgt := 76) hx hb dX8_isLand_212 (by decide) ?_
                                  exact ih76 2 v33_0 v33_1 v33_2 v33_3 v33_4 _ _ _ (show 0 ≤ v33_1.toInt ∧ v33_1.toInt ≤ 120 from by omega) c33_2 (by omega) (hP.sub [1, 0, 2] rfl) (hD.sub [1, 0, 2] (by decide) rfl) hS (lv_sub hl [1, 4] rfl)
                                · subst e_33
                                  refine lv_istore (lv' := [(4, .int 0), (1, .int 2), (3, .int r_8), (2, .int r_7), (0, .ref h)]) hx hb dX8_isLand_189 hl (by decide) rfl (fun ls hl => ?_)
                                  refine lv_goto (tgt := 205) hx hb dX8_isLand_191 (by decide) ?_
                                  refine lv_iload hx hb dX8_isLand_205 (lv_at hl 0 rfl) ?_
                                  refine lv_if_ne (tgt := 212) hx hb dX8_isLand_207 (by decide) (fun c9 => absurd (by decide) c9) (fun _ => ?_)
                                  refine lv_iconst (v := 0) hx hb dX8_isLand_210 (by decide) ?_
                                  exact wr_z (v := 0) hx hb hr hlocks hS (v33_0, v33_1, v33_2, v33_3, v33_4) (by exact ⟨Or.inr (rfl), show 0 ≤ (v33_1 : Int32).toInt ∧ (v33_1 : Int32).toInt ≤ 120 from by omega, c33_2⟩) (hP.sub [0, 1, 2] rfl) (hD.sub [0, 1, 2] (by decide) rfl) dX8_isLand_211 rfl
                          · have f_27 : ¬ 2 ≤ t1_c76.toInt := zi_nle c_27
                            refine lv_aload_n hx hb dX8_isLand_145 rfl (lv_at hl 3 rfl) ?_
                            refine va_get (D := D) (ci := 7) (v := .ref sl) (C := RX8) (T := TX8) (N := 16) hx hb hts (fun _ h => List.mem_cons_of_mem _ (List.mem_append_right _ h)) hown hK hP 1 rfl rfl 0 (by decide) (hts (.fieldLink RX8 7 "WinterWalkModel" "slot" "[I") (List.mem_of_getElem? (i := 2) rfl)) (fun _ h9 => h9) rfl dX8_isLand_146 ?_
                            refine lv_sipush (v := 1597) hx hb dX8_isLand_149 (by decide) ?_
                            refine va_iald hx hb hK hP 0 0 rfl rfl (zi_in (by decide) (by decide)) dX8_isLand_152 ?_
                            refine lv_topi (fun x_34 ex_34 => ?_)
                            have f_34 : 0 ≤ x_34.toInt ∧ x_34.toInt ≤ 8 := by rw [ex_34]; exact si_v ha_g4_c76 (s := 28) (by decide) (by omega)
                            refine lv_if_le (tgt := 167) hx hb dX8_isLand_153 (by decide) (fun c_35 => ?_) (fun c_35 => ?_)
                            · have f_35 : x_34.toInt ≤ 0 := zi_le c_35
                              refine lv_iload_n hx hb dX8_isLand_167 rfl (lv_at hl 0 rfl) ?_
                              refine lv_if_le (tgt := 194) hx hb dX8_isLand_168 (by decide) (fun c_36 => ?_) (fun c_36 => ?_)
                              · have f_36 : r_8.toInt ≤ 0 := zi_le c_36
                                refine lv_aload_n hx hb dX8_isLand_194 rfl (lv_at hl 3 rfl) ?_
                                refine lv_iconst (v := 1) hx hb dX8_isLand_195 (by decide) ?_
                                refine lv_aload_n hx hb dX8_isLand_196 rfl (lv_at hl 3 rfl) ?_
                                refine va_get (D := D) (ci := 7) (v := .int g1_c76) (C := RX8) (T := TX8) (N := 16) hx hb hts (fun _ h => List.mem_cons_of_mem _ (List.mem_append_right _ h)) hown hK hP 1 rfl rfl 10 (by decide) (hts (.fieldLink RX8 62 "WinterWalkModel" "at" "I") (List.mem_of_getElem? (i := 1) rfl)) (fun _ h9 => h9) rfl dX8_isLand_197 ?_
                                have k_37 := (g_X8_fails l D cI cB cQ H.size h sl zs ln ir tk tb tr fz na su le g0_c76 g1_c76 g2_c76 tc g3_c76 1 g1_c76)
                                refine wc_i (WC := [(h, .inr (7, [.ref sl, .int na, .ref zs, .ref ln, .ref ir, .ref tk, .int su, .int le, .ref tb, .int g0_c76, .int g1_c76, .int g2_c76, .ref tr, .int tc, .ref fz, .int g3_c76]))]) (WR := [(sl, .inl (cI, 1653, .inl g4_c76)), (tb, .inl (cB, 120, .inl tbf))]) (va_runV (As := [.int 1, .int g1_c76]) (rest := []) ⟨hx, hb, hml, hown, hts⟩ k_37 (cwV 2 hts gX8_isLand_X8_fails rfl rfl rfl (by decide +kernel) ⟨Nat.le_of_ble_eq_true rfl, Nat.le_of_ble_eq_true rfl⟩) (wp_V hP hK hD hN [1] (by decide) rfl (ci := 7) rfl rfl) rfl rfl hl.1 rfl (lv_room (Nat.le_of_ble_eq_true rfl)) dX8_isLand_200 ⟨Nat.le_of_ble_eq_true rfl, Nat.le_of_ble_eq_true rfl⟩) hP hD hS hA [1] [0, 2] rfl rfl (by decide) (by decide) (fun r_37 => pe2 (fun v37_0 v37_1 H locs hw_37 hP hD hS => ?_))
                                clear k_37
                                have hP : va_P D kl [(sl, .inl (cI, 1653, .inl g4_c76)), (tb, .inl (cB, 120, .inl tbf)), (h, .inr (7, [.ref sl, .int na, .ref zs, .ref ln, .ref ir, .ref tk, .int su, .int le, .ref tb, .int v37_0, .int g1_c76, .int v37_1, .ref tr, .int tc, .ref fz, .int g3_c76]))] H := hP
                                have hD : va_D A [(sl, .inl (cI, 1653, .inl g4_c76)), (tb, .inl (cB, 120, .inl tbf)), (h, .inr (7, [.ref sl, .int na, .ref zs, .ref ln, .ref ir, .ref tk, .int su, .int le, .ref tb, .int v37_0, .int g1_c76, .int v37_1, .ref tr, .int tc, .ref fz, .int g3_c76]))] := hD
                                have c37_0 := hw_37
                                have e_37 := c37_0
                                · subst e_37
                                  refine lv_istore (lv' := [(4, .int 0), (3, .int r_8), (2, .int r_7), (1, .int t1_c76), (0, .ref h)]) hx hb dX8_isLand_203 hl (by decide) rfl (fun ls hl => ?_)
                                  refine lv_iload hx hb dX8_isLand_205 (lv_at hl 0 rfl) ?_
                                  refine lv_if_ne (tgt := 212) hx hb dX8_isLand_207 (by decide) (fun c9 => absurd (by decide) c9) (fun _ => ?_)
                                  refine lv_iconst (v := 0) hx hb dX8_isLand_210 (by decide) ?_
                                  exact wr_z (v := 0) hx hb hr hlocks hS (v37_0, g1_c76, v37_1, g3_c76, g4_c76) (by exact ⟨Or.inr (rfl), show 0 ≤ (g1_c76 : Int32).toInt ∧ (g1_c76 : Int32).toInt ≤ 120 from by omega, ha_g4_c76⟩) (hP.sub [2, 0, 1] rfl) (hD.sub [2, 0, 1] (by decide) rfl) dX8_isLand_211 rfl
                              · have f_36 : ¬ r_8.toInt ≤ 0 := zi_nle c_36
                                refine lv_aload_n hx hb dX8_isLand_171 rfl (lv_at hl 3 rfl) ?_
                                refine va_get (D := D) (ci := 7) (v := .ref sl) (C := RX8) (T := TX8) (N := 16) hx hb hts (fun _ h => List.mem_cons_of_mem _ (List.mem_append_right _ h)) hown hK hP 1 rfl rfl 0 (by decide) (hts (.fieldLink RX8 7 "WinterWalkModel" "slot" "[I") (List.mem_of_getElem? (i := 2) rfl)) (fun _ h9 => h9) rfl dX8_isLand_172 ?_
                                refine lv_sipush (v := 1597) hx hb dX8_isLand_175 (by decide) ?_
                                refine va_iald hx hb hK hP 0 0 rfl rfl (zi_in (by decide) (by decide)) dX8_isLand_178 ?_
                                refine lv_topi (fun x_38 ex_38 => ?_)
                                have f_38 : 0 ≤ x_38.toInt ∧ x_38.toInt ≤ 8 := by rw [ex_38]; exact si_v ha_g4_c76 (s := 28) (by decide) (by omega)
                                refine lv_if_le (tgt := 194) hx hb dX8_isLand_179 (by decide) (fun c_39 => ?_) (fun c_39 => ?_)
                                · have f_39 : x_38.toInt ≤ 0 := zi_le c_39
                                  refine lv_aload_n hx hb dX8_isLand_194 rfl (lv_at hl 3 rfl) ?_
                                  refine lv_iconst (v := 1) hx hb dX8_isLand_195 (by decide) ?_
                                  refine lv_aload_n hx hb dX8_isLand_196 rfl (lv_at hl 3 rfl) ?_
                                  refine va_get (D := D) (ci := 7) (v := .int g1_c76) (C := RX8) (T := TX8) (N := 16) hx hb hts (fun _ h => List.mem_cons_of_mem _ (List.mem_append_right _ h)) hown hK hP 1 rfl rfl 10 (by decide) (hts (.fieldLink RX8 62 "WinterWalkModel" "at" "I") (List.mem_of_getElem? (i := 1) rfl)) (fun _ h9 => h9) rfl dX8_isLand_197 ?_
                                  have k_40 := (g_X8_fails l D cI cB cQ H.size h sl zs ln ir tk tb tr fz na su le g0_c76 g1_c76 g2_c76 tc g3_c76 1 g1_c76)
                                  refine wc_i (WC := [(h, .inr (7, [.ref sl, .int na, .ref zs, .ref ln, .ref ir, .ref tk, .int su, .int le, .ref tb, .int g0_c76, .int g1_c76, .int g2_c76, .ref tr, .int tc, .ref fz, .int g3_c76]))]) (WR := [(sl, .inl (cI, 1653, .inl g4_c76)), (tb, .inl (cB, 120, .inl tbf))]) (va_runV (As := [.int 1, .int g1_c76]) (rest := []) ⟨hx, hb, hml, hown, hts⟩ k_40 (cwV 2 hts gX8_isLand_X8_fails rfl rfl rfl (by decide +kernel) ⟨Nat.le_of_ble_eq_true rfl, Nat.le_of_ble_eq_true rfl⟩) (wp_V hP hK hD hN [1] (by decide) rfl (ci := 7) rfl rfl) rfl rfl hl.1 rfl (lv_room (Nat.le_of_ble_eq_true rfl)) dX8_isLand_200 ⟨Nat.le_of_ble_eq_true rfl, Nat.le_of_ble_eq_true rfl⟩) hP hD hS hA [1] [0, 2] rfl rfl (by decide) (by decide) (fun r_40 => pe2 (fun v40_0 v40_1 H locs hw_40 hP hD hS => ?_))
                                  clear k_40
                                  have hP : va_P D kl [(sl, .inl (cI, 1653, .inl g4_c76)), (tb, .inl (cB, 120, .inl tbf)), (h, .inr (7, [.ref sl, .int na, .ref zs, .ref ln, .ref ir, .ref tk, .int su, .int le, .ref tb, .int v40_0, .int g1_c76, .int v40_1, .ref tr, .int tc, .ref fz, .int g3_c76]))] H := hP
                                  have hD : va_D A [(sl, .inl (cI, 1653, .inl g4_c76)), (tb, .inl (cB, 120, .inl tbf)), (h, .inr (7, [.ref sl, .int na, .ref zs, .ref ln, .ref ir, .ref tk, .int su, .int le, .ref tb, .int v40_0, .int g1_c76, .int v40_1, .ref tr, .int tc, .ref fz, .int g3_c76]))] := hD
                                  have c40_0 := hw_40
                                  have e_40 := c40_0
                                  · subst e_40
                                    refine lv_istore (lv' := [(4, .int 0), (3, .int r_8), (2, .int r_7), (1, .int t1_c76), (0, .ref h)]) hx hb dX8_isLand_203 hl (by decide) rfl (fun ls hl => ?_)
                                    refine lv_iload hx hb dX8_isLand_205 (lv_at hl 0 rfl) ?_
                                    refine lv_if_ne (tgt := 212) hx hb dX8_isLand_207 (by decide) (fun c9 => absurd (by decide) c9) (fun _ => ?_)
                                    refine lv_iconst (v := 0) hx hb dX8_isLand_210 (by decide) ?_
                                    exact wr_z (v := 0) hx hb hr hlocks hS (v40_0, g1_c76, v40_1, g3_c76, g4_c76) (by exact ⟨Or.inr (rfl), show 0 ≤ (g1_c76 : Int32).toInt ∧ (g1_c76 : Int32).toInt ≤ 120 from by omega, ha_g4_c76⟩) (hP.sub [2, 0, 1] rfl) (hD.sub [2, 0, 1] (by decide) rfl) dX8_isLand_211 rfl
                                · have f_39 : ¬ x_38.toInt ≤ 0 := zi_nle c_39
                                  refine lv_iconst (v := 2) hx hb dX8_isLand_182 (by decide) ?_
                                  refine lv_istore_n (lv' := [(1, .int 2), (3, .int r_8), (2, .int r_7), (0, .ref h)]) hx hb dX8_isLand_183 rfl hl (by decide) rfl (fun ls hl => ?_)
                                  refine lv_aload_n hx hb dX8_isLand_184 rfl (lv_at hl 3 rfl) ?_
                                  refine lv_iload_n hx hb dX8_isLand_185 rfl (lv_at hl 2 rfl) ?_
                                  have k_41 := (g_X8_isWalker l D cI cB cQ H.size h sl zs ln ir tk tb tr fz na su le g0_c76 g1_c76 g2_c76 tc g3_c76 r_7 g4_c76 tbf v0 ha_g4_c76 (by omega) (by omega) (by omega) (by omega) (by omega))
                                  refine wc_i (WC := [(h, .inr (7, [.ref sl, .int na, .ref zs, .ref ln, .ref ir, .ref tk, .int su, .int le, .ref tb, .int g0_c76, .int g1_c76, .int g2_c76, .ref tr, .int tc, .ref fz, .int g3_c76])), (sl, .inl (cI, 1653, .inl g4_c76)), (tb, .inl (cB, 120, .inl tbf))]) (WR := []) (va_runV (As := [.int r_7]) (rest := []) ⟨hx, hb, hml, hown, hts⟩ k_41 (cwV 1 hts gX8_isLand_X8_isWalker rfl rfl rfl (by decide +kernel) ⟨Nat.le_of_ble_eq_true rfl, Nat.le_of_ble_eq_true rfl⟩) (wp_V hP hK hD hN [1, 0, 2] (by decide) rfl (ci := 7) rfl rfl) rfl rfl hl.1 rfl (lv_room (Nat.le_of_ble_eq_true rfl)) dX8_isLand_186 ⟨Nat.le_of_ble_eq_true rfl, Nat.le_of_ble_eq_true rfl⟩) hP hD hS hA [1, 0, 2] [] rfl rfl (by decide) (by decide) (fun r_41 => pe5 (fun v41_0 v41_1 v41_2 v41_3 v41_4 H locs hw_41 hP hD hS => ?_))
                                  clear k_41
                                  have hP : va_P D kl [(h, .inr (7, [.ref sl, .int na, .ref zs, .ref ln, .ref ir, .ref tk, .int su, .int le, .ref tb, .int v41_0, .int v41_1, .int v41_2, .ref tr, .int tc, .ref fz, .int v41_3])), (sl, .inl (cI, 1653, .inl v41_4)), (tb, .inl (cB, 120, .inl tbf))] H := hP
                                  have hD : va_D A [(h, .inr (7, [.ref sl, .int na, .ref zs, .ref ln, .ref ir, .ref tk, .int su, .int le, .ref tb, .int v41_0, .int v41_1, .int v41_2, .ref tr, .int tc, .ref fz, .int v41_3])), (sl, .inl (cI, 1653, .inl v41_4)), (tb, .inl (cB, 120, .inl tbf))] := hD
                                  obtain ⟨c41_0, c41_1, c41_2⟩ := hw_41
                                  have c41_1 : 0 ≤ v41_1.toInt ∧ v41_1.toInt ≤ 120 := c41_1
                                  have c41_2 : SI v41_4 v0 := c41_2
                                  rcases c41_0 with ⟨e_41, f_41⟩ | e_41
                                  · subst e_41
                                    have f_41 : g1_c76.toInt < v41_1.toInt := f_41
                                    refine lv_istore (lv' := [(4, .int 1), (1, .int 2), (3, .int r_8), (2, .int r_7), (0, .ref h)]) hx hb dX8_isLand_189 hl (by decide) rfl (fun ls hl => ?_)
                                    refine lv_goto (tgt := 205) hx hb dX8_isLand_191 (by decide) ?_
                                    refine lv_iload hx hb dX8_isLand_205 (lv_at hl 0 rfl) ?_
                                    refine lv_if_ne (tgt := 212) hx hb dX8_isLand_207 (by decide) (fun _ => ?_) (fun c9 => absurd c9 (by decide))
                                    refine lv_goto (tgt := 76) hx hb dX8_isLand_212 (by decide) ?_
                                    exact ih76 2 v41_0 v41_1 v41_2 v41_3 v41_4 _ _ _ (show 0 ≤ v41_1.toInt ∧ v41_1.toInt ≤ 120 from by omega) c41_2 (by omega) (hP.sub [1, 0, 2] rfl) (hD.sub [1, 0, 2] (by decide) rfl) hS (lv_sub hl [1, 4] rfl)
                                  · subst e_41
                                    refine lv_istore (lv' := [(4, .int 0), (1, .int 2), (3, .int r_8), (2, .int r_7), (0, .ref h)]) hx hb dX8_isLand_189 hl (by decide) rfl (fun ls hl => ?_)
                                    refine lv_goto (tgt := 205) hx hb dX8_isLand_191 (by decide) ?_
                                    refine lv_iload hx hb dX8_isLand_205 (lv_at hl 0 rfl) ?_
                                    refine lv_if_ne (tgt := 212) hx hb dX8_isLand_207 (by decide) (fun c9 => absurd (by decide) c9) (fun _ => ?_)
                                    refine lv_iconst (v := 0) hx hb dX8_isLand_210 (by decide) ?_
                                    exact wr_z (v := 0) hx hb hr hlocks hS (v41_0, v41_1, v41_2, v41_3, v41_4) (by exact ⟨Or.inr (rfl), show 0 ≤ (v41_1 : Int32).toInt ∧ (v41_1 : Int32).toInt ≤ 120 from by omega, c41_2⟩) (hP.sub [0, 1, 2] rfl) (hD.sub [0, 1, 2] (by decide) rfl) dX8_isLand_211 rfl
                            · have f_35 : ¬ x_34.toInt ≤ 0 := zi_nle c_35
                              refine lv_iconst (v := 1) hx hb dX8_isLand_156 (by decide) ?_
                              refine lv_istore_n (lv' := [(1, .int 1), (3, .int r_8), (2, .int r_7), (0, .ref h)]) hx hb dX8_isLand_157 rfl hl (by decide) rfl (fun ls hl => ?_)
                              refine lv_aload_n hx hb dX8_isLand_158 rfl (lv_at hl 3 rfl) ?_
                              have k_42 := (g_X8_isRoad l D cI cB cQ H.size h sl zs ln ir tk tb tr fz na su le g0_c76 g1_c76 g2_c76 tc g3_c76 g4_c76 tbf v0 ha_g4_c76 (by omega) (by omega) (by omega) (by omega) (by omega))
                              refine wc_i (WC := [(h, .inr (7, [.ref sl, .int na, .ref zs, .ref ln, .ref ir, .ref tk, .int su, .int le, .ref tb, .int g0_c76, .int g1_c76, .int g2_c76, .ref tr, .int tc, .ref fz, .int g3_c76])), (sl, .inl (cI, 1653, .inl g4_c76)), (tb, .inl (cB, 120, .inl tbf))]) (WR := []) (va_runV (As := []) (rest := []) ⟨hx, hb, hml, hown, hts⟩ k_42 (cwV 0 hts gX8_isLand_X8_isRoad rfl rfl rfl (by decide +kernel) ⟨Nat.le_of_ble_eq_true rfl, Nat.le_of_ble_eq_true rfl⟩) (wp_V hP hK hD hN [1, 0, 2] (by decide) rfl (ci := 7) rfl rfl) rfl rfl hl.1 rfl (lv_room (Nat.le_of_ble_eq_true rfl)) dX8_isLand_159 ⟨Nat.le_of_ble_eq_true rfl, Nat.le_of_ble_eq_true rfl⟩) hP hD hS hA [1, 0, 2] [] rfl rfl (by decide) (by decide) (fun r_42 => pe5 (fun v42_0 v42_1 v42_2 v42_3 v42_4 H locs hw_42 hP hD hS => ?_))
                              clear k_42
                              have hP : va_P D kl [(h, .inr (7, [.ref sl, .int na, .ref zs, .ref ln, .ref ir, .ref tk, .int su, .int le, .ref tb, .int v42_0, .int v42_1, .int v42_2, .ref tr, .int tc, .ref fz, .int v42_3])), (sl, .inl (cI, 1653, .inl v42_4)), (tb, .inl (cB, 120, .inl tbf))] H := hP
                              have hD : va_D A [(h, .inr (7, [.ref sl, .int na, .ref zs, .ref ln, .ref ir, .ref tk, .int su, .int le, .ref tb, .int v42_0, .int v42_1, .int v42_2, .ref tr, .int tc, .ref fz, .int v42_3])), (sl, .inl (cI, 1653, .inl v42_4)), (tb, .inl (cB, 120, .inl tbf))] := hD
                              obtain ⟨c42_0, c42_1, c42_2⟩ := hw_42
                              have c42_1 : 0 ≤ v42_1.toInt ∧ v42_1.toInt ≤ 120 := c42_1
                              have c42_2 : SI v42_4 v0 := c42_2
                              rcases c42_0 with ⟨e_42, f_42⟩ | e_42
                              · subst e_42
                                have f_42 : g1_c76.toInt < v42_1.toInt := f_42
                                refine lv_istore (lv' := [(4, .int 1), (1, .int 1), (3, .int r_8), (2, .int r_7), (0, .ref h)]) hx hb dX8_isLand_162 hl (by decide) rfl (fun ls hl => ?_)
                                refine lv_goto (tgt := 205) hx hb dX8_isLand_164 (by decide) ?_
                                refine lv_iload hx hb dX8_isLand_205 (lv_at hl 0 rfl) ?_
                                refine lv_if_ne (tgt := 212) hx hb dX8_isLand_207 (by decide) (fun _ => ?_) (fun c9 => absurd c9 (by decide))
                                refine lv_goto (tgt := 76) hx hb dX8_isLand_212 (by decide) ?_
                                exact ih76 1 v42_0 v42_1 v42_2 v42_3 v42_4 _ _ _ (show 0 ≤ v42_1.toInt ∧ v42_1.toInt ≤ 120 from by omega) c42_2 (by omega) (hP.sub [1, 0, 2] rfl) (hD.sub [1, 0, 2] (by decide) rfl) hS (lv_sub hl [1, 4] rfl)
                              · subst e_42
                                refine lv_istore (lv' := [(4, .int 0), (1, .int 1), (3, .int r_8), (2, .int r_7), (0, .ref h)]) hx hb dX8_isLand_162 hl (by decide) rfl (fun ls hl => ?_)
                                refine lv_goto (tgt := 205) hx hb dX8_isLand_164 (by decide) ?_
                                refine lv_iload hx hb dX8_isLand_205 (lv_at hl 0 rfl) ?_
                                refine lv_if_ne (tgt := 212) hx hb dX8_isLand_207 (by decide) (fun c9 => absurd (by decide) c9) (fun _ => ?_)
                                refine lv_iconst (v := 0) hx hb dX8_isLand_210 (by decide) ?_
                                exact wr_z (v := 0) hx hb hr hlocks hS (v42_0, v42_1, v42_2, v42_3, v42_4) (by exact ⟨Or.inr (rfl), show 0 ≤ (v42_1 : Int32).toInt ∧ (v42_1 : Int32).toInt ≤ 120 from by omega, c42_2⟩) (hP.sub [0, 1, 2] rfl) (hD.sub [0, 1, 2] (by decide) rfl) dX8_isLand_211 rfl
                      · have f_19 : r_7.toInt = 99 := zi_eq c_19
                        refine lv_iload_n hx hb dX8_isLand_120 rfl (lv_at hl 2 rfl) ?_
                        refine lv_if_ne (tgt := 134) hx hb dX8_isLand_121 (by decide) (fun c_43 => ?_) (fun c_43 => ?_)
                        · have f_43 : ¬ t1_c76.toInt = 0 := zi_ne c_43
                          refine lv_iload_n hx hb dX8_isLand_134 rfl (lv_at hl 1 rfl) ?_
                          refine lv_bipush (v := 114) hx hb dX8_isLand_135 (by decide) ?_
                          refine lv_icmp_ne (tgt := 167) hx hb dX8_isLand_137 (by decide) (fun c_44 => ?_) (fun c_44 => ?_)
                          · have f_44 : ¬ r_7.toInt = 114 := zi_ne c_44
                            refine lv_iload_n hx hb dX8_isLand_167 rfl (lv_at hl 0 rfl) ?_
                            refine lv_if_le (tgt := 194) hx hb dX8_isLand_168 (by decide) (fun c_45 => ?_) (fun c_45 => ?_)
                            · have f_45 : r_8.toInt ≤ 0 := zi_le c_45
                              refine lv_aload_n hx hb dX8_isLand_194 rfl (lv_at hl 3 rfl) ?_
                              refine lv_iconst (v := 1) hx hb dX8_isLand_195 (by decide) ?_
                              refine lv_aload_n hx hb dX8_isLand_196 rfl (lv_at hl 3 rfl) ?_
                              refine va_get (D := D) (ci := 7) (v := .int g1_c76) (C := RX8) (T := TX8) (N := 16) hx hb hts (fun _ h => List.mem_cons_of_mem _ (List.mem_append_right _ h)) hown hK hP 1 rfl rfl 10 (by decide) (hts (.fieldLink RX8 62 "WinterWalkModel" "at" "I") (List.mem_of_getElem? (i := 1) rfl)) (fun _ h9 => h9) rfl dX8_isLand_197 ?_
                              have k_46 := (g_X8_fails l D cI cB cQ H.size h sl zs ln ir tk tb tr fz na su le g0_c76 g1_c76 g2_c76 tc g3_c76 1 g1_c76)
                              refine wc_i (WC := [(h, .inr (7, [.ref sl, .int na, .ref zs, .ref ln, .ref ir, .ref tk, .int su, .int le, .ref tb, .int g0_c76, .int g1_c76, .int g2_c76, .ref tr, .int tc, .ref fz, .int g3_c76]))]) (WR := [(sl, .inl (cI, 1653, .inl g4_c76)), (tb, .inl (cB, 120, .inl tbf))]) (va_runV (As := [.int 1, .int g1_c76]) (rest := []) ⟨hx, hb, hml, hown, hts⟩ k_46 (cwV 2 hts gX8_isLand_X8_fails rfl rfl rfl (by decide +kernel) ⟨Nat.le_of_ble_eq_true rfl, Nat.le_of_ble_eq_true rfl⟩) (wp_V hP hK hD hN [1] (by decide) rfl (ci := 7) rfl rfl) rfl rfl hl.1 rfl (lv_room (Nat.le_of_ble_eq_true rfl)) dX8_isLand_200 ⟨Nat.le_of_ble_eq_true rfl, Nat.le_of_ble_eq_true rfl⟩) hP hD hS hA [1] [0, 2] rfl rfl (by decide) (by decide) (fun r_46 => pe2 (fun v46_0 v46_1 H locs hw_46 hP hD hS => ?_))
                              clear k_46
                              have hP : va_P D kl [(sl, .inl (cI, 1653, .inl g4_c76)), (tb, .inl (cB, 120, .inl tbf)), (h, .inr (7, [.ref sl, .int na, .ref zs, .ref ln, .ref ir, .ref tk, .int su, .int le, .ref tb, .int v46_0, .int g1_c76, .int v46_1, .ref tr, .int tc, .ref fz, .int g3_c76]))] H := hP
                              have hD : va_D A [(sl, .inl (cI, 1653, .inl g4_c76)), (tb, .inl (cB, 120, .inl tbf)), (h, .inr (7, [.ref sl, .int na, .ref zs, .ref ln, .ref ir, .ref tk, .int su, .int le, .ref tb, .int v46_0, .int g1_c76, .int v46_1, .ref tr, .int tc, .ref fz, .int g3_c76]))] := hD
                              have c46_0 := hw_46
                              have e_46 := c46_0
                              · subst e_46
                                refine lv_istore (lv' := [(4, .int 0), (3, .int r_8), (2, .int r_7), (1, .int t1_c76), (0, .ref h)]) hx hb dX8_isLand_203 hl (by decide) rfl (fun ls hl => ?_)
                                refine lv_iload hx hb dX8_isLand_205 (lv_at hl 0 rfl) ?_
                                refine lv_if_ne (tgt := 212) hx hb dX8_isLand_207 (by decide) (fun c9 => absurd (by decide) c9) (fun _ => ?_)
                                refine lv_iconst (v := 0) hx hb dX8_isLand_210 (by decide) ?_
                                exact wr_z (v := 0) hx hb hr hlocks hS (v46_0, g1_c76, v46_1, g3_c76, g4_c76) (by exact ⟨Or.inr (rfl), show 0 ≤ (g1_c76 : Int32).toInt ∧ (g1_c76 : Int32).toInt ≤ 120 from by omega, ha_g4_c76⟩) (hP.sub [2, 0, 1] rfl) (hD.sub [2, 0, 1] (by decide) rfl) dX8_isLand_211 rfl
                            · have f_45 : ¬ r_8.toInt ≤ 0 := zi_nle c_45
                              refine lv_aload_n hx hb dX8_isLand_171 rfl (lv_at hl 3 rfl) ?_
                              refine va_get (D := D) (ci := 7) (v := .ref sl) (C := RX8) (T := TX8) (N := 16) hx hb hts (fun _ h => List.mem_cons_of_mem _ (List.mem_append_right _ h)) hown hK hP 1 rfl rfl 0 (by decide) (hts (.fieldLink RX8 7 "WinterWalkModel" "slot" "[I") (List.mem_of_getElem? (i := 2) rfl)) (fun _ h9 => h9) rfl dX8_isLand_172 ?_
                              refine lv_sipush (v := 1597) hx hb dX8_isLand_175 (by decide) ?_
                              refine va_iald hx hb hK hP 0 0 rfl rfl (zi_in (by decide) (by decide)) dX8_isLand_178 ?_
                              refine lv_topi (fun x_47 ex_47 => ?_)
                              have f_47 : 0 ≤ x_47.toInt ∧ x_47.toInt ≤ 8 := by rw [ex_47]; exact si_v ha_g4_c76 (s := 28) (by decide) (by omega)
                              refine lv_if_le (tgt := 194) hx hb dX8_isLand_179 (by decide) (fun c_48 => ?_) (fun c_48 => ?_)
                              · have f_48 : x_47.toInt ≤ 0 := zi_le c_48
                                refine lv_aload_n hx hb dX8_isLand_194 rfl (lv_at hl 3 rfl) ?_
                                refine lv_iconst (v := 1) hx hb dX8_isLand_195 (by decide) ?_
                                refine lv_aload_n hx hb dX8_isLand_196 rfl (lv_at hl 3 rfl) ?_
                                refine va_get (D := D) (ci := 7) (v := .int g1_c76) (C := RX8) (T := TX8) (N := 16) hx hb hts (fun _ h => List.mem_cons_of_mem _ (List.mem_append_right _ h)) hown hK hP 1 rfl rfl 10 (by decide) (hts (.fieldLink RX8 62 "WinterWalkModel" "at" "I") (List.mem_of_getElem? (i := 1) rfl)) (fun _ h9 => h9) rfl dX8_isLand_197 ?_
                                have k_49 := (g_X8_fails l D cI cB cQ H.size h sl zs ln ir tk tb tr fz na su le g0_c76 g1_c76 g2_c76 tc g3_c76 1 g1_c76)
                                refine wc_i (WC := [(h, .inr (7, [.ref sl, .int na, .ref zs, .ref ln, .ref ir, .ref tk, .int su, .int le, .ref tb, .int g0_c76, .int g1_c76, .int g2_c76, .ref tr, .int tc, .ref fz, .int g3_c76]))]) (WR := [(sl, .inl (cI, 1653, .inl g4_c76)), (tb, .inl (cB, 120, .inl tbf))]) (va_runV (As := [.int 1, .int g1_c76]) (rest := []) ⟨hx, hb, hml, hown, hts⟩ k_49 (cwV 2 hts gX8_isLand_X8_fails rfl rfl rfl (by decide +kernel) ⟨Nat.le_of_ble_eq_true rfl, Nat.le_of_ble_eq_true rfl⟩) (wp_V hP hK hD hN [1] (by decide) rfl (ci := 7) rfl rfl) rfl rfl hl.1 rfl (lv_room (Nat.le_of_ble_eq_true rfl)) dX8_isLand_200 ⟨Nat.le_of_ble_eq_true rfl, Nat.le_of_ble_eq_true rfl⟩) hP hD hS hA [1] [0, 2] rfl rfl (by decide) (by decide) (fun r_49 => pe2 (fun v49_0 v49_1 H locs hw_49 hP hD hS => ?_))
                                clear k_49
                                have hP : va_P D kl [(sl, .inl (cI, 1653, .inl g4_c76)), (tb, .inl (cB, 120, .inl tbf)), (h, .inr (7, [.ref sl, .int na, .ref zs, .ref ln, .ref ir, .ref tk, .int su, .int le, .ref tb, .int v49_0, .int g1_c76, .int v49_1, .ref tr, .int tc, .ref fz, .int g3_c76]))] H := hP
                                have hD : va_D A [(sl, .inl (cI, 1653, .inl g4_c76)), (tb, .inl (cB, 120, .inl tbf)), (h, .inr (7, [.ref sl, .int na, .ref zs, .ref ln, .ref ir, .ref tk, .int su, .int le, .ref tb, .int v49_0, .int g1_c76, .int v49_1, .ref tr, .int tc, .ref fz, .int g3_c76]))] := hD
                                have c49_0 := hw_49
                                have e_49 := c49_0
                                · subst e_49
                                  refine lv_istore (lv' := [(4, .int 0), (3, .int r_8), (2, .int r_7), (1, .int t1_c76), (0, .ref h)]) hx hb dX8_isLand_203 hl (by decide) rfl (fun ls hl => ?_)
                                  refine lv_iload hx hb dX8_isLand_205 (lv_at hl 0 rfl) ?_
                                  refine lv_if_ne (tgt := 212) hx hb dX8_isLand_207 (by decide) (fun c9 => absurd (by decide) c9) (fun _ => ?_)
                                  refine lv_iconst (v := 0) hx hb dX8_isLand_210 (by decide) ?_
                                  exact wr_z (v := 0) hx hb hr hlocks hS (v49_0, g1_c76, v49_1, g3_c76, g4_c76) (by exact ⟨Or.inr (rfl), show 0 ≤ (g1_c76 : Int32).toInt ∧ (g1_c76 : Int32).toInt ≤ 120 from by omega, ha_g4_c76⟩) (hP.sub [2, 0, 1] rfl) (hD.sub [2, 0, 1] (by decide) rfl) dX8_isLand_211 rfl
                              · have f_48 : ¬ x_47.toInt ≤ 0 := zi_nle c_48
                                refine lv_iconst (v := 2) hx hb dX8_isLand_182 (by decide) ?_
                                refine lv_istore_n (lv' := [(1, .int 2), (3, .int r_8), (2, .int r_7), (0, .ref h)]) hx hb dX8_isLand_183 rfl hl (by decide) rfl (fun ls hl => ?_)
                                refine lv_aload_n hx hb dX8_isLand_184 rfl (lv_at hl 3 rfl) ?_
                                refine lv_iload_n hx hb dX8_isLand_185 rfl (lv_at hl 2 rfl) ?_
                                have k_50 := (g_X8_isWalker l D cI cB cQ H.size h sl zs ln ir tk tb tr fz na su le g0_c76 g1_c76 g2_c76 tc g3_c76 r_7 g4_c76 tbf v0 ha_g4_c76 (by omega) (by omega) (by omega) (by omega) (by omega))
                                refine wc_i (WC := [(h, .inr (7, [.ref sl, .int na, .ref zs, .ref ln, .ref ir, .ref tk, .int su, .int le, .ref tb, .int g0_c76, .int g1_c76, .int g2_c76, .ref tr, .int tc, .ref fz, .int g3_c76])), (sl, .inl (cI, 1653, .inl g4_c76)), (tb, .inl (cB, 120, .inl tbf))]) (WR := []) (va_runV (As := [.int r_7]) (rest := []) ⟨hx, hb, hml, hown, hts⟩ k_50 (cwV 1 hts gX8_isLand_X8_isWalker rfl rfl rfl (by decide +kernel) ⟨Nat.le_of_ble_eq_true rfl, Nat.le_of_ble_eq_true rfl⟩) (wp_V hP hK hD hN [1, 0, 2] (by decide) rfl (ci := 7) rfl rfl) rfl rfl hl.1 rfl (lv_room (Nat.le_of_ble_eq_true rfl)) dX8_isLand_186 ⟨Nat.le_of_ble_eq_true rfl, Nat.le_of_ble_eq_true rfl⟩) hP hD hS hA [1, 0, 2] [] rfl rfl (by decide) (by decide) (fun r_50 => pe5 (fun v50_0 v50_1 v50_2 v50_3 v50_4 H locs hw_50 hP hD hS => ?_))
                                clear k_50
                                have hP : va_P D kl [(h, .inr (7, [.ref sl, .int na, .ref zs, .ref ln, .ref ir, .ref tk, .int su, .int le, .ref tb, .int v50_0, .int v50_1, .int v50_2, .ref tr, .int tc, .ref fz, .int v50_3])), (sl, .inl (cI, 1653, .inl v50_4)), (tb, .inl (cB, 120, .inl tbf))] H := hP
                                have hD : va_D A [(h, .inr (7, [.ref sl, .int na, .ref zs, .ref ln, .ref ir, .ref tk, .int su, .int le, .ref tb, .int v50_0, .int v50_1, .int v50_2, .ref tr, .int tc, .ref fz, .int v50_3])), (sl, .inl (cI, 1653, .inl v50_4)), (tb, .inl (cB, 120, .inl tbf))] := hD
                                obtain ⟨c50_0, c50_1, c50_2⟩ := hw_50
                                have c50_1 : 0 ≤ v50_1.toInt ∧ v50_1.toInt ≤ 120 := c50_1
                                have c50_2 : SI v50_4 v0 := c50_2
                                rcases c50_0 with ⟨e_50, f_50⟩ | e_50
                                · subst e_50
                                  have f_50 : g1_c76.toInt < v50_1.toInt := f_50
                                  refine lv_istore (lv' := [(4, .int 1), (1, .int 2), (3, .int r_8), (2, .int r_7), (0, .ref h)]) hx hb dX8_isLand_189 hl (by decide) rfl (fun ls hl => ?_)
                                  refine lv_goto (tgt := 205) hx hb dX8_isLand_191 (by decide) ?_
                                  refine lv_iload hx hb dX8_isLand_205 (lv_at hl 0 rfl) ?_
                                  refine lv_if_ne (tgt := 212) hx hb dX8_isLand_207 (by decide) (fun _ => ?_) (fun c9 => absurd c9 (by decide))
                                  refine lv_goto (tgt := 76) hx hb dX8_isLand_212 (by decide) ?_
                                  exact ih76 2 v50_0 v50_1 v50_2 v50_3 v50_4 _ _ _ (show 0 ≤ v50_1.toInt ∧ v50_1.toInt ≤ 120 from by omega) c50_2 (by omega) (hP.sub [1, 0, 2] rfl) (hD.sub [1, 0, 2] (by decide) rfl) hS (lv_sub hl [1, 4] rfl)
                                · subst e_50
                                  refine lv_istore (lv' := [(4, .int 0), (1, .int 2), (3, .int r_8), (2, .int r_7), (0, .ref h)]) hx hb dX8_isLand_189 hl (by decide) rfl (fun ls hl => ?_)
                                  refine lv_goto (tgt := 205) hx hb dX8_isLand_191 (by decide) ?_
                                  refine lv_iload hx hb dX8_isLand_205 (lv_at hl 0 rfl) ?_
                                  refine lv_if_ne (tgt := 212) hx hb dX8_isLand_207 (by decide) (fun c9 => absurd (by decide) c9) (fun _ => ?_)
                                  refine lv_iconst (v := 0) hx hb dX8_isLand_210 (by decide) ?_
                                  exact wr_z (v := 0) hx hb hr hlocks hS (v50_0, v50_1, v50_2, v50_3, v50_4) (by exact ⟨Or.inr (rfl), show 0 ≤ (v50_1 : Int32).toInt ∧ (v50_1 : Int32).toInt ≤ 120 from by omega, c50_2⟩) (hP.sub [0, 1, 2] rfl) (hD.sub [0, 1, 2] (by decide) rfl) dX8_isLand_211 rfl
                          · have f_44 : r_7.toInt = 114 := zi_eq c_44
                            exfalso; omega
                        · have f_43 : t1_c76.toInt = 0 := zi_eq c_43
                          refine lv_aload_n hx hb dX8_isLand_124 rfl (lv_at hl 3 rfl) ?_
                          refine lv_iload_n hx hb dX8_isLand_125 rfl (lv_at hl 1 rfl) ?_
                          have k_51 := (g_X8_isVillage l D cI cB cQ H.size h sl zs ln ir tk tb tr fz na su le g0_c76 g1_c76 g2_c76 tc g3_c76 r_7 g4_c76 tbf v0 ha_g4_c76 (by omega) (by omega) (by omega) (by omega) (by omega))
                          refine wc_i (WC := [(h, .inr (7, [.ref sl, .int na, .ref zs, .ref ln, .ref ir, .ref tk, .int su, .int le, .ref tb, .int g0_c76, .int g1_c76, .int g2_c76, .ref tr, .int tc, .ref fz, .int g3_c76])), (sl, .inl (cI, 1653, .inl g4_c76)), (tb, .inl (cB, 120, .inl tbf))]) (WR := []) (va_runV (As := [.int r_7]) (rest := []) ⟨hx, hb, hml, hown, hts⟩ k_51 (cwV 1 hts gX8_isLand_X8_isVillage rfl rfl rfl (by decide +kernel) ⟨Nat.le_of_ble_eq_true rfl, Nat.le_of_ble_eq_true rfl⟩) (wp_V hP hK hD hN [1, 0, 2] (by decide) rfl (ci := 7) rfl rfl) rfl rfl hl.1 rfl (lv_room (Nat.le_of_ble_eq_true rfl)) dX8_isLand_126 ⟨Nat.le_of_ble_eq_true rfl, Nat.le_of_ble_eq_true rfl⟩) hP hD hS hA [1, 0, 2] [] rfl rfl (by decide) (by decide) (fun r_51 => pe5 (fun v51_0 v51_1 v51_2 v51_3 v51_4 H locs hw_51 hP hD hS => ?_))
                          clear k_51
                          have hP : va_P D kl [(h, .inr (7, [.ref sl, .int na, .ref zs, .ref ln, .ref ir, .ref tk, .int su, .int le, .ref tb, .int v51_0, .int v51_1, .int v51_2, .ref tr, .int tc, .ref fz, .int v51_3])), (sl, .inl (cI, 1653, .inl v51_4)), (tb, .inl (cB, 120, .inl tbf))] H := hP
                          have hD : va_D A [(h, .inr (7, [.ref sl, .int na, .ref zs, .ref ln, .ref ir, .ref tk, .int su, .int le, .ref tb, .int v51_0, .int v51_1, .int v51_2, .ref tr, .int tc, .ref fz, .int v51_3])), (sl, .inl (cI, 1653, .inl v51_4)), (tb, .inl (cB, 120, .inl tbf))] := hD
                          obtain ⟨c51_0, c51_1, c51_2⟩ := hw_51
                          have c51_1 : 0 ≤ v51_1.toInt ∧ v51_1.toInt ≤ 120 := c51_1
                          have c51_2 : SI v51_4 v0 := c51_2
                          rcases c51_0 with ⟨e_51, f_51⟩ | e_51
                          · subst e_51
                            have f_51 : g1_c76.toInt < v51_1.toInt := f_51
                            refine lv_istore (lv' := [(4, .int 1), (3, .int r_8), (2, .int r_7), (1, .int t1_c76), (0, .ref h)]) hx hb dX8_isLand_129 hl (by decide) rfl (fun ls hl => ?_)
                            refine lv_goto (tgt := 205) hx hb dX8_isLand_131 (by decide) ?_
                            refine lv_iload hx hb dX8_isLand_205 (lv_at hl 0 rfl) ?_
                            refine lv_if_ne (tgt := 212) hx hb dX8_isLand_207 (by decide) (fun _ => ?_) (fun c9 => absurd c9 (by decide))
                            refine lv_goto (tgt := 76) hx hb dX8_isLand_212 (by decide) ?_
                            exact ih76 t1_c76 v51_0 v51_1 v51_2 v51_3 v51_4 _ _ _ (show 0 ≤ v51_1.toInt ∧ v51_1.toInt ≤ 120 from by omega) c51_2 (by omega) (hP.sub [1, 0, 2] rfl) (hD.sub [1, 0, 2] (by decide) rfl) hS (lv_sub hl [3, 4] rfl)
                          · subst e_51
                            refine lv_istore (lv' := [(4, .int 0), (3, .int r_8), (2, .int r_7), (1, .int t1_c76), (0, .ref h)]) hx hb dX8_isLand_129 hl (by decide) rfl (fun ls hl => ?_)
                            refine lv_goto (tgt := 205) hx hb dX8_isLand_131 (by decide) ?_
                            refine lv_iload hx hb dX8_isLand_205 (lv_at hl 0 rfl) ?_
                            refine lv_if_ne (tgt := 212) hx hb dX8_isLand_207 (by decide) (fun c9 => absurd (by decide) c9) (fun _ => ?_)
                            refine lv_iconst (v := 0) hx hb dX8_isLand_210 (by decide) ?_
                            exact wr_z (v := 0) hx hb hr hlocks hS (v51_0, v51_1, v51_2, v51_3, v51_4) (by exact ⟨Or.inr (rfl), show 0 ≤ (v51_1 : Int32).toInt ∧ (v51_1 : Int32).toInt ≤ 120 from by omega, c51_2⟩) (hP.sub [0, 1, 2] rfl) (hD.sub [0, 1, 2] (by decide) rfl) dX8_isLand_211 rfl
                  · have f_6 : ¬ g1_c76.toInt < le.toInt := zi_nlt c_6
                    refine lv_aload_n hx hb dX8_isLand_87 rfl (lv_at hl 1 rfl) ?_
                    refine va_get (D := D) (ci := 7) (v := .ref sl) (C := RX8) (T := TX8) (N := 16) hx hb hts (fun _ h => List.mem_cons_of_mem _ (List.mem_append_right _ h)) hown hK hP 1 rfl rfl 0 (by decide) (hts (.fieldLink RX8 7 "WinterWalkModel" "slot" "[I") (List.mem_of_getElem? (i := 2) rfl)) (fun _ h9 => h9) rfl dX8_isLand_88 ?_
                    refine lv_sipush (v := 1597) hx hb dX8_isLand_91 (by decide) ?_
                    refine va_iald hx hb hK hP 0 0 rfl rfl (zi_in (by decide) (by decide)) dX8_isLand_94 ?_
                    refine lv_topi (fun x_52 ex_52 => ?_)
                    have f_52 : 0 ≤ x_52.toInt ∧ x_52.toInt ≤ 8 := by rw [ex_52]; exact si_v ha_g4_c76 (s := 28) (by decide) (by omega)
                    refine lv_if_ne (tgt := 215) hx hb dX8_isLand_95 (by decide) (fun c_53 => ?_) (fun c_53 => ?_)
                    · have f_53 : ¬ x_52.toInt = 0 := zi_ne c_53
                      refine lv_iconst (v := 1) hx hb dX8_isLand_215 (by decide) ?_
                      exact wr_z (v := 1) hx hb hr hlocks hS (g0_c76, g1_c76, g2_c76, g3_c76, g4_c76) (by exact ⟨Or.inl rfl, show 0 ≤ (g1_c76 : Int32).toInt ∧ (g1_c76 : Int32).toInt ≤ 120 from by omega, ha_g4_c76⟩) (hP.sub [1, 0, 2] rfl) (hD.sub [1, 0, 2] (by decide) rfl) dX8_isLand_216 rfl
                    · have f_53 : x_52.toInt = 0 := zi_eq c_53
                      refine lv_aload_n hx hb dX8_isLand_98 rfl (lv_at hl 1 rfl) ?_
                      have k_54 := (g_X8_next l D cI cB cQ H.size h sl zs ln ir tk tb tr fz na su le g0_c76 g1_c76 g2_c76 tc g3_c76 tbf (by omega) (by omega) (by omega) (by omega))
                      refine wc_i (WC := [(h, .inr (7, [.ref sl, .int na, .ref zs, .ref ln, .ref ir, .ref tk, .int su, .int le, .ref tb, .int g0_c76, .int g1_c76, .int g2_c76, .ref tr, .int tc, .ref fz, .int g3_c76])), (tb, .inl (cB, 120, .inl tbf))]) (WR := [(sl, .inl (cI, 1653, .inl g4_c76))]) (va_runV (As := []) (rest := []) ⟨hx, hb, hml, hown, hts⟩ k_54 (cwV 0 hts gX8_isLand_X8_next rfl rfl rfl (by decide +kernel) ⟨Nat.le_of_ble_eq_true rfl, Nat.le_of_ble_eq_true rfl⟩) (wp_V hP hK hD hN [1, 2] (by decide) rfl (ci := 7) rfl rfl) rfl rfl hl.1 rfl (lv_room (Nat.le_of_ble_eq_true rfl)) dX8_isLand_99 ⟨Nat.le_of_ble_eq_true rfl, Nat.le_of_ble_eq_true rfl⟩) hP hD hS hA [1, 2] [0] rfl rfl (by decide) (by decide) (fun r_54 u_54 H locs hw_54 hP hD hS => ?_)
                      clear k_54
                      have hP : va_P D kl [(sl, .inl (cI, 1653, .inl g4_c76)), (h, .inr (7, [.ref sl, .int na, .ref zs, .ref ln, .ref ir, .ref tk, .int su, .int le, .ref tb, .int g0_c76, .int g1_c76, .int g2_c76, .ref tr, .int tc, .ref fz, .int g3_c76])), (tb, .inl (cB, 120, .inl tbf))] H := hP
                      have hD : va_D A [(sl, .inl (cI, 1653, .inl g4_c76)), (h, .inr (7, [.ref sl, .int na, .ref zs, .ref ln, .ref ir, .ref tk, .int su, .int le, .ref tb, .int g0_c76, .int g1_c76, .int g2_c76, .ref tr, .int tc, .ref fz, .int g3_c76])), (tb, .inl (cB, 120, .inl tbf))] := hD
                      have c54_0 := hw_54
                      have c54_0 : r_54.toInt = (-1) ∨ g1_c76.toInt < le.toInt := c54_0
                      refine lv_istore_n (lv' := [(2, .int r_54), (1, .int t1_c76), (0, .ref h)]) hx hb dX8_isLand_102 rfl hl (by decide) rfl (fun ls hl => ?_)
                      refine lv_iload_n hx hb dX8_isLand_103 rfl (lv_at hl 0 rfl) ?_
                      have k_55 := (g_X8_sortOf l D cI cB cQ H.size r_54)
                      refine wc_i (WC := []) (WR := [(sl, .inl (cI, 1653, .inl g4_c76)), (h, .inr (7, [.ref sl, .int na, .ref zs, .ref ln, .ref ir, .ref tk, .int su, .int le, .ref tb, .int g0_c76, .int g1_c76, .int g2_c76, .ref tr, .int tc, .ref fz, .int g3_c76])), (tb, .inl (cB, 120, .inl tbf))]) (va_runS (As := [.int r_54]) (rest := []) ⟨hx, hb, hml, hown, hts⟩ k_55 (va_cwS 1 hts gX8_isLand_X8_sortOf rfl rfl rfl (by decide +kernel) ⟨Nat.le_of_ble_eq_true rfl, Nat.le_of_ble_eq_true rfl⟩) (wp_S hP hK hD hN [] (by decide) rfl) rfl rfl hl.1 rfl (lv_room (Nat.le_of_ble_eq_true rfl)) dX8_isLand_104 ⟨Nat.le_of_ble_eq_true rfl, Nat.le_of_ble_eq_true rfl⟩) hP hD hS hA [] [0, 1, 2] rfl rfl (by decide) (by decide) (fun r_55 u_55 H locs hw_55 hP hD hS => ?_)
                      clear k_55
                      have hP : va_P D kl [(sl, .inl (cI, 1653, .inl g4_c76)), (h, .inr (7, [.ref sl, .int na, .ref zs, .ref ln, .ref ir, .ref tk, .int su, .int le, .ref tb, .int g0_c76, .int g1_c76, .int g2_c76, .ref tr, .int tc, .ref fz, .int g3_c76])), (tb, .inl (cB, 120, .inl tbf))] H := hP
                      have hD : va_D A [(sl, .inl (cI, 1653, .inl g4_c76)), (h, .inr (7, [.ref sl, .int na, .ref zs, .ref ln, .ref ir, .ref tk, .int su, .int le, .ref tb, .int g0_c76, .int g1_c76, .int g2_c76, .ref tr, .int tc, .ref fz, .int g3_c76])), (tb, .inl (cB, 120, .inl tbf))] := hD
                      have c55_0 := hw_55
                      have c55_0 : (0 ≤ r_55.toInt ∧ r_55.toInt ≤ 5) ∧ (r_55.toInt = 0 ∨ 0 ≤ r_54.toInt) := c55_0
                      refine lv_istore_n (lv' := [(3, .int r_55), (2, .int r_54), (1, .int t1_c76), (0, .ref h)]) hx hb dX8_isLand_107 rfl hl (by decide) rfl (fun ls hl => ?_)
                      refine lv_iload_n hx hb dX8_isLand_108 rfl (lv_at hl 1 rfl) ?_
                      refine lv_bipush (v := 103) hx hb dX8_isLand_109 (by decide) ?_
                      refine lv_icmp_eq (tgt := 120) hx hb dX8_isLand_111 (by decide) (fun c_56 => ?_) (fun c_56 => ?_)
                      · have f_56 : r_54.toInt = 103 := zi_eq c_56
                        refine lv_iload_n hx hb dX8_isLand_120 rfl (lv_at hl 2 rfl) ?_
                        refine lv_if_ne (tgt := 134) hx hb dX8_isLand_121 (by decide) (fun c_57 => ?_) (fun c_57 => ?_)
                        · have f_57 : ¬ t1_c76.toInt = 0 := zi_ne c_57
                          refine lv_iload_n hx hb dX8_isLand_134 rfl (lv_at hl 1 rfl) ?_
                          refine lv_bipush (v := 114) hx hb dX8_isLand_135 (by decide) ?_
                          refine lv_icmp_ne (tgt := 167) hx hb dX8_isLand_137 (by decide) (fun c_58 => ?_) (fun c_58 => ?_)
                          · have f_58 : ¬ r_54.toInt = 114 := zi_ne c_58
                            refine lv_iload_n hx hb dX8_isLand_167 rfl (lv_at hl 0 rfl) ?_
                            refine lv_if_le (tgt := 194) hx hb dX8_isLand_168 (by decide) (fun c_59 => ?_) (fun c_59 => ?_)
                            · have f_59 : r_55.toInt ≤ 0 := zi_le c_59
                              refine lv_aload_n hx hb dX8_isLand_194 rfl (lv_at hl 3 rfl) ?_
                              refine lv_iconst (v := 1) hx hb dX8_isLand_195 (by decide) ?_
                              refine lv_aload_n hx hb dX8_isLand_196 rfl (lv_at hl 3 rfl) ?_
                              refine va_get (D := D) (ci := 7) (v := .int g1_c76) (C := RX8) (T := TX8) (N := 16) hx hb hts (fun _ h => List.mem_cons_of_mem _ (List.mem_append_right _ h)) hown hK hP 1 rfl rfl 10 (by decide) (hts (.fieldLink RX8 62 "WinterWalkModel" "at" "I") (List.mem_of_getElem? (i := 1) rfl)) (fun _ h9 => h9) rfl dX8_isLand_197 ?_
                              have k_60 := (g_X8_fails l D cI cB cQ H.size h sl zs ln ir tk tb tr fz na su le g0_c76 g1_c76 g2_c76 tc g3_c76 1 g1_c76)
                              refine wc_i (WC := [(h, .inr (7, [.ref sl, .int na, .ref zs, .ref ln, .ref ir, .ref tk, .int su, .int le, .ref tb, .int g0_c76, .int g1_c76, .int g2_c76, .ref tr, .int tc, .ref fz, .int g3_c76]))]) (WR := [(sl, .inl (cI, 1653, .inl g4_c76)), (tb, .inl (cB, 120, .inl tbf))]) (va_runV (As := [.int 1, .int g1_c76]) (rest := []) ⟨hx, hb, hml, hown, hts⟩ k_60 (cwV 2 hts gX8_isLand_X8_fails rfl rfl rfl (by decide +kernel) ⟨Nat.le_of_ble_eq_true rfl, Nat.le_of_ble_eq_true rfl⟩) (wp_V hP hK hD hN [1] (by decide) rfl (ci := 7) rfl rfl) rfl rfl hl.1 rfl (lv_room (Nat.le_of_ble_eq_true rfl)) dX8_isLand_200 ⟨Nat.le_of_ble_eq_true rfl, Nat.le_of_ble_eq_true rfl⟩) hP hD hS hA [1] [0, 2] rfl rfl (by decide) (by decide) (fun r_60 => pe2 (fun v60_0 v60_1 H locs hw_60 hP hD hS => ?_))
                              clear k_60
                              have hP : va_P D kl [(sl, .inl (cI, 1653, .inl g4_c76)), (tb, .inl (cB, 120, .inl tbf)), (h, .inr (7, [.ref sl, .int na, .ref zs, .ref ln, .ref ir, .ref tk, .int su, .int le, .ref tb, .int v60_0, .int g1_c76, .int v60_1, .ref tr, .int tc, .ref fz, .int g3_c76]))] H := hP
                              have hD : va_D A [(sl, .inl (cI, 1653, .inl g4_c76)), (tb, .inl (cB, 120, .inl tbf)), (h, .inr (7, [.ref sl, .int na, .ref zs, .ref ln, .ref ir, .ref tk, .int su, .int le, .ref tb, .int v60_0, .int g1_c76, .int v60_1, .ref tr, .int tc, .ref fz, .int g3_c76]))] := hD
                              have c60_0 := hw_60
                              have e_60 := c60_0
                              · subst e_60
                                refine lv_istore (lv' := [(4, .int 0), (3, .int r_55), (2, .int r_54), (1, .int t1_c76), (0, .ref h)]) hx hb dX8_isLand_203 hl (by decide) rfl (fun ls hl => ?_)
                                refine lv_iload hx hb dX8_isLand_205 (lv_at hl 0 rfl) ?_
                                refine lv_if_ne (tgt := 212) hx hb dX8_isLand_207 (by decide) (fun c9 => absurd (by decide) c9) (fun _ => ?_)
                                refine lv_iconst (v := 0) hx hb dX8_isLand_210 (by decide) ?_
                                exact wr_z (v := 0) hx hb hr hlocks hS (v60_0, g1_c76, v60_1, g3_c76, g4_c76) (by exact ⟨Or.inr (rfl), show 0 ≤ (g1_c76 : Int32).toInt ∧ (g1_c76 : Int32).toInt ≤ 120 from by omega, ha_g4_c76⟩) (hP.sub [2, 0, 1] rfl) (hD.sub [2, 0, 1] (by decide) rfl) dX8_isLand_211 rfl
                            · have f_59 : ¬ r_55.toInt ≤ 0 := zi_nle c_59
                              refine lv_aload_n hx hb dX8_isLand_171 rfl (lv_at hl 3 rfl) ?_
                              refine va_get (D := D) (ci := 7) (v := .ref sl) (C := RX8) (T := TX8) (N := 16) hx hb hts (fun _ h => List.mem_cons_of_mem _ (List.mem_append_right _ h)) hown hK hP 1 rfl rfl 0 (by decide) (hts (.fieldLink RX8 7 "WinterWalkModel" "slot" "[I") (List.mem_of_getElem? (i := 2) rfl)) (fun _ h9 => h9) rfl dX8_isLand_172 ?_
                              refine lv_sipush (v := 1597) hx hb dX8_isLand_175 (by decide) ?_
                              refine va_iald hx hb hK hP 0 0 rfl rfl (zi_in (by decide) (by decide)) dX8_isLand_178 ?_
                              refine lv_topi (fun x_61 ex_61 => ?_)
                              have f_61 : 0 ≤ x_61.toInt ∧ x_61.toInt ≤ 8 := by rw [ex_61]; exact si_v ha_g4_c76 (s := 28) (by decide) (by omega)
                              refine lv_if_le (tgt := 194) hx hb dX8_isLand_179 (by decide) (fun c_62 => ?_) (fun c_62 => ?_)
                              · have f_62 : x_61.toInt ≤ 0 := zi_le c_62
                                refine lv_aload_n hx hb dX8_isLand_194 rfl (lv_at hl 3 rfl) ?_
                                refine lv_iconst (v := 1) hx hb dX8_isLand_195 (by decide) ?_
                                refine lv_aload_n hx hb dX8_isLand_196 rfl (lv_at hl 3 rfl) ?_
                                refine va_get (D := D) (ci := 7) (v := .int g1_c76) (C := RX8) (T := TX8) (N := 16) hx hb hts (fun _ h => List.mem_cons_of_mem _ (List.mem_append_right _ h)) hown hK hP 1 rfl rfl 10 (by decide) (hts (.fieldLink RX8 62 "WinterWalkModel" "at" "I") (List.mem_of_getElem? (i := 1) rfl)) (fun _ h9 => h9) rfl dX8_isLand_197 ?_
                                have k_63 := (g_X8_fails l D cI cB cQ H.size h sl zs ln ir tk tb tr fz na su le g0_c76 g1_c76 g2_c76 tc g3_c76 1 g1_c76)
                                refine wc_i (WC := [(h, .inr (7, [.ref sl, .int na, .ref zs, .ref ln, .ref ir, .ref tk, .int su, .int le, .ref tb, .int g0_c76, .int g1_c76, .int g2_c76, .ref tr, .int tc, .ref fz, .int g3_c76]))]) (WR := [(sl, .inl (cI, 1653, .inl g4_c76)), (tb, .inl (cB, 120, .inl tbf))]) (va_runV (As := [.int 1, .int g1_c76]) (rest := []) ⟨hx, hb, hml, hown, hts⟩ k_63 (cwV 2 hts gX8_isLand_X8_fails rfl rfl rfl (by decide +kernel) ⟨Nat.le_of_ble_eq_true rfl, Nat.le_of_ble_eq_true rfl⟩) (wp_V hP hK hD hN [1] (by decide) rfl (ci := 7) rfl rfl) rfl rfl hl.1 rfl (lv_room (Nat.le_of_ble_eq_true rfl)) dX8_isLand_200 ⟨Nat.le_of_ble_eq_true rfl, Nat.le_of_ble_eq_true rfl⟩) hP hD hS hA [1] [0, 2] rfl rfl (by decide) (by decide) (fun r_63 => pe2 (fun v63_0 v63_1 H locs hw_63 hP hD hS => ?_))
                                clear k_63
                                have hP : va_P D kl [(sl, .inl (cI, 1653, .inl g4_c76)), (tb, .inl (cB, 120, .inl tbf)), (h, .inr (7, [.ref sl, .int na, .ref zs, .ref ln, .ref ir, .ref tk, .int su, .int le, .ref tb, .int v63_0, .int g1_c76, .int v63_1, .ref tr, .int tc, .ref fz, .int g3_c76]))] H := hP
                                have hD : va_D A [(sl, .inl (cI, 1653, .inl g4_c76)), (tb, .inl (cB, 120, .inl tbf)), (h, .inr (7, [.ref sl, .int na, .ref zs, .ref ln, .ref ir, .ref tk, .int su, .int le, .ref tb, .int v63_0, .int g1_c76, .int v63_1, .ref tr, .int tc, .ref fz, .int g3_c76]))] := hD
                                have c63_0 := hw_63
                                have e_63 := c63_0
                                · subst e_63
                                  refine lv_istore (lv' := [(4, .int 0), (3, .int r_55), (2, .int r_54), (1, .int t1_c76), (0, .ref h)]) hx hb dX8_isLand_203 hl (by decide) rfl (fun ls hl => ?_)
                                  refine lv_iload hx hb dX8_isLand_205 (lv_at hl 0 rfl) ?_
                                  refine lv_if_ne (tgt := 212) hx hb dX8_isLand_207 (by decide) (fun c9 => absurd (by decide) c9) (fun _ => ?_)
                                  refine lv_iconst (v := 0) hx hb dX8_isLand_210 (by decide) ?_
                                  exact wr_z (v := 0) hx hb hr hlocks hS (v63_0, g1_c76, v63_1, g3_c76, g4_c76) (by exact ⟨Or.inr (rfl), show 0 ≤ (g1_c76 : Int32).toInt ∧ (g1_c76 : Int32).toInt ≤ 120 from by omega, ha_g4_c76⟩) (hP.sub [2, 0, 1] rfl) (hD.sub [2, 0, 1] (by decide) rfl) dX8_isLand_211 rfl
                              · have f_62 : ¬ x_61.toInt ≤ 0 := zi_nle c_62
                                refine lv_iconst (v := 2) hx hb dX8_isLand_182 (by decide) ?_
                                refine lv_istore_n (lv' := [(1, .int 2), (3, .int r_55), (2, .int r_54), (0, .ref h)]) hx hb dX8_isLand_183 rfl hl (by decide) rfl (fun ls hl => ?_)
                                refine lv_aload_n hx hb dX8_isLand_184 rfl (lv_at hl 3 rfl) ?_
                                refine lv_iload_n hx hb dX8_isLand_185 rfl (lv_at hl 2 rfl) ?_
                                have k_64 := (g_X8_isWalker l D cI cB cQ H.size h sl zs ln ir tk tb tr fz na su le g0_c76 g1_c76 g2_c76 tc g3_c76 r_54 g4_c76 tbf v0 ha_g4_c76 (by omega) (by omega) (by omega) (by omega) (by omega))
                                refine wc_i (WC := [(h, .inr (7, [.ref sl, .int na, .ref zs, .ref ln, .ref ir, .ref tk, .int su, .int le, .ref tb, .int g0_c76, .int g1_c76, .int g2_c76, .ref tr, .int tc, .ref fz, .int g3_c76])), (sl, .inl (cI, 1653, .inl g4_c76)), (tb, .inl (cB, 120, .inl tbf))]) (WR := []) (va_runV (As := [.int r_54]) (rest := []) ⟨hx, hb, hml, hown, hts⟩ k_64 (cwV 1 hts gX8_isLand_X8_isWalker rfl rfl rfl (by decide +kernel) ⟨Nat.le_of_ble_eq_true rfl, Nat.le_of_ble_eq_true rfl⟩) (wp_V hP hK hD hN [1, 0, 2] (by decide) rfl (ci := 7) rfl rfl) rfl rfl hl.1 rfl (lv_room (Nat.le_of_ble_eq_true rfl)) dX8_isLand_186 ⟨Nat.le_of_ble_eq_true rfl, Nat.le_of_ble_eq_true rfl⟩) hP hD hS hA [1, 0, 2] [] rfl rfl (by decide) (by decide) (fun r_64 => pe5 (fun v64_0 v64_1 v64_2 v64_3 v64_4 H locs hw_64 hP hD hS => ?_))
                                clear k_64
                                have hP : va_P D kl [(h, .inr (7, [.ref sl, .int na, .ref zs, .ref ln, .ref ir, .ref tk, .int su, .int le, .ref tb, .int v64_0, .int v64_1, .int v64_2, .ref tr, .int tc, .ref fz, .int v64_3])), (sl, .inl (cI, 1653, .inl v64_4)), (tb, .inl (cB, 120, .inl tbf))] H := hP
                                have hD : va_D A [(h, .inr (7, [.ref sl, .int na, .ref zs, .ref ln, .ref ir, .ref tk, .int su, .int le, .ref tb, .int v64_0, .int v64_1, .int v64_2, .ref tr, .int tc, .ref fz, .int v64_3])), (sl, .inl (cI, 1653, .inl v64_4)), (tb, .inl (cB, 120, .inl tbf))] := hD
                                obtain ⟨c64_0, c64_1, c64_2⟩ := hw_64
                                have c64_1 : 0 ≤ v64_1.toInt ∧ v64_1.toInt ≤ 120 := c64_1
                                have c64_2 : SI v64_4 v0 := c64_2
                                rcases c64_0 with ⟨e_64, f_64⟩ | e_64
                                · subst e_64
                                  have f_64 : g1_c76.toInt < v64_1.toInt := f_64
                                  refine lv_istore (lv' := [(4, .int 1), (1, .int 2), (3, .int r_55), (2, .int r_54), (0, .ref h)]) hx hb dX8_isLand_189 hl (by decide) rfl (fun ls hl => ?_)
                                  refine lv_goto (tgt := 205) hx hb dX8_isLand_191 (by decide) ?_
                                  refine lv_iload hx hb dX8_isLand_205 (lv_at hl 0 rfl) ?_
                                  refine lv_if_ne (tgt := 212) hx hb dX8_isLand_207 (by decide) (fun _ => ?_) (fun c9 => absurd c9 (by decide))
                                  refine lv_goto (tgt := 76) hx hb dX8_isLand_212 (by decide) ?_
                                  exact ih76 2 v64_0 v64_1 v64_2 v64_3 v64_4 _ _ _ (show 0 ≤ v64_1.toInt ∧ v64_1.toInt ≤ 120 from by omega) c64_2 (by omega) (hP.sub [1, 0, 2] rfl) (hD.sub [1, 0, 2] (by decide) rfl) hS (lv_sub hl [1, 4] rfl)
                                · subst e_64
                                  refine lv_istore (lv' := [(4, .int 0), (1, .int 2), (3, .int r_55), (2, .int r_54), (0, .ref h)]) hx hb dX8_isLand_189 hl (by decide) rfl (fun ls hl => ?_)
                                  refine lv_goto (tgt := 205) hx hb dX8_isLand_191 (by decide) ?_
                                  refine lv_iload hx hb dX8_isLand_205 (lv_at hl 0 rfl) ?_
                                  refine lv_if_ne (tgt := 212) hx hb dX8_isLand_207 (by decide) (fun c9 => absurd (by decide) c9) (fun _ => ?_)
                                  refine lv_iconst (v := 0) hx hb dX8_isLand_210 (by decide) ?_
                                  exact wr_z (v := 0) hx hb hr hlocks hS (v64_0, v64_1, v64_2, v64_3, v64_4) (by exact ⟨Or.inr (rfl), show 0 ≤ (v64_1 : Int32).toInt ∧ (v64_1 : Int32).toInt ≤ 120 from by omega, c64_2⟩) (hP.sub [0, 1, 2] rfl) (hD.sub [0, 1, 2] (by decide) rfl) dX8_isLand_211 rfl
                          · have f_58 : r_54.toInt = 114 := zi_eq c_58
                            exfalso; omega
                        · have f_57 : t1_c76.toInt = 0 := zi_eq c_57
                          refine lv_aload_n hx hb dX8_isLand_124 rfl (lv_at hl 3 rfl) ?_
                          refine lv_iload_n hx hb dX8_isLand_125 rfl (lv_at hl 1 rfl) ?_
                          have k_65 := (g_X8_isVillage l D cI cB cQ H.size h sl zs ln ir tk tb tr fz na su le g0_c76 g1_c76 g2_c76 tc g3_c76 r_54 g4_c76 tbf v0 ha_g4_c76 (by omega) (by omega) (by omega) (by omega) (by omega))
                          refine wc_i (WC := [(h, .inr (7, [.ref sl, .int na, .ref zs, .ref ln, .ref ir, .ref tk, .int su, .int le, .ref tb, .int g0_c76, .int g1_c76, .int g2_c76, .ref tr, .int tc, .ref fz, .int g3_c76])), (sl, .inl (cI, 1653, .inl g4_c76)), (tb, .inl (cB, 120, .inl tbf))]) (WR := []) (va_runV (As := [.int r_54]) (rest := []) ⟨hx, hb, hml, hown, hts⟩ k_65 (cwV 1 hts gX8_isLand_X8_isVillage rfl rfl rfl (by decide +kernel) ⟨Nat.le_of_ble_eq_true rfl, Nat.le_of_ble_eq_true rfl⟩) (wp_V hP hK hD hN [1, 0, 2] (by decide) rfl (ci := 7) rfl rfl) rfl rfl hl.1 rfl (lv_room (Nat.le_of_ble_eq_true rfl)) dX8_isLand_126 ⟨Nat.le_of_ble_eq_true rfl, Nat.le_of_ble_eq_true rfl⟩) hP hD hS hA [1, 0, 2] [] rfl rfl (by decide) (by decide) (fun r_65 => pe5 (fun v65_0 v65_1 v65_2 v65_3 v65_4 H locs hw_65 hP hD hS => ?_))
                          clear k_65
                          have hP : va_P D kl [(h, .inr (7, [.ref sl, .int na, .ref zs, .ref ln, .ref ir, .ref tk, .int su, .int le, .ref tb, .int v65_0, .int v65_1, .int v65_2, .ref tr, .int tc, .ref fz, .int v65_3])), (sl, .inl (cI, 1653, .inl v65_4)), (tb, .inl (cB, 120, .inl tbf))] H := hP
                          have hD : va_D A [(h, .inr (7, [.ref sl, .int na, .ref zs, .ref ln, .ref ir, .ref tk, .int su, .int le, .ref tb, .int v65_0, .int v65_1, .int v65_2, .ref tr, .int tc, .ref fz, .int v65_3])), (sl, .inl (cI, 1653, .inl v65_4)), (tb, .inl (cB, 120, .inl tbf))] := hD
                          obtain ⟨c65_0, c65_1, c65_2⟩ := hw_65
                          have c65_1 : 0 ≤ v65_1.toInt ∧ v65_1.toInt ≤ 120 := c65_1
                          have c65_2 : SI v65_4 v0 := c65_2
                          rcases c65_0 with ⟨e_65, f_65⟩ | e_65
                          · subst e_65
                            have f_65 : g1_c76.toInt < v65_1.toInt := f_65
                            refine lv_istore (lv' := [(4, .int 1), (3, .int r_55), (2, .int r_54), (1, .int t1_c76), (0, .ref h)]) hx hb dX8_isLand_129 hl (by decide) rfl (fun ls hl => ?_)
                            refine lv_goto (tgt := 205) hx hb dX8_isLand_131 (by decide) ?_
                            refine lv_iload hx hb dX8_isLand_205 (lv_at hl 0 rfl) ?_
                            refine lv_if_ne (tgt := 212) hx hb dX8_isLand_207 (by decide) (fun _ => ?_) (fun c9 => absurd c9 (by decide))
                            refine lv_goto (tgt := 76) hx hb dX8_isLand_212 (by decide) ?_
                            exact ih76 t1_c76 v65_0 v65_1 v65_2 v65_3 v65_4 _ _ _ (show 0 ≤ v65_1.toInt ∧ v65_1.toInt ≤ 120 from by omega) c65_2 (by omega) (hP.sub [1, 0, 2] rfl) (hD.sub [1, 0, 2] (by decide) rfl) hS (lv_sub hl [3, 4] rfl)
                          · subst e_65
                            refine lv_istore (lv' := [(4, .int 0), (3, .int r_55), (2, .int r_54), (1, .int t1_c76), (0, .ref h)]) hx hb dX8_isLand_129 hl (by decide) rfl (fun ls hl => ?_)
                            refine lv_goto (tgt := 205) hx hb dX8_isLand_131 (by decide) ?_
                            refine lv_iload hx hb dX8_isLand_205 (lv_at hl 0 rfl) ?_
                            refine lv_if_ne (tgt := 212) hx hb dX8_isLand_207 (by decide) (fun c9 => absurd (by decide) c9) (fun _ => ?_)
                            refine lv_iconst (v := 0) hx hb dX8_isLand_210 (by decide) ?_
                            exact wr_z (v := 0) hx hb hr hlocks hS (v65_0, v65_1, v65_2, v65_3, v65_4) (by exact ⟨Or.inr (rfl), show 0 ≤ (v65_1 : Int32).toInt ∧ (v65_1 : Int32).toInt ≤ 120 from by omega, c65_2⟩) (hP.sub [0, 1, 2] rfl) (hD.sub [0, 1, 2] (by decide) rfl) dX8_isLand_211 rfl
                      · have f_56 : ¬ r_54.toInt = 103 := zi_ne c_56
                        refine lv_iload_n hx hb dX8_isLand_114 rfl (lv_at hl 1 rfl) ?_
                        refine lv_bipush (v := 99) hx hb dX8_isLand_115 (by decide) ?_
                        refine lv_icmp_ne (tgt := 134) hx hb dX8_isLand_117 (by decide) (fun c_66 => ?_) (fun c_66 => ?_)
                        · have f_66 : ¬ r_54.toInt = 99 := zi_ne c_66
                          refine lv_iload_n hx hb dX8_isLand_134 rfl (lv_at hl 1 rfl) ?_
                          refine lv_bipush (v := 114) hx hb dX8_isLand_135 (by decide) ?_
                          refine lv_icmp_ne (tgt := 167) hx hb dX8_isLand_137 (by decide) (fun c_67 => ?_) (fun c_67 => ?_)
                          · have f_67 : ¬ r_54.toInt = 114 := zi_ne c_67
                            refine lv_iload_n hx hb dX8_isLand_167 rfl (lv_at hl 0 rfl) ?_
                            refine lv_if_le (tgt := 194) hx hb dX8_isLand_168 (by decide) (fun c_68 => ?_) (fun c_68 => ?_)
                            · have f_68 : r_55.toInt ≤ 0 := zi_le c_68
                              refine lv_aload_n hx hb dX8_isLand_194 rfl (lv_at hl 3 rfl) ?_
                              refine lv_iconst (v := 1) hx hb dX8_isLand_195 (by decide) ?_
                              refine lv_aload_n hx hb dX8_isLand_196 rfl (lv_at hl 3 rfl) ?_
                              refine va_get (D := D) (ci := 7) (v := .int g1_c76) (C := RX8) (T := TX8) (N := 16) hx hb hts (fun _ h => List.mem_cons_of_mem _ (List.mem_append_right _ h)) hown hK hP 1 rfl rfl 10 (by decide) (hts (.fieldLink RX8 62 "WinterWalkModel" "at" "I") (List.mem_of_getElem? (i := 1) rfl)) (fun _ h9 => h9) rfl dX8_isLand_197 ?_
                              have k_69 := (g_X8_fails l D cI cB cQ H.size h sl zs ln ir tk tb tr fz na su le g0_c76 g1_c76 g2_c76 tc g3_c76 1 g1_c76)
                              refine wc_i (WC := [(h, .inr (7, [.ref sl, .int na, .ref zs, .ref ln, .ref ir, .ref tk, .int su, .int le, .ref tb, .int g0_c76, .int g1_c76, .int g2_c76, .ref tr, .int tc, .ref fz, .int g3_c76]))]) (WR := [(sl, .inl (cI, 1653, .inl g4_c76)), (tb, .inl (cB, 120, .inl tbf))]) (va_runV (As := [.int 1, .int g1_c76]) (rest := []) ⟨hx, hb, hml, hown, hts⟩ k_69 (cwV 2 hts gX8_isLand_X8_fails rfl rfl rfl (by decide +kernel) ⟨Nat.le_of_ble_eq_true rfl, Nat.le_of_ble_eq_true rfl⟩) (wp_V hP hK hD hN [1] (by decide) rfl (ci := 7) rfl rfl) rfl rfl hl.1 rfl (lv_room (Nat.le_of_ble_eq_true rfl)) dX8_isLand_200 ⟨Nat.le_of_ble_eq_true rfl, Nat.le_of_ble_eq_true rfl⟩) hP hD hS hA [1] [0, 2] rfl rfl (by decide) (by decide) (fun r_69 => pe2 (fun v69_0 v69_1 H locs hw_69 hP hD hS => ?_))
                              clear k_69
                              have hP : va_P D kl [(sl, .inl (cI, 1653, .inl g4_c76)), (tb, .inl (cB, 120, .inl tbf)), (h, .inr (7, [.ref sl, .int na, .ref zs, .ref ln, .ref ir, .ref tk, .int su, .int le, .ref tb, .int v69_0, .int g1_c76, .int v69_1, .ref tr, .int tc, .ref fz, .int g3_c76]))] H := hP
                              have hD : va_D A [(sl, .inl (cI, 1653, .inl g4_c76)), (tb, .inl (cB, 120, .inl tbf)), (h, .inr (7, [.ref sl, .int na, .ref zs, .ref ln, .ref ir, .ref tk, .int su, .int le, .ref tb, .int v69_0, .int g1_c76, .int v69_1, .ref tr, .int tc, .ref fz, .int g3_c76]))] := hD
                              have c69_0 := hw_69
                              have e_69 := c69_0
                              · subst e_69
                                refine lv_istore (lv' := [(4, .int 0), (3, .int r_55), (2, .int r_54), (1, .int t1_c76), (0, .ref h)]) hx hb dX8_isLand_203 hl (by decide) rfl (fun ls hl => ?_)
                                refine lv_iload hx hb dX8_isLand_205 (lv_at hl 0 rfl) ?_
                                refine lv_if_ne (tgt := 212) hx hb dX8_isLand_207 (by decide) (fun c9 => absurd (by decide) c9) (fun _ => ?_)
                                refine lv_iconst (v := 0) hx hb dX8_isLand_210 (by decide) ?_
                                exact wr_z (v := 0) hx hb hr hlocks hS (v69_0, g1_c76, v69_1, g3_c76, g4_c76) (by exact ⟨Or.inr (rfl), show 0 ≤ (g1_c76 : Int32).toInt ∧ (g1_c76 : Int32).toInt ≤ 120 from by omega, ha_g4_c76⟩) (hP.sub [2, 0, 1] rfl) (hD.sub [2, 0, 1] (by decide) rfl) dX8_isLand_211 rfl
                            · have f_68 : ¬ r_55.toInt ≤ 0 := zi_nle c_68
                              refine lv_aload_n hx hb dX8_isLand_171 rfl (lv_at hl 3 rfl) ?_
                              refine va_get (D := D) (ci := 7) (v := .ref sl) (C := RX8) (T := TX8) (N := 16) hx hb hts (fun _ h => List.mem_cons_of_mem _ (List.mem_append_right _ h)) hown hK hP 1 rfl rfl 0 (by decide) (hts (.fieldLink RX8 7 "WinterWalkModel" "slot" "[I") (List.mem_of_getElem? (i := 2) rfl)) (fun _ h9 => h9) rfl dX8_isLand_172 ?_
                              refine lv_sipush (v := 1597) hx hb dX8_isLand_175 (by decide) ?_
                              refine va_iald hx hb hK hP 0 0 rfl rfl (zi_in (by decide) (by decide)) dX8_isLand_178 ?_
                              refine lv_topi (fun x_70 ex_70 => ?_)
                              have f_70 : 0 ≤ x_70.toInt ∧ x_70.toInt ≤ 8 := by rw [ex_70]; exact si_v ha_g4_c76 (s := 28) (by decide) (by omega)
                              refine lv_if_le (tgt := 194) hx hb dX8_isLand_179 (by decide) (fun c_71 => ?_) (fun c_71 => ?_)
                              · have f_71 : x_70.toInt ≤ 0 := zi_le c_71
                                refine lv_aload_n hx hb dX8_isLand_194 rfl (lv_at hl 3 rfl) ?_
                                refine lv_iconst (v := 1) hx hb dX8_isLand_195 (by decide) ?_
                                refine lv_aload_n hx hb dX8_isLand_196 rfl (lv_at hl 3 rfl) ?_
                                refine va_get (D := D) (ci := 7) (v := .int g1_c76) (C := RX8) (T := TX8) (N := 16) hx hb hts (fun _ h => List.mem_cons_of_mem _ (List.mem_append_right _ h)) hown hK hP 1 rfl rfl 10 (by decide) (hts (.fieldLink RX8 62 "WinterWalkModel" "at" "I") (List.mem_of_getElem? (i := 1) rfl)) (fun _ h9 => h9) rfl dX8_isLand_197 ?_
                                have k_72 := (g_X8_fails l D cI cB cQ H.size h sl zs ln ir tk tb tr fz na su le g0_c76 g1_c76 g2_c76 tc g3_c76 1 g1_c76)
                                refine wc_i (WC := [(h, .inr (7, [.ref sl, .int na, .ref zs, .ref ln, .ref ir, .ref tk, .int su, .int le, .ref tb, .int g0_c76, .int g1_c76, .int g2_c76, .ref tr, .int tc, .ref fz, .int g3_c76]))]) (WR := [(sl, .inl (cI, 1653, .inl g4_c76)), (tb, .inl (cB, 120, .inl tbf))]) (va_runV (As := [.int 1, .int g1_c76]) (rest := []) ⟨hx, hb, hml, hown, hts⟩ k_72 (cwV 2 hts gX8_isLand_X8_fails rfl rfl rfl (by decide +kernel) ⟨Nat.le_of_ble_eq_true rfl, Nat.le_of_ble_eq_true rfl⟩) (wp_V hP hK hD hN [1] (by decide) rfl (ci := 7) rfl rfl) rfl rfl hl.1 rfl (lv_room (Nat.le_of_ble_eq_true rfl)) dX8_isLand_200 ⟨Nat.le_of_ble_eq_true rfl, Nat.le_of_ble_eq_true rfl⟩) hP hD hS hA [1] [0, 2] rfl rfl (by decide) (by decide) (fun r_72 => pe2 (fun v72_0 v72_1 H locs hw_72 hP hD hS => ?_))
                                clear k_72
                                have hP : va_P D kl [(sl, .inl (cI, 1653, .inl g4_c76)), (tb, .inl (cB, 120, .inl tbf)), (h, .inr (7, [.ref sl, .int na, .ref zs, .ref ln, .ref ir, .ref tk, .int su, .int le, .ref tb, .int v72_0, .int g1_c76, .int v72_1, .ref tr, .int tc, .ref fz, .int g3_c76]))] H := hP
                                have hD : va_D A [(sl, .inl (cI, 1653, .inl g4_c76)), (tb, .inl (cB, 120, .inl tbf)), (h, .inr (7, [.ref sl, .int na, .ref zs, .ref ln, .ref ir, .ref tk, .int su, .int le, .ref tb, .int v72_0, .int g1_c76, .int v72_1, .ref tr, .int tc, .ref fz, .int g3_c76]))] := hD
                                have c72_0 := hw_72
                                have e_72 := c72_0
                                · subst e_72
                                  refine lv_istore (lv' := [(4, .int 0), (3, .int r_55), (2, .int r_54), (1, .int t1_c76), (0, .ref h)]) hx hb dX8_isLand_203 hl (by decide) rfl (fun ls hl => ?_)
                                  refine lv_iload hx hb dX8_isLand_205 (lv_at hl 0 rfl) ?_
                                  refine lv_if_ne (tgt := 212) hx hb dX8_isLand_207 (by decide) (fun c9 => absurd (by decide) c9) (fun _ => ?_)
                                  refine lv_iconst (v := 0) hx hb dX8_isLand_210 (by decide) ?_
                                  exact wr_z (v := 0) hx hb hr hlocks hS (v72_0, g1_c76, v72_1, g3_c76, g4_c76) (by exact ⟨Or.inr (rfl), show 0 ≤ (g1_c76 : Int32).toInt ∧ (g1_c76 : Int32).toInt ≤ 120 from by omega, ha_g4_c76⟩) (hP.sub [2, 0, 1] rfl) (hD.sub [2, 0, 1] (by decide) rfl) dX8_isLand_211 rfl
                              · have f_71 : ¬ x_70.toInt ≤ 0 := zi_nle c_71
                                refine lv_iconst (v := 2) hx hb dX8_isLand_182 (by decide) ?_
                                refine lv_istore_n (lv' := [(1, .int 2), (3, .int r_55), (2, .int r_54), (0, .ref h)]) hx hb dX8_isLand_183 rfl hl (by decide) rfl (fun ls hl => ?_)
                                refine lv_aload_n hx hb dX8_isLand_184 rfl (lv_at hl 3 rfl) ?_
                                refine lv_iload_n hx hb dX8_isLand_185 rfl (lv_at hl 2 rfl) ?_
                                have k_73 := (g_X8_isWalker l D cI cB cQ H.size h sl zs ln ir tk tb tr fz na su le g0_c76 g1_c76 g2_c76 tc g3_c76 r_54 g4_c76 tbf v0 ha_g4_c76 (by omega) (by omega) (by omega) (by omega) (by omega))
                                refine wc_i (WC := [(h, .inr (7, [.ref sl, .int na, .ref zs, .ref ln, .ref ir, .ref tk, .int su, .int le, .ref tb, .int g0_c76, .int g1_c76, .int g2_c76, .ref tr, .int tc, .ref fz, .int g3_c76])), (sl, .inl (cI, 1653, .inl g4_c76)), (tb, .inl (cB, 120, .inl tbf))]) (WR := []) (va_runV (As := [.int r_54]) (rest := []) ⟨hx, hb, hml, hown, hts⟩ k_73 (cwV 1 hts gX8_isLand_X8_isWalker rfl rfl rfl (by decide +kernel) ⟨Nat.le_of_ble_eq_true rfl, Nat.le_of_ble_eq_true rfl⟩) (wp_V hP hK hD hN [1, 0, 2] (by decide) rfl (ci := 7) rfl rfl) rfl rfl hl.1 rfl (lv_room (Nat.le_of_ble_eq_true rfl)) dX8_isLand_186 ⟨Nat.le_of_ble_eq_true rfl, Nat.le_of_ble_eq_true rfl⟩) hP hD hS hA [1, 0, 2] [] rfl rfl (by decide) (by decide) (fun r_73 => pe5 (fun v73_0 v73_1 v73_2 v73_3 v73_4 H locs hw_73 hP hD hS => ?_))
                                clear k_73
                                have hP : va_P D kl [(h, .inr (7, [.ref sl, .int na, .ref zs, .ref ln, .ref ir, .ref tk, .int su, .int le, .ref tb, .int v73_0, .int v73_1, .int v73_2, .ref tr, .int tc, .ref fz, .int v73_3])), (sl, .inl (cI, 1653, .inl v73_4)), (tb, .inl (cB, 120, .inl tbf))] H := hP
                                have hD : va_D A [(h, .inr (7, [.ref sl, .int na, .ref zs, .ref ln, .ref ir, .ref tk, .int su, .int le, .ref tb, .int v73_0, .int v73_1, .int v73_2, .ref tr, .int tc, .ref fz, .int v73_3])), (sl, .inl (cI, 1653, .inl v73_4)), (tb, .inl (cB, 120, .inl tbf))] := hD
                                obtain ⟨c73_0, c73_1, c73_2⟩ := hw_73
                                have c73_1 : 0 ≤ v73_1.toInt ∧ v73_1.toInt ≤ 120 := c73_1
                                have c73_2 : SI v73_4 v0 := c73_2
                                rcases c73_0 with ⟨e_73, f_73⟩ | e_73
                                · subst e_73
                                  have f_73 : g1_c76.toInt < v73_1.toInt := f_73
                                  refine lv_istore (lv' := [(4, .int 1), (1, .int 2), (3, .int r_55), (2, .int r_54), (0, .ref h)]) hx hb dX8_isLand_189 hl (by decide) rfl (fun ls hl => ?_)
                                  refine lv_goto (tgt := 205) hx hb dX8_isLand_191 (by decide) ?_
                                  refine lv_iload hx hb dX8_isLand_205 (lv_at hl 0 rfl) ?_
                                  refine lv_if_ne (tgt := 212) hx hb dX8_isLand_207 (by decide) (fun _ => ?_) (fun c9 => absurd c9 (by decide))
                                  refine lv_goto (tgt := 76) hx hb dX8_isLand_212 (by decide) ?_
                                  exact ih76 2 v73_0 v73_1 v73_2 v73_3 v73_4 _ _ _ (show 0 ≤ v73_1.toInt ∧ v73_1.toInt ≤ 120 from by omega) c73_2 (by omega) (hP.sub [1, 0, 2] rfl) (hD.sub [1, 0, 2] (by decide) rfl) hS (lv_sub hl [1, 4] rfl)
                                · subst e_73
                                  refine lv_istore (lv' := [(4, .int 0), (1, .int 2), (3, .int r_55), (2, .int r_54), (0, .ref h)]) hx hb dX8_isLand_189 hl (by decide) rfl (fun ls hl => ?_)
                                  refine lv_goto (tgt := 205) hx hb dX8_isLand_191 (by decide) ?_
                                  refine lv_iload hx hb dX8_isLand_205 (lv_at hl 0 rfl) ?_
                                  refine lv_if_ne (tgt := 212) hx hb dX8_isLand_207 (by decide) (fun c9 => absurd (by decide) c9) (fun _ => ?_)
                                  refine lv_iconst (v := 0) hx hb dX8_isLand_210 (by decide) ?_
                                  exact wr_z (v := 0) hx hb hr hlocks hS (v73_0, v73_1, v73_2, v73_3, v73_4) (by exact ⟨Or.inr (rfl), show 0 ≤ (v73_1 : Int32).toInt ∧ (v73_1 : Int32).toInt ≤ 120 from by omega, c73_2⟩) (hP.sub [0, 1, 2] rfl) (hD.sub [0, 1, 2] (by decide) rfl) dX8_isLand_211 rfl
                          · have f_67 : r_54.toInt = 114 := zi_eq c_67
                            refine lv_iload_n hx hb dX8_isLand_140 rfl (lv_at hl 2 rfl) ?_
                            refine lv_iconst (v := 2) hx hb dX8_isLand_141 (by decide) ?_
                            refine lv_icmp_ge (tgt := 167) hx hb dX8_isLand_142 (by decide) (fun c_74 => ?_) (fun c_74 => ?_)
                            · have f_74 : 2 ≤ t1_c76.toInt := zi_le c_74
                              refine lv_iload_n hx hb dX8_isLand_167 rfl (lv_at hl 0 rfl) ?_
                              refine lv_if_le (tgt := 194) hx hb dX8_isLand_168 (by decide) (fun c_75 => ?_) (fun c_75 => ?_)
                              · have f_75 : r_55.toInt ≤ 0 := zi_le c_75
                                refine lv_aload_n hx hb dX8_isLand_194 rfl (lv_at hl 3 rfl) ?_
                                refine lv_iconst (v := 1) hx hb dX8_isLand_195 (by decide) ?_
                                refine lv_aload_n hx hb dX8_isLand_196 rfl (lv_at hl 3 rfl) ?_
                                refine va_get (D := D) (ci := 7) (v := .int g1_c76) (C := RX8) (T := TX8) (N := 16) hx hb hts (fun _ h => List.mem_cons_of_mem _ (List.mem_append_right _ h)) hown hK hP 1 rfl rfl 10 (by decide) (hts (.fieldLink RX8 62 "WinterWalkModel" "at" "I") (List.mem_of_getElem? (i := 1) rfl)) (fun _ h9 => h9) rfl dX8_isLand_197 ?_
                                have k_76 := (g_X8_fails l D cI cB cQ H.size h sl zs ln ir tk tb tr fz na su le g0_c76 g1_c76 g2_c76 tc g3_c76 1 g1_c76)
                                refine wc_i (WC := [(h, .inr (7, [.ref sl, .int na, .ref zs, .ref ln, .ref ir, .ref tk, .int su, .int le, .ref tb, .int g0_c76, .int g1_c76, .int g2_c76, .ref tr, .int tc, .ref fz, .int g3_c76]))]) (WR := [(sl, .inl (cI, 1653, .inl g4_c76)), (tb, .inl (cB, 120, .inl tbf))]) (va_runV (As := [.int 1, .int g1_c76]) (rest := []) ⟨hx, hb, hml, hown, hts⟩ k_76 (cwV 2 hts gX8_isLand_X8_fails rfl rfl rfl (by decide +kernel) ⟨Nat.le_of_ble_eq_true rfl, Nat.le_of_ble_eq_true rfl⟩) (wp_V hP hK hD hN [1] (by decide) rfl (ci := 7) rfl rfl) rfl rfl hl.1 rfl (lv_room (Nat.le_of_ble_eq_true rfl)) dX8_isLand_200 ⟨Nat.le_of_ble_eq_true rfl, Nat.le_of_ble_eq_true rfl⟩) hP hD hS hA [1] [0, 2] rfl rfl (by decide) (by decide) (fun r_76 => pe2 (fun v76_0 v76_1 H locs hw_76 hP hD hS => ?_))
                                clear k_76
                                have hP : va_P D kl [(sl, .inl (cI, 1653, .inl g4_c76)), (tb, .inl (cB, 120, .inl tbf)), (h, .inr (7, [.ref sl, .int na, .ref zs, .ref ln, .ref ir, .ref tk, .int su, .int le, .ref tb, .int v76_0, .int g1_c76, .int v76_1, .ref tr, .int tc, .ref fz, .int g3_c76]))] H := hP
                                have hD : va_D A [(sl, .inl (cI, 1653, .inl g4_c76)), (tb, .inl (cB, 120, .inl tbf)), (h, .inr (7, [.ref sl, .int na, .ref zs, .ref ln, .ref ir, .ref tk, .int su, .int le, .ref tb, .int v76_0, .int g1_c76, .int v76_1, .ref tr, .int tc, .ref fz, .int g3_c76]))] := hD
                                have c76_0 := hw_76
                                have e_76 := c76_0
                                · subst e_76
                                  refine lv_istore (lv' := [(4, .int 0), (3, .int r_55), (2, .int r_54), (1, .int t1_c76), (0, .ref h)]) hx hb dX8_isLand_203 hl (by decide) rfl (fun ls hl => ?_)
                                  refine lv_iload hx hb dX8_isLand_205 (lv_at hl 0 rfl) ?_
                                  refine lv_if_ne (tgt := 212) hx hb dX8_isLand_207 (by decide) (fun c9 => absurd (by decide) c9) (fun _ => ?_)
                                  refine lv_iconst (v := 0) hx hb dX8_isLand_210 (by decide) ?_
                                  exact wr_z (v := 0) hx hb hr hlocks hS (v76_0, g1_c76, v76_1, g3_c76, g4_c76) (by exact ⟨Or.inr (rfl), show 0 ≤ (g1_c76 : Int32).toInt ∧ (g1_c76 : Int32).toInt ≤ 120 from by omega, ha_g4_c76⟩) (hP.sub [2, 0, 1] rfl) (hD.sub [2, 0, 1] (by decide) rfl) dX8_isLand_211 rfl
                              · have f_75 : ¬ r_55.toInt ≤ 0 := zi_nle c_75
                                refine lv_aload_n hx hb dX8_isLand_171 rfl (lv_at hl 3 rfl) ?_
                                refine va_get (D := D) (ci := 7) (v := .ref sl) (C := RX8) (T := TX8) (N := 16) hx hb hts (fun _ h => List.mem_cons_of_mem _ (List.mem_append_right _ h)) hown hK hP 1 rfl rfl 0 (by decide) (hts (.fieldLink RX8 7 "WinterWalkModel" "slot" "[I") (List.mem_of_getElem? (i := 2) rfl)) (fun _ h9 => h9) rfl dX8_isLand_172 ?_
                                refine lv_sipush (v := 1597) hx hb dX8_isLand_175 (by decide) ?_
                                refine va_iald hx hb hK hP 0 0 rfl rfl (zi_in (by decide) (by decide)) dX8_isLand_178 ?_
                                refine lv_topi (fun x_77 ex_77 => ?_)
                                have f_77 : 0 ≤ x_77.toInt ∧ x_77.toInt ≤ 8 := by rw [ex_77]; exact si_v ha_g4_c76 (s := 28) (by decide) (by omega)
                                refine lv_if_le (tgt := 194) hx hb dX8_isLand_179 (by decide) (fun c_78 => ?_) (fun c_78 => ?_)
                                · have f_78 : x_77.toInt ≤ 0 := zi_le c_78
                                  refine lv_aload_n hx hb dX8_isLand_194 rfl (lv_at hl 3 rfl) ?_
                                  refine lv_iconst (v := 1) hx hb dX8_isLand_195 (by decide) ?_
                                  refine lv_aload_n hx hb dX8_isLand_196 rfl (lv_at hl 3 rfl) ?_
                                  refine va_get (D := D) (ci := 7) (v := .int g1_c76) (C := RX8) (T := TX8) (N := 16) hx hb hts (fun _ h => List.mem_cons_of_mem _ (List.mem_append_right _ h)) hown hK hP 1 rfl rfl 10 (by decide) (hts (.fieldLink RX8 62 "WinterWalkModel" "at" "I") (List.mem_of_getElem? (i := 1) rfl)) (fun _ h9 => h9) rfl dX8_isLand_197 ?_
                                  have k_79 := (g_X8_fails l D cI cB cQ H.size h sl zs ln ir tk tb tr fz na su le g0_c76 g1_c76 g2_c76 tc g3_c76 1 g1_c76)
                                  refine wc_i (WC := [(h, .inr (7, [.ref sl, .int na, .ref zs, .ref ln, .ref ir, .ref tk, .int su, .int le, .ref tb, .int g0_c76, .int g1_c76, .int g2_c76, .ref tr, .int tc, .ref fz, .int g3_c76]))]) (WR := [(sl, .inl (cI, 1653, .inl g4_c76)), (tb, .inl (cB, 120, .inl tbf))]) (va_runV (As := [.int 1, .int g1_c76]) (rest := []) ⟨hx, hb, hml, hown, hts⟩ k_79 (cwV 2 hts gX8_isLand_X8_fails rfl rfl rfl (by decide +kernel) ⟨Nat.le_of_ble_eq_true rfl, Nat.le_of_ble_eq_true rfl⟩) (wp_V hP hK hD hN [1] (by decide) rfl (ci := 7) rfl rfl) rfl rfl hl.1 rfl (lv_room (Nat.le_of_ble_eq_true rfl)) dX8_isLand_200 ⟨Nat.le_of_ble_eq_true rfl, Nat.le_of_ble_eq_true rfl⟩) hP hD hS hA [1] [0, 2] rfl rfl (by decide) (by decide) (fun r_79 => pe2 (fun v79_0 v79_1 H locs hw_79 hP hD hS => ?_))
                                  clear k_79
                                  have hP : va_P D kl [(sl, .inl (cI, 1653, .inl g4_c76)), (tb, .inl (cB, 120, .inl tbf)), (h, .inr (7, [.ref sl, .int na, .ref zs, .ref ln, .ref ir, .ref tk, .int su, .int le, .ref tb, .int v79_0, .int g1_c76, .int v79_1, .ref tr, .int tc, .ref fz, .int g3_c76]))] H := hP
                                  have hD : va_D A [(sl, .inl (cI, 1653, .inl g4_c76)), (tb, .inl (cB, 120, .inl tbf)), (h, .inr (7, [.ref sl, .int na, .ref zs, .ref ln, .ref ir, .ref tk, .int su, .int le, .ref tb, .int v79_0, .int g1_c76, .int v79_1, .ref tr, .int tc, .ref fz, .int g3_c76]))] := hD
                                  have c79_0 := hw_79
                                  have e_79 := c79_0
                                  · subst e_79
                                    refine lv_istore (lv' := [(4, .int 0), (3, .int r_55), (2, .int r_54), (1, .int t1_c76), (0, .ref h)]) hx hb dX8_isLand_203 hl (by decide) rfl (fun ls hl => ?_)
                                    refine lv_iload hx hb dX8_isLand_205 (lv_at hl 0 rfl) ?_
                                    refine lv_if_ne (tgt := 212) hx hb dX8_isLand_207 (by decide) (fun c9 => absurd (by decide) c9) (fun _ => ?_)
                                    refine lv_iconst (v := 0) hx hb dX8_isLand_210 (by decide) ?_
                                    exact wr_z (v := 0) hx hb hr hlocks hS (v79_0, g1_c76, v79_1, g3_c76, g4_c76) (by exact ⟨Or.inr (rfl), show 0 ≤ (g1_c76 : Int32).toInt ∧ (g1_c76 : Int32).toInt ≤ 120 from by omega, ha_g4_c76⟩) (hP.sub [2, 0, 1] rfl) (hD.sub [2, 0, 1] (by decide) rfl) dX8_isLand_211 rfl
                                · have f_78 : ¬ x_77.toInt ≤ 0 := zi_nle c_78
                                  refine lv_iconst (v := 2) hx hb dX8_isLand_182 (by decide) ?_
                                  refine lv_istore_n (lv' := [(1, .int 2), (3, .int r_55), (2, .int r_54), (0, .ref h)]) hx hb dX8_isLand_183 rfl hl (by decide) rfl (fun ls hl => ?_)
                                  refine lv_aload_n hx hb dX8_isLand_184 rfl (lv_at hl 3 rfl) ?_
                                  refine lv_iload_n hx hb dX8_isLand_185 rfl (lv_at hl 2 rfl) ?_
                                  have k_80 := (g_X8_isWalker l D cI cB cQ H.size h sl zs ln ir tk tb tr fz na su le g0_c76 g1_c76 g2_c76 tc g3_c76 r_54 g4_c76 tbf v0 ha_g4_c76 (by omega) (by omega) (by omega) (by omega) (by omega))
                                  refine wc_i (WC := [(h, .inr (7, [.ref sl, .int na, .ref zs, .ref ln, .ref ir, .ref tk, .int su, .int le, .ref tb, .int g0_c76, .int g1_c76, .int g2_c76, .ref tr, .int tc, .ref fz, .int g3_c76])), (sl, .inl (cI, 1653, .inl g4_c76)), (tb, .inl (cB, 120, .inl tbf))]) (WR := []) (va_runV (As := [.int r_54]) (rest := []) ⟨hx, hb, hml, hown, hts⟩ k_80 (cwV 1 hts gX8_isLand_X8_isWalker rfl rfl rfl (by decide +kernel) ⟨Nat.le_of_ble_eq_true rfl, Nat.le_of_ble_eq_true rfl⟩) (wp_V hP hK hD hN [1, 0, 2] (by decide) rfl (ci := 7) rfl rfl) rfl rfl hl.1 rfl (lv_room (Nat.le_of_ble_eq_true rfl)) dX8_isLand_186 ⟨Nat.le_of_ble_eq_true rfl, Nat.le_of_ble_eq_true rfl⟩) hP hD hS hA [1, 0, 2] [] rfl rfl (by decide) (by decide) (fun r_80 => pe5 (fun v80_0 v80_1 v80_2 v80_3 v80_4 H locs hw_80 hP hD hS => ?_))
                                  clear k_80
                                  have hP : va_P D kl [(h, .inr (7, [.ref sl, .int na, .ref zs, .ref ln, .ref ir, .ref tk, .int su, .int le, .ref tb, .int v80_0, .int v80_1, .int v80_2, .ref tr, .int tc, .ref fz, .int v80_3])), (sl, .inl (cI, 1653, .inl v80_4)), (tb, .inl (cB, 120, .inl tbf))] H := hP
                                  have hD : va_D A [(h, .inr (7, [.ref sl, .int na, .ref zs, .ref ln, .ref ir, .ref tk, .int su, .int le, .ref tb, .int v80_0, .int v80_1, .int v80_2, .ref tr, .int tc, .ref fz, .int v80_3])), (sl, .inl (cI, 1653, .inl v80_4)), (tb, .inl (cB, 120, .inl tbf))] := hD
                                  obtain ⟨c80_0, c80_1, c80_2⟩ := hw_80
                                  have c80_1 : 0 ≤ v80_1.toInt ∧ v80_1.toInt ≤ 120 := c80_1
                                  have c80_2 : SI v80_4 v0 := c80_2
                                  rcases c80_0 with ⟨e_80, f_80⟩ | e_80
                                  · subst e_80
                                    have f_80 : g1_c76.toInt < v80_1.toInt := f_80
                                    refine lv_istore (lv' := [(4, .int 1), (1, .int 2), (3, .int r_55), (2, .int r_54), (0, .ref h)]) hx hb dX8_isLand_189 hl (by decide) rfl (fun ls hl => ?_)
                                    refine lv_goto (tgt := 205) hx hb dX8_isLand_191 (by decide) ?_
                                    refine lv_iload hx hb dX8_isLand_205 (lv_at hl 0 rfl) ?_
                                    refine lv_if_ne (tgt := 212) hx hb dX8_isLand_207 (by decide) (fun _ => ?_) (fun c9 => absurd c9 (by decide))
                                    refine lv_goto (tgt := 76) hx hb dX8_isLand_212 (by decide) ?_
                                    exact ih76 2 v80_0 v80_1 v80_2 v80_3 v80_4 _ _ _ (show 0 ≤ v80_1.toInt ∧ v80_1.toInt ≤ 120 from by omega) c80_2 (by omega) (hP.sub [1, 0, 2] rfl) (hD.sub [1, 0, 2] (by decide) rfl) hS (lv_sub hl [1, 4] rfl)
                                  · subst e_80
                                    refine lv_istore (lv' := [(4, .int 0), (1, .int 2), (3, .int r_55), (2, .int r_54), (0, .ref h)]) hx hb dX8_isLand_189 hl (by decide) rfl (fun ls hl => ?_)
                                    refine lv_goto (tgt := 205) hx hb dX8_isLand_191 (by decide) ?_
                                    refine lv_iload hx hb dX8_isLand_205 (lv_at hl 0 rfl) ?_
                                    refine lv_if_ne (tgt := 212) hx hb dX8_isLand_207 (by decide) (fun c9 => absurd (by decide) c9) (fun _ => ?_)
                                    refine lv_iconst (v := 0) hx hb dX8_isLand_210 (by decide) ?_
                                    exact wr_z (v := 0) hx hb hr hlocks hS (v80_0, v80_1, v80_2, v80_3, v80_4) (by exact ⟨Or.inr (rfl), show 0 ≤ (v80_1 : Int32).toInt ∧ (v80_1 : Int32).toInt ≤ 120 from by omega, c80_2⟩) (hP.sub [0, 1, 2] rfl) (hD.sub [0, 1, 2] (by decide) rfl) dX8_isLand_211 rfl
                            · have f_74 : ¬ 2 ≤ t1_c76.toInt := zi_nle c_74
                              refine lv_aload_n hx hb dX8_isLand_145 rfl (lv_at hl 3 rfl) ?_
                              refine va_get (D := D) (ci := 7) (v := .ref sl) (C := RX8) (T := TX8) (N := 16) hx hb hts (fun _ h => List.mem_cons_of_mem _ (List.mem_append_right _ h)) hown hK hP 1 rfl rfl 0 (by decide) (hts (.fieldLink RX8 7 "WinterWalkModel" "slot" "[I") (List.mem_of_getElem? (i := 2) rfl)) (fun _ h9 => h9) rfl dX8_isLand_146 ?_
                              refine lv_sipush (v := 1597) hx hb dX8_isLand_149 (by decide) ?_
                              refine va_iald hx hb hK hP 0 0 rfl rfl (zi_in (by decide) (by decide)) dX8_isLand_152 ?_
                              refine lv_topi (fun x_81 ex_81 => ?_)
                              have f_81 : 0 ≤ x_81.toInt ∧ x_81.toInt ≤ 8 := by rw [ex_81]; exact si_v ha_g4_c76 (s := 28) (by decide) (by omega)
                              refine lv_if_le (tgt := 167) hx hb dX8_isLand_153 (by decide) (fun c_82 => ?_) (fun c_82 => ?_)
                              · have f_82 : x_81.toInt ≤ 0 := zi_le c_82
                                refine lv_iload_n hx hb dX8_isLand_167 rfl (lv_at hl 0 rfl) ?_
                                refine lv_if_le (tgt := 194) hx hb dX8_isLand_168 (by decide) (fun c_83 => ?_) (fun c_83 => ?_)
                                · have f_83 : r_55.toInt ≤ 0 := zi_le c_83
                                  refine lv_aload_n hx hb dX8_isLand_194 rfl (lv_at hl 3 rfl) ?_
                                  refine lv_iconst (v := 1) hx hb dX8_isLand_195 (by decide) ?_
                                  refine lv_aload_n hx hb dX8_isLand_196 rfl (lv_at hl 3 rfl) ?_
                                  refine va_get (D := D) (ci := 7) (v := .int g1_c76) (C := RX8) (T := TX8) (N := 16) hx hb hts (fun _ h => List.mem_cons_of_mem _ (List.mem_append_right _ h)) hown hK hP 1 rfl rfl 10 (by decide) (hts (.fieldLink RX8 62 "WinterWalkModel" "at" "I") (List.mem_of_getElem? (i := 1) rfl)) (fun _ h9 => h9) rfl dX8_isLand_197 ?_
                                  have k_84 := (g_X8_fails l D cI cB cQ H.size h sl zs ln ir tk tb tr fz na su le g0_c76 g1_c76 g2_c76 tc g3_c76 1 g1_c76)
                                  refine wc_i (WC := [(h, .inr (7, [.ref sl, .int na, .ref zs, .ref ln, .ref ir, .ref tk, .int su, .int le, .ref tb, .int g0_c76, .int g1_c76, .int g2_c76, .ref tr, .int tc, .ref fz, .int g3_c76]))]) (WR := [(sl, .inl (cI, 1653, .inl g4_c76)), (tb, .inl (cB, 120, .inl tbf))]) (va_runV (As := [.int 1, .int g1_c76]) (rest := []) ⟨hx, hb, hml, hown, hts⟩ k_84 (cwV 2 hts gX8_isLand_X8_fails rfl rfl rfl (by decide +kernel) ⟨Nat.le_of_ble_eq_true rfl, Nat.le_of_ble_eq_true rfl⟩) (wp_V hP hK hD hN [1] (by decide) rfl (ci := 7) rfl rfl) rfl rfl hl.1 rfl (lv_room (Nat.le_of_ble_eq_true rfl)) dX8_isLand_200 ⟨Nat.le_of_ble_eq_true rfl, Nat.le_of_ble_eq_true rfl⟩) hP hD hS hA [1] [0, 2] rfl rfl (by decide) (by decide) (fun r_84 => pe2 (fun v84_0 v84_1 H locs hw_84 hP hD hS => ?_))
                                  clear k_84
                                  have hP : va_P D kl [(sl, .inl (cI, 1653, .inl g4_c76)), (tb, .inl (cB, 120, .inl tbf)), (h, .inr (7, [.ref sl, .int na, .ref zs, .ref ln, .ref ir, .ref tk, .int su, .int le, .ref tb, .int v84_0, .int g1_c76, .int v84_1, .ref tr, .int tc, .ref fz, .int g3_c76]))] H := hP
                                  have hD : va_D A [(sl, .inl (cI, 1653, .inl g4_c76)), (tb, .inl (cB, 120, .inl tbf)), (h, .inr (7, [.ref sl, .int na, .ref zs, .ref ln, .ref ir, .ref tk, .int su, .int le, .ref tb, .int v84_0, .int g1_c76, .int v84_1, .ref tr, .int tc, .ref fz, .int g3_c76]))] := hD
                                  have c84_0 := hw_84
                                  have e_84 := c84_0
                                  · subst e_84
                                    refine lv_istore (lv' := [(4, .int 0), (3, .int r_55), (2, .int r_54), (1, .int t1_c76), (0, .ref h)]) hx hb dX8_isLand_203 hl (by decide) rfl (fun ls hl => ?_)
                                    refine lv_iload hx hb dX8_isLand_205 (lv_at hl 0 rfl) ?_
                                    refine lv_if_ne (tgt := 212) hx hb dX8_isLand_207 (by decide) (fun c9 => absurd (by decide) c9) (fun _ => ?_)
                                    refine lv_iconst (v := 0) hx hb dX8_isLand_210 (by decide) ?_
                                    exact wr_z (v := 0) hx hb hr hlocks hS (v84_0, g1_c76, v84_1, g3_c76, g4_c76) (by exact ⟨Or.inr (rfl), show 0 ≤ (g1_c76 : Int32).toInt ∧ (g1_c76 : Int32).toInt ≤ 120 from by omega, ha_g4_c76⟩) (hP.sub [2, 0, 1] rfl) (hD.sub [2, 0, 1] (by decide) rfl) dX8_isLand_211 rfl
                                · have f_83 : ¬ r_55.toInt ≤ 0 := zi_nle c_83
                                  refine lv_aload_n hx hb dX8_isLand_171 rfl (lv_at hl 3 rfl) ?_
                                  refine va_get (D := D) (ci := 7) (v := .ref sl) (C := RX8) (T := TX8) (N := 16) hx hb hts (fun _ h => List.mem_cons_of_mem _ (List.mem_append_right _ h)) hown hK hP 1 rfl rfl 0 (by decide) (hts (.fieldLink RX8 7 "WinterWalkModel" "slot" "[I") (List.mem_of_getElem? (i := 2) rfl)) (fun _ h9 => h9) rfl dX8_isLand_172 ?_
                                  refine lv_sipush (v := 1597) hx hb dX8_isLand_175 (by decide) ?_
                                  refine va_iald hx hb hK hP 0 0 rfl rfl (zi_in (by decide) (by decide)) dX8_isLand_178 ?_
                                  refine lv_topi (fun x_85 ex_85 => ?_)
                                  have f_85 : 0 ≤ x_85.toInt ∧ x_85.toInt ≤ 8 := by rw [ex_85]; exact si_v ha_g4_c76 (s := 28) (by decide) (by omega)
                                  refine lv_if_le (tgt := 194) hx hb dX8_isLand_179 (by decide) (fun c_86 => ?_) (fun c_86 => ?_)
                                  · have f_86 : x_85.toInt ≤ 0 := zi_le c_86
                                    refine lv_aload_n hx hb dX8_isLand_194 rfl (lv_at hl 3 rfl) ?_
                                    refine lv_iconst (v := 1) hx hb dX8_isLand_195 (by decide) ?_
                                    refine lv_aload_n hx hb dX8_isLand_196 rfl (lv_at hl 3 rfl) ?_
                                    refine va_get (D := D) (ci := 7) (v := .int g1_c76) (C := RX8) (T := TX8) (N := 16) hx hb hts (fun _ h => List.mem_cons_of_mem _ (List.mem_append_right _ h)) hown hK hP 1 rfl rfl 10 (by decide) (hts (.fieldLink RX8 62 "WinterWalkModel" "at" "I") (List.mem_of_getElem? (i := 1) rfl)) (fun _ h9 => h9) rfl dX8_isLand_197 ?_
                                    have k_87 := (g_X8_fails l D cI cB cQ H.size h sl zs ln ir tk tb tr fz na su le g0_c76 g1_c76 g2_c76 tc g3_c76 1 g1_c76)
                                    refine wc_i (WC := [(h, .inr (7, [.ref sl, .int na, .ref zs, .ref ln, .ref ir, .ref tk, .int su, .int le, .ref tb, .int g0_c76, .int g1_c76, .int g2_c76, .ref tr, .int tc, .ref fz, .int g3_c76]))]) (WR := [(sl, .inl (cI, 1653, .inl g4_c76)), (tb, .inl (cB, 120, .inl tbf))]) (va_runV (As := [.int 1, .int g1_c76]) (rest := []) ⟨hx, hb, hml, hown, hts⟩ k_87 (cwV 2 hts gX8_isLand_X8_fails rfl rfl rfl (by decide +kernel) ⟨Nat.le_of_ble_eq_true rfl, Nat.le_of_ble_eq_true rfl⟩) (wp_V hP hK hD hN [1] (by decide) rfl (ci := 7) rfl rfl) rfl rfl hl.1 rfl (lv_room (Nat.le_of_ble_eq_true rfl)) dX8_isLand_200 ⟨Nat.le_of_ble_eq_true rfl, Nat.le_of_ble_eq_true rfl⟩) hP hD hS hA [1] [0, 2] rfl rfl (by decide) (by decide) (fun r_87 => pe2 (fun v87_0 v87_1 H locs hw_87 hP hD hS => ?_))
                                    clear k_87
                                    have hP : va_P D kl [(sl, .inl (cI, 1653, .inl g4_c76)), (tb, .inl (cB, 120, .inl tbf)), (h, .inr (7, [.ref sl, .int na, .ref zs, .ref ln, .ref ir, .ref tk, .int su, .int le, .ref tb, .int v87_0, .int g1_c76, .int v87_1, .ref tr, .int tc, .ref fz, .int g3_c76]))] H := hP
                                    have hD : va_D A [(sl, .inl (cI, 1653, .inl g4_c76)), (tb, .inl (cB, 120, .inl tbf)), (h, .inr (7, [.ref sl, .int na, .ref zs, .ref ln, .ref ir, .ref tk, .int su, .int le, .ref tb, .int v87_0, .int g1_c76, .int v87_1, .ref tr, .int tc, .ref fz, .int g3_c76]))] := hD
                                    have c87_0 := hw_87
                                    have e_87 := c87_0
                                    · subst e_87
                                      refine lv_istore (lv' := [(4, .int 0), (3, .int r_55), (2, .int r_54), (1, .int t1_c76), (0, .ref h)]) hx hb dX8_isLand_203 hl (by decide) rfl (fun ls hl => ?_)
                                      refine lv_iload hx hb dX8_isLand_205 (lv_at hl 0 rfl) ?_
                                      refine lv_if_ne (tgt := 212) hx hb dX8_isLand_207 (by decide) (fun c9 => absurd (by decide) c9) (fun _ => ?_)
                                      refine lv_iconst (v := 0) hx hb dX8_isLand_210 (by decide) ?_
                                      exact wr_z (v := 0) hx hb hr hlocks hS (v87_0, g1_c76, v87_1, g3_c76, g4_c76) (by exact ⟨Or.inr (rfl), show 0 ≤ (g1_c76 : Int32).toInt ∧ (g1_c76 : Int32).toInt ≤ 120 from by omega, ha_g4_c76⟩) (hP.sub [2, 0, 1] rfl) (hD.sub [2, 0, 1] (by decide) rfl) dX8_isLand_211 rfl
                                  · have f_86 : ¬ x_85.toInt ≤ 0 := zi_nle c_86
                                    refine lv_iconst (v := 2) hx hb dX8_isLand_182 (by decide) ?_
                                    refine lv_istore_n (lv' := [(1, .int 2), (3, .int r_55), (2, .int r_54), (0, .ref h)]) hx hb dX8_isLand_183 rfl hl (by decide) rfl (fun ls hl => ?_)
                                    refine lv_aload_n hx hb dX8_isLand_184 rfl (lv_at hl 3 rfl) ?_
                                    refine lv_iload_n hx hb dX8_isLand_185 rfl (lv_at hl 2 rfl) ?_
                                    have k_88 := (g_X8_isWalker l D cI cB cQ H.size h sl zs ln ir tk tb tr fz na su le g0_c76 g1_c76 g2_c76 tc g3_c76 r_54 g4_c76 tbf v0 ha_g4_c76 (by omega) (by omega) (by omega) (by omega) (by omega))
                                    refine wc_i (WC := [(h, .inr (7, [.ref sl, .int na, .ref zs, .ref ln, .ref ir, .ref tk, .int su, .int le, .ref tb, .int g0_c76, .int g1_c76, .int g2_c76, .ref tr, .int tc, .ref fz, .int g3_c76])), (sl, .inl (cI, 1653, .inl g4_c76)), (tb, .inl (cB, 120, .inl tbf))]) (WR := []) (va_runV (As := [.int r_54]) (rest := []) ⟨hx, hb, hml, hown, hts⟩ k_88 (cwV 1 hts gX8_isLand_X8_isWalker rfl rfl rfl (by decide +kernel) ⟨Nat.le_of_ble_eq_true rfl, Nat.le_of_ble_eq_true rfl⟩) (wp_V hP hK hD hN [1, 0, 2] (by decide) rfl (ci := 7) rfl rfl) rfl rfl hl.1 rfl (lv_room (Nat.le_of_ble_eq_true rfl)) dX8_isLand_186 ⟨Nat.le_of_ble_eq_true rfl, Nat.le_of_ble_eq_true rfl⟩) hP hD hS hA [1, 0, 2] [] rfl rfl (by decide) (by decide) (fun r_88 => pe5 (fun v88_0 v88_1 v88_2 v88_3 v88_4 H locs hw_88 hP hD hS => ?_))
                                    clear k_88
                                    have hP : va_P D kl [(h, .inr (7, [.ref sl, .int na, .ref zs, .ref ln, .ref ir, .ref tk, .int su, .int le, .ref tb, .int v88_0, .int v88_1, .int v88_2, .ref tr, .int tc, .ref fz, .int v88_3])), (sl, .inl (cI, 1653, .inl v88_4)), (tb, .inl (cB, 120, .inl tbf))] H := hP
                                    have hD : va_D A [(h, .inr (7, [.ref sl, .int na, .ref zs, .ref ln, .ref ir, .ref tk, .int su, .int le, .ref tb, .int v88_0, .int v88_1, .int v88_2, .ref tr, .int tc, .ref fz, .int v88_3])), (sl, .inl (cI, 1653, .inl v88_4)), (tb, .inl (cB, 120, .inl tbf))] := hD
                                    obtain ⟨c88_0, c88_1, c88_2⟩ := hw_88
                                    have c88_1 : 0 ≤ v88_1.toInt ∧ v88_1.toInt ≤ 120 := c88_1
                                    have c88_2 : SI v88_4 v0 := c88_2
                                    rcases c88_0 with ⟨e_88, f_88⟩ | e_88
                                    · subst e_88
                                      have f_88 : g1_c76.toInt < v88_1.toInt := f_88
                                      refine lv_istore (lv' := [(4, .int 1), (1, .int 2), (3, .int r_55), (2, .int r_54), (0, .ref h)]) hx hb dX8_isLand_189 hl (by decide) rfl (fun ls hl => ?_)
                                      refine lv_goto (tgt := 205) hx hb dX8_isLand_191 (by decide) ?_
                                      refine lv_iload hx hb dX8_isLand_205 (lv_at hl 0 rfl) ?_
                                      refine lv_if_ne (tgt := 212) hx hb dX8_isLand_207 (by decide) (fun _ => ?_) (fun c9 => absurd c9 (by decide))
                                      refine lv_goto (tgt := 76) hx hb dX8_isLand_212 (by decide) ?_
                                      exact ih76 2 v88_0 v88_1 v88_2 v88_3 v88_4 _ _ _ (show 0 ≤ v88_1.toInt ∧ v88_1.toInt ≤ 120 from by omega) c88_2 (by omega) (hP.sub [1, 0, 2] rfl) (hD.sub [1, 0, 2] (by decide) rfl) hS (lv_sub hl [1, 4] rfl)
                                    · subst e_88
                                      refine lv_istore (lv' := [(4, .int 0), (1, .int 2), (3, .int r_55), (2, .int r_54), (0, .ref h)]) hx hb dX8_isLand_189 hl (by decide) rfl (fun ls hl => ?_)
                                      refine lv_goto (tgt := 205) hx hb dX8_isLand_191 (by decide) ?_
                                      refine lv_iload hx hb dX8_isLand_205 (lv_at hl 0 rfl) ?_
                                      refine lv_if_ne (tgt := 212) hx hb dX8_isLand_207 (by decide) (fun c9 => absurd (by decide) c9) (fun _ => ?_)
                                      refine lv_iconst (v := 0) hx hb dX8_isLand_210 (by decide) ?_
                                      exact wr_z (v := 0) hx hb hr hlocks hS (v88_0, v88_1, v88_2, v88_3, v88_4) (by exact ⟨Or.inr (rfl), show 0 ≤ (v88_1 : Int32).toInt ∧ (v88_1 : Int32).toInt ≤ 120 from by omega, c88_2⟩) (hP.sub [0, 1, 2] rfl) (hD.sub [0, 1, 2] (by decide) rfl) dX8_isLand_211 rfl
                              · have f_82 : ¬ x_81.toInt ≤ 0 := zi_nle c_82
                                refine lv_iconst (v := 1) hx hb dX8_isLand_156 (by decide) ?_
                                refine lv_istore_n (lv' := [(1, .int 1), (3, .int r_55), (2, .int r_54), (0, .ref h)]) hx hb dX8_isLand_157 rfl hl (by decide) rfl (fun ls hl => ?_)
                                refine lv_aload_n hx hb dX8_isLand_158 rfl (lv_at hl 3 rfl) ?_
                                have k_89 := (g_X8_isRoad l D cI cB cQ H.size h sl zs ln ir tk tb tr fz na su le g0_c76 g1_c76 g2_c76 tc g3_c76 g4_c76 tbf v0 ha_g4_c76 (by omega) (by omega) (by omega) (by omega) (by omega))
                                refine wc_i (WC := [(h, .inr (7, [.ref sl, .int na, .ref zs, .ref ln, .ref ir, .ref tk, .int su, .int le, .ref tb, .int g0_c76, .int g1_c76, .int g2_c76, .ref tr, .int tc, .ref fz, .int g3_c76])), (sl, .inl (cI, 1653, .inl g4_c76)), (tb, .inl (cB, 120, .inl tbf))]) (WR := []) (va_runV (As := []) (rest := []) ⟨hx, hb, hml, hown, hts⟩ k_89 (cwV 0 hts gX8_isLand_X8_isRoad rfl rfl rfl (by decide +kernel) ⟨Nat.le_of_ble_eq_true rfl, Nat.le_of_ble_eq_true rfl⟩) (wp_V hP hK hD hN [1, 0, 2] (by decide) rfl (ci := 7) rfl rfl) rfl rfl hl.1 rfl (lv_room (Nat.le_of_ble_eq_true rfl)) dX8_isLand_159 ⟨Nat.le_of_ble_eq_true rfl, Nat.le_of_ble_eq_true rfl⟩) hP hD hS hA [1, 0, 2] [] rfl rfl (by decide) (by decide) (fun r_89 => pe5 (fun v89_0 v89_1 v89_2 v89_3 v89_4 H locs hw_89 hP hD hS => ?_))
                                clear k_89
                                have hP : va_P D kl [(h, .inr (7, [.ref sl, .int na, .ref zs, .ref ln, .ref ir, .ref tk, .int su, .int le, .ref tb, .int v89_0, .int v89_1, .int v89_2, .ref tr, .int tc, .ref fz, .int v89_3])), (sl, .inl (cI, 1653, .inl v89_4)), (tb, .inl (cB, 120, .inl tbf))] H := hP
                                have hD : va_D A [(h, .inr (7, [.ref sl, .int na, .ref zs, .ref ln, .ref ir, .ref tk, .int su, .int le, .ref tb, .int v89_0, .int v89_1, .int v89_2, .ref tr, .int tc, .ref fz, .int v89_3])), (sl, .inl (cI, 1653, .inl v89_4)), (tb, .inl (cB, 120, .inl tbf))] := hD
                                obtain ⟨c89_0, c89_1, c89_2⟩ := hw_89
                                have c89_1 : 0 ≤ v89_1.toInt ∧ v89_1.toInt ≤ 120 := c89_1
                                have c89_2 : SI v89_4 v0 := c89_2
                                rcases c89_0 with ⟨e_89, f_89⟩ | e_89
                                · subst e_89
                                  have f_89 : g1_c76.toInt < v89_1.toInt := f_89
                                  refine lv_istore (lv' := [(4, .int 1), (1, .int 1), (3, .int r_55), (2, .int r_54), (0, .ref h)]) hx hb dX8_isLand_162 hl (by decide) rfl (fun ls hl => ?_)
                                  refine lv_goto (tgt := 205) hx hb dX8_isLand_164 (by decide) ?_
                                  refine lv_iload hx hb dX8_isLand_205 (lv_at hl 0 rfl) ?_
                                  refine lv_if_ne (tgt := 212) hx hb dX8_isLand_207 (by decide) (fun _ => ?_) (fun c9 => absurd c9 (by decide))
                                  refine lv_goto (tgt := 76) hx hb dX8_isLand_212 (by decide) ?_
                                  exact ih76 1 v89_0 v89_1 v89_2 v89_3 v89_4 _ _ _ (show 0 ≤ v89_1.toInt ∧ v89_1.toInt ≤ 120 from by omega) c89_2 (by omega) (hP.sub [1, 0, 2] rfl) (hD.sub [1, 0, 2] (by decide) rfl) hS (lv_sub hl [1, 4] rfl)
                                · subst e_89
                                  refine lv_istore (lv' := [(4, .int 0), (1, .int 1), (3, .int r_55), (2, .int r_54), (0, .ref h)]) hx hb dX8_isLand_162 hl (by decide) rfl (fun ls hl => ?_)
                                  refine lv_goto (tgt := 205) hx hb dX8_isLand_164 (by decide) ?_
                                  refine lv_iload hx hb dX8_isLand_205 (lv_at hl 0 rfl) ?_
                                  refine lv_if_ne (tgt := 212) hx hb dX8_isLand_207 (by decide) (fun c9 => absurd (by decide) c9) (fun _ => ?_)
                                  refine lv_iconst (v := 0) hx hb dX8_isLand_210 (by decide) ?_
                                  exact wr_z (v := 0) hx hb hr hlocks hS (v89_0, v89_1, v89_2, v89_3, v89_4) (by exact ⟨Or.inr (rfl), show 0 ≤ (v89_1 : Int32).toInt ∧ (v89_1 : Int32).toInt ≤ 120 from by omega, c89_2⟩) (hP.sub [0, 1, 2] rfl) (hD.sub [0, 1, 2] (by decide) rfl) dX8_isLand_211 rfl
                        · have f_66 : r_54.toInt = 99 := zi_eq c_66
                          refine lv_iload_n hx hb dX8_isLand_120 rfl (lv_at hl 2 rfl) ?_
                          refine lv_if_ne (tgt := 134) hx hb dX8_isLand_121 (by decide) (fun c_90 => ?_) (fun c_90 => ?_)
                          · have f_90 : ¬ t1_c76.toInt = 0 := zi_ne c_90
                            refine lv_iload_n hx hb dX8_isLand_134 rfl (lv_at hl 1 rfl) ?_
                            refine lv_bipush (v := 114) hx hb dX8_isLand_135 (by decide) ?_
                            refine lv_icmp_ne (tgt := 167) hx hb dX8_isLand_137 (by decide) (fun c_91 => ?_) (fun c_91 => ?_)
                            · have f_91 : ¬ r_54.toInt = 114 := zi_ne c_91
                              refine lv_iload_n hx hb dX8_isLand_167 rfl (lv_at hl 0 rfl) ?_
                              refine lv_if_le (tgt := 194) hx hb dX8_isLand_168 (by decide) (fun c_92 => ?_) (fun c_92 => ?_)
                              · have f_92 : r_55.toInt ≤ 0 := zi_le c_92
                                refine lv_aload_n hx hb dX8_isLand_194 rfl (lv_at hl 3 rfl) ?_
                                refine lv_iconst (v := 1) hx hb dX8_isLand_195 (by decide) ?_
                                refine lv_aload_n hx hb dX8_isLand_196 rfl (lv_at hl 3 rfl) ?_
                                refine va_get (D := D) (ci := 7) (v := .int g1_c76) (C := RX8) (T := TX8) (N := 16) hx hb hts (fun _ h => List.mem_cons_of_mem _ (List.mem_append_right _ h)) hown hK hP 1 rfl rfl 10 (by decide) (hts (.fieldLink RX8 62 "WinterWalkModel" "at" "I") (List.mem_of_getElem? (i := 1) rfl)) (fun _ h9 => h9) rfl dX8_isLand_197 ?_
                                have k_93 := (g_X8_fails l D cI cB cQ H.size h sl zs ln ir tk tb tr fz na su le g0_c76 g1_c76 g2_c76 tc g3_c76 1 g1_c76)
                                refine wc_i (WC := [(h, .inr (7, [.ref sl, .int na, .ref zs, .ref ln, .ref ir, .ref tk, .int su, .int le, .ref tb, .int g0_c76, .int g1_c76, .int g2_c76, .ref tr, .int tc, .ref fz, .int g3_c76]))]) (WR := [(sl, .inl (cI, 1653, .inl g4_c76)), (tb, .inl (cB, 120, .inl tbf))]) (va_runV (As := [.int 1, .int g1_c76]) (rest := []) ⟨hx, hb, hml, hown, hts⟩ k_93 (cwV 2 hts gX8_isLand_X8_fails rfl rfl rfl (by decide +kernel) ⟨Nat.le_of_ble_eq_true rfl, Nat.le_of_ble_eq_true rfl⟩) (wp_V hP hK hD hN [1] (by decide) rfl (ci := 7) rfl rfl) rfl rfl hl.1 rfl (lv_room (Nat.le_of_ble_eq_true rfl)) dX8_isLand_200 ⟨Nat.le_of_ble_eq_true rfl, Nat.le_of_ble_eq_true rfl⟩) hP hD hS hA [1] [0, 2] rfl rfl (by decide) (by decide) (fun r_93 => pe2 (fun v93_0 v93_1 H locs hw_93 hP hD hS => ?_))
                                clear k_93
                                have hP : va_P D kl [(sl, .inl (cI, 1653, .inl g4_c76)), (tb, .inl (cB, 120, .inl tbf)), (h, .inr (7, [.ref sl, .int na, .ref zs, .ref ln, .ref ir, .ref tk, .int su, .int le, .ref tb, .int v93_0, .int g1_c76, .int v93_1, .ref tr, .int tc, .ref fz, .int g3_c76]))] H := hP
                                have hD : va_D A [(sl, .inl (cI, 1653, .inl g4_c76)), (tb, .inl (cB, 120, .inl tbf)), (h, .inr (7, [.ref sl, .int na, .ref zs, .ref ln, .ref ir, .ref tk, .int su, .int le, .ref tb, .int v93_0, .int g1_c76, .int v93_1, .ref tr, .int tc, .ref fz, .int g3_c76]))] := hD
                                have c93_0 := hw_93
                                have e_93 := c93_0
                                · subst e_93
                                  refine lv_istore (lv' := [(4, .int 0), (3, .int r_55), (2, .int r_54), (1, .int t1_c76), (0, .ref h)]) hx hb dX8_isLand_203 hl (by decide) rfl (fun ls hl => ?_)
                                  refine lv_iload hx hb dX8_isLand_205 (lv_at hl 0 rfl) ?_
                                  refine lv_if_ne (tgt := 212) hx hb dX8_isLand_207 (by decide) (fun c9 => absurd (by decide) c9) (fun _ => ?_)
                                  refine lv_iconst (v := 0) hx hb dX8_isLand_210 (by decide) ?_
                                  exact wr_z (v := 0) hx hb hr hlocks hS (v93_0, g1_c76, v93_1, g3_c76, g4_c76) (by exact ⟨Or.inr (rfl), show 0 ≤ (g1_c76 : Int32).toInt ∧ (g1_c76 : Int32).toInt ≤ 120 from by omega, ha_g4_c76⟩) (hP.sub [2, 0, 1] rfl) (hD.sub [2, 0, 1] (by decide) rfl) dX8_isLand_211 rfl
                              · have f_92 : ¬ r_55.toInt ≤ 0 := zi_nle c_92
                                refine lv_aload_n hx hb dX8_isLand_171 rfl (lv_at hl 3 rfl) ?_
                                refine va_get (D := D) (ci := 7) (v := .ref sl) (C := RX8) (T := TX8) (N := 16) hx hb hts (fun _ h => List.mem_cons_of_mem _ (List.mem_append_right _ h)) hown hK hP 1 rfl rfl 0 (by decide) (hts (.fieldLink RX8 7 "WinterWalkModel" "slot" "[I") (List.mem_of_getElem? (i := 2) rfl)) (fun _ h9 => h9) rfl dX8_isLand_172 ?_
                                refine lv_sipush (v := 1597) hx hb dX8_isLand_175 (by decide) ?_
                                refine va_iald hx hb hK hP 0 0 rfl rfl (zi_in (by decide) (by decide)) dX8_isLand_178 ?_
                                refine lv_topi (fun x_94 ex_94 => ?_)
                                have f_94 : 0 ≤ x_94.toInt ∧ x_94.toInt ≤ 8 := by rw [ex_94]; exact si_v ha_g4_c76 (s := 28) (by decide) (by omega)
                                refine lv_if_le (tgt := 194) hx hb dX8_isLand_179 (by decide) (fun c_95 => ?_) (fun c_95 => ?_)
                                · have f_95 : x_94.toInt ≤ 0 := zi_le c_95
                                  refine lv_aload_n hx hb dX8_isLand_194 rfl (lv_at hl 3 rfl) ?_
                                  refine lv_iconst (v := 1) hx hb dX8_isLand_195 (by decide) ?_
                                  refine lv_aload_n hx hb dX8_isLand_196 rfl (lv_at hl 3 rfl) ?_
                                  refine va_get (D := D) (ci := 7) (v := .int g1_c76) (C := RX8) (T := TX8) (N := 16) hx hb hts (fun _ h => List.mem_cons_of_mem _ (List.mem_append_right _ h)) hown hK hP 1 rfl rfl 10 (by decide) (hts (.fieldLink RX8 62 "WinterWalkModel" "at" "I") (List.mem_of_getElem? (i := 1) rfl)) (fun _ h9 => h9) rfl dX8_isLand_197 ?_
                                  have k_96 := (g_X8_fails l D cI cB cQ H.size h sl zs ln ir tk tb tr fz na su le g0_c76 g1_c76 g2_c76 tc g3_c76 1 g1_c76)
                                  refine wc_i (WC := [(h, .inr (7, [.ref sl, .int na, .ref zs, .ref ln, .ref ir, .ref tk, .int su, .int le, .ref tb, .int g0_c76, .int g1_c76, .int g2_c76, .ref tr, .int tc, .ref fz, .int g3_c76]))]) (WR := [(sl, .inl (cI, 1653, .inl g4_c76)), (tb, .inl (cB, 120, .inl tbf))]) (va_runV (As := [.int 1, .int g1_c76]) (rest := []) ⟨hx, hb, hml, hown, hts⟩ k_96 (cwV 2 hts gX8_isLand_X8_fails rfl rfl rfl (by decide +kernel) ⟨Nat.le_of_ble_eq_true rfl, Nat.le_of_ble_eq_true rfl⟩) (wp_V hP hK hD hN [1] (by decide) rfl (ci := 7) rfl rfl) rfl rfl hl.1 rfl (lv_room (Nat.le_of_ble_eq_true rfl)) dX8_isLand_200 ⟨Nat.le_of_ble_eq_true rfl, Nat.le_of_ble_eq_true rfl⟩) hP hD hS hA [1] [0, 2] rfl rfl (by decide) (by decide) (fun r_96 => pe2 (fun v96_0 v96_1 H locs hw_96 hP hD hS => ?_))
                                  clear k_96
                                  have hP : va_P D kl [(sl, .inl (cI, 1653, .inl g4_c76)), (tb, .inl (cB, 120, .inl tbf)), (h, .inr (7, [.ref sl, .int na, .ref zs, .ref ln, .ref ir, .ref tk, .int su, .int le, .ref tb, .int v96_0, .int g1_c76, .int v96_1, .ref tr, .int tc, .ref fz, .int g3_c76]))] H := hP
                                  have hD : va_D A [(sl, .inl (cI, 1653, .inl g4_c76)), (tb, .inl (cB, 120, .inl tbf)), (h, .inr (7, [.ref sl, .int na, .ref zs, .ref ln, .ref ir, .ref tk, .int su, .int le, .ref tb, .int v96_0, .int g1_c76, .int v96_1, .ref tr, .int tc, .ref fz, .int g3_c76]))] := hD
                                  have c96_0 := hw_96
                                  have e_96 := c96_0
                                  · subst e_96
                                    refine lv_istore (lv' := [(4, .int 0), (3, .int r_55), (2, .int r_54), (1, .int t1_c76), (0, .ref h)]) hx hb dX8_isLand_203 hl (by decide) rfl (fun ls hl => ?_)
                                    refine lv_iload hx hb dX8_isLand_205 (lv_at hl 0 rfl) ?_
                                    refine lv_if_ne (tgt := 212) hx hb dX8_isLand_207 (by decide) (fun c9 => absurd (by decide) c9) (fun _ => ?_)
                                    refine lv_iconst (v := 0) hx hb dX8_isLand_210 (by decide) ?_
                                    exact wr_z (v := 0) hx hb hr hlocks hS (v96_0, g1_c76, v96_1, g3_c76, g4_c76) (by exact ⟨Or.inr (rfl), show 0 ≤ (g1_c76 : Int32).toInt ∧ (g1_c76 : Int32).toInt ≤ 120 from by omega, ha_g4_c76⟩) (hP.sub [2, 0, 1] rfl) (hD.sub [2, 0, 1] (by decide) rfl) dX8_isLand_211 rfl
                                · have f_95 : ¬ x_94.toInt ≤ 0 := zi_nle c_95
                                  refine lv_iconst (v := 2) hx hb dX8_isLand_182 (by decide) ?_
                                  refine lv_istore_n (lv' := [(1, .int 2), (3, .int r_55), (2, .int r_54), (0, .ref h)]) hx hb dX8_isLand_183 rfl hl (by decide) rfl (fun ls hl => ?_)
                                  refine lv_aload_n hx hb dX8_isLand_184 rfl (lv_at hl 3 rfl) ?_
                                  refine lv_iload_n hx hb dX8_isLand_185 rfl (lv_at hl 2 rfl) ?_
                                  have k_97 := (g_X8_isWalker l D cI cB cQ H.size h sl zs ln ir tk tb tr fz na su le g0_c76 g1_c76 g2_c76 tc g3_c76 r_54 g4_c76 tbf v0 ha_g4_c76 (by omega) (by omega) (by omega) (by omega) (by omega))
                                  refine wc_i (WC := [(h, .inr (7, [.ref sl, .int na, .ref zs, .ref ln, .ref ir, .ref tk, .int su, .int le, .ref tb, .int g0_c76, .int g1_c76, .int g2_c76, .ref tr, .int tc, .ref fz, .int g3_c76])), (sl, .inl (cI, 1653, .inl g4_c76)), (tb, .inl (cB, 120, .inl tbf))]) (WR := []) (va_runV (As := [.int r_54]) (rest := []) ⟨hx, hb, hml, hown, hts⟩ k_97 (cwV 1 hts gX8_isLand_X8_isWalker rfl rfl rfl (by decide +kernel) ⟨Nat.le_of_ble_eq_true rfl, Nat.le_of_ble_eq_true rfl⟩) (wp_V hP hK hD hN [1, 0, 2] (by decide) rfl (ci := 7) rfl rfl) rfl rfl hl.1 rfl (lv_room (Nat.le_of_ble_eq_true rfl)) dX8_isLand_186 ⟨Nat.le_of_ble_eq_true rfl, Nat.le_of_ble_eq_true rfl⟩) hP hD hS hA [1, 0, 2] [] rfl rfl (by decide) (by decide) (fun r_97 => pe5 (fun v97_0 v97_1 v97_2 v97_3 v97_4 H locs hw_97 hP hD hS => ?_))
                                  clear k_97
                                  have hP : va_P D kl [(h, .inr (7, [.ref sl, .int na, .ref zs, .ref ln, .ref ir, .ref tk, .int su, .int le, .ref tb, .int v97_0, .int v97_1, .int v97_2, .ref tr, .int tc, .ref fz, .int v97_3])), (sl, .inl (cI, 1653, .inl v97_4)), (tb, .inl (cB, 120, .inl tbf))] H := hP
                                  have hD : va_D A [(h, .inr (7, [.ref sl, .int na, .ref zs, .ref ln, .ref ir, .ref tk, .int su, .int le, .ref tb, .int v97_0, .int v97_1, .int v97_2, .ref tr, .int tc, .ref fz, .int v97_3])), (sl, .inl (cI, 1653, .inl v97_4)), (tb, .inl (cB, 120, .inl tbf))] := hD
                                  obtain ⟨c97_0, c97_1, c97_2⟩ := hw_97
                                  have c97_1 : 0 ≤ v97_1.toInt ∧ v97_1.toInt ≤ 120 := c97_1
                                  have c97_2 : SI v97_4 v0 := c97_2
                                  rcases c97_0 with ⟨e_97, f_97⟩ | e_97
                                  · subst e_97
                                    have f_97 : g1_c76.toInt < v97_1.toInt := f_97
                                    refine lv_istore (lv' := [(4, .int 1), (1, .int 2), (3, .int r_55), (2, .int r_54), (0, .ref h)]) hx hb dX8_isLand_189 hl (by decide) rfl (fun ls hl => ?_)
                                    refine lv_goto (tgt := 205) hx hb dX8_isLand_191 (by decide) ?_
                                    refine lv_iload hx hb dX8_isLand_205 (lv_at hl 0 rfl) ?_
                                    refine lv_if_ne (tgt := 212) hx hb dX8_isLand_207 (by decide) (fun _ => ?_) (fun c9 => absurd c9 (by decide))
                                    refine lv_goto (tgt := 76) hx hb dX8_isLand_212 (by decide) ?_
                                    exact ih76 2 v97_0 v97_1 v97_2 v97_3 v97_4 _ _ _ (show 0 ≤ v97_1.toInt ∧ v97_1.toInt ≤ 120 from by omega) c97_2 (by omega) (hP.sub [1, 0, 2] rfl) (hD.sub [1, 0, 2] (by decide) rfl) hS (lv_sub hl [1, 4] rfl)
                                  · subst e_97
                                    refine lv_istore (lv' := [(4, .int 0), (1, .int 2), (3, .int r_55), (2, .int r_54), (0, .ref h)]) hx hb dX8_isLand_189 hl (by decide) rfl (fun ls hl => ?_)
                                    refine lv_goto (tgt := 205) hx hb dX8_isLand_191 (by decide) ?_
                                    refine lv_iload hx hb dX8_isLand_205 (lv_at hl 0 rfl) ?_
                                    refine lv_if_ne (tgt := 212) hx hb dX8_isLand_207 (by decide) (fun c9 => absurd (by decide) c9) (fun _ => ?_)
                                    refine lv_iconst (v := 0) hx hb dX8_isLand_210 (by decide) ?_
                                    exact wr_z (v := 0) hx hb hr hlocks hS (v97_0, v97_1, v97_2, v97_3, v97_4) (by exact ⟨Or.inr (rfl), show 0 ≤ (v97_1 : Int32).toInt ∧ (v97_1 : Int32).toInt ≤ 120 from by omega, c97_2⟩) (hP.sub [0, 1, 2] rfl) (hD.sub [0, 1, 2] (by decide) rfl) dX8_isLand_211 rfl
                            · have f_91 : r_54.toInt = 114 := zi_eq c_91
                              exfalso; omega
                          · have f_90 : t1_c76.toInt = 0 := zi_eq c_90
                            refine lv_aload_n hx hb dX8_isLand_124 rfl (lv_at hl 3 rfl) ?_
                            refine lv_iload_n hx hb dX8_isLand_125 rfl (lv_at hl 1 rfl) ?_
                            have k_98 := (g_X8_isVillage l D cI cB cQ H.size h sl zs ln ir tk tb tr fz na su le g0_c76 g1_c76 g2_c76 tc g3_c76 r_54 g4_c76 tbf v0 ha_g4_c76 (by omega) (by omega) (by omega) (by omega) (by omega))
                            refine wc_i (WC := [(h, .inr (7, [.ref sl, .int na, .ref zs, .ref ln, .ref ir, .ref tk, .int su, .int le, .ref tb, .int g0_c76, .int g1_c76, .int g2_c76, .ref tr, .int tc, .ref fz, .int g3_c76])), (sl, .inl (cI, 1653, .inl g4_c76)), (tb, .inl (cB, 120, .inl tbf))]) (WR := []) (va_runV (As := [.int r_54]) (rest := []) ⟨hx, hb, hml, hown, hts⟩ k_98 (cwV 1 hts gX8_isLand_X8_isVillage rfl rfl rfl (by decide +kernel) ⟨Nat.le_of_ble_eq_true rfl, Nat.le_of_ble_eq_true rfl⟩) (wp_V hP hK hD hN [1, 0, 2] (by decide) rfl (ci := 7) rfl rfl) rfl rfl hl.1 rfl (lv_room (Nat.le_of_ble_eq_true rfl)) dX8_isLand_126 ⟨Nat.le_of_ble_eq_true rfl, Nat.le_of_ble_eq_true rfl⟩) hP hD hS hA [1, 0, 2] [] rfl rfl (by decide) (by decide) (fun r_98 => pe5 (fun v98_0 v98_1 v98_2 v98_3 v98_4 H locs hw_98 hP hD hS => ?_))
                            clear k_98
                            have hP : va_P D kl [(h, .inr (7, [.ref sl, .int na, .ref zs, .ref ln, .ref ir, .ref tk, .int su, .int le, .ref tb, .int v98_0, .int v98_1, .int v98_2, .ref tr, .int tc, .ref fz, .int v98_3])), (sl, .inl (cI, 1653, .inl v98_4)), (tb, .inl (cB, 120, .inl tbf))] H := hP
                            have hD : va_D A [(h, .inr (7, [.ref sl, .int na, .ref zs, .ref ln, .ref ir, .ref tk, .int su, .int le, .ref tb, .int v98_0, .int v98_1, .int v98_2, .ref tr, .int tc, .ref fz, .int v98_3])), (sl, .inl (cI, 1653, .inl v98_4)), (tb, .inl (cB, 120, .inl tbf))] := hD
                            obtain ⟨c98_0, c98_1, c98_2⟩ := hw_98
                            have c98_1 : 0 ≤ v98_1.toInt ∧ v98_1.toInt ≤ 120 := c98_1
                            have c98_2 : SI v98_4 v0 := c98_2
                            rcases c98_0 with ⟨e_98, f_98⟩ | e_98
                            · subst e_98
                              have f_98 : g1_c76.toInt < v98_1.toInt := f_98
                              refine lv_istore (lv' := [(4, .int 1), (3, .int r_55), (2, .int r_54), (1, .int t1_c76), (0, .ref h)]) hx hb dX8_isLand_129 hl (by decide) rfl (fun ls hl => ?_)
                              refine lv_goto (tgt := 205) hx hb dX8_isLand_131 (by decide) ?_
                              refine lv_iload hx hb dX8_isLand_205 (lv_at hl 0 rfl) ?_
                              refine lv_if_ne (tgt := 212) hx hb dX8_isLand_207 (by decide) (fun _ => ?_) (fun c9 => absurd c9 (by decide))
                              refine lv_goto (tgt := 76) hx hb dX8_isLand_212 (by decide) ?_
                              exact ih76 t1_c76 v98_0 v98_1 v98_2 v98_3 v98_4 _ _ _ (show 0 ≤ v98_1.toInt ∧ v98_1.toInt ≤ 120 from by omega) c98_2 (by omega) (hP.sub [1, 0, 2] rfl) (hD.sub [1, 0, 2] (by decide) rfl) hS (lv_sub hl [3, 4] rfl)
                            · subst e_98
                              refine lv_istore (lv' := [(4, .int 0), (3, .int r_55), (2, .int r_54), (1, .int t1_c76), (0, .ref h)]) hx hb dX8_isLand_129 hl (by decide) rfl (fun ls hl => ?_)
                              refine lv_goto (tgt := 205) hx hb dX8_isLand_131 (by decide) ?_
                              refine lv_iload hx hb dX8_isLand_205 (lv_at hl 0 rfl) ?_
                              refine lv_if_ne (tgt := 212) hx hb dX8_isLand_207 (by decide) (fun c9 => absurd (by decide) c9) (fun _ => ?_)
                              refine lv_iconst (v := 0) hx hb dX8_isLand_210 (by decide) ?_
                              exact wr_z (v := 0) hx hb hr hlocks hS (v98_0, v98_1, v98_2, v98_3, v98_4) (by exact ⟨Or.inr (rfl), show 0 ≤ (v98_1 : Int32).toInt ∧ (v98_1 : Int32).toInt ≤ 120 from by omega, c98_2⟩) (hP.sub [0, 1, 2] rfl) (hD.sub [0, 1, 2] (by decide) rfl) dX8_isLand_211 rfl
              exact hL76 (((120 - (v5_1 : Int32).toInt).toNat) + 1) 0 v5_0 v5_1 v5_2 v3_3 (upd g0_c7 (1596 : Int32).toNatClampNeg v3_3) _ _ _ (show 0 ≤ v5_1.toInt ∧ v5_1.toInt ≤ 120 from by omega) ha_4 (Nat.lt_succ_self _) (hP.sub [0, 1, 2] rfl) (hD.sub [0, 1, 2] (by decide) rfl) hS (lv_sub hl [0, 1] rfl)
            · subst e_5
              refine lv_if_ne (tgt := 74) hx hb dX8_isLand_69 (by decide) (fun c9 => absurd (by decide) c9) (fun _ => ?_)
              refine lv_iconst (v := 0) hx hb dX8_isLand_72 (by decide) ?_
              exact wr_z (v := 0) hx hb hr hlocks hS (v5_0, v5_1, v5_2, v3_3, (upd g0_c7 (1596 : Int32).toNatClampNeg v3_3)) (by exact ⟨Or.inr (rfl), show 0 ≤ (v5_1 : Int32).toInt ∧ (v5_1 : Int32).toInt ≤ 120 from by omega, ha_4⟩) (hP.sub [1, 0, 2] rfl) (hD.sub [1, 0, 2] (by decide) rfl) dX8_isLand_73 rfl
          · subst e_3
            refine lv_if_ne (tgt := 51) hx hb dX8_isLand_46 (by decide) (fun c9 => absurd (by decide) c9) (fun _ => ?_)
            refine lv_iconst (v := 0) hx hb dX8_isLand_49 (by decide) ?_
            exact wr_z (v := 0) hx hb hr hlocks hS (v3_0, v3_1, v3_2, v3_3, g0_c7) (by exact ⟨Or.inr (rfl), show 0 ≤ (v3_1 : Int32).toInt ∧ (v3_1 : Int32).toInt ≤ 120 from by omega, ha_g0_c7⟩) (hP.sub [1, 0, 2] rfl) (hD.sub [1, 0, 2] (by decide) rfl) dX8_isLand_50 rfl
        · subst e_2
          refine lv_if_eq (tgt := 49) hx hb dX8_isLand_36 (by decide) (fun _ => ?_) (fun c9 => absurd (by decide) c9)
          refine lv_iconst (v := 0) hx hb dX8_isLand_49 (by decide) ?_
          exact wr_z (v := 0) hx hb hr hlocks hS (v2_0, v2_1, v2_2, nm, g0_c7) (by exact ⟨Or.inr (rfl), show 0 ≤ (v2_1 : Int32).toInt ∧ (v2_1 : Int32).toInt ≤ 120 from by omega, ha_g0_c7⟩) (hP.sub [1, 0, 2] rfl) (hD.sub [1, 0, 2] (by decide) rfl) dX8_isLand_50 rfl
      · have f_1 : ¬ 57 ≤ t1_c7.toInt := zi_nle c_1
        refine lv_aload_n hx hb dX8_isLand_13 rfl (lv_at hl 1 rfl) ?_
        refine va_get (D := D) (ci := 7) (v := .ref sl) (C := RX8) (T := TX8) (N := 16) hx hb hts (fun _ h => List.mem_cons_of_mem _ (List.mem_append_right _ h)) hown hK hP 0 rfl rfl 0 (by decide) (hts (.fieldLink RX8 7 "WinterWalkModel" "slot" "[I") (List.mem_of_getElem? (i := 2) rfl)) (fun _ h9 => h9) rfl dX8_isLand_14 ?_
        refine lv_sipush (v := 1596) hx hb dX8_isLand_17 (by decide) ?_
        refine lv_iload_n hx hb dX8_isLand_20 rfl (lv_at hl 0 rfl) ?_
        refine lv_iadd hx hb dX8_isLand_21 ?_
        refine lv_topi (fun x_99 ex_99 => ?_)
        have e_99 : x_99.toInt = 1596 + t1_c7.toInt := by rw [ex_99]; exact zi_add (by decide) (rfl) (by omega) (by omega)
        clear ex_99
        refine lv_iconst (v := 0) hx hb dX8_isLand_22 (by decide) ?_
        refine va_iast hx hb hK hP hD hS 1 0 rfl rfl (zi_in (by omega) (by omega)) dX8_isLand_23 (fun H locs hP hD hS => ?_)
        have hP : va_P D kl [(h, .inr (7, [.ref sl, .int na, .ref zs, .ref ln, .ref ir, .ref tk, .int su, .int le, .ref tb, .int fu, .int 0, .int pp, .ref tr, .int tc, .ref fz, .int nm])), (sl, .inl (cI, 1653, .inl (upd g0_c7 (x_99 : Int32).toNatClampNeg 0))), (tb, .inl (cB, 120, .inl tbf))] H := hP
        have hD : va_D A [(h, .inr (7, [.ref sl, .int na, .ref zs, .ref ln, .ref ir, .ref tk, .int su, .int le, .ref tb, .int fu, .int 0, .int pp, .ref tr, .int tc, .ref fz, .int nm])), (sl, .inl (cI, 1653, .inl (upd g0_c7 (x_99 : Int32).toNatClampNeg 0))), (tb, .inl (cB, 120, .inl tbf))] := hD
        have ha_100 : SI (upd g0_c7 (x_99 : Int32).toNatClampNeg 0) v0 := si_up ha_g0_c7 (by omega) (fun s0 a0 b0 e0 => by first | decide | omega) (fun s0 a0 b0 e0 => by first | decide | omega) (fun s0 k0 a0 b0 c0 d0 e0 => by first | decide | omega) (by omega)
        obtain ⟨x_101, ex_101⟩ : ∃ y : Int32, y = t1_c7 + Int32.ofInt 1 := ⟨_, rfl⟩
        refine lv_iinc (v := x_101) (lv' := [(1, .int x_101), (0, .ref h)]) hx hb dX8_isLand_24 hl (k := 0) rfl ex_101.symm (by decide) rfl (fun ls hl => ?_)
        have ex_101 : x_101 = t1_c7 + 1 := ex_101
        have e_101 : x_101.toInt = t1_c7.toInt + 1 := by rw [ex_101]; exact zi_add (rfl) (by decide) (by omega) (by omega)
        clear ex_101
        refine lv_goto (tgt := 7) hx hb dX8_isLand_27 (by decide) ?_
        exact ih7 x_101 (upd g0_c7 (x_99 : Int32).toNatClampNeg 0) _ _ _ (show 0 ≤ x_101.toInt ∧ x_101.toInt ≤ 57 from by omega) ha_100 (by omega) (hP.sub [0, 1, 2] rfl) (hD.sub [0, 1, 2] (by decide) rfl) hS (lv_sub hl [0, 1] rfl)
  exact hL7 (((57 - (0 : Int32).toInt).toNat) + 1) 0 sf _ _ _ (show 0 ≤ 0 ∧ 0 ≤ 57 from by omega) hsi (Nat.lt_succ_self _) (hP.sub [0, 1, 2] rfl) (hD.sub [0, 1, 2] (by decide) rfl) hS (lv_sub hl [0, 1] rfl)
