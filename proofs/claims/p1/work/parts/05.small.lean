/-! what a fresh object answers, where it depends on what is asked -/
def sp_row (a b n : Int32) : Int32 := if (0 ≤ a.toInt ∧ a.toInt ≤ 7) ∧ (0 ≤ b.toInt ∧ b.toInt ≤ 2) ∧ n.toInt ≤ 40 then (if n.toInt < 0 then (-1000014) else n) else (-1000001)
def sp_set (a _i _v : Int32) : Int32 := if 0 ≤ a.toInt ∧ a.toInt ≤ 7 then (-1000011) else (-1000001)
def sp_copy (a _i b _j _n : Int32) : Int32 := if (0 ≤ a.toInt ∧ a.toInt ≤ 7) ∧ (0 ≤ b.toInt ∧ b.toInt ≤ 7) then (-1000011) else (-1000001)
def sp_drop (a : Int32) : Int32 := if 0 ≤ a.toInt ∧ a.toInt ≤ 7 then (-1000011) else (-1000001)
def sp_feed (a : Int32) : Int32 := if 0 ≤ a.toInt ∧ a.toInt ≤ 255 then 1 else (-1000001)
def sp_image (a : Int32) : Int32 := if 0 ≤ a.toInt ∧ a.toInt ≤ 1 then (-1000002) else (-1000001)
def sp_count (a : Int32) : Int32 := if 0 ≤ a.toInt ∧ a.toInt ≤ 8 then 0 else (-1000001)
theorem zi_nat {x : Int32} {M : Nat} (h0 : 0 ≤ x.toInt) (h1 : x.toInt ≤ M) : ∃ k : Nat, k ≤ M ∧ x = nI k := by
  obtain ⟨j, hj, e⟩ := nI_of (x := x) (fun z => by have := Int32.lt_iff_toInt_lt.mp z; have e0 : (0 : Int32).toInt = 0 := by decide
                                                   omega)
  refine ⟨j, ?_, e⟩
  rw [e, nI_toInt hj] at h1
  omega
set_option maxHeartbeats 4000000 in
set_option maxRecDepth 100000 in
theorem k_isFrom (l : Launch) (D : va_G) (cI cB cQ : ClassId) (sz : Nat) (a : Int32) (v : Int32) (b : Int32) : mi l yX7_isFrom wsX7_isFrom ({ frames := 0, cells := 0, slots := 0, locals := 0 }) D cI cB cQ [.int a, .int v, .int b] sz [] (fun (r : Int32) (_u : Unit) => (r = 1 ∧ a.toInt ≤ v.toInt ∧ v.toInt ≤ b.toInt) ∨ (r = 0 ∧ ¬ (a.toInt ≤ v.toInt ∧ v.toInt ≤ b.toInt))) (fun _ => []) 0 0 := by
  refine wm_i (cc := cX7_isFrom) (maxL := 3) (ret := (some .boolean)) (by decide) rfl (Nat.le_of_ble_eq_true rfl) ?_
  intro p e s m below meth c A ls hx hb hr hml hown hts hlocks hin hP hK hD hN hA hl hS
  have hown : s.vm.findClass RX7 = some m.cls := hown
  have hl : lv_has ls 3 [(0, .int a), (1, .int v), (2, .int b)] := hl
  change W p l e ({ frames := 0, cells := 0, slots := 0, locals := 0 }) s m ([.int a, .int v, .int b] : List Value).toArray below meth c s.heap [] 0 0 (MQ below (va_Qi (fun (r : Int32) (_u : Unit) => (r = 1 ∧ a.toInt ≤ v.toInt ∧ v.toInt ≤ b.toInt) ∨ (r = 0 ∧ ¬ (a.toInt ≤ v.toInt ∧ v.toInt ≤ b.toInt))) (fun u t => wb D A ((fun _ => []) u) t) A) ([.int a, .int v, .int b] : List Value).toArray s 0 0 A) (F0 m 0 ls [])
  refine lv_iload_n hx hb dX7_isFrom_0 rfl (lv_at hl 0 rfl) ?_
  refine lv_iload_n hx hb dX7_isFrom_1 rfl (lv_at hl 1 rfl) ?_
  refine lv_icmp_gt (tgt := 14) hx hb dX7_isFrom_2 (by decide) (fun c_1 => ?_) (fun c_1 => ?_)
  · have f_1 : v.toInt < a.toInt := zi_lt c_1
    refine lv_iconst (v := 0) hx hb dX7_isFrom_14 (by decide) ?_
    exact wr_z (v := 0) hx hb hr hlocks hS () (by first | exact Or.inl ⟨rfl, by omega⟩ | exact Or.inr ⟨rfl, by omega⟩) (hP.sub [] rfl) (hD.sub [] (by decide) rfl) dX7_isFrom_15 rfl
  · have f_1 : ¬ v.toInt < a.toInt := zi_nlt c_1
    refine lv_iload_n hx hb dX7_isFrom_5 rfl (lv_at hl 1 rfl) ?_
    refine lv_iload_n hx hb dX7_isFrom_6 rfl (lv_at hl 2 rfl) ?_
    refine lv_icmp_gt (tgt := 14) hx hb dX7_isFrom_7 (by decide) (fun c_2 => ?_) (fun c_2 => ?_)
    · have f_2 : b.toInt < v.toInt := zi_lt c_2
      refine lv_iconst (v := 0) hx hb dX7_isFrom_14 (by decide) ?_
      exact wr_z (v := 0) hx hb hr hlocks hS () (by first | exact Or.inl ⟨rfl, by omega⟩ | exact Or.inr ⟨rfl, by omega⟩) (hP.sub [] rfl) (hD.sub [] (by decide) rfl) dX7_isFrom_15 rfl
    · have f_2 : ¬ b.toInt < v.toInt := zi_nlt c_2
      refine lv_iconst (v := 1) hx hb dX7_isFrom_10 (by decide) ?_
      refine lv_goto (tgt := 15) hx hb dX7_isFrom_11 (by decide) ?_
      exact wr_z (v := 1) hx hb hr hlocks hS () (by first | exact Or.inl ⟨rfl, by omega⟩ | exact Or.inr ⟨rfl, by omega⟩) (hP.sub [] rfl) (hD.sub [] (by decide) rfl) dX7_isFrom_15 rfl
set_option maxHeartbeats 4000000 in
set_option maxRecDepth 100000 in
theorem k_in (l : Launch) (D : va_G) (cI cB cQ : ClassId) (sz : Nat) (v : Int64) (a : Int64) (b : Int64) : mi l yX8_in wsX8_in ({ frames := 0, cells := 0, slots := 0, locals := 0 }) D cI cB cQ [.long v, .long a, .long b] sz [] (fun (r : Int32) (_u : Unit) => (r = 1 ∧ a.toInt ≤ v.toInt ∧ v.toInt ≤ b.toInt) ∨ (r = 0 ∧ ¬ (a.toInt ≤ v.toInt ∧ v.toInt ≤ b.toInt))) (fun _ => []) 0 0 := by
  refine wm_i (cc := cX8_in) (maxL := 6) (ret := (some .boolean)) (by decide) rfl (Nat.le_of_ble_eq_true rfl) ?_
  intro p e s m below meth c A ls hx hb hr hml hown hts hlocks hin hP hK hD hN hA hl hS
  have hown : s.vm.findClass RX8 = some m.cls := hown
  have hl : lv_has ls 6 [(0, .long v), (2, .long a), (4, .long b)] := hl
  change W p l e ({ frames := 0, cells := 0, slots := 0, locals := 0 }) s m ([.long v, .long a, .long b] : List Value).toArray below meth c s.heap [] 0 0 (MQ below (va_Qi (fun (r : Int32) (_u : Unit) => (r = 1 ∧ a.toInt ≤ v.toInt ∧ v.toInt ≤ b.toInt) ∨ (r = 0 ∧ ¬ (a.toInt ≤ v.toInt ∧ v.toInt ≤ b.toInt))) (fun u t => wb D A ((fun _ => []) u) t) A) ([.long v, .long a, .long b] : List Value).toArray s 0 0 A) (F0 m 0 ls [])
  refine lv_lload_n hx hb dX8_in_0 rfl (lv_at hl 0 rfl) ?_
  refine lv_lload_n hx hb dX8_in_1 rfl (lv_at hl 1 rfl) ?_
  refine W.lcmp hx hb dX8_in_2 ?_
  refine lv_topi (fun x_1 ex_1 => ?_)
  rcases zc_cases v a with ⟨h1, f_1⟩ | ⟨h1, f_1⟩ | ⟨h1, f_1⟩
  · obtain rfl : x_1 = 1 := ex_1.trans h1
    have f_1 : a.toInt < v.toInt := f_1
    refine lv_if_lt (tgt := 17) hx hb dX8_in_3 (by decide) (fun c9 => absurd c9 (by decide)) (fun _ => ?_)
    refine lv_lload_n hx hb dX8_in_6 rfl (lv_at hl 0 rfl) ?_
    refine lv_lload hx hb dX8_in_7 (lv_at hl 2 rfl) ?_
    refine W.lcmp hx hb dX8_in_9 ?_
    refine lv_topi (fun x_2 ex_2 => ?_)
    rcases zc_cases v b with ⟨h1, f_2⟩ | ⟨h1, f_2⟩ | ⟨h1, f_2⟩
    · obtain rfl : x_2 = 1 := ex_2.trans h1
      have f_2 : b.toInt < v.toInt := f_2
      refine lv_if_gt (tgt := 17) hx hb dX8_in_10 (by decide) (fun _ => ?_) (fun c9 => absurd (by decide) c9)
      refine lv_iconst (v := 0) hx hb dX8_in_17 (by decide) ?_
      exact wr_z (v := 0) hx hb hr hlocks hS () (by first | exact Or.inl ⟨rfl, by omega⟩ | exact Or.inr ⟨rfl, by omega⟩) (hP.sub [] rfl) (hD.sub [] (by decide) rfl) dX8_in_18 rfl
    · obtain rfl : x_2 = 0 := ex_2.trans h1
      have f_2 : v.toInt = b.toInt := f_2
      refine lv_if_gt (tgt := 17) hx hb dX8_in_10 (by decide) (fun c9 => absurd c9 (by decide)) (fun _ => ?_)
      refine lv_iconst (v := 1) hx hb dX8_in_13 (by decide) ?_
      refine lv_goto (tgt := 18) hx hb dX8_in_14 (by decide) ?_
      exact wr_z (v := 1) hx hb hr hlocks hS () (by first | exact Or.inl ⟨rfl, by omega⟩ | exact Or.inr ⟨rfl, by omega⟩) (hP.sub [] rfl) (hD.sub [] (by decide) rfl) dX8_in_18 rfl
    · obtain rfl : x_2 = (-1) := ex_2.trans h1
      have f_2 : v.toInt < b.toInt := f_2
      refine lv_if_gt (tgt := 17) hx hb dX8_in_10 (by decide) (fun c9 => absurd c9 (by decide)) (fun _ => ?_)
      refine lv_iconst (v := 1) hx hb dX8_in_13 (by decide) ?_
      refine lv_goto (tgt := 18) hx hb dX8_in_14 (by decide) ?_
      exact wr_z (v := 1) hx hb hr hlocks hS () (by first | exact Or.inl ⟨rfl, by omega⟩ | exact Or.inr ⟨rfl, by omega⟩) (hP.sub [] rfl) (hD.sub [] (by decide) rfl) dX8_in_18 rfl
  · obtain rfl : x_1 = 0 := ex_1.trans h1
    have f_1 : v.toInt = a.toInt := f_1
    refine lv_if_lt (tgt := 17) hx hb dX8_in_3 (by decide) (fun c9 => absurd c9 (by decide)) (fun _ => ?_)
    refine lv_lload_n hx hb dX8_in_6 rfl (lv_at hl 0 rfl) ?_
    refine lv_lload hx hb dX8_in_7 (lv_at hl 2 rfl) ?_
    refine W.lcmp hx hb dX8_in_9 ?_
    refine lv_topi (fun x_3 ex_3 => ?_)
    rcases zc_cases v b with ⟨h1, f_3⟩ | ⟨h1, f_3⟩ | ⟨h1, f_3⟩
    · obtain rfl : x_3 = 1 := ex_3.trans h1
      have f_3 : b.toInt < v.toInt := f_3
      refine lv_if_gt (tgt := 17) hx hb dX8_in_10 (by decide) (fun _ => ?_) (fun c9 => absurd (by decide) c9)
      refine lv_iconst (v := 0) hx hb dX8_in_17 (by decide) ?_
      exact wr_z (v := 0) hx hb hr hlocks hS () (by first | exact Or.inl ⟨rfl, by omega⟩ | exact Or.inr ⟨rfl, by omega⟩) (hP.sub [] rfl) (hD.sub [] (by decide) rfl) dX8_in_18 rfl
    · obtain rfl : x_3 = 0 := ex_3.trans h1
      have f_3 : v.toInt = b.toInt := f_3
      refine lv_if_gt (tgt := 17) hx hb dX8_in_10 (by decide) (fun c9 => absurd c9 (by decide)) (fun _ => ?_)
      refine lv_iconst (v := 1) hx hb dX8_in_13 (by decide) ?_
      refine lv_goto (tgt := 18) hx hb dX8_in_14 (by decide) ?_
      exact wr_z (v := 1) hx hb hr hlocks hS () (by first | exact Or.inl ⟨rfl, by omega⟩ | exact Or.inr ⟨rfl, by omega⟩) (hP.sub [] rfl) (hD.sub [] (by decide) rfl) dX8_in_18 rfl
    · obtain rfl : x_3 = (-1) := ex_3.trans h1
      have f_3 : v.toInt < b.toInt := f_3
      refine lv_if_gt (tgt := 17) hx hb dX8_in_10 (by decide) (fun c9 => absurd c9 (by decide)) (fun _ => ?_)
      refine lv_iconst (v := 1) hx hb dX8_in_13 (by decide) ?_
      refine lv_goto (tgt := 18) hx hb dX8_in_14 (by decide) ?_
      exact wr_z (v := 1) hx hb hr hlocks hS () (by first | exact Or.inl ⟨rfl, by omega⟩ | exact Or.inr ⟨rfl, by omega⟩) (hP.sub [] rfl) (hD.sub [] (by decide) rfl) dX8_in_18 rfl
  · obtain rfl : x_1 = (-1) := ex_1.trans h1
    have f_1 : v.toInt < a.toInt := f_1
    refine lv_if_lt (tgt := 17) hx hb dX8_in_3 (by decide) (fun _ => ?_) (fun c9 => absurd (by decide) c9)
    refine lv_iconst (v := 0) hx hb dX8_in_17 (by decide) ?_
    exact wr_z (v := 0) hx hb hr hlocks hS () (by first | exact Or.inl ⟨rfl, by omega⟩ | exact Or.inr ⟨rfl, by omega⟩) (hP.sub [] rfl) (hD.sub [] (by decide) rfl) dX8_in_18 rfl
set_option maxHeartbeats 4000000 in
set_option maxRecDepth 100000 in
theorem k_isRow (l : Launch) (D : va_G) (cI cB cQ : ClassId) (sz : Nat) (v : Int32) : mi l yX5_isRow wsX5_isRow ({ frames := 1, cells := 0, slots := 0, locals := 22 }) D cI cB cQ [.int v] sz [] (fun (r : Int32) (_u : Unit) => (r = 1 ∧ 0 ≤ v.toInt ∧ v.toInt ≤ 7) ∨ (r = 0 ∧ ¬ (0 ≤ v.toInt ∧ v.toInt ≤ 7))) (fun _ => []) 0 0 := by
  refine wm_i (cc := cX5_isRow) (maxL := 1) (ret := (some .boolean)) (by decide) rfl (Nat.le_of_ble_eq_true rfl) ?_
  intro p e s m below meth c A ls hx hb hr hml hown hts hlocks hin hP hK hD hN hA hl hS
  have hown : s.vm.findClass RX5 = some m.cls := hown
  have hl : lv_has ls 1 [(0, .int v)] := hl
  change W p l e ({ frames := 1, cells := 0, slots := 0, locals := 22 }) s m ([.int v] : List Value).toArray below meth c s.heap [] 0 0 (MQ below (va_Qi (fun (r : Int32) (_u : Unit) => (r = 1 ∧ 0 ≤ v.toInt ∧ v.toInt ≤ 7) ∨ (r = 0 ∧ ¬ (0 ≤ v.toInt ∧ v.toInt ≤ 7))) (fun u t => wb D A ((fun _ => []) u) t) A) ([.int v] : List Value).toArray s 0 0 A) (F0 m 0 ls [])
  refine lv_iconst (v := 0) hx hb dX5_isRow_0 (by decide) ?_
  refine lv_iload_n hx hb dX5_isRow_1 rfl (lv_at hl 0 rfl) ?_
  refine lv_bipush (v := 7) hx hb dX5_isRow_2 (by decide) ?_
  have k_1 := (k_isFrom l D cI cB cQ s.heap.size 0 v 7)
  refine wc_i (WC := []) (WR := []) (va_runSN (As := [.int 0, .int v, .int 7]) (rest := []) ⟨hx, hb, hml, hown, hts⟩ k_1 (⟨va_cnB 3 hts gX5_isRow_X7_isFrom_n27 rfl rfl rfl hN.2.2.2.2.2.1 (hts (.initialized RX7) (List.mem_of_getElem? (i := 2) rfl)) (by decide +kernel) ⟨Nat.le_of_ble_eq_true rfl, Nat.le_of_ble_eq_true rfl⟩, (hts (.static yX7_isFrom) (List.mem_of_getElem? (i := 1) rfl)), trivial⟩) (wp_S hP hK hD hN [] (by decide) rfl) rfl rfl hl.1 rfl (lv_room (Nat.le_of_ble_eq_true rfl)) dX5_isRow_4 ⟨Nat.le_of_ble_eq_true rfl, Nat.le_of_ble_eq_true rfl⟩) hP hD hS hA [] [] rfl rfl (by decide) (by decide) (fun r_1 u_1 H locs hw_1 hP hD hS => ?_)
  have hP : va_P D kl [] H := hP
  have hD : va_D A [] := hD
  rcases hw_1 with ⟨e_1, f_1⟩ | ⟨e_1, f_1⟩
  · subst e_1
    have f_1 : 0 ≤ v.toInt ∧ v.toInt ≤ 7 := f_1
    exact wr_z (v := 1) hx hb hr hlocks hS () (by first | exact Or.inl ⟨rfl, by omega⟩ | exact Or.inr ⟨rfl, by omega⟩) (hP.sub [] rfl) (hD.sub [] (by decide) rfl) dX5_isRow_7 rfl
  · subst e_1
    have f_1 : ¬ (0 ≤ v.toInt ∧ v.toInt ≤ 7) := f_1
    exact wr_z (v := 0) hx hb hr hlocks hS () (by first | exact Or.inl ⟨rfl, by omega⟩ | exact Or.inr ⟨rfl, by omega⟩) (hP.sub [] rfl) (hD.sub [] (by decide) rfl) dX5_isRow_7 rfl
set_option maxHeartbeats 4000000 in
set_option maxRecDepth 100000 in
theorem k_isLane (l : Launch) (D : va_G) (cI cB cQ : ClassId) (sz : Nat) (v : Int32) : mi l yX5_isLane wsX5_isLane ({ frames := 1, cells := 0, slots := 0, locals := 22 }) D cI cB cQ [.int v] sz [] (fun (r : Int32) (_u : Unit) => (r = 1 ∧ 0 ≤ v.toInt ∧ v.toInt ≤ 2) ∨ (r = 0 ∧ ¬ (0 ≤ v.toInt ∧ v.toInt ≤ 2))) (fun _ => []) 0 0 := by
  refine wm_i (cc := cX5_isLane) (maxL := 1) (ret := (some .boolean)) (by decide) rfl (Nat.le_of_ble_eq_true rfl) ?_
  intro p e s m below meth c A ls hx hb hr hml hown hts hlocks hin hP hK hD hN hA hl hS
  have hown : s.vm.findClass RX5 = some m.cls := hown
  have hl : lv_has ls 1 [(0, .int v)] := hl
  change W p l e ({ frames := 1, cells := 0, slots := 0, locals := 22 }) s m ([.int v] : List Value).toArray below meth c s.heap [] 0 0 (MQ below (va_Qi (fun (r : Int32) (_u : Unit) => (r = 1 ∧ 0 ≤ v.toInt ∧ v.toInt ≤ 2) ∨ (r = 0 ∧ ¬ (0 ≤ v.toInt ∧ v.toInt ≤ 2))) (fun u t => wb D A ((fun _ => []) u) t) A) ([.int v] : List Value).toArray s 0 0 A) (F0 m 0 ls [])
  refine lv_iconst (v := 0) hx hb dX5_isLane_0 (by decide) ?_
  refine lv_iload_n hx hb dX5_isLane_1 rfl (lv_at hl 0 rfl) ?_
  refine lv_iconst (v := 2) hx hb dX5_isLane_2 (by decide) ?_
  have k_1 := (k_isFrom l D cI cB cQ s.heap.size 0 v 2)
  refine wc_i (WC := []) (WR := []) (va_runSN (As := [.int 0, .int v, .int 2]) (rest := []) ⟨hx, hb, hml, hown, hts⟩ k_1 (⟨va_cnB 3 hts gX5_isLane_X7_isFrom_n27 rfl rfl rfl hN.2.2.2.2.2.1 (hts (.initialized RX7) (List.mem_of_getElem? (i := 2) rfl)) (by decide +kernel) ⟨Nat.le_of_ble_eq_true rfl, Nat.le_of_ble_eq_true rfl⟩, (hts (.static yX7_isFrom) (List.mem_of_getElem? (i := 1) rfl)), trivial⟩) (wp_S hP hK hD hN [] (by decide) rfl) rfl rfl hl.1 rfl (lv_room (Nat.le_of_ble_eq_true rfl)) dX5_isLane_3 ⟨Nat.le_of_ble_eq_true rfl, Nat.le_of_ble_eq_true rfl⟩) hP hD hS hA [] [] rfl rfl (by decide) (by decide) (fun r_1 u_1 H locs hw_1 hP hD hS => ?_)
  have hP : va_P D kl [] H := hP
  have hD : va_D A [] := hD
  rcases hw_1 with ⟨e_1, f_1⟩ | ⟨e_1, f_1⟩
  · subst e_1
    have f_1 : 0 ≤ v.toInt ∧ v.toInt ≤ 2 := f_1
    exact wr_z (v := 1) hx hb hr hlocks hS () (by first | exact Or.inl ⟨rfl, by omega⟩ | exact Or.inr ⟨rfl, by omega⟩) (hP.sub [] rfl) (hD.sub [] (by decide) rfl) dX5_isLane_6 rfl
  · subst e_1
    have f_1 : ¬ (0 ≤ v.toInt ∧ v.toInt ≤ 2) := f_1
    exact wr_z (v := 0) hx hb hr hlocks hS () (by first | exact Or.inl ⟨rfl, by omega⟩ | exact Or.inr ⟨rfl, by omega⟩) (hP.sub [] rfl) (hD.sub [] (by decide) rfl) dX5_isLane_6 rfl
set_option maxHeartbeats 4000000 in
set_option maxRecDepth 100000 in
theorem k_fill (l : Launch) (D : va_G) (cI cB cQ : ClassId) (sz : Nat) (a : Nat) (f : Nat → Int32) (v : Int32) : mv l yJ7_fill_53178 wsJ7_fill_53178 ({ frames := 0, cells := 0, slots := 0, locals := 0 }) D cI cB cQ [.ref a, .int v] sz [(a, .inl (cI, 8, .inl f))] (fun (_u : Unit) => True) (fun _ => [(a, .inl (cI, 8, .inl (fun _ => v)))]) 0 0 := by
  refine wm_v (cc := cJ7_fill_53178) (maxL := 4) (ret := none) (by decide) rfl (Nat.le_of_ble_eq_true rfl) ?_
  intro p e s m below meth c A ls hx hb hr hml hown hts hlocks hin hP hK hD hN hA hl hS
  have hown : s.vm.findClass RJ7 = some m.cls := hown
  have hl : lv_has ls 4 [(0, .ref a), (1, .int v)] := hl
  change W p l e ({ frames := 0, cells := 0, slots := 0, locals := 0 }) s m ([.ref a, .int v] : List Value).toArray below meth c s.heap [] 0 0 (MQ below (va_Qv (fun (_u : Unit) => True) (fun u t => wb D A ((fun _ => [(a, .inl (cI, 8, .inl (fun _ => v)))]) u) t) A) ([.ref a, .int v] : List Value).toArray s 0 0 A) (F0 m 0 ls [])
  refine lv_iconst (v := 0) hx hb dJ7_fill_53178_0 (by decide) ?_
  refine lv_istore_n (lv' := [(2, .int 0), (0, .ref a), (1, .int v)]) hx hb dJ7_fill_53178_1 rfl hl (by decide) rfl (fun ls hl => ?_)
  refine lv_aload_n hx hb dJ7_fill_53178_2 rfl (lv_at hl 1 rfl) ?_
  refine va_alen hx hb hK hP 0 0 rfl rfl (v := 8) rfl dJ7_fill_53178_3 ?_
  refine lv_istore_n (lv' := [(3, .int 8), (2, .int 0), (0, .ref a), (1, .int v)]) hx hb dJ7_fill_53178_4 rfl hl (by decide) rfl (fun ls hl => ?_)
  have hloop : ∀ (n i : Nat) (H : Heap) (locs : List Loc) (ls : Array Slot), i ≤ 8 → 8 + 1 ≤ i + n → va_P D kl [(a, .inl (cI, 8, .inl (fun j => if j < i then v else f j)))] H → va_D A [(a, .inl (cI, 8, .inl (fun j => if j < i then v else f j)))] → va_S A s.heap H locs → lv_has ls 4 [(3, .int 8), (2, .int (nI i)), (0, .ref a), (1, .int v)] → W p l e ({ frames := 0, cells := 0, slots := 0, locals := 0 }) s m ([.ref a, .int v] : List Value).toArray below meth c H locs 0 0 (MQ below (va_Qv (fun (_u : Unit) => True) (fun u t => wb D A ((fun _ => [(a, .inl (cI, 8, .inl (fun _ => v)))]) u) t) A) ([.ref a, .int v] : List Value).toArray s 0 0 A) (F0 m 5 ls []) := by
    intro n
    induction n with
    | zero =>
      intro i H locs ls hi0 hn0
      exact absurd hn0 (by omega)
    | succ n ih =>
      intro i H locs ls hi0 hn0 hP hD hS hl
      refine lv_iload_n hx hb dJ7_fill_53178_5 rfl (lv_at hl 1 rfl) ?_
      refine lv_iload_n hx hb dJ7_fill_53178_6 rfl (lv_at hl 0 rfl) ?_
      refine lv_icmp_ge (tgt := 20) hx hb dJ7_fill_53178_7 (by decide) (fun c_1 => ?_) (fun c_1 => ?_)
      · have f_1 : 8 ≤ ((i : Nat) : Int) := by
          have h8 := zi_le c_1
          try rw [nI_toInt (n := i) (by omega)] at h8
          exact h8
        have hP := wx_P (k := 0) (f := (fun j => if j < i then v else f j)) (g := (fun _ => v)) hP hD rfl (by intro j hj; simp; intro h7; exact absurd hj (by omega))
        have hD := wx_D (k := 0) (f := (fun j => if j < i then v else f j)) (g := (fun _ => v)) hD rfl
        have hP : va_P D kl [(a, .inl (cI, 8, .inl (fun _ => v)))] H := hP
        have hD : va_D A [(a, .inl (cI, 8, .inl (fun _ => v)))] := hD
        exact wr_v hx hb hr hlocks hS () (by trivial) (hP.sub [0] rfl) (hD.sub [0] (by decide) rfl) dJ7_fill_53178_20
      · have f_1 : ¬ 8 ≤ ((i : Nat) : Int) := by
          have h8 := zi_nle c_1
          try rw [nI_toInt (n := i) (by omega)] at h8
          exact h8
        refine lv_aload_n hx hb dJ7_fill_53178_10 rfl (lv_at hl 2 rfl) ?_
        refine lv_iload_n hx hb dJ7_fill_53178_11 rfl (lv_at hl 1 rfl) ?_
        refine lv_iload_n hx hb dJ7_fill_53178_12 rfl (lv_at hl 3 rfl) ?_
        refine va_iast hx hb hK hP hD hS 0 0 rfl rfl (vp_in_nI (by omega) (by decide)) dJ7_fill_53178_13 (fun H locs hP hD hS => ?_)
        have hP : va_P D kl [(a, .inl (cI, 8, .inl (upd (fun j => if j < i then v else f j) ((nI i) : Int32).toNatClampNeg v)))] H := hP
        have hD : va_D A [(a, .inl (cI, 8, .inl (upd (fun j => if j < i then v else f j) ((nI i) : Int32).toNatClampNeg v)))] := hD
        refine lv_iinc (v := (nI (i + 1))) (lv' := [(2, .int (nI (i + 1))), (3, .int 8), (0, .ref a), (1, .int v)]) hx hb dJ7_fill_53178_14 hl (k := 1) rfl (nI_1 _) (by decide) rfl (fun ls hl => ?_)
        refine lv_goto (tgt := 5) hx hb dJ7_fill_53178_17 (by decide) ?_
        have hP := wx_P (k := 0) (f := (upd (fun j => if j < i then v else f j) ((nI i) : Int32).toNatClampNeg v)) (g := (fun j => if j < (i + 1) then v else f j)) hP hD rfl (by intro j _; rw [nI_clamp (by omega)]; show upd _ i _ j = _; by_cases h7 : j = i <;> by_cases h6 : j < i <;> simp [upd, h7, h6] <;> omega)
        have hD := wx_D (k := 0) (f := (upd (fun j => if j < i then v else f j) ((nI i) : Int32).toNatClampNeg v)) (g := (fun j => if j < (i + 1) then v else f j)) hD rfl
        have hP : va_P D kl [(a, .inl (cI, 8, .inl (fun j => if j < (i + 1) then v else f j)))] H := hP
        have hD : va_D A [(a, .inl (cI, 8, .inl (fun j => if j < (i + 1) then v else f j)))] := hD
        exact ih (i + 1) _ _ _ (by omega) (by omega) (hP.sub [0] rfl) (hD.sub [0] (by decide) rfl) hS (lv_sub hl [1, 0, 2, 3] rfl)
  have hP := wx_P (k := 0) (f := f) (g := (fun j => if j < 0 then v else f j)) hP hD rfl (by intro j _; simp)
  have hD := wx_D (k := 0) (f := f) (g := (fun j => if j < 0 then v else f j)) hD rfl
  have hP : va_P D kl [(a, .inl (cI, 8, .inl (fun j => if j < 0 then v else f j)))] s.heap := hP
  have hD : va_D A [(a, .inl (cI, 8, .inl (fun j => if j < 0 then v else f j)))] := hD
  have hl : lv_has ls 4 [(3, .int 8), (2, .int (nI 0)), (0, .ref a), (1, .int v)] := by have h9 : (nI 0) = 0 := rfl; rw [h9]; exact hl
  exact hloop (8 + 1) 0 _ _ _ (by omega) (by omega) (hP.sub [0] rfl) (hD.sub [0] (by decide) rfl) hS (lv_sub hl [0, 1, 2, 3] rfl)
set_option maxHeartbeats 4000000 in
set_option maxRecDepth 100000 in
theorem k_rangeCheck (l : Launch) (D : va_G) (cI cB cQ : ClassId) (sz : Nat) (ka : Nat) (kb : Nat) (h1 : ka ≤ kb) (h2 : kb ≤ 320) : mv l yJ7_rangeCheck_23922 wsJ7_rangeCheck_23922 ({ frames := 0, cells := 0, slots := 0, locals := 0 }) D cI cB cQ [.int 320, .int (nI ka), .int (nI kb)] sz [] (fun (_u : Unit) => True) (fun _ => []) 0 0 := by
  refine wm_v (cc := cJ7_rangeCheck_23922) (maxL := 3) (ret := none) (by decide) rfl (Nat.le_of_ble_eq_true rfl) ?_
  intro p e s m below meth c A ls hx hb hr hml hown hts hlocks hin hP hK hD hN hA hl hS
  have hown : s.vm.findClass RJ7 = some m.cls := hown
  have hl : lv_has ls 3 [(0, .int 320), (1, .int (nI ka)), (2, .int (nI kb))] := hl
  change W p l e ({ frames := 0, cells := 0, slots := 0, locals := 0 }) s m ([.int 320, .int (nI ka), .int (nI kb)] : List Value).toArray below meth c s.heap [] 0 0 (MQ below (va_Qv (fun (_u : Unit) => True) (fun u t => wb D A ((fun _ => []) u) t) A) ([.int 320, .int (nI ka), .int (nI kb)] : List Value).toArray s 0 0 A) (F0 m 0 ls [])
  refine lv_iload_n hx hb dJ7_rangeCheck_23922_0 rfl (lv_at hl 1 rfl) ?_
  refine lv_iload_n hx hb dJ7_rangeCheck_23922_1 rfl (lv_at hl 2 rfl) ?_
  refine lv_icmp_le (tgt := 46) hx hb dJ7_rangeCheck_23922_2 (by decide) (fun c_1 => ?_) (fun c_1 => ?_)
  · have f_1 : ((ka : Nat) : Int) ≤ ((kb : Nat) : Int) := by
      have h8 := zi_le c_1
      try rw [nI_toInt (n := ka) (by omega)] at h8
      try rw [nI_toInt (n := kb) (by omega)] at h8
      exact h8
    refine lv_iload_n hx hb dJ7_rangeCheck_23922_46 rfl (lv_at hl 1 rfl) ?_
    refine lv_if_ge (tgt := 59) hx hb dJ7_rangeCheck_23922_47 (by decide) (fun c_2 => ?_) (fun c_2 => ?_)
    · have f_2 : 0 ≤ ((ka : Nat) : Int) := by
        have h8 := zi_le c_2
        try rw [nI_toInt (n := ka) (by omega)] at h8
        exact h8
      refine lv_iload_n hx hb dJ7_rangeCheck_23922_59 rfl (lv_at hl 2 rfl) ?_
      refine lv_iload_n hx hb dJ7_rangeCheck_23922_60 rfl (lv_at hl 0 rfl) ?_
      refine lv_icmp_le (tgt := 73) hx hb dJ7_rangeCheck_23922_61 (by decide) (fun c_3 => ?_) (fun c_3 => ?_)
      · have f_3 : ((kb : Nat) : Int) ≤ 320 := by
          have h8 := zi_le c_3
          try rw [nI_toInt (n := kb) (by omega)] at h8
          exact h8
        exact wr_v hx hb hr hlocks hS () (by trivial) (hP.sub [] rfl) (hD.sub [] (by decide) rfl) dJ7_rangeCheck_23922_73
      · have f_3 : ¬ ((kb : Nat) : Int) ≤ 320 := by
          have h8 := zi_nle c_3
          try rw [nI_toInt (n := kb) (by omega)] at h8
          exact h8
        exfalso; omega
    · have f_2 : ¬ 0 ≤ ((ka : Nat) : Int) := by
        have h8 := zi_nle c_2
        try rw [nI_toInt (n := ka) (by omega)] at h8
        exact h8
      exfalso; omega
  · have f_1 : ¬ ((ka : Nat) : Int) ≤ ((kb : Nat) : Int) := by
      have h8 := zi_nle c_1
      try rw [nI_toInt (n := ka) (by omega)] at h8
      try rw [nI_toInt (n := kb) (by omega)] at h8
      exact h8
    exfalso; omega
set_option maxHeartbeats 4000000 in
set_option maxRecDepth 100000 in
theorem k_fill4 (l : Launch) (D : va_G) (cI cB cQ : ClassId) (sz : Nat) (a : Nat) (f : Nat → Int32) (x : Int32) (y : Int32) (v : Int32) (h0 : 0 ≤ x.toInt) (h1 : x.toInt ≤ y.toInt) (h2 : y.toInt ≤ 320) : mv l yJ7_fill_fda19 wsJ7_fill_fda19 ({ frames := 1, cells := 0, slots := 0, locals := 22 }) D cI cB cQ [.ref a, .int x, .int y, .int v] sz [(a, .inl (cI, 320, .inl f))] (fun (_u : Unit) => True) (fun _ => []) 0 0 := by
  obtain ⟨ka, hka, rfl⟩ : ∃ k : Nat, k ≤ 320 ∧ x = nI k := zi_nat h0 (by omega)
  obtain ⟨kb, hkb, rfl⟩ : ∃ k : Nat, k ≤ 320 ∧ y = nI k := zi_nat (by omega) h2
  rw [nI_toInt (by omega), nI_toInt (by omega)] at h1
  have h1 : ka ≤ kb := by omega
  have h2 : kb ≤ 320 := hkb
  refine wm_v (cc := cJ7_fill_fda19) (maxL := 5) (ret := none) (by decide) rfl (Nat.le_of_ble_eq_true rfl) ?_
  intro p e s m below meth c A ls hx hb hr hml hown hts hlocks hin hP hK hD hN hA hl hS
  have hown : s.vm.findClass RJ7 = some m.cls := hown
  have hl : lv_has ls 5 [(0, .ref a), (1, .int (nI ka)), (2, .int (nI kb)), (3, .int v)] := hl
  change W p l e ({ frames := 1, cells := 0, slots := 0, locals := 22 }) s m ([.ref a, .int (nI ka), .int (nI kb), .int v] : List Value).toArray below meth c s.heap [] 0 0 (MQ below (va_Qv (fun (_u : Unit) => True) (fun u t => wb D A ((fun _ => []) u) t) A) ([.ref a, .int (nI ka), .int (nI kb), .int v] : List Value).toArray s 0 0 A) (F0 m 0 ls [])
  refine lv_aload_n hx hb dJ7_fill_fda19_0 rfl (lv_at hl 0 rfl) ?_
  refine va_alen hx hb hK hP 0 0 rfl rfl (v := 320) rfl dJ7_fill_fda19_1 ?_
  refine lv_iload_n hx hb dJ7_fill_fda19_2 rfl (lv_at hl 1 rfl) ?_
  refine lv_iload_n hx hb dJ7_fill_fda19_3 rfl (lv_at hl 2 rfl) ?_
  have k_1 := (k_rangeCheck l D cI cB cQ s.heap.size ka kb h1 h2)
  refine wc_v (WC := []) (WR := [(a, .inl (cI, 320, .inl f))]) (va_runS (As := [.int 320, .int (nI ka), .int (nI kb)]) (rest := []) ⟨hx, hb, hml, hown, hts⟩ k_1 (va_cwS 3 hts gJ7_fill_fda19_J7_rangeCheck_23922 rfl rfl rfl (by decide +kernel) ⟨Nat.le_of_ble_eq_true rfl, Nat.le_of_ble_eq_true rfl⟩) (wp_S hP hK hD hN [] (by decide) rfl) rfl rfl hl.1 rfl (lv_room (Nat.le_of_ble_eq_true rfl)) dJ7_fill_fda19_4 ⟨Nat.le_of_ble_eq_true rfl, Nat.le_of_ble_eq_true rfl⟩) hP hD hS hA [] [0] rfl rfl (by decide) (by decide) (fun u_1 H locs hw_1 hP hD hS => ?_)
  have hP : va_P D kl [(a, .inl (cI, 320, .inl f))] H := hP
  have hD : va_D A [(a, .inl (cI, 320, .inl f))] := hD
  refine lv_iload_n hx hb dJ7_fill_fda19_7 rfl (lv_at hl 1 rfl) ?_
  refine lv_istore (lv' := [(4, .int (nI ka)), (0, .ref a), (1, .int (nI ka)), (2, .int (nI kb)), (3, .int v)]) hx hb dJ7_fill_fda19_8 hl (by decide) rfl (fun ls hl => ?_)
  have hloop : ∀ (n i : Nat) (g : Nat → Int32) (H : Heap) (locs : List Loc) (ls : Array Slot), i ≤ kb → kb + 1 ≤ i + n → ka ≤ i → va_P D kl [(a, .inl (cI, 320, .inl g))] H → va_D A [(a, .inl (cI, 320, .inl g))] → va_S A s.heap H locs → lv_has ls 5 [(4, .int (nI i)), (0, .ref a), (1, .int (nI ka)), (2, .int (nI kb)), (3, .int v)] → W p l e ({ frames := 1, cells := 0, slots := 0, locals := 22 }) s m ([.ref a, .int (nI ka), .int (nI kb), .int v] : List Value).toArray below meth c H locs 0 0 (MQ below (va_Qv (fun (_u : Unit) => True) (fun u t => wb D A ((fun _ => []) u) t) A) ([.ref a, .int (nI ka), .int (nI kb), .int v] : List Value).toArray s 0 0 A) (F0 m 10 ls []) := by
    intro n
    induction n with
    | zero =>
      intro i g H locs ls hi0 hn0
      exact absurd hn0 (by omega)
    | succ n ih =>
      intro i g H locs ls hi0 hn0 hik hP hD hS hl
      refine lv_iload hx hb dJ7_fill_fda19_10 (lv_at hl 0 rfl) ?_
      refine lv_iload_n hx hb dJ7_fill_fda19_12 rfl (lv_at hl 3 rfl) ?_
      refine lv_icmp_ge (tgt := 27) hx hb dJ7_fill_fda19_13 (by decide) (fun c_2 => ?_) (fun c_2 => ?_)
      · have f_2 : ((kb : Nat) : Int) ≤ ((i : Nat) : Int) := by
          have h8 := zi_le c_2
          try rw [nI_toInt (n := i) (by omega)] at h8
          try rw [nI_toInt (n := kb) (by omega)] at h8
          exact h8
        exact wr_v hx hb hr hlocks hS () (by trivial) (hP.sub [] rfl) (hD.sub [] (by decide) rfl) dJ7_fill_fda19_27
      · have f_2 : ¬ ((kb : Nat) : Int) ≤ ((i : Nat) : Int) := by
          have h8 := zi_nle c_2
          try rw [nI_toInt (n := i) (by omega)] at h8
          try rw [nI_toInt (n := kb) (by omega)] at h8
          exact h8
        refine lv_aload_n hx hb dJ7_fill_fda19_16 rfl (lv_at hl 1 rfl) ?_
        refine lv_iload hx hb dJ7_fill_fda19_17 (lv_at hl 0 rfl) ?_
        refine lv_iload_n hx hb dJ7_fill_fda19_19 rfl (lv_at hl 4 rfl) ?_
        refine va_iast hx hb hK hP hD hS 0 0 rfl rfl (vp_in_nI (by omega) (by decide)) dJ7_fill_fda19_20 (fun H locs hP hD hS => ?_)
        have hP : va_P D kl [(a, .inl (cI, 320, .inl (upd g ((nI i) : Int32).toNatClampNeg v)))] H := hP
        have hD : va_D A [(a, .inl (cI, 320, .inl (upd g ((nI i) : Int32).toNatClampNeg v)))] := hD
        refine lv_iinc (v := (nI (i + 1))) (lv' := [(4, .int (nI (i + 1))), (0, .ref a), (1, .int (nI ka)), (2, .int (nI kb)), (3, .int v)]) hx hb dJ7_fill_fda19_21 hl (k := 0) rfl (nI_1 _) (by decide) rfl (fun ls hl => ?_)
        refine lv_goto (tgt := 10) hx hb dJ7_fill_fda19_24 (by decide) ?_
        exact ih (i + 1) (upd g ((nI i) : Int32).toNatClampNeg v) _ _ _ (by omega) (by omega) (by omega) (hP.sub [0] rfl) (hD.sub [0] (by decide) rfl) hS (lv_sub hl [0, 1, 2, 3, 4] rfl)
  have hl : lv_has ls 5 [(4, .int (nI ka)), (0, .ref a), (1, .int (nI ka)), (2, .int (nI kb)), (3, .int v)] := by have h9 : (nI ka) = (nI ka) := rfl; rw [h9]; exact hl
  exact hloop (kb + 1) ka f _ _ _ (by omega) (by omega) (by omega) (hP.sub [0] rfl) (hD.sub [0] (by decide) rfl) hS (lv_sub hl [0, 1, 2, 3, 4] rfl)
set_option maxHeartbeats 4000000 in
set_option maxRecDepth 100000 in
theorem k_land_init (l : Launch) (D : va_G) (cI cB cQ : ClassId) (sz : Nat) (h : Nat) : mv l yX4_init wsX4_init ({ frames := 1, cells := 8, slots := 49, locals := 20 }) D cI cB cQ [.ref h] sz [(h, .inr (3, [.int 0, .int 0, .int 0, .int 0, .int 0, .int 0, .int 0, .int 0, .null, .null, .null, .null, .null, .null, .null, .null]))] (fun (u : Nat × Nat × Nat × Nat × Nat × Nat × Nat × Nat) => True) (fun u => [(h, .inr (3, [.int 0, .int 0, .int 0, .int 0, .int 0, .int 0, .int 0, .int 0, .ref u.1, .ref u.2.1, .ref u.2.2.1, .ref u.2.2.2.1, .ref u.2.2.2.2.1, .ref u.2.2.2.2.2.1, .ref u.2.2.2.2.2.2.1, .ref u.2.2.2.2.2.2.2])), (u.1, .inl (cI, 8, .inl (fun _ => 0))), (u.2.1, .inl (cI, 8, .inl (fun _ => 0))), (u.2.2.1, .inl (cI, 8, .inl (fun _ => 0))), (u.2.2.2.1, .inl (cI, 8, .inl (fun _ => 0))), (u.2.2.2.2.1, .inl (cI, 8, .inl (fun _ => 0))), (u.2.2.2.2.2.1, .inl (cI, 3, .inl (fun _ => 0))), (u.2.2.2.2.2.2.1, .inl (cI, 3, .inl (fun _ => 0))), (u.2.2.2.2.2.2.2, .inl (cI, 3, .inl (fun _ => 0)))]) 8 49 := by
  refine wm_v (cc := cX4_init) (maxL := 1) (ret := none) (by decide) rfl (Nat.le_of_ble_eq_true rfl) ?_
  intro p e s m below meth c A ls hx hb hr hml hown hts hlocks hin hP hK hD hN hA hl hS
  have hown : s.vm.findClass RX4 = some m.cls := hown
  have hl : lv_has ls 1 [(0, .ref h)] := hl
  change W p l e ({ frames := 1, cells := 8, slots := 49, locals := 20 }) s m ([.ref h] : List Value).toArray below meth c s.heap [] 0 0 (MQ below (va_Qv (fun (u : Nat × Nat × Nat × Nat × Nat × Nat × Nat × Nat) => True) (fun u t => wb D A ((fun u => [(h, .inr (3, [.int 0, .int 0, .int 0, .int 0, .int 0, .int 0, .int 0, .int 0, .ref u.1, .ref u.2.1, .ref u.2.2.1, .ref u.2.2.2.1, .ref u.2.2.2.2.1, .ref u.2.2.2.2.2.1, .ref u.2.2.2.2.2.2.1, .ref u.2.2.2.2.2.2.2])), (u.1, .inl (cI, 8, .inl (fun _ => 0))), (u.2.1, .inl (cI, 8, .inl (fun _ => 0))), (u.2.2.1, .inl (cI, 8, .inl (fun _ => 0))), (u.2.2.2.1, .inl (cI, 8, .inl (fun _ => 0))), (u.2.2.2.2.1, .inl (cI, 8, .inl (fun _ => 0))), (u.2.2.2.2.2.1, .inl (cI, 3, .inl (fun _ => 0))), (u.2.2.2.2.2.2.1, .inl (cI, 3, .inl (fun _ => 0))), (u.2.2.2.2.2.2.2, .inl (cI, 3, .inl (fun _ => 0)))]) u) t) A) ([.ref h] : List Value).toArray s 8 49 A) (F0 m 0 ls [])
  refine lv_aload_n hx hb dX4_init_0 rfl (lv_at hl 0 rfl) ?_
  refine W.objInit hx hb hown (hts (.methodLink RX4 3 objectInit) (List.mem_of_getElem? (i := 1) rfl)) (hts (.instanceMethod objectInit) (List.mem_of_getElem? (i := 2) rfl)) (hts (.code objectInit ⟨#[0xb1]⟩ 1 none) (List.mem_of_getElem? (i := 3) rfl)) rfl (by rw [hml]; exact hl.1) rfl dX4_init_1 (Nat.le_of_ble_eq_true rfl) (Nat.le_of_ble_eq_true rfl) ?_
  refine W.eq (g2 := F0 m 4 ls []) rfl ?_
  refine lv_aload_n hx hb dX4_init_4 rfl (lv_at hl 0 rfl) ?_
  refine lv_iconst (v := 0) hx hb dX4_init_5 (by decide) ?_
  refine va_put (D := D) (ci := 3) (v := .int 0) (ty := .int) (C := RX4) (T := TX4) (N := 16) hx hb hts (fun _ h => List.mem_cons_of_mem _ (List.mem_append_right _ h)) tyX4 tyX4_ok nmX4 hown hK hP hD hS 0 rfl rfl 0 (by decide) (hts (.fieldLink RX4 9 "WinterWalk$Land" "villages" "I") (List.mem_of_getElem? (i := 4) rfl)) (fun _ h9 => h9) rfl (by decide +kernel) rfl rfl (Nat.le_of_ble_eq_true rfl) dX4_init_6 (fun H locs hP hD hS => ?_)
  have hP : va_P D kl [(h, .inr (3, [.int 0, .int 0, .int 0, .int 0, .int 0, .int 0, .int 0, .int 0, .null, .null, .null, .null, .null, .null, .null, .null]))] H := hP
  have hD : va_D A [(h, .inr (3, [.int 0, .int 0, .int 0, .int 0, .int 0, .int 0, .int 0, .int 0, .null, .null, .null, .null, .null, .null, .null, .null]))] := hD
  refine lv_aload_n hx hb dX4_init_9 rfl (lv_at hl 0 rfl) ?_
  refine lv_iconst (v := 0) hx hb dX4_init_10 (by decide) ?_
  refine va_put (D := D) (ci := 3) (v := .int 0) (ty := .int) (C := RX4) (T := TX4) (N := 16) hx hb hts (fun _ h => List.mem_cons_of_mem _ (List.mem_append_right _ h)) tyX4 tyX4_ok nmX4 hown hK hP hD hS 0 rfl rfl 1 (by decide) (hts (.fieldLink RX4 15 "WinterWalk$Land" "roadsTold" "I") (List.mem_of_getElem? (i := 5) rfl)) (fun _ h9 => h9) rfl (by decide +kernel) rfl rfl (Nat.le_of_ble_eq_true rfl) dX4_init_11 (fun H locs hP hD hS => ?_)
  have hP : va_P D kl [(h, .inr (3, [.int 0, .int 0, .int 0, .int 0, .int 0, .int 0, .int 0, .int 0, .null, .null, .null, .null, .null, .null, .null, .null]))] H := hP
  have hD : va_D A [(h, .inr (3, [.int 0, .int 0, .int 0, .int 0, .int 0, .int 0, .int 0, .int 0, .null, .null, .null, .null, .null, .null, .null, .null]))] := hD
  refine lv_aload_n hx hb dX4_init_14 rfl (lv_at hl 0 rfl) ?_
  refine lv_iconst (v := 0) hx hb dX4_init_15 (by decide) ?_
  refine va_put (D := D) (ci := 3) (v := .int 0) (ty := .int) (C := RX4) (T := TX4) (N := 16) hx hb hts (fun _ h => List.mem_cons_of_mem _ (List.mem_append_right _ h)) tyX4 tyX4_ok nmX4 hown hK hP hD hS 0 rfl rfl 2 (by decide) (hts (.fieldLink RX4 18 "WinterWalk$Land" "walkers" "I") (List.mem_of_getElem? (i := 6) rfl)) (fun _ h9 => h9) rfl (by decide +kernel) rfl rfl (Nat.le_of_ble_eq_true rfl) dX4_init_16 (fun H locs hP hD hS => ?_)
  have hP : va_P D kl [(h, .inr (3, [.int 0, .int 0, .int 0, .int 0, .int 0, .int 0, .int 0, .int 0, .null, .null, .null, .null, .null, .null, .null, .null]))] H := hP
  have hD : va_D A [(h, .inr (3, [.int 0, .int 0, .int 0, .int 0, .int 0, .int 0, .int 0, .int 0, .null, .null, .null, .null, .null, .null, .null, .null]))] := hD
  refine lv_aload_n hx hb dX4_init_19 rfl (lv_at hl 0 rfl) ?_
  refine lv_iconst (v := 0) hx hb dX4_init_20 (by decide) ?_
  refine va_put (D := D) (ci := 3) (v := .int 0) (ty := .int) (C := RX4) (T := TX4) (N := 16) hx hb hts (fun _ h => List.mem_cons_of_mem _ (List.mem_append_right _ h)) tyX4 tyX4_ok nmX4 hown hK hP hD hS 0 rfl rfl 3 (by decide) (hts (.fieldLink RX4 21 "WinterWalk$Land" "lasts" "I") (List.mem_of_getElem? (i := 7) rfl)) (fun _ h9 => h9) rfl (by decide +kernel) rfl rfl (Nat.le_of_ble_eq_true rfl) dX4_init_21 (fun H locs hP hD hS => ?_)
  have hP : va_P D kl [(h, .inr (3, [.int 0, .int 0, .int 0, .int 0, .int 0, .int 0, .int 0, .int 0, .null, .null, .null, .null, .null, .null, .null, .null]))] H := hP
  have hD : va_D A [(h, .inr (3, [.int 0, .int 0, .int 0, .int 0, .int 0, .int 0, .int 0, .int 0, .null, .null, .null, .null, .null, .null, .null, .null]))] := hD
  refine lv_aload_n hx hb dX4_init_24 rfl (lv_at hl 0 rfl) ?_
  refine lv_iconst (v := 0) hx hb dX4_init_25 (by decide) ?_
  refine va_put (D := D) (ci := 3) (v := .int 0) (ty := .int) (C := RX4) (T := TX4) (N := 16) hx hb hts (fun _ h => List.mem_cons_of_mem _ (List.mem_append_right _ h)) tyX4 tyX4_ok nmX4 hown hK hP hD hS 0 rfl rfl 4 (by decide) (hts (.fieldLink RX4 24 "WinterWalk$Land" "doorsShut" "I") (List.mem_of_getElem? (i := 8) rfl)) (fun _ h9 => h9) rfl (by decide +kernel) rfl rfl (Nat.le_of_ble_eq_true rfl) dX4_init_26 (fun H locs hP hD hS => ?_)
  have hP : va_P D kl [(h, .inr (3, [.int 0, .int 0, .int 0, .int 0, .int 0, .int 0, .int 0, .int 0, .null, .null, .null, .null, .null, .null, .null, .null]))] H := hP
  have hD : va_D A [(h, .inr (3, [.int 0, .int 0, .int 0, .int 0, .int 0, .int 0, .int 0, .int 0, .null, .null, .null, .null, .null, .null, .null, .null]))] := hD
  refine lv_aload_n hx hb dX4_init_29 rfl (lv_at hl 0 rfl) ?_
  refine lv_iconst (v := 0) hx hb dX4_init_30 (by decide) ?_
  refine va_put (D := D) (ci := 3) (v := .int 0) (ty := .int) (C := RX4) (T := TX4) (N := 16) hx hb hts (fun _ h => List.mem_cons_of_mem _ (List.mem_append_right _ h)) tyX4 tyX4_ok nmX4 hown hK hP hD hS 0 rfl rfl 5 (by decide) (hts (.fieldLink RX4 27 "WinterWalk$Land" "day" "I") (List.mem_of_getElem? (i := 9) rfl)) (fun _ h9 => h9) rfl (by decide +kernel) rfl rfl (Nat.le_of_ble_eq_true rfl) dX4_init_31 (fun H locs hP hD hS => ?_)
  have hP : va_P D kl [(h, .inr (3, [.int 0, .int 0, .int 0, .int 0, .int 0, .int 0, .int 0, .int 0, .null, .null, .null, .null, .null, .null, .null, .null]))] H := hP
  have hD : va_D A [(h, .inr (3, [.int 0, .int 0, .int 0, .int 0, .int 0, .int 0, .int 0, .int 0, .null, .null, .null, .null, .null, .null, .null, .null]))] := hD
  refine lv_aload_n hx hb dX4_init_34 rfl (lv_at hl 0 rfl) ?_
  refine lv_iconst (v := 0) hx hb dX4_init_35 (by decide) ?_
  refine va_put (D := D) (ci := 3) (v := .int 0) (ty := .int) (C := RX4) (T := TX4) (N := 16) hx hb hts (fun _ h => List.mem_cons_of_mem _ (List.mem_append_right _ h)) tyX4 tyX4_ok nmX4 hown hK hP hD hS 0 rfl rfl 6 (by decide) (hts (.fieldLink RX4 30 "WinterWalk$Land" "gain" "I") (List.mem_of_getElem? (i := 10) rfl)) (fun _ h9 => h9) rfl (by decide +kernel) rfl rfl (Nat.le_of_ble_eq_true rfl) dX4_init_36 (fun H locs hP hD hS => ?_)
  have hP : va_P D kl [(h, .inr (3, [.int 0, .int 0, .int 0, .int 0, .int 0, .int 0, .int 0, .int 0, .null, .null, .null, .null, .null, .null, .null, .null]))] H := hP
  have hD : va_D A [(h, .inr (3, [.int 0, .int 0, .int 0, .int 0, .int 0, .int 0, .int 0, .int 0, .null, .null, .null, .null, .null, .null, .null, .null]))] := hD
  refine lv_aload_n hx hb dX4_init_39 rfl (lv_at hl 0 rfl) ?_
  refine lv_iconst (v := 0) hx hb dX4_init_40 (by decide) ?_
  refine va_put (D := D) (ci := 3) (v := .int 0) (ty := .int) (C := RX4) (T := TX4) (N := 16) hx hb hts (fun _ h => List.mem_cons_of_mem _ (List.mem_append_right _ h)) tyX4 tyX4_ok nmX4 hown hK hP hD hS 0 rfl rfl 7 (by decide) (hts (.fieldLink RX4 33 "WinterWalk$Land" "paid" "I") (List.mem_of_getElem? (i := 11) rfl)) (fun _ h9 => h9) rfl (by decide +kernel) rfl rfl (Nat.le_of_ble_eq_true rfl) dX4_init_41 (fun H locs hP hD hS => ?_)
  have hP : va_P D kl [(h, .inr (3, [.int 0, .int 0, .int 0, .int 0, .int 0, .int 0, .int 0, .int 0, .null, .null, .null, .null, .null, .null, .null, .null]))] H := hP
  have hD : va_D A [(h, .inr (3, [.int 0, .int 0, .int 0, .int 0, .int 0, .int 0, .int 0, .int 0, .null, .null, .null, .null, .null, .null, .null, .null]))] := hD
  refine lv_aload_n hx hb dX4_init_44 rfl (lv_at hl 0 rfl) ?_
  refine lv_bipush (v := 8) hx hb dX4_init_45 (by decide) ?_
  refine wn_i (N' := 8) hx hb (hts (.arrayClass .int) (List.mem_of_getElem? (i := 12) rfl)) hK hP hD hS hA (by decide) (by decide) (Nat.le_of_ble_eq_true rfl) (Nat.le_of_ble_eq_true rfl) (Nat.le_of_ble_eq_true rfl) dX4_init_47 (fun q_1 H hP hD hS => ?_)
  have hP : va_P D kl [(h, .inr (3, [.int 0, .int 0, .int 0, .int 0, .int 0, .int 0, .int 0, .int 0, .null, .null, .null, .null, .null, .null, .null, .null])), (q_1, .inl (cI, 8, .inl (fun _ => 0)))] H := hP
  have hD : va_D A [(h, .inr (3, [.int 0, .int 0, .int 0, .int 0, .int 0, .int 0, .int 0, .int 0, .null, .null, .null, .null, .null, .null, .null, .null])), (q_1, .inl (cI, 8, .inl (fun _ => 0)))] := hD
  refine W.widen (k := 1) (n := 8) (Nat.le_of_ble_eq_true rfl) (Nat.le_of_ble_eq_true rfl) ?_
  refine va_putF (D := D) (ci := 3) (v := .ref q_1) (ty := .array .int) (C := RX4) (T := TX4) (N := 16) hx hb hts (fun _ h => List.mem_cons_of_mem _ (List.mem_append_right _ h)) tyX4 tyX4_ok nmX4 hown hK hP hD hS 0 rfl rfl 8 (by decide) (hts (.fieldLink RX4 36 "WinterWalk$Land" "worth" "[I") (List.mem_of_getElem? (i := 13) rfl)) (fun _ h9 => h9) rfl hin rfl (by decide +kernel) rfl rfl (Nat.le_of_ble_eq_true rfl) dX4_init_49 (fun H locs hP hD hS => ?_)
  have hP : va_P D kl [(h, .inr (3, [.int 0, .int 0, .int 0, .int 0, .int 0, .int 0, .int 0, .int 0, .ref q_1, .null, .null, .null, .null, .null, .null, .null])), (q_1, .inl (cI, 8, .inl (fun _ => 0)))] H := hP
  have hD : va_D A [(h, .inr (3, [.int 0, .int 0, .int 0, .int 0, .int 0, .int 0, .int 0, .int 0, .ref q_1, .null, .null, .null, .null, .null, .null, .null])), (q_1, .inl (cI, 8, .inl (fun _ => 0)))] := hD
  refine lv_aload_n hx hb dX4_init_52 rfl (lv_at hl 0 rfl) ?_
  refine lv_bipush (v := 8) hx hb dX4_init_53 (by decide) ?_
  refine wn_i (N' := 8) hx hb (hts (.arrayClass .int) (List.mem_of_getElem? (i := 12) rfl)) hK hP hD hS hA (by decide) (by decide) (Nat.le_of_ble_eq_true rfl) (Nat.le_of_ble_eq_true rfl) (Nat.le_of_ble_eq_true rfl) dX4_init_55 (fun q_2 H hP hD hS => ?_)
  have hP : va_P D kl [(h, .inr (3, [.int 0, .int 0, .int 0, .int 0, .int 0, .int 0, .int 0, .int 0, .ref q_1, .null, .null, .null, .null, .null, .null, .null])), (q_1, .inl (cI, 8, .inl (fun _ => 0))), (q_2, .inl (cI, 8, .inl (fun _ => 0)))] H := hP
  have hD : va_D A [(h, .inr (3, [.int 0, .int 0, .int 0, .int 0, .int 0, .int 0, .int 0, .int 0, .ref q_1, .null, .null, .null, .null, .null, .null, .null])), (q_1, .inl (cI, 8, .inl (fun _ => 0))), (q_2, .inl (cI, 8, .inl (fun _ => 0)))] := hD
  refine W.widen (k := 2) (n := 16) (Nat.le_of_ble_eq_true rfl) (Nat.le_of_ble_eq_true rfl) ?_
  refine va_putF (D := D) (ci := 3) (v := .ref q_2) (ty := .array .int) (C := RX4) (T := TX4) (N := 16) hx hb hts (fun _ h => List.mem_cons_of_mem _ (List.mem_append_right _ h)) tyX4 tyX4_ok nmX4 hown hK hP hD hS 0 rfl rfl 9 (by decide) (hts (.fieldLink RX4 40 "WinterWalk$Land" "offers" "[I") (List.mem_of_getElem? (i := 14) rfl)) (fun _ h9 => h9) rfl hin rfl (by decide +kernel) rfl rfl (Nat.le_of_ble_eq_true rfl) dX4_init_57 (fun H locs hP hD hS => ?_)
  have hP : va_P D kl [(h, .inr (3, [.int 0, .int 0, .int 0, .int 0, .int 0, .int 0, .int 0, .int 0, .ref q_1, .ref q_2, .null, .null, .null, .null, .null, .null])), (q_1, .inl (cI, 8, .inl (fun _ => 0))), (q_2, .inl (cI, 8, .inl (fun _ => 0)))] H := hP
  have hD : va_D A [(h, .inr (3, [.int 0, .int 0, .int 0, .int 0, .int 0, .int 0, .int 0, .int 0, .ref q_1, .ref q_2, .null, .null, .null, .null, .null, .null])), (q_1, .inl (cI, 8, .inl (fun _ => 0))), (q_2, .inl (cI, 8, .inl (fun _ => 0)))] := hD
  refine lv_aload_n hx hb dX4_init_60 rfl (lv_at hl 0 rfl) ?_
  refine lv_bipush (v := 8) hx hb dX4_init_61 (by decide) ?_
  refine wn_i (N' := 8) hx hb (hts (.arrayClass .int) (List.mem_of_getElem? (i := 12) rfl)) hK hP hD hS hA (by decide) (by decide) (Nat.le_of_ble_eq_true rfl) (Nat.le_of_ble_eq_true rfl) (Nat.le_of_ble_eq_true rfl) dX4_init_63 (fun q_3 H hP hD hS => ?_)
  have hP : va_P D kl [(h, .inr (3, [.int 0, .int 0, .int 0, .int 0, .int 0, .int 0, .int 0, .int 0, .ref q_1, .ref q_2, .null, .null, .null, .null, .null, .null])), (q_1, .inl (cI, 8, .inl (fun _ => 0))), (q_2, .inl (cI, 8, .inl (fun _ => 0))), (q_3, .inl (cI, 8, .inl (fun _ => 0)))] H := hP
  have hD : va_D A [(h, .inr (3, [.int 0, .int 0, .int 0, .int 0, .int 0, .int 0, .int 0, .int 0, .ref q_1, .ref q_2, .null, .null, .null, .null, .null, .null])), (q_1, .inl (cI, 8, .inl (fun _ => 0))), (q_2, .inl (cI, 8, .inl (fun _ => 0))), (q_3, .inl (cI, 8, .inl (fun _ => 0)))] := hD
  refine W.widen (k := 3) (n := 24) (Nat.le_of_ble_eq_true rfl) (Nat.le_of_ble_eq_true rfl) ?_
  refine va_putF (D := D) (ci := 3) (v := .ref q_3) (ty := .array .int) (C := RX4) (T := TX4) (N := 16) hx hb hts (fun _ h => List.mem_cons_of_mem _ (List.mem_append_right _ h)) tyX4 tyX4_ok nmX4 hown hK hP hD hS 0 rfl rfl 10 (by decide) (hts (.fieldLink RX4 43 "WinterWalk$Land" "roads" "[I") (List.mem_of_getElem? (i := 15) rfl)) (fun _ h9 => h9) rfl hin rfl (by decide +kernel) rfl rfl (Nat.le_of_ble_eq_true rfl) dX4_init_65 (fun H locs hP hD hS => ?_)
  have hP : va_P D kl [(h, .inr (3, [.int 0, .int 0, .int 0, .int 0, .int 0, .int 0, .int 0, .int 0, .ref q_1, .ref q_2, .ref q_3, .null, .null, .null, .null, .null])), (q_1, .inl (cI, 8, .inl (fun _ => 0))), (q_2, .inl (cI, 8, .inl (fun _ => 0))), (q_3, .inl (cI, 8, .inl (fun _ => 0)))] H := hP
  have hD : va_D A [(h, .inr (3, [.int 0, .int 0, .int 0, .int 0, .int 0, .int 0, .int 0, .int 0, .ref q_1, .ref q_2, .ref q_3, .null, .null, .null, .null, .null])), (q_1, .inl (cI, 8, .inl (fun _ => 0))), (q_2, .inl (cI, 8, .inl (fun _ => 0))), (q_3, .inl (cI, 8, .inl (fun _ => 0)))] := hD
  refine lv_aload_n hx hb dX4_init_68 rfl (lv_at hl 0 rfl) ?_
  refine lv_bipush (v := 8) hx hb dX4_init_69 (by decide) ?_
  refine wn_i (N' := 8) hx hb (hts (.arrayClass .int) (List.mem_of_getElem? (i := 12) rfl)) hK hP hD hS hA (by decide) (by decide) (Nat.le_of_ble_eq_true rfl) (Nat.le_of_ble_eq_true rfl) (Nat.le_of_ble_eq_true rfl) dX4_init_71 (fun q_4 H hP hD hS => ?_)
  have hP : va_P D kl [(h, .inr (3, [.int 0, .int 0, .int 0, .int 0, .int 0, .int 0, .int 0, .int 0, .ref q_1, .ref q_2, .ref q_3, .null, .null, .null, .null, .null])), (q_1, .inl (cI, 8, .inl (fun _ => 0))), (q_2, .inl (cI, 8, .inl (fun _ => 0))), (q_3, .inl (cI, 8, .inl (fun _ => 0))), (q_4, .inl (cI, 8, .inl (fun _ => 0)))] H := hP
  have hD : va_D A [(h, .inr (3, [.int 0, .int 0, .int 0, .int 0, .int 0, .int 0, .int 0, .int 0, .ref q_1, .ref q_2, .ref q_3, .null, .null, .null, .null, .null])), (q_1, .inl (cI, 8, .inl (fun _ => 0))), (q_2, .inl (cI, 8, .inl (fun _ => 0))), (q_3, .inl (cI, 8, .inl (fun _ => 0))), (q_4, .inl (cI, 8, .inl (fun _ => 0)))] := hD
  refine W.widen (k := 4) (n := 32) (Nat.le_of_ble_eq_true rfl) (Nat.le_of_ble_eq_true rfl) ?_
  refine va_putF (D := D) (ci := 3) (v := .ref q_4) (ty := .array .int) (C := RX4) (T := TX4) (N := 16) hx hb hts (fun _ h => List.mem_cons_of_mem _ (List.mem_append_right _ h)) tyX4 tyX4_ok nmX4 hown hK hP hD hS 0 rfl rfl 11 (by decide) (hts (.fieldLink RX4 46 "WinterWalk$Land" "nightsIn" "[I") (List.mem_of_getElem? (i := 16) rfl)) (fun _ h9 => h9) rfl hin rfl (by decide +kernel) rfl rfl (Nat.le_of_ble_eq_true rfl) dX4_init_73 (fun H locs hP hD hS => ?_)
  have hP : va_P D kl [(h, .inr (3, [.int 0, .int 0, .int 0, .int 0, .int 0, .int 0, .int 0, .int 0, .ref q_1, .ref q_2, .ref q_3, .ref q_4, .null, .null, .null, .null])), (q_1, .inl (cI, 8, .inl (fun _ => 0))), (q_2, .inl (cI, 8, .inl (fun _ => 0))), (q_3, .inl (cI, 8, .inl (fun _ => 0))), (q_4, .inl (cI, 8, .inl (fun _ => 0)))] H := hP
  have hD : va_D A [(h, .inr (3, [.int 0, .int 0, .int 0, .int 0, .int 0, .int 0, .int 0, .int 0, .ref q_1, .ref q_2, .ref q_3, .ref q_4, .null, .null, .null, .null])), (q_1, .inl (cI, 8, .inl (fun _ => 0))), (q_2, .inl (cI, 8, .inl (fun _ => 0))), (q_3, .inl (cI, 8, .inl (fun _ => 0))), (q_4, .inl (cI, 8, .inl (fun _ => 0)))] := hD
  refine lv_aload_n hx hb dX4_init_76 rfl (lv_at hl 0 rfl) ?_
  refine lv_bipush (v := 8) hx hb dX4_init_77 (by decide) ?_
  refine wn_i (N' := 8) hx hb (hts (.arrayClass .int) (List.mem_of_getElem? (i := 12) rfl)) hK hP hD hS hA (by decide) (by decide) (Nat.le_of_ble_eq_true rfl) (Nat.le_of_ble_eq_true rfl) (Nat.le_of_ble_eq_true rfl) dX4_init_79 (fun q_5 H hP hD hS => ?_)
  have hP : va_P D kl [(h, .inr (3, [.int 0, .int 0, .int 0, .int 0, .int 0, .int 0, .int 0, .int 0, .ref q_1, .ref q_2, .ref q_3, .ref q_4, .null, .null, .null, .null])), (q_1, .inl (cI, 8, .inl (fun _ => 0))), (q_2, .inl (cI, 8, .inl (fun _ => 0))), (q_3, .inl (cI, 8, .inl (fun _ => 0))), (q_4, .inl (cI, 8, .inl (fun _ => 0))), (q_5, .inl (cI, 8, .inl (fun _ => 0)))] H := hP
  have hD : va_D A [(h, .inr (3, [.int 0, .int 0, .int 0, .int 0, .int 0, .int 0, .int 0, .int 0, .ref q_1, .ref q_2, .ref q_3, .ref q_4, .null, .null, .null, .null])), (q_1, .inl (cI, 8, .inl (fun _ => 0))), (q_2, .inl (cI, 8, .inl (fun _ => 0))), (q_3, .inl (cI, 8, .inl (fun _ => 0))), (q_4, .inl (cI, 8, .inl (fun _ => 0))), (q_5, .inl (cI, 8, .inl (fun _ => 0)))] := hD
  refine W.widen (k := 5) (n := 40) (Nat.le_of_ble_eq_true rfl) (Nat.le_of_ble_eq_true rfl) ?_
  refine va_putF (D := D) (ci := 3) (v := .ref q_5) (ty := .array .int) (C := RX4) (T := TX4) (N := 16) hx hb hts (fun _ h => List.mem_cons_of_mem _ (List.mem_append_right _ h)) tyX4 tyX4_ok nmX4 hown hK hP hD hS 0 rfl rfl 12 (by decide) (hts (.fieldLink RX4 49 "WinterWalk$Land" "thaws" "[I") (List.mem_of_getElem? (i := 17) rfl)) (fun _ h9 => h9) rfl hin rfl (by decide +kernel) rfl rfl (Nat.le_of_ble_eq_true rfl) dX4_init_81 (fun H locs hP hD hS => ?_)
  have hP : va_P D kl [(h, .inr (3, [.int 0, .int 0, .int 0, .int 0, .int 0, .int 0, .int 0, .int 0, .ref q_1, .ref q_2, .ref q_3, .ref q_4, .ref q_5, .null, .null, .null])), (q_1, .inl (cI, 8, .inl (fun _ => 0))), (q_2, .inl (cI, 8, .inl (fun _ => 0))), (q_3, .inl (cI, 8, .inl (fun _ => 0))), (q_4, .inl (cI, 8, .inl (fun _ => 0))), (q_5, .inl (cI, 8, .inl (fun _ => 0)))] H := hP
  have hD : va_D A [(h, .inr (3, [.int 0, .int 0, .int 0, .int 0, .int 0, .int 0, .int 0, .int 0, .ref q_1, .ref q_2, .ref q_3, .ref q_4, .ref q_5, .null, .null, .null])), (q_1, .inl (cI, 8, .inl (fun _ => 0))), (q_2, .inl (cI, 8, .inl (fun _ => 0))), (q_3, .inl (cI, 8, .inl (fun _ => 0))), (q_4, .inl (cI, 8, .inl (fun _ => 0))), (q_5, .inl (cI, 8, .inl (fun _ => 0)))] := hD
  refine lv_aload_n hx hb dX4_init_84 rfl (lv_at hl 0 rfl) ?_
  refine lv_iconst (v := 3) hx hb dX4_init_85 (by decide) ?_
  refine wn_i (N' := 3) hx hb (hts (.arrayClass .int) (List.mem_of_getElem? (i := 12) rfl)) hK hP hD hS hA (by decide) (by decide) (Nat.le_of_ble_eq_true rfl) (Nat.le_of_ble_eq_true rfl) (Nat.le_of_ble_eq_true rfl) dX4_init_86 (fun q_6 H hP hD hS => ?_)
  have hP : va_P D kl [(h, .inr (3, [.int 0, .int 0, .int 0, .int 0, .int 0, .int 0, .int 0, .int 0, .ref q_1, .ref q_2, .ref q_3, .ref q_4, .ref q_5, .null, .null, .null])), (q_1, .inl (cI, 8, .inl (fun _ => 0))), (q_2, .inl (cI, 8, .inl (fun _ => 0))), (q_3, .inl (cI, 8, .inl (fun _ => 0))), (q_4, .inl (cI, 8, .inl (fun _ => 0))), (q_5, .inl (cI, 8, .inl (fun _ => 0))), (q_6, .inl (cI, 3, .inl (fun _ => 0)))] H := hP
  have hD : va_D A [(h, .inr (3, [.int 0, .int 0, .int 0, .int 0, .int 0, .int 0, .int 0, .int 0, .ref q_1, .ref q_2, .ref q_3, .ref q_4, .ref q_5, .null, .null, .null])), (q_1, .inl (cI, 8, .inl (fun _ => 0))), (q_2, .inl (cI, 8, .inl (fun _ => 0))), (q_3, .inl (cI, 8, .inl (fun _ => 0))), (q_4, .inl (cI, 8, .inl (fun _ => 0))), (q_5, .inl (cI, 8, .inl (fun _ => 0))), (q_6, .inl (cI, 3, .inl (fun _ => 0)))] := hD
  refine W.widen (k := 6) (n := 43) (Nat.le_of_ble_eq_true rfl) (Nat.le_of_ble_eq_true rfl) ?_
  refine va_putF (D := D) (ci := 3) (v := .ref q_6) (ty := .array .int) (C := RX4) (T := TX4) (N := 16) hx hb hts (fun _ h => List.mem_cons_of_mem _ (List.mem_append_right _ h)) tyX4 tyX4_ok nmX4 hown hK hP hD hS 0 rfl rfl 13 (by decide) (hts (.fieldLink RX4 52 "WinterWalk$Land" "kinds" "[I") (List.mem_of_getElem? (i := 18) rfl)) (fun _ h9 => h9) rfl hin rfl (by decide +kernel) rfl rfl (Nat.le_of_ble_eq_true rfl) dX4_init_88 (fun H locs hP hD hS => ?_)
  have hP : va_P D kl [(h, .inr (3, [.int 0, .int 0, .int 0, .int 0, .int 0, .int 0, .int 0, .int 0, .ref q_1, .ref q_2, .ref q_3, .ref q_4, .ref q_5, .ref q_6, .null, .null])), (q_1, .inl (cI, 8, .inl (fun _ => 0))), (q_2, .inl (cI, 8, .inl (fun _ => 0))), (q_3, .inl (cI, 8, .inl (fun _ => 0))), (q_4, .inl (cI, 8, .inl (fun _ => 0))), (q_5, .inl (cI, 8, .inl (fun _ => 0))), (q_6, .inl (cI, 3, .inl (fun _ => 0)))] H := hP
  have hD : va_D A [(h, .inr (3, [.int 0, .int 0, .int 0, .int 0, .int 0, .int 0, .int 0, .int 0, .ref q_1, .ref q_2, .ref q_3, .ref q_4, .ref q_5, .ref q_6, .null, .null])), (q_1, .inl (cI, 8, .inl (fun _ => 0))), (q_2, .inl (cI, 8, .inl (fun _ => 0))), (q_3, .inl (cI, 8, .inl (fun _ => 0))), (q_4, .inl (cI, 8, .inl (fun _ => 0))), (q_5, .inl (cI, 8, .inl (fun _ => 0))), (q_6, .inl (cI, 3, .inl (fun _ => 0)))] := hD
  refine lv_aload_n hx hb dX4_init_91 rfl (lv_at hl 0 rfl) ?_
  refine lv_iconst (v := 3) hx hb dX4_init_92 (by decide) ?_
  refine wn_i (N' := 3) hx hb (hts (.arrayClass .int) (List.mem_of_getElem? (i := 12) rfl)) hK hP hD hS hA (by decide) (by decide) (Nat.le_of_ble_eq_true rfl) (Nat.le_of_ble_eq_true rfl) (Nat.le_of_ble_eq_true rfl) dX4_init_93 (fun q_7 H hP hD hS => ?_)
  have hP : va_P D kl [(h, .inr (3, [.int 0, .int 0, .int 0, .int 0, .int 0, .int 0, .int 0, .int 0, .ref q_1, .ref q_2, .ref q_3, .ref q_4, .ref q_5, .ref q_6, .null, .null])), (q_1, .inl (cI, 8, .inl (fun _ => 0))), (q_2, .inl (cI, 8, .inl (fun _ => 0))), (q_3, .inl (cI, 8, .inl (fun _ => 0))), (q_4, .inl (cI, 8, .inl (fun _ => 0))), (q_5, .inl (cI, 8, .inl (fun _ => 0))), (q_6, .inl (cI, 3, .inl (fun _ => 0))), (q_7, .inl (cI, 3, .inl (fun _ => 0)))] H := hP
  have hD : va_D A [(h, .inr (3, [.int 0, .int 0, .int 0, .int 0, .int 0, .int 0, .int 0, .int 0, .ref q_1, .ref q_2, .ref q_3, .ref q_4, .ref q_5, .ref q_6, .null, .null])), (q_1, .inl (cI, 8, .inl (fun _ => 0))), (q_2, .inl (cI, 8, .inl (fun _ => 0))), (q_3, .inl (cI, 8, .inl (fun _ => 0))), (q_4, .inl (cI, 8, .inl (fun _ => 0))), (q_5, .inl (cI, 8, .inl (fun _ => 0))), (q_6, .inl (cI, 3, .inl (fun _ => 0))), (q_7, .inl (cI, 3, .inl (fun _ => 0)))] := hD
  refine W.widen (k := 7) (n := 46) (Nat.le_of_ble_eq_true rfl) (Nat.le_of_ble_eq_true rfl) ?_
  refine va_putF (D := D) (ci := 3) (v := .ref q_7) (ty := .array .int) (C := RX4) (T := TX4) (N := 16) hx hb hts (fun _ h => List.mem_cons_of_mem _ (List.mem_append_right _ h)) tyX4 tyX4_ok nmX4 hown hK hP hD hS 0 rfl rfl 14 (by decide) (hts (.fieldLink RX4 55 "WinterWalk$Land" "at" "[I") (List.mem_of_getElem? (i := 19) rfl)) (fun _ h9 => h9) rfl hin rfl (by decide +kernel) rfl rfl (Nat.le_of_ble_eq_true rfl) dX4_init_95 (fun H locs hP hD hS => ?_)
  have hP : va_P D kl [(h, .inr (3, [.int 0, .int 0, .int 0, .int 0, .int 0, .int 0, .int 0, .int 0, .ref q_1, .ref q_2, .ref q_3, .ref q_4, .ref q_5, .ref q_6, .ref q_7, .null])), (q_1, .inl (cI, 8, .inl (fun _ => 0))), (q_2, .inl (cI, 8, .inl (fun _ => 0))), (q_3, .inl (cI, 8, .inl (fun _ => 0))), (q_4, .inl (cI, 8, .inl (fun _ => 0))), (q_5, .inl (cI, 8, .inl (fun _ => 0))), (q_6, .inl (cI, 3, .inl (fun _ => 0))), (q_7, .inl (cI, 3, .inl (fun _ => 0)))] H := hP
  have hD : va_D A [(h, .inr (3, [.int 0, .int 0, .int 0, .int 0, .int 0, .int 0, .int 0, .int 0, .ref q_1, .ref q_2, .ref q_3, .ref q_4, .ref q_5, .ref q_6, .ref q_7, .null])), (q_1, .inl (cI, 8, .inl (fun _ => 0))), (q_2, .inl (cI, 8, .inl (fun _ => 0))), (q_3, .inl (cI, 8, .inl (fun _ => 0))), (q_4, .inl (cI, 8, .inl (fun _ => 0))), (q_5, .inl (cI, 8, .inl (fun _ => 0))), (q_6, .inl (cI, 3, .inl (fun _ => 0))), (q_7, .inl (cI, 3, .inl (fun _ => 0)))] := hD
  refine lv_aload_n hx hb dX4_init_98 rfl (lv_at hl 0 rfl) ?_
  refine lv_iconst (v := 3) hx hb dX4_init_99 (by decide) ?_
  refine wn_i (N' := 3) hx hb (hts (.arrayClass .int) (List.mem_of_getElem? (i := 12) rfl)) hK hP hD hS hA (by decide) (by decide) (Nat.le_of_ble_eq_true rfl) (Nat.le_of_ble_eq_true rfl) (Nat.le_of_ble_eq_true rfl) dX4_init_100 (fun q_8 H hP hD hS => ?_)
  have hP : va_P D kl [(h, .inr (3, [.int 0, .int 0, .int 0, .int 0, .int 0, .int 0, .int 0, .int 0, .ref q_1, .ref q_2, .ref q_3, .ref q_4, .ref q_5, .ref q_6, .ref q_7, .null])), (q_1, .inl (cI, 8, .inl (fun _ => 0))), (q_2, .inl (cI, 8, .inl (fun _ => 0))), (q_3, .inl (cI, 8, .inl (fun _ => 0))), (q_4, .inl (cI, 8, .inl (fun _ => 0))), (q_5, .inl (cI, 8, .inl (fun _ => 0))), (q_6, .inl (cI, 3, .inl (fun _ => 0))), (q_7, .inl (cI, 3, .inl (fun _ => 0))), (q_8, .inl (cI, 3, .inl (fun _ => 0)))] H := hP
  have hD : va_D A [(h, .inr (3, [.int 0, .int 0, .int 0, .int 0, .int 0, .int 0, .int 0, .int 0, .ref q_1, .ref q_2, .ref q_3, .ref q_4, .ref q_5, .ref q_6, .ref q_7, .null])), (q_1, .inl (cI, 8, .inl (fun _ => 0))), (q_2, .inl (cI, 8, .inl (fun _ => 0))), (q_3, .inl (cI, 8, .inl (fun _ => 0))), (q_4, .inl (cI, 8, .inl (fun _ => 0))), (q_5, .inl (cI, 8, .inl (fun _ => 0))), (q_6, .inl (cI, 3, .inl (fun _ => 0))), (q_7, .inl (cI, 3, .inl (fun _ => 0))), (q_8, .inl (cI, 3, .inl (fun _ => 0)))] := hD
  refine W.widen (k := 8) (n := 49) (Nat.le_of_ble_eq_true rfl) (Nat.le_of_ble_eq_true rfl) ?_
  refine va_putF (D := D) (ci := 3) (v := .ref q_8) (ty := .array .int) (C := RX4) (T := TX4) (N := 16) hx hb hts (fun _ h => List.mem_cons_of_mem _ (List.mem_append_right _ h)) tyX4 tyX4_ok nmX4 hown hK hP hD hS 0 rfl rfl 15 (by decide) (hts (.fieldLink RX4 58 "WinterWalk$Land" "before" "[I") (List.mem_of_getElem? (i := 20) rfl)) (fun _ h9 => h9) rfl hin rfl (by decide +kernel) rfl rfl (Nat.le_of_ble_eq_true rfl) dX4_init_102 (fun H locs hP hD hS => ?_)
  have hP : va_P D kl [(h, .inr (3, [.int 0, .int 0, .int 0, .int 0, .int 0, .int 0, .int 0, .int 0, .ref q_1, .ref q_2, .ref q_3, .ref q_4, .ref q_5, .ref q_6, .ref q_7, .ref q_8])), (q_1, .inl (cI, 8, .inl (fun _ => 0))), (q_2, .inl (cI, 8, .inl (fun _ => 0))), (q_3, .inl (cI, 8, .inl (fun _ => 0))), (q_4, .inl (cI, 8, .inl (fun _ => 0))), (q_5, .inl (cI, 8, .inl (fun _ => 0))), (q_6, .inl (cI, 3, .inl (fun _ => 0))), (q_7, .inl (cI, 3, .inl (fun _ => 0))), (q_8, .inl (cI, 3, .inl (fun _ => 0)))] H := hP
  have hD : va_D A [(h, .inr (3, [.int 0, .int 0, .int 0, .int 0, .int 0, .int 0, .int 0, .int 0, .ref q_1, .ref q_2, .ref q_3, .ref q_4, .ref q_5, .ref q_6, .ref q_7, .ref q_8])), (q_1, .inl (cI, 8, .inl (fun _ => 0))), (q_2, .inl (cI, 8, .inl (fun _ => 0))), (q_3, .inl (cI, 8, .inl (fun _ => 0))), (q_4, .inl (cI, 8, .inl (fun _ => 0))), (q_5, .inl (cI, 8, .inl (fun _ => 0))), (q_6, .inl (cI, 3, .inl (fun _ => 0))), (q_7, .inl (cI, 3, .inl (fun _ => 0))), (q_8, .inl (cI, 3, .inl (fun _ => 0)))] := hD
  exact wr_v hx hb hr hlocks hS (q_1, q_2, q_3, q_4, q_5, q_6, q_7, q_8) (by trivial) (hP.sub [0, 1, 2, 3, 4, 5, 6, 7, 8] rfl) (hD.sub [0, 1, 2, 3, 4, 5, 6, 7, 8] (by decide) rfl) dX4_init_105
set_option maxHeartbeats 4000000 in
set_option maxRecDepth 100000 in
theorem k_isNone (l : Launch) (D : va_G) (cI cB cQ : ClassId) (sz : Nat) (h : Nat) (w0 : Nat) (w1 : Nat) (w2 : Nat) (w3 : Nat) (w4 : Nat) (w5 : Nat) (w6 : Nat) (w7 : Nat) : mi l yX4_isNone wsX4_isNone ({ frames := 0, cells := 0, slots := 0, locals := 0 }) D cI cB cQ [.ref h] sz [(h, .inr (3, [.int 0, .int 0, .int 0, .int 0, .int 0, .int 0, .int 0, .int 0, .ref w0, .ref w1, .ref w2, .ref w3, .ref w4, .ref w5, .ref w6, .ref w7]))] (fun (r : Int32) (_u : Unit) => r = 1) (fun _ => [(h, .inr (3, [.int 0, .int 0, .int 0, .int 0, .int 0, .int 0, .int 0, .int 0, .ref w0, .ref w1, .ref w2, .ref w3, .ref w4, .ref w5, .ref w6, .ref w7]))]) 0 0 := by
  refine wm_i (cc := cX4_isNone) (maxL := 1) (ret := (some .boolean)) (by decide) rfl (Nat.le_of_ble_eq_true rfl) ?_
  intro p e s m below meth c A ls hx hb hr hml hown hts hlocks hin hP hK hD hN hA hl hS
  have hown : s.vm.findClass RX4 = some m.cls := hown
  have hl : lv_has ls 1 [(0, .ref h)] := hl
  change W p l e ({ frames := 0, cells := 0, slots := 0, locals := 0 }) s m ([.ref h] : List Value).toArray below meth c s.heap [] 0 0 (MQ below (va_Qi (fun (r : Int32) (_u : Unit) => r = 1) (fun u t => wb D A ((fun _ => [(h, .inr (3, [.int 0, .int 0, .int 0, .int 0, .int 0, .int 0, .int 0, .int 0, .ref w0, .ref w1, .ref w2, .ref w3, .ref w4, .ref w5, .ref w6, .ref w7]))]) u) t) A) ([.ref h] : List Value).toArray s 0 0 A) (F0 m 0 ls [])
  refine lv_aload_n hx hb dX4_isNone_0 rfl (lv_at hl 0 rfl) ?_
  refine va_get (D := D) (ci := 3) (v := .int 0) (C := RX4) (T := TX4) (N := 16) hx hb hts (fun _ h => List.mem_cons_of_mem _ (List.mem_append_right _ h)) hown hK hP 0 rfl rfl 0 (by decide) (hts (.fieldLink RX4 9 "WinterWalk$Land" "villages" "I") (List.mem_of_getElem? (i := 1) rfl)) (fun _ h9 => h9) rfl dX4_isNone_1 ?_
  refine lv_if_ne (tgt := 11) hx hb dX4_isNone_4 (by decide) (fun c9 => absurd (by decide) c9) (fun _ => ?_)
  refine lv_iconst (v := 1) hx hb dX4_isNone_7 (by decide) ?_
  refine lv_goto (tgt := 12) hx hb dX4_isNone_8 (by decide) ?_
  exact wr_z (v := 1) hx hb hr hlocks hS () (by rfl) (hP.sub [0] rfl) (hD.sub [0] (by decide) rfl) dX4_isNone_12 rfl
set_option maxHeartbeats 4000000 in
set_option maxRecDepth 100000 in
theorem k_hasVillage (l : Launch) (D : va_G) (cI cB cQ : ClassId) (sz : Nat) (h : Nat) (w0 : Nat) (w1 : Nat) (w2 : Nat) (w3 : Nat) (w4 : Nat) (w5 : Nat) (w6 : Nat) (w7 : Nat) (v : Int32) : mi l yX4_hasVillage wsX4_hasVillage ({ frames := 0, cells := 0, slots := 0, locals := 0 }) D cI cB cQ [.ref h, .int v] sz [(h, .inr (3, [.int 0, .int 0, .int 0, .int 0, .int 0, .int 0, .int 0, .int 0, .ref w0, .ref w1, .ref w2, .ref w3, .ref w4, .ref w5, .ref w6, .ref w7]))] (fun (r : Int32) (_u : Unit) => r = 0) (fun _ => [(h, .inr (3, [.int 0, .int 0, .int 0, .int 0, .int 0, .int 0, .int 0, .int 0, .ref w0, .ref w1, .ref w2, .ref w3, .ref w4, .ref w5, .ref w6, .ref w7]))]) 0 0 := by
  refine wm_i (cc := cX4_hasVillage) (maxL := 2) (ret := (some .boolean)) (by decide) rfl (Nat.le_of_ble_eq_true rfl) ?_
  intro p e s m below meth c A ls hx hb hr hml hown hts hlocks hin hP hK hD hN hA hl hS
  have hown : s.vm.findClass RX4 = some m.cls := hown
  have hl : lv_has ls 2 [(0, .ref h), (1, .int v)] := hl
  change W p l e ({ frames := 0, cells := 0, slots := 0, locals := 0 }) s m ([.ref h, .int v] : List Value).toArray below meth c s.heap [] 0 0 (MQ below (va_Qi (fun (r : Int32) (_u : Unit) => r = 0) (fun u t => wb D A ((fun _ => [(h, .inr (3, [.int 0, .int 0, .int 0, .int 0, .int 0, .int 0, .int 0, .int 0, .ref w0, .ref w1, .ref w2, .ref w3, .ref w4, .ref w5, .ref w6, .ref w7]))]) u) t) A) ([.ref h, .int v] : List Value).toArray s 0 0 A) (F0 m 0 ls [])
  refine lv_iload_n hx hb dX4_hasVillage_0 rfl (lv_at hl 1 rfl) ?_
  refine lv_if_lt (tgt := 16) hx hb dX4_hasVillage_1 (by decide) (fun c_1 => ?_) (fun c_1 => ?_)
  · have f_1 : v.toInt < 0 := zi_lt c_1
    refine lv_iconst (v := 0) hx hb dX4_hasVillage_16 (by decide) ?_
    exact wr_z (v := 0) hx hb hr hlocks hS () (by rfl) (hP.sub [0] rfl) (hD.sub [0] (by decide) rfl) dX4_hasVillage_17 rfl
  · have f_1 : ¬ v.toInt < 0 := zi_nlt c_1
    refine lv_iload_n hx hb dX4_hasVillage_4 rfl (lv_at hl 1 rfl) ?_
    refine lv_aload_n hx hb dX4_hasVillage_5 rfl (lv_at hl 0 rfl) ?_
    refine va_get (D := D) (ci := 3) (v := .int 0) (C := RX4) (T := TX4) (N := 16) hx hb hts (fun _ h => List.mem_cons_of_mem _ (List.mem_append_right _ h)) hown hK hP 0 rfl rfl 0 (by decide) (hts (.fieldLink RX4 9 "WinterWalk$Land" "villages" "I") (List.mem_of_getElem? (i := 1) rfl)) (fun _ h9 => h9) rfl dX4_hasVillage_6 ?_
    refine lv_icmp_ge (tgt := 16) hx hb dX4_hasVillage_9 (by decide) (fun c_2 => ?_) (fun c_2 => ?_)
    · have f_2 : 0 ≤ v.toInt := zi_le c_2
      refine lv_iconst (v := 0) hx hb dX4_hasVillage_16 (by decide) ?_
      exact wr_z (v := 0) hx hb hr hlocks hS () (by rfl) (hP.sub [0] rfl) (hD.sub [0] (by decide) rfl) dX4_hasVillage_17 rfl
    · have f_2 : ¬ 0 ≤ v.toInt := zi_nle c_2
      exfalso; omega
set_option maxHeartbeats 4000000 in
set_option maxRecDepth 100000 in
theorem k_hasWalker (l : Launch) (D : va_G) (cI cB cQ : ClassId) (sz : Nat) (h : Nat) (w0 : Nat) (w1 : Nat) (w2 : Nat) (w3 : Nat) (w4 : Nat) (w5 : Nat) (w6 : Nat) (w7 : Nat) (v : Int32) : mi l yX4_hasWalker wsX4_hasWalker ({ frames := 0, cells := 0, slots := 0, locals := 0 }) D cI cB cQ [.ref h, .int v] sz [(h, .inr (3, [.int 0, .int 0, .int 0, .int 0, .int 0, .int 0, .int 0, .int 0, .ref w0, .ref w1, .ref w2, .ref w3, .ref w4, .ref w5, .ref w6, .ref w7]))] (fun (r : Int32) (_u : Unit) => r = 0) (fun _ => [(h, .inr (3, [.int 0, .int 0, .int 0, .int 0, .int 0, .int 0, .int 0, .int 0, .ref w0, .ref w1, .ref w2, .ref w3, .ref w4, .ref w5, .ref w6, .ref w7]))]) 0 0 := by
  refine wm_i (cc := cX4_hasWalker) (maxL := 2) (ret := (some .boolean)) (by decide) rfl (Nat.le_of_ble_eq_true rfl) ?_
  intro p e s m below meth c A ls hx hb hr hml hown hts hlocks hin hP hK hD hN hA hl hS
  have hown : s.vm.findClass RX4 = some m.cls := hown
  have hl : lv_has ls 2 [(0, .ref h), (1, .int v)] := hl
  change W p l e ({ frames := 0, cells := 0, slots := 0, locals := 0 }) s m ([.ref h, .int v] : List Value).toArray below meth c s.heap [] 0 0 (MQ below (va_Qi (fun (r : Int32) (_u : Unit) => r = 0) (fun u t => wb D A ((fun _ => [(h, .inr (3, [.int 0, .int 0, .int 0, .int 0, .int 0, .int 0, .int 0, .int 0, .ref w0, .ref w1, .ref w2, .ref w3, .ref w4, .ref w5, .ref w6, .ref w7]))]) u) t) A) ([.ref h, .int v] : List Value).toArray s 0 0 A) (F0 m 0 ls [])
  refine lv_iload_n hx hb dX4_hasWalker_0 rfl (lv_at hl 1 rfl) ?_
  refine lv_if_lt (tgt := 16) hx hb dX4_hasWalker_1 (by decide) (fun c_1 => ?_) (fun c_1 => ?_)
  · have f_1 : v.toInt < 0 := zi_lt c_1
    refine lv_iconst (v := 0) hx hb dX4_hasWalker_16 (by decide) ?_
    exact wr_z (v := 0) hx hb hr hlocks hS () (by rfl) (hP.sub [0] rfl) (hD.sub [0] (by decide) rfl) dX4_hasWalker_17 rfl
  · have f_1 : ¬ v.toInt < 0 := zi_nlt c_1
    refine lv_iload_n hx hb dX4_hasWalker_4 rfl (lv_at hl 1 rfl) ?_
    refine lv_aload_n hx hb dX4_hasWalker_5 rfl (lv_at hl 0 rfl) ?_
    refine va_get (D := D) (ci := 3) (v := .int 0) (C := RX4) (T := TX4) (N := 16) hx hb hts (fun _ h => List.mem_cons_of_mem _ (List.mem_append_right _ h)) hown hK hP 0 rfl rfl 2 (by decide) (hts (.fieldLink RX4 18 "WinterWalk$Land" "walkers" "I") (List.mem_of_getElem? (i := 1) rfl)) (fun _ h9 => h9) rfl dX4_hasWalker_6 ?_
    refine lv_icmp_ge (tgt := 16) hx hb dX4_hasWalker_9 (by decide) (fun c_2 => ?_) (fun c_2 => ?_)
    · have f_2 : 0 ≤ v.toInt := zi_le c_2
      refine lv_iconst (v := 0) hx hb dX4_hasWalker_16 (by decide) ?_
      exact wr_z (v := 0) hx hb hr hlocks hS () (by rfl) (hP.sub [0] rfl) (hD.sub [0] (by decide) rfl) dX4_hasWalker_17 rfl
    · have f_2 : ¬ 0 ≤ v.toInt := zi_nle c_2
      exfalso; omega
set_option maxHeartbeats 4000000 in
set_option maxRecDepth 100000 in
theorem k_thawAll (l : Launch) (D : va_G) (cI cB cQ : ClassId) (sz : Nat) (h : Nat) (w0 : Nat) (w1 : Nat) (w2 : Nat) (w3 : Nat) (w4 : Nat) (w5 : Nat) (w6 : Nat) (w7 : Nat) : mv l yX4_thawAll wsX4_thawAll ({ frames := 1, cells := 0, slots := 0, locals := 23 }) D cI cB cQ [.ref h] sz [(h, .inr (3, [.int 0, .int 0, .int 0, .int 0, .int 0, .int 0, .int 0, .int 0, .ref w0, .ref w1, .ref w2, .ref w3, .ref w4, .ref w5, .ref w6, .ref w7])), (w4, .inl (cI, 8, .inl (fun _ => 0)))] (fun (_u : Unit) => True) (fun _ => [(h, .inr (3, [.int 0, .int 0, .int 0, .int 0, .int 0, .int 0, .int 0, .int 0, .ref w0, .ref w1, .ref w2, .ref w3, .ref w4, .ref w5, .ref w6, .ref w7]))]) 0 0 := by
  refine wm_v (cc := cX4_thawAll) (maxL := 1) (ret := none) (by decide) rfl (Nat.le_of_ble_eq_true rfl) ?_
  intro p e s m below meth c A ls hx hb hr hml hown hts hlocks hin hP hK hD hN hA hl hS
  have hown : s.vm.findClass RX4 = some m.cls := hown
  have hl : lv_has ls 1 [(0, .ref h)] := hl
  change W p l e ({ frames := 1, cells := 0, slots := 0, locals := 23 }) s m ([.ref h] : List Value).toArray below meth c s.heap [] 0 0 (MQ below (va_Qv (fun (_u : Unit) => True) (fun u t => wb D A ((fun _ => [(h, .inr (3, [.int 0, .int 0, .int 0, .int 0, .int 0, .int 0, .int 0, .int 0, .ref w0, .ref w1, .ref w2, .ref w3, .ref w4, .ref w5, .ref w6, .ref w7]))]) u) t) A) ([.ref h] : List Value).toArray s 0 0 A) (F0 m 0 ls [])
  refine lv_aload_n hx hb dX4_thawAll_0 rfl (lv_at hl 0 rfl) ?_
  refine va_get (D := D) (ci := 3) (v := .ref w4) (C := RX4) (T := TX4) (N := 16) hx hb hts (fun _ h => List.mem_cons_of_mem _ (List.mem_append_right _ h)) hown hK hP 0 rfl rfl 12 (by decide) (hts (.fieldLink RX4 49 "WinterWalk$Land" "thaws" "[I") (List.mem_of_getElem? (i := 1) rfl)) (fun _ h9 => h9) rfl dX4_thawAll_1 ?_
  refine lv_iconst (v := 0) hx hb dX4_thawAll_4 (by decide) ?_
  have k_1 := (k_fill l D cI cB cQ s.heap.size w4 (fun _ => 0) 0)
  refine wc_v (WC := [(w4, .inl (cI, 8, .inl (fun _ => 0)))]) (WR := [(h, .inr (3, [.int 0, .int 0, .int 0, .int 0, .int 0, .int 0, .int 0, .int 0, .ref w0, .ref w1, .ref w2, .ref w3, .ref w4, .ref w5, .ref w6, .ref w7]))]) (va_runS (As := [.ref w4, .int 0]) (rest := []) ⟨hx, hb, hml, hown, hts⟩ k_1 (va_cwS 2 hts gX4_thawAll_J7_fill_53178 rfl rfl rfl (by decide +kernel) ⟨Nat.le_of_ble_eq_true rfl, Nat.le_of_ble_eq_true rfl⟩) (wp_S hP hK hD hN [1] (by decide) rfl) rfl rfl hl.1 rfl (lv_room (Nat.le_of_ble_eq_true rfl)) dX4_thawAll_5 ⟨Nat.le_of_ble_eq_true rfl, Nat.le_of_ble_eq_true rfl⟩) hP hD hS hA [1] [0] rfl rfl (by decide) (by decide) (fun u_1 H locs hw_1 hP hD hS => ?_)
  have hP : va_P D kl [(h, .inr (3, [.int 0, .int 0, .int 0, .int 0, .int 0, .int 0, .int 0, .int 0, .ref w0, .ref w1, .ref w2, .ref w3, .ref w4, .ref w5, .ref w6, .ref w7])), (w4, .inl (cI, 8, .inl (fun _ => 0)))] H := hP
  have hD : va_D A [(h, .inr (3, [.int 0, .int 0, .int 0, .int 0, .int 0, .int 0, .int 0, .int 0, .ref w0, .ref w1, .ref w2, .ref w3, .ref w4, .ref w5, .ref w6, .ref w7])), (w4, .inl (cI, 8, .inl (fun _ => 0)))] := hD
  exact wr_v hx hb hr hlocks hS () (by trivial) (hP.sub [0] rfl) (hD.sub [0] (by decide) rfl) dX4_thawAll_8
set_option maxHeartbeats 4000000 in
set_option maxRecDepth 100000 in
theorem k_becomeNone (l : Launch) (D : va_G) (cI cB cQ : ClassId) (sz : Nat) (h : Nat) (w0 : Nat) (w1 : Nat) (w2 : Nat) (w3 : Nat) (w4 : Nat) (w5 : Nat) (w6 : Nat) (w7 : Nat) : mv l yX4_becomeNone wsX4_becomeNone ({ frames := 2, cells := 0, slots := 0, locals := 43 }) D cI cB cQ [.ref h] sz [(h, .inr (3, [.int 0, .int 0, .int 0, .int 0, .int 0, .int 0, .int 0, .int 0, .ref w0, .ref w1, .ref w2, .ref w3, .ref w4, .ref w5, .ref w6, .ref w7])), (w2, .inl (cI, 8, .inl (fun _ => 0))), (w3, .inl (cI, 8, .inl (fun _ => 0))), (w4, .inl (cI, 8, .inl (fun _ => 0)))] (fun (_u : Unit) => True) (fun _ => [(h, .inr (3, [.int 0, .int 0, .int 0, .int 0, .int 0, .int 0, .int 0, .int 0, .ref w0, .ref w1, .ref w2, .ref w3, .ref w4, .ref w5, .ref w6, .ref w7]))]) 0 0 := by
  refine wm_v (cc := cX4_becomeNone) (maxL := 1) (ret := none) (by decide) rfl (Nat.le_of_ble_eq_true rfl) ?_
  intro p e s m below meth c A ls hx hb hr hml hown hts hlocks hin hP hK hD hN hA hl hS
  have hown : s.vm.findClass RX4 = some m.cls := hown
  have hl : lv_has ls 1 [(0, .ref h)] := hl
  change W p l e ({ frames := 2, cells := 0, slots := 0, locals := 43 }) s m ([.ref h] : List Value).toArray below meth c s.heap [] 0 0 (MQ below (va_Qv (fun (_u : Unit) => True) (fun u t => wb D A ((fun _ => [(h, .inr (3, [.int 0, .int 0, .int 0, .int 0, .int 0, .int 0, .int 0, .int 0, .ref w0, .ref w1, .ref w2, .ref w3, .ref w4, .ref w5, .ref w6, .ref w7]))]) u) t) A) ([.ref h] : List Value).toArray s 0 0 A) (F0 m 0 ls [])
  refine lv_aload_n hx hb dX4_becomeNone_0 rfl (lv_at hl 0 rfl) ?_
  refine lv_iconst (v := 0) hx hb dX4_becomeNone_1 (by decide) ?_
  refine va_put (D := D) (ci := 3) (v := .int 0) (ty := .int) (C := RX4) (T := TX4) (N := 16) hx hb hts (fun _ h => List.mem_cons_of_mem _ (List.mem_append_right _ h)) tyX4 tyX4_ok nmX4 hown hK hP hD hS 0 rfl rfl 0 (by decide) (hts (.fieldLink RX4 9 "WinterWalk$Land" "villages" "I") (List.mem_of_getElem? (i := 1) rfl)) (fun _ h9 => h9) rfl (by decide +kernel) rfl rfl (Nat.le_of_ble_eq_true rfl) dX4_becomeNone_2 (fun H locs hP hD hS => ?_)
  have hP : va_P D kl [(h, .inr (3, [.int 0, .int 0, .int 0, .int 0, .int 0, .int 0, .int 0, .int 0, .ref w0, .ref w1, .ref w2, .ref w3, .ref w4, .ref w5, .ref w6, .ref w7])), (w2, .inl (cI, 8, .inl (fun _ => 0))), (w3, .inl (cI, 8, .inl (fun _ => 0))), (w4, .inl (cI, 8, .inl (fun _ => 0)))] H := hP
  have hD : va_D A [(h, .inr (3, [.int 0, .int 0, .int 0, .int 0, .int 0, .int 0, .int 0, .int 0, .ref w0, .ref w1, .ref w2, .ref w3, .ref w4, .ref w5, .ref w6, .ref w7])), (w2, .inl (cI, 8, .inl (fun _ => 0))), (w3, .inl (cI, 8, .inl (fun _ => 0))), (w4, .inl (cI, 8, .inl (fun _ => 0)))] := hD
  refine lv_aload_n hx hb dX4_becomeNone_5 rfl (lv_at hl 0 rfl) ?_
  refine lv_iconst (v := 0) hx hb dX4_becomeNone_6 (by decide) ?_
  refine va_put (D := D) (ci := 3) (v := .int 0) (ty := .int) (C := RX4) (T := TX4) (N := 16) hx hb hts (fun _ h => List.mem_cons_of_mem _ (List.mem_append_right _ h)) tyX4 tyX4_ok nmX4 hown hK hP hD hS 0 rfl rfl 1 (by decide) (hts (.fieldLink RX4 15 "WinterWalk$Land" "roadsTold" "I") (List.mem_of_getElem? (i := 2) rfl)) (fun _ h9 => h9) rfl (by decide +kernel) rfl rfl (Nat.le_of_ble_eq_true rfl) dX4_becomeNone_7 (fun H locs hP hD hS => ?_)
  have hP : va_P D kl [(h, .inr (3, [.int 0, .int 0, .int 0, .int 0, .int 0, .int 0, .int 0, .int 0, .ref w0, .ref w1, .ref w2, .ref w3, .ref w4, .ref w5, .ref w6, .ref w7])), (w2, .inl (cI, 8, .inl (fun _ => 0))), (w3, .inl (cI, 8, .inl (fun _ => 0))), (w4, .inl (cI, 8, .inl (fun _ => 0)))] H := hP
  have hD : va_D A [(h, .inr (3, [.int 0, .int 0, .int 0, .int 0, .int 0, .int 0, .int 0, .int 0, .ref w0, .ref w1, .ref w2, .ref w3, .ref w4, .ref w5, .ref w6, .ref w7])), (w2, .inl (cI, 8, .inl (fun _ => 0))), (w3, .inl (cI, 8, .inl (fun _ => 0))), (w4, .inl (cI, 8, .inl (fun _ => 0)))] := hD
  refine lv_aload_n hx hb dX4_becomeNone_10 rfl (lv_at hl 0 rfl) ?_
  refine lv_iconst (v := 0) hx hb dX4_becomeNone_11 (by decide) ?_
  refine va_put (D := D) (ci := 3) (v := .int 0) (ty := .int) (C := RX4) (T := TX4) (N := 16) hx hb hts (fun _ h => List.mem_cons_of_mem _ (List.mem_append_right _ h)) tyX4 tyX4_ok nmX4 hown hK hP hD hS 0 rfl rfl 2 (by decide) (hts (.fieldLink RX4 18 "WinterWalk$Land" "walkers" "I") (List.mem_of_getElem? (i := 3) rfl)) (fun _ h9 => h9) rfl (by decide +kernel) rfl rfl (Nat.le_of_ble_eq_true rfl) dX4_becomeNone_12 (fun H locs hP hD hS => ?_)
  have hP : va_P D kl [(h, .inr (3, [.int 0, .int 0, .int 0, .int 0, .int 0, .int 0, .int 0, .int 0, .ref w0, .ref w1, .ref w2, .ref w3, .ref w4, .ref w5, .ref w6, .ref w7])), (w2, .inl (cI, 8, .inl (fun _ => 0))), (w3, .inl (cI, 8, .inl (fun _ => 0))), (w4, .inl (cI, 8, .inl (fun _ => 0)))] H := hP
  have hD : va_D A [(h, .inr (3, [.int 0, .int 0, .int 0, .int 0, .int 0, .int 0, .int 0, .int 0, .ref w0, .ref w1, .ref w2, .ref w3, .ref w4, .ref w5, .ref w6, .ref w7])), (w2, .inl (cI, 8, .inl (fun _ => 0))), (w3, .inl (cI, 8, .inl (fun _ => 0))), (w4, .inl (cI, 8, .inl (fun _ => 0)))] := hD
  refine lv_aload_n hx hb dX4_becomeNone_15 rfl (lv_at hl 0 rfl) ?_
  refine lv_iconst (v := 0) hx hb dX4_becomeNone_16 (by decide) ?_
  refine va_put (D := D) (ci := 3) (v := .int 0) (ty := .int) (C := RX4) (T := TX4) (N := 16) hx hb hts (fun _ h => List.mem_cons_of_mem _ (List.mem_append_right _ h)) tyX4 tyX4_ok nmX4 hown hK hP hD hS 0 rfl rfl 3 (by decide) (hts (.fieldLink RX4 21 "WinterWalk$Land" "lasts" "I") (List.mem_of_getElem? (i := 4) rfl)) (fun _ h9 => h9) rfl (by decide +kernel) rfl rfl (Nat.le_of_ble_eq_true rfl) dX4_becomeNone_17 (fun H locs hP hD hS => ?_)
  have hP : va_P D kl [(h, .inr (3, [.int 0, .int 0, .int 0, .int 0, .int 0, .int 0, .int 0, .int 0, .ref w0, .ref w1, .ref w2, .ref w3, .ref w4, .ref w5, .ref w6, .ref w7])), (w2, .inl (cI, 8, .inl (fun _ => 0))), (w3, .inl (cI, 8, .inl (fun _ => 0))), (w4, .inl (cI, 8, .inl (fun _ => 0)))] H := hP
  have hD : va_D A [(h, .inr (3, [.int 0, .int 0, .int 0, .int 0, .int 0, .int 0, .int 0, .int 0, .ref w0, .ref w1, .ref w2, .ref w3, .ref w4, .ref w5, .ref w6, .ref w7])), (w2, .inl (cI, 8, .inl (fun _ => 0))), (w3, .inl (cI, 8, .inl (fun _ => 0))), (w4, .inl (cI, 8, .inl (fun _ => 0)))] := hD
  refine lv_aload_n hx hb dX4_becomeNone_20 rfl (lv_at hl 0 rfl) ?_
  refine lv_iconst (v := 0) hx hb dX4_becomeNone_21 (by decide) ?_
  refine va_put (D := D) (ci := 3) (v := .int 0) (ty := .int) (C := RX4) (T := TX4) (N := 16) hx hb hts (fun _ h => List.mem_cons_of_mem _ (List.mem_append_right _ h)) tyX4 tyX4_ok nmX4 hown hK hP hD hS 0 rfl rfl 4 (by decide) (hts (.fieldLink RX4 24 "WinterWalk$Land" "doorsShut" "I") (List.mem_of_getElem? (i := 5) rfl)) (fun _ h9 => h9) rfl (by decide +kernel) rfl rfl (Nat.le_of_ble_eq_true rfl) dX4_becomeNone_22 (fun H locs hP hD hS => ?_)
  have hP : va_P D kl [(h, .inr (3, [.int 0, .int 0, .int 0, .int 0, .int 0, .int 0, .int 0, .int 0, .ref w0, .ref w1, .ref w2, .ref w3, .ref w4, .ref w5, .ref w6, .ref w7])), (w2, .inl (cI, 8, .inl (fun _ => 0))), (w3, .inl (cI, 8, .inl (fun _ => 0))), (w4, .inl (cI, 8, .inl (fun _ => 0)))] H := hP
  have hD : va_D A [(h, .inr (3, [.int 0, .int 0, .int 0, .int 0, .int 0, .int 0, .int 0, .int 0, .ref w0, .ref w1, .ref w2, .ref w3, .ref w4, .ref w5, .ref w6, .ref w7])), (w2, .inl (cI, 8, .inl (fun _ => 0))), (w3, .inl (cI, 8, .inl (fun _ => 0))), (w4, .inl (cI, 8, .inl (fun _ => 0)))] := hD
  refine lv_aload_n hx hb dX4_becomeNone_25 rfl (lv_at hl 0 rfl) ?_
  refine lv_iconst (v := 0) hx hb dX4_becomeNone_26 (by decide) ?_
  refine va_put (D := D) (ci := 3) (v := .int 0) (ty := .int) (C := RX4) (T := TX4) (N := 16) hx hb hts (fun _ h => List.mem_cons_of_mem _ (List.mem_append_right _ h)) tyX4 tyX4_ok nmX4 hown hK hP hD hS 0 rfl rfl 5 (by decide) (hts (.fieldLink RX4 27 "WinterWalk$Land" "day" "I") (List.mem_of_getElem? (i := 6) rfl)) (fun _ h9 => h9) rfl (by decide +kernel) rfl rfl (Nat.le_of_ble_eq_true rfl) dX4_becomeNone_27 (fun H locs hP hD hS => ?_)
  have hP : va_P D kl [(h, .inr (3, [.int 0, .int 0, .int 0, .int 0, .int 0, .int 0, .int 0, .int 0, .ref w0, .ref w1, .ref w2, .ref w3, .ref w4, .ref w5, .ref w6, .ref w7])), (w2, .inl (cI, 8, .inl (fun _ => 0))), (w3, .inl (cI, 8, .inl (fun _ => 0))), (w4, .inl (cI, 8, .inl (fun _ => 0)))] H := hP
  have hD : va_D A [(h, .inr (3, [.int 0, .int 0, .int 0, .int 0, .int 0, .int 0, .int 0, .int 0, .ref w0, .ref w1, .ref w2, .ref w3, .ref w4, .ref w5, .ref w6, .ref w7])), (w2, .inl (cI, 8, .inl (fun _ => 0))), (w3, .inl (cI, 8, .inl (fun _ => 0))), (w4, .inl (cI, 8, .inl (fun _ => 0)))] := hD
  refine lv_aload_n hx hb dX4_becomeNone_30 rfl (lv_at hl 0 rfl) ?_
  refine lv_iconst (v := 0) hx hb dX4_becomeNone_31 (by decide) ?_
  refine va_put (D := D) (ci := 3) (v := .int 0) (ty := .int) (C := RX4) (T := TX4) (N := 16) hx hb hts (fun _ h => List.mem_cons_of_mem _ (List.mem_append_right _ h)) tyX4 tyX4_ok nmX4 hown hK hP hD hS 0 rfl rfl 6 (by decide) (hts (.fieldLink RX4 30 "WinterWalk$Land" "gain" "I") (List.mem_of_getElem? (i := 7) rfl)) (fun _ h9 => h9) rfl (by decide +kernel) rfl rfl (Nat.le_of_ble_eq_true rfl) dX4_becomeNone_32 (fun H locs hP hD hS => ?_)
  have hP : va_P D kl [(h, .inr (3, [.int 0, .int 0, .int 0, .int 0, .int 0, .int 0, .int 0, .int 0, .ref w0, .ref w1, .ref w2, .ref w3, .ref w4, .ref w5, .ref w6, .ref w7])), (w2, .inl (cI, 8, .inl (fun _ => 0))), (w3, .inl (cI, 8, .inl (fun _ => 0))), (w4, .inl (cI, 8, .inl (fun _ => 0)))] H := hP
  have hD : va_D A [(h, .inr (3, [.int 0, .int 0, .int 0, .int 0, .int 0, .int 0, .int 0, .int 0, .ref w0, .ref w1, .ref w2, .ref w3, .ref w4, .ref w5, .ref w6, .ref w7])), (w2, .inl (cI, 8, .inl (fun _ => 0))), (w3, .inl (cI, 8, .inl (fun _ => 0))), (w4, .inl (cI, 8, .inl (fun _ => 0)))] := hD
  refine lv_aload_n hx hb dX4_becomeNone_35 rfl (lv_at hl 0 rfl) ?_
  refine lv_iconst (v := 0) hx hb dX4_becomeNone_36 (by decide) ?_
  refine va_put (D := D) (ci := 3) (v := .int 0) (ty := .int) (C := RX4) (T := TX4) (N := 16) hx hb hts (fun _ h => List.mem_cons_of_mem _ (List.mem_append_right _ h)) tyX4 tyX4_ok nmX4 hown hK hP hD hS 0 rfl rfl 7 (by decide) (hts (.fieldLink RX4 33 "WinterWalk$Land" "paid" "I") (List.mem_of_getElem? (i := 8) rfl)) (fun _ h9 => h9) rfl (by decide +kernel) rfl rfl (Nat.le_of_ble_eq_true rfl) dX4_becomeNone_37 (fun H locs hP hD hS => ?_)
  have hP : va_P D kl [(h, .inr (3, [.int 0, .int 0, .int 0, .int 0, .int 0, .int 0, .int 0, .int 0, .ref w0, .ref w1, .ref w2, .ref w3, .ref w4, .ref w5, .ref w6, .ref w7])), (w2, .inl (cI, 8, .inl (fun _ => 0))), (w3, .inl (cI, 8, .inl (fun _ => 0))), (w4, .inl (cI, 8, .inl (fun _ => 0)))] H := hP
  have hD : va_D A [(h, .inr (3, [.int 0, .int 0, .int 0, .int 0, .int 0, .int 0, .int 0, .int 0, .ref w0, .ref w1, .ref w2, .ref w3, .ref w4, .ref w5, .ref w6, .ref w7])), (w2, .inl (cI, 8, .inl (fun _ => 0))), (w3, .inl (cI, 8, .inl (fun _ => 0))), (w4, .inl (cI, 8, .inl (fun _ => 0)))] := hD
  refine lv_aload_n hx hb dX4_becomeNone_40 rfl (lv_at hl 0 rfl) ?_
  refine va_get (D := D) (ci := 3) (v := .ref w2) (C := RX4) (T := TX4) (N := 16) hx hb hts (fun _ h => List.mem_cons_of_mem _ (List.mem_append_right _ h)) hown hK hP 0 rfl rfl 10 (by decide) (hts (.fieldLink RX4 43 "WinterWalk$Land" "roads" "[I") (List.mem_of_getElem? (i := 9) rfl)) (fun _ h9 => h9) rfl dX4_becomeNone_41 ?_
  refine lv_iconst (v := 0) hx hb dX4_becomeNone_44 (by decide) ?_
  have k_1 := (k_fill l D cI cB cQ H.size w2 (fun _ => 0) 0)
  refine wc_v (WC := [(w2, .inl (cI, 8, .inl (fun _ => 0)))]) (WR := [(h, .inr (3, [.int 0, .int 0, .int 0, .int 0, .int 0, .int 0, .int 0, .int 0, .ref w0, .ref w1, .ref w2, .ref w3, .ref w4, .ref w5, .ref w6, .ref w7])), (w3, .inl (cI, 8, .inl (fun _ => 0))), (w4, .inl (cI, 8, .inl (fun _ => 0)))]) (va_runS (As := [.ref w2, .int 0]) (rest := []) ⟨hx, hb, hml, hown, hts⟩ k_1 (va_cwS 2 hts gX4_becomeNone_J7_fill_53178 rfl rfl rfl (by decide +kernel) ⟨Nat.le_of_ble_eq_true rfl, Nat.le_of_ble_eq_true rfl⟩) (wp_S hP hK hD hN [1] (by decide) rfl) rfl rfl hl.1 rfl (lv_room (Nat.le_of_ble_eq_true rfl)) dX4_becomeNone_45 ⟨Nat.le_of_ble_eq_true rfl, Nat.le_of_ble_eq_true rfl⟩) hP hD hS hA [1] [0, 2, 3] rfl rfl (by decide) (by decide) (fun u_1 H locs hw_1 hP hD hS => ?_)
  have hP : va_P D kl [(h, .inr (3, [.int 0, .int 0, .int 0, .int 0, .int 0, .int 0, .int 0, .int 0, .ref w0, .ref w1, .ref w2, .ref w3, .ref w4, .ref w5, .ref w6, .ref w7])), (w3, .inl (cI, 8, .inl (fun _ => 0))), (w4, .inl (cI, 8, .inl (fun _ => 0))), (w2, .inl (cI, 8, .inl (fun _ => 0)))] H := hP
  have hD : va_D A [(h, .inr (3, [.int 0, .int 0, .int 0, .int 0, .int 0, .int 0, .int 0, .int 0, .ref w0, .ref w1, .ref w2, .ref w3, .ref w4, .ref w5, .ref w6, .ref w7])), (w3, .inl (cI, 8, .inl (fun _ => 0))), (w4, .inl (cI, 8, .inl (fun _ => 0))), (w2, .inl (cI, 8, .inl (fun _ => 0)))] := hD
  refine lv_aload_n hx hb dX4_becomeNone_48 rfl (lv_at hl 0 rfl) ?_
  refine va_get (D := D) (ci := 3) (v := .ref w3) (C := RX4) (T := TX4) (N := 16) hx hb hts (fun _ h => List.mem_cons_of_mem _ (List.mem_append_right _ h)) hown hK hP 0 rfl rfl 11 (by decide) (hts (.fieldLink RX4 46 "WinterWalk$Land" "nightsIn" "[I") (List.mem_of_getElem? (i := 10) rfl)) (fun _ h9 => h9) rfl dX4_becomeNone_49 ?_
  refine lv_iconst (v := 0) hx hb dX4_becomeNone_52 (by decide) ?_
  have k_2 := (k_fill l D cI cB cQ H.size w3 (fun _ => 0) 0)
  refine wc_v (WC := [(w3, .inl (cI, 8, .inl (fun _ => 0)))]) (WR := [(h, .inr (3, [.int 0, .int 0, .int 0, .int 0, .int 0, .int 0, .int 0, .int 0, .ref w0, .ref w1, .ref w2, .ref w3, .ref w4, .ref w5, .ref w6, .ref w7])), (w4, .inl (cI, 8, .inl (fun _ => 0))), (w2, .inl (cI, 8, .inl (fun _ => 0)))]) (va_runS (As := [.ref w3, .int 0]) (rest := []) ⟨hx, hb, hml, hown, hts⟩ k_2 (va_cwS 2 hts gX4_becomeNone_J7_fill_53178 rfl rfl rfl (by decide +kernel) ⟨Nat.le_of_ble_eq_true rfl, Nat.le_of_ble_eq_true rfl⟩) (wp_S hP hK hD hN [1] (by decide) rfl) rfl rfl hl.1 rfl (lv_room (Nat.le_of_ble_eq_true rfl)) dX4_becomeNone_53 ⟨Nat.le_of_ble_eq_true rfl, Nat.le_of_ble_eq_true rfl⟩) hP hD hS hA [1] [0, 2, 3] rfl rfl (by decide) (by decide) (fun u_2 H locs hw_2 hP hD hS => ?_)
  have hP : va_P D kl [(h, .inr (3, [.int 0, .int 0, .int 0, .int 0, .int 0, .int 0, .int 0, .int 0, .ref w0, .ref w1, .ref w2, .ref w3, .ref w4, .ref w5, .ref w6, .ref w7])), (w4, .inl (cI, 8, .inl (fun _ => 0))), (w2, .inl (cI, 8, .inl (fun _ => 0))), (w3, .inl (cI, 8, .inl (fun _ => 0)))] H := hP
  have hD : va_D A [(h, .inr (3, [.int 0, .int 0, .int 0, .int 0, .int 0, .int 0, .int 0, .int 0, .ref w0, .ref w1, .ref w2, .ref w3, .ref w4, .ref w5, .ref w6, .ref w7])), (w4, .inl (cI, 8, .inl (fun _ => 0))), (w2, .inl (cI, 8, .inl (fun _ => 0))), (w3, .inl (cI, 8, .inl (fun _ => 0)))] := hD
  refine lv_aload_n hx hb dX4_becomeNone_56 rfl (lv_at hl 0 rfl) ?_
  have k_3 := (k_thawAll l D cI cB cQ H.size h w0 w1 w2 w3 w4 w5 w6 w7)
  refine wc_v (WC := [(h, .inr (3, [.int 0, .int 0, .int 0, .int 0, .int 0, .int 0, .int 0, .int 0, .ref w0, .ref w1, .ref w2, .ref w3, .ref w4, .ref w5, .ref w6, .ref w7])), (w4, .inl (cI, 8, .inl (fun _ => 0)))]) (WR := [(w2, .inl (cI, 8, .inl (fun _ => 0))), (w3, .inl (cI, 8, .inl (fun _ => 0)))]) (va_runV (As := []) (rest := []) ⟨hx, hb, hml, hown, hts⟩ k_3 (cwV 0 hts gX4_becomeNone_X4_thawAll rfl rfl rfl (by decide +kernel) ⟨Nat.le_of_ble_eq_true rfl, Nat.le_of_ble_eq_true rfl⟩) (wp_V hP hK hD hN [0, 1] (by decide) rfl (ci := 3) rfl rfl) rfl rfl hl.1 rfl (lv_room (Nat.le_of_ble_eq_true rfl)) dX4_becomeNone_57 ⟨Nat.le_of_ble_eq_true rfl, Nat.le_of_ble_eq_true rfl⟩) hP hD hS hA [0, 1] [2, 3] rfl rfl (by decide) (by decide) (fun u_3 H locs hw_3 hP hD hS => ?_)
  have hP : va_P D kl [(w2, .inl (cI, 8, .inl (fun _ => 0))), (w3, .inl (cI, 8, .inl (fun _ => 0))), (h, .inr (3, [.int 0, .int 0, .int 0, .int 0, .int 0, .int 0, .int 0, .int 0, .ref w0, .ref w1, .ref w2, .ref w3, .ref w4, .ref w5, .ref w6, .ref w7]))] H := hP
  have hD : va_D A [(w2, .inl (cI, 8, .inl (fun _ => 0))), (w3, .inl (cI, 8, .inl (fun _ => 0))), (h, .inr (3, [.int 0, .int 0, .int 0, .int 0, .int 0, .int 0, .int 0, .int 0, .ref w0, .ref w1, .ref w2, .ref w3, .ref w4, .ref w5, .ref w6, .ref w7]))] := hD
  exact wr_v hx hb hr hlocks hS () (by trivial) (hP.sub [2] rfl) (hD.sub [2] (by decide) rfl) dX4_becomeNone_60
set_option maxHeartbeats 4000000 in
set_option maxRecDepth 100000 in
theorem k_rows_init (l : Launch) (D : va_G) (cI cB cQ : ClassId) (sz : Nat) (h : Nat) : mv l yX5_init wsX5_init ({ frames := 1, cells := 3, slots := 336, locals := 23 }) D cI cB cQ [.ref h] sz [(h, .inr (4, [.null, .null, .null]))] (fun (u : Nat × Nat × Nat) => True) (fun u => [(h, .inr (4, [.ref u.1, .ref u.2.1, .ref u.2.2])), (u.1, .inl (cI, 8, .inl (fun _ => (-1)))), (u.2.1, .inl (cI, 8, .inl (fun _ => 0))), (u.2.2, .inl (cI, 320, .inl (fun _ => 0)))]) 3 336 := by
  refine wm_v (cc := cX5_init) (maxL := 1) (ret := none) (by decide) rfl (Nat.le_of_ble_eq_true rfl) ?_
  intro p e s m below meth c A ls hx hb hr hml hown hts hlocks hin hP hK hD hN hA hl hS
  have hown : s.vm.findClass RX5 = some m.cls := hown
  have hl : lv_has ls 1 [(0, .ref h)] := hl
  change W p l e ({ frames := 1, cells := 3, slots := 336, locals := 23 }) s m ([.ref h] : List Value).toArray below meth c s.heap [] 0 0 (MQ below (va_Qv (fun (u : Nat × Nat × Nat) => True) (fun u t => wb D A ((fun u => [(h, .inr (4, [.ref u.1, .ref u.2.1, .ref u.2.2])), (u.1, .inl (cI, 8, .inl (fun _ => (-1)))), (u.2.1, .inl (cI, 8, .inl (fun _ => 0))), (u.2.2, .inl (cI, 320, .inl (fun _ => 0)))]) u) t) A) ([.ref h] : List Value).toArray s 3 336 A) (F0 m 0 ls [])
  refine lv_aload_n hx hb dX5_init_0 rfl (lv_at hl 0 rfl) ?_
  refine W.objInit hx hb hown (hts (.methodLink RX5 3 objectInit) (List.mem_of_getElem? (i := 1) rfl)) (hts (.instanceMethod objectInit) (List.mem_of_getElem? (i := 2) rfl)) (hts (.code objectInit ⟨#[0xb1]⟩ 1 none) (List.mem_of_getElem? (i := 3) rfl)) rfl (by rw [hml]; exact hl.1) rfl dX5_init_1 (Nat.le_of_ble_eq_true rfl) (Nat.le_of_ble_eq_true rfl) ?_
  refine W.eq (g2 := F0 m 4 ls []) rfl ?_
  refine lv_aload_n hx hb dX5_init_4 rfl (lv_at hl 0 rfl) ?_
  refine lv_bipush (v := 8) hx hb dX5_init_5 (by decide) ?_
  refine wn_i (N' := 8) hx hb (hts (.arrayClass .int) (List.mem_of_getElem? (i := 4) rfl)) hK hP hD hS hA (by decide) (by decide) (Nat.le_of_ble_eq_true rfl) (Nat.le_of_ble_eq_true rfl) (Nat.le_of_ble_eq_true rfl) dX5_init_7 (fun q_1 H hP hD hS => ?_)
  have hP : va_P D kl [(h, .inr (4, [.null, .null, .null])), (q_1, .inl (cI, 8, .inl (fun _ => 0)))] H := hP
  have hD : va_D A [(h, .inr (4, [.null, .null, .null])), (q_1, .inl (cI, 8, .inl (fun _ => 0)))] := hD
  refine W.widen (k := 1) (n := 8) (Nat.le_of_ble_eq_true rfl) (Nat.le_of_ble_eq_true rfl) ?_
  refine va_putF (D := D) (ci := 4) (v := .ref q_1) (ty := .array .int) (C := RX5) (T := TX5) (N := 3) hx hb hts (fun _ h => List.mem_cons_of_mem _ (List.mem_append_right _ h)) tyX5 tyX5_ok nmX5 hown hK hP hD hS 0 rfl rfl 0 (by decide) (hts (.fieldLink RX5 11 "WinterWalk$Rows" "lanes" "[I") (List.mem_of_getElem? (i := 5) rfl)) (fun _ h9 => h9) rfl hin rfl (by decide +kernel) rfl rfl (Nat.le_of_ble_eq_true rfl) dX5_init_9 (fun H locs hP hD hS => ?_)
  have hP : va_P D kl [(h, .inr (4, [.ref q_1, .null, .null])), (q_1, .inl (cI, 8, .inl (fun _ => 0)))] H := hP
  have hD : va_D A [(h, .inr (4, [.ref q_1, .null, .null])), (q_1, .inl (cI, 8, .inl (fun _ => 0)))] := hD
  refine lv_aload_n hx hb dX5_init_12 rfl (lv_at hl 0 rfl) ?_
  refine lv_bipush (v := 8) hx hb dX5_init_13 (by decide) ?_
  refine wn_i (N' := 8) hx hb (hts (.arrayClass .int) (List.mem_of_getElem? (i := 4) rfl)) hK hP hD hS hA (by decide) (by decide) (Nat.le_of_ble_eq_true rfl) (Nat.le_of_ble_eq_true rfl) (Nat.le_of_ble_eq_true rfl) dX5_init_15 (fun q_2 H hP hD hS => ?_)
  have hP : va_P D kl [(h, .inr (4, [.ref q_1, .null, .null])), (q_1, .inl (cI, 8, .inl (fun _ => 0))), (q_2, .inl (cI, 8, .inl (fun _ => 0)))] H := hP
  have hD : va_D A [(h, .inr (4, [.ref q_1, .null, .null])), (q_1, .inl (cI, 8, .inl (fun _ => 0))), (q_2, .inl (cI, 8, .inl (fun _ => 0)))] := hD
  refine W.widen (k := 2) (n := 16) (Nat.le_of_ble_eq_true rfl) (Nat.le_of_ble_eq_true rfl) ?_
  refine va_putF (D := D) (ci := 4) (v := .ref q_2) (ty := .array .int) (C := RX5) (T := TX5) (N := 3) hx hb hts (fun _ h => List.mem_cons_of_mem _ (List.mem_append_right _ h)) tyX5 tyX5_ok nmX5 hown hK hP hD hS 0 rfl rfl 1 (by decide) (hts (.fieldLink RX5 15 "WinterWalk$Rows" "sizes" "[I") (List.mem_of_getElem? (i := 6) rfl)) (fun _ h9 => h9) rfl hin rfl (by decide +kernel) rfl rfl (Nat.le_of_ble_eq_true rfl) dX5_init_17 (fun H locs hP hD hS => ?_)
  have hP : va_P D kl [(h, .inr (4, [.ref q_1, .ref q_2, .null])), (q_1, .inl (cI, 8, .inl (fun _ => 0))), (q_2, .inl (cI, 8, .inl (fun _ => 0)))] H := hP
  have hD : va_D A [(h, .inr (4, [.ref q_1, .ref q_2, .null])), (q_1, .inl (cI, 8, .inl (fun _ => 0))), (q_2, .inl (cI, 8, .inl (fun _ => 0)))] := hD
  refine lv_aload_n hx hb dX5_init_20 rfl (lv_at hl 0 rfl) ?_
  refine lv_sipush (v := 320) hx hb dX5_init_21 (by decide) ?_
  refine wn_i (N' := 320) hx hb (hts (.arrayClass .int) (List.mem_of_getElem? (i := 4) rfl)) hK hP hD hS hA (by decide) (by decide) (Nat.le_of_ble_eq_true rfl) (Nat.le_of_ble_eq_true rfl) (Nat.le_of_ble_eq_true rfl) dX5_init_24 (fun q_3 H hP hD hS => ?_)
  have hP : va_P D kl [(h, .inr (4, [.ref q_1, .ref q_2, .null])), (q_1, .inl (cI, 8, .inl (fun _ => 0))), (q_2, .inl (cI, 8, .inl (fun _ => 0))), (q_3, .inl (cI, 320, .inl (fun _ => 0)))] H := hP
  have hD : va_D A [(h, .inr (4, [.ref q_1, .ref q_2, .null])), (q_1, .inl (cI, 8, .inl (fun _ => 0))), (q_2, .inl (cI, 8, .inl (fun _ => 0))), (q_3, .inl (cI, 320, .inl (fun _ => 0)))] := hD
  refine W.widen (k := 3) (n := 336) (Nat.le_of_ble_eq_true rfl) (Nat.le_of_ble_eq_true rfl) ?_
  refine va_putF (D := D) (ci := 4) (v := .ref q_3) (ty := .array .int) (C := RX5) (T := TX5) (N := 3) hx hb hts (fun _ h => List.mem_cons_of_mem _ (List.mem_append_right _ h)) tyX5 tyX5_ok nmX5 hown hK hP hD hS 0 rfl rfl 2 (by decide) (hts (.fieldLink RX5 18 "WinterWalk$Rows" "items" "[I") (List.mem_of_getElem? (i := 7) rfl)) (fun _ h9 => h9) rfl hin rfl (by decide +kernel) rfl rfl (Nat.le_of_ble_eq_true rfl) dX5_init_26 (fun H locs hP hD hS => ?_)
  have hP : va_P D kl [(h, .inr (4, [.ref q_1, .ref q_2, .ref q_3])), (q_1, .inl (cI, 8, .inl (fun _ => 0))), (q_2, .inl (cI, 8, .inl (fun _ => 0))), (q_3, .inl (cI, 320, .inl (fun _ => 0)))] H := hP
  have hD : va_D A [(h, .inr (4, [.ref q_1, .ref q_2, .ref q_3])), (q_1, .inl (cI, 8, .inl (fun _ => 0))), (q_2, .inl (cI, 8, .inl (fun _ => 0))), (q_3, .inl (cI, 320, .inl (fun _ => 0)))] := hD
  refine lv_aload_n hx hb dX5_init_29 rfl (lv_at hl 0 rfl) ?_
  refine va_get (D := D) (ci := 4) (v := .ref q_1) (C := RX5) (T := TX5) (N := 3) hx hb hts (fun _ h => List.mem_cons_of_mem _ (List.mem_append_right _ h)) hown hK hP 0 rfl rfl 0 (by decide) (hts (.fieldLink RX5 11 "WinterWalk$Rows" "lanes" "[I") (List.mem_of_getElem? (i := 5) rfl)) (fun _ h9 => h9) rfl dX5_init_30 ?_
  refine lv_iconst (v := (-1)) hx hb dX5_init_33 (by decide) ?_
  have k_4 := (k_fill l D cI cB cQ H.size q_1 (fun _ => 0) (-1))
  refine wc_v (WC := [(q_1, .inl (cI, 8, .inl (fun _ => 0)))]) (WR := [(h, .inr (4, [.ref q_1, .ref q_2, .ref q_3])), (q_2, .inl (cI, 8, .inl (fun _ => 0))), (q_3, .inl (cI, 320, .inl (fun _ => 0)))]) (va_runS (As := [.ref q_1, .int (-1)]) (rest := []) ⟨hx, hb, hml, hown, hts⟩ k_4 (va_cwS 2 hts gX5_init_J7_fill_53178 rfl rfl rfl (by decide +kernel) ⟨Nat.le_of_ble_eq_true rfl, Nat.le_of_ble_eq_true rfl⟩) (wp_S hP hK hD hN [1] (by decide) rfl) rfl rfl hl.1 rfl (lv_room (Nat.le_of_ble_eq_true rfl)) dX5_init_34 ⟨Nat.le_of_ble_eq_true rfl, Nat.le_of_ble_eq_true rfl⟩) hP hD hS hA [1] [0, 2, 3] rfl rfl (by decide) (by decide) (fun u_4 H locs hw_4 hP hD hS => ?_)
  have hP : va_P D kl [(h, .inr (4, [.ref q_1, .ref q_2, .ref q_3])), (q_2, .inl (cI, 8, .inl (fun _ => 0))), (q_3, .inl (cI, 320, .inl (fun _ => 0))), (q_1, .inl (cI, 8, .inl (fun _ => (-1))))] H := hP
  have hD : va_D A [(h, .inr (4, [.ref q_1, .ref q_2, .ref q_3])), (q_2, .inl (cI, 8, .inl (fun _ => 0))), (q_3, .inl (cI, 320, .inl (fun _ => 0))), (q_1, .inl (cI, 8, .inl (fun _ => (-1))))] := hD
  exact wr_v hx hb hr hlocks hS (q_1, q_2, q_3) (by trivial) (hP.sub [0, 3, 1, 2] rfl) (hD.sub [0, 3, 1, 2] (by decide) rfl) dX5_init_37
set_option maxHeartbeats 4000000 in
set_option maxRecDepth 100000 in
theorem k_isMissing (l : Launch) (D : va_G) (cI cB cQ : ClassId) (sz : Nat) (h : Nat) (la : Nat) (sq : Nat) (ir : Nat) (v : Int32) (h0 : 0 ≤ v.toInt ∧ v.toInt ≤ 7) : mi l yX5_isMissing wsX5_isMissing ({ frames := 0, cells := 0, slots := 0, locals := 0 }) D cI cB cQ [.ref h, .int v] sz [(h, .inr (4, [.ref la, .ref sq, .ref ir])), (la, .inl (cI, 8, .inl (fun _ => (-1))))] (fun (r : Int32) (_u : Unit) => r = 1) (fun _ => [(h, .inr (4, [.ref la, .ref sq, .ref ir])), (la, .inl (cI, 8, .inl (fun _ => (-1))))]) 0 0 := by
  refine wm_i (cc := cX5_isMissing) (maxL := 2) (ret := (some .boolean)) (by decide) rfl (Nat.le_of_ble_eq_true rfl) ?_
  intro p e s m below meth c A ls hx hb hr hml hown hts hlocks hin hP hK hD hN hA hl hS
  have hown : s.vm.findClass RX5 = some m.cls := hown
  have hl : lv_has ls 2 [(0, .ref h), (1, .int v)] := hl
  change W p l e ({ frames := 0, cells := 0, slots := 0, locals := 0 }) s m ([.ref h, .int v] : List Value).toArray below meth c s.heap [] 0 0 (MQ below (va_Qi (fun (r : Int32) (_u : Unit) => r = 1) (fun u t => wb D A ((fun _ => [(h, .inr (4, [.ref la, .ref sq, .ref ir])), (la, .inl (cI, 8, .inl (fun _ => (-1))))]) u) t) A) ([.ref h, .int v] : List Value).toArray s 0 0 A) (F0 m 0 ls [])
  refine lv_aload_n hx hb dX5_isMissing_0 rfl (lv_at hl 0 rfl) ?_
  refine va_get (D := D) (ci := 4) (v := .ref la) (C := RX5) (T := TX5) (N := 3) hx hb hts (fun _ h => List.mem_cons_of_mem _ (List.mem_append_right _ h)) hown hK hP 0 rfl rfl 0 (by decide) (hts (.fieldLink RX5 11 "WinterWalk$Rows" "lanes" "[I") (List.mem_of_getElem? (i := 1) rfl)) (fun _ h9 => h9) rfl dX5_isMissing_1 ?_
  refine lv_iload_n hx hb dX5_isMissing_4 rfl (lv_at hl 1 rfl) ?_
  refine va_iald hx hb hK hP 1 0 rfl rfl (zi_in (by omega) (by omega)) dX5_isMissing_5 ?_
  refine lv_topi (fun x_1 ex_1 => ?_)
  obtain rfl : x_1 = (-1) := ex_1
  refine lv_iconst (v := (-1)) hx hb dX5_isMissing_6 (by decide) ?_
  refine lv_icmp_ne (tgt := 14) hx hb dX5_isMissing_7 (by decide) (fun c9 => absurd (by decide) c9) (fun _ => ?_)
  refine lv_iconst (v := 1) hx hb dX5_isMissing_10 (by decide) ?_
  refine lv_goto (tgt := 15) hx hb dX5_isMissing_11 (by decide) ?_
  exact wr_z (v := 1) hx hb hr hlocks hS () (by rfl) (hP.sub [0, 1] rfl) (hD.sub [0, 1] (by decide) rfl) dX5_isMissing_15 rfl
set_option maxHeartbeats 4000000 in
set_option maxRecDepth 100000 in
theorem k_howMany (l : Launch) (D : va_G) (cI cB cQ : ClassId) (sz : Nat) (h : Nat) (la : Nat) (sq : Nat) (ir : Nat) : mi l yX5_howMany wsX5_howMany ({ frames := 1, cells := 0, slots := 0, locals := 21 }) D cI cB cQ [.ref h] sz [(h, .inr (4, [.ref la, .ref sq, .ref ir])), (la, .inl (cI, 8, .inl (fun _ => (-1))))] (fun (r : Int32) (_u : Unit) => r = 0) (fun _ => []) 0 0 := by
  refine wm_i (cc := cX5_howMany) (maxL := 3) (ret := (some .int)) (by decide) rfl (Nat.le_of_ble_eq_true rfl) ?_
  intro p e s m below meth c A ls hx hb hr hml hown hts hlocks hin hP hK hD hN hA hl hS
  have hown : s.vm.findClass RX5 = some m.cls := hown
  have hl : lv_has ls 3 [(0, .ref h)] := hl
  change W p l e ({ frames := 1, cells := 0, slots := 0, locals := 21 }) s m ([.ref h] : List Value).toArray below meth c s.heap [] 0 0 (MQ below (va_Qi (fun (r : Int32) (_u : Unit) => r = 0) (fun u t => wb D A ((fun _ => []) u) t) A) ([.ref h] : List Value).toArray s 0 0 A) (F0 m 0 ls [])
  refine lv_iconst (v := 0) hx hb dX5_howMany_0 (by decide) ?_
  refine lv_istore_n (lv' := [(1, .int 0), (0, .ref h)]) hx hb dX5_howMany_1 rfl hl (by decide) rfl (fun ls hl => ?_)
  refine lv_iconst (v := 0) hx hb dX5_howMany_2 (by decide) ?_
  refine lv_istore_n (lv' := [(2, .int 0), (1, .int 0), (0, .ref h)]) hx hb dX5_howMany_3 rfl hl (by decide) rfl (fun ls hl => ?_)
  refine lv_iload_n hx hb dX5_howMany_4 rfl (lv_at hl 0 rfl) ?_
  refine lv_bipush (v := 8) hx hb dX5_howMany_5 (by decide) ?_
  refine lv_icmp_ge (tgt := 27) hx hb dX5_howMany_7 (by decide) (fun c9 => absurd c9 (by decide)) (fun _ => ?_)
  refine lv_aload_n hx hb dX5_howMany_10 rfl (lv_at hl 2 rfl) ?_
  refine lv_iload_n hx hb dX5_howMany_11 rfl (lv_at hl 0 rfl) ?_
  have k_1 := (k_isMissing l D cI cB cQ s.heap.size h la sq ir 0 ⟨by decide, by decide⟩)
  refine wc_i (WC := [(h, .inr (4, [.ref la, .ref sq, .ref ir])), (la, .inl (cI, 8, .inl (fun _ => (-1))))]) (WR := []) (va_runV (As := [.int 0]) (rest := []) ⟨hx, hb, hml, hown, hts⟩ k_1 (cwV 1 hts gX5_howMany_X5_isMissing rfl rfl rfl (by decide +kernel) ⟨Nat.le_of_ble_eq_true rfl, Nat.le_of_ble_eq_true rfl⟩) (wp_V hP hK hD hN [0, 1] (by decide) rfl (ci := 4) rfl rfl) rfl rfl hl.1 rfl (lv_room (Nat.le_of_ble_eq_true rfl)) dX5_howMany_12 ⟨Nat.le_of_ble_eq_true rfl, Nat.le_of_ble_eq_true rfl⟩) hP hD hS hA [0, 1] [] rfl rfl (by decide) (by decide) (fun r_1 u_1 H locs hw_1 hP hD hS => ?_)
  have hP : va_P D kl [(h, .inr (4, [.ref la, .ref sq, .ref ir])), (la, .inl (cI, 8, .inl (fun _ => (-1))))] H := hP
  have hD : va_D A [(h, .inr (4, [.ref la, .ref sq, .ref ir])), (la, .inl (cI, 8, .inl (fun _ => (-1))))] := hD
  obtain rfl : r_1 = 1 := by first | exact hw_1 | exact hw_1.trans (by decide)
  refine lv_if_ne (tgt := 21) hx hb dX5_howMany_15 (by decide) (fun _ => ?_) (fun c9 => absurd c9 (by decide))
  refine lv_iinc (v := 1) (lv' := [(2, .int 1), (1, .int 0), (0, .ref h)]) hx hb dX5_howMany_21 hl (k := 0) rfl (by decide) (by decide) rfl (fun ls hl => ?_)
  refine lv_goto (tgt := 4) hx hb dX5_howMany_24 (by decide) ?_
  refine lv_iload_n hx hb dX5_howMany_4 rfl (lv_at hl 0 rfl) ?_
  refine lv_bipush (v := 8) hx hb dX5_howMany_5 (by decide) ?_
  refine lv_icmp_ge (tgt := 27) hx hb dX5_howMany_7 (by decide) (fun c9 => absurd c9 (by decide)) (fun _ => ?_)
  refine lv_aload_n hx hb dX5_howMany_10 rfl (lv_at hl 2 rfl) ?_
  refine lv_iload_n hx hb dX5_howMany_11 rfl (lv_at hl 0 rfl) ?_
  have k_2 := (k_isMissing l D cI cB cQ H.size h la sq ir 1 ⟨by decide, by decide⟩)
  refine wc_i (WC := [(h, .inr (4, [.ref la, .ref sq, .ref ir])), (la, .inl (cI, 8, .inl (fun _ => (-1))))]) (WR := []) (va_runV (As := [.int 1]) (rest := []) ⟨hx, hb, hml, hown, hts⟩ k_2 (cwV 1 hts gX5_howMany_X5_isMissing rfl rfl rfl (by decide +kernel) ⟨Nat.le_of_ble_eq_true rfl, Nat.le_of_ble_eq_true rfl⟩) (wp_V hP hK hD hN [0, 1] (by decide) rfl (ci := 4) rfl rfl) rfl rfl hl.1 rfl (lv_room (Nat.le_of_ble_eq_true rfl)) dX5_howMany_12 ⟨Nat.le_of_ble_eq_true rfl, Nat.le_of_ble_eq_true rfl⟩) hP hD hS hA [0, 1] [] rfl rfl (by decide) (by decide) (fun r_2 u_2 H locs hw_2 hP hD hS => ?_)
  have hP : va_P D kl [(h, .inr (4, [.ref la, .ref sq, .ref ir])), (la, .inl (cI, 8, .inl (fun _ => (-1))))] H := hP
  have hD : va_D A [(h, .inr (4, [.ref la, .ref sq, .ref ir])), (la, .inl (cI, 8, .inl (fun _ => (-1))))] := hD
  obtain rfl : r_2 = 1 := by first | exact hw_2 | exact hw_2.trans (by decide)
  refine lv_if_ne (tgt := 21) hx hb dX5_howMany_15 (by decide) (fun _ => ?_) (fun c9 => absurd c9 (by decide))
  refine lv_iinc (v := 2) (lv' := [(2, .int 2), (1, .int 0), (0, .ref h)]) hx hb dX5_howMany_21 hl (k := 0) rfl (by decide) (by decide) rfl (fun ls hl => ?_)
  refine lv_goto (tgt := 4) hx hb dX5_howMany_24 (by decide) ?_
  refine lv_iload_n hx hb dX5_howMany_4 rfl (lv_at hl 0 rfl) ?_
  refine lv_bipush (v := 8) hx hb dX5_howMany_5 (by decide) ?_
  refine lv_icmp_ge (tgt := 27) hx hb dX5_howMany_7 (by decide) (fun c9 => absurd c9 (by decide)) (fun _ => ?_)
  refine lv_aload_n hx hb dX5_howMany_10 rfl (lv_at hl 2 rfl) ?_
  refine lv_iload_n hx hb dX5_howMany_11 rfl (lv_at hl 0 rfl) ?_
  have k_3 := (k_isMissing l D cI cB cQ H.size h la sq ir 2 ⟨by decide, by decide⟩)
  refine wc_i (WC := [(h, .inr (4, [.ref la, .ref sq, .ref ir])), (la, .inl (cI, 8, .inl (fun _ => (-1))))]) (WR := []) (va_runV (As := [.int 2]) (rest := []) ⟨hx, hb, hml, hown, hts⟩ k_3 (cwV 1 hts gX5_howMany_X5_isMissing rfl rfl rfl (by decide +kernel) ⟨Nat.le_of_ble_eq_true rfl, Nat.le_of_ble_eq_true rfl⟩) (wp_V hP hK hD hN [0, 1] (by decide) rfl (ci := 4) rfl rfl) rfl rfl hl.1 rfl (lv_room (Nat.le_of_ble_eq_true rfl)) dX5_howMany_12 ⟨Nat.le_of_ble_eq_true rfl, Nat.le_of_ble_eq_true rfl⟩) hP hD hS hA [0, 1] [] rfl rfl (by decide) (by decide) (fun r_3 u_3 H locs hw_3 hP hD hS => ?_)
  have hP : va_P D kl [(h, .inr (4, [.ref la, .ref sq, .ref ir])), (la, .inl (cI, 8, .inl (fun _ => (-1))))] H := hP
  have hD : va_D A [(h, .inr (4, [.ref la, .ref sq, .ref ir])), (la, .inl (cI, 8, .inl (fun _ => (-1))))] := hD
  obtain rfl : r_3 = 1 := by first | exact hw_3 | exact hw_3.trans (by decide)
  refine lv_if_ne (tgt := 21) hx hb dX5_howMany_15 (by decide) (fun _ => ?_) (fun c9 => absurd c9 (by decide))
  refine lv_iinc (v := 3) (lv' := [(2, .int 3), (1, .int 0), (0, .ref h)]) hx hb dX5_howMany_21 hl (k := 0) rfl (by decide) (by decide) rfl (fun ls hl => ?_)
  refine lv_goto (tgt := 4) hx hb dX5_howMany_24 (by decide) ?_
  refine lv_iload_n hx hb dX5_howMany_4 rfl (lv_at hl 0 rfl) ?_
  refine lv_bipush (v := 8) hx hb dX5_howMany_5 (by decide) ?_
  refine lv_icmp_ge (tgt := 27) hx hb dX5_howMany_7 (by decide) (fun c9 => absurd c9 (by decide)) (fun _ => ?_)
  refine lv_aload_n hx hb dX5_howMany_10 rfl (lv_at hl 2 rfl) ?_
  refine lv_iload_n hx hb dX5_howMany_11 rfl (lv_at hl 0 rfl) ?_
  have k_4 := (k_isMissing l D cI cB cQ H.size h la sq ir 3 ⟨by decide, by decide⟩)
  refine wc_i (WC := [(h, .inr (4, [.ref la, .ref sq, .ref ir])), (la, .inl (cI, 8, .inl (fun _ => (-1))))]) (WR := []) (va_runV (As := [.int 3]) (rest := []) ⟨hx, hb, hml, hown, hts⟩ k_4 (cwV 1 hts gX5_howMany_X5_isMissing rfl rfl rfl (by decide +kernel) ⟨Nat.le_of_ble_eq_true rfl, Nat.le_of_ble_eq_true rfl⟩) (wp_V hP hK hD hN [0, 1] (by decide) rfl (ci := 4) rfl rfl) rfl rfl hl.1 rfl (lv_room (Nat.le_of_ble_eq_true rfl)) dX5_howMany_12 ⟨Nat.le_of_ble_eq_true rfl, Nat.le_of_ble_eq_true rfl⟩) hP hD hS hA [0, 1] [] rfl rfl (by decide) (by decide) (fun r_4 u_4 H locs hw_4 hP hD hS => ?_)
  have hP : va_P D kl [(h, .inr (4, [.ref la, .ref sq, .ref ir])), (la, .inl (cI, 8, .inl (fun _ => (-1))))] H := hP
  have hD : va_D A [(h, .inr (4, [.ref la, .ref sq, .ref ir])), (la, .inl (cI, 8, .inl (fun _ => (-1))))] := hD
  obtain rfl : r_4 = 1 := by first | exact hw_4 | exact hw_4.trans (by decide)
  refine lv_if_ne (tgt := 21) hx hb dX5_howMany_15 (by decide) (fun _ => ?_) (fun c9 => absurd c9 (by decide))
  refine lv_iinc (v := 4) (lv' := [(2, .int 4), (1, .int 0), (0, .ref h)]) hx hb dX5_howMany_21 hl (k := 0) rfl (by decide) (by decide) rfl (fun ls hl => ?_)
  refine lv_goto (tgt := 4) hx hb dX5_howMany_24 (by decide) ?_
  refine lv_iload_n hx hb dX5_howMany_4 rfl (lv_at hl 0 rfl) ?_
  refine lv_bipush (v := 8) hx hb dX5_howMany_5 (by decide) ?_
  refine lv_icmp_ge (tgt := 27) hx hb dX5_howMany_7 (by decide) (fun c9 => absurd c9 (by decide)) (fun _ => ?_)
  refine lv_aload_n hx hb dX5_howMany_10 rfl (lv_at hl 2 rfl) ?_
  refine lv_iload_n hx hb dX5_howMany_11 rfl (lv_at hl 0 rfl) ?_
  have k_5 := (k_isMissing l D cI cB cQ H.size h la sq ir 4 ⟨by decide, by decide⟩)
  refine wc_i (WC := [(h, .inr (4, [.ref la, .ref sq, .ref ir])), (la, .inl (cI, 8, .inl (fun _ => (-1))))]) (WR := []) (va_runV (As := [.int 4]) (rest := []) ⟨hx, hb, hml, hown, hts⟩ k_5 (cwV 1 hts gX5_howMany_X5_isMissing rfl rfl rfl (by decide +kernel) ⟨Nat.le_of_ble_eq_true rfl, Nat.le_of_ble_eq_true rfl⟩) (wp_V hP hK hD hN [0, 1] (by decide) rfl (ci := 4) rfl rfl) rfl rfl hl.1 rfl (lv_room (Nat.le_of_ble_eq_true rfl)) dX5_howMany_12 ⟨Nat.le_of_ble_eq_true rfl, Nat.le_of_ble_eq_true rfl⟩) hP hD hS hA [0, 1] [] rfl rfl (by decide) (by decide) (fun r_5 u_5 H locs hw_5 hP hD hS => ?_)
  have hP : va_P D kl [(h, .inr (4, [.ref la, .ref sq, .ref ir])), (la, .inl (cI, 8, .inl (fun _ => (-1))))] H := hP
  have hD : va_D A [(h, .inr (4, [.ref la, .ref sq, .ref ir])), (la, .inl (cI, 8, .inl (fun _ => (-1))))] := hD
  obtain rfl : r_5 = 1 := by first | exact hw_5 | exact hw_5.trans (by decide)
  refine lv_if_ne (tgt := 21) hx hb dX5_howMany_15 (by decide) (fun _ => ?_) (fun c9 => absurd c9 (by decide))
  refine lv_iinc (v := 5) (lv' := [(2, .int 5), (1, .int 0), (0, .ref h)]) hx hb dX5_howMany_21 hl (k := 0) rfl (by decide) (by decide) rfl (fun ls hl => ?_)
  refine lv_goto (tgt := 4) hx hb dX5_howMany_24 (by decide) ?_
  refine lv_iload_n hx hb dX5_howMany_4 rfl (lv_at hl 0 rfl) ?_
  refine lv_bipush (v := 8) hx hb dX5_howMany_5 (by decide) ?_
  refine lv_icmp_ge (tgt := 27) hx hb dX5_howMany_7 (by decide) (fun c9 => absurd c9 (by decide)) (fun _ => ?_)
  refine lv_aload_n hx hb dX5_howMany_10 rfl (lv_at hl 2 rfl) ?_
  refine lv_iload_n hx hb dX5_howMany_11 rfl (lv_at hl 0 rfl) ?_
  have k_6 := (k_isMissing l D cI cB cQ H.size h la sq ir 5 ⟨by decide, by decide⟩)
  refine wc_i (WC := [(h, .inr (4, [.ref la, .ref sq, .ref ir])), (la, .inl (cI, 8, .inl (fun _ => (-1))))]) (WR := []) (va_runV (As := [.int 5]) (rest := []) ⟨hx, hb, hml, hown, hts⟩ k_6 (cwV 1 hts gX5_howMany_X5_isMissing rfl rfl rfl (by decide +kernel) ⟨Nat.le_of_ble_eq_true rfl, Nat.le_of_ble_eq_true rfl⟩) (wp_V hP hK hD hN [0, 1] (by decide) rfl (ci := 4) rfl rfl) rfl rfl hl.1 rfl (lv_room (Nat.le_of_ble_eq_true rfl)) dX5_howMany_12 ⟨Nat.le_of_ble_eq_true rfl, Nat.le_of_ble_eq_true rfl⟩) hP hD hS hA [0, 1] [] rfl rfl (by decide) (by decide) (fun r_6 u_6 H locs hw_6 hP hD hS => ?_)
  have hP : va_P D kl [(h, .inr (4, [.ref la, .ref sq, .ref ir])), (la, .inl (cI, 8, .inl (fun _ => (-1))))] H := hP
  have hD : va_D A [(h, .inr (4, [.ref la, .ref sq, .ref ir])), (la, .inl (cI, 8, .inl (fun _ => (-1))))] := hD
  obtain rfl : r_6 = 1 := by first | exact hw_6 | exact hw_6.trans (by decide)
  refine lv_if_ne (tgt := 21) hx hb dX5_howMany_15 (by decide) (fun _ => ?_) (fun c9 => absurd c9 (by decide))
  refine lv_iinc (v := 6) (lv' := [(2, .int 6), (1, .int 0), (0, .ref h)]) hx hb dX5_howMany_21 hl (k := 0) rfl (by decide) (by decide) rfl (fun ls hl => ?_)
  refine lv_goto (tgt := 4) hx hb dX5_howMany_24 (by decide) ?_
  refine lv_iload_n hx hb dX5_howMany_4 rfl (lv_at hl 0 rfl) ?_
  refine lv_bipush (v := 8) hx hb dX5_howMany_5 (by decide) ?_
  refine lv_icmp_ge (tgt := 27) hx hb dX5_howMany_7 (by decide) (fun c9 => absurd c9 (by decide)) (fun _ => ?_)
  refine lv_aload_n hx hb dX5_howMany_10 rfl (lv_at hl 2 rfl) ?_
  refine lv_iload_n hx hb dX5_howMany_11 rfl (lv_at hl 0 rfl) ?_
  have k_7 := (k_isMissing l D cI cB cQ H.size h la sq ir 6 ⟨by decide, by decide⟩)
  refine wc_i (WC := [(h, .inr (4, [.ref la, .ref sq, .ref ir])), (la, .inl (cI, 8, .inl (fun _ => (-1))))]) (WR := []) (va_runV (As := [.int 6]) (rest := []) ⟨hx, hb, hml, hown, hts⟩ k_7 (cwV 1 hts gX5_howMany_X5_isMissing rfl rfl rfl (by decide +kernel) ⟨Nat.le_of_ble_eq_true rfl, Nat.le_of_ble_eq_true rfl⟩) (wp_V hP hK hD hN [0, 1] (by decide) rfl (ci := 4) rfl rfl) rfl rfl hl.1 rfl (lv_room (Nat.le_of_ble_eq_true rfl)) dX5_howMany_12 ⟨Nat.le_of_ble_eq_true rfl, Nat.le_of_ble_eq_true rfl⟩) hP hD hS hA [0, 1] [] rfl rfl (by decide) (by decide) (fun r_7 u_7 H locs hw_7 hP hD hS => ?_)
  have hP : va_P D kl [(h, .inr (4, [.ref la, .ref sq, .ref ir])), (la, .inl (cI, 8, .inl (fun _ => (-1))))] H := hP
  have hD : va_D A [(h, .inr (4, [.ref la, .ref sq, .ref ir])), (la, .inl (cI, 8, .inl (fun _ => (-1))))] := hD
  obtain rfl : r_7 = 1 := by first | exact hw_7 | exact hw_7.trans (by decide)
  refine lv_if_ne (tgt := 21) hx hb dX5_howMany_15 (by decide) (fun _ => ?_) (fun c9 => absurd c9 (by decide))
  refine lv_iinc (v := 7) (lv' := [(2, .int 7), (1, .int 0), (0, .ref h)]) hx hb dX5_howMany_21 hl (k := 0) rfl (by decide) (by decide) rfl (fun ls hl => ?_)
  refine lv_goto (tgt := 4) hx hb dX5_howMany_24 (by decide) ?_
  refine lv_iload_n hx hb dX5_howMany_4 rfl (lv_at hl 0 rfl) ?_
  refine lv_bipush (v := 8) hx hb dX5_howMany_5 (by decide) ?_
  refine lv_icmp_ge (tgt := 27) hx hb dX5_howMany_7 (by decide) (fun c9 => absurd c9 (by decide)) (fun _ => ?_)
  refine lv_aload_n hx hb dX5_howMany_10 rfl (lv_at hl 2 rfl) ?_
  refine lv_iload_n hx hb dX5_howMany_11 rfl (lv_at hl 0 rfl) ?_
  have k_8 := (k_isMissing l D cI cB cQ H.size h la sq ir 7 ⟨by decide, by decide⟩)
  refine wc_i (WC := [(h, .inr (4, [.ref la, .ref sq, .ref ir])), (la, .inl (cI, 8, .inl (fun _ => (-1))))]) (WR := []) (va_runV (As := [.int 7]) (rest := []) ⟨hx, hb, hml, hown, hts⟩ k_8 (cwV 1 hts gX5_howMany_X5_isMissing rfl rfl rfl (by decide +kernel) ⟨Nat.le_of_ble_eq_true rfl, Nat.le_of_ble_eq_true rfl⟩) (wp_V hP hK hD hN [0, 1] (by decide) rfl (ci := 4) rfl rfl) rfl rfl hl.1 rfl (lv_room (Nat.le_of_ble_eq_true rfl)) dX5_howMany_12 ⟨Nat.le_of_ble_eq_true rfl, Nat.le_of_ble_eq_true rfl⟩) hP hD hS hA [0, 1] [] rfl rfl (by decide) (by decide) (fun r_8 u_8 H locs hw_8 hP hD hS => ?_)
  have hP : va_P D kl [(h, .inr (4, [.ref la, .ref sq, .ref ir])), (la, .inl (cI, 8, .inl (fun _ => (-1))))] H := hP
  have hD : va_D A [(h, .inr (4, [.ref la, .ref sq, .ref ir])), (la, .inl (cI, 8, .inl (fun _ => (-1))))] := hD
  obtain rfl : r_8 = 1 := by first | exact hw_8 | exact hw_8.trans (by decide)
  refine lv_if_ne (tgt := 21) hx hb dX5_howMany_15 (by decide) (fun _ => ?_) (fun c9 => absurd c9 (by decide))
  refine lv_iinc (v := 8) (lv' := [(2, .int 8), (1, .int 0), (0, .ref h)]) hx hb dX5_howMany_21 hl (k := 0) rfl (by decide) (by decide) rfl (fun ls hl => ?_)
  refine lv_goto (tgt := 4) hx hb dX5_howMany_24 (by decide) ?_
  refine lv_iload_n hx hb dX5_howMany_4 rfl (lv_at hl 0 rfl) ?_
  refine lv_bipush (v := 8) hx hb dX5_howMany_5 (by decide) ?_
  refine lv_icmp_ge (tgt := 27) hx hb dX5_howMany_7 (by decide) (fun _ => ?_) (fun c9 => absurd (by decide) c9)
  refine lv_iload_n hx hb dX5_howMany_27 rfl (lv_at hl 1 rfl) ?_
  exact wr_i (v := 0) hx hb hr hlocks hS () (by rfl) (hP.sub [] rfl) (hD.sub [] (by decide) rfl) dX5_howMany_28
set_option maxHeartbeats 4000000 in
set_option maxRecDepth 100000 in
theorem k_lay (l : Launch) (D : va_G) (cI cB cQ : ClassId) (sz : Nat) (h : Nat) (la : Nat) (sq : Nat) (ir : Nat) (v : Int32) (k : Int32) (n : Int32) (h0 : 0 ≤ v.toInt ∧ v.toInt ≤ 7) : mv l yX5_lay wsX5_lay ({ frames := 2, cells := 0, slots := 0, locals := 46 }) D cI cB cQ [.ref h, .int v, .int k, .int n] sz [(h, .inr (4, [.ref la, .ref sq, .ref ir])), (la, .inl (cI, 8, .inl (fun _ => (-1)))), (sq, .inl (cI, 8, .inl (fun _ => 0))), (ir, .inl (cI, 320, .inl (fun _ => 0)))] (fun (_u : Unit) => True) (fun _ => []) 0 0 := by
  refine wm_v (cc := cX5_lay) (maxL := 4) (ret := none) (by decide) rfl (Nat.le_of_ble_eq_true rfl) ?_
  intro p e s m below meth c A ls hx hb hr hml hown hts hlocks hin hP hK hD hN hA hl hS
  have hown : s.vm.findClass RX5 = some m.cls := hown
  have hl : lv_has ls 4 [(0, .ref h), (1, .int v), (2, .int k), (3, .int n)] := hl
  change W p l e ({ frames := 2, cells := 0, slots := 0, locals := 46 }) s m ([.ref h, .int v, .int k, .int n] : List Value).toArray below meth c s.heap [] 0 0 (MQ below (va_Qv (fun (_u : Unit) => True) (fun u t => wb D A ((fun _ => []) u) t) A) ([.ref h, .int v, .int k, .int n] : List Value).toArray s 0 0 A) (F0 m 0 ls [])
  refine lv_aload_n hx hb dX5_lay_0 rfl (lv_at hl 0 rfl) ?_
  refine va_get (D := D) (ci := 4) (v := .ref la) (C := RX5) (T := TX5) (N := 3) hx hb hts (fun _ h => List.mem_cons_of_mem _ (List.mem_append_right _ h)) hown hK hP 0 rfl rfl 0 (by decide) (hts (.fieldLink RX5 11 "WinterWalk$Rows" "lanes" "[I") (List.mem_of_getElem? (i := 1) rfl)) (fun _ h9 => h9) rfl dX5_lay_1 ?_
  refine lv_iload_n hx hb dX5_lay_4 rfl (lv_at hl 1 rfl) ?_
  refine lv_iload_n hx hb dX5_lay_5 rfl (lv_at hl 2 rfl) ?_
  refine va_iast hx hb hK hP hD hS 1 0 rfl rfl (zi_in (by omega) (by omega)) dX5_lay_6 (fun H locs hP hD hS => ?_)
  have hP : va_P D kl [(h, .inr (4, [.ref la, .ref sq, .ref ir])), (la, .inl (cI, 8, .inl (upd (fun _ => (-1)) (v : Int32).toNatClampNeg k))), (sq, .inl (cI, 8, .inl (fun _ => 0))), (ir, .inl (cI, 320, .inl (fun _ => 0)))] H := hP
  have hD : va_D A [(h, .inr (4, [.ref la, .ref sq, .ref ir])), (la, .inl (cI, 8, .inl (upd (fun _ => (-1)) (v : Int32).toNatClampNeg k))), (sq, .inl (cI, 8, .inl (fun _ => 0))), (ir, .inl (cI, 320, .inl (fun _ => 0)))] := hD
  refine lv_aload_n hx hb dX5_lay_7 rfl (lv_at hl 0 rfl) ?_
  refine va_get (D := D) (ci := 4) (v := .ref sq) (C := RX5) (T := TX5) (N := 3) hx hb hts (fun _ h => List.mem_cons_of_mem _ (List.mem_append_right _ h)) hown hK hP 0 rfl rfl 1 (by decide) (hts (.fieldLink RX5 15 "WinterWalk$Rows" "sizes" "[I") (List.mem_of_getElem? (i := 2) rfl)) (fun _ h9 => h9) rfl dX5_lay_8 ?_
  refine lv_iload_n hx hb dX5_lay_11 rfl (lv_at hl 1 rfl) ?_
  refine lv_iload_n hx hb dX5_lay_12 rfl (lv_at hl 3 rfl) ?_
  refine va_iast hx hb hK hP hD hS 2 0 rfl rfl (zi_in (by omega) (by omega)) dX5_lay_13 (fun H locs hP hD hS => ?_)
  have hP : va_P D kl [(h, .inr (4, [.ref la, .ref sq, .ref ir])), (la, .inl (cI, 8, .inl (upd (fun _ => (-1)) (v : Int32).toNatClampNeg k))), (sq, .inl (cI, 8, .inl (upd (fun _ => 0) (v : Int32).toNatClampNeg n))), (ir, .inl (cI, 320, .inl (fun _ => 0)))] H := hP
  have hD : va_D A [(h, .inr (4, [.ref la, .ref sq, .ref ir])), (la, .inl (cI, 8, .inl (upd (fun _ => (-1)) (v : Int32).toNatClampNeg k))), (sq, .inl (cI, 8, .inl (upd (fun _ => 0) (v : Int32).toNatClampNeg n))), (ir, .inl (cI, 320, .inl (fun _ => 0)))] := hD
  refine lv_aload_n hx hb dX5_lay_14 rfl (lv_at hl 0 rfl) ?_
  refine va_get (D := D) (ci := 4) (v := .ref ir) (C := RX5) (T := TX5) (N := 3) hx hb hts (fun _ h => List.mem_cons_of_mem _ (List.mem_append_right _ h)) hown hK hP 0 rfl rfl 2 (by decide) (hts (.fieldLink RX5 18 "WinterWalk$Rows" "items" "[I") (List.mem_of_getElem? (i := 3) rfl)) (fun _ h9 => h9) rfl dX5_lay_15 ?_
  refine lv_iload_n hx hb dX5_lay_18 rfl (lv_at hl 1 rfl) ?_
  refine lv_bipush (v := 40) hx hb dX5_lay_19 (by decide) ?_
  refine lv_imul hx hb dX5_lay_21 ?_
  refine lv_topi (fun x_1 ex_1 => ?_)
  have e_1 : x_1.toInt = v.toInt * 40 := by rw [ex_1]; exact zi_mul (rfl) (by decide) (by omega) (by omega)
  refine lv_iload_n hx hb dX5_lay_22 rfl (lv_at hl 1 rfl) ?_
  refine lv_iconst (v := 1) hx hb dX5_lay_23 (by decide) ?_
  refine lv_iadd hx hb dX5_lay_24 ?_
  refine lv_topi (fun x_2 ex_2 => ?_)
  have e_2 : x_2.toInt = v.toInt + 1 := by rw [ex_2]; exact zi_add (rfl) (by decide) (by omega) (by omega)
  refine lv_bipush (v := 40) hx hb dX5_lay_25 (by decide) ?_
  refine lv_imul hx hb dX5_lay_27 ?_
  refine lv_topi (fun x_3 ex_3 => ?_)
  have e_3 : x_3.toInt = x_2.toInt * 40 := by rw [ex_3]; exact zi_mul (rfl) (by decide) (by omega) (by omega)
  refine lv_iconst (v := 0) hx hb dX5_lay_28 (by decide) ?_
  have k_4 := (k_fill4 l D cI cB cQ H.size ir (fun _ => 0) x_1 x_3 0 (by omega) (by omega) (by omega))
  refine wc_v (WC := [(ir, .inl (cI, 320, .inl (fun _ => 0)))]) (WR := [(h, .inr (4, [.ref la, .ref sq, .ref ir])), (la, .inl (cI, 8, .inl (upd (fun _ => (-1)) (v : Int32).toNatClampNeg k))), (sq, .inl (cI, 8, .inl (upd (fun _ => 0) (v : Int32).toNatClampNeg n)))]) (va_runS (As := [.ref ir, .int x_1, .int x_3, .int 0]) (rest := []) ⟨hx, hb, hml, hown, hts⟩ k_4 (va_cwS 4 hts gX5_lay_J7_fill_fda19 rfl rfl rfl (by decide +kernel) ⟨Nat.le_of_ble_eq_true rfl, Nat.le_of_ble_eq_true rfl⟩) (wp_S hP hK hD hN [3] (by decide) rfl) rfl rfl hl.1 rfl (lv_room (Nat.le_of_ble_eq_true rfl)) dX5_lay_29 ⟨Nat.le_of_ble_eq_true rfl, Nat.le_of_ble_eq_true rfl⟩) hP hD hS hA [3] [0, 1, 2] rfl rfl (by decide) (by decide) (fun u_4 H locs hw_4 hP hD hS => ?_)
  have hP : va_P D kl [(h, .inr (4, [.ref la, .ref sq, .ref ir])), (la, .inl (cI, 8, .inl (upd (fun _ => (-1)) (v : Int32).toNatClampNeg k))), (sq, .inl (cI, 8, .inl (upd (fun _ => 0) (v : Int32).toNatClampNeg n)))] H := hP
  have hD : va_D A [(h, .inr (4, [.ref la, .ref sq, .ref ir])), (la, .inl (cI, 8, .inl (upd (fun _ => (-1)) (v : Int32).toNatClampNeg k))), (sq, .inl (cI, 8, .inl (upd (fun _ => 0) (v : Int32).toNatClampNeg n)))] := hD
  exact wr_v hx hb hr hlocks hS () (by trivial) (hP.sub [] rfl) (hD.sub [] (by decide) rfl) dX5_lay_32
set_option maxHeartbeats 4000000 in
set_option maxRecDepth 100000 in
theorem k_troubleWith (l : Launch) (D : va_G) (cI cB cQ : ClassId) (sz : Nat) (h : Nat) (la : Nat) (sq : Nat) (ir : Nat) (v : Int32) (i : Int32) (n : Int32) (h0 : 0 ≤ v.toInt ∧ v.toInt ≤ 7) : mi l yX5_troubleWith wsX5_troubleWith ({ frames := 1, cells := 0, slots := 0, locals := 21 }) D cI cB cQ [.ref h, .int v, .int i, .int n] sz [(h, .inr (4, [.ref la, .ref sq, .ref ir])), (la, .inl (cI, 8, .inl (fun _ => (-1))))] (fun (r : Int32) (_u : Unit) => r = 1) (fun _ => []) 0 0 := by
  refine wm_i (cc := cX5_troubleWith) (maxL := 4) (ret := (some .int)) (by decide) rfl (Nat.le_of_ble_eq_true rfl) ?_
  intro p e s m below meth c A ls hx hb hr hml hown hts hlocks hin hP hK hD hN hA hl hS
  have hown : s.vm.findClass RX5 = some m.cls := hown
  have hl : lv_has ls 4 [(0, .ref h), (1, .int v), (2, .int i), (3, .int n)] := hl
  change W p l e ({ frames := 1, cells := 0, slots := 0, locals := 21 }) s m ([.ref h, .int v, .int i, .int n] : List Value).toArray below meth c s.heap [] 0 0 (MQ below (va_Qi (fun (r : Int32) (_u : Unit) => r = 1) (fun u t => wb D A ((fun _ => []) u) t) A) ([.ref h, .int v, .int i, .int n] : List Value).toArray s 0 0 A) (F0 m 0 ls [])
  refine lv_aload_n hx hb dX5_troubleWith_0 rfl (lv_at hl 0 rfl) ?_
  refine lv_iload_n hx hb dX5_troubleWith_1 rfl (lv_at hl 1 rfl) ?_
  have k_1 := (k_isMissing l D cI cB cQ s.heap.size h la sq ir v (by omega))
  refine wc_i (WC := [(h, .inr (4, [.ref la, .ref sq, .ref ir])), (la, .inl (cI, 8, .inl (fun _ => (-1))))]) (WR := []) (va_runV (As := [.int v]) (rest := []) ⟨hx, hb, hml, hown, hts⟩ k_1 (cwV 1 hts gX5_troubleWith_X5_isMissing rfl rfl rfl (by decide +kernel) ⟨Nat.le_of_ble_eq_true rfl, Nat.le_of_ble_eq_true rfl⟩) (wp_V hP hK hD hN [0, 1] (by decide) rfl (ci := 4) rfl rfl) rfl rfl hl.1 rfl (lv_room (Nat.le_of_ble_eq_true rfl)) dX5_troubleWith_2 ⟨Nat.le_of_ble_eq_true rfl, Nat.le_of_ble_eq_true rfl⟩) hP hD hS hA [0, 1] [] rfl rfl (by decide) (by decide) (fun r_1 u_1 H locs hw_1 hP hD hS => ?_)
  have hP : va_P D kl [(h, .inr (4, [.ref la, .ref sq, .ref ir])), (la, .inl (cI, 8, .inl (fun _ => (-1))))] H := hP
  have hD : va_D A [(h, .inr (4, [.ref la, .ref sq, .ref ir])), (la, .inl (cI, 8, .inl (fun _ => (-1))))] := hD
  obtain rfl : r_1 = 1 := by first | exact hw_1 | exact hw_1.trans (by decide)
  refine lv_if_eq (tgt := 10) hx hb dX5_troubleWith_5 (by decide) (fun c9 => absurd c9 (by decide)) (fun _ => ?_)
  refine lv_iconst (v := 1) hx hb dX5_troubleWith_8 (by decide) ?_
  exact wr_i (v := 1) hx hb hr hlocks hS () (by rfl) (hP.sub [] rfl) (hD.sub [] (by decide) rfl) dX5_troubleWith_9
set_option maxHeartbeats 4000000 in
set_option maxRecDepth 100000 in
theorem k_troubleBetween (l : Launch) (D : va_G) (cI cB cQ : ClassId) (sz : Nat) (h : Nat) (la : Nat) (sq : Nat) (ir : Nat) (v : Int32) (i : Int32) (b : Int32) (j : Int32) (n : Int32) (h0 : 0 ≤ v.toInt ∧ v.toInt ≤ 7) : mi l yX5_troubleBetween wsX5_troubleBetween ({ frames := 1, cells := 0, slots := 0, locals := 21 }) D cI cB cQ [.ref h, .int v, .int i, .int b, .int j, .int n] sz [(h, .inr (4, [.ref la, .ref sq, .ref ir])), (la, .inl (cI, 8, .inl (fun _ => (-1))))] (fun (r : Int32) (_u : Unit) => r = 1) (fun _ => []) 0 0 := by
  refine wm_i (cc := cX5_troubleBetween) (maxL := 6) (ret := (some .int)) (by decide) rfl (Nat.le_of_ble_eq_true rfl) ?_
  intro p e s m below meth c A ls hx hb hr hml hown hts hlocks hin hP hK hD hN hA hl hS
  have hown : s.vm.findClass RX5 = some m.cls := hown
  have hl : lv_has ls 6 [(0, .ref h), (1, .int v), (2, .int i), (3, .int b), (4, .int j), (5, .int n)] := hl
  change W p l e ({ frames := 1, cells := 0, slots := 0, locals := 21 }) s m ([.ref h, .int v, .int i, .int b, .int j, .int n] : List Value).toArray below meth c s.heap [] 0 0 (MQ below (va_Qi (fun (r : Int32) (_u : Unit) => r = 1) (fun u t => wb D A ((fun _ => []) u) t) A) ([.ref h, .int v, .int i, .int b, .int j, .int n] : List Value).toArray s 0 0 A) (F0 m 0 ls [])
  refine lv_aload_n hx hb dX5_troubleBetween_0 rfl (lv_at hl 0 rfl) ?_
  refine lv_iload_n hx hb dX5_troubleBetween_1 rfl (lv_at hl 1 rfl) ?_
  have k_1 := (k_isMissing l D cI cB cQ s.heap.size h la sq ir v (by omega))
  refine wc_i (WC := [(h, .inr (4, [.ref la, .ref sq, .ref ir])), (la, .inl (cI, 8, .inl (fun _ => (-1))))]) (WR := []) (va_runV (As := [.int v]) (rest := []) ⟨hx, hb, hml, hown, hts⟩ k_1 (cwV 1 hts gX5_troubleBetween_X5_isMissing rfl rfl rfl (by decide +kernel) ⟨Nat.le_of_ble_eq_true rfl, Nat.le_of_ble_eq_true rfl⟩) (wp_V hP hK hD hN [0, 1] (by decide) rfl (ci := 4) rfl rfl) rfl rfl hl.1 rfl (lv_room (Nat.le_of_ble_eq_true rfl)) dX5_troubleBetween_2 ⟨Nat.le_of_ble_eq_true rfl, Nat.le_of_ble_eq_true rfl⟩) hP hD hS hA [0, 1] [] rfl rfl (by decide) (by decide) (fun r_1 u_1 H locs hw_1 hP hD hS => ?_)
  have hP : va_P D kl [(h, .inr (4, [.ref la, .ref sq, .ref ir])), (la, .inl (cI, 8, .inl (fun _ => (-1))))] H := hP
  have hD : va_D A [(h, .inr (4, [.ref la, .ref sq, .ref ir])), (la, .inl (cI, 8, .inl (fun _ => (-1))))] := hD
  obtain rfl : r_1 = 1 := by first | exact hw_1 | exact hw_1.trans (by decide)
  refine lv_if_ne (tgt := 16) hx hb dX5_troubleBetween_5 (by decide) (fun _ => ?_) (fun c9 => absurd c9 (by decide))
  refine lv_iconst (v := 1) hx hb dX5_troubleBetween_16 (by decide) ?_
  exact wr_i (v := 1) hx hb hr hlocks hS () (by rfl) (hP.sub [] rfl) (hD.sub [] (by decide) rfl) dX5_troubleBetween_17
