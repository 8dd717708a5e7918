set_option maxHeartbeats 4000000 in
set_option maxRecDepth 100000 in
theorem g_X7_isFrom (l : Launch) (D : va_G) (cI cB cQ : ClassId) (sz : Nat) (a : Int32) (v : Int32) (b : Int32) : mi l yX7_isFrom wsX7_isFrom ({ frames := 0, cells := 0, slots := 0, locals := 0 }) D cI cB cQ [.int a, .int v, .int b] sz [] (fun (r : Int32) (_u : Unit) => ((r = 1 ∧ a.toInt ≤ v.toInt ∧ v.toInt ≤ b.toInt) ∨ (r = 0 ∧ ¬ (a.toInt ≤ v.toInt ∧ v.toInt ≤ b.toInt)))) (fun _ => []) 0 0 := by
  refine wm_i (cc := cX7_isFrom) (maxL := 3) (ret := (some .boolean)) (by decide) rfl (Nat.le_of_ble_eq_true rfl) ?_
  intro p e s m below meth c A ls hx hb hr hml hown hts hlocks hin hP hK hD hN hA hl hS
  have hown : s.vm.findClass RX7 = some m.cls := hown
  have hl : lv_has ls 3 [(0, .int a), (1, .int v), (2, .int b)] := hl
  change W p l e ({ frames := 0, cells := 0, slots := 0, locals := 0 }) s m ([.int a, .int v, .int b] : List Value).toArray below meth c s.heap [] 0 0 (MQ below (va_Qi (fun (r : Int32) (_u : Unit) => ((r = 1 ∧ a.toInt ≤ v.toInt ∧ v.toInt ≤ b.toInt) ∨ (r = 0 ∧ ¬ (a.toInt ≤ v.toInt ∧ v.toInt ≤ b.toInt)))) (fun u t => wb D A ((fun _ => []) u) t) A) ([.int a, .int v, .int b] : List Value).toArray s 0 0 A) (F0 m 0 ls [])
  refine lv_iload_n hx hb dX7_isFrom_0 rfl (lv_at hl 0 rfl) ?_
  refine lv_iload_n hx hb dX7_isFrom_1 rfl (lv_at hl 1 rfl) ?_
  refine lv_icmp_gt (tgt := 14) hx hb dX7_isFrom_2 (by decide) (fun c_1 => ?_) (fun c_1 => ?_)
  · have f_1 : v.toInt < a.toInt := zi_lt c_1
    refine lv_iconst (v := 0) hx hb dX7_isFrom_14 (by decide) ?_
    exact wr_z (v := 0) hx hb hr hlocks hS () (by exact Or.inr (⟨rfl, show ¬ (a.toInt ≤ v.toInt ∧ v.toInt ≤ b.toInt) from by omega⟩)) (hP.sub [] rfl) (hD.sub [] (by decide) rfl) dX7_isFrom_15 rfl
  · have f_1 : ¬ v.toInt < a.toInt := zi_nlt c_1
    refine lv_iload_n hx hb dX7_isFrom_5 rfl (lv_at hl 1 rfl) ?_
    refine lv_iload_n hx hb dX7_isFrom_6 rfl (lv_at hl 2 rfl) ?_
    refine lv_icmp_gt (tgt := 14) hx hb dX7_isFrom_7 (by decide) (fun c_2 => ?_) (fun c_2 => ?_)
    · have f_2 : b.toInt < v.toInt := zi_lt c_2
      refine lv_iconst (v := 0) hx hb dX7_isFrom_14 (by decide) ?_
      exact wr_z (v := 0) hx hb hr hlocks hS () (by exact Or.inr (⟨rfl, show ¬ (a.toInt ≤ v.toInt ∧ v.toInt ≤ b.toInt) from by omega⟩)) (hP.sub [] rfl) (hD.sub [] (by decide) rfl) dX7_isFrom_15 rfl
    · have f_2 : ¬ b.toInt < v.toInt := zi_nlt c_2
      refine lv_iconst (v := 1) hx hb dX7_isFrom_10 (by decide) ?_
      refine lv_goto (tgt := 15) hx hb dX7_isFrom_11 (by decide) ?_
      exact wr_z (v := 1) hx hb hr hlocks hS () (by exact Or.inl ⟨rfl, show a.toInt ≤ v.toInt ∧ v.toInt ≤ b.toInt from by omega⟩) (hP.sub [] rfl) (hD.sub [] (by decide) rfl) dX7_isFrom_15 rfl
set_option maxHeartbeats 4000000 in
set_option maxRecDepth 100000 in
theorem g_X4_hasVillage (l : Launch) (D : va_G) (cI cB cQ : ClassId) (sz : Nat) (h : Nat) (w0 : Nat) (w1 : Nat) (w2 : Nat) (w3 : Nat) (w4 : Nat) (w5 : Nat) (w6 : Nat) (w7 : Nat) (vi : Int32) (ro : Int32) (wa : Int32) (lz : Int32) (ds : Int32) (dy : Int32) (ga : Int32) (pa : Int32) (v : Int32) : mi l yX4_hasVillage wsX4_hasVillage ({ frames := 0, cells := 0, slots := 0, locals := 0 }) D cI cB cQ [.ref h, .int v] sz [(h, .inr (3, [.int vi, .int ro, .int wa, .int lz, .int ds, .int dy, .int ga, .int pa, .ref w0, .ref w1, .ref w2, .ref w3, .ref w4, .ref w5, .ref w6, .ref w7]))] (fun (r : Int32) (_u : Unit) => ((r = 1 ∧ 0 ≤ v.toInt ∧ v.toInt < vi.toInt) ∨ (r = 0 ∧ ¬ (0 ≤ v.toInt ∧ v.toInt < vi.toInt)))) (fun _ => [(h, .inr (3, [.int vi, .int ro, .int wa, .int lz, .int ds, .int dy, .int ga, .int pa, .ref w0, .ref w1, .ref w2, .ref w3, .ref w4, .ref w5, .ref w6, .ref w7]))]) 0 0 := by
  refine wm_i (cc := cX4_hasVillage) (maxL := 2) (ret := (some .boolean)) (by decide) rfl (Nat.le_of_ble_eq_true rfl) ?_
  intro p e s m below meth c A ls hx hb hr hml hown hts hlocks hin hP hK hD hN hA hl hS
  have hown : s.vm.findClass RX4 = some m.cls := hown
  have hl : lv_has ls 2 [(0, .ref h), (1, .int v)] := hl
  change W p l e ({ frames := 0, cells := 0, slots := 0, locals := 0 }) s m ([.ref h, .int v] : List Value).toArray below meth c s.heap [] 0 0 (MQ below (va_Qi (fun (r : Int32) (_u : Unit) => ((r = 1 ∧ 0 ≤ v.toInt ∧ v.toInt < vi.toInt) ∨ (r = 0 ∧ ¬ (0 ≤ v.toInt ∧ v.toInt < vi.toInt)))) (fun u t => wb D A ((fun _ => [(h, .inr (3, [.int vi, .int ro, .int wa, .int lz, .int ds, .int dy, .int ga, .int pa, .ref w0, .ref w1, .ref w2, .ref w3, .ref w4, .ref w5, .ref w6, .ref w7]))]) u) t) A) ([.ref h, .int v] : List Value).toArray s 0 0 A) (F0 m 0 ls [])
  refine lv_iload_n hx hb dX4_hasVillage_0 rfl (lv_at hl 1 rfl) ?_
  refine lv_if_lt (tgt := 16) hx hb dX4_hasVillage_1 (by decide) (fun c_1 => ?_) (fun c_1 => ?_)
  · have f_1 : v.toInt < 0 := zi_lt c_1
    refine lv_iconst (v := 0) hx hb dX4_hasVillage_16 (by decide) ?_
    exact wr_z (v := 0) hx hb hr hlocks hS () (by exact Or.inr (⟨rfl, show ¬ (0 ≤ v.toInt ∧ v.toInt < vi.toInt) from by omega⟩)) (hP.sub [0] rfl) (hD.sub [0] (by decide) rfl) dX4_hasVillage_17 rfl
  · have f_1 : ¬ v.toInt < 0 := zi_nlt c_1
    refine lv_iload_n hx hb dX4_hasVillage_4 rfl (lv_at hl 1 rfl) ?_
    refine lv_aload_n hx hb dX4_hasVillage_5 rfl (lv_at hl 0 rfl) ?_
    refine va_get (D := D) (ci := 3) (v := .int vi) (C := RX4) (T := TX4) (N := 16) hx hb hts (fun _ h => List.mem_cons_of_mem _ (List.mem_append_right _ h)) hown hK hP 0 rfl rfl 0 (by decide) (hts (.fieldLink RX4 9 "WinterWalk$Land" "villages" "I") (List.mem_of_getElem? (i := 1) rfl)) (fun _ h9 => h9) rfl dX4_hasVillage_6 ?_
    refine lv_icmp_ge (tgt := 16) hx hb dX4_hasVillage_9 (by decide) (fun c_2 => ?_) (fun c_2 => ?_)
    · have f_2 : vi.toInt ≤ v.toInt := zi_le c_2
      refine lv_iconst (v := 0) hx hb dX4_hasVillage_16 (by decide) ?_
      exact wr_z (v := 0) hx hb hr hlocks hS () (by exact Or.inr (⟨rfl, show ¬ (0 ≤ v.toInt ∧ v.toInt < vi.toInt) from by omega⟩)) (hP.sub [0] rfl) (hD.sub [0] (by decide) rfl) dX4_hasVillage_17 rfl
    · have f_2 : ¬ vi.toInt ≤ v.toInt := zi_nle c_2
      refine lv_iconst (v := 1) hx hb dX4_hasVillage_12 (by decide) ?_
      refine lv_goto (tgt := 17) hx hb dX4_hasVillage_13 (by decide) ?_
      exact wr_z (v := 1) hx hb hr hlocks hS () (by exact Or.inl ⟨rfl, show 0 ≤ v.toInt ∧ v.toInt < vi.toInt from by omega⟩) (hP.sub [0] rfl) (hD.sub [0] (by decide) rfl) dX4_hasVillage_17 rfl
