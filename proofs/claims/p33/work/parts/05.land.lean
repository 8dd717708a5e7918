set_option maxHeartbeats 4000000 in
set_option maxRecDepth 100000 in
theorem g_X7_isFrom (l : Launch) (D : va_G) (cI cB cQ : ClassId) (sz : Nat) (a : Int32) (v : Int32) (b : Int32) : mi l yX7_isFrom wsX7_isFrom ({ frames := 0, cells := 0, slots := 0, locals := 0 }) D cI cB cQ [.int a, .int v, .int b] sz [] (fun (r : Int32) (_u : Unit) => ((r = 1 ∧ a.toInt ≤ v.toInt ∧ v.toInt ≤ b.toInt) ∨ (r = 0 ∧ ¬ (a.toInt ≤ v.toInt ∧ v.toInt ≤ b.toInt)))) (fun _ => []) 0 0 := by
  refine wm_i (cc := cX7_isFrom) (maxL := 3) (ret := (some .boolean)) (by decide) rfl (Nat.le_of_ble_eq_true rfl) ?_
  intro p e s m below meth c A ls hx hb hr hml hown hts hlocks hin hP hK hD hN hA hl hS
  have hown : s.vm.findClass RX7 = some m.cls := hown
  have hl : lv_has ls 3 [(0, .int a), (1, .int v), (2, .int b)] := hl
  change W p l e ({ frames := 0, cells := 0, slots := 0, locals := 0 }) s m ([.int a, .int v, .int b] : List Value).toArray below meth c s.heap [] 0 0 (MQ below (va_Qi (fun (r : Int32) (_u : Unit) => ((r = 1 ∧ a.toInt ≤ v.toInt ∧ v.toInt ≤ b.toInt) ∨ (r = 0 ∧ ¬ (a.toInt ≤ v.toInt ∧ v.toInt ≤ b.toInt)))) (fun u t => wb D A ((fun _ => []) u) t) A) ([.int a, .int v, .int b] : List Value).toArray s 0 0 A) (F0 m 0 ls [])
  refine lv_iload_n hx hb dX7_isFrom_0 rfl (lv_at hl 0 rfl) ?_
  refine lv_iload_n hx hb dX7_isFrom_1 rfl (lv_at hl 1 rfl) ?_
  refine lv_icmp_gt (tgt := 14) hx hb dX7_isFrom_2 (by decide) (fun c_1 => ?_) (fun c_1 => ?_)
  · have f_1 : v.toInt < a.toInt := zi_lt c_1
    refine lv_iconst (v := 0) hx hb dX7_isFrom_14 (by decide) ?_
    exact wr_z (v := 0) hx hb hr hlocks hS () (by exact Or.inr (⟨rfl, show ¬ (a.toInt ≤ v.toInt ∧ v.toInt ≤ b.toInt) from by omega⟩)) (hP.sub [] rfl) (hD.sub [] (by decide) rfl) dX7_isFrom_15 rfl
  · have f_1 : ¬ v.toInt < a.toInt := zi_nlt c_1
    refine lv_iload_n hx hb dX7_isFrom_5 rfl (lv_at hl 1 rfl) ?_
    refine lv_iload_n hx hb dX7_isFrom_6 rfl (lv_at hl 2 rfl) ?_
    refine lv_icmp_gt (tgt := 14) hx hb dX7_isFrom_7 (by decide) (fun c_2 => ?_) (fun c_2 => ?_)
    · have f_2 : b.toInt < v.toInt := zi_lt c_2
      refine lv_iconst (v := 0) hx hb dX7_isFrom_14 (by decide) ?_
      exact wr_z (v := 0) hx hb hr hlocks hS () (by exact Or.inr (⟨rfl, show ¬ (a.toInt ≤ v.toInt ∧ v.toInt ≤ b.toInt) from by omega⟩)) (hP.sub [] rfl) (hD.sub [] (by decide) rfl) dX7_isFrom_15 rfl
    · have f_2 : ¬ b.toInt < v.toInt := zi_nlt c_2
      refine lv_iconst (v := 1) hx hb dX7_isFrom_10 (by decide) ?_
      refine lv_goto (tgt := 15) hx hb dX7_isFrom_11 (by decide) ?_
      exact wr_z (v := 1) hx hb hr hlocks hS () (by exact Or.inl ⟨rfl, show a.toInt ≤ v.toInt ∧ v.toInt ≤ b.toInt from by omega⟩) (hP.sub [] rfl) (hD.sub [] (by decide) rfl) dX7_isFrom_15 rfl
set_option maxHeartbeats 4000000 in
set_option maxRecDepth 100000 in
theorem g_X4_isNone (l : Launch) (D : va_G) (cI cB cQ : ClassId) (sz : Nat) (h : Nat) (w0 : Nat) (w1 : Nat) (w2 : Nat) (w3 : Nat) (w4 : Nat) (w5 : Nat) (w6 : Nat) (w7 : Nat) (vi : Int32) (ro : Int32) (wa : Int32) (lz : Int32) (ds : Int32) (dy : Int32) (ga : Int32) (pa : Int32) : mi l yX4_isNone wsX4_isNone ({ frames := 0, cells := 0, slots := 0, locals := 0 }) D cI cB cQ [.ref h] sz [(h, .inr (3, [.int vi, .int ro, .int wa, .int lz, .int ds, .int dy, .int ga, .int pa, .ref w0, .ref w1, .ref w2, .ref w3, .ref w4, .ref w5, .ref w6, .ref w7]))] (fun (r : Int32) (_u : Unit) => ((r = 1 ∧ vi.toInt = 0) ∨ (r = 0 ∧ ¬ vi.toInt = 0))) (fun _ => [(h, .inr (3, [.int vi, .int ro, .int wa, .int lz, .int ds, .int dy, .int ga, .int pa, .ref w0, .ref w1, .ref w2, .ref w3, .ref w4, .ref w5, .ref w6, .ref w7]))]) 0 0 := by
  refine wm_i (cc := cX4_isNone) (maxL := 1) (ret := (some .boolean)) (by decide) rfl (Nat.le_of_ble_eq_true rfl) ?_
  intro p e s m below meth c A ls hx hb hr hml hown hts hlocks hin hP hK hD hN hA hl hS
  have hown : s.vm.findClass RX4 = some m.cls := hown
  have hl : lv_has ls 1 [(0, .ref h)] := hl
  change W p l e ({ frames := 0, cells := 0, slots := 0, locals := 0 }) s m ([.ref h] : List Value).toArray below meth c s.heap [] 0 0 (MQ below (va_Qi (fun (r : Int32) (_u : Unit) => ((r = 1 ∧ vi.toInt = 0) ∨ (r = 0 ∧ ¬ vi.toInt = 0))) (fun u t => wb D A ((fun _ => [(h, .inr (3, [.int vi, .int ro, .int wa, .int lz, .int ds, .int dy, .int ga, .int pa, .ref w0, .ref w1, .ref w2, .ref w3, .ref w4, .ref w5, .ref w6, .ref w7]))]) u) t) A) ([.ref h] : List Value).toArray s 0 0 A) (F0 m 0 ls [])
  refine lv_aload_n hx hb dX4_isNone_0 rfl (lv_at hl 0 rfl) ?_
  refine va_get (D := D) (ci := 3) (v := .int vi) (C := RX4) (T := TX4) (N := 16) hx hb hts (fun _ h => List.mem_cons_of_mem _ (List.mem_append_right _ h)) hown hK hP 0 rfl rfl 0 (by decide) (hts (.fieldLink RX4 9 "WinterWalk$Land" "villages" "I") (List.mem_of_getElem? (i := 1) rfl)) (fun _ h9 => h9) rfl dX4_isNone_1 ?_
  refine lv_if_ne (tgt := 11) hx hb dX4_isNone_4 (by decide) (fun c_1 => ?_) (fun c_1 => ?_)
  · have f_1 : ¬ vi.toInt = 0 := zi_ne c_1
    refine lv_iconst (v := 0) hx hb dX4_isNone_11 (by decide) ?_
    exact wr_z (v := 0) hx hb hr hlocks hS () (by exact Or.inr (⟨rfl, show ¬ vi.toInt = 0 from by omega⟩)) (hP.sub [0] rfl) (hD.sub [0] (by decide) rfl) dX4_isNone_12 rfl
  · have f_1 : vi.toInt = 0 := zi_eq c_1
    refine lv_iconst (v := 1) hx hb dX4_isNone_7 (by decide) ?_
    refine lv_goto (tgt := 12) hx hb dX4_isNone_8 (by decide) ?_
    exact wr_z (v := 1) hx hb hr hlocks hS () (by exact Or.inl ⟨rfl, show vi.toInt = 0 from by omega⟩) (hP.sub [0] rfl) (hD.sub [0] (by decide) rfl) dX4_isNone_12 rfl
set_option maxHeartbeats 4000000 in
set_option maxRecDepth 100000 in
theorem g_X4_hasVillage (l : Launch) (D : va_G) (cI cB cQ : ClassId) (sz : Nat) (h : Nat) (w0 : Nat) (w1 : Nat) (w2 : Nat) (w3 : Nat) (w4 : Nat) (w5 : Nat) (w6 : Nat) (w7 : Nat) (vi : Int32) (ro : Int32) (wa : Int32) (lz : Int32) (ds : Int32) (dy : Int32) (ga : Int32) (pa : Int32) (v : Int32) : mi l yX4_hasVillage wsX4_hasVillage ({ frames := 0, cells := 0, slots := 0, locals := 0 }) D cI cB cQ [.ref h, .int v] sz [(h, .inr (3, [.int vi, .int ro, .int wa, .int lz, .int ds, .int dy, .int ga, .int pa, .ref w0, .ref w1, .ref w2, .ref w3, .ref w4, .ref w5, .ref w6, .ref w7]))] (fun (r : Int32) (_u : Unit) => ((r = 1 ∧ 0 ≤ v.toInt ∧ v.toInt < vi.toInt) ∨ (r = 0 ∧ ¬ (0 ≤ v.toInt ∧ v.toInt < vi.toInt)))) (fun _ => [(h, .inr (3, [.int vi, .int ro, .int wa, .int lz, .int ds, .int dy, .int ga, .int pa, .ref w0, .ref w1, .ref w2, .ref w3, .ref w4, .ref w5, .ref w6, .ref w7]))]) 0 0 := by
  refine wm_i (cc := cX4_hasVillage) (maxL := 2) (ret := (some .boolean)) (by decide) rfl (Nat.le_of_ble_eq_true rfl) ?_
  intro p e s m below meth c A ls hx hb hr hml hown hts hlocks hin hP hK hD hN hA hl hS
  have hown : s.vm.findClass RX4 = some m.cls := hown
  have hl : lv_has ls 2 [(0, .ref h), (1, .int v)] := hl
  change W p l e ({ frames := 0, cells := 0, slots := 0, locals := 0 }) s m ([.ref h, .int v] : List Value).toArray below meth c s.heap [] 0 0 (MQ below (va_Qi (fun (r : Int32) (_u : Unit) => ((r = 1 ∧ 0 ≤ v.toInt ∧ v.toInt < vi.toInt) ∨ (r = 0 ∧ ¬ (0 ≤ v.toInt ∧ v.toInt < vi.toInt)))) (fun u t => wb D A ((fun _ => [(h, .inr (3, [.int vi, .int ro, .int wa, .int lz, .int ds, .int dy, .int ga, .int pa, .ref w0, .ref w1, .ref w2, .ref w3, .ref w4, .ref w5, .ref w6, .ref w7]))]) u) t) A) ([.ref h, .int v] : List Value).toArray s 0 0 A) (F0 m 0 ls [])
  refine lv_iload_n hx hb dX4_hasVillage_0 rfl (lv_at hl 1 rfl) ?_
  refine lv_if_lt (tgt := 16) hx hb dX4_hasVillage_1 (by decide) (fun c_1 => ?_) (fun c_1 => ?_)
  · have f_1 : v.toInt < 0 := zi_lt c_1
    refine lv_iconst (v := 0) hx hb dX4_hasVillage_16 (by decide) ?_
    exact wr_z (v := 0) hx hb hr hlocks hS () (by exact Or.inr (⟨rfl, show ¬ (0 ≤ v.toInt ∧ v.toInt < vi.toInt) from by omega⟩)) (hP.sub [0] rfl) (hD.sub [0] (by decide) rfl) dX4_hasVillage_17 rfl
  · have f_1 : ¬ v.toInt < 0 := zi_nlt c_1
    refine lv_iload_n hx hb dX4_hasVillage_4 rfl (lv_at hl 1 rfl) ?_
    refine lv_aload_n hx hb dX4_hasVillage_5 rfl (lv_at hl 0 rfl) ?_
    refine va_get (D := D) (ci := 3) (v := .int vi) (C := RX4) (T := TX4) (N := 16) hx hb hts (fun _ h => List.mem_cons_of_mem _ (List.mem_append_right _ h)) hown hK hP 0 rfl rfl 0 (by decide) (hts (.fieldLink RX4 9 "WinterWalk$Land" "villages" "I") (List.mem_of_getElem? (i := 1) rfl)) (fun _ h9 => h9) rfl dX4_hasVillage_6 ?_
    refine lv_icmp_ge (tgt := 16) hx hb dX4_hasVillage_9 (by decide) (fun c_2 => ?_) (fun c_2 => ?_)
    · have f_2 : vi.toInt ≤ v.toInt := zi_le c_2
      refine lv_iconst (v := 0) hx hb dX4_hasVillage_16 (by decide) ?_
      exact wr_z (v := 0) hx hb hr hlocks hS () (by exact Or.inr (⟨rfl, show ¬ (0 ≤ v.toInt ∧ v.toInt < vi.toInt) from by omega⟩)) (hP.sub [0] rfl) (hD.sub [0] (by decide) rfl) dX4_hasVillage_17 rfl
    · have f_2 : ¬ vi.toInt ≤ v.toInt := zi_nle c_2
      refine lv_iconst (v := 1) hx hb dX4_hasVillage_12 (by decide) ?_
      refine lv_goto (tgt := 17) hx hb dX4_hasVillage_13 (by decide) ?_
      exact wr_z (v := 1) hx hb hr hlocks hS () (by exact Or.inl ⟨rfl, show 0 ≤ v.toInt ∧ v.toInt < vi.toInt from by omega⟩) (hP.sub [0] rfl) (hD.sub [0] (by decide) rfl) dX4_hasVillage_17 rfl
set_option maxHeartbeats 4000000 in
set_option maxRecDepth 100000 in
theorem g_X4_hasWalker (l : Launch) (D : va_G) (cI cB cQ : ClassId) (sz : Nat) (h : Nat) (w0 : Nat) (w1 : Nat) (w2 : Nat) (w3 : Nat) (w4 : Nat) (w5 : Nat) (w6 : Nat) (w7 : Nat) (vi : Int32) (ro : Int32) (wa : Int32) (lz : Int32) (ds : Int32) (dy : Int32) (ga : Int32) (pa : Int32) (v : Int32) : mi l yX4_hasWalker wsX4_hasWalker ({ frames := 0, cells := 0, slots := 0, locals := 0 }) D cI cB cQ [.ref h, .int v] sz [(h, .inr (3, [.int vi, .int ro, .int wa, .int lz, .int ds, .int dy, .int ga, .int pa, .ref w0, .ref w1, .ref w2, .ref w3, .ref w4, .ref w5, .ref w6, .ref w7]))] (fun (r : Int32) (_u : Unit) => ((r = 1 ∧ 0 ≤ v.toInt ∧ v.toInt < wa.toInt) ∨ (r = 0 ∧ ¬ (0 ≤ v.toInt ∧ v.toInt < wa.toInt)))) (fun _ => [(h, .inr (3, [.int vi, .int ro, .int wa, .int lz, .int ds, .int dy, .int ga, .int pa, .ref w0, .ref w1, .ref w2, .ref w3, .ref w4, .ref w5, .ref w6, .ref w7]))]) 0 0 := by
  refine wm_i (cc := cX4_hasWalker) (maxL := 2) (ret := (some .boolean)) (by decide) rfl (Nat.le_of_ble_eq_true rfl) ?_
  intro p e s m below meth c A ls hx hb hr hml hown hts hlocks hin hP hK hD hN hA hl hS
  have hown : s.vm.findClass RX4 = some m.cls := hown
  have hl : lv_has ls 2 [(0, .ref h), (1, .int v)] := hl
  change W p l e ({ frames := 0, cells := 0, slots := 0, locals := 0 }) s m ([.ref h, .int v] : List Value).toArray below meth c s.heap [] 0 0 (MQ below (va_Qi (fun (r : Int32) (_u : Unit) => ((r = 1 ∧ 0 ≤ v.toInt ∧ v.toInt < wa.toInt) ∨ (r = 0 ∧ ¬ (0 ≤ v.toInt ∧ v.toInt < wa.toInt)))) (fun u t => wb D A ((fun _ => [(h, .inr (3, [.int vi, .int ro, .int wa, .int lz, .int ds, .int dy, .int ga, .int pa, .ref w0, .ref w1, .ref w2, .ref w3, .ref w4, .ref w5, .ref w6, .ref w7]))]) u) t) A) ([.ref h, .int v] : List Value).toArray s 0 0 A) (F0 m 0 ls [])
  refine lv_iload_n hx hb dX4_hasWalker_0 rfl (lv_at hl 1 rfl) ?_
  refine lv_if_lt (tgt := 16) hx hb dX4_hasWalker_1 (by decide) (fun c_1 => ?_) (fun c_1 => ?_)
  · have f_1 : v.toInt < 0 := zi_lt c_1
    refine lv_iconst (v := 0) hx hb dX4_hasWalker_16 (by decide) ?_
    exact wr_z (v := 0) hx hb hr hlocks hS () (by exact Or.inr (⟨rfl, show ¬ (0 ≤ v.toInt ∧ v.toInt < wa.toInt) from by omega⟩)) (hP.sub [0] rfl) (hD.sub [0] (by decide) rfl) dX4_hasWalker_17 rfl
  · have f_1 : ¬ v.toInt < 0 := zi_nlt c_1
    refine lv_iload_n hx hb dX4_hasWalker_4 rfl (lv_at hl 1 rfl) ?_
    refine lv_aload_n hx hb dX4_hasWalker_5 rfl (lv_at hl 0 rfl) ?_
    refine va_get (D := D) (ci := 3) (v := .int wa) (C := RX4) (T := TX4) (N := 16) hx hb hts (fun _ h => List.mem_cons_of_mem _ (List.mem_append_right _ h)) hown hK hP 0 rfl rfl 2 (by decide) (hts (.fieldLink RX4 18 "WinterWalk$Land" "walkers" "I") (List.mem_of_getElem? (i := 1) rfl)) (fun _ h9 => h9) rfl dX4_hasWalker_6 ?_
    refine lv_icmp_ge (tgt := 16) hx hb dX4_hasWalker_9 (by decide) (fun c_2 => ?_) (fun c_2 => ?_)
    · have f_2 : wa.toInt ≤ v.toInt := zi_le c_2
      refine lv_iconst (v := 0) hx hb dX4_hasWalker_16 (by decide) ?_
      exact wr_z (v := 0) hx hb hr hlocks hS () (by exact Or.inr (⟨rfl, show ¬ (0 ≤ v.toInt ∧ v.toInt < wa.toInt) from by omega⟩)) (hP.sub [0] rfl) (hD.sub [0] (by decide) rfl) dX4_hasWalker_17 rfl
    · have f_2 : ¬ wa.toInt ≤ v.toInt := zi_nle c_2
      refine lv_iconst (v := 1) hx hb dX4_hasWalker_12 (by decide) ?_
      refine lv_goto (tgt := 17) hx hb dX4_hasWalker_13 (by decide) ?_
      exact wr_z (v := 1) hx hb hr hlocks hS () (by exact Or.inl ⟨rfl, show 0 ≤ v.toInt ∧ v.toInt < wa.toInt from by omega⟩) (hP.sub [0] rfl) (hD.sub [0] (by decide) rfl) dX4_hasWalker_17 rfl
set_option maxHeartbeats 4000000 in
set_option maxRecDepth 100000 in
theorem g_X4_isIn (l : Launch) (D : va_G) (cI cB cQ : ClassId) (sz : Nat) (bs : Int32) (v : Int32) : mi l yX4_isIn wsX4_isIn ({ frames := 0, cells := 0, slots := 0, locals := 0 }) D cI cB cQ [.int bs, .int v] sz [] (fun (r : Int32) (_u : Unit) => ((r = 1) ∨ (r = 0))) (fun _ => []) 0 0 := by
  refine wm_i (cc := cX4_isIn) (maxL := 2) (ret := (some .boolean)) (by decide) rfl (Nat.le_of_ble_eq_true rfl) ?_
  intro p e s m below meth c A ls hx hb hr hml hown hts hlocks hin hP hK hD hN hA hl hS
  have hown : s.vm.findClass RX4 = some m.cls := hown
  have hl : lv_has ls 2 [(0, .int bs), (1, .int v)] := hl
  change W p l e ({ frames := 0, cells := 0, slots := 0, locals := 0 }) s m ([.int bs, .int v] : List Value).toArray below meth c s.heap [] 0 0 (MQ below (va_Qi (fun (r : Int32) (_u : Unit) => ((r = 1) ∨ (r = 0))) (fun u t => wb D A ((fun _ => []) u) t) A) ([.int bs, .int v] : List Value).toArray s 0 0 A) (F0 m 0 ls [])
  refine lv_iload_n hx hb dX4_isIn_0 rfl (lv_at hl 0 rfl) ?_
  refine lv_iload_n hx hb dX4_isIn_1 rfl (lv_at hl 1 rfl) ?_
  refine lv_ishr hx hb dX4_isIn_2 ?_
  refine lv_topi (fun x_1 ex_1 => ?_)
  clear ex_1
  refine lv_iconst (v := 1) hx hb dX4_isIn_3 (by decide) ?_
  refine lv_iand hx hb dX4_isIn_4 ?_
  refine lv_topi (fun x_2 ex_2 => ?_)
  clear ex_2
  refine lv_if_eq (tgt := 12) hx hb dX4_isIn_5 (by decide) (fun c_3 => ?_) (fun c_3 => ?_)
  · have f_3 : x_2.toInt = 0 := zi_eq c_3
    refine lv_iconst (v := 0) hx hb dX4_isIn_12 (by decide) ?_
    exact wr_z (v := 0) hx hb hr hlocks hS () (by exact Or.inr (rfl)) (hP.sub [] rfl) (hD.sub [] (by decide) rfl) dX4_isIn_13 rfl
  · have f_3 : ¬ x_2.toInt = 0 := zi_ne c_3
    refine lv_iconst (v := 1) hx hb dX4_isIn_8 (by decide) ?_
    refine lv_goto (tgt := 13) hx hb dX4_isIn_9 (by decide) ?_
    exact wr_z (v := 1) hx hb hr hlocks hS () (by exact Or.inl rfl) (hP.sub [] rfl) (hD.sub [] (by decide) rfl) dX4_isIn_13 rfl
set_option maxHeartbeats 4000000 in
set_option maxRecDepth 100000 in
theorem g_X4_isShut (l : Launch) (D : va_G) (cI cB cQ : ClassId) (sz : Nat) (h : Nat) (w0 : Nat) (w1 : Nat) (w2 : Nat) (w3 : Nat) (w4 : Nat) (w5 : Nat) (w6 : Nat) (w7 : Nat) (vi : Int32) (ro : Int32) (wa : Int32) (lz : Int32) (ds : Int32) (dy : Int32) (ga : Int32) (pa : Int32) (v : Int32) : mi l yX4_isShut wsX4_isShut ({ frames := 1, cells := 0, slots := 0, locals := 21 }) D cI cB cQ [.ref h, .int v] sz [(h, .inr (3, [.int vi, .int ro, .int wa, .int lz, .int ds, .int dy, .int ga, .int pa, .ref w0, .ref w1, .ref w2, .ref w3, .ref w4, .ref w5, .ref w6, .ref w7]))] (fun (r : Int32) (_u : Unit) => ((r = 1) ∨ (r = 0))) (fun _ => [(h, .inr (3, [.int vi, .int ro, .int wa, .int lz, .int ds, .int dy, .int ga, .int pa, .ref w0, .ref w1, .ref w2, .ref w3, .ref w4, .ref w5, .ref w6, .ref w7]))]) 0 0 := by
  refine wm_i (cc := cX4_isShut) (maxL := 2) (ret := (some .boolean)) (by decide) rfl (Nat.le_of_ble_eq_true rfl) ?_
  intro p e s m below meth c A ls hx hb hr hml hown hts hlocks hin hP hK hD hN hA hl hS
  have hown : s.vm.findClass RX4 = some m.cls := hown
  have hl : lv_has ls 2 [(0, .ref h), (1, .int v)] := hl
  change W p l e ({ frames := 1, cells := 0, slots := 0, locals := 21 }) s m ([.ref h, .int v] : List Value).toArray below meth c s.heap [] 0 0 (MQ below (va_Qi (fun (r : Int32) (_u : Unit) => ((r = 1) ∨ (r = 0))) (fun u t => wb D A ((fun _ => [(h, .inr (3, [.int vi, .int ro, .int wa, .int lz, .int ds, .int dy, .int ga, .int pa, .ref w0, .ref w1, .ref w2, .ref w3, .ref w4, .ref w5, .ref w6, .ref w7]))]) u) t) A) ([.ref h, .int v] : List Value).toArray s 0 0 A) (F0 m 0 ls [])
  refine lv_aload_n hx hb dX4_isShut_0 rfl (lv_at hl 0 rfl) ?_
  refine va_get (D := D) (ci := 3) (v := .int ds) (C := RX4) (T := TX4) (N := 16) hx hb hts (fun _ h => List.mem_cons_of_mem _ (List.mem_append_right _ h)) hown hK hP 0 rfl rfl 4 (by decide) (hts (.fieldLink RX4 24 "WinterWalk$Land" "doorsShut" "I") (List.mem_of_getElem? (i := 1) rfl)) (fun _ h9 => h9) rfl dX4_isShut_1 ?_
  refine lv_iload_n hx hb dX4_isShut_4 rfl (lv_at hl 1 rfl) ?_
  have k_1 := (g_X4_isIn l D cI cB cQ s.heap.size ds v)
  refine wc_i (WC := []) (WR := [(h, .inr (3, [.int vi, .int ro, .int wa, .int lz, .int ds, .int dy, .int ga, .int pa, .ref w0, .ref w1, .ref w2, .ref w3, .ref w4, .ref w5, .ref w6, .ref w7]))]) (va_runS (As := [.int ds, .int v]) (rest := []) ⟨hx, hb, hml, hown, hts⟩ k_1 (va_cwS 2 hts gX4_isShut_X4_isIn rfl rfl rfl (by decide +kernel) ⟨Nat.le_of_ble_eq_true rfl, Nat.le_of_ble_eq_true rfl⟩) (wp_S hP hK hD hN [] (by decide) rfl) rfl rfl hl.1 rfl (lv_room (Nat.le_of_ble_eq_true rfl)) dX4_isShut_5 ⟨Nat.le_of_ble_eq_true rfl, Nat.le_of_ble_eq_true rfl⟩) hP hD hS hA [] [0] rfl rfl (by decide) (by decide) (fun r_1 u_1 H locs hw_1 hP hD hS => ?_)
  clear k_1
  have hP : va_P D kl [(h, .inr (3, [.int vi, .int ro, .int wa, .int lz, .int ds, .int dy, .int ga, .int pa, .ref w0, .ref w1, .ref w2, .ref w3, .ref w4, .ref w5, .ref w6, .ref w7]))] H := hP
  have hD : va_D A [(h, .inr (3, [.int vi, .int ro, .int wa, .int lz, .int ds, .int dy, .int ga, .int pa, .ref w0, .ref w1, .ref w2, .ref w3, .ref w4, .ref w5, .ref w6, .ref w7]))] := hD
  have c1_0 := hw_1
  rcases c1_0 with e_1 | e_1
  · subst e_1
    exact wr_z (v := 1) hx hb hr hlocks hS () (by exact Or.inl rfl) (hP.sub [0] rfl) (hD.sub [0] (by decide) rfl) dX4_isShut_8 rfl
  · subst e_1
    exact wr_z (v := 0) hx hb hr hlocks hS () (by exact Or.inr (rfl)) (hP.sub [0] rfl) (hD.sub [0] (by decide) rfl) dX4_isShut_8 rfl
set_option maxHeartbeats 4000000 in
set_option maxRecDepth 100000 in
theorem g_X4_turnDoor (l : Launch) (D : va_G) (cI cB cQ : ClassId) (sz : Nat) (h : Nat) (w0 : Nat) (w1 : Nat) (w2 : Nat) (w3 : Nat) (w4 : Nat) (w5 : Nat) (w6 : Nat) (w7 : Nat) (vi : Int32) (ro : Int32) (wa : Int32) (lz : Int32) (ds : Int32) (dy : Int32) (ga : Int32) (pa : Int32) (v : Int32) : mv l yX4_turnDoor wsX4_turnDoor ({ frames := 0, cells := 0, slots := 0, locals := 0 }) D cI cB cQ [.ref h, .int v] sz [(h, .inr (3, [.int vi, .int ro, .int wa, .int lz, .int ds, .int dy, .int ga, .int pa, .ref w0, .ref w1, .ref w2, .ref w3, .ref w4, .ref w5, .ref w6, .ref w7]))] (fun (u : Int32) => True) (fun u => [(h, .inr (3, [.int vi, .int ro, .int wa, .int lz, .int u, .int dy, .int ga, .int pa, .ref w0, .ref w1, .ref w2, .ref w3, .ref w4, .ref w5, .ref w6, .ref w7]))]) 0 0 := by
  refine wm_v (cc := cX4_turnDoor) (maxL := 2) (ret := none) (by decide) rfl (Nat.le_of_ble_eq_true rfl) ?_
  intro p e s m below meth c A ls hx hb hr hml hown hts hlocks hin hP hK hD hN hA hl hS
  have hown : s.vm.findClass RX4 = some m.cls := hown
  have hl : lv_has ls 2 [(0, .ref h), (1, .int v)] := hl
  change W p l e ({ frames := 0, cells := 0, slots := 0, locals := 0 }) s m ([.ref h, .int v] : List Value).toArray below meth c s.heap [] 0 0 (MQ below (va_Qv (fun (u : Int32) => True) (fun u t => wb D A ((fun u => [(h, .inr (3, [.int vi, .int ro, .int wa, .int lz, .int u, .int dy, .int ga, .int pa, .ref w0, .ref w1, .ref w2, .ref w3, .ref w4, .ref w5, .ref w6, .ref w7]))]) u) t) A) ([.ref h, .int v] : List Value).toArray s 0 0 A) (F0 m 0 ls [])
  refine lv_aload_n hx hb dX4_turnDoor_0 rfl (lv_at hl 0 rfl) ?_
  refine lv_dup hx hb dX4_turnDoor_1 rfl ?_
  refine va_get (D := D) (ci := 3) (v := .int ds) (C := RX4) (T := TX4) (N := 16) hx hb hts (fun _ h => List.mem_cons_of_mem _ (List.mem_append_right _ h)) hown hK hP 0 rfl rfl 4 (by decide) (hts (.fieldLink RX4 24 "WinterWalk$Land" "doorsShut" "I") (List.mem_of_getElem? (i := 1) rfl)) (fun _ h9 => h9) rfl dX4_turnDoor_2 ?_
  refine lv_iconst (v := 1) hx hb dX4_turnDoor_5 (by decide) ?_
  refine lv_iload_n hx hb dX4_turnDoor_6 rfl (lv_at hl 1 rfl) ?_
  refine lv_ishl hx hb dX4_turnDoor_7 ?_
  refine lv_topi (fun x_1 ex_1 => ?_)
  clear ex_1
  refine lv_ixor hx hb dX4_turnDoor_8 ?_
  refine lv_topi (fun x_2 ex_2 => ?_)
  clear ex_2
  refine va_put (D := D) (ci := 3) (v := .int x_2) (ty := .int) (C := RX4) (T := TX4) (N := 16) hx hb hts (fun _ h => List.mem_cons_of_mem _ (List.mem_append_right _ h)) tyX4 tyX4_ok nmX4 hown hK hP hD hS 0 rfl rfl 4 (by decide) (hts (.fieldLink RX4 24 "WinterWalk$Land" "doorsShut" "I") (List.mem_of_getElem? (i := 1) rfl)) (fun _ h9 => h9) rfl (by decide +kernel) rfl rfl (Nat.le_of_ble_eq_true rfl) dX4_turnDoor_9 (fun H locs hP hD hS => ?_)
  have hP : va_P D kl [(h, .inr (3, [.int vi, .int ro, .int wa, .int lz, .int x_2, .int dy, .int ga, .int pa, .ref w0, .ref w1, .ref w2, .ref w3, .ref w4, .ref w5, .ref w6, .ref w7]))] H := hP
  have hD : va_D A [(h, .inr (3, [.int vi, .int ro, .int wa, .int lz, .int x_2, .int dy, .int ga, .int pa, .ref w0, .ref w1, .ref w2, .ref w3, .ref w4, .ref w5, .ref w6, .ref w7]))] := hD
  exact wr_v hx hb hr hlocks hS x_2 (by trivial) (hP.sub [0] rfl) (hD.sub [0] (by decide) rfl) dX4_turnDoor_12
set_option maxHeartbeats 4000000 in
set_option maxRecDepth 100000 in
theorem g_X4_isPaid (l : Launch) (D : va_G) (cI cB cQ : ClassId) (sz : Nat) (k : Int32) : mi l yX4_isPaid wsX4_isPaid ({ frames := 0, cells := 0, slots := 0, locals := 0 }) D cI cB cQ [.int k] sz [] (fun (r : Int32) (_u : Unit) => ((r = 1) ∨ (r = 0))) (fun _ => []) 0 0 := by
  refine wm_i (cc := cX4_isPaid) (maxL := 1) (ret := (some .boolean)) (by decide) rfl (Nat.le_of_ble_eq_true rfl) ?_
  intro p e s m below meth c A ls hx hb hr hml hown hts hlocks hin hP hK hD hN hA hl hS
  have hown : s.vm.findClass RX4 = some m.cls := hown
  have hl : lv_has ls 1 [(0, .int k)] := hl
  change W p l e ({ frames := 0, cells := 0, slots := 0, locals := 0 }) s m ([.int k] : List Value).toArray below meth c s.heap [] 0 0 (MQ below (va_Qi (fun (r : Int32) (_u : Unit) => ((r = 1) ∨ (r = 0))) (fun u t => wb D A ((fun _ => []) u) t) A) ([.int k] : List Value).toArray s 0 0 A) (F0 m 0 ls [])
  refine lv_iload_n hx hb dX4_isPaid_0 rfl (lv_at hl 0 rfl) ?_
  refine lv_iconst (v := 1) hx hb dX4_isPaid_1 (by decide) ?_
  refine lv_icmp_eq (tgt := 15) hx hb dX4_isPaid_2 (by decide) (fun c_1 => ?_) (fun c_1 => ?_)
  · have f_1 : k.toInt = 1 := zi_eq c_1
    refine lv_iconst (v := 1) hx hb dX4_isPaid_15 (by decide) ?_
    refine lv_goto (tgt := 20) hx hb dX4_isPaid_16 (by decide) ?_
    exact wr_z (v := 1) hx hb hr hlocks hS () (by exact Or.inl rfl) (hP.sub [] rfl) (hD.sub [] (by decide) rfl) dX4_isPaid_20 rfl
  · have f_1 : ¬ k.toInt = 1 := zi_ne c_1
    refine lv_iload_n hx hb dX4_isPaid_5 rfl (lv_at hl 0 rfl) ?_
    refine lv_iconst (v := 2) hx hb dX4_isPaid_6 (by decide) ?_
    refine lv_icmp_eq (tgt := 15) hx hb dX4_isPaid_7 (by decide) (fun c_2 => ?_) (fun c_2 => ?_)
    · have f_2 : k.toInt = 2 := zi_eq c_2
      refine lv_iconst (v := 1) hx hb dX4_isPaid_15 (by decide) ?_
      refine lv_goto (tgt := 20) hx hb dX4_isPaid_16 (by decide) ?_
      exact wr_z (v := 1) hx hb hr hlocks hS () (by exact Or.inl rfl) (hP.sub [] rfl) (hD.sub [] (by decide) rfl) dX4_isPaid_20 rfl
    · have f_2 : ¬ k.toInt = 2 := zi_ne c_2
      refine lv_iload_n hx hb dX4_isPaid_10 rfl (lv_at hl 0 rfl) ?_
      refine lv_iconst (v := 3) hx hb dX4_isPaid_11 (by decide) ?_
      refine lv_icmp_ne (tgt := 19) hx hb dX4_isPaid_12 (by decide) (fun c_3 => ?_) (fun c_3 => ?_)
      · have f_3 : ¬ k.toInt = 3 := zi_ne c_3
        refine lv_iconst (v := 0) hx hb dX4_isPaid_19 (by decide) ?_
        exact wr_z (v := 0) hx hb hr hlocks hS () (by exact Or.inr (rfl)) (hP.sub [] rfl) (hD.sub [] (by decide) rfl) dX4_isPaid_20 rfl
      · have f_3 : k.toInt = 3 := zi_eq c_3
        refine lv_iconst (v := 1) hx hb dX4_isPaid_15 (by decide) ?_
        refine lv_goto (tgt := 20) hx hb dX4_isPaid_16 (by decide) ?_
        exact wr_z (v := 1) hx hb hr hlocks hS () (by exact Or.inl rfl) (hP.sub [] rfl) (hD.sub [] (by decide) rfl) dX4_isPaid_20 rfl
set_option maxHeartbeats 4000000 in
set_option maxRecDepth 100000 in
theorem g_X4_withoutWayBack (l : Launch) (D : va_G) (cI cB cQ : ClassId) (sz : Nat) (op : Int32) (bk : Int32) : mi l yX4_withoutWayBack wsX4_withoutWayBack ({ frames := 0, cells := 0, slots := 0, locals := 0 }) D cI cB cQ [.int op, .int bk] sz [] (fun (r : Int32) (_u : Unit) => True) (fun _ => []) 0 0 := by
  refine wm_i (cc := cX4_withoutWayBack) (maxL := 3) (ret := (some .int)) (by decide) rfl (Nat.le_of_ble_eq_true rfl) ?_
  intro p e s m below meth c A ls hx hb hr hml hown hts hlocks hin hP hK hD hN hA hl hS
  have hown : s.vm.findClass RX4 = some m.cls := hown
  have hl : lv_has ls 3 [(0, .int op), (1, .int bk)] := hl
  change W p l e ({ frames := 0, cells := 0, slots := 0, locals := 0 }) s m ([.int op, .int bk] : List Value).toArray below meth c s.heap [] 0 0 (MQ below (va_Qi (fun (r : Int32) (_u : Unit) => True) (fun u t => wb D A ((fun _ => []) u) t) A) ([.int op, .int bk] : List Value).toArray s 0 0 A) (F0 m 0 ls [])
  refine lv_iload_n hx hb dX4_withoutWayBack_0 rfl (lv_at hl 1 rfl) ?_
  refine lv_ldc (v := (-1000000)) hx hb hown (hts (.constant RX4 87 (-1000000)) (List.mem_of_getElem? (i := 1) rfl)) dX4_withoutWayBack_1 ?_
  refine lv_icmp_ne (tgt := 10) hx hb dX4_withoutWayBack_3 (by decide) (fun c_1 => ?_) (fun c_1 => ?_)
  · have f_1 : ¬ bk.toInt = (-1000000) := zi_ne c_1
    refine lv_iload_n hx hb dX4_withoutWayBack_10 rfl (lv_at hl 0 rfl) ?_
    refine lv_iconst (v := 1) hx hb dX4_withoutWayBack_11 (by decide) ?_
    refine lv_iload_n hx hb dX4_withoutWayBack_12 rfl (lv_at hl 1 rfl) ?_
    refine lv_ishl hx hb dX4_withoutWayBack_13 ?_
    refine lv_topi (fun x_2 ex_2 => ?_)
    clear ex_2
    refine lv_iconst (v := (-1)) hx hb dX4_withoutWayBack_14 (by decide) ?_
    refine lv_ixor hx hb dX4_withoutWayBack_15 ?_
    refine lv_topi (fun x_3 ex_3 => ?_)
    clear ex_3
    refine lv_iand hx hb dX4_withoutWayBack_16 ?_
    refine lv_topi (fun x_4 ex_4 => ?_)
    clear ex_4
    refine lv_istore_n (lv' := [(2, .int x_4), (0, .int op), (1, .int bk)]) hx hb dX4_withoutWayBack_17 rfl hl (by decide) rfl (fun ls hl => ?_)
    refine lv_iload_n hx hb dX4_withoutWayBack_18 rfl (lv_at hl 0 rfl) ?_
    refine lv_if_eq (tgt := 26) hx hb dX4_withoutWayBack_19 (by decide) (fun c_5 => ?_) (fun c_5 => ?_)
    · have f_5 : x_4.toInt = 0 := zi_eq c_5
      refine lv_iload_n hx hb dX4_withoutWayBack_26 rfl (lv_at hl 1 rfl) ?_
      exact wr_i (v := op) hx hb hr hlocks hS () (by trivial) (hP.sub [] rfl) (hD.sub [] (by decide) rfl) dX4_withoutWayBack_27
    · have f_5 : ¬ x_4.toInt = 0 := zi_ne c_5
      refine lv_iload_n hx hb dX4_withoutWayBack_22 rfl (lv_at hl 0 rfl) ?_
      refine lv_goto (tgt := 27) hx hb dX4_withoutWayBack_23 (by decide) ?_
      exact wr_i (v := x_4) hx hb hr hlocks hS () (by trivial) (hP.sub [] rfl) (hD.sub [] (by decide) rfl) dX4_withoutWayBack_27
  · have f_1 : bk.toInt = (-1000000) := zi_eq c_1
    refine lv_iload_n hx hb dX4_withoutWayBack_6 rfl (lv_at hl 0 rfl) ?_
    refine lv_goto (tgt := 17) hx hb dX4_withoutWayBack_7 (by decide) ?_
    refine lv_istore_n (lv' := [(2, .int op), (0, .int op), (1, .int bk)]) hx hb dX4_withoutWayBack_17 rfl hl (by decide) rfl (fun ls hl => ?_)
    refine lv_iload_n hx hb dX4_withoutWayBack_18 rfl (lv_at hl 0 rfl) ?_
    refine lv_if_eq (tgt := 26) hx hb dX4_withoutWayBack_19 (by decide) (fun c_6 => ?_) (fun c_6 => ?_)
    · have f_6 : op.toInt = 0 := zi_eq c_6
      refine lv_iload_n hx hb dX4_withoutWayBack_26 rfl (lv_at hl 1 rfl) ?_
      exact wr_i (v := op) hx hb hr hlocks hS () (by trivial) (hP.sub [] rfl) (hD.sub [] (by decide) rfl) dX4_withoutWayBack_27
    · have f_6 : ¬ op.toInt = 0 := zi_ne c_6
      refine lv_iload_n hx hb dX4_withoutWayBack_22 rfl (lv_at hl 0 rfl) ?_
      refine lv_goto (tgt := 27) hx hb dX4_withoutWayBack_23 (by decide) ?_
      exact wr_i (v := op) hx hb hr hlocks hS () (by trivial) (hP.sub [] rfl) (hD.sub [] (by decide) rfl) dX4_withoutWayBack_27
set_option maxHeartbeats 4000000 in
set_option maxRecDepth 100000 in
theorem g_X4_paidTo (l : Launch) (D : va_G) (cI cB cQ : ClassId) (sz : Nat) (h : Nat) (w0 : Nat) (w1 : Nat) (w2 : Nat) (w3 : Nat) (w4 : Nat) (w5 : Nat) (w6 : Nat) (w7 : Nat) (vi : Int32) (ro : Int32) (wa : Int32) (lz : Int32) (ds : Int32) (dy : Int32) (ga : Int32) (pa : Int32) (w : Int32) (fo : Nat → Int32) (fk : Nat → Int32) (fa : Nat → Int32) (ha : ∀ j, j < 3 → 0 ≤ (fa j).toInt ∧ (fa j).toInt ≤ 7) (h_w : 0 ≤ w.toInt ∧ w.toInt ≤ 2) : mi l yX4_paidTo wsX4_paidTo ({ frames := 1, cells := 0, slots := 0, locals := 20 }) D cI cB cQ [.ref h, .int w] sz [(h, .inr (3, [.int vi, .int ro, .int wa, .int lz, .int ds, .int dy, .int ga, .int pa, .ref w0, .ref w1, .ref w2, .ref w3, .ref w4, .ref w5, .ref w6, .ref w7])), (w1, .inl (cI, 8, .inl fo)), (w5, .inl (cI, 3, .inl fk)), (w6, .inl (cI, 3, .inl fa))] (fun (r : Int32) (_u : Unit) => True) (fun _ => [(h, .inr (3, [.int vi, .int ro, .int wa, .int lz, .int ds, .int dy, .int ga, .int pa, .ref w0, .ref w1, .ref w2, .ref w3, .ref w4, .ref w5, .ref w6, .ref w7])), (w1, .inl (cI, 8, .inl fo)), (w5, .inl (cI, 3, .inl fk)), (w6, .inl (cI, 3, .inl fa))]) 0 0 := by
  refine wm_i (cc := cX4_paidTo) (maxL := 2) (ret := (some .int)) (by decide) rfl (Nat.le_of_ble_eq_true rfl) ?_
  intro p e s m below meth c A ls hx hb hr hml hown hts hlocks hin hP hK hD hN hA hl hS
  have hown : s.vm.findClass RX4 = some m.cls := hown
  have hl : lv_has ls 2 [(0, .ref h), (1, .int w)] := hl
  change W p l e ({ frames := 1, cells := 0, slots := 0, locals := 20 }) s m ([.ref h, .int w] : List Value).toArray below meth c s.heap [] 0 0 (MQ below (va_Qi (fun (r : Int32) (_u : Unit) => True) (fun u t => wb D A ((fun _ => [(h, .inr (3, [.int vi, .int ro, .int wa, .int lz, .int ds, .int dy, .int ga, .int pa, .ref w0, .ref w1, .ref w2, .ref w3, .ref w4, .ref w5, .ref w6, .ref w7])), (w1, .inl (cI, 8, .inl fo)), (w5, .inl (cI, 3, .inl fk)), (w6, .inl (cI, 3, .inl fa))]) u) t) A) ([.ref h, .int w] : List Value).toArray s 0 0 A) (F0 m 0 ls [])
  refine lv_aload_n hx hb dX4_paidTo_0 rfl (lv_at hl 0 rfl) ?_
  refine va_get (D := D) (ci := 3) (v := .ref w5) (C := RX4) (T := TX4) (N := 16) hx hb hts (fun _ h => List.mem_cons_of_mem _ (List.mem_append_right _ h)) hown hK hP 0 rfl rfl 13 (by decide) (hts (.fieldLink RX4 52 "WinterWalk$Land" "kinds" "[I") (List.mem_of_getElem? (i := 1) rfl)) (fun _ h9 => h9) rfl dX4_paidTo_1 ?_
  refine lv_iload_n hx hb dX4_paidTo_4 rfl (lv_at hl 1 rfl) ?_
  refine va_iald hx hb hK hP 2 0 rfl rfl (zi_in (by omega) (by omega)) dX4_paidTo_5 ?_
  refine lv_topi (fun x_1 ex_1 => ?_)
  clear ex_1
  have k_2 := (g_X4_isPaid l D cI cB cQ s.heap.size x_1)
  refine wc_i (WC := []) (WR := [(h, .inr (3, [.int vi, .int ro, .int wa, .int lz, .int ds, .int dy, .int ga, .int pa, .ref w0, .ref w1, .ref w2, .ref w3, .ref w4, .ref w5, .ref w6, .ref w7])), (w1, .inl (cI, 8, .inl fo)), (w5, .inl (cI, 3, .inl fk)), (w6, .inl (cI, 3, .inl fa))]) (va_runS (As := [.int x_1]) (rest := []) ⟨hx, hb, hml, hown, hts⟩ k_2 (va_cwS 1 hts gX4_paidTo_X4_isPaid rfl rfl rfl (by decide +kernel) ⟨Nat.le_of_ble_eq_true rfl, Nat.le_of_ble_eq_true rfl⟩) (wp_S hP hK hD hN [] (by decide) rfl) rfl rfl hl.1 rfl (lv_room (Nat.le_of_ble_eq_true rfl)) dX4_paidTo_6 ⟨Nat.le_of_ble_eq_true rfl, Nat.le_of_ble_eq_true rfl⟩) hP hD hS hA [] [0, 1, 2, 3] rfl rfl (by decide) (by decide) (fun r_2 u_2 H locs hw_2 hP hD hS => ?_)
  clear k_2
  have hP : va_P D kl [(h, .inr (3, [.int vi, .int ro, .int wa, .int lz, .int ds, .int dy, .int ga, .int pa, .ref w0, .ref w1, .ref w2, .ref w3, .ref w4, .ref w5, .ref w6, .ref w7])), (w1, .inl (cI, 8, .inl fo)), (w5, .inl (cI, 3, .inl fk)), (w6, .inl (cI, 3, .inl fa))] H := hP
  have hD : va_D A [(h, .inr (3, [.int vi, .int ro, .int wa, .int lz, .int ds, .int dy, .int ga, .int pa, .ref w0, .ref w1, .ref w2, .ref w3, .ref w4, .ref w5, .ref w6, .ref w7])), (w1, .inl (cI, 8, .inl fo)), (w5, .inl (cI, 3, .inl fk)), (w6, .inl (cI, 3, .inl fa))] := hD
  have c2_0 := hw_2
  rcases c2_0 with e_2 | e_2
  · subst e_2
    refine lv_if_eq (tgt := 26) hx hb dX4_paidTo_9 (by decide) (fun c9 => absurd c9 (by decide)) (fun _ => ?_)
    refine lv_aload_n hx hb dX4_paidTo_12 rfl (lv_at hl 0 rfl) ?_
    refine va_get (D := D) (ci := 3) (v := .ref w1) (C := RX4) (T := TX4) (N := 16) hx hb hts (fun _ h => List.mem_cons_of_mem _ (List.mem_append_right _ h)) hown hK hP 0 rfl rfl 9 (by decide) (hts (.fieldLink RX4 40 "WinterWalk$Land" "offers" "[I") (List.mem_of_getElem? (i := 2) rfl)) (fun _ h9 => h9) rfl dX4_paidTo_13 ?_
    refine lv_aload_n hx hb dX4_paidTo_16 rfl (lv_at hl 0 rfl) ?_
    refine va_get (D := D) (ci := 3) (v := .ref w6) (C := RX4) (T := TX4) (N := 16) hx hb hts (fun _ h => List.mem_cons_of_mem _ (List.mem_append_right _ h)) hown hK hP 0 rfl rfl 14 (by decide) (hts (.fieldLink RX4 55 "WinterWalk$Land" "at" "[I") (List.mem_of_getElem? (i := 3) rfl)) (fun _ h9 => h9) rfl dX4_paidTo_17 ?_
    refine lv_iload_n hx hb dX4_paidTo_20 rfl (lv_at hl 1 rfl) ?_
    refine va_iald hx hb hK hP 3 0 rfl rfl (zi_in (by omega) (by omega)) dX4_paidTo_21 ?_
    refine lv_topi (fun x_3 ex_3 => ?_)
    have f_3 : 0 ≤ x_3.toInt ∧ x_3.toInt ≤ 7 := by rw [ex_3]; exact ha _ (zi_cl (by omega) (by omega))
    clear ex_3
    refine va_iald hx hb hK hP 1 0 rfl rfl (zi_in (by omega) (by omega)) dX4_paidTo_22 ?_
    refine lv_topi (fun x_4 ex_4 => ?_)
    clear ex_4
    refine lv_goto (tgt := 27) hx hb dX4_paidTo_23 (by decide) ?_
    exact wr_i (v := x_4) hx hb hr hlocks hS () (by trivial) (hP.sub [0, 1, 2, 3] rfl) (hD.sub [0, 1, 2, 3] (by decide) rfl) dX4_paidTo_27
  · subst e_2
    refine lv_if_eq (tgt := 26) hx hb dX4_paidTo_9 (by decide) (fun _ => ?_) (fun c9 => absurd (by decide) c9)
    refine lv_iconst (v := 0) hx hb dX4_paidTo_26 (by decide) ?_
    exact wr_i (v := 0) hx hb hr hlocks hS () (by trivial) (hP.sub [0, 1, 2, 3] rfl) (hD.sub [0, 1, 2, 3] (by decide) rfl) dX4_paidTo_27
set_option maxHeartbeats 4000000 in
set_option maxRecDepth 100000 in
theorem g_X4_greatestOffer (l : Launch) (D : va_G) (cI cB cQ : ClassId) (sz : Nat) (h : Nat) (w0 : Nat) (w1 : Nat) (w2 : Nat) (w3 : Nat) (w4 : Nat) (w5 : Nat) (w6 : Nat) (w7 : Nat) (vi : Int32) (ro : Int32) (wa : Int32) (lz : Int32) (ds : Int32) (dy : Int32) (ga : Int32) (pa : Int32) (op : Int32) (he : Int32) (fo : Nat → Int32) (h_vi : 0 ≤ vi.toInt ∧ vi.toInt ≤ 8) (h_wa : 0 ≤ wa.toInt ∧ wa.toInt ≤ 3) (h_he : 0 ≤ he.toInt ∧ he.toInt ≤ 7) : mi l yX4_greatestOffer wsX4_greatestOffer ({ frames := 0, cells := 0, slots := 0, locals := 0 }) D cI cB cQ [.ref h, .int op, .int he] sz [(h, .inr (3, [.int vi, .int ro, .int wa, .int lz, .int ds, .int dy, .int ga, .int pa, .ref w0, .ref w1, .ref w2, .ref w3, .ref w4, .ref w5, .ref w6, .ref w7])), (w1, .inl (cI, 8, .inl fo))] (fun (r : Int32) (_u : Unit) => (0 ≤ r.toInt ∧ r.toInt ≤ 7)) (fun _ => [(h, .inr (3, [.int vi, .int ro, .int wa, .int lz, .int ds, .int dy, .int ga, .int pa, .ref w0, .ref w1, .ref w2, .ref w3, .ref w4, .ref w5, .ref w6, .ref w7])), (w1, .inl (cI, 8, .inl fo))]) 0 0 := by
  refine wm_i (cc := cX4_greatestOffer) (maxL := 6) (ret := (some .int)) (by decide) rfl (Nat.le_of_ble_eq_true rfl) ?_
  intro p e s m below meth c A ls hx hb hr hml hown hts hlocks hin hP hK hD hN hA hl hS
  have hown : s.vm.findClass RX4 = some m.cls := hown
  have hl : lv_has ls 6 [(0, .ref h), (1, .int op), (2, .int he)] := hl
  change W p l e ({ frames := 0, cells := 0, slots := 0, locals := 0 }) s m ([.ref h, .int op, .int he] : List Value).toArray below meth c s.heap [] 0 0 (MQ below (va_Qi (fun (r : Int32) (_u : Unit) => (0 ≤ r.toInt ∧ r.toInt ≤ 7)) (fun u t => wb D A ((fun _ => [(h, .inr (3, [.int vi, .int ro, .int wa, .int lz, .int ds, .int dy, .int ga, .int pa, .ref w0, .ref w1, .ref w2, .ref w3, .ref w4, .ref w5, .ref w6, .ref w7])), (w1, .inl (cI, 8, .inl fo))]) u) t) A) ([.ref h, .int op, .int he] : List Value).toArray s 0 0 A) (F0 m 0 ls [])
  refine lv_iload_n hx hb dX4_greatestOffer_0 rfl (lv_at hl 2 rfl) ?_
  refine lv_istore_n (lv' := [(3, .int he), (0, .ref h), (1, .int op), (2, .int he)]) hx hb dX4_greatestOffer_1 rfl hl (by decide) rfl (fun ls hl => ?_)
  refine lv_iconst (v := (-1)) hx hb dX4_greatestOffer_2 (by decide) ?_
  refine lv_istore (lv' := [(4, .int (-1)), (3, .int he), (0, .ref h), (1, .int op), (2, .int he)]) hx hb dX4_greatestOffer_3 hl (by decide) rfl (fun ls hl => ?_)
  refine lv_iconst (v := 0) hx hb dX4_greatestOffer_5 (by decide) ?_
  refine lv_istore (lv' := [(5, .int 0), (4, .int (-1)), (3, .int he), (0, .ref h), (1, .int op), (2, .int he)]) hx hb dX4_greatestOffer_6 hl (by decide) rfl (fun ls hl => ?_)
  have hL8 : ∀ (nf : Nat) (t5_c8 : Int32) (t4_c8 : Int32) (t3_c8 : Int32) (H : Heap) (locs : List Loc) (ls : Array Slot), (0 ≤ t5_c8.toInt ∧ t5_c8.toInt ≤ 8) → (0 ≤ t3_c8.toInt ∧ t3_c8.toInt ≤ 7) → (8 - t5_c8.toInt).toNat < nf → va_P D kl [(h, .inr (3, [.int vi, .int ro, .int wa, .int lz, .int ds, .int dy, .int ga, .int pa, .ref w0, .ref w1, .ref w2, .ref w3, .ref w4, .ref w5, .ref w6, .ref w7])), (w1, .inl (cI, 8, .inl fo))] H → va_D A [(h, .inr (3, [.int vi, .int ro, .int wa, .int lz, .int ds, .int dy, .int ga, .int pa, .ref w0, .ref w1, .ref w2, .ref w3, .ref w4, .ref w5, .ref w6, .ref w7])), (w1, .inl (cI, 8, .inl fo))] → va_S A s.heap H locs → lv_has ls 6 [(5, .int t5_c8), (4, .int t4_c8), (3, .int t3_c8), (0, .ref h), (1, .int op), (2, .int he)] → W p l e ({ frames := 0, cells := 0, slots := 0, locals := 0 }) s m ([.ref h, .int op, .int he] : List Value).toArray below meth c H locs 0 0 (MQ below (va_Qi (fun (r : Int32) (_u : Unit) => (0 ≤ r.toInt ∧ r.toInt ≤ 7)) (fun u t => wb D A ((fun _ => [(h, .inr (3, [.int vi, .int ro, .int wa, .int lz, .int ds, .int dy, .int ga, .int pa, .ref w0, .ref w1, .ref w2, .ref w3, .ref w4, .ref w5, .ref w6, .ref w7])), (w1, .inl (cI, 8, .inl fo))]) u) t) A) ([.ref h, .int op, .int he] : List Value).toArray s 0 0 A) (F0 m 8 ls []) := by
    intro nf
    induction nf with
    | zero =>
      intro t5_c8 t4_c8 t3_c8 H locs ls i_t5_c8 i_t3_c8 hm
      exact absurd hm (Nat.not_lt_zero _)
    | succ nf ih8 =>
      intro t5_c8 t4_c8 t3_c8 H locs ls i_t5_c8 i_t3_c8 hm8 hP hD hS hl
      refine lv_iload hx hb dX4_greatestOffer_8 (lv_at hl 0 rfl) ?_
      refine lv_aload_n hx hb dX4_greatestOffer_10 rfl (lv_at hl 3 rfl) ?_
      refine va_get (D := D) (ci := 3) (v := .int vi) (C := RX4) (T := TX4) (N := 16) hx hb hts (fun _ h => List.mem_cons_of_mem _ (List.mem_append_right _ h)) hown hK hP 0 rfl rfl 0 (by decide) (hts (.fieldLink RX4 9 "WinterWalk$Land" "villages" "I") (List.mem_of_getElem? (i := 1) rfl)) (fun _ h9 => h9) rfl dX4_greatestOffer_11 ?_
      refine lv_icmp_ge (tgt := 56) hx hb dX4_greatestOffer_14 (by decide) (fun c_1 => ?_) (fun c_1 => ?_)
      · have f_1 : vi.toInt ≤ t5_c8.toInt := zi_le c_1
        refine lv_iload_n hx hb dX4_greatestOffer_56 rfl (lv_at hl 2 rfl) ?_
        exact wr_i (v := t3_c8) hx hb hr hlocks hS () (by exact (by omega)) (hP.sub [0, 1] rfl) (hD.sub [0, 1] (by decide) rfl) dX4_greatestOffer_57
      · have f_1 : ¬ vi.toInt ≤ t5_c8.toInt := zi_nle c_1
        refine lv_iload_n hx hb dX4_greatestOffer_17 rfl (lv_at hl 4 rfl) ?_
        refine lv_iload hx hb dX4_greatestOffer_18 (lv_at hl 0 rfl) ?_
        refine lv_ishr hx hb dX4_greatestOffer_20 ?_
        refine lv_topi (fun x_2 ex_2 => ?_)
        clear ex_2
        refine lv_iconst (v := 1) hx hb dX4_greatestOffer_21 (by decide) ?_
        refine lv_iand hx hb dX4_greatestOffer_22 ?_
        refine lv_topi (fun x_3 ex_3 => ?_)
        clear ex_3
        refine lv_if_eq (tgt := 50) hx hb dX4_greatestOffer_23 (by decide) (fun c_4 => ?_) (fun c_4 => ?_)
        · have f_4 : x_3.toInt = 0 := zi_eq c_4
          obtain ⟨x_5, ex_5⟩ : ∃ y : Int32, y = t5_c8 + Int32.ofInt 1 := ⟨_, rfl⟩
          refine lv_iinc (v := x_5) (lv' := [(5, .int x_5), (4, .int t4_c8), (3, .int t3_c8), (0, .ref h), (1, .int op), (2, .int he)]) hx hb dX4_greatestOffer_50 hl (k := 0) rfl ex_5.symm (by decide) rfl (fun ls hl => ?_)
          have ex_5 : x_5 = t5_c8 + 1 := ex_5
          have e_5 : x_5.toInt = t5_c8.toInt + 1 := by rw [ex_5]; exact zi_add (rfl) (by decide) (by omega) (by omega)
          clear ex_5
          refine lv_goto (tgt := 8) hx hb dX4_greatestOffer_53 (by decide) ?_
          exact ih8 x_5 t4_c8 t3_c8 _ _ _ (show 0 ≤ x_5.toInt ∧ x_5.toInt ≤ 8 from by omega) (show 0 ≤ t3_c8.toInt ∧ t3_c8.toInt ≤ 7 from by omega) (by omega) (hP.sub [0, 1] rfl) (hD.sub [0, 1] (by decide) rfl) hS (lv_sub hl [0, 1, 2, 3, 4, 5] rfl)
        · have f_4 : ¬ x_3.toInt = 0 := zi_ne c_4
          refine lv_aload_n hx hb dX4_greatestOffer_26 rfl (lv_at hl 3 rfl) ?_
          refine va_get (D := D) (ci := 3) (v := .ref w1) (C := RX4) (T := TX4) (N := 16) hx hb hts (fun _ h => List.mem_cons_of_mem _ (List.mem_append_right _ h)) hown hK hP 0 rfl rfl 9 (by decide) (hts (.fieldLink RX4 40 "WinterWalk$Land" "offers" "[I") (List.mem_of_getElem? (i := 2) rfl)) (fun _ h9 => h9) rfl dX4_greatestOffer_27 ?_
          refine lv_iload hx hb dX4_greatestOffer_30 (lv_at hl 0 rfl) ?_
          refine va_iald hx hb hK hP 1 0 rfl rfl (zi_in (by omega) (by omega)) dX4_greatestOffer_32 ?_
          refine lv_topi (fun x_6 ex_6 => ?_)
          clear ex_6
          refine lv_iload hx hb dX4_greatestOffer_33 (lv_at hl 1 rfl) ?_
          refine lv_icmp_le (tgt := 50) hx hb dX4_greatestOffer_35 (by decide) (fun c_7 => ?_) (fun c_7 => ?_)
          · have f_7 : x_6.toInt ≤ t4_c8.toInt := zi_le c_7
            obtain ⟨x_8, ex_8⟩ : ∃ y : Int32, y = t5_c8 + Int32.ofInt 1 := ⟨_, rfl⟩
            refine lv_iinc (v := x_8) (lv' := [(5, .int x_8), (4, .int t4_c8), (3, .int t3_c8), (0, .ref h), (1, .int op), (2, .int he)]) hx hb dX4_greatestOffer_50 hl (k := 0) rfl ex_8.symm (by decide) rfl (fun ls hl => ?_)
            have ex_8 : x_8 = t5_c8 + 1 := ex_8
            have e_8 : x_8.toInt = t5_c8.toInt + 1 := by rw [ex_8]; exact zi_add (rfl) (by decide) (by omega) (by omega)
            clear ex_8
            refine lv_goto (tgt := 8) hx hb dX4_greatestOffer_53 (by decide) ?_
            exact ih8 x_8 t4_c8 t3_c8 _ _ _ (show 0 ≤ x_8.toInt ∧ x_8.toInt ≤ 8 from by omega) (show 0 ≤ t3_c8.toInt ∧ t3_c8.toInt ≤ 7 from by omega) (by omega) (hP.sub [0, 1] rfl) (hD.sub [0, 1] (by decide) rfl) hS (lv_sub hl [0, 1, 2, 3, 4, 5] rfl)
          · have f_7 : ¬ x_6.toInt ≤ t4_c8.toInt := zi_nle c_7
            refine lv_iload hx hb dX4_greatestOffer_38 (lv_at hl 0 rfl) ?_
            refine lv_istore_n (lv' := [(3, .int t5_c8), (5, .int t5_c8), (4, .int t4_c8), (0, .ref h), (1, .int op), (2, .int he)]) hx hb dX4_greatestOffer_40 rfl hl (by decide) rfl (fun ls hl => ?_)
            refine lv_aload_n hx hb dX4_greatestOffer_41 rfl (lv_at hl 3 rfl) ?_
            refine va_get (D := D) (ci := 3) (v := .ref w1) (C := RX4) (T := TX4) (N := 16) hx hb hts (fun _ h => List.mem_cons_of_mem _ (List.mem_append_right _ h)) hown hK hP 0 rfl rfl 9 (by decide) (hts (.fieldLink RX4 40 "WinterWalk$Land" "offers" "[I") (List.mem_of_getElem? (i := 2) rfl)) (fun _ h9 => h9) rfl dX4_greatestOffer_42 ?_
            refine lv_iload hx hb dX4_greatestOffer_45 (lv_at hl 1 rfl) ?_
            refine va_iald hx hb hK hP 1 0 rfl rfl (zi_in (by omega) (by omega)) dX4_greatestOffer_47 ?_
            refine lv_topi (fun x_9 ex_9 => ?_)
            clear ex_9
            refine lv_istore (lv' := [(4, .int x_9), (3, .int t5_c8), (5, .int t5_c8), (0, .ref h), (1, .int op), (2, .int he)]) hx hb dX4_greatestOffer_48 hl (by decide) rfl (fun ls hl => ?_)
            obtain ⟨x_10, ex_10⟩ : ∃ y : Int32, y = t5_c8 + Int32.ofInt 1 := ⟨_, rfl⟩
            refine lv_iinc (v := x_10) (lv' := [(5, .int x_10), (4, .int x_9), (3, .int t5_c8), (0, .ref h), (1, .int op), (2, .int he)]) hx hb dX4_greatestOffer_50 hl (k := 2) rfl ex_10.symm (by decide) rfl (fun ls hl => ?_)
            have ex_10 : x_10 = t5_c8 + 1 := ex_10
            have e_10 : x_10.toInt = t5_c8.toInt + 1 := by rw [ex_10]; exact zi_add (rfl) (by decide) (by omega) (by omega)
            clear ex_10
            refine lv_goto (tgt := 8) hx hb dX4_greatestOffer_53 (by decide) ?_
            exact ih8 x_10 x_9 t5_c8 _ _ _ (show 0 ≤ x_10.toInt ∧ x_10.toInt ≤ 8 from by omega) (show 0 ≤ t5_c8.toInt ∧ t5_c8.toInt ≤ 7 from by omega) (by omega) (hP.sub [0, 1] rfl) (hD.sub [0, 1] (by decide) rfl) hS (lv_sub hl [0, 1, 2, 3, 4, 5] rfl)
  exact hL8 (((8 - (0 : Int32).toInt).toNat) + 1) 0 (-1) he _ _ _ (show 0 ≤ 0 ∧ 0 ≤ 8 from by omega) (show 0 ≤ he.toInt ∧ he.toInt ≤ 7 from by omega) (Nat.lt_succ_self _) (hP.sub [0, 1] rfl) (hD.sub [0, 1] (by decide) rfl) hS (lv_sub hl [0, 1, 2, 3, 4, 5] rfl)
set_option maxHeartbeats 4000000 in
set_option maxRecDepth 100000 in
theorem g_X4_fewestNights (l : Launch) (D : va_G) (cI cB cQ : ClassId) (sz : Nat) (h : Nat) (w0 : Nat) (w1 : Nat) (w2 : Nat) (w3 : Nat) (w4 : Nat) (w5 : Nat) (w6 : Nat) (w7 : Nat) (vi : Int32) (ro : Int32) (wa : Int32) (lz : Int32) (ds : Int32) (dy : Int32) (ga : Int32) (pa : Int32) (he : Int32) (fr : Nat → Int32) (fn : Nat → Int32) (h_vi : 0 ≤ vi.toInt ∧ vi.toInt ≤ 8) (h_wa : 0 ≤ wa.toInt ∧ wa.toInt ≤ 3) (h_he : 0 ≤ he.toInt ∧ he.toInt ≤ 7) : mi l yX4_fewestNights wsX4_fewestNights ({ frames := 0, cells := 0, slots := 0, locals := 0 }) D cI cB cQ [.ref h, .int he] sz [(h, .inr (3, [.int vi, .int ro, .int wa, .int lz, .int ds, .int dy, .int ga, .int pa, .ref w0, .ref w1, .ref w2, .ref w3, .ref w4, .ref w5, .ref w6, .ref w7])), (w2, .inl (cI, 8, .inl fr)), (w3, .inl (cI, 8, .inl fn))] (fun (r : Int32) (_u : Unit) => (0 ≤ r.toInt ∧ r.toInt ≤ 7)) (fun _ => [(h, .inr (3, [.int vi, .int ro, .int wa, .int lz, .int ds, .int dy, .int ga, .int pa, .ref w0, .ref w1, .ref w2, .ref w3, .ref w4, .ref w5, .ref w6, .ref w7])), (w2, .inl (cI, 8, .inl fr)), (w3, .inl (cI, 8, .inl fn))]) 0 0 := by
  refine wm_i (cc := cX4_fewestNights) (maxL := 6) (ret := (some .int)) (by decide) rfl (Nat.le_of_ble_eq_true rfl) ?_
  intro p e s m below meth c A ls hx hb hr hml hown hts hlocks hin hP hK hD hN hA hl hS
  have hown : s.vm.findClass RX4 = some m.cls := hown
  have hl : lv_has ls 6 [(0, .ref h), (1, .int he)] := hl
  change W p l e ({ frames := 0, cells := 0, slots := 0, locals := 0 }) s m ([.ref h, .int he] : List Value).toArray below meth c s.heap [] 0 0 (MQ below (va_Qi (fun (r : Int32) (_u : Unit) => (0 ≤ r.toInt ∧ r.toInt ≤ 7)) (fun u t => wb D A ((fun _ => [(h, .inr (3, [.int vi, .int ro, .int wa, .int lz, .int ds, .int dy, .int ga, .int pa, .ref w0, .ref w1, .ref w2, .ref w3, .ref w4, .ref w5, .ref w6, .ref w7])), (w2, .inl (cI, 8, .inl fr)), (w3, .inl (cI, 8, .inl fn))]) u) t) A) ([.ref h, .int he] : List Value).toArray s 0 0 A) (F0 m 0 ls [])
  refine lv_aload_n hx hb dX4_fewestNights_0 rfl (lv_at hl 0 rfl) ?_
  refine va_get (D := D) (ci := 3) (v := .ref w2) (C := RX4) (T := TX4) (N := 16) hx hb hts (fun _ h => List.mem_cons_of_mem _ (List.mem_append_right _ h)) hown hK hP 0 rfl rfl 10 (by decide) (hts (.fieldLink RX4 43 "WinterWalk$Land" "roads" "[I") (List.mem_of_getElem? (i := 1) rfl)) (fun _ h9 => h9) rfl dX4_fewestNights_1 ?_
  refine lv_iload_n hx hb dX4_fewestNights_4 rfl (lv_at hl 1 rfl) ?_
  refine va_iald hx hb hK hP 1 0 rfl rfl (zi_in (by omega) (by omega)) dX4_fewestNights_5 ?_
  refine lv_topi (fun x_1 ex_1 => ?_)
  clear ex_1
  refine lv_aload_n hx hb dX4_fewestNights_6 rfl (lv_at hl 0 rfl) ?_
  refine va_get (D := D) (ci := 3) (v := .int ds) (C := RX4) (T := TX4) (N := 16) hx hb hts (fun _ h => List.mem_cons_of_mem _ (List.mem_append_right _ h)) hown hK hP 0 rfl rfl 4 (by decide) (hts (.fieldLink RX4 24 "WinterWalk$Land" "doorsShut" "I") (List.mem_of_getElem? (i := 2) rfl)) (fun _ h9 => h9) rfl dX4_fewestNights_7 ?_
  refine lv_iconst (v := (-1)) hx hb dX4_fewestNights_10 (by decide) ?_
  refine lv_ixor hx hb dX4_fewestNights_11 ?_
  refine lv_topi (fun x_2 ex_2 => ?_)
  clear ex_2
  refine lv_iand hx hb dX4_fewestNights_12 ?_
  refine lv_topi (fun x_3 ex_3 => ?_)
  clear ex_3
  refine lv_istore_n (lv' := [(2, .int x_3), (0, .ref h), (1, .int he)]) hx hb dX4_fewestNights_13 rfl hl (by decide) rfl (fun ls hl => ?_)
  refine lv_iload_n hx hb dX4_fewestNights_14 rfl (lv_at hl 2 rfl) ?_
  refine lv_istore_n (lv' := [(3, .int he), (2, .int x_3), (0, .ref h), (1, .int he)]) hx hb dX4_fewestNights_15 rfl hl (by decide) rfl (fun ls hl => ?_)
  refine lv_ldc (v := 1000000) hx hb hown (hts (.constant RX4 119 (1000000)) (List.mem_of_getElem? (i := 3) rfl)) dX4_fewestNights_16 ?_
  refine lv_istore (lv' := [(4, .int 1000000), (3, .int he), (2, .int x_3), (0, .ref h), (1, .int he)]) hx hb dX4_fewestNights_18 hl (by decide) rfl (fun ls hl => ?_)
  refine lv_iconst (v := 0) hx hb dX4_fewestNights_20 (by decide) ?_
  refine lv_istore (lv' := [(5, .int 0), (4, .int 1000000), (3, .int he), (2, .int x_3), (0, .ref h), (1, .int he)]) hx hb dX4_fewestNights_21 hl (by decide) rfl (fun ls hl => ?_)
  have hL23 : ∀ (nf : Nat) (t5_c23 : Int32) (t4_c23 : Int32) (t3_c23 : Int32) (H : Heap) (locs : List Loc) (ls : Array Slot), (0 ≤ t5_c23.toInt ∧ t5_c23.toInt ≤ 8) → (0 ≤ t3_c23.toInt ∧ t3_c23.toInt ≤ 7) → (8 - t5_c23.toInt).toNat < nf → va_P D kl [(h, .inr (3, [.int vi, .int ro, .int wa, .int lz, .int ds, .int dy, .int ga, .int pa, .ref w0, .ref w1, .ref w2, .ref w3, .ref w4, .ref w5, .ref w6, .ref w7])), (w2, .inl (cI, 8, .inl fr)), (w3, .inl (cI, 8, .inl fn))] H → va_D A [(h, .inr (3, [.int vi, .int ro, .int wa, .int lz, .int ds, .int dy, .int ga, .int pa, .ref w0, .ref w1, .ref w2, .ref w3, .ref w4, .ref w5, .ref w6, .ref w7])), (w2, .inl (cI, 8, .inl fr)), (w3, .inl (cI, 8, .inl fn))] → va_S A s.heap H locs → lv_has ls 6 [(5, .int t5_c23), (4, .int t4_c23), (3, .int t3_c23), (2, .int x_3), (0, .ref h), (1, .int he)] → W p l e ({ frames := 0, cells := 0, slots := 0, locals := 0 }) s m ([.ref h, .int he] : List Value).toArray below meth c H locs 0 0 (MQ below (va_Qi (fun (r : Int32) (_u : Unit) => (0 ≤ r.toInt ∧ r.toInt ≤ 7)) (fun u t => wb D A ((fun _ => [(h, .inr (3, [.int vi, .int ro, .int wa, .int lz, .int ds, .int dy, .int ga, .int pa, .ref w0, .ref w1, .ref w2, .ref w3, .ref w4, .ref w5, .ref w6, .ref w7])), (w2, .inl (cI, 8, .inl fr)), (w3, .inl (cI, 8, .inl fn))]) u) t) A) ([.ref h, .int he] : List Value).toArray s 0 0 A) (F0 m 23 ls []) := by
    intro nf
    induction nf with
    | zero =>
      intro t5_c23 t4_c23 t3_c23 H locs ls i_t5_c23 i_t3_c23 hm
      exact absurd hm (Nat.not_lt_zero _)
    | succ nf ih23 =>
      intro t5_c23 t4_c23 t3_c23 H locs ls i_t5_c23 i_t3_c23 hm23 hP hD hS hl
      refine lv_iload hx hb dX4_fewestNights_23 (lv_at hl 0 rfl) ?_
      refine lv_aload_n hx hb dX4_fewestNights_25 rfl (lv_at hl 4 rfl) ?_
      refine va_get (D := D) (ci := 3) (v := .int vi) (C := RX4) (T := TX4) (N := 16) hx hb hts (fun _ h => List.mem_cons_of_mem _ (List.mem_append_right _ h)) hown hK hP 0 rfl rfl 0 (by decide) (hts (.fieldLink RX4 9 "WinterWalk$Land" "villages" "I") (List.mem_of_getElem? (i := 4) rfl)) (fun _ h9 => h9) rfl dX4_fewestNights_26 ?_
      refine lv_icmp_ge (tgt := 71) hx hb dX4_fewestNights_29 (by decide) (fun c_4 => ?_) (fun c_4 => ?_)
      · have f_4 : vi.toInt ≤ t5_c23.toInt := zi_le c_4
        refine lv_iload_n hx hb dX4_fewestNights_71 rfl (lv_at hl 2 rfl) ?_
        exact wr_i (v := t3_c23) hx hb hr hlocks hS () (by exact (by omega)) (hP.sub [0, 1, 2] rfl) (hD.sub [0, 1, 2] (by decide) rfl) dX4_fewestNights_72
      · have f_4 : ¬ vi.toInt ≤ t5_c23.toInt := zi_nle c_4
        refine lv_iload_n hx hb dX4_fewestNights_32 rfl (lv_at hl 3 rfl) ?_
        refine lv_iload hx hb dX4_fewestNights_33 (lv_at hl 0 rfl) ?_
        refine lv_ishr hx hb dX4_fewestNights_35 ?_
        refine lv_topi (fun x_5 ex_5 => ?_)
        clear ex_5
        refine lv_iconst (v := 1) hx hb dX4_fewestNights_36 (by decide) ?_
        refine lv_iand hx hb dX4_fewestNights_37 ?_
        refine lv_topi (fun x_6 ex_6 => ?_)
        clear ex_6
        refine lv_if_eq (tgt := 65) hx hb dX4_fewestNights_38 (by decide) (fun c_7 => ?_) (fun c_7 => ?_)
        · have f_7 : x_6.toInt = 0 := zi_eq c_7
          obtain ⟨x_8, ex_8⟩ : ∃ y : Int32, y = t5_c23 + Int32.ofInt 1 := ⟨_, rfl⟩
          refine lv_iinc (v := x_8) (lv' := [(5, .int x_8), (4, .int t4_c23), (3, .int t3_c23), (2, .int x_3), (0, .ref h), (1, .int he)]) hx hb dX4_fewestNights_65 hl (k := 0) rfl ex_8.symm (by decide) rfl (fun ls hl => ?_)
          have ex_8 : x_8 = t5_c23 + 1 := ex_8
          have e_8 : x_8.toInt = t5_c23.toInt + 1 := by rw [ex_8]; exact zi_add (rfl) (by decide) (by omega) (by omega)
          clear ex_8
          refine lv_goto (tgt := 23) hx hb dX4_fewestNights_68 (by decide) ?_
          exact ih23 x_8 t4_c23 t3_c23 _ _ _ (show 0 ≤ x_8.toInt ∧ x_8.toInt ≤ 8 from by omega) (show 0 ≤ t3_c23.toInt ∧ t3_c23.toInt ≤ 7 from by omega) (by omega) (hP.sub [0, 1, 2] rfl) (hD.sub [0, 1, 2] (by decide) rfl) hS (lv_sub hl [0, 1, 2, 3, 4, 5] rfl)
        · have f_7 : ¬ x_6.toInt = 0 := zi_ne c_7
          refine lv_aload_n hx hb dX4_fewestNights_41 rfl (lv_at hl 4 rfl) ?_
          refine va_get (D := D) (ci := 3) (v := .ref w3) (C := RX4) (T := TX4) (N := 16) hx hb hts (fun _ h => List.mem_cons_of_mem _ (List.mem_append_right _ h)) hown hK hP 0 rfl rfl 11 (by decide) (hts (.fieldLink RX4 46 "WinterWalk$Land" "nightsIn" "[I") (List.mem_of_getElem? (i := 5) rfl)) (fun _ h9 => h9) rfl dX4_fewestNights_42 ?_
          refine lv_iload hx hb dX4_fewestNights_45 (lv_at hl 0 rfl) ?_
          refine va_iald hx hb hK hP 2 0 rfl rfl (zi_in (by omega) (by omega)) dX4_fewestNights_47 ?_
          refine lv_topi (fun x_9 ex_9 => ?_)
          clear ex_9
          refine lv_iload hx hb dX4_fewestNights_48 (lv_at hl 1 rfl) ?_
          refine lv_icmp_ge (tgt := 65) hx hb dX4_fewestNights_50 (by decide) (fun c_10 => ?_) (fun c_10 => ?_)
          · have f_10 : t4_c23.toInt ≤ x_9.toInt := zi_le c_10
            obtain ⟨x_11, ex_11⟩ : ∃ y : Int32, y = t5_c23 + Int32.ofInt 1 := ⟨_, rfl⟩
            refine lv_iinc (v := x_11) (lv' := [(5, .int x_11), (4, .int t4_c23), (3, .int t3_c23), (2, .int x_3), (0, .ref h), (1, .int he)]) hx hb dX4_fewestNights_65 hl (k := 0) rfl ex_11.symm (by decide) rfl (fun ls hl => ?_)
            have ex_11 : x_11 = t5_c23 + 1 := ex_11
            have e_11 : x_11.toInt = t5_c23.toInt + 1 := by rw [ex_11]; exact zi_add (rfl) (by decide) (by omega) (by omega)
            clear ex_11
            refine lv_goto (tgt := 23) hx hb dX4_fewestNights_68 (by decide) ?_
            exact ih23 x_11 t4_c23 t3_c23 _ _ _ (show 0 ≤ x_11.toInt ∧ x_11.toInt ≤ 8 from by omega) (show 0 ≤ t3_c23.toInt ∧ t3_c23.toInt ≤ 7 from by omega) (by omega) (hP.sub [0, 1, 2] rfl) (hD.sub [0, 1, 2] (by decide) rfl) hS (lv_sub hl [0, 1, 2, 3, 4, 5] rfl)
          · have f_10 : ¬ t4_c23.toInt ≤ x_9.toInt := zi_nle c_10
            refine lv_iload hx hb dX4_fewestNights_53 (lv_at hl 0 rfl) ?_
            refine lv_istore_n (lv' := [(3, .int t5_c23), (5, .int t5_c23), (4, .int t4_c23), (2, .int x_3), (0, .ref h), (1, .int he)]) hx hb dX4_fewestNights_55 rfl hl (by decide) rfl (fun ls hl => ?_)
            refine lv_aload_n hx hb dX4_fewestNights_56 rfl (lv_at hl 4 rfl) ?_
            refine va_get (D := D) (ci := 3) (v := .ref w3) (C := RX4) (T := TX4) (N := 16) hx hb hts (fun _ h => List.mem_cons_of_mem _ (List.mem_append_right _ h)) hown hK hP 0 rfl rfl 11 (by decide) (hts (.fieldLink RX4 46 "WinterWalk$Land" "nightsIn" "[I") (List.mem_of_getElem? (i := 5) rfl)) (fun _ h9 => h9) rfl dX4_fewestNights_57 ?_
            refine lv_iload hx hb dX4_fewestNights_60 (lv_at hl 1 rfl) ?_
            refine va_iald hx hb hK hP 2 0 rfl rfl (zi_in (by omega) (by omega)) dX4_fewestNights_62 ?_
            refine lv_topi (fun x_12 ex_12 => ?_)
            clear ex_12
            refine lv_istore (lv' := [(4, .int x_12), (3, .int t5_c23), (5, .int t5_c23), (2, .int x_3), (0, .ref h), (1, .int he)]) hx hb dX4_fewestNights_63 hl (by decide) rfl (fun ls hl => ?_)
            obtain ⟨x_13, ex_13⟩ : ∃ y : Int32, y = t5_c23 + Int32.ofInt 1 := ⟨_, rfl⟩
            refine lv_iinc (v := x_13) (lv' := [(5, .int x_13), (4, .int x_12), (3, .int t5_c23), (2, .int x_3), (0, .ref h), (1, .int he)]) hx hb dX4_fewestNights_65 hl (k := 2) rfl ex_13.symm (by decide) rfl (fun ls hl => ?_)
            have ex_13 : x_13 = t5_c23 + 1 := ex_13
            have e_13 : x_13.toInt = t5_c23.toInt + 1 := by rw [ex_13]; exact zi_add (rfl) (by decide) (by omega) (by omega)
            clear ex_13
            refine lv_goto (tgt := 23) hx hb dX4_fewestNights_68 (by decide) ?_
            exact ih23 x_13 x_12 t5_c23 _ _ _ (show 0 ≤ x_13.toInt ∧ x_13.toInt ≤ 8 from by omega) (show 0 ≤ t5_c23.toInt ∧ t5_c23.toInt ≤ 7 from by omega) (by omega) (hP.sub [0, 1, 2] rfl) (hD.sub [0, 1, 2] (by decide) rfl) hS (lv_sub hl [0, 1, 2, 3, 4, 5] rfl)
  exact hL23 (((8 - (0 : Int32).toInt).toNat) + 1) 0 1000000 he _ _ _ (show 0 ≤ 0 ∧ 0 ≤ 8 from by omega) (show 0 ≤ he.toInt ∧ he.toInt ≤ 7 from by omega) (Nat.lt_succ_self _) (hP.sub [0, 1, 2] rfl) (hD.sub [0, 1, 2] (by decide) rfl) hS (lv_sub hl [0, 1, 2, 3, 4, 5] rfl)
set_option maxHeartbeats 4000000 in
set_option maxRecDepth 100000 in
theorem g_X4_goesTo (l : Launch) (D : va_G) (cI cB cQ : ClassId) (sz : Nat) (h : Nat) (w0 : Nat) (w1 : Nat) (w2 : Nat) (w3 : Nat) (w4 : Nat) (w5 : Nat) (w6 : Nat) (w7 : Nat) (vi : Int32) (ro : Int32) (wa : Int32) (lz : Int32) (ds : Int32) (dy : Int32) (ga : Int32) (pa : Int32) (w : Int32) (fo : Nat → Int32) (fr : Nat → Int32) (fn : Nat → Int32) (fk : Nat → Int32) (fa : Nat → Int32) (fb : Nat → Int32) (ha : ∀ j, j < 3 → 0 ≤ (fa j).toInt ∧ (fa j).toInt ≤ 7) (h_vi : 0 ≤ vi.toInt ∧ vi.toInt ≤ 8) (h_wa : 0 ≤ wa.toInt ∧ wa.toInt ≤ 3) (h_w : 0 ≤ w.toInt ∧ w.toInt ≤ 2) : mi l yX4_goesTo wsX4_goesTo ({ frames := 1, cells := 0, slots := 0, locals := 25 }) D cI cB cQ [.ref h, .int w] sz [(h, .inr (3, [.int vi, .int ro, .int wa, .int lz, .int ds, .int dy, .int ga, .int pa, .ref w0, .ref w1, .ref w2, .ref w3, .ref w4, .ref w5, .ref w6, .ref w7])), (w1, .inl (cI, 8, .inl fo)), (w2, .inl (cI, 8, .inl fr)), (w3, .inl (cI, 8, .inl fn)), (w5, .inl (cI, 3, .inl fk)), (w6, .inl (cI, 3, .inl fa)), (w7, .inl (cI, 3, .inl fb))] (fun (r : Int32) (_u : Unit) => (0 ≤ r.toInt ∧ r.toInt ≤ 7)) (fun _ => [(h, .inr (3, [.int vi, .int ro, .int wa, .int lz, .int ds, .int dy, .int ga, .int pa, .ref w0, .ref w1, .ref w2, .ref w3, .ref w4, .ref w5, .ref w6, .ref w7])), (w1, .inl (cI, 8, .inl fo)), (w2, .inl (cI, 8, .inl fr)), (w3, .inl (cI, 8, .inl fn)), (w5, .inl (cI, 3, .inl fk)), (w6, .inl (cI, 3, .inl fa)), (w7, .inl (cI, 3, .inl fb))]) 0 0 := by
  refine wm_i (cc := cX4_goesTo) (maxL := 4) (ret := (some .int)) (by decide) rfl (Nat.le_of_ble_eq_true rfl) ?_
  intro p e s m below meth c A ls hx hb hr hml hown hts hlocks hin hP hK hD hN hA hl hS
  have hown : s.vm.findClass RX4 = some m.cls := hown
  have hl : lv_has ls 4 [(0, .ref h), (1, .int w)] := hl
  change W p l e ({ frames := 1, cells := 0, slots := 0, locals := 25 }) s m ([.ref h, .int w] : List Value).toArray below meth c s.heap [] 0 0 (MQ below (va_Qi (fun (r : Int32) (_u : Unit) => (0 ≤ r.toInt ∧ r.toInt ≤ 7)) (fun u t => wb D A ((fun _ => [(h, .inr (3, [.int vi, .int ro, .int wa, .int lz, .int ds, .int dy, .int ga, .int pa, .ref w0, .ref w1, .ref w2, .ref w3, .ref w4, .ref w5, .ref w6, .ref w7])), (w1, .inl (cI, 8, .inl fo)), (w2, .inl (cI, 8, .inl fr)), (w3, .inl (cI, 8, .inl fn)), (w5, .inl (cI, 3, .inl fk)), (w6, .inl (cI, 3, .inl fa)), (w7, .inl (cI, 3, .inl fb))]) u) t) A) ([.ref h, .int w] : List Value).toArray s 0 0 A) (F0 m 0 ls [])
  refine lv_aload_n hx hb dX4_goesTo_0 rfl (lv_at hl 0 rfl) ?_
  refine va_get (D := D) (ci := 3) (v := .ref w6) (C := RX4) (T := TX4) (N := 16) hx hb hts (fun _ h => List.mem_cons_of_mem _ (List.mem_append_right _ h)) hown hK hP 0 rfl rfl 14 (by decide) (hts (.fieldLink RX4 55 "WinterWalk$Land" "at" "[I") (List.mem_of_getElem? (i := 1) rfl)) (fun _ h9 => h9) rfl dX4_goesTo_1 ?_
  refine lv_iload_n hx hb dX4_goesTo_4 rfl (lv_at hl 1 rfl) ?_
  refine va_iald hx hb hK hP 5 0 rfl rfl (zi_in (by omega) (by omega)) dX4_goesTo_5 ?_
  refine lv_topi (fun x_1 ex_1 => ?_)
  have f_1 : 0 ≤ x_1.toInt ∧ x_1.toInt ≤ 7 := by rw [ex_1]; exact ha _ (zi_cl (by omega) (by omega))
  clear ex_1
  refine lv_istore_n (lv' := [(2, .int x_1), (0, .ref h), (1, .int w)]) hx hb dX4_goesTo_6 rfl hl (by decide) rfl (fun ls hl => ?_)
  refine lv_aload_n hx hb dX4_goesTo_7 rfl (lv_at hl 1 rfl) ?_
  refine va_get (D := D) (ci := 3) (v := .ref w2) (C := RX4) (T := TX4) (N := 16) hx hb hts (fun _ h => List.mem_cons_of_mem _ (List.mem_append_right _ h)) hown hK hP 0 rfl rfl 10 (by decide) (hts (.fieldLink RX4 43 "WinterWalk$Land" "roads" "[I") (List.mem_of_getElem? (i := 2) rfl)) (fun _ h9 => h9) rfl dX4_goesTo_8 ?_
  refine lv_iload_n hx hb dX4_goesTo_11 rfl (lv_at hl 0 rfl) ?_
  refine va_iald hx hb hK hP 2 0 rfl rfl (zi_in (by omega) (by omega)) dX4_goesTo_12 ?_
  refine lv_topi (fun x_2 ex_2 => ?_)
  clear ex_2
  refine lv_aload_n hx hb dX4_goesTo_13 rfl (lv_at hl 1 rfl) ?_
  refine va_get (D := D) (ci := 3) (v := .int ds) (C := RX4) (T := TX4) (N := 16) hx hb hts (fun _ h => List.mem_cons_of_mem _ (List.mem_append_right _ h)) hown hK hP 0 rfl rfl 4 (by decide) (hts (.fieldLink RX4 24 "WinterWalk$Land" "doorsShut" "I") (List.mem_of_getElem? (i := 3) rfl)) (fun _ h9 => h9) rfl dX4_goesTo_14 ?_
  refine lv_iconst (v := (-1)) hx hb dX4_goesTo_17 (by decide) ?_
  refine lv_ixor hx hb dX4_goesTo_18 ?_
  refine lv_topi (fun x_3 ex_3 => ?_)
  clear ex_3
  refine lv_iand hx hb dX4_goesTo_19 ?_
  refine lv_topi (fun x_4 ex_4 => ?_)
  clear ex_4
  refine lv_istore_n (lv' := [(3, .int x_4), (2, .int x_1), (0, .ref h), (1, .int w)]) hx hb dX4_goesTo_20 rfl hl (by decide) rfl (fun ls hl => ?_)
  refine lv_aload_n hx hb dX4_goesTo_21 rfl (lv_at hl 2 rfl) ?_
  refine va_get (D := D) (ci := 3) (v := .ref w5) (C := RX4) (T := TX4) (N := 16) hx hb hts (fun _ h => List.mem_cons_of_mem _ (List.mem_append_right _ h)) hown hK hP 0 rfl rfl 13 (by decide) (hts (.fieldLink RX4 52 "WinterWalk$Land" "kinds" "[I") (List.mem_of_getElem? (i := 4) rfl)) (fun _ h9 => h9) rfl dX4_goesTo_22 ?_
  refine lv_iload_n hx hb dX4_goesTo_25 rfl (lv_at hl 3 rfl) ?_
  refine va_iald hx hb hK hP 4 0 rfl rfl (zi_in (by omega) (by omega)) dX4_goesTo_26 ?_
  refine lv_topi (fun x_5 ex_5 => ?_)
  clear ex_5
  by_cases f_6 : x_5.toInt < 2 ∨ 5 < x_5.toInt
  · refine lv_tableOut (tgt := 109) hx hb dX4_goesTo_27 f_6 (by decide) ?_
    refine lv_aload_n hx hb dX4_goesTo_109 rfl (lv_at hl 2 rfl) ?_
    refine lv_iload_n hx hb dX4_goesTo_110 rfl (lv_at hl 0 rfl) ?_
    refine lv_iload_n hx hb dX4_goesTo_111 rfl (lv_at hl 1 rfl) ?_
    have k_7 := (g_X4_greatestOffer l D cI cB cQ s.heap.size h w0 w1 w2 w3 w4 w5 w6 w7 vi ro wa lz ds dy ga pa x_4 x_1 fo (by omega) (by omega) (by omega))
    refine wc_i (WC := [(h, .inr (3, [.int vi, .int ro, .int wa, .int lz, .int ds, .int dy, .int ga, .int pa, .ref w0, .ref w1, .ref w2, .ref w3, .ref w4, .ref w5, .ref w6, .ref w7])), (w1, .inl (cI, 8, .inl fo))]) (WR := [(w2, .inl (cI, 8, .inl fr)), (w3, .inl (cI, 8, .inl fn)), (w5, .inl (cI, 3, .inl fk)), (w6, .inl (cI, 3, .inl fa)), (w7, .inl (cI, 3, .inl fb))]) (va_runV (As := [.int x_4, .int x_1]) (rest := []) ⟨hx, hb, hml, hown, hts⟩ k_7 (cwV 2 hts gX4_goesTo_X4_greatestOffer rfl rfl rfl (by decide +kernel) ⟨Nat.le_of_ble_eq_true rfl, Nat.le_of_ble_eq_true rfl⟩) (wp_V hP hK hD hN [0, 1] (by decide) rfl (ci := 3) rfl rfl) rfl rfl hl.1 rfl (lv_room (Nat.le_of_ble_eq_true rfl)) dX4_goesTo_112 ⟨Nat.le_of_ble_eq_true rfl, Nat.le_of_ble_eq_true rfl⟩) hP hD hS hA [0, 1] [2, 3, 4, 5, 6] rfl rfl (by decide) (by decide) (fun r_7 u_7 H locs hw_7 hP hD hS => ?_)
    clear k_7
    have hP : va_P D kl [(w2, .inl (cI, 8, .inl fr)), (w3, .inl (cI, 8, .inl fn)), (w5, .inl (cI, 3, .inl fk)), (w6, .inl (cI, 3, .inl fa)), (w7, .inl (cI, 3, .inl fb)), (h, .inr (3, [.int vi, .int ro, .int wa, .int lz, .int ds, .int dy, .int ga, .int pa, .ref w0, .ref w1, .ref w2, .ref w3, .ref w4, .ref w5, .ref w6, .ref w7])), (w1, .inl (cI, 8, .inl fo))] H := hP
    have hD : va_D A [(w2, .inl (cI, 8, .inl fr)), (w3, .inl (cI, 8, .inl fn)), (w5, .inl (cI, 3, .inl fk)), (w6, .inl (cI, 3, .inl fa)), (w7, .inl (cI, 3, .inl fb)), (h, .inr (3, [.int vi, .int ro, .int wa, .int lz, .int ds, .int dy, .int ga, .int pa, .ref w0, .ref w1, .ref w2, .ref w3, .ref w4, .ref w5, .ref w6, .ref w7])), (w1, .inl (cI, 8, .inl fo))] := hD
    have c7_0 := hw_7
    have c7_0 : 0 ≤ r_7.toInt ∧ r_7.toInt ≤ 7 := c7_0
    exact wr_i (v := r_7) hx hb hr hlocks hS () (by exact (by omega)) (hP.sub [5, 6, 0, 1, 2, 3, 4] rfl) (hD.sub [5, 6, 0, 1, 2, 3, 4] (by decide) rfl) dX4_goesTo_115
  · rcases (show x_5.toInt = 2 ∨ x_5.toInt = 3 ∨ x_5.toInt = 4 ∨ x_5.toInt = 5 by omega) with g_6 | g_6 | g_6 | g_6
    · refine lv_tableIn (off := 29) (tgt := 56) hx hb dX4_goesTo_27 (by omega) (by omega) (by rw [g_6]; rfl) (by decide) ?_
      refine lv_aload_n hx hb dX4_goesTo_56 rfl (lv_at hl 2 rfl) ?_
      refine va_get (D := D) (ci := 3) (v := .int dy) (C := RX4) (T := TX4) (N := 16) hx hb hts (fun _ h => List.mem_cons_of_mem _ (List.mem_append_right _ h)) hown hK hP 0 rfl rfl 5 (by decide) (hts (.fieldLink RX4 27 "WinterWalk$Land" "day" "I") (List.mem_of_getElem? (i := 5) rfl)) (fun _ h9 => h9) rfl dX4_goesTo_57 ?_
      refine lv_iconst (v := 3) hx hb dX4_goesTo_60 (by decide) ?_
      refine lv_irem hx hb dX4_goesTo_61 (by decide) ?_
      refine lv_topi (fun x_8 ex_8 => ?_)
      clear ex_8
      refine lv_iconst (v := 2) hx hb dX4_goesTo_62 (by decide) ?_
      refine lv_icmp_ne (tgt := 70) hx hb dX4_goesTo_63 (by decide) (fun c_9 => ?_) (fun c_9 => ?_)
      · have f_9 : ¬ x_8.toInt = 2 := zi_ne c_9
        refine lv_aload_n hx hb dX4_goesTo_70 rfl (lv_at hl 2 rfl) ?_
        refine lv_iload_n hx hb dX4_goesTo_71 rfl (lv_at hl 0 rfl) ?_
        refine lv_iload_n hx hb dX4_goesTo_72 rfl (lv_at hl 1 rfl) ?_
        have k_10 := (g_X4_greatestOffer l D cI cB cQ s.heap.size h w0 w1 w2 w3 w4 w5 w6 w7 vi ro wa lz ds dy ga pa x_4 x_1 fo (by omega) (by omega) (by omega))
        refine wc_i (WC := [(h, .inr (3, [.int vi, .int ro, .int wa, .int lz, .int ds, .int dy, .int ga, .int pa, .ref w0, .ref w1, .ref w2, .ref w3, .ref w4, .ref w5, .ref w6, .ref w7])), (w1, .inl (cI, 8, .inl fo))]) (WR := [(w2, .inl (cI, 8, .inl fr)), (w3, .inl (cI, 8, .inl fn)), (w5, .inl (cI, 3, .inl fk)), (w6, .inl (cI, 3, .inl fa)), (w7, .inl (cI, 3, .inl fb))]) (va_runV (As := [.int x_4, .int x_1]) (rest := []) ⟨hx, hb, hml, hown, hts⟩ k_10 (cwV 2 hts gX4_goesTo_X4_greatestOffer rfl rfl rfl (by decide +kernel) ⟨Nat.le_of_ble_eq_true rfl, Nat.le_of_ble_eq_true rfl⟩) (wp_V hP hK hD hN [0, 1] (by decide) rfl (ci := 3) rfl rfl) rfl rfl hl.1 rfl (lv_room (Nat.le_of_ble_eq_true rfl)) dX4_goesTo_73 ⟨Nat.le_of_ble_eq_true rfl, Nat.le_of_ble_eq_true rfl⟩) hP hD hS hA [0, 1] [2, 3, 4, 5, 6] rfl rfl (by decide) (by decide) (fun r_10 u_10 H locs hw_10 hP hD hS => ?_)
        clear k_10
        have hP : va_P D kl [(w2, .inl (cI, 8, .inl fr)), (w3, .inl (cI, 8, .inl fn)), (w5, .inl (cI, 3, .inl fk)), (w6, .inl (cI, 3, .inl fa)), (w7, .inl (cI, 3, .inl fb)), (h, .inr (3, [.int vi, .int ro, .int wa, .int lz, .int ds, .int dy, .int ga, .int pa, .ref w0, .ref w1, .ref w2, .ref w3, .ref w4, .ref w5, .ref w6, .ref w7])), (w1, .inl (cI, 8, .inl fo))] H := hP
        have hD : va_D A [(w2, .inl (cI, 8, .inl fr)), (w3, .inl (cI, 8, .inl fn)), (w5, .inl (cI, 3, .inl fk)), (w6, .inl (cI, 3, .inl fa)), (w7, .inl (cI, 3, .inl fb)), (h, .inr (3, [.int vi, .int ro, .int wa, .int lz, .int ds, .int dy, .int ga, .int pa, .ref w0, .ref w1, .ref w2, .ref w3, .ref w4, .ref w5, .ref w6, .ref w7])), (w1, .inl (cI, 8, .inl fo))] := hD
        have c10_0 := hw_10
        have c10_0 : 0 ≤ r_10.toInt ∧ r_10.toInt ≤ 7 := c10_0
        exact wr_i (v := r_10) hx hb hr hlocks hS () (by exact (by omega)) (hP.sub [5, 6, 0, 1, 2, 3, 4] rfl) (hD.sub [5, 6, 0, 1, 2, 3, 4] (by decide) rfl) dX4_goesTo_76
      · have f_9 : x_8.toInt = 2 := zi_eq c_9
        refine lv_iload_n hx hb dX4_goesTo_66 rfl (lv_at hl 1 rfl) ?_
        refine lv_goto (tgt := 76) hx hb dX4_goesTo_67 (by decide) ?_
        exact wr_i (v := x_1) hx hb hr hlocks hS () (by exact (by omega)) (hP.sub [0, 1, 2, 3, 4, 5, 6] rfl) (hD.sub [0, 1, 2, 3, 4, 5, 6] (by decide) rfl) dX4_goesTo_76
    · refine lv_tableIn (off := 50) (tgt := 77) hx hb dX4_goesTo_27 (by omega) (by omega) (by rw [g_6]; rfl) (by decide) ?_
      refine lv_aload_n hx hb dX4_goesTo_77 rfl (lv_at hl 2 rfl) ?_
      refine lv_iload_n hx hb dX4_goesTo_78 rfl (lv_at hl 0 rfl) ?_
      refine lv_aload_n hx hb dX4_goesTo_79 rfl (lv_at hl 2 rfl) ?_
      refine va_get (D := D) (ci := 3) (v := .ref w7) (C := RX4) (T := TX4) (N := 16) hx hb hts (fun _ h => List.mem_cons_of_mem _ (List.mem_append_right _ h)) hown hK hP 0 rfl rfl 15 (by decide) (hts (.fieldLink RX4 58 "WinterWalk$Land" "before" "[I") (List.mem_of_getElem? (i := 6) rfl)) (fun _ h9 => h9) rfl dX4_goesTo_80 ?_
      refine lv_iload_n hx hb dX4_goesTo_83 rfl (lv_at hl 3 rfl) ?_
      refine va_iald hx hb hK hP 6 0 rfl rfl (zi_in (by omega) (by omega)) dX4_goesTo_84 ?_
      refine lv_topi (fun x_11 ex_11 => ?_)
      clear ex_11
      have k_12 := (g_X4_withoutWayBack l D cI cB cQ s.heap.size x_4 x_11)
      refine wc_i (WC := []) (WR := [(h, .inr (3, [.int vi, .int ro, .int wa, .int lz, .int ds, .int dy, .int ga, .int pa, .ref w0, .ref w1, .ref w2, .ref w3, .ref w4, .ref w5, .ref w6, .ref w7])), (w1, .inl (cI, 8, .inl fo)), (w2, .inl (cI, 8, .inl fr)), (w3, .inl (cI, 8, .inl fn)), (w5, .inl (cI, 3, .inl fk)), (w6, .inl (cI, 3, .inl fa)), (w7, .inl (cI, 3, .inl fb))]) (va_runS (As := [.int x_4, .int x_11]) (rest := [.ref h]) ⟨hx, hb, hml, hown, hts⟩ k_12 (va_cwS 2 hts gX4_goesTo_X4_withoutWayBack rfl rfl rfl (by decide +kernel) ⟨Nat.le_of_ble_eq_true rfl, Nat.le_of_ble_eq_true rfl⟩) (wp_S hP hK hD hN [] (by decide) rfl) rfl rfl hl.1 rfl (lv_room (Nat.le_of_ble_eq_true rfl)) dX4_goesTo_85 ⟨Nat.le_of_ble_eq_true rfl, Nat.le_of_ble_eq_true rfl⟩) hP hD hS hA [] [0, 1, 2, 3, 4, 5, 6] rfl rfl (by decide) (by decide) (fun r_12 u_12 H locs hw_12 hP hD hS => ?_)
      clear k_12
      have hP : va_P D kl [(h, .inr (3, [.int vi, .int ro, .int wa, .int lz, .int ds, .int dy, .int ga, .int pa, .ref w0, .ref w1, .ref w2, .ref w3, .ref w4, .ref w5, .ref w6, .ref w7])), (w1, .inl (cI, 8, .inl fo)), (w2, .inl (cI, 8, .inl fr)), (w3, .inl (cI, 8, .inl fn)), (w5, .inl (cI, 3, .inl fk)), (w6, .inl (cI, 3, .inl fa)), (w7, .inl (cI, 3, .inl fb))] H := hP
      have hD : va_D A [(h, .inr (3, [.int vi, .int ro, .int wa, .int lz, .int ds, .int dy, .int ga, .int pa, .ref w0, .ref w1, .ref w2, .ref w3, .ref w4, .ref w5, .ref w6, .ref w7])), (w1, .inl (cI, 8, .inl fo)), (w2, .inl (cI, 8, .inl fr)), (w3, .inl (cI, 8, .inl fn)), (w5, .inl (cI, 3, .inl fk)), (w6, .inl (cI, 3, .inl fa)), (w7, .inl (cI, 3, .inl fb))] := hD
      clear hw_12
      refine lv_iload_n hx hb dX4_goesTo_88 rfl (lv_at hl 1 rfl) ?_
      have k_13 := (g_X4_greatestOffer l D cI cB cQ H.size h w0 w1 w2 w3 w4 w5 w6 w7 vi ro wa lz ds dy ga pa r_12 x_1 fo (by omega) (by omega) (by omega))
      refine wc_i (WC := [(h, .inr (3, [.int vi, .int ro, .int wa, .int lz, .int ds, .int dy, .int ga, .int pa, .ref w0, .ref w1, .ref w2, .ref w3, .ref w4, .ref w5, .ref w6, .ref w7])), (w1, .inl (cI, 8, .inl fo))]) (WR := [(w2, .inl (cI, 8, .inl fr)), (w3, .inl (cI, 8, .inl fn)), (w5, .inl (cI, 3, .inl fk)), (w6, .inl (cI, 3, .inl fa)), (w7, .inl (cI, 3, .inl fb))]) (va_runV (As := [.int r_12, .int x_1]) (rest := []) ⟨hx, hb, hml, hown, hts⟩ k_13 (cwV 2 hts gX4_goesTo_X4_greatestOffer rfl rfl rfl (by decide +kernel) ⟨Nat.le_of_ble_eq_true rfl, Nat.le_of_ble_eq_true rfl⟩) (wp_V hP hK hD hN [0, 1] (by decide) rfl (ci := 3) rfl rfl) rfl rfl hl.1 rfl (lv_room (Nat.le_of_ble_eq_true rfl)) dX4_goesTo_89 ⟨Nat.le_of_ble_eq_true rfl, Nat.le_of_ble_eq_true rfl⟩) hP hD hS hA [0, 1] [2, 3, 4, 5, 6] rfl rfl (by decide) (by decide) (fun r_13 u_13 H locs hw_13 hP hD hS => ?_)
      clear k_13
      have hP : va_P D kl [(w2, .inl (cI, 8, .inl fr)), (w3, .inl (cI, 8, .inl fn)), (w5, .inl (cI, 3, .inl fk)), (w6, .inl (cI, 3, .inl fa)), (w7, .inl (cI, 3, .inl fb)), (h, .inr (3, [.int vi, .int ro, .int wa, .int lz, .int ds, .int dy, .int ga, .int pa, .ref w0, .ref w1, .ref w2, .ref w3, .ref w4, .ref w5, .ref w6, .ref w7])), (w1, .inl (cI, 8, .inl fo))] H := hP
      have hD : va_D A [(w2, .inl (cI, 8, .inl fr)), (w3, .inl (cI, 8, .inl fn)), (w5, .inl (cI, 3, .inl fk)), (w6, .inl (cI, 3, .inl fa)), (w7, .inl (cI, 3, .inl fb)), (h, .inr (3, [.int vi, .int ro, .int wa, .int lz, .int ds, .int dy, .int ga, .int pa, .ref w0, .ref w1, .ref w2, .ref w3, .ref w4, .ref w5, .ref w6, .ref w7])), (w1, .inl (cI, 8, .inl fo))] := hD
      have c13_0 := hw_13
      have c13_0 : 0 ≤ r_13.toInt ∧ r_13.toInt ≤ 7 := c13_0
      exact wr_i (v := r_13) hx hb hr hlocks hS () (by exact (by omega)) (hP.sub [5, 6, 0, 1, 2, 3, 4] rfl) (hD.sub [5, 6, 0, 1, 2, 3, 4] (by decide) rfl) dX4_goesTo_92
    · refine lv_tableIn (off := 66) (tgt := 93) hx hb dX4_goesTo_27 (by omega) (by omega) (by rw [g_6]; rfl) (by decide) ?_
      refine lv_aload_n hx hb dX4_goesTo_93 rfl (lv_at hl 2 rfl) ?_
      refine lv_iload_n hx hb dX4_goesTo_94 rfl (lv_at hl 1 rfl) ?_
      have k_14 := (g_X4_fewestNights l D cI cB cQ s.heap.size h w0 w1 w2 w3 w4 w5 w6 w7 vi ro wa lz ds dy ga pa x_1 fr fn (by omega) (by omega) (by omega))
      refine wc_i (WC := [(h, .inr (3, [.int vi, .int ro, .int wa, .int lz, .int ds, .int dy, .int ga, .int pa, .ref w0, .ref w1, .ref w2, .ref w3, .ref w4, .ref w5, .ref w6, .ref w7])), (w2, .inl (cI, 8, .inl fr)), (w3, .inl (cI, 8, .inl fn))]) (WR := [(w1, .inl (cI, 8, .inl fo)), (w5, .inl (cI, 3, .inl fk)), (w6, .inl (cI, 3, .inl fa)), (w7, .inl (cI, 3, .inl fb))]) (va_runV (As := [.int x_1]) (rest := []) ⟨hx, hb, hml, hown, hts⟩ k_14 (cwV 1 hts gX4_goesTo_X4_fewestNights rfl rfl rfl (by decide +kernel) ⟨Nat.le_of_ble_eq_true rfl, Nat.le_of_ble_eq_true rfl⟩) (wp_V hP hK hD hN [0, 2, 3] (by decide) rfl (ci := 3) rfl rfl) rfl rfl hl.1 rfl (lv_room (Nat.le_of_ble_eq_true rfl)) dX4_goesTo_95 ⟨Nat.le_of_ble_eq_true rfl, Nat.le_of_ble_eq_true rfl⟩) hP hD hS hA [0, 2, 3] [1, 4, 5, 6] rfl rfl (by decide) (by decide) (fun r_14 u_14 H locs hw_14 hP hD hS => ?_)
      clear k_14
      have hP : va_P D kl [(w1, .inl (cI, 8, .inl fo)), (w5, .inl (cI, 3, .inl fk)), (w6, .inl (cI, 3, .inl fa)), (w7, .inl (cI, 3, .inl fb)), (h, .inr (3, [.int vi, .int ro, .int wa, .int lz, .int ds, .int dy, .int ga, .int pa, .ref w0, .ref w1, .ref w2, .ref w3, .ref w4, .ref w5, .ref w6, .ref w7])), (w2, .inl (cI, 8, .inl fr)), (w3, .inl (cI, 8, .inl fn))] H := hP
      have hD : va_D A [(w1, .inl (cI, 8, .inl fo)), (w5, .inl (cI, 3, .inl fk)), (w6, .inl (cI, 3, .inl fa)), (w7, .inl (cI, 3, .inl fb)), (h, .inr (3, [.int vi, .int ro, .int wa, .int lz, .int ds, .int dy, .int ga, .int pa, .ref w0, .ref w1, .ref w2, .ref w3, .ref w4, .ref w5, .ref w6, .ref w7])), (w2, .inl (cI, 8, .inl fr)), (w3, .inl (cI, 8, .inl fn))] := hD
      have c14_0 := hw_14
      have c14_0 : 0 ≤ r_14.toInt ∧ r_14.toInt ≤ 7 := c14_0
      exact wr_i (v := r_14) hx hb hr hlocks hS () (by exact (by omega)) (hP.sub [4, 0, 5, 6, 1, 2, 3] rfl) (hD.sub [4, 0, 5, 6, 1, 2, 3] (by decide) rfl) dX4_goesTo_98
    · refine lv_tableIn (off := 72) (tgt := 99) hx hb dX4_goesTo_27 (by omega) (by omega) (by rw [g_6]; rfl) (by decide) ?_
      refine lv_aload_n hx hb dX4_goesTo_99 rfl (lv_at hl 2 rfl) ?_
      refine lv_aload_n hx hb dX4_goesTo_100 rfl (lv_at hl 2 rfl) ?_
      refine lv_iload_n hx hb dX4_goesTo_101 rfl (lv_at hl 1 rfl) ?_
      have k_15 := (g_X4_fewestNights l D cI cB cQ s.heap.size h w0 w1 w2 w3 w4 w5 w6 w7 vi ro wa lz ds dy ga pa x_1 fr fn (by omega) (by omega) (by omega))
      refine wc_i (WC := [(h, .inr (3, [.int vi, .int ro, .int wa, .int lz, .int ds, .int dy, .int ga, .int pa, .ref w0, .ref w1, .ref w2, .ref w3, .ref w4, .ref w5, .ref w6, .ref w7])), (w2, .inl (cI, 8, .inl fr)), (w3, .inl (cI, 8, .inl fn))]) (WR := [(w1, .inl (cI, 8, .inl fo)), (w5, .inl (cI, 3, .inl fk)), (w6, .inl (cI, 3, .inl fa)), (w7, .inl (cI, 3, .inl fb))]) (va_runV (As := [.int x_1]) (rest := [.ref h]) ⟨hx, hb, hml, hown, hts⟩ k_15 (cwV 1 hts gX4_goesTo_X4_fewestNights rfl rfl rfl (by decide +kernel) ⟨Nat.le_of_ble_eq_true rfl, Nat.le_of_ble_eq_true rfl⟩) (wp_V hP hK hD hN [0, 2, 3] (by decide) rfl (ci := 3) rfl rfl) rfl rfl hl.1 rfl (lv_room (Nat.le_of_ble_eq_true rfl)) dX4_goesTo_102 ⟨Nat.le_of_ble_eq_true rfl, Nat.le_of_ble_eq_true rfl⟩) hP hD hS hA [0, 2, 3] [1, 4, 5, 6] rfl rfl (by decide) (by decide) (fun r_15 u_15 H locs hw_15 hP hD hS => ?_)
      clear k_15
      have hP : va_P D kl [(w1, .inl (cI, 8, .inl fo)), (w5, .inl (cI, 3, .inl fk)), (w6, .inl (cI, 3, .inl fa)), (w7, .inl (cI, 3, .inl fb)), (h, .inr (3, [.int vi, .int ro, .int wa, .int lz, .int ds, .int dy, .int ga, .int pa, .ref w0, .ref w1, .ref w2, .ref w3, .ref w4, .ref w5, .ref w6, .ref w7])), (w2, .inl (cI, 8, .inl fr)), (w3, .inl (cI, 8, .inl fn))] H := hP
      have hD : va_D A [(w1, .inl (cI, 8, .inl fo)), (w5, .inl (cI, 3, .inl fk)), (w6, .inl (cI, 3, .inl fa)), (w7, .inl (cI, 3, .inl fb)), (h, .inr (3, [.int vi, .int ro, .int wa, .int lz, .int ds, .int dy, .int ga, .int pa, .ref w0, .ref w1, .ref w2, .ref w3, .ref w4, .ref w5, .ref w6, .ref w7])), (w2, .inl (cI, 8, .inl fr)), (w3, .inl (cI, 8, .inl fn))] := hD
      have c15_0 := hw_15
      have c15_0 : 0 ≤ r_15.toInt ∧ r_15.toInt ≤ 7 := c15_0
      have k_16 := (g_X4_fewestNights l D cI cB cQ H.size h w0 w1 w2 w3 w4 w5 w6 w7 vi ro wa lz ds dy ga pa r_15 fr fn (by omega) (by omega) (by omega))
      refine wc_i (WC := [(h, .inr (3, [.int vi, .int ro, .int wa, .int lz, .int ds, .int dy, .int ga, .int pa, .ref w0, .ref w1, .ref w2, .ref w3, .ref w4, .ref w5, .ref w6, .ref w7])), (w2, .inl (cI, 8, .inl fr)), (w3, .inl (cI, 8, .inl fn))]) (WR := [(w1, .inl (cI, 8, .inl fo)), (w5, .inl (cI, 3, .inl fk)), (w6, .inl (cI, 3, .inl fa)), (w7, .inl (cI, 3, .inl fb))]) (va_runV (As := [.int r_15]) (rest := []) ⟨hx, hb, hml, hown, hts⟩ k_16 (cwV 1 hts gX4_goesTo_X4_fewestNights rfl rfl rfl (by decide +kernel) ⟨Nat.le_of_ble_eq_true rfl, Nat.le_of_ble_eq_true rfl⟩) (wp_V hP hK hD hN [4, 5, 6] (by decide) rfl (ci := 3) rfl rfl) rfl rfl hl.1 rfl (lv_room (Nat.le_of_ble_eq_true rfl)) dX4_goesTo_105 ⟨Nat.le_of_ble_eq_true rfl, Nat.le_of_ble_eq_true rfl⟩) hP hD hS hA [4, 5, 6] [0, 1, 2, 3] rfl rfl (by decide) (by decide) (fun r_16 u_16 H locs hw_16 hP hD hS => ?_)
      clear k_16
      have hP : va_P D kl [(w1, .inl (cI, 8, .inl fo)), (w5, .inl (cI, 3, .inl fk)), (w6, .inl (cI, 3, .inl fa)), (w7, .inl (cI, 3, .inl fb)), (h, .inr (3, [.int vi, .int ro, .int wa, .int lz, .int ds, .int dy, .int ga, .int pa, .ref w0, .ref w1, .ref w2, .ref w3, .ref w4, .ref w5, .ref w6, .ref w7])), (w2, .inl (cI, 8, .inl fr)), (w3, .inl (cI, 8, .inl fn))] H := hP
      have hD : va_D A [(w1, .inl (cI, 8, .inl fo)), (w5, .inl (cI, 3, .inl fk)), (w6, .inl (cI, 3, .inl fa)), (w7, .inl (cI, 3, .inl fb)), (h, .inr (3, [.int vi, .int ro, .int wa, .int lz, .int ds, .int dy, .int ga, .int pa, .ref w0, .ref w1, .ref w2, .ref w3, .ref w4, .ref w5, .ref w6, .ref w7])), (w2, .inl (cI, 8, .inl fr)), (w3, .inl (cI, 8, .inl fn))] := hD
      have c16_0 := hw_16
      have c16_0 : 0 ≤ r_16.toInt ∧ r_16.toInt ≤ 7 := c16_0
      exact wr_i (v := r_16) hx hb hr hlocks hS () (by exact (by omega)) (hP.sub [4, 0, 5, 6, 1, 2, 3] rfl) (hD.sub [4, 0, 5, 6, 1, 2, 3] (by decide) rfl) dX4_goesTo_108
set_option maxHeartbeats 4000000 in
set_option maxRecDepth 100000 in
theorem g_X4_goOnAndSleep (l : Launch) (D : va_G) (cI cB cQ : ClassId) (sz : Nat) (h : Nat) (w0 : Nat) (w1 : Nat) (w2 : Nat) (w3 : Nat) (w4 : Nat) (w5 : Nat) (w6 : Nat) (w7 : Nat) (vi : Int32) (ro : Int32) (wa : Int32) (lz : Int32) (ds : Int32) (dy : Int32) (ga : Int32) (pa : Int32) (fw : Nat → Int32) (fo : Nat → Int32) (fr : Nat → Int32) (fn : Nat → Int32) (ft : Nat → Int32) (fk : Nat → Int32) (fa : Nat → Int32) (fb : Nat → Int32) (ha : ∀ j, j < 3 → 0 ≤ (fa j).toInt ∧ (fa j).toInt ≤ 7) (h_vi : 0 ≤ vi.toInt ∧ vi.toInt ≤ 8) (h_wa : 0 ≤ wa.toInt ∧ wa.toInt ≤ 3) : mv l yX4_goOnAndSleep wsX4_goOnAndSleep ({ frames := 2, cells := 0, slots := 0, locals := 48 }) D cI cB cQ [.ref h] sz [(h, .inr (3, [.int vi, .int ro, .int wa, .int lz, .int ds, .int dy, .int ga, .int pa, .ref w0, .ref w1, .ref w2, .ref w3, .ref w4, .ref w5, .ref w6, .ref w7])), (w0, .inl (cI, 8, .inl fw)), (w1, .inl (cI, 8, .inl fo)), (w2, .inl (cI, 8, .inl fr)), (w3, .inl (cI, 8, .inl fn)), (w4, .inl (cI, 8, .inl ft)), (w5, .inl (cI, 3, .inl fk)), (w6, .inl (cI, 3, .inl fa)), (w7, .inl (cI, 3, .inl fb))] (fun (u : Int32 × Int32 × Int32 × Int32 × Int32 × Int32 × Int32 × Int32 × (Nat → Int32) × (Nat → Int32) × (Nat → Int32) × (Nat → Int32) × (Nat → Int32) × (Nat → Int32) × (Nat → Int32) × (Nat → Int32)) => (0 ≤ u.1.toInt ∧ u.1.toInt ≤ 8) ∧ (0 ≤ u.2.2.1.toInt ∧ u.2.2.1.toInt ≤ 3) ∧ (∀ j, j < 3 → 0 ≤ (u.2.2.2.2.2.2.2.2.2.2.2.2.2.2.1 j).toInt ∧ (u.2.2.2.2.2.2.2.2.2.2.2.2.2.2.1 j).toInt ≤ 7)) (fun u => [(h, .inr (3, [.int u.1, .int u.2.1, .int u.2.2.1, .int u.2.2.2.1, .int u.2.2.2.2.1, .int u.2.2.2.2.2.1, .int u.2.2.2.2.2.2.1, .int u.2.2.2.2.2.2.2.1, .ref w0, .ref w1, .ref w2, .ref w3, .ref w4, .ref w5, .ref w6, .ref w7])), (w0, .inl (cI, 8, .inl u.2.2.2.2.2.2.2.2.1)), (w1, .inl (cI, 8, .inl u.2.2.2.2.2.2.2.2.2.1)), (w2, .inl (cI, 8, .inl u.2.2.2.2.2.2.2.2.2.2.1)), (w3, .inl (cI, 8, .inl u.2.2.2.2.2.2.2.2.2.2.2.1)), (w4, .inl (cI, 8, .inl u.2.2.2.2.2.2.2.2.2.2.2.2.1)), (w5, .inl (cI, 3, .inl u.2.2.2.2.2.2.2.2.2.2.2.2.2.1)), (w6, .inl (cI, 3, .inl u.2.2.2.2.2.2.2.2.2.2.2.2.2.2.1)), (w7, .inl (cI, 3, .inl u.2.2.2.2.2.2.2.2.2.2.2.2.2.2.2))]) 0 0 := by
  refine wm_v (cc := cX4_goOnAndSleep) (maxL := 3) (ret := none) (by decide) rfl (Nat.le_of_ble_eq_true rfl) ?_
  intro p e s m below meth c A ls hx hb hr hml hown hts hlocks hin hP hK hD hN hA hl hS
  have hown : s.vm.findClass RX4 = some m.cls := hown
  have hl : lv_has ls 3 [(0, .ref h)] := hl
  change W p l e ({ frames := 2, cells := 0, slots := 0, locals := 48 }) s m ([.ref h] : List Value).toArray below meth c s.heap [] 0 0 (MQ below (va_Qv (fun (u : Int32 × Int32 × Int32 × Int32 × Int32 × Int32 × Int32 × Int32 × (Nat → Int32) × (Nat → Int32) × (Nat → Int32) × (Nat → Int32) × (Nat → Int32) × (Nat → Int32) × (Nat → Int32) × (Nat → Int32)) => (0 ≤ u.1.toInt ∧ u.1.toInt ≤ 8) ∧ (0 ≤ u.2.2.1.toInt ∧ u.2.2.1.toInt ≤ 3) ∧ (∀ j, j < 3 → 0 ≤ (u.2.2.2.2.2.2.2.2.2.2.2.2.2.2.1 j).toInt ∧ (u.2.2.2.2.2.2.2.2.2.2.2.2.2.2.1 j).toInt ≤ 7)) (fun u t => wb D A ((fun u => [(h, .inr (3, [.int u.1, .int u.2.1, .int u.2.2.1, .int u.2.2.2.1, .int u.2.2.2.2.1, .int u.2.2.2.2.2.1, .int u.2.2.2.2.2.2.1, .int u.2.2.2.2.2.2.2.1, .ref w0, .ref w1, .ref w2, .ref w3, .ref w4, .ref w5, .ref w6, .ref w7])), (w0, .inl (cI, 8, .inl u.2.2.2.2.2.2.2.2.1)), (w1, .inl (cI, 8, .inl u.2.2.2.2.2.2.2.2.2.1)), (w2, .inl (cI, 8, .inl u.2.2.2.2.2.2.2.2.2.2.1)), (w3, .inl (cI, 8, .inl u.2.2.2.2.2.2.2.2.2.2.2.1)), (w4, .inl (cI, 8, .inl u.2.2.2.2.2.2.2.2.2.2.2.2.1)), (w5, .inl (cI, 3, .inl u.2.2.2.2.2.2.2.2.2.2.2.2.2.1)), (w6, .inl (cI, 3, .inl u.2.2.2.2.2.2.2.2.2.2.2.2.2.2.1)), (w7, .inl (cI, 3, .inl u.2.2.2.2.2.2.2.2.2.2.2.2.2.2.2))]) u) t) A) ([.ref h] : List Value).toArray s 0 0 A) (F0 m 0 ls [])
  refine lv_iconst (v := 0) hx hb dX4_goOnAndSleep_0 (by decide) ?_
  refine lv_istore_n (lv' := [(1, .int 0), (0, .ref h)]) hx hb dX4_goOnAndSleep_1 rfl hl (by decide) rfl (fun ls hl => ?_)
  have hL2 : ∀ (nf : Nat) (t1_c2 : Int32) (g0_c2 : Int32) (g1_c2 : Int32) (g2_c2 : Int32) (g3_c2 : Int32) (g4_c2 : Int32) (g5_c2 : Int32) (g6_c2 : Int32) (g7_c2 : Int32) (g8_c2 : Nat → Int32) (g9_c2 : Nat → Int32) (g10_c2 : Nat → Int32) (g11_c2 : Nat → Int32) (g12_c2 : Nat → Int32) (g13_c2 : Nat → Int32) (g14_c2 : Nat → Int32) (g15_c2 : Nat → Int32) (H : Heap) (locs : List Loc) (ls : Array Slot), (0 ≤ t1_c2.toInt ∧ t1_c2.toInt ≤ 3) → (0 ≤ g0_c2.toInt ∧ g0_c2.toInt ≤ 8) → (0 ≤ g2_c2.toInt ∧ g2_c2.toInt ≤ 3) → (∀ j, j < 3 → 0 ≤ (g14_c2 j).toInt ∧ (g14_c2 j).toInt ≤ 7) → (3 - t1_c2.toInt).toNat < nf → va_P D kl [(h, .inr (3, [.int g0_c2, .int g1_c2, .int g2_c2, .int g3_c2, .int g4_c2, .int g5_c2, .int g6_c2, .int g7_c2, .ref w0, .ref w1, .ref w2, .ref w3, .ref w4, .ref w5, .ref w6, .ref w7])), (w0, .inl (cI, 8, .inl g8_c2)), (w1, .inl (cI, 8, .inl g9_c2)), (w2, .inl (cI, 8, .inl g10_c2)), (w3, .inl (cI, 8, .inl g11_c2)), (w4, .inl (cI, 8, .inl g12_c2)), (w5, .inl (cI, 3, .inl g13_c2)), (w6, .inl (cI, 3, .inl g14_c2)), (w7, .inl (cI, 3, .inl g15_c2))] H → va_D A [(h, .inr (3, [.int g0_c2, .int g1_c2, .int g2_c2, .int g3_c2, .int g4_c2, .int g5_c2, .int g6_c2, .int g7_c2, .ref w0, .ref w1, .ref w2, .ref w3, .ref w4, .ref w5, .ref w6, .ref w7])), (w0, .inl (cI, 8, .inl g8_c2)), (w1, .inl (cI, 8, .inl g9_c2)), (w2, .inl (cI, 8, .inl g10_c2)), (w3, .inl (cI, 8, .inl g11_c2)), (w4, .inl (cI, 8, .inl g12_c2)), (w5, .inl (cI, 3, .inl g13_c2)), (w6, .inl (cI, 3, .inl g14_c2)), (w7, .inl (cI, 3, .inl g15_c2))] → va_S A s.heap H locs → lv_has ls 3 [(1, .int t1_c2), (0, .ref h)] → W p l e ({ frames := 2, cells := 0, slots := 0, locals := 48 }) s m ([.ref h] : List Value).toArray below meth c H locs 0 0 (MQ below (va_Qv (fun (u : Int32 × Int32 × Int32 × Int32 × Int32 × Int32 × Int32 × Int32 × (Nat → Int32) × (Nat → Int32) × (Nat → Int32) × (Nat → Int32) × (Nat → Int32) × (Nat → Int32) × (Nat → Int32) × (Nat → Int32)) => (0 ≤ u.1.toInt ∧ u.1.toInt ≤ 8) ∧ (0 ≤ u.2.2.1.toInt ∧ u.2.2.1.toInt ≤ 3) ∧ (∀ j, j < 3 → 0 ≤ (u.2.2.2.2.2.2.2.2.2.2.2.2.2.2.1 j).toInt ∧ (u.2.2.2.2.2.2.2.2.2.2.2.2.2.2.1 j).toInt ≤ 7)) (fun u t => wb D A ((fun u => [(h, .inr (3, [.int u.1, .int u.2.1, .int u.2.2.1, .int u.2.2.2.1, .int u.2.2.2.2.1, .int u.2.2.2.2.2.1, .int u.2.2.2.2.2.2.1, .int u.2.2.2.2.2.2.2.1, .ref w0, .ref w1, .ref w2, .ref w3, .ref w4, .ref w5, .ref w6, .ref w7])), (w0, .inl (cI, 8, .inl u.2.2.2.2.2.2.2.2.1)), (w1, .inl (cI, 8, .inl u.2.2.2.2.2.2.2.2.2.1)), (w2, .inl (cI, 8, .inl u.2.2.2.2.2.2.2.2.2.2.1)), (w3, .inl (cI, 8, .inl u.2.2.2.2.2.2.2.2.2.2.2.1)), (w4, .inl (cI, 8, .inl u.2.2.2.2.2.2.2.2.2.2.2.2.1)), (w5, .inl (cI, 3, .inl u.2.2.2.2.2.2.2.2.2.2.2.2.2.1)), (w6, .inl (cI, 3, .inl u.2.2.2.2.2.2.2.2.2.2.2.2.2.2.1)), (w7, .inl (cI, 3, .inl u.2.2.2.2.2.2.2.2.2.2.2.2.2.2.2))]) u) t) A) ([.ref h] : List Value).toArray s 0 0 A) (F0 m 2 ls []) := by
    intro nf
    induction nf with
    | zero =>
      intro t1_c2 g0_c2 g1_c2 g2_c2 g3_c2 g4_c2 g5_c2 g6_c2 g7_c2 g8_c2 g9_c2 g10_c2 g11_c2 g12_c2 g13_c2 g14_c2 g15_c2 H locs ls i_t1_c2 i_g0_c2 i_g2_c2 ha_g14_c2 hm
      exact absurd hm (Nat.not_lt_zero _)
    | succ nf ih2 =>
      intro t1_c2 g0_c2 g1_c2 g2_c2 g3_c2 g4_c2 g5_c2 g6_c2 g7_c2 g8_c2 g9_c2 g10_c2 g11_c2 g12_c2 g13_c2 g14_c2 g15_c2 H locs ls i_t1_c2 i_g0_c2 i_g2_c2 ha_g14_c2 hm2 hP hD hS hl
      refine lv_iload_n hx hb dX4_goOnAndSleep_2 rfl (lv_at hl 0 rfl) ?_
      refine lv_aload_n hx hb dX4_goOnAndSleep_3 rfl (lv_at hl 1 rfl) ?_
      refine va_get (D := D) (ci := 3) (v := .int g2_c2) (C := RX4) (T := TX4) (N := 16) hx hb hts (fun _ h => List.mem_cons_of_mem _ (List.mem_append_right _ h)) hown hK hP 0 rfl rfl 2 (by decide) (hts (.fieldLink RX4 18 "WinterWalk$Land" "walkers" "I") (List.mem_of_getElem? (i := 1) rfl)) (fun _ h9 => h9) rfl dX4_goOnAndSleep_4 ?_
      refine lv_icmp_ge (tgt := 80) hx hb dX4_goOnAndSleep_7 (by decide) (fun c_1 => ?_) (fun c_1 => ?_)
      · have f_1 : g2_c2.toInt ≤ t1_c2.toInt := zi_le c_1
        refine lv_aload_n hx hb dX4_goOnAndSleep_80 rfl (lv_at hl 1 rfl) ?_
        refine lv_dup hx hb dX4_goOnAndSleep_81 rfl ?_
        refine va_get (D := D) (ci := 3) (v := .int g5_c2) (C := RX4) (T := TX4) (N := 16) hx hb hts (fun _ h => List.mem_cons_of_mem _ (List.mem_append_right _ h)) hown hK hP 0 rfl rfl 5 (by decide) (hts (.fieldLink RX4 27 "WinterWalk$Land" "day" "I") (List.mem_of_getElem? (i := 8) rfl)) (fun _ h9 => h9) rfl dX4_goOnAndSleep_82 ?_
        refine lv_iconst (v := 1) hx hb dX4_goOnAndSleep_85 (by decide) ?_
        refine lv_iadd hx hb dX4_goOnAndSleep_86 ?_
        refine lv_topi (fun x_2 ex_2 => ?_)
        clear ex_2
        refine va_put (D := D) (ci := 3) (v := .int x_2) (ty := .int) (C := RX4) (T := TX4) (N := 16) hx hb hts (fun _ h => List.mem_cons_of_mem _ (List.mem_append_right _ h)) tyX4 tyX4_ok nmX4 hown hK hP hD hS 0 rfl rfl 5 (by decide) (hts (.fieldLink RX4 27 "WinterWalk$Land" "day" "I") (List.mem_of_getElem? (i := 8) rfl)) (fun _ h9 => h9) rfl (by decide +kernel) rfl rfl (Nat.le_of_ble_eq_true rfl) dX4_goOnAndSleep_87 (fun H locs hP hD hS => ?_)
        have hP : va_P D kl [(h, .inr (3, [.int g0_c2, .int g1_c2, .int g2_c2, .int g3_c2, .int g4_c2, .int x_2, .int g6_c2, .int g7_c2, .ref w0, .ref w1, .ref w2, .ref w3, .ref w4, .ref w5, .ref w6, .ref w7])), (w0, .inl (cI, 8, .inl g8_c2)), (w1, .inl (cI, 8, .inl g9_c2)), (w2, .inl (cI, 8, .inl g10_c2)), (w3, .inl (cI, 8, .inl g11_c2)), (w4, .inl (cI, 8, .inl g12_c2)), (w5, .inl (cI, 3, .inl g13_c2)), (w6, .inl (cI, 3, .inl g14_c2)), (w7, .inl (cI, 3, .inl g15_c2))] H := hP
        have hD : va_D A [(h, .inr (3, [.int g0_c2, .int g1_c2, .int g2_c2, .int g3_c2, .int g4_c2, .int x_2, .int g6_c2, .int g7_c2, .ref w0, .ref w1, .ref w2, .ref w3, .ref w4, .ref w5, .ref w6, .ref w7])), (w0, .inl (cI, 8, .inl g8_c2)), (w1, .inl (cI, 8, .inl g9_c2)), (w2, .inl (cI, 8, .inl g10_c2)), (w3, .inl (cI, 8, .inl g11_c2)), (w4, .inl (cI, 8, .inl g12_c2)), (w5, .inl (cI, 3, .inl g13_c2)), (w6, .inl (cI, 3, .inl g14_c2)), (w7, .inl (cI, 3, .inl g15_c2))] := hD
        exact wr_v hx hb hr hlocks hS (g0_c2, g1_c2, g2_c2, g3_c2, g4_c2, x_2, g6_c2, g7_c2, g8_c2, g9_c2, g10_c2, g11_c2, g12_c2, g13_c2, g14_c2, g15_c2) (by exact ⟨show 0 ≤ (g0_c2 : Int32).toInt ∧ (g0_c2 : Int32).toInt ≤ 8 from by omega, show 0 ≤ (g2_c2 : Int32).toInt ∧ (g2_c2 : Int32).toInt ≤ 3 from by omega, ha_g14_c2⟩) (hP.sub [0, 1, 2, 3, 4, 5, 6, 7, 8] rfl) (hD.sub [0, 1, 2, 3, 4, 5, 6, 7, 8] (by decide) rfl) dX4_goOnAndSleep_90
      · have f_1 : ¬ g2_c2.toInt ≤ t1_c2.toInt := zi_nle c_1
        refine lv_aload_n hx hb dX4_goOnAndSleep_10 rfl (lv_at hl 1 rfl) ?_
        refine lv_iload_n hx hb dX4_goOnAndSleep_11 rfl (lv_at hl 0 rfl) ?_
        have k_3 := (g_X4_goesTo l D cI cB cQ H.size h w0 w1 w2 w3 w4 w5 w6 w7 g0_c2 g1_c2 g2_c2 g3_c2 g4_c2 g5_c2 g6_c2 g7_c2 t1_c2 g9_c2 g10_c2 g11_c2 g13_c2 g14_c2 g15_c2 ha_g14_c2 (by omega) (by omega) (by omega))
        refine wc_i (WC := [(h, .inr (3, [.int g0_c2, .int g1_c2, .int g2_c2, .int g3_c2, .int g4_c2, .int g5_c2, .int g6_c2, .int g7_c2, .ref w0, .ref w1, .ref w2, .ref w3, .ref w4, .ref w5, .ref w6, .ref w7])), (w1, .inl (cI, 8, .inl g9_c2)), (w2, .inl (cI, 8, .inl g10_c2)), (w3, .inl (cI, 8, .inl g11_c2)), (w5, .inl (cI, 3, .inl g13_c2)), (w6, .inl (cI, 3, .inl g14_c2)), (w7, .inl (cI, 3, .inl g15_c2))]) (WR := [(w0, .inl (cI, 8, .inl g8_c2)), (w4, .inl (cI, 8, .inl g12_c2))]) (va_runV (As := [.int t1_c2]) (rest := []) ⟨hx, hb, hml, hown, hts⟩ k_3 (cwV 1 hts gX4_goOnAndSleep_X4_goesTo rfl rfl rfl (by decide +kernel) ⟨Nat.le_of_ble_eq_true rfl, Nat.le_of_ble_eq_true rfl⟩) (wp_V hP hK hD hN [0, 2, 3, 4, 6, 7, 8] (by decide) rfl (ci := 3) rfl rfl) rfl rfl hl.1 rfl (lv_room (Nat.le_of_ble_eq_true rfl)) dX4_goOnAndSleep_12 ⟨Nat.le_of_ble_eq_true rfl, Nat.le_of_ble_eq_true rfl⟩) hP hD hS hA [0, 2, 3, 4, 6, 7, 8] [1, 5] rfl rfl (by decide) (by decide) (fun r_3 u_3 H locs hw_3 hP hD hS => ?_)
        clear k_3
        have hP : va_P D kl [(w0, .inl (cI, 8, .inl g8_c2)), (w4, .inl (cI, 8, .inl g12_c2)), (h, .inr (3, [.int g0_c2, .int g1_c2, .int g2_c2, .int g3_c2, .int g4_c2, .int g5_c2, .int g6_c2, .int g7_c2, .ref w0, .ref w1, .ref w2, .ref w3, .ref w4, .ref w5, .ref w6, .ref w7])), (w1, .inl (cI, 8, .inl g9_c2)), (w2, .inl (cI, 8, .inl g10_c2)), (w3, .inl (cI, 8, .inl g11_c2)), (w5, .inl (cI, 3, .inl g13_c2)), (w6, .inl (cI, 3, .inl g14_c2)), (w7, .inl (cI, 3, .inl g15_c2))] H := hP
        have hD : va_D A [(w0, .inl (cI, 8, .inl g8_c2)), (w4, .inl (cI, 8, .inl g12_c2)), (h, .inr (3, [.int g0_c2, .int g1_c2, .int g2_c2, .int g3_c2, .int g4_c2, .int g5_c2, .int g6_c2, .int g7_c2, .ref w0, .ref w1, .ref w2, .ref w3, .ref w4, .ref w5, .ref w6, .ref w7])), (w1, .inl (cI, 8, .inl g9_c2)), (w2, .inl (cI, 8, .inl g10_c2)), (w3, .inl (cI, 8, .inl g11_c2)), (w5, .inl (cI, 3, .inl g13_c2)), (w6, .inl (cI, 3, .inl g14_c2)), (w7, .inl (cI, 3, .inl g15_c2))] := hD
        have c3_0 := hw_3
        have c3_0 : 0 ≤ r_3.toInt ∧ r_3.toInt ≤ 7 := c3_0
        refine lv_istore_n (lv' := [(2, .int r_3), (1, .int t1_c2), (0, .ref h)]) hx hb dX4_goOnAndSleep_15 rfl hl (by decide) rfl (fun ls hl => ?_)
        refine lv_aload_n hx hb dX4_goOnAndSleep_16 rfl (lv_at hl 2 rfl) ?_
        refine va_get (D := D) (ci := 3) (v := .ref w7) (C := RX4) (T := TX4) (N := 16) hx hb hts (fun _ h => List.mem_cons_of_mem _ (List.mem_append_right _ h)) hown hK hP 2 rfl rfl 15 (by decide) (hts (.fieldLink RX4 58 "WinterWalk$Land" "before" "[I") (List.mem_of_getElem? (i := 2) rfl)) (fun _ h9 => h9) rfl dX4_goOnAndSleep_17 ?_
        refine lv_iload_n hx hb dX4_goOnAndSleep_20 rfl (lv_at hl 1 rfl) ?_
        refine lv_aload_n hx hb dX4_goOnAndSleep_21 rfl (lv_at hl 2 rfl) ?_
        refine va_get (D := D) (ci := 3) (v := .ref w6) (C := RX4) (T := TX4) (N := 16) hx hb hts (fun _ h => List.mem_cons_of_mem _ (List.mem_append_right _ h)) hown hK hP 2 rfl rfl 14 (by decide) (hts (.fieldLink RX4 55 "WinterWalk$Land" "at" "[I") (List.mem_of_getElem? (i := 3) rfl)) (fun _ h9 => h9) rfl dX4_goOnAndSleep_22 ?_
        refine lv_iload_n hx hb dX4_goOnAndSleep_25 rfl (lv_at hl 1 rfl) ?_
        refine va_iald hx hb hK hP 7 0 rfl rfl (zi_in (by omega) (by omega)) dX4_goOnAndSleep_26 ?_
        refine lv_topi (fun x_4 ex_4 => ?_)
        have f_4 : 0 ≤ x_4.toInt ∧ x_4.toInt ≤ 7 := by rw [ex_4]; exact ha_g14_c2 _ (zi_cl (by omega) (by omega))
        clear ex_4
        refine va_iast hx hb hK hP hD hS 8 0 rfl rfl (zi_in (by omega) (by omega)) dX4_goOnAndSleep_27 (fun H locs hP hD hS => ?_)
        have hP : va_P D kl [(w0, .inl (cI, 8, .inl g8_c2)), (w4, .inl (cI, 8, .inl g12_c2)), (h, .inr (3, [.int g0_c2, .int g1_c2, .int g2_c2, .int g3_c2, .int g4_c2, .int g5_c2, .int g6_c2, .int g7_c2, .ref w0, .ref w1, .ref w2, .ref w3, .ref w4, .ref w5, .ref w6, .ref w7])), (w1, .inl (cI, 8, .inl g9_c2)), (w2, .inl (cI, 8, .inl g10_c2)), (w3, .inl (cI, 8, .inl g11_c2)), (w5, .inl (cI, 3, .inl g13_c2)), (w6, .inl (cI, 3, .inl g14_c2)), (w7, .inl (cI, 3, .inl (upd g15_c2 (t1_c2 : Int32).toNatClampNeg x_4)))] H := hP
        have hD : va_D A [(w0, .inl (cI, 8, .inl g8_c2)), (w4, .inl (cI, 8, .inl g12_c2)), (h, .inr (3, [.int g0_c2, .int g1_c2, .int g2_c2, .int g3_c2, .int g4_c2, .int g5_c2, .int g6_c2, .int g7_c2, .ref w0, .ref w1, .ref w2, .ref w3, .ref w4, .ref w5, .ref w6, .ref w7])), (w1, .inl (cI, 8, .inl g9_c2)), (w2, .inl (cI, 8, .inl g10_c2)), (w3, .inl (cI, 8, .inl g11_c2)), (w5, .inl (cI, 3, .inl g13_c2)), (w6, .inl (cI, 3, .inl g14_c2)), (w7, .inl (cI, 3, .inl (upd g15_c2 (t1_c2 : Int32).toNatClampNeg x_4)))] := hD
        refine lv_aload_n hx hb dX4_goOnAndSleep_28 rfl (lv_at hl 2 rfl) ?_
        refine va_get (D := D) (ci := 3) (v := .ref w6) (C := RX4) (T := TX4) (N := 16) hx hb hts (fun _ h => List.mem_cons_of_mem _ (List.mem_append_right _ h)) hown hK hP 2 rfl rfl 14 (by decide) (hts (.fieldLink RX4 55 "WinterWalk$Land" "at" "[I") (List.mem_of_getElem? (i := 3) rfl)) (fun _ h9 => h9) rfl dX4_goOnAndSleep_29 ?_
        refine lv_iload_n hx hb dX4_goOnAndSleep_32 rfl (lv_at hl 1 rfl) ?_
        refine lv_iload_n hx hb dX4_goOnAndSleep_33 rfl (lv_at hl 0 rfl) ?_
        refine va_iast hx hb hK hP hD hS 7 0 rfl rfl (zi_in (by omega) (by omega)) dX4_goOnAndSleep_34 (fun H locs hP hD hS => ?_)
        have hP : va_P D kl [(w0, .inl (cI, 8, .inl g8_c2)), (w4, .inl (cI, 8, .inl g12_c2)), (h, .inr (3, [.int g0_c2, .int g1_c2, .int g2_c2, .int g3_c2, .int g4_c2, .int g5_c2, .int g6_c2, .int g7_c2, .ref w0, .ref w1, .ref w2, .ref w3, .ref w4, .ref w5, .ref w6, .ref w7])), (w1, .inl (cI, 8, .inl g9_c2)), (w2, .inl (cI, 8, .inl g10_c2)), (w3, .inl (cI, 8, .inl g11_c2)), (w5, .inl (cI, 3, .inl g13_c2)), (w6, .inl (cI, 3, .inl (upd g14_c2 (t1_c2 : Int32).toNatClampNeg r_3))), (w7, .inl (cI, 3, .inl (upd g15_c2 (t1_c2 : Int32).toNatClampNeg x_4)))] H := hP
        have hD : va_D A [(w0, .inl (cI, 8, .inl g8_c2)), (w4, .inl (cI, 8, .inl g12_c2)), (h, .inr (3, [.int g0_c2, .int g1_c2, .int g2_c2, .int g3_c2, .int g4_c2, .int g5_c2, .int g6_c2, .int g7_c2, .ref w0, .ref w1, .ref w2, .ref w3, .ref w4, .ref w5, .ref w6, .ref w7])), (w1, .inl (cI, 8, .inl g9_c2)), (w2, .inl (cI, 8, .inl g10_c2)), (w3, .inl (cI, 8, .inl g11_c2)), (w5, .inl (cI, 3, .inl g13_c2)), (w6, .inl (cI, 3, .inl (upd g14_c2 (t1_c2 : Int32).toNatClampNeg r_3))), (w7, .inl (cI, 3, .inl (upd g15_c2 (t1_c2 : Int32).toNatClampNeg x_4)))] := hD
        have ha_5 : ∀ j, j < 3 → 0 ≤ ((upd g14_c2 (t1_c2 : Int32).toNatClampNeg r_3) j).toInt ∧ ((upd g14_c2 (t1_c2 : Int32).toNatClampNeg r_3) j).toInt ≤ 7 := zu_upd ha_g14_c2 (by omega)
        refine lv_aload_n hx hb dX4_goOnAndSleep_35 rfl (lv_at hl 2 rfl) ?_
        refine va_get (D := D) (ci := 3) (v := .ref w3) (C := RX4) (T := TX4) (N := 16) hx hb hts (fun _ h => List.mem_cons_of_mem _ (List.mem_append_right _ h)) hown hK hP 2 rfl rfl 11 (by decide) (hts (.fieldLink RX4 46 "WinterWalk$Land" "nightsIn" "[I") (List.mem_of_getElem? (i := 4) rfl)) (fun _ h9 => h9) rfl dX4_goOnAndSleep_36 ?_
        refine lv_iload_n hx hb dX4_goOnAndSleep_39 rfl (lv_at hl 0 rfl) ?_
        refine lv_dup2_11 hx hb dX4_goOnAndSleep_40 rfl rfl ?_
        refine va_iald hx hb hK hP 5 0 rfl rfl (zi_in (by omega) (by omega)) dX4_goOnAndSleep_41 ?_
        refine lv_topi (fun x_6 ex_6 => ?_)
        clear ex_6
        refine lv_iconst (v := 1) hx hb dX4_goOnAndSleep_42 (by decide) ?_
        refine lv_iadd hx hb dX4_goOnAndSleep_43 ?_
        refine lv_topi (fun x_7 ex_7 => ?_)
        clear ex_7
        refine va_iast hx hb hK hP hD hS 5 0 rfl rfl (zi_in (by omega) (by omega)) dX4_goOnAndSleep_44 (fun H locs hP hD hS => ?_)
        have hP : va_P D kl [(w0, .inl (cI, 8, .inl g8_c2)), (w4, .inl (cI, 8, .inl g12_c2)), (h, .inr (3, [.int g0_c2, .int g1_c2, .int g2_c2, .int g3_c2, .int g4_c2, .int g5_c2, .int g6_c2, .int g7_c2, .ref w0, .ref w1, .ref w2, .ref w3, .ref w4, .ref w5, .ref w6, .ref w7])), (w1, .inl (cI, 8, .inl g9_c2)), (w2, .inl (cI, 8, .inl g10_c2)), (w3, .inl (cI, 8, .inl (upd g11_c2 (r_3 : Int32).toNatClampNeg x_7))), (w5, .inl (cI, 3, .inl g13_c2)), (w6, .inl (cI, 3, .inl (upd g14_c2 (t1_c2 : Int32).toNatClampNeg r_3))), (w7, .inl (cI, 3, .inl (upd g15_c2 (t1_c2 : Int32).toNatClampNeg x_4)))] H := hP
        have hD : va_D A [(w0, .inl (cI, 8, .inl g8_c2)), (w4, .inl (cI, 8, .inl g12_c2)), (h, .inr (3, [.int g0_c2, .int g1_c2, .int g2_c2, .int g3_c2, .int g4_c2, .int g5_c2, .int g6_c2, .int g7_c2, .ref w0, .ref w1, .ref w2, .ref w3, .ref w4, .ref w5, .ref w6, .ref w7])), (w1, .inl (cI, 8, .inl g9_c2)), (w2, .inl (cI, 8, .inl g10_c2)), (w3, .inl (cI, 8, .inl (upd g11_c2 (r_3 : Int32).toNatClampNeg x_7))), (w5, .inl (cI, 3, .inl g13_c2)), (w6, .inl (cI, 3, .inl (upd g14_c2 (t1_c2 : Int32).toNatClampNeg r_3))), (w7, .inl (cI, 3, .inl (upd g15_c2 (t1_c2 : Int32).toNatClampNeg x_4)))] := hD
        refine lv_aload_n hx hb dX4_goOnAndSleep_45 rfl (lv_at hl 2 rfl) ?_
        refine lv_dup hx hb dX4_goOnAndSleep_46 rfl ?_
        refine va_get (D := D) (ci := 3) (v := .int g6_c2) (C := RX4) (T := TX4) (N := 16) hx hb hts (fun _ h => List.mem_cons_of_mem _ (List.mem_append_right _ h)) hown hK hP 2 rfl rfl 6 (by decide) (hts (.fieldLink RX4 30 "WinterWalk$Land" "gain" "I") (List.mem_of_getElem? (i := 5) rfl)) (fun _ h9 => h9) rfl dX4_goOnAndSleep_47 ?_
        refine lv_aload_n hx hb dX4_goOnAndSleep_50 rfl (lv_at hl 2 rfl) ?_
        refine va_get (D := D) (ci := 3) (v := .ref w0) (C := RX4) (T := TX4) (N := 16) hx hb hts (fun _ h => List.mem_cons_of_mem _ (List.mem_append_right _ h)) hown hK hP 2 rfl rfl 8 (by decide) (hts (.fieldLink RX4 36 "WinterWalk$Land" "worth" "[I") (List.mem_of_getElem? (i := 6) rfl)) (fun _ h9 => h9) rfl dX4_goOnAndSleep_51 ?_
        refine lv_iload_n hx hb dX4_goOnAndSleep_54 rfl (lv_at hl 0 rfl) ?_
        refine va_iald hx hb hK hP 0 0 rfl rfl (zi_in (by omega) (by omega)) dX4_goOnAndSleep_55 ?_
        refine lv_topi (fun x_8 ex_8 => ?_)
        clear ex_8
        refine lv_iadd hx hb dX4_goOnAndSleep_56 ?_
        refine lv_topi (fun x_9 ex_9 => ?_)
        clear ex_9
        refine va_put (D := D) (ci := 3) (v := .int x_9) (ty := .int) (C := RX4) (T := TX4) (N := 16) hx hb hts (fun _ h => List.mem_cons_of_mem _ (List.mem_append_right _ h)) tyX4 tyX4_ok nmX4 hown hK hP hD hS 2 rfl rfl 6 (by decide) (hts (.fieldLink RX4 30 "WinterWalk$Land" "gain" "I") (List.mem_of_getElem? (i := 5) rfl)) (fun _ h9 => h9) rfl (by decide +kernel) rfl rfl (Nat.le_of_ble_eq_true rfl) dX4_goOnAndSleep_57 (fun H locs hP hD hS => ?_)
        have hP : va_P D kl [(w0, .inl (cI, 8, .inl g8_c2)), (w4, .inl (cI, 8, .inl g12_c2)), (h, .inr (3, [.int g0_c2, .int g1_c2, .int g2_c2, .int g3_c2, .int g4_c2, .int g5_c2, .int x_9, .int g7_c2, .ref w0, .ref w1, .ref w2, .ref w3, .ref w4, .ref w5, .ref w6, .ref w7])), (w1, .inl (cI, 8, .inl g9_c2)), (w2, .inl (cI, 8, .inl g10_c2)), (w3, .inl (cI, 8, .inl (upd g11_c2 (r_3 : Int32).toNatClampNeg x_7))), (w5, .inl (cI, 3, .inl g13_c2)), (w6, .inl (cI, 3, .inl (upd g14_c2 (t1_c2 : Int32).toNatClampNeg r_3))), (w7, .inl (cI, 3, .inl (upd g15_c2 (t1_c2 : Int32).toNatClampNeg x_4)))] H := hP
        have hD : va_D A [(w0, .inl (cI, 8, .inl g8_c2)), (w4, .inl (cI, 8, .inl g12_c2)), (h, .inr (3, [.int g0_c2, .int g1_c2, .int g2_c2, .int g3_c2, .int g4_c2, .int g5_c2, .int x_9, .int g7_c2, .ref w0, .ref w1, .ref w2, .ref w3, .ref w4, .ref w5, .ref w6, .ref w7])), (w1, .inl (cI, 8, .inl g9_c2)), (w2, .inl (cI, 8, .inl g10_c2)), (w3, .inl (cI, 8, .inl (upd g11_c2 (r_3 : Int32).toNatClampNeg x_7))), (w5, .inl (cI, 3, .inl g13_c2)), (w6, .inl (cI, 3, .inl (upd g14_c2 (t1_c2 : Int32).toNatClampNeg r_3))), (w7, .inl (cI, 3, .inl (upd g15_c2 (t1_c2 : Int32).toNatClampNeg x_4)))] := hD
        refine lv_aload_n hx hb dX4_goOnAndSleep_60 rfl (lv_at hl 2 rfl) ?_
        refine lv_dup hx hb dX4_goOnAndSleep_61 rfl ?_
        refine va_get (D := D) (ci := 3) (v := .int g7_c2) (C := RX4) (T := TX4) (N := 16) hx hb hts (fun _ h => List.mem_cons_of_mem _ (List.mem_append_right _ h)) hown hK hP 2 rfl rfl 7 (by decide) (hts (.fieldLink RX4 33 "WinterWalk$Land" "paid" "I") (List.mem_of_getElem? (i := 7) rfl)) (fun _ h9 => h9) rfl dX4_goOnAndSleep_62 ?_
        refine lv_aload_n hx hb dX4_goOnAndSleep_65 rfl (lv_at hl 2 rfl) ?_
        refine lv_iload_n hx hb dX4_goOnAndSleep_66 rfl (lv_at hl 1 rfl) ?_
        have k_10 := (g_X4_paidTo l D cI cB cQ H.size h w0 w1 w2 w3 w4 w5 w6 w7 g0_c2 g1_c2 g2_c2 g3_c2 g4_c2 g5_c2 x_9 g7_c2 t1_c2 g9_c2 g13_c2 (upd g14_c2 (t1_c2 : Int32).toNatClampNeg r_3) ha_5 (by omega))
        refine wc_i (WC := [(h, .inr (3, [.int g0_c2, .int g1_c2, .int g2_c2, .int g3_c2, .int g4_c2, .int g5_c2, .int x_9, .int g7_c2, .ref w0, .ref w1, .ref w2, .ref w3, .ref w4, .ref w5, .ref w6, .ref w7])), (w1, .inl (cI, 8, .inl g9_c2)), (w5, .inl (cI, 3, .inl g13_c2)), (w6, .inl (cI, 3, .inl (upd g14_c2 (t1_c2 : Int32).toNatClampNeg r_3)))]) (WR := [(w0, .inl (cI, 8, .inl g8_c2)), (w4, .inl (cI, 8, .inl g12_c2)), (w2, .inl (cI, 8, .inl g10_c2)), (w3, .inl (cI, 8, .inl (upd g11_c2 (r_3 : Int32).toNatClampNeg x_7))), (w7, .inl (cI, 3, .inl (upd g15_c2 (t1_c2 : Int32).toNatClampNeg x_4)))]) (va_runV (As := [.int t1_c2]) (rest := [.int g7_c2, .ref h]) ⟨hx, hb, hml, hown, hts⟩ k_10 (cwV 1 hts gX4_goOnAndSleep_X4_paidTo rfl rfl rfl (by decide +kernel) ⟨Nat.le_of_ble_eq_true rfl, Nat.le_of_ble_eq_true rfl⟩) (wp_V hP hK hD hN [2, 3, 6, 7] (by decide) rfl (ci := 3) rfl rfl) rfl rfl hl.1 rfl (lv_room (Nat.le_of_ble_eq_true rfl)) dX4_goOnAndSleep_67 ⟨Nat.le_of_ble_eq_true rfl, Nat.le_of_ble_eq_true rfl⟩) hP hD hS hA [2, 3, 6, 7] [0, 1, 4, 5, 8] rfl rfl (by decide) (by decide) (fun r_10 u_10 H locs hw_10 hP hD hS => ?_)
        clear k_10
        have hP : va_P D kl [(w0, .inl (cI, 8, .inl g8_c2)), (w4, .inl (cI, 8, .inl g12_c2)), (w2, .inl (cI, 8, .inl g10_c2)), (w3, .inl (cI, 8, .inl (upd g11_c2 (r_3 : Int32).toNatClampNeg x_7))), (w7, .inl (cI, 3, .inl (upd g15_c2 (t1_c2 : Int32).toNatClampNeg x_4))), (h, .inr (3, [.int g0_c2, .int g1_c2, .int g2_c2, .int g3_c2, .int g4_c2, .int g5_c2, .int x_9, .int g7_c2, .ref w0, .ref w1, .ref w2, .ref w3, .ref w4, .ref w5, .ref w6, .ref w7])), (w1, .inl (cI, 8, .inl g9_c2)), (w5, .inl (cI, 3, .inl g13_c2)), (w6, .inl (cI, 3, .inl (upd g14_c2 (t1_c2 : Int32).toNatClampNeg r_3)))] H := hP
        have hD : va_D A [(w0, .inl (cI, 8, .inl g8_c2)), (w4, .inl (cI, 8, .inl g12_c2)), (w2, .inl (cI, 8, .inl g10_c2)), (w3, .inl (cI, 8, .inl (upd g11_c2 (r_3 : Int32).toNatClampNeg x_7))), (w7, .inl (cI, 3, .inl (upd g15_c2 (t1_c2 : Int32).toNatClampNeg x_4))), (h, .inr (3, [.int g0_c2, .int g1_c2, .int g2_c2, .int g3_c2, .int g4_c2, .int g5_c2, .int x_9, .int g7_c2, .ref w0, .ref w1, .ref w2, .ref w3, .ref w4, .ref w5, .ref w6, .ref w7])), (w1, .inl (cI, 8, .inl g9_c2)), (w5, .inl (cI, 3, .inl g13_c2)), (w6, .inl (cI, 3, .inl (upd g14_c2 (t1_c2 : Int32).toNatClampNeg r_3)))] := hD
        clear hw_10
        refine lv_iadd hx hb dX4_goOnAndSleep_70 ?_
        refine lv_topi (fun x_11 ex_11 => ?_)
        clear ex_11
        refine va_put (D := D) (ci := 3) (v := .int x_11) (ty := .int) (C := RX4) (T := TX4) (N := 16) hx hb hts (fun _ h => List.mem_cons_of_mem _ (List.mem_append_right _ h)) tyX4 tyX4_ok nmX4 hown hK hP hD hS 5 rfl rfl 7 (by decide) (hts (.fieldLink RX4 33 "WinterWalk$Land" "paid" "I") (List.mem_of_getElem? (i := 7) rfl)) (fun _ h9 => h9) rfl (by decide +kernel) rfl rfl (Nat.le_of_ble_eq_true rfl) dX4_goOnAndSleep_71 (fun H locs hP hD hS => ?_)
        have hP : va_P D kl [(w0, .inl (cI, 8, .inl g8_c2)), (w4, .inl (cI, 8, .inl g12_c2)), (w2, .inl (cI, 8, .inl g10_c2)), (w3, .inl (cI, 8, .inl (upd g11_c2 (r_3 : Int32).toNatClampNeg x_7))), (w7, .inl (cI, 3, .inl (upd g15_c2 (t1_c2 : Int32).toNatClampNeg x_4))), (h, .inr (3, [.int g0_c2, .int g1_c2, .int g2_c2, .int g3_c2, .int g4_c2, .int g5_c2, .int x_9, .int x_11, .ref w0, .ref w1, .ref w2, .ref w3, .ref w4, .ref w5, .ref w6, .ref w7])), (w1, .inl (cI, 8, .inl g9_c2)), (w5, .inl (cI, 3, .inl g13_c2)), (w6, .inl (cI, 3, .inl (upd g14_c2 (t1_c2 : Int32).toNatClampNeg r_3)))] H := hP
        have hD : va_D A [(w0, .inl (cI, 8, .inl g8_c2)), (w4, .inl (cI, 8, .inl g12_c2)), (w2, .inl (cI, 8, .inl g10_c2)), (w3, .inl (cI, 8, .inl (upd g11_c2 (r_3 : Int32).toNatClampNeg x_7))), (w7, .inl (cI, 3, .inl (upd g15_c2 (t1_c2 : Int32).toNatClampNeg x_4))), (h, .inr (3, [.int g0_c2, .int g1_c2, .int g2_c2, .int g3_c2, .int g4_c2, .int g5_c2, .int x_9, .int x_11, .ref w0, .ref w1, .ref w2, .ref w3, .ref w4, .ref w5, .ref w6, .ref w7])), (w1, .inl (cI, 8, .inl g9_c2)), (w5, .inl (cI, 3, .inl g13_c2)), (w6, .inl (cI, 3, .inl (upd g14_c2 (t1_c2 : Int32).toNatClampNeg r_3)))] := hD
        obtain ⟨x_12, ex_12⟩ : ∃ y : Int32, y = t1_c2 + Int32.ofInt 1 := ⟨_, rfl⟩
        refine lv_iinc (v := x_12) (lv' := [(1, .int x_12), (2, .int r_3), (0, .ref h)]) hx hb dX4_goOnAndSleep_74 hl (k := 1) rfl ex_12.symm (by decide) rfl (fun ls hl => ?_)
        have ex_12 : x_12 = t1_c2 + 1 := ex_12
        have e_12 : x_12.toInt = t1_c2.toInt + 1 := by rw [ex_12]; exact zi_add (rfl) (by decide) (by omega) (by omega)
        clear ex_12
        refine lv_goto (tgt := 2) hx hb dX4_goOnAndSleep_77 (by decide) ?_
        exact ih2 x_12 g0_c2 g1_c2 g2_c2 g3_c2 g4_c2 g5_c2 x_9 x_11 g8_c2 g9_c2 g10_c2 (upd g11_c2 (r_3 : Int32).toNatClampNeg x_7) g12_c2 g13_c2 (upd g14_c2 (t1_c2 : Int32).toNatClampNeg r_3) (upd g15_c2 (t1_c2 : Int32).toNatClampNeg x_4) _ _ _ (show 0 ≤ x_12.toInt ∧ x_12.toInt ≤ 3 from by omega) (show 0 ≤ g0_c2.toInt ∧ g0_c2.toInt ≤ 8 from by omega) (show 0 ≤ g2_c2.toInt ∧ g2_c2.toInt ≤ 3 from by omega) ha_5 (by omega) (hP.sub [5, 0, 6, 2, 3, 1, 7, 8, 4] rfl) (hD.sub [5, 0, 6, 2, 3, 1, 7, 8, 4] (by decide) rfl) hS (lv_sub hl [0, 2] rfl)
  exact hL2 (((3 - (0 : Int32).toInt).toNat) + 1) 0 vi ro wa lz ds dy ga pa fw fo fr fn ft fk fa fb _ _ _ (show 0 ≤ 0 ∧ 0 ≤ 3 from by omega) (show 0 ≤ vi.toInt ∧ vi.toInt ≤ 8 from by omega) (show 0 ≤ wa.toInt ∧ wa.toInt ≤ 3 from by omega) ha (Nat.lt_succ_self _) (hP.sub [0, 1, 2, 3, 4, 5, 6, 7, 8] rfl) (hD.sub [0, 1, 2, 3, 4, 5, 6, 7, 8] (by decide) rfl) hS (lv_sub hl [0, 1] rfl)
set_option maxHeartbeats 4000000 in
set_option maxRecDepth 100000 in
theorem g_X4_layFrost (l : Launch) (D : va_G) (cI cB cQ : ClassId) (sz : Nat) (h : Nat) (w0 : Nat) (w1 : Nat) (w2 : Nat) (w3 : Nat) (w4 : Nat) (w5 : Nat) (w6 : Nat) (w7 : Nat) (vi : Int32) (ro : Int32) (wa : Int32) (lz : Int32) (ds : Int32) (dy : Int32) (ga : Int32) (pa : Int32) (fw : Nat → Int32) (fo : Nat → Int32) (fr : Nat → Int32) (fn : Nat → Int32) (ft : Nat → Int32) (fk : Nat → Int32) (fa : Nat → Int32) (fb : Nat → Int32) (ha : ∀ j, j < 3 → 0 ≤ (fa j).toInt ∧ (fa j).toInt ≤ 7) (h_vi : 0 ≤ vi.toInt ∧ vi.toInt ≤ 8) (h_wa : 0 ≤ wa.toInt ∧ wa.toInt ≤ 3) : mv l yX4_layFrost wsX4_layFrost ({ frames := 1, cells := 0, slots := 0, locals := 21 }) D cI cB cQ [.ref h] sz [(h, .inr (3, [.int vi, .int ro, .int wa, .int lz, .int ds, .int dy, .int ga, .int pa, .ref w0, .ref w1, .ref w2, .ref w3, .ref w4, .ref w5, .ref w6, .ref w7])), (w0, .inl (cI, 8, .inl fw)), (w1, .inl (cI, 8, .inl fo)), (w2, .inl (cI, 8, .inl fr)), (w3, .inl (cI, 8, .inl fn)), (w4, .inl (cI, 8, .inl ft)), (w5, .inl (cI, 3, .inl fk)), (w6, .inl (cI, 3, .inl fa)), (w7, .inl (cI, 3, .inl fb))] (fun (u : (Nat → Int32)) => True) (fun u => [(h, .inr (3, [.int vi, .int ro, .int wa, .int lz, .int ds, .int dy, .int ga, .int pa, .ref w0, .ref w1, .ref w2, .ref w3, .ref w4, .ref w5, .ref w6, .ref w7])), (w0, .inl (cI, 8, .inl fw)), (w1, .inl (cI, 8, .inl fo)), (w2, .inl (cI, 8, .inl fr)), (w3, .inl (cI, 8, .inl fn)), (w4, .inl (cI, 8, .inl u)), (w5, .inl (cI, 3, .inl fk)), (w6, .inl (cI, 3, .inl fa)), (w7, .inl (cI, 3, .inl fb))]) 0 0 := by
  refine wm_v (cc := cX4_layFrost) (maxL := 3) (ret := none) (by decide) rfl (Nat.le_of_ble_eq_true rfl) ?_
  intro p e s m below meth c A ls hx hb hr hml hown hts hlocks hin hP hK hD hN hA hl hS
  have hown : s.vm.findClass RX4 = some m.cls := hown
  have hl : lv_has ls 3 [(0, .ref h)] := hl
  change W p l e ({ frames := 1, cells := 0, slots := 0, locals := 21 }) s m ([.ref h] : List Value).toArray below meth c s.heap [] 0 0 (MQ below (va_Qv (fun (u : (Nat → Int32)) => True) (fun u t => wb D A ((fun u => [(h, .inr (3, [.int vi, .int ro, .int wa, .int lz, .int ds, .int dy, .int ga, .int pa, .ref w0, .ref w1, .ref w2, .ref w3, .ref w4, .ref w5, .ref w6, .ref w7])), (w0, .inl (cI, 8, .inl fw)), (w1, .inl (cI, 8, .inl fo)), (w2, .inl (cI, 8, .inl fr)), (w3, .inl (cI, 8, .inl fn)), (w4, .inl (cI, 8, .inl u)), (w5, .inl (cI, 3, .inl fk)), (w6, .inl (cI, 3, .inl fa)), (w7, .inl (cI, 3, .inl fb))]) u) t) A) ([.ref h] : List Value).toArray s 0 0 A) (F0 m 0 ls [])
  refine lv_iconst (v := 0) hx hb dX4_layFrost_0 (by decide) ?_
  refine lv_istore_n (lv' := [(1, .int 0), (0, .ref h)]) hx hb dX4_layFrost_1 rfl hl (by decide) rfl (fun ls hl => ?_)
  have hL2 : ∀ (nf : Nat) (t1_c2 : Int32) (g0_c2 : Nat → Int32) (H : Heap) (locs : List Loc) (ls : Array Slot), (0 ≤ t1_c2.toInt ∧ t1_c2.toInt ≤ 3) → (3 - t1_c2.toInt).toNat < nf → va_P D kl [(h, .inr (3, [.int vi, .int ro, .int wa, .int lz, .int ds, .int dy, .int ga, .int pa, .ref w0, .ref w1, .ref w2, .ref w3, .ref w4, .ref w5, .ref w6, .ref w7])), (w0, .inl (cI, 8, .inl fw)), (w1, .inl (cI, 8, .inl fo)), (w2, .inl (cI, 8, .inl fr)), (w3, .inl (cI, 8, .inl fn)), (w4, .inl (cI, 8, .inl g0_c2)), (w5, .inl (cI, 3, .inl fk)), (w6, .inl (cI, 3, .inl fa)), (w7, .inl (cI, 3, .inl fb))] H → va_D A [(h, .inr (3, [.int vi, .int ro, .int wa, .int lz, .int ds, .int dy, .int ga, .int pa, .ref w0, .ref w1, .ref w2, .ref w3, .ref w4, .ref w5, .ref w6, .ref w7])), (w0, .inl (cI, 8, .inl fw)), (w1, .inl (cI, 8, .inl fo)), (w2, .inl (cI, 8, .inl fr)), (w3, .inl (cI, 8, .inl fn)), (w4, .inl (cI, 8, .inl g0_c2)), (w5, .inl (cI, 3, .inl fk)), (w6, .inl (cI, 3, .inl fa)), (w7, .inl (cI, 3, .inl fb))] → va_S A s.heap H locs → lv_has ls 3 [(1, .int t1_c2), (0, .ref h)] → W p l e ({ frames := 1, cells := 0, slots := 0, locals := 21 }) s m ([.ref h] : List Value).toArray below meth c H locs 0 0 (MQ below (va_Qv (fun (u : (Nat → Int32)) => True) (fun u t => wb D A ((fun u => [(h, .inr (3, [.int vi, .int ro, .int wa, .int lz, .int ds, .int dy, .int ga, .int pa, .ref w0, .ref w1, .ref w2, .ref w3, .ref w4, .ref w5, .ref w6, .ref w7])), (w0, .inl (cI, 8, .inl fw)), (w1, .inl (cI, 8, .inl fo)), (w2, .inl (cI, 8, .inl fr)), (w3, .inl (cI, 8, .inl fn)), (w4, .inl (cI, 8, .inl u)), (w5, .inl (cI, 3, .inl fk)), (w6, .inl (cI, 3, .inl fa)), (w7, .inl (cI, 3, .inl fb))]) u) t) A) ([.ref h] : List Value).toArray s 0 0 A) (F0 m 2 ls []) := by
    intro nf
    induction nf with
    | zero =>
      intro t1_c2 g0_c2 H locs ls i_t1_c2 hm
      exact absurd hm (Nat.not_lt_zero _)
    | succ nf ih2 =>
      intro t1_c2 g0_c2 H locs ls i_t1_c2 hm2 hP hD hS hl
      refine lv_iload_n hx hb dX4_layFrost_2 rfl (lv_at hl 0 rfl) ?_
      refine lv_aload_n hx hb dX4_layFrost_3 rfl (lv_at hl 1 rfl) ?_
      refine va_get (D := D) (ci := 3) (v := .int wa) (C := RX4) (T := TX4) (N := 16) hx hb hts (fun _ h => List.mem_cons_of_mem _ (List.mem_append_right _ h)) hown hK hP 0 rfl rfl 2 (by decide) (hts (.fieldLink RX4 18 "WinterWalk$Land" "walkers" "I") (List.mem_of_getElem? (i := 1) rfl)) (fun _ h9 => h9) rfl dX4_layFrost_4 ?_
      refine lv_icmp_ge (tgt := 91) hx hb dX4_layFrost_7 (by decide) (fun c_1 => ?_) (fun c_1 => ?_)
      · have f_1 : wa.toInt ≤ t1_c2.toInt := zi_le c_1
        exact wr_v hx hb hr hlocks hS g0_c2 (by trivial) (hP.sub [0, 1, 2, 3, 4, 5, 6, 7, 8] rfl) (hD.sub [0, 1, 2, 3, 4, 5, 6, 7, 8] (by decide) rfl) dX4_layFrost_91
      · have f_1 : ¬ wa.toInt ≤ t1_c2.toInt := zi_nle c_1
        refine lv_aload_n hx hb dX4_layFrost_10 rfl (lv_at hl 1 rfl) ?_
        refine va_get (D := D) (ci := 3) (v := .ref w4) (C := RX4) (T := TX4) (N := 16) hx hb hts (fun _ h => List.mem_cons_of_mem _ (List.mem_append_right _ h)) hown hK hP 0 rfl rfl 12 (by decide) (hts (.fieldLink RX4 49 "WinterWalk$Land" "thaws" "[I") (List.mem_of_getElem? (i := 2) rfl)) (fun _ h9 => h9) rfl dX4_layFrost_11 ?_
        refine lv_aload_n hx hb dX4_layFrost_14 rfl (lv_at hl 1 rfl) ?_
        refine va_get (D := D) (ci := 3) (v := .ref w6) (C := RX4) (T := TX4) (N := 16) hx hb hts (fun _ h => List.mem_cons_of_mem _ (List.mem_append_right _ h)) hown hK hP 0 rfl rfl 14 (by decide) (hts (.fieldLink RX4 55 "WinterWalk$Land" "at" "[I") (List.mem_of_getElem? (i := 3) rfl)) (fun _ h9 => h9) rfl dX4_layFrost_15 ?_
        refine lv_iload_n hx hb dX4_layFrost_18 rfl (lv_at hl 0 rfl) ?_
        refine va_iald hx hb hK hP 7 0 rfl rfl (zi_in (by omega) (by omega)) dX4_layFrost_19 ?_
        refine lv_topi (fun x_2 ex_2 => ?_)
        have f_2 : 0 ≤ x_2.toInt ∧ x_2.toInt ≤ 7 := by rw [ex_2]; exact ha _ (zi_cl (by omega) (by omega))
        clear ex_2
        refine lv_aload_n hx hb dX4_layFrost_20 rfl (lv_at hl 1 rfl) ?_
        refine va_get (D := D) (ci := 3) (v := .int dy) (C := RX4) (T := TX4) (N := 16) hx hb hts (fun _ h => List.mem_cons_of_mem _ (List.mem_append_right _ h)) hown hK hP 0 rfl rfl 5 (by decide) (hts (.fieldLink RX4 27 "WinterWalk$Land" "day" "I") (List.mem_of_getElem? (i := 4) rfl)) (fun _ h9 => h9) rfl dX4_layFrost_21 ?_
        refine lv_aload_n hx hb dX4_layFrost_24 rfl (lv_at hl 1 rfl) ?_
        refine va_get (D := D) (ci := 3) (v := .int lz) (C := RX4) (T := TX4) (N := 16) hx hb hts (fun _ h => List.mem_cons_of_mem _ (List.mem_append_right _ h)) hown hK hP 0 rfl rfl 3 (by decide) (hts (.fieldLink RX4 21 "WinterWalk$Land" "lasts" "I") (List.mem_of_getElem? (i := 5) rfl)) (fun _ h9 => h9) rfl dX4_layFrost_25 ?_
        refine lv_iadd hx hb dX4_layFrost_28 ?_
        refine lv_topi (fun x_3 ex_3 => ?_)
        clear ex_3
        refine va_iast hx hb hK hP hD hS 5 0 rfl rfl (zi_in (by omega) (by omega)) dX4_layFrost_29 (fun H locs hP hD hS => ?_)
        have hP : va_P D kl [(h, .inr (3, [.int vi, .int ro, .int wa, .int lz, .int ds, .int dy, .int ga, .int pa, .ref w0, .ref w1, .ref w2, .ref w3, .ref w4, .ref w5, .ref w6, .ref w7])), (w0, .inl (cI, 8, .inl fw)), (w1, .inl (cI, 8, .inl fo)), (w2, .inl (cI, 8, .inl fr)), (w3, .inl (cI, 8, .inl fn)), (w4, .inl (cI, 8, .inl (upd g0_c2 (x_2 : Int32).toNatClampNeg x_3))), (w5, .inl (cI, 3, .inl fk)), (w6, .inl (cI, 3, .inl fa)), (w7, .inl (cI, 3, .inl fb))] H := hP
        have hD : va_D A [(h, .inr (3, [.int vi, .int ro, .int wa, .int lz, .int ds, .int dy, .int ga, .int pa, .ref w0, .ref w1, .ref w2, .ref w3, .ref w4, .ref w5, .ref w6, .ref w7])), (w0, .inl (cI, 8, .inl fw)), (w1, .inl (cI, 8, .inl fo)), (w2, .inl (cI, 8, .inl fr)), (w3, .inl (cI, 8, .inl fn)), (w4, .inl (cI, 8, .inl (upd g0_c2 (x_2 : Int32).toNatClampNeg x_3))), (w5, .inl (cI, 3, .inl fk)), (w6, .inl (cI, 3, .inl fa)), (w7, .inl (cI, 3, .inl fb))] := hD
        refine lv_iconst (v := 0) hx hb dX4_layFrost_30 (by decide) ?_
        refine lv_istore_n (lv' := [(2, .int 0), (1, .int t1_c2), (0, .ref h)]) hx hb dX4_layFrost_31 rfl hl (by decide) rfl (fun ls hl => ?_)
        have hL32 : ∀ (nf : Nat) (t2_c32 : Int32) (g0_c32 : Nat → Int32) (H : Heap) (locs : List Loc) (ls : Array Slot), (0 ≤ t2_c32.toInt ∧ t2_c32.toInt ≤ 8) → (8 - t2_c32.toInt).toNat < nf → va_P D kl [(h, .inr (3, [.int vi, .int ro, .int wa, .int lz, .int ds, .int dy, .int ga, .int pa, .ref w0, .ref w1, .ref w2, .ref w3, .ref w4, .ref w5, .ref w6, .ref w7])), (w0, .inl (cI, 8, .inl fw)), (w1, .inl (cI, 8, .inl fo)), (w2, .inl (cI, 8, .inl fr)), (w3, .inl (cI, 8, .inl fn)), (w4, .inl (cI, 8, .inl g0_c32)), (w5, .inl (cI, 3, .inl fk)), (w6, .inl (cI, 3, .inl fa)), (w7, .inl (cI, 3, .inl fb))] H → va_D A [(h, .inr (3, [.int vi, .int ro, .int wa, .int lz, .int ds, .int dy, .int ga, .int pa, .ref w0, .ref w1, .ref w2, .ref w3, .ref w4, .ref w5, .ref w6, .ref w7])), (w0, .inl (cI, 8, .inl fw)), (w1, .inl (cI, 8, .inl fo)), (w2, .inl (cI, 8, .inl fr)), (w3, .inl (cI, 8, .inl fn)), (w4, .inl (cI, 8, .inl g0_c32)), (w5, .inl (cI, 3, .inl fk)), (w6, .inl (cI, 3, .inl fa)), (w7, .inl (cI, 3, .inl fb))] → va_S A s.heap H locs → lv_has ls 3 [(2, .int t2_c32), (1, .int t1_c2), (0, .ref h)] → W p l e ({ frames := 1, cells := 0, slots := 0, locals := 21 }) s m ([.ref h] : List Value).toArray below meth c H locs 0 0 (MQ below (va_Qv (fun (u : (Nat → Int32)) => True) (fun u t => wb D A ((fun u => [(h, .inr (3, [.int vi, .int ro, .int wa, .int lz, .int ds, .int dy, .int ga, .int pa, .ref w0, .ref w1, .ref w2, .ref w3, .ref w4, .ref w5, .ref w6, .ref w7])), (w0, .inl (cI, 8, .inl fw)), (w1, .inl (cI, 8, .inl fo)), (w2, .inl (cI, 8, .inl fr)), (w3, .inl (cI, 8, .inl fn)), (w4, .inl (cI, 8, .inl u)), (w5, .inl (cI, 3, .inl fk)), (w6, .inl (cI, 3, .inl fa)), (w7, .inl (cI, 3, .inl fb))]) u) t) A) ([.ref h] : List Value).toArray s 0 0 A) (F0 m 32 ls []) := by
          intro nf
          induction nf with
          | zero =>
            intro t2_c32 g0_c32 H locs ls i_t2_c32 hm
            exact absurd hm (Nat.not_lt_zero _)
          | succ nf ih32 =>
            intro t2_c32 g0_c32 H locs ls i_t2_c32 hm32 hP hD hS hl
            refine lv_iload_n hx hb dX4_layFrost_32 rfl (lv_at hl 0 rfl) ?_
            refine lv_aload_n hx hb dX4_layFrost_33 rfl (lv_at hl 2 rfl) ?_
            refine va_get (D := D) (ci := 3) (v := .int vi) (C := RX4) (T := TX4) (N := 16) hx hb hts (fun _ h => List.mem_cons_of_mem _ (List.mem_append_right _ h)) hown hK hP 0 rfl rfl 0 (by decide) (hts (.fieldLink RX4 9 "WinterWalk$Land" "villages" "I") (List.mem_of_getElem? (i := 6) rfl)) (fun _ h9 => h9) rfl dX4_layFrost_34 ?_
            refine lv_icmp_ge (tgt := 85) hx hb dX4_layFrost_37 (by decide) (fun c_4 => ?_) (fun c_4 => ?_)
            · have f_4 : vi.toInt ≤ t2_c32.toInt := zi_le c_4
              obtain ⟨x_5, ex_5⟩ : ∃ y : Int32, y = t1_c2 + Int32.ofInt 1 := ⟨_, rfl⟩
              refine lv_iinc (v := x_5) (lv' := [(1, .int x_5), (2, .int t2_c32), (0, .ref h)]) hx hb dX4_layFrost_85 hl (k := 1) rfl ex_5.symm (by decide) rfl (fun ls hl => ?_)
              have ex_5 : x_5 = t1_c2 + 1 := ex_5
              have e_5 : x_5.toInt = t1_c2.toInt + 1 := by rw [ex_5]; exact zi_add (rfl) (by decide) (by omega) (by omega)
              clear ex_5
              refine lv_goto (tgt := 2) hx hb dX4_layFrost_88 (by decide) ?_
              exact ih2 x_5 g0_c32 _ _ _ (show 0 ≤ x_5.toInt ∧ x_5.toInt ≤ 3 from by omega) (by omega) (hP.sub [0, 1, 2, 3, 4, 5, 6, 7, 8] rfl) (hD.sub [0, 1, 2, 3, 4, 5, 6, 7, 8] (by decide) rfl) hS (lv_sub hl [0, 2] rfl)
            · have f_4 : ¬ vi.toInt ≤ t2_c32.toInt := zi_nle c_4
              refine lv_aload_n hx hb dX4_layFrost_40 rfl (lv_at hl 2 rfl) ?_
              refine va_get (D := D) (ci := 3) (v := .ref w2) (C := RX4) (T := TX4) (N := 16) hx hb hts (fun _ h => List.mem_cons_of_mem _ (List.mem_append_right _ h)) hown hK hP 0 rfl rfl 10 (by decide) (hts (.fieldLink RX4 43 "WinterWalk$Land" "roads" "[I") (List.mem_of_getElem? (i := 7) rfl)) (fun _ h9 => h9) rfl dX4_layFrost_41 ?_
              refine lv_aload_n hx hb dX4_layFrost_44 rfl (lv_at hl 2 rfl) ?_
              refine va_get (D := D) (ci := 3) (v := .ref w6) (C := RX4) (T := TX4) (N := 16) hx hb hts (fun _ h => List.mem_cons_of_mem _ (List.mem_append_right _ h)) hown hK hP 0 rfl rfl 14 (by decide) (hts (.fieldLink RX4 55 "WinterWalk$Land" "at" "[I") (List.mem_of_getElem? (i := 3) rfl)) (fun _ h9 => h9) rfl dX4_layFrost_45 ?_
              refine lv_iload_n hx hb dX4_layFrost_48 rfl (lv_at hl 1 rfl) ?_
              refine va_iald hx hb hK hP 7 0 rfl rfl (zi_in (by omega) (by omega)) dX4_layFrost_49 ?_
              refine lv_topi (fun x_6 ex_6 => ?_)
              have f_6 : 0 ≤ x_6.toInt ∧ x_6.toInt ≤ 7 := by rw [ex_6]; exact ha _ (zi_cl (by omega) (by omega))
              clear ex_6
              refine va_iald hx hb hK hP 3 0 rfl rfl (zi_in (by omega) (by omega)) dX4_layFrost_50 ?_
              refine lv_topi (fun x_7 ex_7 => ?_)
              clear ex_7
              refine lv_iload_n hx hb dX4_layFrost_51 rfl (lv_at hl 0 rfl) ?_
              have k_8 := (g_X4_isIn l D cI cB cQ H.size x_7 t2_c32)
              refine wc_i (WC := []) (WR := [(h, .inr (3, [.int vi, .int ro, .int wa, .int lz, .int ds, .int dy, .int ga, .int pa, .ref w0, .ref w1, .ref w2, .ref w3, .ref w4, .ref w5, .ref w6, .ref w7])), (w0, .inl (cI, 8, .inl fw)), (w1, .inl (cI, 8, .inl fo)), (w2, .inl (cI, 8, .inl fr)), (w3, .inl (cI, 8, .inl fn)), (w4, .inl (cI, 8, .inl g0_c32)), (w5, .inl (cI, 3, .inl fk)), (w6, .inl (cI, 3, .inl fa)), (w7, .inl (cI, 3, .inl fb))]) (va_runS (As := [.int x_7, .int t2_c32]) (rest := []) ⟨hx, hb, hml, hown, hts⟩ k_8 (va_cwS 2 hts gX4_layFrost_X4_isIn rfl rfl rfl (by decide +kernel) ⟨Nat.le_of_ble_eq_true rfl, Nat.le_of_ble_eq_true rfl⟩) (wp_S hP hK hD hN [] (by decide) rfl) rfl rfl hl.1 rfl (lv_room (Nat.le_of_ble_eq_true rfl)) dX4_layFrost_52 ⟨Nat.le_of_ble_eq_true rfl, Nat.le_of_ble_eq_true rfl⟩) hP hD hS hA [] [0, 1, 2, 3, 4, 5, 6, 7, 8] rfl rfl (by decide) (by decide) (fun r_8 u_8 H locs hw_8 hP hD hS => ?_)
              clear k_8
              have hP : va_P D kl [(h, .inr (3, [.int vi, .int ro, .int wa, .int lz, .int ds, .int dy, .int ga, .int pa, .ref w0, .ref w1, .ref w2, .ref w3, .ref w4, .ref w5, .ref w6, .ref w7])), (w0, .inl (cI, 8, .inl fw)), (w1, .inl (cI, 8, .inl fo)), (w2, .inl (cI, 8, .inl fr)), (w3, .inl (cI, 8, .inl fn)), (w4, .inl (cI, 8, .inl g0_c32)), (w5, .inl (cI, 3, .inl fk)), (w6, .inl (cI, 3, .inl fa)), (w7, .inl (cI, 3, .inl fb))] H := hP
              have hD : va_D A [(h, .inr (3, [.int vi, .int ro, .int wa, .int lz, .int ds, .int dy, .int ga, .int pa, .ref w0, .ref w1, .ref w2, .ref w3, .ref w4, .ref w5, .ref w6, .ref w7])), (w0, .inl (cI, 8, .inl fw)), (w1, .inl (cI, 8, .inl fo)), (w2, .inl (cI, 8, .inl fr)), (w3, .inl (cI, 8, .inl fn)), (w4, .inl (cI, 8, .inl g0_c32)), (w5, .inl (cI, 3, .inl fk)), (w6, .inl (cI, 3, .inl fa)), (w7, .inl (cI, 3, .inl fb))] := hD
              have c8_0 := hw_8
              rcases c8_0 with e_8 | e_8
              · subst e_8
                refine lv_if_eq (tgt := 79) hx hb dX4_layFrost_55 (by decide) (fun c9 => absurd c9 (by decide)) (fun _ => ?_)
                refine lv_aload_n hx hb dX4_layFrost_58 rfl (lv_at hl 2 rfl) ?_
                refine va_get (D := D) (ci := 3) (v := .ref w4) (C := RX4) (T := TX4) (N := 16) hx hb hts (fun _ h => List.mem_cons_of_mem _ (List.mem_append_right _ h)) hown hK hP 0 rfl rfl 12 (by decide) (hts (.fieldLink RX4 49 "WinterWalk$Land" "thaws" "[I") (List.mem_of_getElem? (i := 2) rfl)) (fun _ h9 => h9) rfl dX4_layFrost_59 ?_
                refine lv_iload_n hx hb dX4_layFrost_62 rfl (lv_at hl 0 rfl) ?_
                refine lv_aload_n hx hb dX4_layFrost_63 rfl (lv_at hl 2 rfl) ?_
                refine va_get (D := D) (ci := 3) (v := .ref w4) (C := RX4) (T := TX4) (N := 16) hx hb hts (fun _ h => List.mem_cons_of_mem _ (List.mem_append_right _ h)) hown hK hP 0 rfl rfl 12 (by decide) (hts (.fieldLink RX4 49 "WinterWalk$Land" "thaws" "[I") (List.mem_of_getElem? (i := 2) rfl)) (fun _ h9 => h9) rfl dX4_layFrost_64 ?_
                refine lv_iload_n hx hb dX4_layFrost_67 rfl (lv_at hl 0 rfl) ?_
                refine va_iald hx hb hK hP 5 0 rfl rfl (zi_in (by omega) (by omega)) dX4_layFrost_68 ?_
                refine lv_topi (fun x_9 ex_9 => ?_)
                clear ex_9
                refine lv_aload_n hx hb dX4_layFrost_69 rfl (lv_at hl 2 rfl) ?_
                refine va_get (D := D) (ci := 3) (v := .int dy) (C := RX4) (T := TX4) (N := 16) hx hb hts (fun _ h => List.mem_cons_of_mem _ (List.mem_append_right _ h)) hown hK hP 0 rfl rfl 5 (by decide) (hts (.fieldLink RX4 27 "WinterWalk$Land" "day" "I") (List.mem_of_getElem? (i := 4) rfl)) (fun _ h9 => h9) rfl dX4_layFrost_70 ?_
                refine lv_iconst (v := 1) hx hb dX4_layFrost_73 (by decide) ?_
                refine lv_iadd hx hb dX4_layFrost_74 ?_
                refine lv_topi (fun x_10 ex_10 => ?_)
                clear ex_10
                refine va_mmax hx hb (hml.trans hl.1.symm) hown (hts (.methodLink RX4 88 Lib.Math.max.name) (List.mem_of_getElem? (i := 8) rfl)) (hts (.static Lib.Math.max.name) (List.mem_of_getElem? (i := 9) rfl)) (hts (.initialized "java/lang/Math") (List.mem_of_getElem? (i := 10) rfl)) (hts (.code Lib.Math.max.name Lib.Math.max.code 2 (some .int)) (List.mem_of_getElem? (i := 11) rfl)) (Nat.le_of_ble_eq_true rfl) (Nat.le_of_ble_eq_true rfl) (Nat.le_of_ble_eq_true rfl) (Nat.le_of_ble_eq_true rfl) dX4_layFrost_75 ?_
                refine lv_topi (fun x_11 ex_11 => ?_)
                refine va_iast hx hb hK hP hD hS 5 0 rfl rfl (zi_in (by omega) (by omega)) dX4_layFrost_78 (fun H locs hP hD hS => ?_)
                have hP : va_P D kl [(h, .inr (3, [.int vi, .int ro, .int wa, .int lz, .int ds, .int dy, .int ga, .int pa, .ref w0, .ref w1, .ref w2, .ref w3, .ref w4, .ref w5, .ref w6, .ref w7])), (w0, .inl (cI, 8, .inl fw)), (w1, .inl (cI, 8, .inl fo)), (w2, .inl (cI, 8, .inl fr)), (w3, .inl (cI, 8, .inl fn)), (w4, .inl (cI, 8, .inl (upd g0_c32 (t2_c32 : Int32).toNatClampNeg x_11))), (w5, .inl (cI, 3, .inl fk)), (w6, .inl (cI, 3, .inl fa)), (w7, .inl (cI, 3, .inl fb))] H := hP
                have hD : va_D A [(h, .inr (3, [.int vi, .int ro, .int wa, .int lz, .int ds, .int dy, .int ga, .int pa, .ref w0, .ref w1, .ref w2, .ref w3, .ref w4, .ref w5, .ref w6, .ref w7])), (w0, .inl (cI, 8, .inl fw)), (w1, .inl (cI, 8, .inl fo)), (w2, .inl (cI, 8, .inl fr)), (w3, .inl (cI, 8, .inl fn)), (w4, .inl (cI, 8, .inl (upd g0_c32 (t2_c32 : Int32).toNatClampNeg x_11))), (w5, .inl (cI, 3, .inl fk)), (w6, .inl (cI, 3, .inl fa)), (w7, .inl (cI, 3, .inl fb))] := hD
                obtain ⟨x_12, ex_12⟩ : ∃ y : Int32, y = t2_c32 + Int32.ofInt 1 := ⟨_, rfl⟩
                refine lv_iinc (v := x_12) (lv' := [(2, .int x_12), (1, .int t1_c2), (0, .ref h)]) hx hb dX4_layFrost_79 hl (k := 0) rfl ex_12.symm (by decide) rfl (fun ls hl => ?_)
                have ex_12 : x_12 = t2_c32 + 1 := ex_12
                have e_12 : x_12.toInt = t2_c32.toInt + 1 := by rw [ex_12]; exact zi_add (rfl) (by decide) (by omega) (by omega)
                clear ex_12
                refine lv_goto (tgt := 32) hx hb dX4_layFrost_82 (by decide) ?_
                exact ih32 x_12 (upd g0_c32 (t2_c32 : Int32).toNatClampNeg x_11) _ _ _ (show 0 ≤ x_12.toInt ∧ x_12.toInt ≤ 8 from by omega) (by omega) (hP.sub [0, 1, 2, 3, 4, 5, 6, 7, 8] rfl) (hD.sub [0, 1, 2, 3, 4, 5, 6, 7, 8] (by decide) rfl) hS (lv_sub hl [0, 1, 2] rfl)
              · subst e_8
                refine lv_if_eq (tgt := 79) hx hb dX4_layFrost_55 (by decide) (fun _ => ?_) (fun c9 => absurd (by decide) c9)
                obtain ⟨x_13, ex_13⟩ : ∃ y : Int32, y = t2_c32 + Int32.ofInt 1 := ⟨_, rfl⟩
                refine lv_iinc (v := x_13) (lv' := [(2, .int x_13), (1, .int t1_c2), (0, .ref h)]) hx hb dX4_layFrost_79 hl (k := 0) rfl ex_13.symm (by decide) rfl (fun ls hl => ?_)
                have ex_13 : x_13 = t2_c32 + 1 := ex_13
                have e_13 : x_13.toInt = t2_c32.toInt + 1 := by rw [ex_13]; exact zi_add (rfl) (by decide) (by omega) (by omega)
                clear ex_13
                refine lv_goto (tgt := 32) hx hb dX4_layFrost_82 (by decide) ?_
                exact ih32 x_13 g0_c32 _ _ _ (show 0 ≤ x_13.toInt ∧ x_13.toInt ≤ 8 from by omega) (by omega) (hP.sub [0, 1, 2, 3, 4, 5, 6, 7, 8] rfl) (hD.sub [0, 1, 2, 3, 4, 5, 6, 7, 8] (by decide) rfl) hS (lv_sub hl [0, 1, 2] rfl)
        exact hL32 (((8 - (0 : Int32).toInt).toNat) + 1) 0 (upd g0_c2 (x_2 : Int32).toNatClampNeg x_3) _ _ _ (show 0 ≤ 0 ∧ 0 ≤ 8 from by omega) (Nat.lt_succ_self _) (hP.sub [0, 1, 2, 3, 4, 5, 6, 7, 8] rfl) (hD.sub [0, 1, 2, 3, 4, 5, 6, 7, 8] (by decide) rfl) hS (lv_sub hl [0, 1, 2] rfl)
  exact hL2 (((3 - (0 : Int32).toInt).toNat) + 1) 0 ft _ _ _ (show 0 ≤ 0 ∧ 0 ≤ 3 from by omega) (Nat.lt_succ_self _) (hP.sub [0, 1, 2, 3, 4, 5, 6, 7, 8] rfl) (hD.sub [0, 1, 2, 3, 4, 5, 6, 7, 8] (by decide) rfl) hS (lv_sub hl [0, 1] rfl)
set_option maxHeartbeats 4000000 in
set_option maxRecDepth 100000 in
theorem g_X4_passDay (l : Launch) (D : va_G) (cI cB cQ : ClassId) (sz : Nat) (h : Nat) (w0 : Nat) (w1 : Nat) (w2 : Nat) (w3 : Nat) (w4 : Nat) (w5 : Nat) (w6 : Nat) (w7 : Nat) (vi : Int32) (ro : Int32) (wa : Int32) (lz : Int32) (ds : Int32) (dy : Int32) (ga : Int32) (pa : Int32) (fw : Nat → Int32) (fo : Nat → Int32) (fr : Nat → Int32) (fn : Nat → Int32) (ft : Nat → Int32) (fk : Nat → Int32) (fa : Nat → Int32) (fb : Nat → Int32) (ha : ∀ j, j < 3 → 0 ≤ (fa j).toInt ∧ (fa j).toInt ≤ 7) (h_vi : 0 ≤ vi.toInt ∧ vi.toInt ≤ 8) (h_wa : 0 ≤ wa.toInt ∧ wa.toInt ≤ 3) : mv l yX4_passDay wsX4_passDay ({ frames := 3, cells := 0, slots := 0, locals := 70 }) D cI cB cQ [.ref h] sz [(h, .inr (3, [.int vi, .int ro, .int wa, .int lz, .int ds, .int dy, .int ga, .int pa, .ref w0, .ref w1, .ref w2, .ref w3, .ref w4, .ref w5, .ref w6, .ref w7])), (w0, .inl (cI, 8, .inl fw)), (w1, .inl (cI, 8, .inl fo)), (w2, .inl (cI, 8, .inl fr)), (w3, .inl (cI, 8, .inl fn)), (w4, .inl (cI, 8, .inl ft)), (w5, .inl (cI, 3, .inl fk)), (w6, .inl (cI, 3, .inl fa)), (w7, .inl (cI, 3, .inl fb))] (fun (u : Int32 × Int32 × Int32 × Int32 × Int32 × Int32 × Int32 × Int32 × (Nat → Int32) × (Nat → Int32) × (Nat → Int32) × (Nat → Int32) × (Nat → Int32) × (Nat → Int32) × (Nat → Int32) × (Nat → Int32)) => (0 ≤ u.1.toInt ∧ u.1.toInt ≤ 8) ∧ (0 ≤ u.2.2.1.toInt ∧ u.2.2.1.toInt ≤ 3) ∧ (∀ j, j < 3 → 0 ≤ (u.2.2.2.2.2.2.2.2.2.2.2.2.2.2.1 j).toInt ∧ (u.2.2.2.2.2.2.2.2.2.2.2.2.2.2.1 j).toInt ≤ 7)) (fun u => [(h, .inr (3, [.int u.1, .int u.2.1, .int u.2.2.1, .int u.2.2.2.1, .int u.2.2.2.2.1, .int u.2.2.2.2.2.1, .int u.2.2.2.2.2.2.1, .int u.2.2.2.2.2.2.2.1, .ref w0, .ref w1, .ref w2, .ref w3, .ref w4, .ref w5, .ref w6, .ref w7])), (w0, .inl (cI, 8, .inl u.2.2.2.2.2.2.2.2.1)), (w1, .inl (cI, 8, .inl u.2.2.2.2.2.2.2.2.2.1)), (w2, .inl (cI, 8, .inl u.2.2.2.2.2.2.2.2.2.2.1)), (w3, .inl (cI, 8, .inl u.2.2.2.2.2.2.2.2.2.2.2.1)), (w4, .inl (cI, 8, .inl u.2.2.2.2.2.2.2.2.2.2.2.2.1)), (w5, .inl (cI, 3, .inl u.2.2.2.2.2.2.2.2.2.2.2.2.2.1)), (w6, .inl (cI, 3, .inl u.2.2.2.2.2.2.2.2.2.2.2.2.2.2.1)), (w7, .inl (cI, 3, .inl u.2.2.2.2.2.2.2.2.2.2.2.2.2.2.2))]) 0 0 := by
  refine wm_v (cc := cX4_passDay) (maxL := 1) (ret := none) (by decide) rfl (Nat.le_of_ble_eq_true rfl) ?_
  intro p e s m below meth c A ls hx hb hr hml hown hts hlocks hin hP hK hD hN hA hl hS
  have hown : s.vm.findClass RX4 = some m.cls := hown
  have hl : lv_has ls 1 [(0, .ref h)] := hl
  change W p l e ({ frames := 3, cells := 0, slots := 0, locals := 70 }) s m ([.ref h] : List Value).toArray below meth c s.heap [] 0 0 (MQ below (va_Qv (fun (u : Int32 × Int32 × Int32 × Int32 × Int32 × Int32 × Int32 × Int32 × (Nat → Int32) × (Nat → Int32) × (Nat → Int32) × (Nat → Int32) × (Nat → Int32) × (Nat → Int32) × (Nat → Int32) × (Nat → Int32)) => (0 ≤ u.1.toInt ∧ u.1.toInt ≤ 8) ∧ (0 ≤ u.2.2.1.toInt ∧ u.2.2.1.toInt ≤ 3) ∧ (∀ j, j < 3 → 0 ≤ (u.2.2.2.2.2.2.2.2.2.2.2.2.2.2.1 j).toInt ∧ (u.2.2.2.2.2.2.2.2.2.2.2.2.2.2.1 j).toInt ≤ 7)) (fun u t => wb D A ((fun u => [(h, .inr (3, [.int u.1, .int u.2.1, .int u.2.2.1, .int u.2.2.2.1, .int u.2.2.2.2.1, .int u.2.2.2.2.2.1, .int u.2.2.2.2.2.2.1, .int u.2.2.2.2.2.2.2.1, .ref w0, .ref w1, .ref w2, .ref w3, .ref w4, .ref w5, .ref w6, .ref w7])), (w0, .inl (cI, 8, .inl u.2.2.2.2.2.2.2.2.1)), (w1, .inl (cI, 8, .inl u.2.2.2.2.2.2.2.2.2.1)), (w2, .inl (cI, 8, .inl u.2.2.2.2.2.2.2.2.2.2.1)), (w3, .inl (cI, 8, .inl u.2.2.2.2.2.2.2.2.2.2.2.1)), (w4, .inl (cI, 8, .inl u.2.2.2.2.2.2.2.2.2.2.2.2.1)), (w5, .inl (cI, 3, .inl u.2.2.2.2.2.2.2.2.2.2.2.2.2.1)), (w6, .inl (cI, 3, .inl u.2.2.2.2.2.2.2.2.2.2.2.2.2.2.1)), (w7, .inl (cI, 3, .inl u.2.2.2.2.2.2.2.2.2.2.2.2.2.2.2))]) u) t) A) ([.ref h] : List Value).toArray s 0 0 A) (F0 m 0 ls [])
  refine lv_aload_n hx hb dX4_passDay_0 rfl (lv_at hl 0 rfl) ?_
  have k_1 := (g_X4_goOnAndSleep l D cI cB cQ s.heap.size h w0 w1 w2 w3 w4 w5 w6 w7 vi ro wa lz ds dy ga pa fw fo fr fn ft fk fa fb ha (by omega) (by omega))
  refine wc_v (WC := [(h, .inr (3, [.int vi, .int ro, .int wa, .int lz, .int ds, .int dy, .int ga, .int pa, .ref w0, .ref w1, .ref w2, .ref w3, .ref w4, .ref w5, .ref w6, .ref w7])), (w0, .inl (cI, 8, .inl fw)), (w1, .inl (cI, 8, .inl fo)), (w2, .inl (cI, 8, .inl fr)), (w3, .inl (cI, 8, .inl fn)), (w4, .inl (cI, 8, .inl ft)), (w5, .inl (cI, 3, .inl fk)), (w6, .inl (cI, 3, .inl fa)), (w7, .inl (cI, 3, .inl fb))]) (WR := []) (va_runV (As := []) (rest := []) ⟨hx, hb, hml, hown, hts⟩ k_1 (cwV 0 hts gX4_passDay_X4_goOnAndSleep rfl rfl rfl (by decide +kernel) ⟨Nat.le_of_ble_eq_true rfl, Nat.le_of_ble_eq_true rfl⟩) (wp_V hP hK hD hN [0, 1, 2, 3, 4, 5, 6, 7, 8] (by decide) rfl (ci := 3) rfl rfl) rfl rfl hl.1 rfl (lv_room (Nat.le_of_ble_eq_true rfl)) dX4_passDay_1 ⟨Nat.le_of_ble_eq_true rfl, Nat.le_of_ble_eq_true rfl⟩) hP hD hS hA [0, 1, 2, 3, 4, 5, 6, 7, 8] [] rfl rfl (by decide) (by decide) (pe16 (fun v1_0 v1_1 v1_2 v1_3 v1_4 v1_5 v1_6 v1_7 v1_8 v1_9 v1_10 v1_11 v1_12 v1_13 v1_14 v1_15 H locs hw_1 hP hD hS => ?_))
  clear k_1
  have hP : va_P D kl [(h, .inr (3, [.int v1_0, .int v1_1, .int v1_2, .int v1_3, .int v1_4, .int v1_5, .int v1_6, .int v1_7, .ref w0, .ref w1, .ref w2, .ref w3, .ref w4, .ref w5, .ref w6, .ref w7])), (w0, .inl (cI, 8, .inl v1_8)), (w1, .inl (cI, 8, .inl v1_9)), (w2, .inl (cI, 8, .inl v1_10)), (w3, .inl (cI, 8, .inl v1_11)), (w4, .inl (cI, 8, .inl v1_12)), (w5, .inl (cI, 3, .inl v1_13)), (w6, .inl (cI, 3, .inl v1_14)), (w7, .inl (cI, 3, .inl v1_15))] H := hP
  have hD : va_D A [(h, .inr (3, [.int v1_0, .int v1_1, .int v1_2, .int v1_3, .int v1_4, .int v1_5, .int v1_6, .int v1_7, .ref w0, .ref w1, .ref w2, .ref w3, .ref w4, .ref w5, .ref w6, .ref w7])), (w0, .inl (cI, 8, .inl v1_8)), (w1, .inl (cI, 8, .inl v1_9)), (w2, .inl (cI, 8, .inl v1_10)), (w3, .inl (cI, 8, .inl v1_11)), (w4, .inl (cI, 8, .inl v1_12)), (w5, .inl (cI, 3, .inl v1_13)), (w6, .inl (cI, 3, .inl v1_14)), (w7, .inl (cI, 3, .inl v1_15))] := hD
  obtain ⟨c1_0, c1_1, c1_2⟩ := hw_1
  have c1_0 : 0 ≤ v1_0.toInt ∧ v1_0.toInt ≤ 8 := c1_0
  have c1_1 : 0 ≤ v1_2.toInt ∧ v1_2.toInt ≤ 3 := c1_1
  have c1_2 : ∀ j, j < 3 → 0 ≤ (v1_14 j).toInt ∧ (v1_14 j).toInt ≤ 7 := c1_2
  refine lv_aload_n hx hb dX4_passDay_4 rfl (lv_at hl 0 rfl) ?_
  have k_2 := (g_X4_layFrost l D cI cB cQ H.size h w0 w1 w2 w3 w4 w5 w6 w7 v1_0 v1_1 v1_2 v1_3 v1_4 v1_5 v1_6 v1_7 v1_8 v1_9 v1_10 v1_11 v1_12 v1_13 v1_14 v1_15 c1_2 (by omega) (by omega))
  refine wc_v (WC := [(h, .inr (3, [.int v1_0, .int v1_1, .int v1_2, .int v1_3, .int v1_4, .int v1_5, .int v1_6, .int v1_7, .ref w0, .ref w1, .ref w2, .ref w3, .ref w4, .ref w5, .ref w6, .ref w7])), (w0, .inl (cI, 8, .inl v1_8)), (w1, .inl (cI, 8, .inl v1_9)), (w2, .inl (cI, 8, .inl v1_10)), (w3, .inl (cI, 8, .inl v1_11)), (w4, .inl (cI, 8, .inl v1_12)), (w5, .inl (cI, 3, .inl v1_13)), (w6, .inl (cI, 3, .inl v1_14)), (w7, .inl (cI, 3, .inl v1_15))]) (WR := []) (va_runV (As := []) (rest := []) ⟨hx, hb, hml, hown, hts⟩ k_2 (cwV 0 hts gX4_passDay_X4_layFrost rfl rfl rfl (by decide +kernel) ⟨Nat.le_of_ble_eq_true rfl, Nat.le_of_ble_eq_true rfl⟩) (wp_V hP hK hD hN [0, 1, 2, 3, 4, 5, 6, 7, 8] (by decide) rfl (ci := 3) rfl rfl) rfl rfl hl.1 rfl (lv_room (Nat.le_of_ble_eq_true rfl)) dX4_passDay_5 ⟨Nat.le_of_ble_eq_true rfl, Nat.le_of_ble_eq_true rfl⟩) hP hD hS hA [0, 1, 2, 3, 4, 5, 6, 7, 8] [] rfl rfl (by decide) (by decide) (fun u_2 H locs hw_2 hP hD hS => ?_)
  clear k_2
  have hP : va_P D kl [(h, .inr (3, [.int v1_0, .int v1_1, .int v1_2, .int v1_3, .int v1_4, .int v1_5, .int v1_6, .int v1_7, .ref w0, .ref w1, .ref w2, .ref w3, .ref w4, .ref w5, .ref w6, .ref w7])), (w0, .inl (cI, 8, .inl v1_8)), (w1, .inl (cI, 8, .inl v1_9)), (w2, .inl (cI, 8, .inl v1_10)), (w3, .inl (cI, 8, .inl v1_11)), (w4, .inl (cI, 8, .inl u_2)), (w5, .inl (cI, 3, .inl v1_13)), (w6, .inl (cI, 3, .inl v1_14)), (w7, .inl (cI, 3, .inl v1_15))] H := hP
  have hD : va_D A [(h, .inr (3, [.int v1_0, .int v1_1, .int v1_2, .int v1_3, .int v1_4, .int v1_5, .int v1_6, .int v1_7, .ref w0, .ref w1, .ref w2, .ref w3, .ref w4, .ref w5, .ref w6, .ref w7])), (w0, .inl (cI, 8, .inl v1_8)), (w1, .inl (cI, 8, .inl v1_9)), (w2, .inl (cI, 8, .inl v1_10)), (w3, .inl (cI, 8, .inl v1_11)), (w4, .inl (cI, 8, .inl u_2)), (w5, .inl (cI, 3, .inl v1_13)), (w6, .inl (cI, 3, .inl v1_14)), (w7, .inl (cI, 3, .inl v1_15))] := hD
  clear hw_2
  exact wr_v hx hb hr hlocks hS (v1_0, v1_1, v1_2, v1_3, v1_4, v1_5, v1_6, v1_7, v1_8, v1_9, v1_10, v1_11, u_2, v1_13, v1_14, v1_15) (by exact ⟨show 0 ≤ (v1_0 : Int32).toInt ∧ (v1_0 : Int32).toInt ≤ 8 from by omega, show 0 ≤ (v1_2 : Int32).toInt ∧ (v1_2 : Int32).toInt ≤ 3 from by omega, c1_2⟩) (hP.sub [0, 1, 2, 3, 4, 5, 6, 7, 8] rfl) (hD.sub [0, 1, 2, 3, 4, 5, 6, 7, 8] (by decide) rfl) dX4_passDay_8
set_option maxHeartbeats 4000000 in
set_option maxRecDepth 100000 in
theorem g_X4_frostOf (l : Launch) (D : va_G) (cI cB cQ : ClassId) (sz : Nat) (h : Nat) (w0 : Nat) (w1 : Nat) (w2 : Nat) (w3 : Nat) (w4 : Nat) (w5 : Nat) (w6 : Nat) (w7 : Nat) (vi : Int32) (ro : Int32) (wa : Int32) (lz : Int32) (ds : Int32) (dy : Int32) (ga : Int32) (pa : Int32) (v : Int32) (ft : Nat → Int32) (h_v : 0 ≤ v.toInt ∧ v.toInt ≤ 7) : mi l yX4_frostOf wsX4_frostOf ({ frames := 1, cells := 0, slots := 0, locals := 21 }) D cI cB cQ [.ref h, .int v] sz [(h, .inr (3, [.int vi, .int ro, .int wa, .int lz, .int ds, .int dy, .int ga, .int pa, .ref w0, .ref w1, .ref w2, .ref w3, .ref w4, .ref w5, .ref w6, .ref w7])), (w4, .inl (cI, 8, .inl ft))] (fun (r : Int32) (_u : Unit) => True) (fun _ => [(h, .inr (3, [.int vi, .int ro, .int wa, .int lz, .int ds, .int dy, .int ga, .int pa, .ref w0, .ref w1, .ref w2, .ref w3, .ref w4, .ref w5, .ref w6, .ref w7])), (w4, .inl (cI, 8, .inl ft))]) 0 0 := by
  refine wm_i (cc := cX4_frostOf) (maxL := 2) (ret := (some .int)) (by decide) rfl (Nat.le_of_ble_eq_true rfl) ?_
  intro p e s m below meth c A ls hx hb hr hml hown hts hlocks hin hP hK hD hN hA hl hS
  have hown : s.vm.findClass RX4 = some m.cls := hown
  have hl : lv_has ls 2 [(0, .ref h), (1, .int v)] := hl
  change W p l e ({ frames := 1, cells := 0, slots := 0, locals := 21 }) s m ([.ref h, .int v] : List Value).toArray below meth c s.heap [] 0 0 (MQ below (va_Qi (fun (r : Int32) (_u : Unit) => True) (fun u t => wb D A ((fun _ => [(h, .inr (3, [.int vi, .int ro, .int wa, .int lz, .int ds, .int dy, .int ga, .int pa, .ref w0, .ref w1, .ref w2, .ref w3, .ref w4, .ref w5, .ref w6, .ref w7])), (w4, .inl (cI, 8, .inl ft))]) u) t) A) ([.ref h, .int v] : List Value).toArray s 0 0 A) (F0 m 0 ls [])
  refine lv_iconst (v := 0) hx hb dX4_frostOf_0 (by decide) ?_
  refine lv_aload_n hx hb dX4_frostOf_1 rfl (lv_at hl 0 rfl) ?_
  refine va_get (D := D) (ci := 3) (v := .ref w4) (C := RX4) (T := TX4) (N := 16) hx hb hts (fun _ h => List.mem_cons_of_mem _ (List.mem_append_right _ h)) hown hK hP 0 rfl rfl 12 (by decide) (hts (.fieldLink RX4 49 "WinterWalk$Land" "thaws" "[I") (List.mem_of_getElem? (i := 1) rfl)) (fun _ h9 => h9) rfl dX4_frostOf_2 ?_
  refine lv_iload_n hx hb dX4_frostOf_5 rfl (lv_at hl 1 rfl) ?_
  refine va_iald hx hb hK hP 1 0 rfl rfl (zi_in (by omega) (by omega)) dX4_frostOf_6 ?_
  refine lv_topi (fun x_1 ex_1 => ?_)
  clear ex_1
  refine lv_aload_n hx hb dX4_frostOf_7 rfl (lv_at hl 0 rfl) ?_
  refine va_get (D := D) (ci := 3) (v := .int dy) (C := RX4) (T := TX4) (N := 16) hx hb hts (fun _ h => List.mem_cons_of_mem _ (List.mem_append_right _ h)) hown hK hP 0 rfl rfl 5 (by decide) (hts (.fieldLink RX4 27 "WinterWalk$Land" "day" "I") (List.mem_of_getElem? (i := 2) rfl)) (fun _ h9 => h9) rfl dX4_frostOf_8 ?_
  refine lv_isub hx hb dX4_frostOf_11 ?_
  refine lv_topi (fun x_2 ex_2 => ?_)
  clear ex_2
  refine va_mmax hx hb (hml.trans hl.1.symm) hown (hts (.methodLink RX4 88 Lib.Math.max.name) (List.mem_of_getElem? (i := 3) rfl)) (hts (.static Lib.Math.max.name) (List.mem_of_getElem? (i := 4) rfl)) (hts (.initialized "java/lang/Math") (List.mem_of_getElem? (i := 5) rfl)) (hts (.code Lib.Math.max.name Lib.Math.max.code 2 (some .int)) (List.mem_of_getElem? (i := 6) rfl)) (Nat.le_of_ble_eq_true rfl) (Nat.le_of_ble_eq_true rfl) (Nat.le_of_ble_eq_true rfl) (Nat.le_of_ble_eq_true rfl) dX4_frostOf_12 ?_
  refine lv_topi (fun x_3 ex_3 => ?_)
  exact wr_i (v := x_3) hx hb hr hlocks hS () (by trivial) (hP.sub [0, 1] rfl) (hD.sub [0, 1] (by decide) rfl) dX4_frostOf_15
set_option maxHeartbeats 4000000 in
set_option maxRecDepth 100000 in
theorem g_X4_frozen (l : Launch) (D : va_G) (cI cB cQ : ClassId) (sz : Nat) (h : Nat) (w0 : Nat) (w1 : Nat) (w2 : Nat) (w3 : Nat) (w4 : Nat) (w5 : Nat) (w6 : Nat) (w7 : Nat) (vi : Int32) (ro : Int32) (wa : Int32) (lz : Int32) (ds : Int32) (dy : Int32) (ga : Int32) (pa : Int32) (ft : Nat → Int32) (h_vi : 0 ≤ vi.toInt ∧ vi.toInt ≤ 8) (h_wa : 0 ≤ wa.toInt ∧ wa.toInt ≤ 3) : mi l yX4_frozen wsX4_frozen ({ frames := 0, cells := 0, slots := 0, locals := 0 }) D cI cB cQ [.ref h] sz [(h, .inr (3, [.int vi, .int ro, .int wa, .int lz, .int ds, .int dy, .int ga, .int pa, .ref w0, .ref w1, .ref w2, .ref w3, .ref w4, .ref w5, .ref w6, .ref w7])), (w4, .inl (cI, 8, .inl ft))] (fun (r : Int32) (_u : Unit) => True) (fun _ => [(h, .inr (3, [.int vi, .int ro, .int wa, .int lz, .int ds, .int dy, .int ga, .int pa, .ref w0, .ref w1, .ref w2, .ref w3, .ref w4, .ref w5, .ref w6, .ref w7])), (w4, .inl (cI, 8, .inl ft))]) 0 0 := by
  refine wm_i (cc := cX4_frozen) (maxL := 3) (ret := (some .int)) (by decide) rfl (Nat.le_of_ble_eq_true rfl) ?_
  intro p e s m below meth c A ls hx hb hr hml hown hts hlocks hin hP hK hD hN hA hl hS
  have hown : s.vm.findClass RX4 = some m.cls := hown
  have hl : lv_has ls 3 [(0, .ref h)] := hl
  change W p l e ({ frames := 0, cells := 0, slots := 0, locals := 0 }) s m ([.ref h] : List Value).toArray below meth c s.heap [] 0 0 (MQ below (va_Qi (fun (r : Int32) (_u : Unit) => True) (fun u t => wb D A ((fun _ => [(h, .inr (3, [.int vi, .int ro, .int wa, .int lz, .int ds, .int dy, .int ga, .int pa, .ref w0, .ref w1, .ref w2, .ref w3, .ref w4, .ref w5, .ref w6, .ref w7])), (w4, .inl (cI, 8, .inl ft))]) u) t) A) ([.ref h] : List Value).toArray s 0 0 A) (F0 m 0 ls [])
  refine lv_iconst (v := 0) hx hb dX4_frozen_0 (by decide) ?_
  refine lv_istore_n (lv' := [(1, .int 0), (0, .ref h)]) hx hb dX4_frozen_1 rfl hl (by decide) rfl (fun ls hl => ?_)
  refine lv_iconst (v := 0) hx hb dX4_frozen_2 (by decide) ?_
  refine lv_istore_n (lv' := [(2, .int 0), (1, .int 0), (0, .ref h)]) hx hb dX4_frozen_3 rfl hl (by decide) rfl (fun ls hl => ?_)
  have hL4 : ∀ (nf : Nat) (t2_c4 : Int32) (t1_c4 : Int32) (H : Heap) (locs : List Loc) (ls : Array Slot), (0 ≤ t2_c4.toInt ∧ t2_c4.toInt ≤ 8) → (8 - t2_c4.toInt).toNat < nf → va_P D kl [(h, .inr (3, [.int vi, .int ro, .int wa, .int lz, .int ds, .int dy, .int ga, .int pa, .ref w0, .ref w1, .ref w2, .ref w3, .ref w4, .ref w5, .ref w6, .ref w7])), (w4, .inl (cI, 8, .inl ft))] H → va_D A [(h, .inr (3, [.int vi, .int ro, .int wa, .int lz, .int ds, .int dy, .int ga, .int pa, .ref w0, .ref w1, .ref w2, .ref w3, .ref w4, .ref w5, .ref w6, .ref w7])), (w4, .inl (cI, 8, .inl ft))] → va_S A s.heap H locs → lv_has ls 3 [(2, .int t2_c4), (1, .int t1_c4), (0, .ref h)] → W p l e ({ frames := 0, cells := 0, slots := 0, locals := 0 }) s m ([.ref h] : List Value).toArray below meth c H locs 0 0 (MQ below (va_Qi (fun (r : Int32) (_u : Unit) => True) (fun u t => wb D A ((fun _ => [(h, .inr (3, [.int vi, .int ro, .int wa, .int lz, .int ds, .int dy, .int ga, .int pa, .ref w0, .ref w1, .ref w2, .ref w3, .ref w4, .ref w5, .ref w6, .ref w7])), (w4, .inl (cI, 8, .inl ft))]) u) t) A) ([.ref h] : List Value).toArray s 0 0 A) (F0 m 4 ls []) := by
    intro nf
    induction nf with
    | zero =>
      intro t2_c4 t1_c4 H locs ls i_t2_c4 hm
      exact absurd hm (Nat.not_lt_zero _)
    | succ nf ih4 =>
      intro t2_c4 t1_c4 H locs ls i_t2_c4 hm4 hP hD hS hl
      refine lv_iload_n hx hb dX4_frozen_4 rfl (lv_at hl 0 rfl) ?_
      refine lv_aload_n hx hb dX4_frozen_5 rfl (lv_at hl 2 rfl) ?_
      refine va_get (D := D) (ci := 3) (v := .int vi) (C := RX4) (T := TX4) (N := 16) hx hb hts (fun _ h => List.mem_cons_of_mem _ (List.mem_append_right _ h)) hown hK hP 0 rfl rfl 0 (by decide) (hts (.fieldLink RX4 9 "WinterWalk$Land" "villages" "I") (List.mem_of_getElem? (i := 1) rfl)) (fun _ h9 => h9) rfl dX4_frozen_6 ?_
      refine lv_icmp_ge (tgt := 37) hx hb dX4_frozen_9 (by decide) (fun c_1 => ?_) (fun c_1 => ?_)
      · have f_1 : vi.toInt ≤ t2_c4.toInt := zi_le c_1
        refine lv_iload_n hx hb dX4_frozen_37 rfl (lv_at hl 1 rfl) ?_
        exact wr_i (v := t1_c4) hx hb hr hlocks hS () (by trivial) (hP.sub [0, 1] rfl) (hD.sub [0, 1] (by decide) rfl) dX4_frozen_38
      · have f_1 : ¬ vi.toInt ≤ t2_c4.toInt := zi_nle c_1
        refine lv_aload_n hx hb dX4_frozen_12 rfl (lv_at hl 2 rfl) ?_
        refine va_get (D := D) (ci := 3) (v := .ref w4) (C := RX4) (T := TX4) (N := 16) hx hb hts (fun _ h => List.mem_cons_of_mem _ (List.mem_append_right _ h)) hown hK hP 0 rfl rfl 12 (by decide) (hts (.fieldLink RX4 49 "WinterWalk$Land" "thaws" "[I") (List.mem_of_getElem? (i := 2) rfl)) (fun _ h9 => h9) rfl dX4_frozen_13 ?_
        refine lv_iload_n hx hb dX4_frozen_16 rfl (lv_at hl 0 rfl) ?_
        refine va_iald hx hb hK hP 1 0 rfl rfl (zi_in (by omega) (by omega)) dX4_frozen_17 ?_
        refine lv_topi (fun x_2 ex_2 => ?_)
        clear ex_2
        refine lv_aload_n hx hb dX4_frozen_18 rfl (lv_at hl 2 rfl) ?_
        refine va_get (D := D) (ci := 3) (v := .int dy) (C := RX4) (T := TX4) (N := 16) hx hb hts (fun _ h => List.mem_cons_of_mem _ (List.mem_append_right _ h)) hown hK hP 0 rfl rfl 5 (by decide) (hts (.fieldLink RX4 27 "WinterWalk$Land" "day" "I") (List.mem_of_getElem? (i := 3) rfl)) (fun _ h9 => h9) rfl dX4_frozen_19 ?_
        refine lv_icmp_le (tgt := 31) hx hb dX4_frozen_22 (by decide) (fun c_3 => ?_) (fun c_3 => ?_)
        · have f_3 : x_2.toInt ≤ dy.toInt := zi_le c_3
          obtain ⟨x_4, ex_4⟩ : ∃ y : Int32, y = t2_c4 + Int32.ofInt 1 := ⟨_, rfl⟩
          refine lv_iinc (v := x_4) (lv' := [(2, .int x_4), (1, .int t1_c4), (0, .ref h)]) hx hb dX4_frozen_31 hl (k := 0) rfl ex_4.symm (by decide) rfl (fun ls hl => ?_)
          have ex_4 : x_4 = t2_c4 + 1 := ex_4
          have e_4 : x_4.toInt = t2_c4.toInt + 1 := by rw [ex_4]; exact zi_add (rfl) (by decide) (by omega) (by omega)
          clear ex_4
          refine lv_goto (tgt := 4) hx hb dX4_frozen_34 (by decide) ?_
          exact ih4 x_4 t1_c4 _ _ _ (show 0 ≤ x_4.toInt ∧ x_4.toInt ≤ 8 from by omega) (by omega) (hP.sub [0, 1] rfl) (hD.sub [0, 1] (by decide) rfl) hS (lv_sub hl [0, 1, 2] rfl)
        · have f_3 : ¬ x_2.toInt ≤ dy.toInt := zi_nle c_3
          refine lv_iload_n hx hb dX4_frozen_25 rfl (lv_at hl 1 rfl) ?_
          refine lv_iconst (v := 1) hx hb dX4_frozen_26 (by decide) ?_
          refine lv_iload_n hx hb dX4_frozen_27 rfl (lv_at hl 0 rfl) ?_
          refine lv_ishl hx hb dX4_frozen_28 ?_
          refine lv_topi (fun x_5 ex_5 => ?_)
          have e_5 : 1 ≤ x_5.toInt ∧ x_5.toInt ≤ 256 := by rw [ex_5]; exact zi_sh (by omega)
          clear ex_5
          refine lv_ior hx hb dX4_frozen_29 ?_
          refine lv_topi (fun x_6 ex_6 => ?_)
          clear ex_6
          refine lv_istore_n (lv' := [(1, .int x_6), (2, .int t2_c4), (0, .ref h)]) hx hb dX4_frozen_30 rfl hl (by decide) rfl (fun ls hl => ?_)
          obtain ⟨x_7, ex_7⟩ : ∃ y : Int32, y = t2_c4 + Int32.ofInt 1 := ⟨_, rfl⟩
          refine lv_iinc (v := x_7) (lv' := [(2, .int x_7), (1, .int x_6), (0, .ref h)]) hx hb dX4_frozen_31 hl (k := 1) rfl ex_7.symm (by decide) rfl (fun ls hl => ?_)
          have ex_7 : x_7 = t2_c4 + 1 := ex_7
          have e_7 : x_7.toInt = t2_c4.toInt + 1 := by rw [ex_7]; exact zi_add (rfl) (by decide) (by omega) (by omega)
          clear ex_7
          refine lv_goto (tgt := 4) hx hb dX4_frozen_34 (by decide) ?_
          exact ih4 x_7 x_6 _ _ _ (show 0 ≤ x_7.toInt ∧ x_7.toInt ≤ 8 from by omega) (by omega) (hP.sub [0, 1] rfl) (hD.sub [0, 1] (by decide) rfl) hS (lv_sub hl [0, 1, 2] rfl)
  exact hL4 (((8 - (0 : Int32).toInt).toNat) + 1) 0 0 _ _ _ (show 0 ≤ 0 ∧ 0 ≤ 8 from by omega) (Nat.lt_succ_self _) (hP.sub [0, 1] rfl) (hD.sub [0, 1] (by decide) rfl) hS (lv_sub hl [0, 1, 2] rfl)
set_option maxHeartbeats 4000000 in
set_option maxRecDepth 100000 in
theorem g_X4_hasSleeper (l : Launch) (D : va_G) (cI cB cQ : ClassId) (sz : Nat) (h : Nat) (w0 : Nat) (w1 : Nat) (w2 : Nat) (w3 : Nat) (w4 : Nat) (w5 : Nat) (w6 : Nat) (w7 : Nat) (vi : Int32) (ro : Int32) (wa : Int32) (lz : Int32) (ds : Int32) (dy : Int32) (ga : Int32) (pa : Int32) (v : Int32) (fa : Nat → Int32) (ha : ∀ j, j < 3 → 0 ≤ (fa j).toInt ∧ (fa j).toInt ≤ 7) (h_vi : 0 ≤ vi.toInt ∧ vi.toInt ≤ 8) (h_wa : 0 ≤ wa.toInt ∧ wa.toInt ≤ 3) : mi l yX4_hasSleeper wsX4_hasSleeper ({ frames := 0, cells := 0, slots := 0, locals := 0 }) D cI cB cQ [.ref h, .int v] sz [(h, .inr (3, [.int vi, .int ro, .int wa, .int lz, .int ds, .int dy, .int ga, .int pa, .ref w0, .ref w1, .ref w2, .ref w3, .ref w4, .ref w5, .ref w6, .ref w7])), (w6, .inl (cI, 3, .inl fa))] (fun (r : Int32) (_u : Unit) => ((r = 1) ∨ (r = 0))) (fun _ => [(h, .inr (3, [.int vi, .int ro, .int wa, .int lz, .int ds, .int dy, .int ga, .int pa, .ref w0, .ref w1, .ref w2, .ref w3, .ref w4, .ref w5, .ref w6, .ref w7])), (w6, .inl (cI, 3, .inl fa))]) 0 0 := by
  refine wm_i (cc := cX4_hasSleeper) (maxL := 3) (ret := (some .boolean)) (by decide) rfl (Nat.le_of_ble_eq_true rfl) ?_
  intro p e s m below meth c A ls hx hb hr hml hown hts hlocks hin hP hK hD hN hA hl hS
  have hown : s.vm.findClass RX4 = some m.cls := hown
  have hl : lv_has ls 3 [(0, .ref h), (1, .int v)] := hl
  change W p l e ({ frames := 0, cells := 0, slots := 0, locals := 0 }) s m ([.ref h, .int v] : List Value).toArray below meth c s.heap [] 0 0 (MQ below (va_Qi (fun (r : Int32) (_u : Unit) => ((r = 1) ∨ (r = 0))) (fun u t => wb D A ((fun _ => [(h, .inr (3, [.int vi, .int ro, .int wa, .int lz, .int ds, .int dy, .int ga, .int pa, .ref w0, .ref w1, .ref w2, .ref w3, .ref w4, .ref w5, .ref w6, .ref w7])), (w6, .inl (cI, 3, .inl fa))]) u) t) A) ([.ref h, .int v] : List Value).toArray s 0 0 A) (F0 m 0 ls [])
  refine lv_iconst (v := 0) hx hb dX4_hasSleeper_0 (by decide) ?_
  refine lv_istore_n (lv' := [(2, .int 0), (0, .ref h), (1, .int v)]) hx hb dX4_hasSleeper_1 rfl hl (by decide) rfl (fun ls hl => ?_)
  have hL2 : ∀ (nf : Nat) (t2_c2 : Int32) (H : Heap) (locs : List Loc) (ls : Array Slot), (0 ≤ t2_c2.toInt ∧ t2_c2.toInt ≤ 3) → (3 - t2_c2.toInt).toNat < nf → va_P D kl [(h, .inr (3, [.int vi, .int ro, .int wa, .int lz, .int ds, .int dy, .int ga, .int pa, .ref w0, .ref w1, .ref w2, .ref w3, .ref w4, .ref w5, .ref w6, .ref w7])), (w6, .inl (cI, 3, .inl fa))] H → va_D A [(h, .inr (3, [.int vi, .int ro, .int wa, .int lz, .int ds, .int dy, .int ga, .int pa, .ref w0, .ref w1, .ref w2, .ref w3, .ref w4, .ref w5, .ref w6, .ref w7])), (w6, .inl (cI, 3, .inl fa))] → va_S A s.heap H locs → lv_has ls 3 [(2, .int t2_c2), (0, .ref h), (1, .int v)] → W p l e ({ frames := 0, cells := 0, slots := 0, locals := 0 }) s m ([.ref h, .int v] : List Value).toArray below meth c H locs 0 0 (MQ below (va_Qi (fun (r : Int32) (_u : Unit) => ((r = 1) ∨ (r = 0))) (fun u t => wb D A ((fun _ => [(h, .inr (3, [.int vi, .int ro, .int wa, .int lz, .int ds, .int dy, .int ga, .int pa, .ref w0, .ref w1, .ref w2, .ref w3, .ref w4, .ref w5, .ref w6, .ref w7])), (w6, .inl (cI, 3, .inl fa))]) u) t) A) ([.ref h, .int v] : List Value).toArray s 0 0 A) (F0 m 2 ls []) := by
    intro nf
    induction nf with
    | zero =>
      intro t2_c2 H locs ls i_t2_c2 hm
      exact absurd hm (Nat.not_lt_zero _)
    | succ nf ih2 =>
      intro t2_c2 H locs ls i_t2_c2 hm2 hP hD hS hl
      refine lv_iload_n hx hb dX4_hasSleeper_2 rfl (lv_at hl 0 rfl) ?_
      refine lv_aload_n hx hb dX4_hasSleeper_3 rfl (lv_at hl 1 rfl) ?_
      refine va_get (D := D) (ci := 3) (v := .int wa) (C := RX4) (T := TX4) (N := 16) hx hb hts (fun _ h => List.mem_cons_of_mem _ (List.mem_append_right _ h)) hown hK hP 0 rfl rfl 2 (by decide) (hts (.fieldLink RX4 18 "WinterWalk$Land" "walkers" "I") (List.mem_of_getElem? (i := 1) rfl)) (fun _ h9 => h9) rfl dX4_hasSleeper_4 ?_
      refine lv_icmp_ge (tgt := 28) hx hb dX4_hasSleeper_7 (by decide) (fun c_1 => ?_) (fun c_1 => ?_)
      · have f_1 : wa.toInt ≤ t2_c2.toInt := zi_le c_1
        refine lv_iconst (v := 0) hx hb dX4_hasSleeper_28 (by decide) ?_
        exact wr_z (v := 0) hx hb hr hlocks hS () (by exact Or.inr (rfl)) (hP.sub [0, 1] rfl) (hD.sub [0, 1] (by decide) rfl) dX4_hasSleeper_29 rfl
      · have f_1 : ¬ wa.toInt ≤ t2_c2.toInt := zi_nle c_1
        refine lv_aload_n hx hb dX4_hasSleeper_10 rfl (lv_at hl 1 rfl) ?_
        refine va_get (D := D) (ci := 3) (v := .ref w6) (C := RX4) (T := TX4) (N := 16) hx hb hts (fun _ h => List.mem_cons_of_mem _ (List.mem_append_right _ h)) hown hK hP 0 rfl rfl 14 (by decide) (hts (.fieldLink RX4 55 "WinterWalk$Land" "at" "[I") (List.mem_of_getElem? (i := 2) rfl)) (fun _ h9 => h9) rfl dX4_hasSleeper_11 ?_
        refine lv_iload_n hx hb dX4_hasSleeper_14 rfl (lv_at hl 0 rfl) ?_
        refine va_iald hx hb hK hP 1 0 rfl rfl (zi_in (by omega) (by omega)) dX4_hasSleeper_15 ?_
        refine lv_topi (fun x_2 ex_2 => ?_)
        have f_2 : 0 ≤ x_2.toInt ∧ x_2.toInt ≤ 7 := by rw [ex_2]; exact ha _ (zi_cl (by omega) (by omega))
        clear ex_2
        refine lv_iload_n hx hb dX4_hasSleeper_16 rfl (lv_at hl 2 rfl) ?_
        refine lv_icmp_ne (tgt := 22) hx hb dX4_hasSleeper_17 (by decide) (fun c_3 => ?_) (fun c_3 => ?_)
        · have f_3 : ¬ x_2.toInt = v.toInt := zi_ne c_3
          obtain ⟨x_4, ex_4⟩ : ∃ y : Int32, y = t2_c2 + Int32.ofInt 1 := ⟨_, rfl⟩
          refine lv_iinc (v := x_4) (lv' := [(2, .int x_4), (0, .ref h), (1, .int v)]) hx hb dX4_hasSleeper_22 hl (k := 0) rfl ex_4.symm (by decide) rfl (fun ls hl => ?_)
          have ex_4 : x_4 = t2_c2 + 1 := ex_4
          have e_4 : x_4.toInt = t2_c2.toInt + 1 := by rw [ex_4]; exact zi_add (rfl) (by decide) (by omega) (by omega)
          clear ex_4
          refine lv_goto (tgt := 2) hx hb dX4_hasSleeper_25 (by decide) ?_
          exact ih2 x_4 _ _ _ (show 0 ≤ x_4.toInt ∧ x_4.toInt ≤ 3 from by omega) (by omega) (hP.sub [0, 1] rfl) (hD.sub [0, 1] (by decide) rfl) hS (lv_sub hl [0, 1, 2] rfl)
        · have f_3 : x_2.toInt = v.toInt := zi_eq c_3
          refine lv_iconst (v := 1) hx hb dX4_hasSleeper_20 (by decide) ?_
          exact wr_z (v := 1) hx hb hr hlocks hS () (by exact Or.inl rfl) (hP.sub [0, 1] rfl) (hD.sub [0, 1] (by decide) rfl) dX4_hasSleeper_21 rfl
  exact hL2 (((3 - (0 : Int32).toInt).toNat) + 1) 0 _ _ _ (show 0 ≤ 0 ∧ 0 ≤ 3 from by omega) (Nat.lt_succ_self _) (hP.sub [0, 1] rfl) (hD.sub [0, 1] (by decide) rfl) hS (lv_sub hl [0, 1, 2] rfl)
set_option maxHeartbeats 4000000 in
set_option maxRecDepth 100000 in
theorem g_X4_keptTonight (l : Launch) (D : va_G) (cI cB cQ : ClassId) (sz : Nat) (h : Nat) (w0 : Nat) (w1 : Nat) (w2 : Nat) (w3 : Nat) (w4 : Nat) (w5 : Nat) (w6 : Nat) (w7 : Nat) (vi : Int32) (ro : Int32) (wa : Int32) (lz : Int32) (ds : Int32) (dy : Int32) (ga : Int32) (pa : Int32) (v : Int32) (fw : Nat → Int32) (fo : Nat → Int32) (fk : Nat → Int32) (fa : Nat → Int32) (ha : ∀ j, j < 3 → 0 ≤ (fa j).toInt ∧ (fa j).toInt ≤ 7) (h_vi : 0 ≤ vi.toInt ∧ vi.toInt ≤ 8) (h_wa : 0 ≤ wa.toInt ∧ wa.toInt ≤ 3) (h_v : 0 ≤ v.toInt ∧ v.toInt ≤ 7) : mi l yX4_keptTonight wsX4_keptTonight ({ frames := 2, cells := 0, slots := 0, locals := 41 }) D cI cB cQ [.ref h, .int v] sz [(h, .inr (3, [.int vi, .int ro, .int wa, .int lz, .int ds, .int dy, .int ga, .int pa, .ref w0, .ref w1, .ref w2, .ref w3, .ref w4, .ref w5, .ref w6, .ref w7])), (w0, .inl (cI, 8, .inl fw)), (w1, .inl (cI, 8, .inl fo)), (w5, .inl (cI, 3, .inl fk)), (w6, .inl (cI, 3, .inl fa))] (fun (r : Int32) (_u : Unit) => True) (fun _ => [(h, .inr (3, [.int vi, .int ro, .int wa, .int lz, .int ds, .int dy, .int ga, .int pa, .ref w0, .ref w1, .ref w2, .ref w3, .ref w4, .ref w5, .ref w6, .ref w7])), (w0, .inl (cI, 8, .inl fw)), (w1, .inl (cI, 8, .inl fo)), (w5, .inl (cI, 3, .inl fk)), (w6, .inl (cI, 3, .inl fa))]) 0 0 := by
  refine wm_i (cc := cX4_keptTonight) (maxL := 4) (ret := (some .int)) (by decide) rfl (Nat.le_of_ble_eq_true rfl) ?_
  intro p e s m below meth c A ls hx hb hr hml hown hts hlocks hin hP hK hD hN hA hl hS
  have hown : s.vm.findClass RX4 = some m.cls := hown
  have hl : lv_has ls 4 [(0, .ref h), (1, .int v)] := hl
  change W p l e ({ frames := 2, cells := 0, slots := 0, locals := 41 }) s m ([.ref h, .int v] : List Value).toArray below meth c s.heap [] 0 0 (MQ below (va_Qi (fun (r : Int32) (_u : Unit) => True) (fun u t => wb D A ((fun _ => [(h, .inr (3, [.int vi, .int ro, .int wa, .int lz, .int ds, .int dy, .int ga, .int pa, .ref w0, .ref w1, .ref w2, .ref w3, .ref w4, .ref w5, .ref w6, .ref w7])), (w0, .inl (cI, 8, .inl fw)), (w1, .inl (cI, 8, .inl fo)), (w5, .inl (cI, 3, .inl fk)), (w6, .inl (cI, 3, .inl fa))]) u) t) A) ([.ref h, .int v] : List Value).toArray s 0 0 A) (F0 m 0 ls [])
  refine lv_iconst (v := 0) hx hb dX4_keptTonight_0 (by decide) ?_
  refine lv_istore_n (lv' := [(2, .int 0), (0, .ref h), (1, .int v)]) hx hb dX4_keptTonight_1 rfl hl (by decide) rfl (fun ls hl => ?_)
  refine lv_iconst (v := 0) hx hb dX4_keptTonight_2 (by decide) ?_
  refine lv_istore_n (lv' := [(3, .int 0), (2, .int 0), (0, .ref h), (1, .int v)]) hx hb dX4_keptTonight_3 rfl hl (by decide) rfl (fun ls hl => ?_)
  have hL4 : ∀ (nf : Nat) (t3_c4 : Int32) (t2_c4 : Int32) (H : Heap) (locs : List Loc) (ls : Array Slot), (0 ≤ t3_c4.toInt ∧ t3_c4.toInt ≤ 3) → (3 - t3_c4.toInt).toNat < nf → va_P D kl [(h, .inr (3, [.int vi, .int ro, .int wa, .int lz, .int ds, .int dy, .int ga, .int pa, .ref w0, .ref w1, .ref w2, .ref w3, .ref w4, .ref w5, .ref w6, .ref w7])), (w0, .inl (cI, 8, .inl fw)), (w1, .inl (cI, 8, .inl fo)), (w5, .inl (cI, 3, .inl fk)), (w6, .inl (cI, 3, .inl fa))] H → va_D A [(h, .inr (3, [.int vi, .int ro, .int wa, .int lz, .int ds, .int dy, .int ga, .int pa, .ref w0, .ref w1, .ref w2, .ref w3, .ref w4, .ref w5, .ref w6, .ref w7])), (w0, .inl (cI, 8, .inl fw)), (w1, .inl (cI, 8, .inl fo)), (w5, .inl (cI, 3, .inl fk)), (w6, .inl (cI, 3, .inl fa))] → va_S A s.heap H locs → lv_has ls 4 [(3, .int t3_c4), (2, .int t2_c4), (0, .ref h), (1, .int v)] → W p l e ({ frames := 2, cells := 0, slots := 0, locals := 41 }) s m ([.ref h, .int v] : List Value).toArray below meth c H locs 0 0 (MQ below (va_Qi (fun (r : Int32) (_u : Unit) => True) (fun u t => wb D A ((fun _ => [(h, .inr (3, [.int vi, .int ro, .int wa, .int lz, .int ds, .int dy, .int ga, .int pa, .ref w0, .ref w1, .ref w2, .ref w3, .ref w4, .ref w5, .ref w6, .ref w7])), (w0, .inl (cI, 8, .inl fw)), (w1, .inl (cI, 8, .inl fo)), (w5, .inl (cI, 3, .inl fk)), (w6, .inl (cI, 3, .inl fa))]) u) t) A) ([.ref h, .int v] : List Value).toArray s 0 0 A) (F0 m 4 ls []) := by
    intro nf
    induction nf with
    | zero =>
      intro t3_c4 t2_c4 H locs ls i_t3_c4 hm
      exact absurd hm (Nat.not_lt_zero _)
    | succ nf ih4 =>
      intro t3_c4 t2_c4 H locs ls i_t3_c4 hm4 hP hD hS hl
      refine lv_iload_n hx hb dX4_keptTonight_4 rfl (lv_at hl 0 rfl) ?_
      refine lv_aload_n hx hb dX4_keptTonight_5 rfl (lv_at hl 2 rfl) ?_
      refine va_get (D := D) (ci := 3) (v := .int wa) (C := RX4) (T := TX4) (N := 16) hx hb hts (fun _ h => List.mem_cons_of_mem _ (List.mem_append_right _ h)) hown hK hP 0 rfl rfl 2 (by decide) (hts (.fieldLink RX4 18 "WinterWalk$Land" "walkers" "I") (List.mem_of_getElem? (i := 1) rfl)) (fun _ h9 => h9) rfl dX4_keptTonight_6 ?_
      refine lv_icmp_ge (tgt := 43) hx hb dX4_keptTonight_9 (by decide) (fun c_1 => ?_) (fun c_1 => ?_)
      · have f_1 : wa.toInt ≤ t3_c4.toInt := zi_le c_1
        refine lv_iload_n hx hb dX4_keptTonight_43 rfl (lv_at hl 1 rfl) ?_
        exact wr_i (v := t2_c4) hx hb hr hlocks hS () (by trivial) (hP.sub [0, 1, 2, 3, 4] rfl) (hD.sub [0, 1, 2, 3, 4] (by decide) rfl) dX4_keptTonight_44
      · have f_1 : ¬ wa.toInt ≤ t3_c4.toInt := zi_nle c_1
        refine lv_aload_n hx hb dX4_keptTonight_12 rfl (lv_at hl 2 rfl) ?_
        refine va_get (D := D) (ci := 3) (v := .ref w6) (C := RX4) (T := TX4) (N := 16) hx hb hts (fun _ h => List.mem_cons_of_mem _ (List.mem_append_right _ h)) hown hK hP 0 rfl rfl 14 (by decide) (hts (.fieldLink RX4 55 "WinterWalk$Land" "at" "[I") (List.mem_of_getElem? (i := 2) rfl)) (fun _ h9 => h9) rfl dX4_keptTonight_13 ?_
        refine lv_iload_n hx hb dX4_keptTonight_16 rfl (lv_at hl 0 rfl) ?_
        refine va_iald hx hb hK hP 4 0 rfl rfl (zi_in (by omega) (by omega)) dX4_keptTonight_17 ?_
        refine lv_topi (fun x_2 ex_2 => ?_)
        have f_2 : 0 ≤ x_2.toInt ∧ x_2.toInt ≤ 7 := by rw [ex_2]; exact ha _ (zi_cl (by omega) (by omega))
        clear ex_2
        refine lv_iload_n hx hb dX4_keptTonight_18 rfl (lv_at hl 3 rfl) ?_
        refine lv_icmp_ne (tgt := 37) hx hb dX4_keptTonight_19 (by decide) (fun c_3 => ?_) (fun c_3 => ?_)
        · have f_3 : ¬ x_2.toInt = v.toInt := zi_ne c_3
          obtain ⟨x_4, ex_4⟩ : ∃ y : Int32, y = t3_c4 + Int32.ofInt 1 := ⟨_, rfl⟩
          refine lv_iinc (v := x_4) (lv' := [(3, .int x_4), (2, .int t2_c4), (0, .ref h), (1, .int v)]) hx hb dX4_keptTonight_37 hl (k := 0) rfl ex_4.symm (by decide) rfl (fun ls hl => ?_)
          have ex_4 : x_4 = t3_c4 + 1 := ex_4
          have e_4 : x_4.toInt = t3_c4.toInt + 1 := by rw [ex_4]; exact zi_add (rfl) (by decide) (by omega) (by omega)
          clear ex_4
          refine lv_goto (tgt := 4) hx hb dX4_keptTonight_40 (by decide) ?_
          exact ih4 x_4 t2_c4 _ _ _ (show 0 ≤ x_4.toInt ∧ x_4.toInt ≤ 3 from by omega) (by omega) (hP.sub [0, 1, 2, 3, 4] rfl) (hD.sub [0, 1, 2, 3, 4] (by decide) rfl) hS (lv_sub hl [0, 1, 2, 3] rfl)
        · have f_3 : x_2.toInt = v.toInt := zi_eq c_3
          refine lv_iload_n hx hb dX4_keptTonight_22 rfl (lv_at hl 1 rfl) ?_
          refine lv_aload_n hx hb dX4_keptTonight_23 rfl (lv_at hl 2 rfl) ?_
          refine va_get (D := D) (ci := 3) (v := .ref w0) (C := RX4) (T := TX4) (N := 16) hx hb hts (fun _ h => List.mem_cons_of_mem _ (List.mem_append_right _ h)) hown hK hP 0 rfl rfl 8 (by decide) (hts (.fieldLink RX4 36 "WinterWalk$Land" "worth" "[I") (List.mem_of_getElem? (i := 3) rfl)) (fun _ h9 => h9) rfl dX4_keptTonight_24 ?_
          refine lv_iload_n hx hb dX4_keptTonight_27 rfl (lv_at hl 3 rfl) ?_
          refine va_iald hx hb hK hP 1 0 rfl rfl (zi_in (by omega) (by omega)) dX4_keptTonight_28 ?_
          refine lv_topi (fun x_5 ex_5 => ?_)
          clear ex_5
          refine lv_aload_n hx hb dX4_keptTonight_29 rfl (lv_at hl 2 rfl) ?_
          refine lv_iload_n hx hb dX4_keptTonight_30 rfl (lv_at hl 0 rfl) ?_
          have k_6 := (g_X4_paidTo l D cI cB cQ H.size h w0 w1 w2 w3 w4 w5 w6 w7 vi ro wa lz ds dy ga pa t3_c4 fo fk fa ha (by omega))
          refine wc_i (WC := [(h, .inr (3, [.int vi, .int ro, .int wa, .int lz, .int ds, .int dy, .int ga, .int pa, .ref w0, .ref w1, .ref w2, .ref w3, .ref w4, .ref w5, .ref w6, .ref w7])), (w1, .inl (cI, 8, .inl fo)), (w5, .inl (cI, 3, .inl fk)), (w6, .inl (cI, 3, .inl fa))]) (WR := [(w0, .inl (cI, 8, .inl fw))]) (va_runV (As := [.int t3_c4]) (rest := [.int x_5, .int t2_c4]) ⟨hx, hb, hml, hown, hts⟩ k_6 (cwV 1 hts gX4_keptTonight_X4_paidTo rfl rfl rfl (by decide +kernel) ⟨Nat.le_of_ble_eq_true rfl, Nat.le_of_ble_eq_true rfl⟩) (wp_V hP hK hD hN [0, 2, 3, 4] (by decide) rfl (ci := 3) rfl rfl) rfl rfl hl.1 rfl (lv_room (Nat.le_of_ble_eq_true rfl)) dX4_keptTonight_31 ⟨Nat.le_of_ble_eq_true rfl, Nat.le_of_ble_eq_true rfl⟩) hP hD hS hA [0, 2, 3, 4] [1] rfl rfl (by decide) (by decide) (fun r_6 u_6 H locs hw_6 hP hD hS => ?_)
          clear k_6
          have hP : va_P D kl [(w0, .inl (cI, 8, .inl fw)), (h, .inr (3, [.int vi, .int ro, .int wa, .int lz, .int ds, .int dy, .int ga, .int pa, .ref w0, .ref w1, .ref w2, .ref w3, .ref w4, .ref w5, .ref w6, .ref w7])), (w1, .inl (cI, 8, .inl fo)), (w5, .inl (cI, 3, .inl fk)), (w6, .inl (cI, 3, .inl fa))] H := hP
          have hD : va_D A [(w0, .inl (cI, 8, .inl fw)), (h, .inr (3, [.int vi, .int ro, .int wa, .int lz, .int ds, .int dy, .int ga, .int pa, .ref w0, .ref w1, .ref w2, .ref w3, .ref w4, .ref w5, .ref w6, .ref w7])), (w1, .inl (cI, 8, .inl fo)), (w5, .inl (cI, 3, .inl fk)), (w6, .inl (cI, 3, .inl fa))] := hD
          clear hw_6
          refine lv_isub hx hb dX4_keptTonight_34 ?_
          refine lv_topi (fun x_7 ex_7 => ?_)
          clear ex_7
          refine lv_iadd hx hb dX4_keptTonight_35 ?_
          refine lv_topi (fun x_8 ex_8 => ?_)
          clear ex_8
          refine lv_istore_n (lv' := [(2, .int x_8), (3, .int t3_c4), (0, .ref h), (1, .int v)]) hx hb dX4_keptTonight_36 rfl hl (by decide) rfl (fun ls hl => ?_)
          obtain ⟨x_9, ex_9⟩ : ∃ y : Int32, y = t3_c4 + Int32.ofInt 1 := ⟨_, rfl⟩
          refine lv_iinc (v := x_9) (lv' := [(3, .int x_9), (2, .int x_8), (0, .ref h), (1, .int v)]) hx hb dX4_keptTonight_37 hl (k := 1) rfl ex_9.symm (by decide) rfl (fun ls hl => ?_)
          have ex_9 : x_9 = t3_c4 + 1 := ex_9
          have e_9 : x_9.toInt = t3_c4.toInt + 1 := by rw [ex_9]; exact zi_add (rfl) (by decide) (by omega) (by omega)
          clear ex_9
          refine lv_goto (tgt := 4) hx hb dX4_keptTonight_40 (by decide) ?_
          exact ih4 x_9 x_8 _ _ _ (show 0 ≤ x_9.toInt ∧ x_9.toInt ≤ 3 from by omega) (by omega) (hP.sub [1, 0, 2, 3, 4] rfl) (hD.sub [1, 0, 2, 3, 4] (by decide) rfl) hS (lv_sub hl [0, 1, 2, 3] rfl)
  exact hL4 (((3 - (0 : Int32).toInt).toNat) + 1) 0 0 _ _ _ (show 0 ≤ 0 ∧ 0 ≤ 3 from by omega) (Nat.lt_succ_self _) (hP.sub [0, 1, 2, 3, 4] rfl) (hD.sub [0, 1, 2, 3, 4] (by decide) rfl) hS (lv_sub hl [0, 1, 2, 3] rfl)
set_option maxHeartbeats 4000000 in
set_option maxRecDepth 100000 in
theorem g_X4_meetingPlace (l : Launch) (D : va_G) (cI cB cQ : ClassId) (sz : Nat) (h : Nat) (w0 : Nat) (w1 : Nat) (w2 : Nat) (w3 : Nat) (w4 : Nat) (w5 : Nat) (w6 : Nat) (w7 : Nat) (vi : Int32) (ro : Int32) (wa : Int32) (lz : Int32) (ds : Int32) (dy : Int32) (ga : Int32) (pa : Int32) (fa : Nat → Int32) (ha : ∀ j, j < 3 → 0 ≤ (fa j).toInt ∧ (fa j).toInt ≤ 7) (h_vi : 0 ≤ vi.toInt ∧ vi.toInt ≤ 8) (h_wa : 0 ≤ wa.toInt ∧ wa.toInt ≤ 3) : mi l yX4_meetingPlace wsX4_meetingPlace ({ frames := 0, cells := 0, slots := 0, locals := 0 }) D cI cB cQ [.ref h] sz [(h, .inr (3, [.int vi, .int ro, .int wa, .int lz, .int ds, .int dy, .int ga, .int pa, .ref w0, .ref w1, .ref w2, .ref w3, .ref w4, .ref w5, .ref w6, .ref w7])), (w6, .inl (cI, 3, .inl fa))] (fun (r : Int32) (_u : Unit) => True) (fun _ => [(h, .inr (3, [.int vi, .int ro, .int wa, .int lz, .int ds, .int dy, .int ga, .int pa, .ref w0, .ref w1, .ref w2, .ref w3, .ref w4, .ref w5, .ref w6, .ref w7])), (w6, .inl (cI, 3, .inl fa))]) 0 0 := by
  refine wm_i (cc := cX4_meetingPlace) (maxL := 4) (ret := (some .int)) (by decide) rfl (Nat.le_of_ble_eq_true rfl) ?_
  intro p e s m below meth c A ls hx hb hr hml hown hts hlocks hin hP hK hD hN hA hl hS
  have hown : s.vm.findClass RX4 = some m.cls := hown
  have hl : lv_has ls 4 [(0, .ref h)] := hl
  change W p l e ({ frames := 0, cells := 0, slots := 0, locals := 0 }) s m ([.ref h] : List Value).toArray below meth c s.heap [] 0 0 (MQ below (va_Qi (fun (r : Int32) (_u : Unit) => True) (fun u t => wb D A ((fun _ => [(h, .inr (3, [.int vi, .int ro, .int wa, .int lz, .int ds, .int dy, .int ga, .int pa, .ref w0, .ref w1, .ref w2, .ref w3, .ref w4, .ref w5, .ref w6, .ref w7])), (w6, .inl (cI, 3, .inl fa))]) u) t) A) ([.ref h] : List Value).toArray s 0 0 A) (F0 m 0 ls [])
  refine lv_ldc (v := (-1000000)) hx hb hown (hts (.constant RX4 87 (-1000000)) (List.mem_of_getElem? (i := 1) rfl)) dX4_meetingPlace_0 ?_
  refine lv_istore_n (lv' := [(1, .int (-1000000)), (0, .ref h)]) hx hb dX4_meetingPlace_2 rfl hl (by decide) rfl (fun ls hl => ?_)
  refine lv_iconst (v := 0) hx hb dX4_meetingPlace_3 (by decide) ?_
  refine lv_istore_n (lv' := [(2, .int 0), (1, .int (-1000000)), (0, .ref h)]) hx hb dX4_meetingPlace_4 rfl hl (by decide) rfl (fun ls hl => ?_)
  have hL5 : ∀ (nf : Nat) (t2_c5 : Int32) (t1_c5 : Int32) (H : Heap) (locs : List Loc) (ls : Array Slot), (0 ≤ t2_c5.toInt ∧ t2_c5.toInt ≤ 3) → (3 - t2_c5.toInt).toNat < nf → va_P D kl [(h, .inr (3, [.int vi, .int ro, .int wa, .int lz, .int ds, .int dy, .int ga, .int pa, .ref w0, .ref w1, .ref w2, .ref w3, .ref w4, .ref w5, .ref w6, .ref w7])), (w6, .inl (cI, 3, .inl fa))] H → va_D A [(h, .inr (3, [.int vi, .int ro, .int wa, .int lz, .int ds, .int dy, .int ga, .int pa, .ref w0, .ref w1, .ref w2, .ref w3, .ref w4, .ref w5, .ref w6, .ref w7])), (w6, .inl (cI, 3, .inl fa))] → va_S A s.heap H locs → lv_has ls 4 [(2, .int t2_c5), (1, .int t1_c5), (0, .ref h)] → W p l e ({ frames := 0, cells := 0, slots := 0, locals := 0 }) s m ([.ref h] : List Value).toArray below meth c H locs 0 0 (MQ below (va_Qi (fun (r : Int32) (_u : Unit) => True) (fun u t => wb D A ((fun _ => [(h, .inr (3, [.int vi, .int ro, .int wa, .int lz, .int ds, .int dy, .int ga, .int pa, .ref w0, .ref w1, .ref w2, .ref w3, .ref w4, .ref w5, .ref w6, .ref w7])), (w6, .inl (cI, 3, .inl fa))]) u) t) A) ([.ref h] : List Value).toArray s 0 0 A) (F0 m 5 ls []) := by
    intro nf
    induction nf with
    | zero =>
      intro t2_c5 t1_c5 H locs ls i_t2_c5 hm
      exact absurd hm (Nat.not_lt_zero _)
    | succ nf ih5 =>
      intro t2_c5 t1_c5 H locs ls i_t2_c5 hm5 hP hD hS hl
      refine lv_iload_n hx hb dX4_meetingPlace_5 rfl (lv_at hl 0 rfl) ?_
      refine lv_aload_n hx hb dX4_meetingPlace_6 rfl (lv_at hl 2 rfl) ?_
      refine va_get (D := D) (ci := 3) (v := .int wa) (C := RX4) (T := TX4) (N := 16) hx hb hts (fun _ h => List.mem_cons_of_mem _ (List.mem_append_right _ h)) hown hK hP 0 rfl rfl 2 (by decide) (hts (.fieldLink RX4 18 "WinterWalk$Land" "walkers" "I") (List.mem_of_getElem? (i := 2) rfl)) (fun _ h9 => h9) rfl dX4_meetingPlace_7 ?_
      refine lv_icmp_ge (tgt := 70) hx hb dX4_meetingPlace_10 (by decide) (fun c_1 => ?_) (fun c_1 => ?_)
      · have f_1 : wa.toInt ≤ t2_c5.toInt := zi_le c_1
        refine lv_iload_n hx hb dX4_meetingPlace_70 rfl (lv_at hl 1 rfl) ?_
        exact wr_i (v := t1_c5) hx hb hr hlocks hS () (by trivial) (hP.sub [0, 1] rfl) (hD.sub [0, 1] (by decide) rfl) dX4_meetingPlace_71
      · have f_1 : ¬ wa.toInt ≤ t2_c5.toInt := zi_nle c_1
        refine lv_iconst (v := 0) hx hb dX4_meetingPlace_13 (by decide) ?_
        refine lv_istore_n (lv' := [(3, .int 0), (2, .int t2_c5), (1, .int t1_c5), (0, .ref h)]) hx hb dX4_meetingPlace_14 rfl hl (by decide) rfl (fun ls hl => ?_)
        have hL15 : ∀ (nf : Nat) (t3_c15 : Int32) (t1_c15 : Int32) (H : Heap) (locs : List Loc) (ls : Array Slot), (0 ≤ t3_c15.toInt ∧ t3_c15.toInt ≤ 3) → (3 - t3_c15.toInt).toNat < nf → va_P D kl [(h, .inr (3, [.int vi, .int ro, .int wa, .int lz, .int ds, .int dy, .int ga, .int pa, .ref w0, .ref w1, .ref w2, .ref w3, .ref w4, .ref w5, .ref w6, .ref w7])), (w6, .inl (cI, 3, .inl fa))] H → va_D A [(h, .inr (3, [.int vi, .int ro, .int wa, .int lz, .int ds, .int dy, .int ga, .int pa, .ref w0, .ref w1, .ref w2, .ref w3, .ref w4, .ref w5, .ref w6, .ref w7])), (w6, .inl (cI, 3, .inl fa))] → va_S A s.heap H locs → lv_has ls 4 [(3, .int t3_c15), (2, .int t2_c5), (1, .int t1_c15), (0, .ref h)] → W p l e ({ frames := 0, cells := 0, slots := 0, locals := 0 }) s m ([.ref h] : List Value).toArray below meth c H locs 0 0 (MQ below (va_Qi (fun (r : Int32) (_u : Unit) => True) (fun u t => wb D A ((fun _ => [(h, .inr (3, [.int vi, .int ro, .int wa, .int lz, .int ds, .int dy, .int ga, .int pa, .ref w0, .ref w1, .ref w2, .ref w3, .ref w4, .ref w5, .ref w6, .ref w7])), (w6, .inl (cI, 3, .inl fa))]) u) t) A) ([.ref h] : List Value).toArray s 0 0 A) (F0 m 15 ls []) := by
          intro nf
          induction nf with
          | zero =>
            intro t3_c15 t1_c15 H locs ls i_t3_c15 hm
            exact absurd hm (Nat.not_lt_zero _)
          | succ nf ih15 =>
            intro t3_c15 t1_c15 H locs ls i_t3_c15 hm15 hP hD hS hl
            refine lv_iload_n hx hb dX4_meetingPlace_15 rfl (lv_at hl 0 rfl) ?_
            refine lv_iload_n hx hb dX4_meetingPlace_16 rfl (lv_at hl 1 rfl) ?_
            refine lv_icmp_ge (tgt := 64) hx hb dX4_meetingPlace_17 (by decide) (fun c_2 => ?_) (fun c_2 => ?_)
            · have f_2 : t2_c5.toInt ≤ t3_c15.toInt := zi_le c_2
              obtain ⟨x_3, ex_3⟩ : ∃ y : Int32, y = t2_c5 + Int32.ofInt 1 := ⟨_, rfl⟩
              refine lv_iinc (v := x_3) (lv' := [(2, .int x_3), (3, .int t3_c15), (1, .int t1_c15), (0, .ref h)]) hx hb dX4_meetingPlace_64 hl (k := 1) rfl ex_3.symm (by decide) rfl (fun ls hl => ?_)
              have ex_3 : x_3 = t2_c5 + 1 := ex_3
              have e_3 : x_3.toInt = t2_c5.toInt + 1 := by rw [ex_3]; exact zi_add (rfl) (by decide) (by omega) (by omega)
              clear ex_3
              refine lv_goto (tgt := 5) hx hb dX4_meetingPlace_67 (by decide) ?_
              exact ih5 x_3 t1_c15 _ _ _ (show 0 ≤ x_3.toInt ∧ x_3.toInt ≤ 3 from by omega) (by omega) (hP.sub [0, 1] rfl) (hD.sub [0, 1] (by decide) rfl) hS (lv_sub hl [0, 2, 3] rfl)
            · have f_2 : ¬ t2_c5.toInt ≤ t3_c15.toInt := zi_nle c_2
              refine lv_aload_n hx hb dX4_meetingPlace_20 rfl (lv_at hl 3 rfl) ?_
              refine va_get (D := D) (ci := 3) (v := .ref w6) (C := RX4) (T := TX4) (N := 16) hx hb hts (fun _ h => List.mem_cons_of_mem _ (List.mem_append_right _ h)) hown hK hP 0 rfl rfl 14 (by decide) (hts (.fieldLink RX4 55 "WinterWalk$Land" "at" "[I") (List.mem_of_getElem? (i := 3) rfl)) (fun _ h9 => h9) rfl dX4_meetingPlace_21 ?_
              refine lv_iload_n hx hb dX4_meetingPlace_24 rfl (lv_at hl 1 rfl) ?_
              refine va_iald hx hb hK hP 1 0 rfl rfl (zi_in (by omega) (by omega)) dX4_meetingPlace_25 ?_
              refine lv_topi (fun x_4 ex_4 => ?_)
              have f_4 : 0 ≤ x_4.toInt ∧ x_4.toInt ≤ 7 := by rw [ex_4]; exact ha _ (zi_cl (by omega) (by omega))
              clear ex_4
              refine lv_aload_n hx hb dX4_meetingPlace_26 rfl (lv_at hl 3 rfl) ?_
              refine va_get (D := D) (ci := 3) (v := .ref w6) (C := RX4) (T := TX4) (N := 16) hx hb hts (fun _ h => List.mem_cons_of_mem _ (List.mem_append_right _ h)) hown hK hP 0 rfl rfl 14 (by decide) (hts (.fieldLink RX4 55 "WinterWalk$Land" "at" "[I") (List.mem_of_getElem? (i := 3) rfl)) (fun _ h9 => h9) rfl dX4_meetingPlace_27 ?_
              refine lv_iload_n hx hb dX4_meetingPlace_30 rfl (lv_at hl 0 rfl) ?_
              refine va_iald hx hb hK hP 1 0 rfl rfl (zi_in (by omega) (by omega)) dX4_meetingPlace_31 ?_
              refine lv_topi (fun x_5 ex_5 => ?_)
              have f_5 : 0 ≤ x_5.toInt ∧ x_5.toInt ≤ 7 := by rw [ex_5]; exact ha _ (zi_cl (by omega) (by omega))
              clear ex_5
              refine lv_icmp_ne (tgt := 58) hx hb dX4_meetingPlace_32 (by decide) (fun c_6 => ?_) (fun c_6 => ?_)
              · have f_6 : ¬ x_4.toInt = x_5.toInt := zi_ne c_6
                obtain ⟨x_7, ex_7⟩ : ∃ y : Int32, y = t3_c15 + Int32.ofInt 1 := ⟨_, rfl⟩
                refine lv_iinc (v := x_7) (lv' := [(3, .int x_7), (2, .int t2_c5), (1, .int t1_c15), (0, .ref h)]) hx hb dX4_meetingPlace_58 hl (k := 0) rfl ex_7.symm (by decide) rfl (fun ls hl => ?_)
                have ex_7 : x_7 = t3_c15 + 1 := ex_7
                have e_7 : x_7.toInt = t3_c15.toInt + 1 := by rw [ex_7]; exact zi_add (rfl) (by decide) (by omega) (by omega)
                clear ex_7
                refine lv_goto (tgt := 15) hx hb dX4_meetingPlace_61 (by decide) ?_
                exact ih15 x_7 t1_c15 _ _ _ (show 0 ≤ x_7.toInt ∧ x_7.toInt ≤ 3 from by omega) (by omega) (hP.sub [0, 1] rfl) (hD.sub [0, 1] (by decide) rfl) hS (lv_sub hl [0, 1, 2, 3] rfl)
              · have f_6 : x_4.toInt = x_5.toInt := zi_eq c_6
                refine lv_iload_n hx hb dX4_meetingPlace_35 rfl (lv_at hl 2 rfl) ?_
                refine lv_ldc (v := (-1000000)) hx hb hown (hts (.constant RX4 87 (-1000000)) (List.mem_of_getElem? (i := 1) rfl)) dX4_meetingPlace_36 ?_
                refine lv_icmp_eq (tgt := 51) hx hb dX4_meetingPlace_38 (by decide) (fun c_8 => ?_) (fun c_8 => ?_)
                · have f_8 : t1_c15.toInt = (-1000000) := zi_eq c_8
                  refine lv_aload_n hx hb dX4_meetingPlace_51 rfl (lv_at hl 3 rfl) ?_
                  refine va_get (D := D) (ci := 3) (v := .ref w6) (C := RX4) (T := TX4) (N := 16) hx hb hts (fun _ h => List.mem_cons_of_mem _ (List.mem_append_right _ h)) hown hK hP 0 rfl rfl 14 (by decide) (hts (.fieldLink RX4 55 "WinterWalk$Land" "at" "[I") (List.mem_of_getElem? (i := 3) rfl)) (fun _ h9 => h9) rfl dX4_meetingPlace_52 ?_
                  refine lv_iload_n hx hb dX4_meetingPlace_55 rfl (lv_at hl 1 rfl) ?_
                  refine va_iald hx hb hK hP 1 0 rfl rfl (zi_in (by omega) (by omega)) dX4_meetingPlace_56 ?_
                  refine lv_topi (fun x_9 ex_9 => ?_)
                  have f_9 : 0 ≤ x_9.toInt ∧ x_9.toInt ≤ 7 := by rw [ex_9]; exact ha _ (zi_cl (by omega) (by omega))
                  clear ex_9
                  refine lv_istore_n (lv' := [(1, .int x_9), (3, .int t3_c15), (2, .int t2_c5), (0, .ref h)]) hx hb dX4_meetingPlace_57 rfl hl (by decide) rfl (fun ls hl => ?_)
                  obtain ⟨x_10, ex_10⟩ : ∃ y : Int32, y = t3_c15 + Int32.ofInt 1 := ⟨_, rfl⟩
                  refine lv_iinc (v := x_10) (lv' := [(3, .int x_10), (1, .int x_9), (2, .int t2_c5), (0, .ref h)]) hx hb dX4_meetingPlace_58 hl (k := 1) rfl ex_10.symm (by decide) rfl (fun ls hl => ?_)
                  have ex_10 : x_10 = t3_c15 + 1 := ex_10
                  have e_10 : x_10.toInt = t3_c15.toInt + 1 := by rw [ex_10]; exact zi_add (rfl) (by decide) (by omega) (by omega)
                  clear ex_10
                  refine lv_goto (tgt := 15) hx hb dX4_meetingPlace_61 (by decide) ?_
                  exact ih15 x_10 x_9 _ _ _ (show 0 ≤ x_10.toInt ∧ x_10.toInt ≤ 3 from by omega) (by omega) (hP.sub [0, 1] rfl) (hD.sub [0, 1] (by decide) rfl) hS (lv_sub hl [0, 2, 1, 3] rfl)
                · have f_8 : ¬ t1_c15.toInt = (-1000000) := zi_ne c_8
                  refine lv_aload_n hx hb dX4_meetingPlace_41 rfl (lv_at hl 3 rfl) ?_
                  refine va_get (D := D) (ci := 3) (v := .ref w6) (C := RX4) (T := TX4) (N := 16) hx hb hts (fun _ h => List.mem_cons_of_mem _ (List.mem_append_right _ h)) hown hK hP 0 rfl rfl 14 (by decide) (hts (.fieldLink RX4 55 "WinterWalk$Land" "at" "[I") (List.mem_of_getElem? (i := 3) rfl)) (fun _ h9 => h9) rfl dX4_meetingPlace_42 ?_
                  refine lv_iload_n hx hb dX4_meetingPlace_45 rfl (lv_at hl 1 rfl) ?_
                  refine va_iald hx hb hK hP 1 0 rfl rfl (zi_in (by omega) (by omega)) dX4_meetingPlace_46 ?_
                  refine lv_topi (fun x_11 ex_11 => ?_)
                  have f_11 : 0 ≤ x_11.toInt ∧ x_11.toInt ≤ 7 := by rw [ex_11]; exact ha _ (zi_cl (by omega) (by omega))
                  clear ex_11
                  refine lv_iload_n hx hb dX4_meetingPlace_47 rfl (lv_at hl 2 rfl) ?_
                  refine lv_icmp_ge (tgt := 58) hx hb dX4_meetingPlace_48 (by decide) (fun c_12 => ?_) (fun c_12 => ?_)
                  · have f_12 : t1_c15.toInt ≤ x_11.toInt := zi_le c_12
                    obtain ⟨x_13, ex_13⟩ : ∃ y : Int32, y = t3_c15 + Int32.ofInt 1 := ⟨_, rfl⟩
                    refine lv_iinc (v := x_13) (lv' := [(3, .int x_13), (2, .int t2_c5), (1, .int t1_c15), (0, .ref h)]) hx hb dX4_meetingPlace_58 hl (k := 0) rfl ex_13.symm (by decide) rfl (fun ls hl => ?_)
                    have ex_13 : x_13 = t3_c15 + 1 := ex_13
                    have e_13 : x_13.toInt = t3_c15.toInt + 1 := by rw [ex_13]; exact zi_add (rfl) (by decide) (by omega) (by omega)
                    clear ex_13
                    refine lv_goto (tgt := 15) hx hb dX4_meetingPlace_61 (by decide) ?_
                    exact ih15 x_13 t1_c15 _ _ _ (show 0 ≤ x_13.toInt ∧ x_13.toInt ≤ 3 from by omega) (by omega) (hP.sub [0, 1] rfl) (hD.sub [0, 1] (by decide) rfl) hS (lv_sub hl [0, 1, 2, 3] rfl)
                  · have f_12 : ¬ t1_c15.toInt ≤ x_11.toInt := zi_nle c_12
                    refine lv_aload_n hx hb dX4_meetingPlace_51 rfl (lv_at hl 3 rfl) ?_
                    refine va_get (D := D) (ci := 3) (v := .ref w6) (C := RX4) (T := TX4) (N := 16) hx hb hts (fun _ h => List.mem_cons_of_mem _ (List.mem_append_right _ h)) hown hK hP 0 rfl rfl 14 (by decide) (hts (.fieldLink RX4 55 "WinterWalk$Land" "at" "[I") (List.mem_of_getElem? (i := 3) rfl)) (fun _ h9 => h9) rfl dX4_meetingPlace_52 ?_
                    refine lv_iload_n hx hb dX4_meetingPlace_55 rfl (lv_at hl 1 rfl) ?_
                    refine va_iald hx hb hK hP 1 0 rfl rfl (zi_in (by omega) (by omega)) dX4_meetingPlace_56 ?_
                    refine lv_topi (fun x_14 ex_14 => ?_)
                    have f_14 : 0 ≤ x_14.toInt ∧ x_14.toInt ≤ 7 := by rw [ex_14]; exact ha _ (zi_cl (by omega) (by omega))
                    clear ex_14
                    refine lv_istore_n (lv' := [(1, .int x_14), (3, .int t3_c15), (2, .int t2_c5), (0, .ref h)]) hx hb dX4_meetingPlace_57 rfl hl (by decide) rfl (fun ls hl => ?_)
                    obtain ⟨x_15, ex_15⟩ : ∃ y : Int32, y = t3_c15 + Int32.ofInt 1 := ⟨_, rfl⟩
                    refine lv_iinc (v := x_15) (lv' := [(3, .int x_15), (1, .int x_14), (2, .int t2_c5), (0, .ref h)]) hx hb dX4_meetingPlace_58 hl (k := 1) rfl ex_15.symm (by decide) rfl (fun ls hl => ?_)
                    have ex_15 : x_15 = t3_c15 + 1 := ex_15
                    have e_15 : x_15.toInt = t3_c15.toInt + 1 := by rw [ex_15]; exact zi_add (rfl) (by decide) (by omega) (by omega)
                    clear ex_15
                    refine lv_goto (tgt := 15) hx hb dX4_meetingPlace_61 (by decide) ?_
                    exact ih15 x_15 x_14 _ _ _ (show 0 ≤ x_15.toInt ∧ x_15.toInt ≤ 3 from by omega) (by omega) (hP.sub [0, 1] rfl) (hD.sub [0, 1] (by decide) rfl) hS (lv_sub hl [0, 2, 1, 3] rfl)
        exact hL15 (((3 - (0 : Int32).toInt).toNat) + 1) 0 t1_c5 _ _ _ (show 0 ≤ 0 ∧ 0 ≤ 3 from by omega) (Nat.lt_succ_self _) (hP.sub [0, 1] rfl) (hD.sub [0, 1] (by decide) rfl) hS (lv_sub hl [0, 1, 2, 3] rfl)
  exact hL5 (((3 - (0 : Int32).toInt).toNat) + 1) 0 (-1000000) _ _ _ (show 0 ≤ 0 ∧ 0 ≤ 3 from by omega) (Nat.lt_succ_self _) (hP.sub [0, 1] rfl) (hD.sub [0, 1] (by decide) rfl) hS (lv_sub hl [0, 1, 2] rfl)
set_option maxHeartbeats 4000000 in
set_option maxRecDepth 100000 in
theorem g_X4_mostSlept (l : Launch) (D : va_G) (cI cB cQ : ClassId) (sz : Nat) (h : Nat) (w0 : Nat) (w1 : Nat) (w2 : Nat) (w3 : Nat) (w4 : Nat) (w5 : Nat) (w6 : Nat) (w7 : Nat) (vi : Int32) (ro : Int32) (wa : Int32) (lz : Int32) (ds : Int32) (dy : Int32) (ga : Int32) (pa : Int32) (fn : Nat → Int32) (h_vi : 0 ≤ vi.toInt ∧ vi.toInt ≤ 8) (h_wa : 0 ≤ wa.toInt ∧ wa.toInt ≤ 3) : mi l yX4_mostSlept wsX4_mostSlept ({ frames := 0, cells := 0, slots := 0, locals := 0 }) D cI cB cQ [.ref h] sz [(h, .inr (3, [.int vi, .int ro, .int wa, .int lz, .int ds, .int dy, .int ga, .int pa, .ref w0, .ref w1, .ref w2, .ref w3, .ref w4, .ref w5, .ref w6, .ref w7])), (w3, .inl (cI, 8, .inl fn))] (fun (r : Int32) (_u : Unit) => (0 ≤ r.toInt ∧ r.toInt ≤ 7)) (fun _ => [(h, .inr (3, [.int vi, .int ro, .int wa, .int lz, .int ds, .int dy, .int ga, .int pa, .ref w0, .ref w1, .ref w2, .ref w3, .ref w4, .ref w5, .ref w6, .ref w7])), (w3, .inl (cI, 8, .inl fn))]) 0 0 := by
  refine wm_i (cc := cX4_mostSlept) (maxL := 3) (ret := (some .int)) (by decide) rfl (Nat.le_of_ble_eq_true rfl) ?_
  intro p e s m below meth c A ls hx hb hr hml hown hts hlocks hin hP hK hD hN hA hl hS
  have hown : s.vm.findClass RX4 = some m.cls := hown
  have hl : lv_has ls 3 [(0, .ref h)] := hl
  change W p l e ({ frames := 0, cells := 0, slots := 0, locals := 0 }) s m ([.ref h] : List Value).toArray below meth c s.heap [] 0 0 (MQ below (va_Qi (fun (r : Int32) (_u : Unit) => (0 ≤ r.toInt ∧ r.toInt ≤ 7)) (fun u t => wb D A ((fun _ => [(h, .inr (3, [.int vi, .int ro, .int wa, .int lz, .int ds, .int dy, .int ga, .int pa, .ref w0, .ref w1, .ref w2, .ref w3, .ref w4, .ref w5, .ref w6, .ref w7])), (w3, .inl (cI, 8, .inl fn))]) u) t) A) ([.ref h] : List Value).toArray s 0 0 A) (F0 m 0 ls [])
  refine lv_iconst (v := 0) hx hb dX4_mostSlept_0 (by decide) ?_
  refine lv_istore_n (lv' := [(1, .int 0), (0, .ref h)]) hx hb dX4_mostSlept_1 rfl hl (by decide) rfl (fun ls hl => ?_)
  refine lv_iconst (v := 1) hx hb dX4_mostSlept_2 (by decide) ?_
  refine lv_istore_n (lv' := [(2, .int 1), (1, .int 0), (0, .ref h)]) hx hb dX4_mostSlept_3 rfl hl (by decide) rfl (fun ls hl => ?_)
  have hL4 : ∀ (nf : Nat) (t2_c4 : Int32) (t1_c4 : Int32) (H : Heap) (locs : List Loc) (ls : Array Slot), (1 ≤ t2_c4.toInt ∧ t2_c4.toInt ≤ 8) → (0 ≤ t1_c4.toInt ∧ t1_c4.toInt ≤ 7) → (8 - t2_c4.toInt).toNat < nf → va_P D kl [(h, .inr (3, [.int vi, .int ro, .int wa, .int lz, .int ds, .int dy, .int ga, .int pa, .ref w0, .ref w1, .ref w2, .ref w3, .ref w4, .ref w5, .ref w6, .ref w7])), (w3, .inl (cI, 8, .inl fn))] H → va_D A [(h, .inr (3, [.int vi, .int ro, .int wa, .int lz, .int ds, .int dy, .int ga, .int pa, .ref w0, .ref w1, .ref w2, .ref w3, .ref w4, .ref w5, .ref w6, .ref w7])), (w3, .inl (cI, 8, .inl fn))] → va_S A s.heap H locs → lv_has ls 3 [(2, .int t2_c4), (1, .int t1_c4), (0, .ref h)] → W p l e ({ frames := 0, cells := 0, slots := 0, locals := 0 }) s m ([.ref h] : List Value).toArray below meth c H locs 0 0 (MQ below (va_Qi (fun (r : Int32) (_u : Unit) => (0 ≤ r.toInt ∧ r.toInt ≤ 7)) (fun u t => wb D A ((fun _ => [(h, .inr (3, [.int vi, .int ro, .int wa, .int lz, .int ds, .int dy, .int ga, .int pa, .ref w0, .ref w1, .ref w2, .ref w3, .ref w4, .ref w5, .ref w6, .ref w7])), (w3, .inl (cI, 8, .inl fn))]) u) t) A) ([.ref h] : List Value).toArray s 0 0 A) (F0 m 4 ls []) := by
    intro nf
    induction nf with
    | zero =>
      intro t2_c4 t1_c4 H locs ls i_t2_c4 i_t1_c4 hm
      exact absurd hm (Nat.not_lt_zero _)
    | succ nf ih4 =>
      intro t2_c4 t1_c4 H locs ls i_t2_c4 i_t1_c4 hm4 hP hD hS hl
      refine lv_iload_n hx hb dX4_mostSlept_4 rfl (lv_at hl 0 rfl) ?_
      refine lv_aload_n hx hb dX4_mostSlept_5 rfl (lv_at hl 2 rfl) ?_
      refine va_get (D := D) (ci := 3) (v := .int vi) (C := RX4) (T := TX4) (N := 16) hx hb hts (fun _ h => List.mem_cons_of_mem _ (List.mem_append_right _ h)) hown hK hP 0 rfl rfl 0 (by decide) (hts (.fieldLink RX4 9 "WinterWalk$Land" "villages" "I") (List.mem_of_getElem? (i := 1) rfl)) (fun _ h9 => h9) rfl dX4_mostSlept_6 ?_
      refine lv_icmp_ge (tgt := 35) hx hb dX4_mostSlept_9 (by decide) (fun c_1 => ?_) (fun c_1 => ?_)
      · have f_1 : vi.toInt ≤ t2_c4.toInt := zi_le c_1
        refine lv_iload_n hx hb dX4_mostSlept_35 rfl (lv_at hl 1 rfl) ?_
        exact wr_i (v := t1_c4) hx hb hr hlocks hS () (by exact (by omega)) (hP.sub [0, 1] rfl) (hD.sub [0, 1] (by decide) rfl) dX4_mostSlept_36
      · have f_1 : ¬ vi.toInt ≤ t2_c4.toInt := zi_nle c_1
        refine lv_aload_n hx hb dX4_mostSlept_12 rfl (lv_at hl 2 rfl) ?_
        refine va_get (D := D) (ci := 3) (v := .ref w3) (C := RX4) (T := TX4) (N := 16) hx hb hts (fun _ h => List.mem_cons_of_mem _ (List.mem_append_right _ h)) hown hK hP 0 rfl rfl 11 (by decide) (hts (.fieldLink RX4 46 "WinterWalk$Land" "nightsIn" "[I") (List.mem_of_getElem? (i := 2) rfl)) (fun _ h9 => h9) rfl dX4_mostSlept_13 ?_
        refine lv_iload_n hx hb dX4_mostSlept_16 rfl (lv_at hl 0 rfl) ?_
        refine va_iald hx hb hK hP 1 0 rfl rfl (zi_in (by omega) (by omega)) dX4_mostSlept_17 ?_
        refine lv_topi (fun x_2 ex_2 => ?_)
        clear ex_2
        refine lv_aload_n hx hb dX4_mostSlept_18 rfl (lv_at hl 2 rfl) ?_
        refine va_get (D := D) (ci := 3) (v := .ref w3) (C := RX4) (T := TX4) (N := 16) hx hb hts (fun _ h => List.mem_cons_of_mem _ (List.mem_append_right _ h)) hown hK hP 0 rfl rfl 11 (by decide) (hts (.fieldLink RX4 46 "WinterWalk$Land" "nightsIn" "[I") (List.mem_of_getElem? (i := 2) rfl)) (fun _ h9 => h9) rfl dX4_mostSlept_19 ?_
        refine lv_iload_n hx hb dX4_mostSlept_22 rfl (lv_at hl 1 rfl) ?_
        refine va_iald hx hb hK hP 1 0 rfl rfl (zi_in (by omega) (by omega)) dX4_mostSlept_23 ?_
        refine lv_topi (fun x_3 ex_3 => ?_)
        clear ex_3
        refine lv_icmp_le (tgt := 29) hx hb dX4_mostSlept_24 (by decide) (fun c_4 => ?_) (fun c_4 => ?_)
        · have f_4 : x_2.toInt ≤ x_3.toInt := zi_le c_4
          obtain ⟨x_5, ex_5⟩ : ∃ y : Int32, y = t2_c4 + Int32.ofInt 1 := ⟨_, rfl⟩
          refine lv_iinc (v := x_5) (lv' := [(2, .int x_5), (1, .int t1_c4), (0, .ref h)]) hx hb dX4_mostSlept_29 hl (k := 0) rfl ex_5.symm (by decide) rfl (fun ls hl => ?_)
          have ex_5 : x_5 = t2_c4 + 1 := ex_5
          have e_5 : x_5.toInt = t2_c4.toInt + 1 := by rw [ex_5]; exact zi_add (rfl) (by decide) (by omega) (by omega)
          clear ex_5
          refine lv_goto (tgt := 4) hx hb dX4_mostSlept_32 (by decide) ?_
          exact ih4 x_5 t1_c4 _ _ _ (show 1 ≤ x_5.toInt ∧ x_5.toInt ≤ 8 from by omega) (show 0 ≤ t1_c4.toInt ∧ t1_c4.toInt ≤ 7 from by omega) (by omega) (hP.sub [0, 1] rfl) (hD.sub [0, 1] (by decide) rfl) hS (lv_sub hl [0, 1, 2] rfl)
        · have f_4 : ¬ x_2.toInt ≤ x_3.toInt := zi_nle c_4
          refine lv_iload_n hx hb dX4_mostSlept_27 rfl (lv_at hl 0 rfl) ?_
          refine lv_istore_n (lv' := [(1, .int t2_c4), (2, .int t2_c4), (0, .ref h)]) hx hb dX4_mostSlept_28 rfl hl (by decide) rfl (fun ls hl => ?_)
          obtain ⟨x_6, ex_6⟩ : ∃ y : Int32, y = t2_c4 + Int32.ofInt 1 := ⟨_, rfl⟩
          refine lv_iinc (v := x_6) (lv' := [(2, .int x_6), (1, .int t2_c4), (0, .ref h)]) hx hb dX4_mostSlept_29 hl (k := 1) rfl ex_6.symm (by decide) rfl (fun ls hl => ?_)
          have ex_6 : x_6 = t2_c4 + 1 := ex_6
          have e_6 : x_6.toInt = t2_c4.toInt + 1 := by rw [ex_6]; exact zi_add (rfl) (by decide) (by omega) (by omega)
          clear ex_6
          refine lv_goto (tgt := 4) hx hb dX4_mostSlept_32 (by decide) ?_
          exact ih4 x_6 t2_c4 _ _ _ (show 1 ≤ x_6.toInt ∧ x_6.toInt ≤ 8 from by omega) (show 0 ≤ t2_c4.toInt ∧ t2_c4.toInt ≤ 7 from by omega) (by omega) (hP.sub [0, 1] rfl) (hD.sub [0, 1] (by decide) rfl) hS (lv_sub hl [0, 1, 2] rfl)
  exact hL4 (((8 - (1 : Int32).toInt).toNat) + 1) 1 0 _ _ _ (show 1 ≤ 1 ∧ 1 ≤ 8 from by omega) (show 0 ≤ 0 ∧ 0 ≤ 7 from by omega) (Nat.lt_succ_self _) (hP.sub [0, 1] rfl) (hD.sub [0, 1] (by decide) rfl) hS (lv_sub hl [0, 1, 2] rfl)
set_option maxHeartbeats 4000000 in
set_option maxRecDepth 100000 in
theorem g_X4_keepOnly (l : Launch) (D : va_G) (cI cB cQ : ClassId) (sz : Nat) (h : Nat) (w0 : Nat) (w1 : Nat) (w2 : Nat) (w3 : Nat) (w4 : Nat) (w5 : Nat) (w6 : Nat) (w7 : Nat) (vi : Int32) (ro : Int32) (wa : Int32) (lz : Int32) (ds : Int32) (dy : Int32) (ga : Int32) (pa : Int32) (w : Int32) (fw : Nat → Int32) (fo : Nat → Int32) (fr : Nat → Int32) (fn : Nat → Int32) (ft : Nat → Int32) (fk : Nat → Int32) (fa : Nat → Int32) (fb : Nat → Int32) (ha : ∀ j, j < 3 → 0 ≤ (fa j).toInt ∧ (fa j).toInt ≤ 7) (h_vi : 0 ≤ vi.toInt ∧ vi.toInt ≤ 8) (h_wa : 0 ≤ wa.toInt ∧ wa.toInt ≤ 3) (h_w : 0 ≤ w.toInt ∧ w.toInt ≤ 2) : mv l yX4_keepOnly wsX4_keepOnly ({ frames := 0, cells := 0, slots := 0, locals := 0 }) D cI cB cQ [.ref h, .int w] sz [(h, .inr (3, [.int vi, .int ro, .int wa, .int lz, .int ds, .int dy, .int ga, .int pa, .ref w0, .ref w1, .ref w2, .ref w3, .ref w4, .ref w5, .ref w6, .ref w7])), (w0, .inl (cI, 8, .inl fw)), (w1, .inl (cI, 8, .inl fo)), (w2, .inl (cI, 8, .inl fr)), (w3, .inl (cI, 8, .inl fn)), (w4, .inl (cI, 8, .inl ft)), (w5, .inl (cI, 3, .inl fk)), (w6, .inl (cI, 3, .inl fa)), (w7, .inl (cI, 3, .inl fb))] (fun (u : Int32 × Int32 × Int32 × Int32 × Int32 × Int32 × Int32 × Int32 × (Nat → Int32) × (Nat → Int32) × (Nat → Int32) × (Nat → Int32) × (Nat → Int32) × (Nat → Int32) × (Nat → Int32) × (Nat → Int32)) => (0 ≤ u.1.toInt ∧ u.1.toInt ≤ 8) ∧ (0 ≤ u.2.2.1.toInt ∧ u.2.2.1.toInt ≤ 3) ∧ (∀ j, j < 3 → 0 ≤ (u.2.2.2.2.2.2.2.2.2.2.2.2.2.2.1 j).toInt ∧ (u.2.2.2.2.2.2.2.2.2.2.2.2.2.2.1 j).toInt ≤ 7)) (fun u => [(h, .inr (3, [.int u.1, .int u.2.1, .int u.2.2.1, .int u.2.2.2.1, .int u.2.2.2.2.1, .int u.2.2.2.2.2.1, .int u.2.2.2.2.2.2.1, .int u.2.2.2.2.2.2.2.1, .ref w0, .ref w1, .ref w2, .ref w3, .ref w4, .ref w5, .ref w6, .ref w7])), (w0, .inl (cI, 8, .inl u.2.2.2.2.2.2.2.2.1)), (w1, .inl (cI, 8, .inl u.2.2.2.2.2.2.2.2.2.1)), (w2, .inl (cI, 8, .inl u.2.2.2.2.2.2.2.2.2.2.1)), (w3, .inl (cI, 8, .inl u.2.2.2.2.2.2.2.2.2.2.2.1)), (w4, .inl (cI, 8, .inl u.2.2.2.2.2.2.2.2.2.2.2.2.1)), (w5, .inl (cI, 3, .inl u.2.2.2.2.2.2.2.2.2.2.2.2.2.1)), (w6, .inl (cI, 3, .inl u.2.2.2.2.2.2.2.2.2.2.2.2.2.2.1)), (w7, .inl (cI, 3, .inl u.2.2.2.2.2.2.2.2.2.2.2.2.2.2.2))]) 0 0 := by
  refine wm_v (cc := cX4_keepOnly) (maxL := 2) (ret := none) (by decide) rfl (Nat.le_of_ble_eq_true rfl) ?_
  intro p e s m below meth c A ls hx hb hr hml hown hts hlocks hin hP hK hD hN hA hl hS
  have hown : s.vm.findClass RX4 = some m.cls := hown
  have hl : lv_has ls 2 [(0, .ref h), (1, .int w)] := hl
  change W p l e ({ frames := 0, cells := 0, slots := 0, locals := 0 }) s m ([.ref h, .int w] : List Value).toArray below meth c s.heap [] 0 0 (MQ below (va_Qv (fun (u : Int32 × Int32 × Int32 × Int32 × Int32 × Int32 × Int32 × Int32 × (Nat → Int32) × (Nat → Int32) × (Nat → Int32) × (Nat → Int32) × (Nat → Int32) × (Nat → Int32) × (Nat → Int32) × (Nat → Int32)) => (0 ≤ u.1.toInt ∧ u.1.toInt ≤ 8) ∧ (0 ≤ u.2.2.1.toInt ∧ u.2.2.1.toInt ≤ 3) ∧ (∀ j, j < 3 → 0 ≤ (u.2.2.2.2.2.2.2.2.2.2.2.2.2.2.1 j).toInt ∧ (u.2.2.2.2.2.2.2.2.2.2.2.2.2.2.1 j).toInt ≤ 7)) (fun u t => wb D A ((fun u => [(h, .inr (3, [.int u.1, .int u.2.1, .int u.2.2.1, .int u.2.2.2.1, .int u.2.2.2.2.1, .int u.2.2.2.2.2.1, .int u.2.2.2.2.2.2.1, .int u.2.2.2.2.2.2.2.1, .ref w0, .ref w1, .ref w2, .ref w3, .ref w4, .ref w5, .ref w6, .ref w7])), (w0, .inl (cI, 8, .inl u.2.2.2.2.2.2.2.2.1)), (w1, .inl (cI, 8, .inl u.2.2.2.2.2.2.2.2.2.1)), (w2, .inl (cI, 8, .inl u.2.2.2.2.2.2.2.2.2.2.1)), (w3, .inl (cI, 8, .inl u.2.2.2.2.2.2.2.2.2.2.2.1)), (w4, .inl (cI, 8, .inl u.2.2.2.2.2.2.2.2.2.2.2.2.1)), (w5, .inl (cI, 3, .inl u.2.2.2.2.2.2.2.2.2.2.2.2.2.1)), (w6, .inl (cI, 3, .inl u.2.2.2.2.2.2.2.2.2.2.2.2.2.2.1)), (w7, .inl (cI, 3, .inl u.2.2.2.2.2.2.2.2.2.2.2.2.2.2.2))]) u) t) A) ([.ref h, .int w] : List Value).toArray s 0 0 A) (F0 m 0 ls [])
  refine lv_aload_n hx hb dX4_keepOnly_0 rfl (lv_at hl 0 rfl) ?_
  refine va_get (D := D) (ci := 3) (v := .ref w5) (C := RX4) (T := TX4) (N := 16) hx hb hts (fun _ h => List.mem_cons_of_mem _ (List.mem_append_right _ h)) hown hK hP 0 rfl rfl 13 (by decide) (hts (.fieldLink RX4 52 "WinterWalk$Land" "kinds" "[I") (List.mem_of_getElem? (i := 1) rfl)) (fun _ h9 => h9) rfl dX4_keepOnly_1 ?_
  refine lv_iconst (v := 0) hx hb dX4_keepOnly_4 (by decide) ?_
  refine lv_aload_n hx hb dX4_keepOnly_5 rfl (lv_at hl 0 rfl) ?_
  refine va_get (D := D) (ci := 3) (v := .ref w5) (C := RX4) (T := TX4) (N := 16) hx hb hts (fun _ h => List.mem_cons_of_mem _ (List.mem_append_right _ h)) hown hK hP 0 rfl rfl 13 (by decide) (hts (.fieldLink RX4 52 "WinterWalk$Land" "kinds" "[I") (List.mem_of_getElem? (i := 1) rfl)) (fun _ h9 => h9) rfl dX4_keepOnly_6 ?_
  refine lv_iload_n hx hb dX4_keepOnly_9 rfl (lv_at hl 1 rfl) ?_
  refine va_iald hx hb hK hP 6 0 rfl rfl (zi_in (by omega) (by omega)) dX4_keepOnly_10 ?_
  refine lv_topi (fun x_1 ex_1 => ?_)
  clear ex_1
  refine va_iast hx hb hK hP hD hS 6 0 rfl rfl (zi_in (by decide) (by decide)) dX4_keepOnly_11 (fun H locs hP hD hS => ?_)
  have hP : va_P D kl [(h, .inr (3, [.int vi, .int ro, .int wa, .int lz, .int ds, .int dy, .int ga, .int pa, .ref w0, .ref w1, .ref w2, .ref w3, .ref w4, .ref w5, .ref w6, .ref w7])), (w0, .inl (cI, 8, .inl fw)), (w1, .inl (cI, 8, .inl fo)), (w2, .inl (cI, 8, .inl fr)), (w3, .inl (cI, 8, .inl fn)), (w4, .inl (cI, 8, .inl ft)), (w5, .inl (cI, 3, .inl (upd fk (0 : Int32).toNatClampNeg x_1))), (w6, .inl (cI, 3, .inl fa)), (w7, .inl (cI, 3, .inl fb))] H := hP
  have hD : va_D A [(h, .inr (3, [.int vi, .int ro, .int wa, .int lz, .int ds, .int dy, .int ga, .int pa, .ref w0, .ref w1, .ref w2, .ref w3, .ref w4, .ref w5, .ref w6, .ref w7])), (w0, .inl (cI, 8, .inl fw)), (w1, .inl (cI, 8, .inl fo)), (w2, .inl (cI, 8, .inl fr)), (w3, .inl (cI, 8, .inl fn)), (w4, .inl (cI, 8, .inl ft)), (w5, .inl (cI, 3, .inl (upd fk (0 : Int32).toNatClampNeg x_1))), (w6, .inl (cI, 3, .inl fa)), (w7, .inl (cI, 3, .inl fb))] := hD
  refine lv_aload_n hx hb dX4_keepOnly_12 rfl (lv_at hl 0 rfl) ?_
  refine va_get (D := D) (ci := 3) (v := .ref w6) (C := RX4) (T := TX4) (N := 16) hx hb hts (fun _ h => List.mem_cons_of_mem _ (List.mem_append_right _ h)) hown hK hP 0 rfl rfl 14 (by decide) (hts (.fieldLink RX4 55 "WinterWalk$Land" "at" "[I") (List.mem_of_getElem? (i := 2) rfl)) (fun _ h9 => h9) rfl dX4_keepOnly_13 ?_
  refine lv_iconst (v := 0) hx hb dX4_keepOnly_16 (by decide) ?_
  refine lv_aload_n hx hb dX4_keepOnly_17 rfl (lv_at hl 0 rfl) ?_
  refine va_get (D := D) (ci := 3) (v := .ref w6) (C := RX4) (T := TX4) (N := 16) hx hb hts (fun _ h => List.mem_cons_of_mem _ (List.mem_append_right _ h)) hown hK hP 0 rfl rfl 14 (by decide) (hts (.fieldLink RX4 55 "WinterWalk$Land" "at" "[I") (List.mem_of_getElem? (i := 2) rfl)) (fun _ h9 => h9) rfl dX4_keepOnly_18 ?_
  refine lv_iload_n hx hb dX4_keepOnly_21 rfl (lv_at hl 1 rfl) ?_
  refine va_iald hx hb hK hP 7 0 rfl rfl (zi_in (by omega) (by omega)) dX4_keepOnly_22 ?_
  refine lv_topi (fun x_2 ex_2 => ?_)
  have f_2 : 0 ≤ x_2.toInt ∧ x_2.toInt ≤ 7 := by rw [ex_2]; exact ha _ (zi_cl (by omega) (by omega))
  clear ex_2
  refine va_iast hx hb hK hP hD hS 7 0 rfl rfl (zi_in (by decide) (by decide)) dX4_keepOnly_23 (fun H locs hP hD hS => ?_)
  have hP : va_P D kl [(h, .inr (3, [.int vi, .int ro, .int wa, .int lz, .int ds, .int dy, .int ga, .int pa, .ref w0, .ref w1, .ref w2, .ref w3, .ref w4, .ref w5, .ref w6, .ref w7])), (w0, .inl (cI, 8, .inl fw)), (w1, .inl (cI, 8, .inl fo)), (w2, .inl (cI, 8, .inl fr)), (w3, .inl (cI, 8, .inl fn)), (w4, .inl (cI, 8, .inl ft)), (w5, .inl (cI, 3, .inl (upd fk (0 : Int32).toNatClampNeg x_1))), (w6, .inl (cI, 3, .inl (upd fa (0 : Int32).toNatClampNeg x_2))), (w7, .inl (cI, 3, .inl fb))] H := hP
  have hD : va_D A [(h, .inr (3, [.int vi, .int ro, .int wa, .int lz, .int ds, .int dy, .int ga, .int pa, .ref w0, .ref w1, .ref w2, .ref w3, .ref w4, .ref w5, .ref w6, .ref w7])), (w0, .inl (cI, 8, .inl fw)), (w1, .inl (cI, 8, .inl fo)), (w2, .inl (cI, 8, .inl fr)), (w3, .inl (cI, 8, .inl fn)), (w4, .inl (cI, 8, .inl ft)), (w5, .inl (cI, 3, .inl (upd fk (0 : Int32).toNatClampNeg x_1))), (w6, .inl (cI, 3, .inl (upd fa (0 : Int32).toNatClampNeg x_2))), (w7, .inl (cI, 3, .inl fb))] := hD
  have ha_3 : ∀ j, j < 3 → 0 ≤ ((upd fa (0 : Int32).toNatClampNeg x_2) j).toInt ∧ ((upd fa (0 : Int32).toNatClampNeg x_2) j).toInt ≤ 7 := zu_upd ha (by omega)
  refine lv_aload_n hx hb dX4_keepOnly_24 rfl (lv_at hl 0 rfl) ?_
  refine va_get (D := D) (ci := 3) (v := .ref w7) (C := RX4) (T := TX4) (N := 16) hx hb hts (fun _ h => List.mem_cons_of_mem _ (List.mem_append_right _ h)) hown hK hP 0 rfl rfl 15 (by decide) (hts (.fieldLink RX4 58 "WinterWalk$Land" "before" "[I") (List.mem_of_getElem? (i := 3) rfl)) (fun _ h9 => h9) rfl dX4_keepOnly_25 ?_
  refine lv_iconst (v := 0) hx hb dX4_keepOnly_28 (by decide) ?_
  refine lv_aload_n hx hb dX4_keepOnly_29 rfl (lv_at hl 0 rfl) ?_
  refine va_get (D := D) (ci := 3) (v := .ref w7) (C := RX4) (T := TX4) (N := 16) hx hb hts (fun _ h => List.mem_cons_of_mem _ (List.mem_append_right _ h)) hown hK hP 0 rfl rfl 15 (by decide) (hts (.fieldLink RX4 58 "WinterWalk$Land" "before" "[I") (List.mem_of_getElem? (i := 3) rfl)) (fun _ h9 => h9) rfl dX4_keepOnly_30 ?_
  refine lv_iload_n hx hb dX4_keepOnly_33 rfl (lv_at hl 1 rfl) ?_
  refine va_iald hx hb hK hP 8 0 rfl rfl (zi_in (by omega) (by omega)) dX4_keepOnly_34 ?_
  refine lv_topi (fun x_4 ex_4 => ?_)
  clear ex_4
  refine va_iast hx hb hK hP hD hS 8 0 rfl rfl (zi_in (by decide) (by decide)) dX4_keepOnly_35 (fun H locs hP hD hS => ?_)
  have hP : va_P D kl [(h, .inr (3, [.int vi, .int ro, .int wa, .int lz, .int ds, .int dy, .int ga, .int pa, .ref w0, .ref w1, .ref w2, .ref w3, .ref w4, .ref w5, .ref w6, .ref w7])), (w0, .inl (cI, 8, .inl fw)), (w1, .inl (cI, 8, .inl fo)), (w2, .inl (cI, 8, .inl fr)), (w3, .inl (cI, 8, .inl fn)), (w4, .inl (cI, 8, .inl ft)), (w5, .inl (cI, 3, .inl (upd fk (0 : Int32).toNatClampNeg x_1))), (w6, .inl (cI, 3, .inl (upd fa (0 : Int32).toNatClampNeg x_2))), (w7, .inl (cI, 3, .inl (upd fb (0 : Int32).toNatClampNeg x_4)))] H := hP
  have hD : va_D A [(h, .inr (3, [.int vi, .int ro, .int wa, .int lz, .int ds, .int dy, .int ga, .int pa, .ref w0, .ref w1, .ref w2, .ref w3, .ref w4, .ref w5, .ref w6, .ref w7])), (w0, .inl (cI, 8, .inl fw)), (w1, .inl (cI, 8, .inl fo)), (w2, .inl (cI, 8, .inl fr)), (w3, .inl (cI, 8, .inl fn)), (w4, .inl (cI, 8, .inl ft)), (w5, .inl (cI, 3, .inl (upd fk (0 : Int32).toNatClampNeg x_1))), (w6, .inl (cI, 3, .inl (upd fa (0 : Int32).toNatClampNeg x_2))), (w7, .inl (cI, 3, .inl (upd fb (0 : Int32).toNatClampNeg x_4)))] := hD
  refine lv_aload_n hx hb dX4_keepOnly_36 rfl (lv_at hl 0 rfl) ?_
  refine lv_iconst (v := 1) hx hb dX4_keepOnly_37 (by decide) ?_
  refine va_put (D := D) (ci := 3) (v := .int 1) (ty := .int) (C := RX4) (T := TX4) (N := 16) hx hb hts (fun _ h => List.mem_cons_of_mem _ (List.mem_append_right _ h)) tyX4 tyX4_ok nmX4 hown hK hP hD hS 0 rfl rfl 2 (by decide) (hts (.fieldLink RX4 18 "WinterWalk$Land" "walkers" "I") (List.mem_of_getElem? (i := 4) rfl)) (fun _ h9 => h9) rfl (by decide +kernel) rfl rfl (Nat.le_of_ble_eq_true rfl) dX4_keepOnly_38 (fun H locs hP hD hS => ?_)
  have hP : va_P D kl [(h, .inr (3, [.int vi, .int ro, .int 1, .int lz, .int ds, .int dy, .int ga, .int pa, .ref w0, .ref w1, .ref w2, .ref w3, .ref w4, .ref w5, .ref w6, .ref w7])), (w0, .inl (cI, 8, .inl fw)), (w1, .inl (cI, 8, .inl fo)), (w2, .inl (cI, 8, .inl fr)), (w3, .inl (cI, 8, .inl fn)), (w4, .inl (cI, 8, .inl ft)), (w5, .inl (cI, 3, .inl (upd fk (0 : Int32).toNatClampNeg x_1))), (w6, .inl (cI, 3, .inl (upd fa (0 : Int32).toNatClampNeg x_2))), (w7, .inl (cI, 3, .inl (upd fb (0 : Int32).toNatClampNeg x_4)))] H := hP
  have hD : va_D A [(h, .inr (3, [.int vi, .int ro, .int 1, .int lz, .int ds, .int dy, .int ga, .int pa, .ref w0, .ref w1, .ref w2, .ref w3, .ref w4, .ref w5, .ref w6, .ref w7])), (w0, .inl (cI, 8, .inl fw)), (w1, .inl (cI, 8, .inl fo)), (w2, .inl (cI, 8, .inl fr)), (w3, .inl (cI, 8, .inl fn)), (w4, .inl (cI, 8, .inl ft)), (w5, .inl (cI, 3, .inl (upd fk (0 : Int32).toNatClampNeg x_1))), (w6, .inl (cI, 3, .inl (upd fa (0 : Int32).toNatClampNeg x_2))), (w7, .inl (cI, 3, .inl (upd fb (0 : Int32).toNatClampNeg x_4)))] := hD
  exact wr_v hx hb hr hlocks hS (vi, ro, 1, lz, ds, dy, ga, pa, fw, fo, fr, fn, ft, (upd fk (0 : Int32).toNatClampNeg x_1), (upd fa (0 : Int32).toNatClampNeg x_2), (upd fb (0 : Int32).toNatClampNeg x_4)) (by exact ⟨show 0 ≤ (vi : Int32).toInt ∧ (vi : Int32).toInt ≤ 8 from by omega, show 0 ≤ (1 : Int32).toInt ∧ (1 : Int32).toInt ≤ 3 from ⟨by decide, by decide⟩, ha_3⟩) (hP.sub [0, 1, 2, 3, 4, 5, 6, 7, 8] rfl) (hD.sub [0, 1, 2, 3, 4, 5, 6, 7, 8] (by decide) rfl) dX4_keepOnly_41
set_option maxHeartbeats 4000000 in
set_option maxRecDepth 100000 in
theorem g_X4_becomeLike (l : Launch) (D : va_G) (cI cB cQ : ClassId) (sz : Nat) (h : Nat) (w0 : Nat) (w1 : Nat) (w2 : Nat) (w3 : Nat) (w4 : Nat) (w5 : Nat) (w6 : Nat) (w7 : Nat) (h2 : Nat) (qw0 : Nat) (qw1 : Nat) (qw2 : Nat) (qw3 : Nat) (qw4 : Nat) (qw5 : Nat) (qw6 : Nat) (qw7 : Nat) (vi : Int32) (ro : Int32) (wa : Int32) (lz : Int32) (ds : Int32) (dy : Int32) (ga : Int32) (pa : Int32) (qvi : Int32) (qro : Int32) (qwa : Int32) (qlz : Int32) (qds : Int32) (qdy : Int32) (qga : Int32) (qpa : Int32) (fw : Nat → Int32) (fo : Nat → Int32) (fr : Nat → Int32) (fn : Nat → Int32) (ft : Nat → Int32) (fk : Nat → Int32) (fa : Nat → Int32) (fb : Nat → Int32) (qfw : Nat → Int32) (qfo : Nat → Int32) (qfr : Nat → Int32) (qfn : Nat → Int32) (qft : Nat → Int32) (qfk : Nat → Int32) (qfa : Nat → Int32) (qfb : Nat → Int32) (ha : ∀ j, j < 3 → 0 ≤ (fa j).toInt ∧ (fa j).toInt ≤ 7) (qha : ∀ j, j < 3 → 0 ≤ (qfa j).toInt ∧ (qfa j).toInt ≤ 7) (h_vi : 0 ≤ vi.toInt ∧ vi.toInt ≤ 8) (h_wa : 0 ≤ wa.toInt ∧ wa.toInt ≤ 3) (h_qvi : 0 ≤ qvi.toInt ∧ qvi.toInt ≤ 8) (h_qwa : 0 ≤ qwa.toInt ∧ qwa.toInt ≤ 3) : mv l yX4_becomeLike wsX4_becomeLike ({ frames := 1, cells := 0, slots := 0, locals := 80 }) D cI cB cQ [.ref h, .ref h2] sz [(h, .inr (3, [.int vi, .int ro, .int wa, .int lz, .int ds, .int dy, .int ga, .int pa, .ref w0, .ref w1, .ref w2, .ref w3, .ref w4, .ref w5, .ref w6, .ref w7])), (w0, .inl (cI, 8, .inl fw)), (w1, .inl (cI, 8, .inl fo)), (w2, .inl (cI, 8, .inl fr)), (w3, .inl (cI, 8, .inl fn)), (w4, .inl (cI, 8, .inl ft)), (w5, .inl (cI, 3, .inl fk)), (w6, .inl (cI, 3, .inl fa)), (w7, .inl (cI, 3, .inl fb)), (h2, .inr (3, [.int qvi, .int qro, .int qwa, .int qlz, .int qds, .int qdy, .int qga, .int qpa, .ref qw0, .ref qw1, .ref qw2, .ref qw3, .ref qw4, .ref qw5, .ref qw6, .ref qw7])), (qw0, .inl (cI, 8, .inl qfw)), (qw1, .inl (cI, 8, .inl qfo)), (qw2, .inl (cI, 8, .inl qfr)), (qw3, .inl (cI, 8, .inl qfn)), (qw4, .inl (cI, 8, .inl qft)), (qw5, .inl (cI, 3, .inl qfk)), (qw6, .inl (cI, 3, .inl qfa)), (qw7, .inl (cI, 3, .inl qfb))] (fun (u : Int32 × Int32 × Int32 × Int32 × Int32 × Int32 × Int32 × Int32 × (Nat → Int32) × (Nat → Int32) × (Nat → Int32) × (Nat → Int32) × (Nat → Int32) × (Nat → Int32) × (Nat → Int32) × (Nat → Int32)) => (0 ≤ u.1.toInt ∧ u.1.toInt ≤ 8) ∧ (0 ≤ u.2.2.1.toInt ∧ u.2.2.1.toInt ≤ 3) ∧ (∀ j, j < 3 → 0 ≤ (u.2.2.2.2.2.2.2.2.2.2.2.2.2.2.1 j).toInt ∧ (u.2.2.2.2.2.2.2.2.2.2.2.2.2.2.1 j).toInt ≤ 7)) (fun u => [(h, .inr (3, [.int u.1, .int u.2.1, .int u.2.2.1, .int u.2.2.2.1, .int u.2.2.2.2.1, .int u.2.2.2.2.2.1, .int u.2.2.2.2.2.2.1, .int u.2.2.2.2.2.2.2.1, .ref w0, .ref w1, .ref w2, .ref w3, .ref w4, .ref w5, .ref w6, .ref w7])), (w0, .inl (cI, 8, .inl u.2.2.2.2.2.2.2.2.1)), (w1, .inl (cI, 8, .inl u.2.2.2.2.2.2.2.2.2.1)), (w2, .inl (cI, 8, .inl u.2.2.2.2.2.2.2.2.2.2.1)), (w3, .inl (cI, 8, .inl u.2.2.2.2.2.2.2.2.2.2.2.1)), (w4, .inl (cI, 8, .inl u.2.2.2.2.2.2.2.2.2.2.2.2.1)), (w5, .inl (cI, 3, .inl u.2.2.2.2.2.2.2.2.2.2.2.2.2.1)), (w6, .inl (cI, 3, .inl u.2.2.2.2.2.2.2.2.2.2.2.2.2.2.1)), (w7, .inl (cI, 3, .inl u.2.2.2.2.2.2.2.2.2.2.2.2.2.2.2)), (h2, .inr (3, [.int qvi, .int qro, .int qwa, .int qlz, .int qds, .int qdy, .int qga, .int qpa, .ref qw0, .ref qw1, .ref qw2, .ref qw3, .ref qw4, .ref qw5, .ref qw6, .ref qw7])), (qw0, .inl (cI, 8, .inl qfw)), (qw1, .inl (cI, 8, .inl qfo)), (qw2, .inl (cI, 8, .inl qfr)), (qw3, .inl (cI, 8, .inl qfn)), (qw4, .inl (cI, 8, .inl qft)), (qw5, .inl (cI, 3, .inl qfk)), (qw6, .inl (cI, 3, .inl qfa)), (qw7, .inl (cI, 3, .inl qfb))]) 0 0 := by
  refine wm_v (cc := cX4_becomeLike) (maxL := 2) (ret := none) (by decide) rfl (Nat.le_of_ble_eq_true rfl) ?_
  intro p e s m below meth c A ls hx hb hr hml hown hts hlocks hin hP hK hD hN hA hl hS
  have hown : s.vm.findClass RX4 = some m.cls := hown
  have hl : lv_has ls 2 [(0, .ref h), (1, .ref h2)] := hl
  change W p l e ({ frames := 1, cells := 0, slots := 0, locals := 80 }) s m ([.ref h, .ref h2] : List Value).toArray below meth c s.heap [] 0 0 (MQ below (va_Qv (fun (u : Int32 × Int32 × Int32 × Int32 × Int32 × Int32 × Int32 × Int32 × (Nat → Int32) × (Nat → Int32) × (Nat → Int32) × (Nat → Int32) × (Nat → Int32) × (Nat → Int32) × (Nat → Int32) × (Nat → Int32)) => (0 ≤ u.1.toInt ∧ u.1.toInt ≤ 8) ∧ (0 ≤ u.2.2.1.toInt ∧ u.2.2.1.toInt ≤ 3) ∧ (∀ j, j < 3 → 0 ≤ (u.2.2.2.2.2.2.2.2.2.2.2.2.2.2.1 j).toInt ∧ (u.2.2.2.2.2.2.2.2.2.2.2.2.2.2.1 j).toInt ≤ 7)) (fun u t => wb D A ((fun u => [(h, .inr (3, [.int u.1, .int u.2.1, .int u.2.2.1, .int u.2.2.2.1, .int u.2.2.2.2.1, .int u.2.2.2.2.2.1, .int u.2.2.2.2.2.2.1, .int u.2.2.2.2.2.2.2.1, .ref w0, .ref w1, .ref w2, .ref w3, .ref w4, .ref w5, .ref w6, .ref w7])), (w0, .inl (cI, 8, .inl u.2.2.2.2.2.2.2.2.1)), (w1, .inl (cI, 8, .inl u.2.2.2.2.2.2.2.2.2.1)), (w2, .inl (cI, 8, .inl u.2.2.2.2.2.2.2.2.2.2.1)), (w3, .inl (cI, 8, .inl u.2.2.2.2.2.2.2.2.2.2.2.1)), (w4, .inl (cI, 8, .inl u.2.2.2.2.2.2.2.2.2.2.2.2.1)), (w5, .inl (cI, 3, .inl u.2.2.2.2.2.2.2.2.2.2.2.2.2.1)), (w6, .inl (cI, 3, .inl u.2.2.2.2.2.2.2.2.2.2.2.2.2.2.1)), (w7, .inl (cI, 3, .inl u.2.2.2.2.2.2.2.2.2.2.2.2.2.2.2)), (h2, .inr (3, [.int qvi, .int qro, .int qwa, .int qlz, .int qds, .int qdy, .int qga, .int qpa, .ref qw0, .ref qw1, .ref qw2, .ref qw3, .ref qw4, .ref qw5, .ref qw6, .ref qw7])), (qw0, .inl (cI, 8, .inl qfw)), (qw1, .inl (cI, 8, .inl qfo)), (qw2, .inl (cI, 8, .inl qfr)), (qw3, .inl (cI, 8, .inl qfn)), (qw4, .inl (cI, 8, .inl qft)), (qw5, .inl (cI, 3, .inl qfk)), (qw6, .inl (cI, 3, .inl qfa)), (qw7, .inl (cI, 3, .inl qfb))]) u) t) A) ([.ref h, .ref h2] : List Value).toArray s 0 0 A) (F0 m 0 ls [])
  refine lv_aload_n hx hb dX4_becomeLike_0 rfl (lv_at hl 0 rfl) ?_
  refine lv_aload_n hx hb dX4_becomeLike_1 rfl (lv_at hl 1 rfl) ?_
  refine va_get (D := D) (ci := 3) (v := .int qvi) (C := RX4) (T := TX4) (N := 16) hx hb hts (fun _ h => List.mem_cons_of_mem _ (List.mem_append_right _ h)) hown hK hP 9 rfl rfl 0 (by decide) (hts (.fieldLink RX4 9 "WinterWalk$Land" "villages" "I") (List.mem_of_getElem? (i := 1) rfl)) (fun _ h9 => h9) rfl dX4_becomeLike_2 ?_
  refine va_put (D := D) (ci := 3) (v := .int qvi) (ty := .int) (C := RX4) (T := TX4) (N := 16) hx hb hts (fun _ h => List.mem_cons_of_mem _ (List.mem_append_right _ h)) tyX4 tyX4_ok nmX4 hown hK hP hD hS 0 rfl rfl 0 (by decide) (hts (.fieldLink RX4 9 "WinterWalk$Land" "villages" "I") (List.mem_of_getElem? (i := 1) rfl)) (fun _ h9 => h9) rfl (by decide +kernel) rfl rfl (Nat.le_of_ble_eq_true rfl) dX4_becomeLike_5 (fun H locs hP hD hS => ?_)
  have hP : va_P D kl [(h, .inr (3, [.int qvi, .int ro, .int wa, .int lz, .int ds, .int dy, .int ga, .int pa, .ref w0, .ref w1, .ref w2, .ref w3, .ref w4, .ref w5, .ref w6, .ref w7])), (w0, .inl (cI, 8, .inl fw)), (w1, .inl (cI, 8, .inl fo)), (w2, .inl (cI, 8, .inl fr)), (w3, .inl (cI, 8, .inl fn)), (w4, .inl (cI, 8, .inl ft)), (w5, .inl (cI, 3, .inl fk)), (w6, .inl (cI, 3, .inl fa)), (w7, .inl (cI, 3, .inl fb)), (h2, .inr (3, [.int qvi, .int qro, .int qwa, .int qlz, .int qds, .int qdy, .int qga, .int qpa, .ref qw0, .ref qw1, .ref qw2, .ref qw3, .ref qw4, .ref qw5, .ref qw6, .ref qw7])), (qw0, .inl (cI, 8, .inl qfw)), (qw1, .inl (cI, 8, .inl qfo)), (qw2, .inl (cI, 8, .inl qfr)), (qw3, .inl (cI, 8, .inl qfn)), (qw4, .inl (cI, 8, .inl qft)), (qw5, .inl (cI, 3, .inl qfk)), (qw6, .inl (cI, 3, .inl qfa)), (qw7, .inl (cI, 3, .inl qfb))] H := hP
  have hD : va_D A [(h, .inr (3, [.int qvi, .int ro, .int wa, .int lz, .int ds, .int dy, .int ga, .int pa, .ref w0, .ref w1, .ref w2, .ref w3, .ref w4, .ref w5, .ref w6, .ref w7])), (w0, .inl (cI, 8, .inl fw)), (w1, .inl (cI, 8, .inl fo)), (w2, .inl (cI, 8, .inl fr)), (w3, .inl (cI, 8, .inl fn)), (w4, .inl (cI, 8, .inl ft)), (w5, .inl (cI, 3, .inl fk)), (w6, .inl (cI, 3, .inl fa)), (w7, .inl (cI, 3, .inl fb)), (h2, .inr (3, [.int qvi, .int qro, .int qwa, .int qlz, .int qds, .int qdy, .int qga, .int qpa, .ref qw0, .ref qw1, .ref qw2, .ref qw3, .ref qw4, .ref qw5, .ref qw6, .ref qw7])), (qw0, .inl (cI, 8, .inl qfw)), (qw1, .inl (cI, 8, .inl qfo)), (qw2, .inl (cI, 8, .inl qfr)), (qw3, .inl (cI, 8, .inl qfn)), (qw4, .inl (cI, 8, .inl qft)), (qw5, .inl (cI, 3, .inl qfk)), (qw6, .inl (cI, 3, .inl qfa)), (qw7, .inl (cI, 3, .inl qfb))] := hD
  refine lv_aload_n hx hb dX4_becomeLike_8 rfl (lv_at hl 0 rfl) ?_
  refine lv_aload_n hx hb dX4_becomeLike_9 rfl (lv_at hl 1 rfl) ?_
  refine va_get (D := D) (ci := 3) (v := .int qro) (C := RX4) (T := TX4) (N := 16) hx hb hts (fun _ h => List.mem_cons_of_mem _ (List.mem_append_right _ h)) hown hK hP 9 rfl rfl 1 (by decide) (hts (.fieldLink RX4 15 "WinterWalk$Land" "roadsTold" "I") (List.mem_of_getElem? (i := 2) rfl)) (fun _ h9 => h9) rfl dX4_becomeLike_10 ?_
  refine va_put (D := D) (ci := 3) (v := .int qro) (ty := .int) (C := RX4) (T := TX4) (N := 16) hx hb hts (fun _ h => List.mem_cons_of_mem _ (List.mem_append_right _ h)) tyX4 tyX4_ok nmX4 hown hK hP hD hS 0 rfl rfl 1 (by decide) (hts (.fieldLink RX4 15 "WinterWalk$Land" "roadsTold" "I") (List.mem_of_getElem? (i := 2) rfl)) (fun _ h9 => h9) rfl (by decide +kernel) rfl rfl (Nat.le_of_ble_eq_true rfl) dX4_becomeLike_13 (fun H locs hP hD hS => ?_)
  have hP : va_P D kl [(h, .inr (3, [.int qvi, .int qro, .int wa, .int lz, .int ds, .int dy, .int ga, .int pa, .ref w0, .ref w1, .ref w2, .ref w3, .ref w4, .ref w5, .ref w6, .ref w7])), (w0, .inl (cI, 8, .inl fw)), (w1, .inl (cI, 8, .inl fo)), (w2, .inl (cI, 8, .inl fr)), (w3, .inl (cI, 8, .inl fn)), (w4, .inl (cI, 8, .inl ft)), (w5, .inl (cI, 3, .inl fk)), (w6, .inl (cI, 3, .inl fa)), (w7, .inl (cI, 3, .inl fb)), (h2, .inr (3, [.int qvi, .int qro, .int qwa, .int qlz, .int qds, .int qdy, .int qga, .int qpa, .ref qw0, .ref qw1, .ref qw2, .ref qw3, .ref qw4, .ref qw5, .ref qw6, .ref qw7])), (qw0, .inl (cI, 8, .inl qfw)), (qw1, .inl (cI, 8, .inl qfo)), (qw2, .inl (cI, 8, .inl qfr)), (qw3, .inl (cI, 8, .inl qfn)), (qw4, .inl (cI, 8, .inl qft)), (qw5, .inl (cI, 3, .inl qfk)), (qw6, .inl (cI, 3, .inl qfa)), (qw7, .inl (cI, 3, .inl qfb))] H := hP
  have hD : va_D A [(h, .inr (3, [.int qvi, .int qro, .int wa, .int lz, .int ds, .int dy, .int ga, .int pa, .ref w0, .ref w1, .ref w2, .ref w3, .ref w4, .ref w5, .ref w6, .ref w7])), (w0, .inl (cI, 8, .inl fw)), (w1, .inl (cI, 8, .inl fo)), (w2, .inl (cI, 8, .inl fr)), (w3, .inl (cI, 8, .inl fn)), (w4, .inl (cI, 8, .inl ft)), (w5, .inl (cI, 3, .inl fk)), (w6, .inl (cI, 3, .inl fa)), (w7, .inl (cI, 3, .inl fb)), (h2, .inr (3, [.int qvi, .int qro, .int qwa, .int qlz, .int qds, .int qdy, .int qga, .int qpa, .ref qw0, .ref qw1, .ref qw2, .ref qw3, .ref qw4, .ref qw5, .ref qw6, .ref qw7])), (qw0, .inl (cI, 8, .inl qfw)), (qw1, .inl (cI, 8, .inl qfo)), (qw2, .inl (cI, 8, .inl qfr)), (qw3, .inl (cI, 8, .inl qfn)), (qw4, .inl (cI, 8, .inl qft)), (qw5, .inl (cI, 3, .inl qfk)), (qw6, .inl (cI, 3, .inl qfa)), (qw7, .inl (cI, 3, .inl qfb))] := hD
  refine lv_aload_n hx hb dX4_becomeLike_16 rfl (lv_at hl 0 rfl) ?_
  refine lv_aload_n hx hb dX4_becomeLike_17 rfl (lv_at hl 1 rfl) ?_
  refine va_get (D := D) (ci := 3) (v := .int qwa) (C := RX4) (T := TX4) (N := 16) hx hb hts (fun _ h => List.mem_cons_of_mem _ (List.mem_append_right _ h)) hown hK hP 9 rfl rfl 2 (by decide) (hts (.fieldLink RX4 18 "WinterWalk$Land" "walkers" "I") (List.mem_of_getElem? (i := 3) rfl)) (fun _ h9 => h9) rfl dX4_becomeLike_18 ?_
  refine va_put (D := D) (ci := 3) (v := .int qwa) (ty := .int) (C := RX4) (T := TX4) (N := 16) hx hb hts (fun _ h => List.mem_cons_of_mem _ (List.mem_append_right _ h)) tyX4 tyX4_ok nmX4 hown hK hP hD hS 0 rfl rfl 2 (by decide) (hts (.fieldLink RX4 18 "WinterWalk$Land" "walkers" "I") (List.mem_of_getElem? (i := 3) rfl)) (fun _ h9 => h9) rfl (by decide +kernel) rfl rfl (Nat.le_of_ble_eq_true rfl) dX4_becomeLike_21 (fun H locs hP hD hS => ?_)
  have hP : va_P D kl [(h, .inr (3, [.int qvi, .int qro, .int qwa, .int lz, .int ds, .int dy, .int ga, .int pa, .ref w0, .ref w1, .ref w2, .ref w3, .ref w4, .ref w5, .ref w6, .ref w7])), (w0, .inl (cI, 8, .inl fw)), (w1, .inl (cI, 8, .inl fo)), (w2, .inl (cI, 8, .inl fr)), (w3, .inl (cI, 8, .inl fn)), (w4, .inl (cI, 8, .inl ft)), (w5, .inl (cI, 3, .inl fk)), (w6, .inl (cI, 3, .inl fa)), (w7, .inl (cI, 3, .inl fb)), (h2, .inr (3, [.int qvi, .int qro, .int qwa, .int qlz, .int qds, .int qdy, .int qga, .int qpa, .ref qw0, .ref qw1, .ref qw2, .ref qw3, .ref qw4, .ref qw5, .ref qw6, .ref qw7])), (qw0, .inl (cI, 8, .inl qfw)), (qw1, .inl (cI, 8, .inl qfo)), (qw2, .inl (cI, 8, .inl qfr)), (qw3, .inl (cI, 8, .inl qfn)), (qw4, .inl (cI, 8, .inl qft)), (qw5, .inl (cI, 3, .inl qfk)), (qw6, .inl (cI, 3, .inl qfa)), (qw7, .inl (cI, 3, .inl qfb))] H := hP
  have hD : va_D A [(h, .inr (3, [.int qvi, .int qro, .int qwa, .int lz, .int ds, .int dy, .int ga, .int pa, .ref w0, .ref w1, .ref w2, .ref w3, .ref w4, .ref w5, .ref w6, .ref w7])), (w0, .inl (cI, 8, .inl fw)), (w1, .inl (cI, 8, .inl fo)), (w2, .inl (cI, 8, .inl fr)), (w3, .inl (cI, 8, .inl fn)), (w4, .inl (cI, 8, .inl ft)), (w5, .inl (cI, 3, .inl fk)), (w6, .inl (cI, 3, .inl fa)), (w7, .inl (cI, 3, .inl fb)), (h2, .inr (3, [.int qvi, .int qro, .int qwa, .int qlz, .int qds, .int qdy, .int qga, .int qpa, .ref qw0, .ref qw1, .ref qw2, .ref qw3, .ref qw4, .ref qw5, .ref qw6, .ref qw7])), (qw0, .inl (cI, 8, .inl qfw)), (qw1, .inl (cI, 8, .inl qfo)), (qw2, .inl (cI, 8, .inl qfr)), (qw3, .inl (cI, 8, .inl qfn)), (qw4, .inl (cI, 8, .inl qft)), (qw5, .inl (cI, 3, .inl qfk)), (qw6, .inl (cI, 3, .inl qfa)), (qw7, .inl (cI, 3, .inl qfb))] := hD
  refine lv_aload_n hx hb dX4_becomeLike_24 rfl (lv_at hl 0 rfl) ?_
  refine lv_aload_n hx hb dX4_becomeLike_25 rfl (lv_at hl 1 rfl) ?_
  refine va_get (D := D) (ci := 3) (v := .int qlz) (C := RX4) (T := TX4) (N := 16) hx hb hts (fun _ h => List.mem_cons_of_mem _ (List.mem_append_right _ h)) hown hK hP 9 rfl rfl 3 (by decide) (hts (.fieldLink RX4 21 "WinterWalk$Land" "lasts" "I") (List.mem_of_getElem? (i := 4) rfl)) (fun _ h9 => h9) rfl dX4_becomeLike_26 ?_
  refine va_put (D := D) (ci := 3) (v := .int qlz) (ty := .int) (C := RX4) (T := TX4) (N := 16) hx hb hts (fun _ h => List.mem_cons_of_mem _ (List.mem_append_right _ h)) tyX4 tyX4_ok nmX4 hown hK hP hD hS 0 rfl rfl 3 (by decide) (hts (.fieldLink RX4 21 "WinterWalk$Land" "lasts" "I") (List.mem_of_getElem? (i := 4) rfl)) (fun _ h9 => h9) rfl (by decide +kernel) rfl rfl (Nat.le_of_ble_eq_true rfl) dX4_becomeLike_29 (fun H locs hP hD hS => ?_)
  have hP : va_P D kl [(h, .inr (3, [.int qvi, .int qro, .int qwa, .int qlz, .int ds, .int dy, .int ga, .int pa, .ref w0, .ref w1, .ref w2, .ref w3, .ref w4, .ref w5, .ref w6, .ref w7])), (w0, .inl (cI, 8, .inl fw)), (w1, .inl (cI, 8, .inl fo)), (w2, .inl (cI, 8, .inl fr)), (w3, .inl (cI, 8, .inl fn)), (w4, .inl (cI, 8, .inl ft)), (w5, .inl (cI, 3, .inl fk)), (w6, .inl (cI, 3, .inl fa)), (w7, .inl (cI, 3, .inl fb)), (h2, .inr (3, [.int qvi, .int qro, .int qwa, .int qlz, .int qds, .int qdy, .int qga, .int qpa, .ref qw0, .ref qw1, .ref qw2, .ref qw3, .ref qw4, .ref qw5, .ref qw6, .ref qw7])), (qw0, .inl (cI, 8, .inl qfw)), (qw1, .inl (cI, 8, .inl qfo)), (qw2, .inl (cI, 8, .inl qfr)), (qw3, .inl (cI, 8, .inl qfn)), (qw4, .inl (cI, 8, .inl qft)), (qw5, .inl (cI, 3, .inl qfk)), (qw6, .inl (cI, 3, .inl qfa)), (qw7, .inl (cI, 3, .inl qfb))] H := hP
  have hD : va_D A [(h, .inr (3, [.int qvi, .int qro, .int qwa, .int qlz, .int ds, .int dy, .int ga, .int pa, .ref w0, .ref w1, .ref w2, .ref w3, .ref w4, .ref w5, .ref w6, .ref w7])), (w0, .inl (cI, 8, .inl fw)), (w1, .inl (cI, 8, .inl fo)), (w2, .inl (cI, 8, .inl fr)), (w3, .inl (cI, 8, .inl fn)), (w4, .inl (cI, 8, .inl ft)), (w5, .inl (cI, 3, .inl fk)), (w6, .inl (cI, 3, .inl fa)), (w7, .inl (cI, 3, .inl fb)), (h2, .inr (3, [.int qvi, .int qro, .int qwa, .int qlz, .int qds, .int qdy, .int qga, .int qpa, .ref qw0, .ref qw1, .ref qw2, .ref qw3, .ref qw4, .ref qw5, .ref qw6, .ref qw7])), (qw0, .inl (cI, 8, .inl qfw)), (qw1, .inl (cI, 8, .inl qfo)), (qw2, .inl (cI, 8, .inl qfr)), (qw3, .inl (cI, 8, .inl qfn)), (qw4, .inl (cI, 8, .inl qft)), (qw5, .inl (cI, 3, .inl qfk)), (qw6, .inl (cI, 3, .inl qfa)), (qw7, .inl (cI, 3, .inl qfb))] := hD
  refine lv_aload_n hx hb dX4_becomeLike_32 rfl (lv_at hl 0 rfl) ?_
  refine lv_aload_n hx hb dX4_becomeLike_33 rfl (lv_at hl 1 rfl) ?_
  refine va_get (D := D) (ci := 3) (v := .int qds) (C := RX4) (T := TX4) (N := 16) hx hb hts (fun _ h => List.mem_cons_of_mem _ (List.mem_append_right _ h)) hown hK hP 9 rfl rfl 4 (by decide) (hts (.fieldLink RX4 24 "WinterWalk$Land" "doorsShut" "I") (List.mem_of_getElem? (i := 5) rfl)) (fun _ h9 => h9) rfl dX4_becomeLike_34 ?_
  refine va_put (D := D) (ci := 3) (v := .int qds) (ty := .int) (C := RX4) (T := TX4) (N := 16) hx hb hts (fun _ h => List.mem_cons_of_mem _ (List.mem_append_right _ h)) tyX4 tyX4_ok nmX4 hown hK hP hD hS 0 rfl rfl 4 (by decide) (hts (.fieldLink RX4 24 "WinterWalk$Land" "doorsShut" "I") (List.mem_of_getElem? (i := 5) rfl)) (fun _ h9 => h9) rfl (by decide +kernel) rfl rfl (Nat.le_of_ble_eq_true rfl) dX4_becomeLike_37 (fun H locs hP hD hS => ?_)
  have hP : va_P D kl [(h, .inr (3, [.int qvi, .int qro, .int qwa, .int qlz, .int qds, .int dy, .int ga, .int pa, .ref w0, .ref w1, .ref w2, .ref w3, .ref w4, .ref w5, .ref w6, .ref w7])), (w0, .inl (cI, 8, .inl fw)), (w1, .inl (cI, 8, .inl fo)), (w2, .inl (cI, 8, .inl fr)), (w3, .inl (cI, 8, .inl fn)), (w4, .inl (cI, 8, .inl ft)), (w5, .inl (cI, 3, .inl fk)), (w6, .inl (cI, 3, .inl fa)), (w7, .inl (cI, 3, .inl fb)), (h2, .inr (3, [.int qvi, .int qro, .int qwa, .int qlz, .int qds, .int qdy, .int qga, .int qpa, .ref qw0, .ref qw1, .ref qw2, .ref qw3, .ref qw4, .ref qw5, .ref qw6, .ref qw7])), (qw0, .inl (cI, 8, .inl qfw)), (qw1, .inl (cI, 8, .inl qfo)), (qw2, .inl (cI, 8, .inl qfr)), (qw3, .inl (cI, 8, .inl qfn)), (qw4, .inl (cI, 8, .inl qft)), (qw5, .inl (cI, 3, .inl qfk)), (qw6, .inl (cI, 3, .inl qfa)), (qw7, .inl (cI, 3, .inl qfb))] H := hP
  have hD : va_D A [(h, .inr (3, [.int qvi, .int qro, .int qwa, .int qlz, .int qds, .int dy, .int ga, .int pa, .ref w0, .ref w1, .ref w2, .ref w3, .ref w4, .ref w5, .ref w6, .ref w7])), (w0, .inl (cI, 8, .inl fw)), (w1, .inl (cI, 8, .inl fo)), (w2, .inl (cI, 8, .inl fr)), (w3, .inl (cI, 8, .inl fn)), (w4, .inl (cI, 8, .inl ft)), (w5, .inl (cI, 3, .inl fk)), (w6, .inl (cI, 3, .inl fa)), (w7, .inl (cI, 3, .inl fb)), (h2, .inr (3, [.int qvi, .int qro, .int qwa, .int qlz, .int qds, .int qdy, .int qga, .int qpa, .ref qw0, .ref qw1, .ref qw2, .ref qw3, .ref qw4, .ref qw5, .ref qw6, .ref qw7])), (qw0, .inl (cI, 8, .inl qfw)), (qw1, .inl (cI, 8, .inl qfo)), (qw2, .inl (cI, 8, .inl qfr)), (qw3, .inl (cI, 8, .inl qfn)), (qw4, .inl (cI, 8, .inl qft)), (qw5, .inl (cI, 3, .inl qfk)), (qw6, .inl (cI, 3, .inl qfa)), (qw7, .inl (cI, 3, .inl qfb))] := hD
  refine lv_aload_n hx hb dX4_becomeLike_40 rfl (lv_at hl 0 rfl) ?_
  refine lv_aload_n hx hb dX4_becomeLike_41 rfl (lv_at hl 1 rfl) ?_
  refine va_get (D := D) (ci := 3) (v := .int qdy) (C := RX4) (T := TX4) (N := 16) hx hb hts (fun _ h => List.mem_cons_of_mem _ (List.mem_append_right _ h)) hown hK hP 9 rfl rfl 5 (by decide) (hts (.fieldLink RX4 27 "WinterWalk$Land" "day" "I") (List.mem_of_getElem? (i := 6) rfl)) (fun _ h9 => h9) rfl dX4_becomeLike_42 ?_
  refine va_put (D := D) (ci := 3) (v := .int qdy) (ty := .int) (C := RX4) (T := TX4) (N := 16) hx hb hts (fun _ h => List.mem_cons_of_mem _ (List.mem_append_right _ h)) tyX4 tyX4_ok nmX4 hown hK hP hD hS 0 rfl rfl 5 (by decide) (hts (.fieldLink RX4 27 "WinterWalk$Land" "day" "I") (List.mem_of_getElem? (i := 6) rfl)) (fun _ h9 => h9) rfl (by decide +kernel) rfl rfl (Nat.le_of_ble_eq_true rfl) dX4_becomeLike_45 (fun H locs hP hD hS => ?_)
  have hP : va_P D kl [(h, .inr (3, [.int qvi, .int qro, .int qwa, .int qlz, .int qds, .int qdy, .int ga, .int pa, .ref w0, .ref w1, .ref w2, .ref w3, .ref w4, .ref w5, .ref w6, .ref w7])), (w0, .inl (cI, 8, .inl fw)), (w1, .inl (cI, 8, .inl fo)), (w2, .inl (cI, 8, .inl fr)), (w3, .inl (cI, 8, .inl fn)), (w4, .inl (cI, 8, .inl ft)), (w5, .inl (cI, 3, .inl fk)), (w6, .inl (cI, 3, .inl fa)), (w7, .inl (cI, 3, .inl fb)), (h2, .inr (3, [.int qvi, .int qro, .int qwa, .int qlz, .int qds, .int qdy, .int qga, .int qpa, .ref qw0, .ref qw1, .ref qw2, .ref qw3, .ref qw4, .ref qw5, .ref qw6, .ref qw7])), (qw0, .inl (cI, 8, .inl qfw)), (qw1, .inl (cI, 8, .inl qfo)), (qw2, .inl (cI, 8, .inl qfr)), (qw3, .inl (cI, 8, .inl qfn)), (qw4, .inl (cI, 8, .inl qft)), (qw5, .inl (cI, 3, .inl qfk)), (qw6, .inl (cI, 3, .inl qfa)), (qw7, .inl (cI, 3, .inl qfb))] H := hP
  have hD : va_D A [(h, .inr (3, [.int qvi, .int qro, .int qwa, .int qlz, .int qds, .int qdy, .int ga, .int pa, .ref w0, .ref w1, .ref w2, .ref w3, .ref w4, .ref w5, .ref w6, .ref w7])), (w0, .inl (cI, 8, .inl fw)), (w1, .inl (cI, 8, .inl fo)), (w2, .inl (cI, 8, .inl fr)), (w3, .inl (cI, 8, .inl fn)), (w4, .inl (cI, 8, .inl ft)), (w5, .inl (cI, 3, .inl fk)), (w6, .inl (cI, 3, .inl fa)), (w7, .inl (cI, 3, .inl fb)), (h2, .inr (3, [.int qvi, .int qro, .int qwa, .int qlz, .int qds, .int qdy, .int qga, .int qpa, .ref qw0, .ref qw1, .ref qw2, .ref qw3, .ref qw4, .ref qw5, .ref qw6, .ref qw7])), (qw0, .inl (cI, 8, .inl qfw)), (qw1, .inl (cI, 8, .inl qfo)), (qw2, .inl (cI, 8, .inl qfr)), (qw3, .inl (cI, 8, .inl qfn)), (qw4, .inl (cI, 8, .inl qft)), (qw5, .inl (cI, 3, .inl qfk)), (qw6, .inl (cI, 3, .inl qfa)), (qw7, .inl (cI, 3, .inl qfb))] := hD
  refine lv_aload_n hx hb dX4_becomeLike_48 rfl (lv_at hl 0 rfl) ?_
  refine lv_aload_n hx hb dX4_becomeLike_49 rfl (lv_at hl 1 rfl) ?_
  refine va_get (D := D) (ci := 3) (v := .int qga) (C := RX4) (T := TX4) (N := 16) hx hb hts (fun _ h => List.mem_cons_of_mem _ (List.mem_append_right _ h)) hown hK hP 9 rfl rfl 6 (by decide) (hts (.fieldLink RX4 30 "WinterWalk$Land" "gain" "I") (List.mem_of_getElem? (i := 7) rfl)) (fun _ h9 => h9) rfl dX4_becomeLike_50 ?_
  refine va_put (D := D) (ci := 3) (v := .int qga) (ty := .int) (C := RX4) (T := TX4) (N := 16) hx hb hts (fun _ h => List.mem_cons_of_mem _ (List.mem_append_right _ h)) tyX4 tyX4_ok nmX4 hown hK hP hD hS 0 rfl rfl 6 (by decide) (hts (.fieldLink RX4 30 "WinterWalk$Land" "gain" "I") (List.mem_of_getElem? (i := 7) rfl)) (fun _ h9 => h9) rfl (by decide +kernel) rfl rfl (Nat.le_of_ble_eq_true rfl) dX4_becomeLike_53 (fun H locs hP hD hS => ?_)
  have hP : va_P D kl [(h, .inr (3, [.int qvi, .int qro, .int qwa, .int qlz, .int qds, .int qdy, .int qga, .int pa, .ref w0, .ref w1, .ref w2, .ref w3, .ref w4, .ref w5, .ref w6, .ref w7])), (w0, .inl (cI, 8, .inl fw)), (w1, .inl (cI, 8, .inl fo)), (w2, .inl (cI, 8, .inl fr)), (w3, .inl (cI, 8, .inl fn)), (w4, .inl (cI, 8, .inl ft)), (w5, .inl (cI, 3, .inl fk)), (w6, .inl (cI, 3, .inl fa)), (w7, .inl (cI, 3, .inl fb)), (h2, .inr (3, [.int qvi, .int qro, .int qwa, .int qlz, .int qds, .int qdy, .int qga, .int qpa, .ref qw0, .ref qw1, .ref qw2, .ref qw3, .ref qw4, .ref qw5, .ref qw6, .ref qw7])), (qw0, .inl (cI, 8, .inl qfw)), (qw1, .inl (cI, 8, .inl qfo)), (qw2, .inl (cI, 8, .inl qfr)), (qw3, .inl (cI, 8, .inl qfn)), (qw4, .inl (cI, 8, .inl qft)), (qw5, .inl (cI, 3, .inl qfk)), (qw6, .inl (cI, 3, .inl qfa)), (qw7, .inl (cI, 3, .inl qfb))] H := hP
  have hD : va_D A [(h, .inr (3, [.int qvi, .int qro, .int qwa, .int qlz, .int qds, .int qdy, .int qga, .int pa, .ref w0, .ref w1, .ref w2, .ref w3, .ref w4, .ref w5, .ref w6, .ref w7])), (w0, .inl (cI, 8, .inl fw)), (w1, .inl (cI, 8, .inl fo)), (w2, .inl (cI, 8, .inl fr)), (w3, .inl (cI, 8, .inl fn)), (w4, .inl (cI, 8, .inl ft)), (w5, .inl (cI, 3, .inl fk)), (w6, .inl (cI, 3, .inl fa)), (w7, .inl (cI, 3, .inl fb)), (h2, .inr (3, [.int qvi, .int qro, .int qwa, .int qlz, .int qds, .int qdy, .int qga, .int qpa, .ref qw0, .ref qw1, .ref qw2, .ref qw3, .ref qw4, .ref qw5, .ref qw6, .ref qw7])), (qw0, .inl (cI, 8, .inl qfw)), (qw1, .inl (cI, 8, .inl qfo)), (qw2, .inl (cI, 8, .inl qfr)), (qw3, .inl (cI, 8, .inl qfn)), (qw4, .inl (cI, 8, .inl qft)), (qw5, .inl (cI, 3, .inl qfk)), (qw6, .inl (cI, 3, .inl qfa)), (qw7, .inl (cI, 3, .inl qfb))] := hD
  refine lv_aload_n hx hb dX4_becomeLike_56 rfl (lv_at hl 0 rfl) ?_
  refine lv_aload_n hx hb dX4_becomeLike_57 rfl (lv_at hl 1 rfl) ?_
  refine va_get (D := D) (ci := 3) (v := .int qpa) (C := RX4) (T := TX4) (N := 16) hx hb hts (fun _ h => List.mem_cons_of_mem _ (List.mem_append_right _ h)) hown hK hP 9 rfl rfl 7 (by decide) (hts (.fieldLink RX4 33 "WinterWalk$Land" "paid" "I") (List.mem_of_getElem? (i := 8) rfl)) (fun _ h9 => h9) rfl dX4_becomeLike_58 ?_
  refine va_put (D := D) (ci := 3) (v := .int qpa) (ty := .int) (C := RX4) (T := TX4) (N := 16) hx hb hts (fun _ h => List.mem_cons_of_mem _ (List.mem_append_right _ h)) tyX4 tyX4_ok nmX4 hown hK hP hD hS 0 rfl rfl 7 (by decide) (hts (.fieldLink RX4 33 "WinterWalk$Land" "paid" "I") (List.mem_of_getElem? (i := 8) rfl)) (fun _ h9 => h9) rfl (by decide +kernel) rfl rfl (Nat.le_of_ble_eq_true rfl) dX4_becomeLike_61 (fun H locs hP hD hS => ?_)
  have hP : va_P D kl [(h, .inr (3, [.int qvi, .int qro, .int qwa, .int qlz, .int qds, .int qdy, .int qga, .int qpa, .ref w0, .ref w1, .ref w2, .ref w3, .ref w4, .ref w5, .ref w6, .ref w7])), (w0, .inl (cI, 8, .inl fw)), (w1, .inl (cI, 8, .inl fo)), (w2, .inl (cI, 8, .inl fr)), (w3, .inl (cI, 8, .inl fn)), (w4, .inl (cI, 8, .inl ft)), (w5, .inl (cI, 3, .inl fk)), (w6, .inl (cI, 3, .inl fa)), (w7, .inl (cI, 3, .inl fb)), (h2, .inr (3, [.int qvi, .int qro, .int qwa, .int qlz, .int qds, .int qdy, .int qga, .int qpa, .ref qw0, .ref qw1, .ref qw2, .ref qw3, .ref qw4, .ref qw5, .ref qw6, .ref qw7])), (qw0, .inl (cI, 8, .inl qfw)), (qw1, .inl (cI, 8, .inl qfo)), (qw2, .inl (cI, 8, .inl qfr)), (qw3, .inl (cI, 8, .inl qfn)), (qw4, .inl (cI, 8, .inl qft)), (qw5, .inl (cI, 3, .inl qfk)), (qw6, .inl (cI, 3, .inl qfa)), (qw7, .inl (cI, 3, .inl qfb))] H := hP
  have hD : va_D A [(h, .inr (3, [.int qvi, .int qro, .int qwa, .int qlz, .int qds, .int qdy, .int qga, .int qpa, .ref w0, .ref w1, .ref w2, .ref w3, .ref w4, .ref w5, .ref w6, .ref w7])), (w0, .inl (cI, 8, .inl fw)), (w1, .inl (cI, 8, .inl fo)), (w2, .inl (cI, 8, .inl fr)), (w3, .inl (cI, 8, .inl fn)), (w4, .inl (cI, 8, .inl ft)), (w5, .inl (cI, 3, .inl fk)), (w6, .inl (cI, 3, .inl fa)), (w7, .inl (cI, 3, .inl fb)), (h2, .inr (3, [.int qvi, .int qro, .int qwa, .int qlz, .int qds, .int qdy, .int qga, .int qpa, .ref qw0, .ref qw1, .ref qw2, .ref qw3, .ref qw4, .ref qw5, .ref qw6, .ref qw7])), (qw0, .inl (cI, 8, .inl qfw)), (qw1, .inl (cI, 8, .inl qfo)), (qw2, .inl (cI, 8, .inl qfr)), (qw3, .inl (cI, 8, .inl qfn)), (qw4, .inl (cI, 8, .inl qft)), (qw5, .inl (cI, 3, .inl qfk)), (qw6, .inl (cI, 3, .inl qfa)), (qw7, .inl (cI, 3, .inl qfb))] := hD
  refine lv_aload_n hx hb dX4_becomeLike_64 rfl (lv_at hl 1 rfl) ?_
  refine va_get (D := D) (ci := 3) (v := .ref qw0) (C := RX4) (T := TX4) (N := 16) hx hb hts (fun _ h => List.mem_cons_of_mem _ (List.mem_append_right _ h)) hown hK hP 9 rfl rfl 8 (by decide) (hts (.fieldLink RX4 36 "WinterWalk$Land" "worth" "[I") (List.mem_of_getElem? (i := 9) rfl)) (fun _ h9 => h9) rfl dX4_becomeLike_65 ?_
  refine lv_iconst (v := 0) hx hb dX4_becomeLike_68 (by decide) ?_
  refine lv_aload_n hx hb dX4_becomeLike_69 rfl (lv_at hl 0 rfl) ?_
  refine va_get (D := D) (ci := 3) (v := .ref w0) (C := RX4) (T := TX4) (N := 16) hx hb hts (fun _ h => List.mem_cons_of_mem _ (List.mem_append_right _ h)) hown hK hP 0 rfl rfl 8 (by decide) (hts (.fieldLink RX4 36 "WinterWalk$Land" "worth" "[I") (List.mem_of_getElem? (i := 9) rfl)) (fun _ h9 => h9) rfl dX4_becomeLike_70 ?_
  refine lv_iconst (v := 0) hx hb dX4_becomeLike_73 (by decide) ?_
  refine lv_bipush (v := 8) hx hb dX4_becomeLike_74 (by decide) ?_
  refine va_copyi hx hb (hml.trans hl.1.symm) hown (hts (.methodLink RX4 70 arraycopyName) (List.mem_of_getElem? (i := 10) rfl)) (hts (.native arraycopyName) (List.mem_of_getElem? (i := 11) rfl)) (hts (.static arraycopyName) (List.mem_of_getElem? (i := 12) rfl)) (hts (.initialized "java/lang/System") (List.mem_of_getElem? (i := 13) rfl)) hK hP hD hS 10 1 0 0 rfl rfl rfl rfl rfl (by decide) (by decide) (by decide) (by decide) (by decide) (fun i hi => rfl) (Nat.le_of_ble_eq_true rfl) (Nat.le_of_ble_eq_true rfl) dX4_becomeLike_76 (fun H locs hP hD hS => ?_)
  have hP : va_P D kl [(h, .inr (3, [.int qvi, .int qro, .int qwa, .int qlz, .int qds, .int qdy, .int qga, .int qpa, .ref w0, .ref w1, .ref w2, .ref w3, .ref w4, .ref w5, .ref w6, .ref w7])), (w0, .inl (cI, 8, .inl (va_cpy qfw fw 0 0 8))), (w1, .inl (cI, 8, .inl fo)), (w2, .inl (cI, 8, .inl fr)), (w3, .inl (cI, 8, .inl fn)), (w4, .inl (cI, 8, .inl ft)), (w5, .inl (cI, 3, .inl fk)), (w6, .inl (cI, 3, .inl fa)), (w7, .inl (cI, 3, .inl fb)), (h2, .inr (3, [.int qvi, .int qro, .int qwa, .int qlz, .int qds, .int qdy, .int qga, .int qpa, .ref qw0, .ref qw1, .ref qw2, .ref qw3, .ref qw4, .ref qw5, .ref qw6, .ref qw7])), (qw0, .inl (cI, 8, .inl qfw)), (qw1, .inl (cI, 8, .inl qfo)), (qw2, .inl (cI, 8, .inl qfr)), (qw3, .inl (cI, 8, .inl qfn)), (qw4, .inl (cI, 8, .inl qft)), (qw5, .inl (cI, 3, .inl qfk)), (qw6, .inl (cI, 3, .inl qfa)), (qw7, .inl (cI, 3, .inl qfb))] H := hP
  have hD : va_D A [(h, .inr (3, [.int qvi, .int qro, .int qwa, .int qlz, .int qds, .int qdy, .int qga, .int qpa, .ref w0, .ref w1, .ref w2, .ref w3, .ref w4, .ref w5, .ref w6, .ref w7])), (w0, .inl (cI, 8, .inl (va_cpy qfw fw 0 0 8))), (w1, .inl (cI, 8, .inl fo)), (w2, .inl (cI, 8, .inl fr)), (w3, .inl (cI, 8, .inl fn)), (w4, .inl (cI, 8, .inl ft)), (w5, .inl (cI, 3, .inl fk)), (w6, .inl (cI, 3, .inl fa)), (w7, .inl (cI, 3, .inl fb)), (h2, .inr (3, [.int qvi, .int qro, .int qwa, .int qlz, .int qds, .int qdy, .int qga, .int qpa, .ref qw0, .ref qw1, .ref qw2, .ref qw3, .ref qw4, .ref qw5, .ref qw6, .ref qw7])), (qw0, .inl (cI, 8, .inl qfw)), (qw1, .inl (cI, 8, .inl qfo)), (qw2, .inl (cI, 8, .inl qfr)), (qw3, .inl (cI, 8, .inl qfn)), (qw4, .inl (cI, 8, .inl qft)), (qw5, .inl (cI, 3, .inl qfk)), (qw6, .inl (cI, 3, .inl qfa)), (qw7, .inl (cI, 3, .inl qfb))] := hD
  have hP := wx_P (k := 1) (f := (va_cpy qfw fw 0 0 8)) (g := qfw) hP hD rfl (fun j hj => zcp hj)
  have hD := wx_D (k := 1) (f := (va_cpy qfw fw 0 0 8)) (g := qfw) hD rfl
  have hP : va_P D kl [(h, .inr (3, [.int qvi, .int qro, .int qwa, .int qlz, .int qds, .int qdy, .int qga, .int qpa, .ref w0, .ref w1, .ref w2, .ref w3, .ref w4, .ref w5, .ref w6, .ref w7])), (w0, .inl (cI, 8, .inl qfw)), (w1, .inl (cI, 8, .inl fo)), (w2, .inl (cI, 8, .inl fr)), (w3, .inl (cI, 8, .inl fn)), (w4, .inl (cI, 8, .inl ft)), (w5, .inl (cI, 3, .inl fk)), (w6, .inl (cI, 3, .inl fa)), (w7, .inl (cI, 3, .inl fb)), (h2, .inr (3, [.int qvi, .int qro, .int qwa, .int qlz, .int qds, .int qdy, .int qga, .int qpa, .ref qw0, .ref qw1, .ref qw2, .ref qw3, .ref qw4, .ref qw5, .ref qw6, .ref qw7])), (qw0, .inl (cI, 8, .inl qfw)), (qw1, .inl (cI, 8, .inl qfo)), (qw2, .inl (cI, 8, .inl qfr)), (qw3, .inl (cI, 8, .inl qfn)), (qw4, .inl (cI, 8, .inl qft)), (qw5, .inl (cI, 3, .inl qfk)), (qw6, .inl (cI, 3, .inl qfa)), (qw7, .inl (cI, 3, .inl qfb))] H := hP
  have hD : va_D A [(h, .inr (3, [.int qvi, .int qro, .int qwa, .int qlz, .int qds, .int qdy, .int qga, .int qpa, .ref w0, .ref w1, .ref w2, .ref w3, .ref w4, .ref w5, .ref w6, .ref w7])), (w0, .inl (cI, 8, .inl qfw)), (w1, .inl (cI, 8, .inl fo)), (w2, .inl (cI, 8, .inl fr)), (w3, .inl (cI, 8, .inl fn)), (w4, .inl (cI, 8, .inl ft)), (w5, .inl (cI, 3, .inl fk)), (w6, .inl (cI, 3, .inl fa)), (w7, .inl (cI, 3, .inl fb)), (h2, .inr (3, [.int qvi, .int qro, .int qwa, .int qlz, .int qds, .int qdy, .int qga, .int qpa, .ref qw0, .ref qw1, .ref qw2, .ref qw3, .ref qw4, .ref qw5, .ref qw6, .ref qw7])), (qw0, .inl (cI, 8, .inl qfw)), (qw1, .inl (cI, 8, .inl qfo)), (qw2, .inl (cI, 8, .inl qfr)), (qw3, .inl (cI, 8, .inl qfn)), (qw4, .inl (cI, 8, .inl qft)), (qw5, .inl (cI, 3, .inl qfk)), (qw6, .inl (cI, 3, .inl qfa)), (qw7, .inl (cI, 3, .inl qfb))] := hD
  refine lv_aload_n hx hb dX4_becomeLike_79 rfl (lv_at hl 1 rfl) ?_
  refine va_get (D := D) (ci := 3) (v := .ref qw1) (C := RX4) (T := TX4) (N := 16) hx hb hts (fun _ h => List.mem_cons_of_mem _ (List.mem_append_right _ h)) hown hK hP 9 rfl rfl 9 (by decide) (hts (.fieldLink RX4 40 "WinterWalk$Land" "offers" "[I") (List.mem_of_getElem? (i := 14) rfl)) (fun _ h9 => h9) rfl dX4_becomeLike_80 ?_
  refine lv_iconst (v := 0) hx hb dX4_becomeLike_83 (by decide) ?_
  refine lv_aload_n hx hb dX4_becomeLike_84 rfl (lv_at hl 0 rfl) ?_
  refine va_get (D := D) (ci := 3) (v := .ref w1) (C := RX4) (T := TX4) (N := 16) hx hb hts (fun _ h => List.mem_cons_of_mem _ (List.mem_append_right _ h)) hown hK hP 0 rfl rfl 9 (by decide) (hts (.fieldLink RX4 40 "WinterWalk$Land" "offers" "[I") (List.mem_of_getElem? (i := 14) rfl)) (fun _ h9 => h9) rfl dX4_becomeLike_85 ?_
  refine lv_iconst (v := 0) hx hb dX4_becomeLike_88 (by decide) ?_
  refine lv_bipush (v := 8) hx hb dX4_becomeLike_89 (by decide) ?_
  refine va_copyi hx hb (hml.trans hl.1.symm) hown (hts (.methodLink RX4 70 arraycopyName) (List.mem_of_getElem? (i := 10) rfl)) (hts (.native arraycopyName) (List.mem_of_getElem? (i := 11) rfl)) (hts (.static arraycopyName) (List.mem_of_getElem? (i := 12) rfl)) (hts (.initialized "java/lang/System") (List.mem_of_getElem? (i := 13) rfl)) hK hP hD hS 11 2 0 0 rfl rfl rfl rfl rfl (by decide) (by decide) (by decide) (by decide) (by decide) (fun i hi => rfl) (Nat.le_of_ble_eq_true rfl) (Nat.le_of_ble_eq_true rfl) dX4_becomeLike_91 (fun H locs hP hD hS => ?_)
  have hP : va_P D kl [(h, .inr (3, [.int qvi, .int qro, .int qwa, .int qlz, .int qds, .int qdy, .int qga, .int qpa, .ref w0, .ref w1, .ref w2, .ref w3, .ref w4, .ref w5, .ref w6, .ref w7])), (w0, .inl (cI, 8, .inl qfw)), (w1, .inl (cI, 8, .inl (va_cpy qfo fo 0 0 8))), (w2, .inl (cI, 8, .inl fr)), (w3, .inl (cI, 8, .inl fn)), (w4, .inl (cI, 8, .inl ft)), (w5, .inl (cI, 3, .inl fk)), (w6, .inl (cI, 3, .inl fa)), (w7, .inl (cI, 3, .inl fb)), (h2, .inr (3, [.int qvi, .int qro, .int qwa, .int qlz, .int qds, .int qdy, .int qga, .int qpa, .ref qw0, .ref qw1, .ref qw2, .ref qw3, .ref qw4, .ref qw5, .ref qw6, .ref qw7])), (qw0, .inl (cI, 8, .inl qfw)), (qw1, .inl (cI, 8, .inl qfo)), (qw2, .inl (cI, 8, .inl qfr)), (qw3, .inl (cI, 8, .inl qfn)), (qw4, .inl (cI, 8, .inl qft)), (qw5, .inl (cI, 3, .inl qfk)), (qw6, .inl (cI, 3, .inl qfa)), (qw7, .inl (cI, 3, .inl qfb))] H := hP
  have hD : va_D A [(h, .inr (3, [.int qvi, .int qro, .int qwa, .int qlz, .int qds, .int qdy, .int qga, .int qpa, .ref w0, .ref w1, .ref w2, .ref w3, .ref w4, .ref w5, .ref w6, .ref w7])), (w0, .inl (cI, 8, .inl qfw)), (w1, .inl (cI, 8, .inl (va_cpy qfo fo 0 0 8))), (w2, .inl (cI, 8, .inl fr)), (w3, .inl (cI, 8, .inl fn)), (w4, .inl (cI, 8, .inl ft)), (w5, .inl (cI, 3, .inl fk)), (w6, .inl (cI, 3, .inl fa)), (w7, .inl (cI, 3, .inl fb)), (h2, .inr (3, [.int qvi, .int qro, .int qwa, .int qlz, .int qds, .int qdy, .int qga, .int qpa, .ref qw0, .ref qw1, .ref qw2, .ref qw3, .ref qw4, .ref qw5, .ref qw6, .ref qw7])), (qw0, .inl (cI, 8, .inl qfw)), (qw1, .inl (cI, 8, .inl qfo)), (qw2, .inl (cI, 8, .inl qfr)), (qw3, .inl (cI, 8, .inl qfn)), (qw4, .inl (cI, 8, .inl qft)), (qw5, .inl (cI, 3, .inl qfk)), (qw6, .inl (cI, 3, .inl qfa)), (qw7, .inl (cI, 3, .inl qfb))] := hD
  have hP := wx_P (k := 2) (f := (va_cpy qfo fo 0 0 8)) (g := qfo) hP hD rfl (fun j hj => zcp hj)
  have hD := wx_D (k := 2) (f := (va_cpy qfo fo 0 0 8)) (g := qfo) hD rfl
  have hP : va_P D kl [(h, .inr (3, [.int qvi, .int qro, .int qwa, .int qlz, .int qds, .int qdy, .int qga, .int qpa, .ref w0, .ref w1, .ref w2, .ref w3, .ref w4, .ref w5, .ref w6, .ref w7])), (w0, .inl (cI, 8, .inl qfw)), (w1, .inl (cI, 8, .inl qfo)), (w2, .inl (cI, 8, .inl fr)), (w3, .inl (cI, 8, .inl fn)), (w4, .inl (cI, 8, .inl ft)), (w5, .inl (cI, 3, .inl fk)), (w6, .inl (cI, 3, .inl fa)), (w7, .inl (cI, 3, .inl fb)), (h2, .inr (3, [.int qvi, .int qro, .int qwa, .int qlz, .int qds, .int qdy, .int qga, .int qpa, .ref qw0, .ref qw1, .ref qw2, .ref qw3, .ref qw4, .ref qw5, .ref qw6, .ref qw7])), (qw0, .inl (cI, 8, .inl qfw)), (qw1, .inl (cI, 8, .inl qfo)), (qw2, .inl (cI, 8, .inl qfr)), (qw3, .inl (cI, 8, .inl qfn)), (qw4, .inl (cI, 8, .inl qft)), (qw5, .inl (cI, 3, .inl qfk)), (qw6, .inl (cI, 3, .inl qfa)), (qw7, .inl (cI, 3, .inl qfb))] H := hP
  have hD : va_D A [(h, .inr (3, [.int qvi, .int qro, .int qwa, .int qlz, .int qds, .int qdy, .int qga, .int qpa, .ref w0, .ref w1, .ref w2, .ref w3, .ref w4, .ref w5, .ref w6, .ref w7])), (w0, .inl (cI, 8, .inl qfw)), (w1, .inl (cI, 8, .inl qfo)), (w2, .inl (cI, 8, .inl fr)), (w3, .inl (cI, 8, .inl fn)), (w4, .inl (cI, 8, .inl ft)), (w5, .inl (cI, 3, .inl fk)), (w6, .inl (cI, 3, .inl fa)), (w7, .inl (cI, 3, .inl fb)), (h2, .inr (3, [.int qvi, .int qro, .int qwa, .int qlz, .int qds, .int qdy, .int qga, .int qpa, .ref qw0, .ref qw1, .ref qw2, .ref qw3, .ref qw4, .ref qw5, .ref qw6, .ref qw7])), (qw0, .inl (cI, 8, .inl qfw)), (qw1, .inl (cI, 8, .inl qfo)), (qw2, .inl (cI, 8, .inl qfr)), (qw3, .inl (cI, 8, .inl qfn)), (qw4, .inl (cI, 8, .inl qft)), (qw5, .inl (cI, 3, .inl qfk)), (qw6, .inl (cI, 3, .inl qfa)), (qw7, .inl (cI, 3, .inl qfb))] := hD
  refine lv_aload_n hx hb dX4_becomeLike_94 rfl (lv_at hl 1 rfl) ?_
  refine va_get (D := D) (ci := 3) (v := .ref qw2) (C := RX4) (T := TX4) (N := 16) hx hb hts (fun _ h => List.mem_cons_of_mem _ (List.mem_append_right _ h)) hown hK hP 9 rfl rfl 10 (by decide) (hts (.fieldLink RX4 43 "WinterWalk$Land" "roads" "[I") (List.mem_of_getElem? (i := 15) rfl)) (fun _ h9 => h9) rfl dX4_becomeLike_95 ?_
  refine lv_iconst (v := 0) hx hb dX4_becomeLike_98 (by decide) ?_
  refine lv_aload_n hx hb dX4_becomeLike_99 rfl (lv_at hl 0 rfl) ?_
  refine va_get (D := D) (ci := 3) (v := .ref w2) (C := RX4) (T := TX4) (N := 16) hx hb hts (fun _ h => List.mem_cons_of_mem _ (List.mem_append_right _ h)) hown hK hP 0 rfl rfl 10 (by decide) (hts (.fieldLink RX4 43 "WinterWalk$Land" "roads" "[I") (List.mem_of_getElem? (i := 15) rfl)) (fun _ h9 => h9) rfl dX4_becomeLike_100 ?_
  refine lv_iconst (v := 0) hx hb dX4_becomeLike_103 (by decide) ?_
  refine lv_bipush (v := 8) hx hb dX4_becomeLike_104 (by decide) ?_
  refine va_copyi hx hb (hml.trans hl.1.symm) hown (hts (.methodLink RX4 70 arraycopyName) (List.mem_of_getElem? (i := 10) rfl)) (hts (.native arraycopyName) (List.mem_of_getElem? (i := 11) rfl)) (hts (.static arraycopyName) (List.mem_of_getElem? (i := 12) rfl)) (hts (.initialized "java/lang/System") (List.mem_of_getElem? (i := 13) rfl)) hK hP hD hS 12 3 0 0 rfl rfl rfl rfl rfl (by decide) (by decide) (by decide) (by decide) (by decide) (fun i hi => rfl) (Nat.le_of_ble_eq_true rfl) (Nat.le_of_ble_eq_true rfl) dX4_becomeLike_106 (fun H locs hP hD hS => ?_)
  have hP : va_P D kl [(h, .inr (3, [.int qvi, .int qro, .int qwa, .int qlz, .int qds, .int qdy, .int qga, .int qpa, .ref w0, .ref w1, .ref w2, .ref w3, .ref w4, .ref w5, .ref w6, .ref w7])), (w0, .inl (cI, 8, .inl qfw)), (w1, .inl (cI, 8, .inl qfo)), (w2, .inl (cI, 8, .inl (va_cpy qfr fr 0 0 8))), (w3, .inl (cI, 8, .inl fn)), (w4, .inl (cI, 8, .inl ft)), (w5, .inl (cI, 3, .inl fk)), (w6, .inl (cI, 3, .inl fa)), (w7, .inl (cI, 3, .inl fb)), (h2, .inr (3, [.int qvi, .int qro, .int qwa, .int qlz, .int qds, .int qdy, .int qga, .int qpa, .ref qw0, .ref qw1, .ref qw2, .ref qw3, .ref qw4, .ref qw5, .ref qw6, .ref qw7])), (qw0, .inl (cI, 8, .inl qfw)), (qw1, .inl (cI, 8, .inl qfo)), (qw2, .inl (cI, 8, .inl qfr)), (qw3, .inl (cI, 8, .inl qfn)), (qw4, .inl (cI, 8, .inl qft)), (qw5, .inl (cI, 3, .inl qfk)), (qw6, .inl (cI, 3, .inl qfa)), (qw7, .inl (cI, 3, .inl qfb))] H := hP
  have hD : va_D A [(h, .inr (3, [.int qvi, .int qro, .int qwa, .int qlz, .int qds, .int qdy, .int qga, .int qpa, .ref w0, .ref w1, .ref w2, .ref w3, .ref w4, .ref w5, .ref w6, .ref w7])), (w0, .inl (cI, 8, .inl qfw)), (w1, .inl (cI, 8, .inl qfo)), (w2, .inl (cI, 8, .inl (va_cpy qfr fr 0 0 8))), (w3, .inl (cI, 8, .inl fn)), (w4, .inl (cI, 8, .inl ft)), (w5, .inl (cI, 3, .inl fk)), (w6, .inl (cI, 3, .inl fa)), (w7, .inl (cI, 3, .inl fb)), (h2, .inr (3, [.int qvi, .int qro, .int qwa, .int qlz, .int qds, .int qdy, .int qga, .int qpa, .ref qw0, .ref qw1, .ref qw2, .ref qw3, .ref qw4, .ref qw5, .ref qw6, .ref qw7])), (qw0, .inl (cI, 8, .inl qfw)), (qw1, .inl (cI, 8, .inl qfo)), (qw2, .inl (cI, 8, .inl qfr)), (qw3, .inl (cI, 8, .inl qfn)), (qw4, .inl (cI, 8, .inl qft)), (qw5, .inl (cI, 3, .inl qfk)), (qw6, .inl (cI, 3, .inl qfa)), (qw7, .inl (cI, 3, .inl qfb))] := hD
  have hP := wx_P (k := 3) (f := (va_cpy qfr fr 0 0 8)) (g := qfr) hP hD rfl (fun j hj => zcp hj)
  have hD := wx_D (k := 3) (f := (va_cpy qfr fr 0 0 8)) (g := qfr) hD rfl
  have hP : va_P D kl [(h, .inr (3, [.int qvi, .int qro, .int qwa, .int qlz, .int qds, .int qdy, .int qga, .int qpa, .ref w0, .ref w1, .ref w2, .ref w3, .ref w4, .ref w5, .ref w6, .ref w7])), (w0, .inl (cI, 8, .inl qfw)), (w1, .inl (cI, 8, .inl qfo)), (w2, .inl (cI, 8, .inl qfr)), (w3, .inl (cI, 8, .inl fn)), (w4, .inl (cI, 8, .inl ft)), (w5, .inl (cI, 3, .inl fk)), (w6, .inl (cI, 3, .inl fa)), (w7, .inl (cI, 3, .inl fb)), (h2, .inr (3, [.int qvi, .int qro, .int qwa, .int qlz, .int qds, .int qdy, .int qga, .int qpa, .ref qw0, .ref qw1, .ref qw2, .ref qw3, .ref qw4, .ref qw5, .ref qw6, .ref qw7])), (qw0, .inl (cI, 8, .inl qfw)), (qw1, .inl (cI, 8, .inl qfo)), (qw2, .inl (cI, 8, .inl qfr)), (qw3, .inl (cI, 8, .inl qfn)), (qw4, .inl (cI, 8, .inl qft)), (qw5, .inl (cI, 3, .inl qfk)), (qw6, .inl (cI, 3, .inl qfa)), (qw7, .inl (cI, 3, .inl qfb))] H := hP
  have hD : va_D A [(h, .inr (3, [.int qvi, .int qro, .int qwa, .int qlz, .int qds, .int qdy, .int qga, .int qpa, .ref w0, .ref w1, .ref w2, .ref w3, .ref w4, .ref w5, .ref w6, .ref w7])), (w0, .inl (cI, 8, .inl qfw)), (w1, .inl (cI, 8, .inl qfo)), (w2, .inl (cI, 8, .inl qfr)), (w3, .inl (cI, 8, .inl fn)), (w4, .inl (cI, 8, .inl ft)), (w5, .inl (cI, 3, .inl fk)), (w6, .inl (cI, 3, .inl fa)), (w7, .inl (cI, 3, .inl fb)), (h2, .inr (3, [.int qvi, .int qro, .int qwa, .int qlz, .int qds, .int qdy, .int qga, .int qpa, .ref qw0, .ref qw1, .ref qw2, .ref qw3, .ref qw4, .ref qw5, .ref qw6, .ref qw7])), (qw0, .inl (cI, 8, .inl qfw)), (qw1, .inl (cI, 8, .inl qfo)), (qw2, .inl (cI, 8, .inl qfr)), (qw3, .inl (cI, 8, .inl qfn)), (qw4, .inl (cI, 8, .inl qft)), (qw5, .inl (cI, 3, .inl qfk)), (qw6, .inl (cI, 3, .inl qfa)), (qw7, .inl (cI, 3, .inl qfb))] := hD
  refine lv_aload_n hx hb dX4_becomeLike_109 rfl (lv_at hl 1 rfl) ?_
  refine va_get (D := D) (ci := 3) (v := .ref qw3) (C := RX4) (T := TX4) (N := 16) hx hb hts (fun _ h => List.mem_cons_of_mem _ (List.mem_append_right _ h)) hown hK hP 9 rfl rfl 11 (by decide) (hts (.fieldLink RX4 46 "WinterWalk$Land" "nightsIn" "[I") (List.mem_of_getElem? (i := 16) rfl)) (fun _ h9 => h9) rfl dX4_becomeLike_110 ?_
  refine lv_iconst (v := 0) hx hb dX4_becomeLike_113 (by decide) ?_
  refine lv_aload_n hx hb dX4_becomeLike_114 rfl (lv_at hl 0 rfl) ?_
  refine va_get (D := D) (ci := 3) (v := .ref w3) (C := RX4) (T := TX4) (N := 16) hx hb hts (fun _ h => List.mem_cons_of_mem _ (List.mem_append_right _ h)) hown hK hP 0 rfl rfl 11 (by decide) (hts (.fieldLink RX4 46 "WinterWalk$Land" "nightsIn" "[I") (List.mem_of_getElem? (i := 16) rfl)) (fun _ h9 => h9) rfl dX4_becomeLike_115 ?_
  refine lv_iconst (v := 0) hx hb dX4_becomeLike_118 (by decide) ?_
  refine lv_bipush (v := 8) hx hb dX4_becomeLike_119 (by decide) ?_
  refine va_copyi hx hb (hml.trans hl.1.symm) hown (hts (.methodLink RX4 70 arraycopyName) (List.mem_of_getElem? (i := 10) rfl)) (hts (.native arraycopyName) (List.mem_of_getElem? (i := 11) rfl)) (hts (.static arraycopyName) (List.mem_of_getElem? (i := 12) rfl)) (hts (.initialized "java/lang/System") (List.mem_of_getElem? (i := 13) rfl)) hK hP hD hS 13 4 0 0 rfl rfl rfl rfl rfl (by decide) (by decide) (by decide) (by decide) (by decide) (fun i hi => rfl) (Nat.le_of_ble_eq_true rfl) (Nat.le_of_ble_eq_true rfl) dX4_becomeLike_121 (fun H locs hP hD hS => ?_)
  have hP : va_P D kl [(h, .inr (3, [.int qvi, .int qro, .int qwa, .int qlz, .int qds, .int qdy, .int qga, .int qpa, .ref w0, .ref w1, .ref w2, .ref w3, .ref w4, .ref w5, .ref w6, .ref w7])), (w0, .inl (cI, 8, .inl qfw)), (w1, .inl (cI, 8, .inl qfo)), (w2, .inl (cI, 8, .inl qfr)), (w3, .inl (cI, 8, .inl (va_cpy qfn fn 0 0 8))), (w4, .inl (cI, 8, .inl ft)), (w5, .inl (cI, 3, .inl fk)), (w6, .inl (cI, 3, .inl fa)), (w7, .inl (cI, 3, .inl fb)), (h2, .inr (3, [.int qvi, .int qro, .int qwa, .int qlz, .int qds, .int qdy, .int qga, .int qpa, .ref qw0, .ref qw1, .ref qw2, .ref qw3, .ref qw4, .ref qw5, .ref qw6, .ref qw7])), (qw0, .inl (cI, 8, .inl qfw)), (qw1, .inl (cI, 8, .inl qfo)), (qw2, .inl (cI, 8, .inl qfr)), (qw3, .inl (cI, 8, .inl qfn)), (qw4, .inl (cI, 8, .inl qft)), (qw5, .inl (cI, 3, .inl qfk)), (qw6, .inl (cI, 3, .inl qfa)), (qw7, .inl (cI, 3, .inl qfb))] H := hP
  have hD : va_D A [(h, .inr (3, [.int qvi, .int qro, .int qwa, .int qlz, .int qds, .int qdy, .int qga, .int qpa, .ref w0, .ref w1, .ref w2, .ref w3, .ref w4, .ref w5, .ref w6, .ref w7])), (w0, .inl (cI, 8, .inl qfw)), (w1, .inl (cI, 8, .inl qfo)), (w2, .inl (cI, 8, .inl qfr)), (w3, .inl (cI, 8, .inl (va_cpy qfn fn 0 0 8))), (w4, .inl (cI, 8, .inl ft)), (w5, .inl (cI, 3, .inl fk)), (w6, .inl (cI, 3, .inl fa)), (w7, .inl (cI, 3, .inl fb)), (h2, .inr (3, [.int qvi, .int qro, .int qwa, .int qlz, .int qds, .int qdy, .int qga, .int qpa, .ref qw0, .ref qw1, .ref qw2, .ref qw3, .ref qw4, .ref qw5, .ref qw6, .ref qw7])), (qw0, .inl (cI, 8, .inl qfw)), (qw1, .inl (cI, 8, .inl qfo)), (qw2, .inl (cI, 8, .inl qfr)), (qw3, .inl (cI, 8, .inl qfn)), (qw4, .inl (cI, 8, .inl qft)), (qw5, .inl (cI, 3, .inl qfk)), (qw6, .inl (cI, 3, .inl qfa)), (qw7, .inl (cI, 3, .inl qfb))] := hD
  have hP := wx_P (k := 4) (f := (va_cpy qfn fn 0 0 8)) (g := qfn) hP hD rfl (fun j hj => zcp hj)
  have hD := wx_D (k := 4) (f := (va_cpy qfn fn 0 0 8)) (g := qfn) hD rfl
  have hP : va_P D kl [(h, .inr (3, [.int qvi, .int qro, .int qwa, .int qlz, .int qds, .int qdy, .int qga, .int qpa, .ref w0, .ref w1, .ref w2, .ref w3, .ref w4, .ref w5, .ref w6, .ref w7])), (w0, .inl (cI, 8, .inl qfw)), (w1, .inl (cI, 8, .inl qfo)), (w2, .inl (cI, 8, .inl qfr)), (w3, .inl (cI, 8, .inl qfn)), (w4, .inl (cI, 8, .inl ft)), (w5, .inl (cI, 3, .inl fk)), (w6, .inl (cI, 3, .inl fa)), (w7, .inl (cI, 3, .inl fb)), (h2, .inr (3, [.int qvi, .int qro, .int qwa, .int qlz, .int qds, .int qdy, .int qga, .int qpa, .ref qw0, .ref qw1, .ref qw2, .ref qw3, .ref qw4, .ref qw5, .ref qw6, .ref qw7])), (qw0, .inl (cI, 8, .inl qfw)), (qw1, .inl (cI, 8, .inl qfo)), (qw2, .inl (cI, 8, .inl qfr)), (qw3, .inl (cI, 8, .inl qfn)), (qw4, .inl (cI, 8, .inl qft)), (qw5, .inl (cI, 3, .inl qfk)), (qw6, .inl (cI, 3, .inl qfa)), (qw7, .inl (cI, 3, .inl qfb))] H := hP
  have hD : va_D A [(h, .inr (3, [.int qvi, .int qro, .int qwa, .int qlz, .int qds, .int qdy, .int qga, .int qpa, .ref w0, .ref w1, .ref w2, .ref w3, .ref w4, .ref w5, .ref w6, .ref w7])), (w0, .inl (cI, 8, .inl qfw)), (w1, .inl (cI, 8, .inl qfo)), (w2, .inl (cI, 8, .inl qfr)), (w3, .inl (cI, 8, .inl qfn)), (w4, .inl (cI, 8, .inl ft)), (w5, .inl (cI, 3, .inl fk)), (w6, .inl (cI, 3, .inl fa)), (w7, .inl (cI, 3, .inl fb)), (h2, .inr (3, [.int qvi, .int qro, .int qwa, .int qlz, .int qds, .int qdy, .int qga, .int qpa, .ref qw0, .ref qw1, .ref qw2, .ref qw3, .ref qw4, .ref qw5, .ref qw6, .ref qw7])), (qw0, .inl (cI, 8, .inl qfw)), (qw1, .inl (cI, 8, .inl qfo)), (qw2, .inl (cI, 8, .inl qfr)), (qw3, .inl (cI, 8, .inl qfn)), (qw4, .inl (cI, 8, .inl qft)), (qw5, .inl (cI, 3, .inl qfk)), (qw6, .inl (cI, 3, .inl qfa)), (qw7, .inl (cI, 3, .inl qfb))] := hD
  refine lv_aload_n hx hb dX4_becomeLike_124 rfl (lv_at hl 1 rfl) ?_
  refine va_get (D := D) (ci := 3) (v := .ref qw4) (C := RX4) (T := TX4) (N := 16) hx hb hts (fun _ h => List.mem_cons_of_mem _ (List.mem_append_right _ h)) hown hK hP 9 rfl rfl 12 (by decide) (hts (.fieldLink RX4 49 "WinterWalk$Land" "thaws" "[I") (List.mem_of_getElem? (i := 17) rfl)) (fun _ h9 => h9) rfl dX4_becomeLike_125 ?_
  refine lv_iconst (v := 0) hx hb dX4_becomeLike_128 (by decide) ?_
  refine lv_aload_n hx hb dX4_becomeLike_129 rfl (lv_at hl 0 rfl) ?_
  refine va_get (D := D) (ci := 3) (v := .ref w4) (C := RX4) (T := TX4) (N := 16) hx hb hts (fun _ h => List.mem_cons_of_mem _ (List.mem_append_right _ h)) hown hK hP 0 rfl rfl 12 (by decide) (hts (.fieldLink RX4 49 "WinterWalk$Land" "thaws" "[I") (List.mem_of_getElem? (i := 17) rfl)) (fun _ h9 => h9) rfl dX4_becomeLike_130 ?_
  refine lv_iconst (v := 0) hx hb dX4_becomeLike_133 (by decide) ?_
  refine lv_bipush (v := 8) hx hb dX4_becomeLike_134 (by decide) ?_
  refine va_copyi hx hb (hml.trans hl.1.symm) hown (hts (.methodLink RX4 70 arraycopyName) (List.mem_of_getElem? (i := 10) rfl)) (hts (.native arraycopyName) (List.mem_of_getElem? (i := 11) rfl)) (hts (.static arraycopyName) (List.mem_of_getElem? (i := 12) rfl)) (hts (.initialized "java/lang/System") (List.mem_of_getElem? (i := 13) rfl)) hK hP hD hS 14 5 0 0 rfl rfl rfl rfl rfl (by decide) (by decide) (by decide) (by decide) (by decide) (fun i hi => rfl) (Nat.le_of_ble_eq_true rfl) (Nat.le_of_ble_eq_true rfl) dX4_becomeLike_136 (fun H locs hP hD hS => ?_)
  have hP : va_P D kl [(h, .inr (3, [.int qvi, .int qro, .int qwa, .int qlz, .int qds, .int qdy, .int qga, .int qpa, .ref w0, .ref w1, .ref w2, .ref w3, .ref w4, .ref w5, .ref w6, .ref w7])), (w0, .inl (cI, 8, .inl qfw)), (w1, .inl (cI, 8, .inl qfo)), (w2, .inl (cI, 8, .inl qfr)), (w3, .inl (cI, 8, .inl qfn)), (w4, .inl (cI, 8, .inl (va_cpy qft ft 0 0 8))), (w5, .inl (cI, 3, .inl fk)), (w6, .inl (cI, 3, .inl fa)), (w7, .inl (cI, 3, .inl fb)), (h2, .inr (3, [.int qvi, .int qro, .int qwa, .int qlz, .int qds, .int qdy, .int qga, .int qpa, .ref qw0, .ref qw1, .ref qw2, .ref qw3, .ref qw4, .ref qw5, .ref qw6, .ref qw7])), (qw0, .inl (cI, 8, .inl qfw)), (qw1, .inl (cI, 8, .inl qfo)), (qw2, .inl (cI, 8, .inl qfr)), (qw3, .inl (cI, 8, .inl qfn)), (qw4, .inl (cI, 8, .inl qft)), (qw5, .inl (cI, 3, .inl qfk)), (qw6, .inl (cI, 3, .inl qfa)), (qw7, .inl (cI, 3, .inl qfb))] H := hP
  have hD : va_D A [(h, .inr (3, [.int qvi, .int qro, .int qwa, .int qlz, .int qds, .int qdy, .int qga, .int qpa, .ref w0, .ref w1, .ref w2, .ref w3, .ref w4, .ref w5, .ref w6, .ref w7])), (w0, .inl (cI, 8, .inl qfw)), (w1, .inl (cI, 8, .inl qfo)), (w2, .inl (cI, 8, .inl qfr)), (w3, .inl (cI, 8, .inl qfn)), (w4, .inl (cI, 8, .inl (va_cpy qft ft 0 0 8))), (w5, .inl (cI, 3, .inl fk)), (w6, .inl (cI, 3, .inl fa)), (w7, .inl (cI, 3, .inl fb)), (h2, .inr (3, [.int qvi, .int qro, .int qwa, .int qlz, .int qds, .int qdy, .int qga, .int qpa, .ref qw0, .ref qw1, .ref qw2, .ref qw3, .ref qw4, .ref qw5, .ref qw6, .ref qw7])), (qw0, .inl (cI, 8, .inl qfw)), (qw1, .inl (cI, 8, .inl qfo)), (qw2, .inl (cI, 8, .inl qfr)), (qw3, .inl (cI, 8, .inl qfn)), (qw4, .inl (cI, 8, .inl qft)), (qw5, .inl (cI, 3, .inl qfk)), (qw6, .inl (cI, 3, .inl qfa)), (qw7, .inl (cI, 3, .inl qfb))] := hD
  have hP := wx_P (k := 5) (f := (va_cpy qft ft 0 0 8)) (g := qft) hP hD rfl (fun j hj => zcp hj)
  have hD := wx_D (k := 5) (f := (va_cpy qft ft 0 0 8)) (g := qft) hD rfl
  have hP : va_P D kl [(h, .inr (3, [.int qvi, .int qro, .int qwa, .int qlz, .int qds, .int qdy, .int qga, .int qpa, .ref w0, .ref w1, .ref w2, .ref w3, .ref w4, .ref w5, .ref w6, .ref w7])), (w0, .inl (cI, 8, .inl qfw)), (w1, .inl (cI, 8, .inl qfo)), (w2, .inl (cI, 8, .inl qfr)), (w3, .inl (cI, 8, .inl qfn)), (w4, .inl (cI, 8, .inl qft)), (w5, .inl (cI, 3, .inl fk)), (w6, .inl (cI, 3, .inl fa)), (w7, .inl (cI, 3, .inl fb)), (h2, .inr (3, [.int qvi, .int qro, .int qwa, .int qlz, .int qds, .int qdy, .int qga, .int qpa, .ref qw0, .ref qw1, .ref qw2, .ref qw3, .ref qw4, .ref qw5, .ref qw6, .ref qw7])), (qw0, .inl (cI, 8, .inl qfw)), (qw1, .inl (cI, 8, .inl qfo)), (qw2, .inl (cI, 8, .inl qfr)), (qw3, .inl (cI, 8, .inl qfn)), (qw4, .inl (cI, 8, .inl qft)), (qw5, .inl (cI, 3, .inl qfk)), (qw6, .inl (cI, 3, .inl qfa)), (qw7, .inl (cI, 3, .inl qfb))] H := hP
  have hD : va_D A [(h, .inr (3, [.int qvi, .int qro, .int qwa, .int qlz, .int qds, .int qdy, .int qga, .int qpa, .ref w0, .ref w1, .ref w2, .ref w3, .ref w4, .ref w5, .ref w6, .ref w7])), (w0, .inl (cI, 8, .inl qfw)), (w1, .inl (cI, 8, .inl qfo)), (w2, .inl (cI, 8, .inl qfr)), (w3, .inl (cI, 8, .inl qfn)), (w4, .inl (cI, 8, .inl qft)), (w5, .inl (cI, 3, .inl fk)), (w6, .inl (cI, 3, .inl fa)), (w7, .inl (cI, 3, .inl fb)), (h2, .inr (3, [.int qvi, .int qro, .int qwa, .int qlz, .int qds, .int qdy, .int qga, .int qpa, .ref qw0, .ref qw1, .ref qw2, .ref qw3, .ref qw4, .ref qw5, .ref qw6, .ref qw7])), (qw0, .inl (cI, 8, .inl qfw)), (qw1, .inl (cI, 8, .inl qfo)), (qw2, .inl (cI, 8, .inl qfr)), (qw3, .inl (cI, 8, .inl qfn)), (qw4, .inl (cI, 8, .inl qft)), (qw5, .inl (cI, 3, .inl qfk)), (qw6, .inl (cI, 3, .inl qfa)), (qw7, .inl (cI, 3, .inl qfb))] := hD
  refine lv_aload_n hx hb dX4_becomeLike_139 rfl (lv_at hl 1 rfl) ?_
  refine va_get (D := D) (ci := 3) (v := .ref qw5) (C := RX4) (T := TX4) (N := 16) hx hb hts (fun _ h => List.mem_cons_of_mem _ (List.mem_append_right _ h)) hown hK hP 9 rfl rfl 13 (by decide) (hts (.fieldLink RX4 52 "WinterWalk$Land" "kinds" "[I") (List.mem_of_getElem? (i := 18) rfl)) (fun _ h9 => h9) rfl dX4_becomeLike_140 ?_
  refine lv_iconst (v := 0) hx hb dX4_becomeLike_143 (by decide) ?_
  refine lv_aload_n hx hb dX4_becomeLike_144 rfl (lv_at hl 0 rfl) ?_
  refine va_get (D := D) (ci := 3) (v := .ref w5) (C := RX4) (T := TX4) (N := 16) hx hb hts (fun _ h => List.mem_cons_of_mem _ (List.mem_append_right _ h)) hown hK hP 0 rfl rfl 13 (by decide) (hts (.fieldLink RX4 52 "WinterWalk$Land" "kinds" "[I") (List.mem_of_getElem? (i := 18) rfl)) (fun _ h9 => h9) rfl dX4_becomeLike_145 ?_
  refine lv_iconst (v := 0) hx hb dX4_becomeLike_148 (by decide) ?_
  refine lv_iconst (v := 3) hx hb dX4_becomeLike_149 (by decide) ?_
  refine va_copyi hx hb (hml.trans hl.1.symm) hown (hts (.methodLink RX4 70 arraycopyName) (List.mem_of_getElem? (i := 10) rfl)) (hts (.native arraycopyName) (List.mem_of_getElem? (i := 11) rfl)) (hts (.static arraycopyName) (List.mem_of_getElem? (i := 12) rfl)) (hts (.initialized "java/lang/System") (List.mem_of_getElem? (i := 13) rfl)) hK hP hD hS 15 6 0 0 rfl rfl rfl rfl rfl (by decide) (by decide) (by decide) (by decide) (by decide) (fun i hi => rfl) (Nat.le_of_ble_eq_true rfl) (Nat.le_of_ble_eq_true rfl) dX4_becomeLike_150 (fun H locs hP hD hS => ?_)
  have hP : va_P D kl [(h, .inr (3, [.int qvi, .int qro, .int qwa, .int qlz, .int qds, .int qdy, .int qga, .int qpa, .ref w0, .ref w1, .ref w2, .ref w3, .ref w4, .ref w5, .ref w6, .ref w7])), (w0, .inl (cI, 8, .inl qfw)), (w1, .inl (cI, 8, .inl qfo)), (w2, .inl (cI, 8, .inl qfr)), (w3, .inl (cI, 8, .inl qfn)), (w4, .inl (cI, 8, .inl qft)), (w5, .inl (cI, 3, .inl (va_cpy qfk fk 0 0 3))), (w6, .inl (cI, 3, .inl fa)), (w7, .inl (cI, 3, .inl fb)), (h2, .inr (3, [.int qvi, .int qro, .int qwa, .int qlz, .int qds, .int qdy, .int qga, .int qpa, .ref qw0, .ref qw1, .ref qw2, .ref qw3, .ref qw4, .ref qw5, .ref qw6, .ref qw7])), (qw0, .inl (cI, 8, .inl qfw)), (qw1, .inl (cI, 8, .inl qfo)), (qw2, .inl (cI, 8, .inl qfr)), (qw3, .inl (cI, 8, .inl qfn)), (qw4, .inl (cI, 8, .inl qft)), (qw5, .inl (cI, 3, .inl qfk)), (qw6, .inl (cI, 3, .inl qfa)), (qw7, .inl (cI, 3, .inl qfb))] H := hP
  have hD : va_D A [(h, .inr (3, [.int qvi, .int qro, .int qwa, .int qlz, .int qds, .int qdy, .int qga, .int qpa, .ref w0, .ref w1, .ref w2, .ref w3, .ref w4, .ref w5, .ref w6, .ref w7])), (w0, .inl (cI, 8, .inl qfw)), (w1, .inl (cI, 8, .inl qfo)), (w2, .inl (cI, 8, .inl qfr)), (w3, .inl (cI, 8, .inl qfn)), (w4, .inl (cI, 8, .inl qft)), (w5, .inl (cI, 3, .inl (va_cpy qfk fk 0 0 3))), (w6, .inl (cI, 3, .inl fa)), (w7, .inl (cI, 3, .inl fb)), (h2, .inr (3, [.int qvi, .int qro, .int qwa, .int qlz, .int qds, .int qdy, .int qga, .int qpa, .ref qw0, .ref qw1, .ref qw2, .ref qw3, .ref qw4, .ref qw5, .ref qw6, .ref qw7])), (qw0, .inl (cI, 8, .inl qfw)), (qw1, .inl (cI, 8, .inl qfo)), (qw2, .inl (cI, 8, .inl qfr)), (qw3, .inl (cI, 8, .inl qfn)), (qw4, .inl (cI, 8, .inl qft)), (qw5, .inl (cI, 3, .inl qfk)), (qw6, .inl (cI, 3, .inl qfa)), (qw7, .inl (cI, 3, .inl qfb))] := hD
  have hP := wx_P (k := 6) (f := (va_cpy qfk fk 0 0 3)) (g := qfk) hP hD rfl (fun j hj => zcp hj)
  have hD := wx_D (k := 6) (f := (va_cpy qfk fk 0 0 3)) (g := qfk) hD rfl
  have hP : va_P D kl [(h, .inr (3, [.int qvi, .int qro, .int qwa, .int qlz, .int qds, .int qdy, .int qga, .int qpa, .ref w0, .ref w1, .ref w2, .ref w3, .ref w4, .ref w5, .ref w6, .ref w7])), (w0, .inl (cI, 8, .inl qfw)), (w1, .inl (cI, 8, .inl qfo)), (w2, .inl (cI, 8, .inl qfr)), (w3, .inl (cI, 8, .inl qfn)), (w4, .inl (cI, 8, .inl qft)), (w5, .inl (cI, 3, .inl qfk)), (w6, .inl (cI, 3, .inl fa)), (w7, .inl (cI, 3, .inl fb)), (h2, .inr (3, [.int qvi, .int qro, .int qwa, .int qlz, .int qds, .int qdy, .int qga, .int qpa, .ref qw0, .ref qw1, .ref qw2, .ref qw3, .ref qw4, .ref qw5, .ref qw6, .ref qw7])), (qw0, .inl (cI, 8, .inl qfw)), (qw1, .inl (cI, 8, .inl qfo)), (qw2, .inl (cI, 8, .inl qfr)), (qw3, .inl (cI, 8, .inl qfn)), (qw4, .inl (cI, 8, .inl qft)), (qw5, .inl (cI, 3, .inl qfk)), (qw6, .inl (cI, 3, .inl qfa)), (qw7, .inl (cI, 3, .inl qfb))] H := hP
  have hD : va_D A [(h, .inr (3, [.int qvi, .int qro, .int qwa, .int qlz, .int qds, .int qdy, .int qga, .int qpa, .ref w0, .ref w1, .ref w2, .ref w3, .ref w4, .ref w5, .ref w6, .ref w7])), (w0, .inl (cI, 8, .inl qfw)), (w1, .inl (cI, 8, .inl qfo)), (w2, .inl (cI, 8, .inl qfr)), (w3, .inl (cI, 8, .inl qfn)), (w4, .inl (cI, 8, .inl qft)), (w5, .inl (cI, 3, .inl qfk)), (w6, .inl (cI, 3, .inl fa)), (w7, .inl (cI, 3, .inl fb)), (h2, .inr (3, [.int qvi, .int qro, .int qwa, .int qlz, .int qds, .int qdy, .int qga, .int qpa, .ref qw0, .ref qw1, .ref qw2, .ref qw3, .ref qw4, .ref qw5, .ref qw6, .ref qw7])), (qw0, .inl (cI, 8, .inl qfw)), (qw1, .inl (cI, 8, .inl qfo)), (qw2, .inl (cI, 8, .inl qfr)), (qw3, .inl (cI, 8, .inl qfn)), (qw4, .inl (cI, 8, .inl qft)), (qw5, .inl (cI, 3, .inl qfk)), (qw6, .inl (cI, 3, .inl qfa)), (qw7, .inl (cI, 3, .inl qfb))] := hD
  refine lv_aload_n hx hb dX4_becomeLike_153 rfl (lv_at hl 1 rfl) ?_
  refine va_get (D := D) (ci := 3) (v := .ref qw6) (C := RX4) (T := TX4) (N := 16) hx hb hts (fun _ h => List.mem_cons_of_mem _ (List.mem_append_right _ h)) hown hK hP 9 rfl rfl 14 (by decide) (hts (.fieldLink RX4 55 "WinterWalk$Land" "at" "[I") (List.mem_of_getElem? (i := 19) rfl)) (fun _ h9 => h9) rfl dX4_becomeLike_154 ?_
  refine lv_iconst (v := 0) hx hb dX4_becomeLike_157 (by decide) ?_
  refine lv_aload_n hx hb dX4_becomeLike_158 rfl (lv_at hl 0 rfl) ?_
  refine va_get (D := D) (ci := 3) (v := .ref w6) (C := RX4) (T := TX4) (N := 16) hx hb hts (fun _ h => List.mem_cons_of_mem _ (List.mem_append_right _ h)) hown hK hP 0 rfl rfl 14 (by decide) (hts (.fieldLink RX4 55 "WinterWalk$Land" "at" "[I") (List.mem_of_getElem? (i := 19) rfl)) (fun _ h9 => h9) rfl dX4_becomeLike_159 ?_
  refine lv_iconst (v := 0) hx hb dX4_becomeLike_162 (by decide) ?_
  refine lv_iconst (v := 3) hx hb dX4_becomeLike_163 (by decide) ?_
  refine va_copyi hx hb (hml.trans hl.1.symm) hown (hts (.methodLink RX4 70 arraycopyName) (List.mem_of_getElem? (i := 10) rfl)) (hts (.native arraycopyName) (List.mem_of_getElem? (i := 11) rfl)) (hts (.static arraycopyName) (List.mem_of_getElem? (i := 12) rfl)) (hts (.initialized "java/lang/System") (List.mem_of_getElem? (i := 13) rfl)) hK hP hD hS 16 7 0 0 rfl rfl rfl rfl rfl (by decide) (by decide) (by decide) (by decide) (by decide) (fun i hi => rfl) (Nat.le_of_ble_eq_true rfl) (Nat.le_of_ble_eq_true rfl) dX4_becomeLike_164 (fun H locs hP hD hS => ?_)
  have hP : va_P D kl [(h, .inr (3, [.int qvi, .int qro, .int qwa, .int qlz, .int qds, .int qdy, .int qga, .int qpa, .ref w0, .ref w1, .ref w2, .ref w3, .ref w4, .ref w5, .ref w6, .ref w7])), (w0, .inl (cI, 8, .inl qfw)), (w1, .inl (cI, 8, .inl qfo)), (w2, .inl (cI, 8, .inl qfr)), (w3, .inl (cI, 8, .inl qfn)), (w4, .inl (cI, 8, .inl qft)), (w5, .inl (cI, 3, .inl qfk)), (w6, .inl (cI, 3, .inl (va_cpy qfa fa 0 0 3))), (w7, .inl (cI, 3, .inl fb)), (h2, .inr (3, [.int qvi, .int qro, .int qwa, .int qlz, .int qds, .int qdy, .int qga, .int qpa, .ref qw0, .ref qw1, .ref qw2, .ref qw3, .ref qw4, .ref qw5, .ref qw6, .ref qw7])), (qw0, .inl (cI, 8, .inl qfw)), (qw1, .inl (cI, 8, .inl qfo)), (qw2, .inl (cI, 8, .inl qfr)), (qw3, .inl (cI, 8, .inl qfn)), (qw4, .inl (cI, 8, .inl qft)), (qw5, .inl (cI, 3, .inl qfk)), (qw6, .inl (cI, 3, .inl qfa)), (qw7, .inl (cI, 3, .inl qfb))] H := hP
  have hD : va_D A [(h, .inr (3, [.int qvi, .int qro, .int qwa, .int qlz, .int qds, .int qdy, .int qga, .int qpa, .ref w0, .ref w1, .ref w2, .ref w3, .ref w4, .ref w5, .ref w6, .ref w7])), (w0, .inl (cI, 8, .inl qfw)), (w1, .inl (cI, 8, .inl qfo)), (w2, .inl (cI, 8, .inl qfr)), (w3, .inl (cI, 8, .inl qfn)), (w4, .inl (cI, 8, .inl qft)), (w5, .inl (cI, 3, .inl qfk)), (w6, .inl (cI, 3, .inl (va_cpy qfa fa 0 0 3))), (w7, .inl (cI, 3, .inl fb)), (h2, .inr (3, [.int qvi, .int qro, .int qwa, .int qlz, .int qds, .int qdy, .int qga, .int qpa, .ref qw0, .ref qw1, .ref qw2, .ref qw3, .ref qw4, .ref qw5, .ref qw6, .ref qw7])), (qw0, .inl (cI, 8, .inl qfw)), (qw1, .inl (cI, 8, .inl qfo)), (qw2, .inl (cI, 8, .inl qfr)), (qw3, .inl (cI, 8, .inl qfn)), (qw4, .inl (cI, 8, .inl qft)), (qw5, .inl (cI, 3, .inl qfk)), (qw6, .inl (cI, 3, .inl qfa)), (qw7, .inl (cI, 3, .inl qfb))] := hD
  have hP := wx_P (k := 7) (f := (va_cpy qfa fa 0 0 3)) (g := qfa) hP hD rfl (fun j hj => zcp hj)
  have hD := wx_D (k := 7) (f := (va_cpy qfa fa 0 0 3)) (g := qfa) hD rfl
  have hP : va_P D kl [(h, .inr (3, [.int qvi, .int qro, .int qwa, .int qlz, .int qds, .int qdy, .int qga, .int qpa, .ref w0, .ref w1, .ref w2, .ref w3, .ref w4, .ref w5, .ref w6, .ref w7])), (w0, .inl (cI, 8, .inl qfw)), (w1, .inl (cI, 8, .inl qfo)), (w2, .inl (cI, 8, .inl qfr)), (w3, .inl (cI, 8, .inl qfn)), (w4, .inl (cI, 8, .inl qft)), (w5, .inl (cI, 3, .inl qfk)), (w6, .inl (cI, 3, .inl qfa)), (w7, .inl (cI, 3, .inl fb)), (h2, .inr (3, [.int qvi, .int qro, .int qwa, .int qlz, .int qds, .int qdy, .int qga, .int qpa, .ref qw0, .ref qw1, .ref qw2, .ref qw3, .ref qw4, .ref qw5, .ref qw6, .ref qw7])), (qw0, .inl (cI, 8, .inl qfw)), (qw1, .inl (cI, 8, .inl qfo)), (qw2, .inl (cI, 8, .inl qfr)), (qw3, .inl (cI, 8, .inl qfn)), (qw4, .inl (cI, 8, .inl qft)), (qw5, .inl (cI, 3, .inl qfk)), (qw6, .inl (cI, 3, .inl qfa)), (qw7, .inl (cI, 3, .inl qfb))] H := hP
  have hD : va_D A [(h, .inr (3, [.int qvi, .int qro, .int qwa, .int qlz, .int qds, .int qdy, .int qga, .int qpa, .ref w0, .ref w1, .ref w2, .ref w3, .ref w4, .ref w5, .ref w6, .ref w7])), (w0, .inl (cI, 8, .inl qfw)), (w1, .inl (cI, 8, .inl qfo)), (w2, .inl (cI, 8, .inl qfr)), (w3, .inl (cI, 8, .inl qfn)), (w4, .inl (cI, 8, .inl qft)), (w5, .inl (cI, 3, .inl qfk)), (w6, .inl (cI, 3, .inl qfa)), (w7, .inl (cI, 3, .inl fb)), (h2, .inr (3, [.int qvi, .int qro, .int qwa, .int qlz, .int qds, .int qdy, .int qga, .int qpa, .ref qw0, .ref qw1, .ref qw2, .ref qw3, .ref qw4, .ref qw5, .ref qw6, .ref qw7])), (qw0, .inl (cI, 8, .inl qfw)), (qw1, .inl (cI, 8, .inl qfo)), (qw2, .inl (cI, 8, .inl qfr)), (qw3, .inl (cI, 8, .inl qfn)), (qw4, .inl (cI, 8, .inl qft)), (qw5, .inl (cI, 3, .inl qfk)), (qw6, .inl (cI, 3, .inl qfa)), (qw7, .inl (cI, 3, .inl qfb))] := hD
  refine lv_aload_n hx hb dX4_becomeLike_167 rfl (lv_at hl 1 rfl) ?_
  refine va_get (D := D) (ci := 3) (v := .ref qw7) (C := RX4) (T := TX4) (N := 16) hx hb hts (fun _ h => List.mem_cons_of_mem _ (List.mem_append_right _ h)) hown hK hP 9 rfl rfl 15 (by decide) (hts (.fieldLink RX4 58 "WinterWalk$Land" "before" "[I") (List.mem_of_getElem? (i := 20) rfl)) (fun _ h9 => h9) rfl dX4_becomeLike_168 ?_
  refine lv_iconst (v := 0) hx hb dX4_becomeLike_171 (by decide) ?_
  refine lv_aload_n hx hb dX4_becomeLike_172 rfl (lv_at hl 0 rfl) ?_
  refine va_get (D := D) (ci := 3) (v := .ref w7) (C := RX4) (T := TX4) (N := 16) hx hb hts (fun _ h => List.mem_cons_of_mem _ (List.mem_append_right _ h)) hown hK hP 0 rfl rfl 15 (by decide) (hts (.fieldLink RX4 58 "WinterWalk$Land" "before" "[I") (List.mem_of_getElem? (i := 20) rfl)) (fun _ h9 => h9) rfl dX4_becomeLike_173 ?_
  refine lv_iconst (v := 0) hx hb dX4_becomeLike_176 (by decide) ?_
  refine lv_iconst (v := 3) hx hb dX4_becomeLike_177 (by decide) ?_
  refine va_copyi hx hb (hml.trans hl.1.symm) hown (hts (.methodLink RX4 70 arraycopyName) (List.mem_of_getElem? (i := 10) rfl)) (hts (.native arraycopyName) (List.mem_of_getElem? (i := 11) rfl)) (hts (.static arraycopyName) (List.mem_of_getElem? (i := 12) rfl)) (hts (.initialized "java/lang/System") (List.mem_of_getElem? (i := 13) rfl)) hK hP hD hS 17 8 0 0 rfl rfl rfl rfl rfl (by decide) (by decide) (by decide) (by decide) (by decide) (fun i hi => rfl) (Nat.le_of_ble_eq_true rfl) (Nat.le_of_ble_eq_true rfl) dX4_becomeLike_178 (fun H locs hP hD hS => ?_)
  have hP : va_P D kl [(h, .inr (3, [.int qvi, .int qro, .int qwa, .int qlz, .int qds, .int qdy, .int qga, .int qpa, .ref w0, .ref w1, .ref w2, .ref w3, .ref w4, .ref w5, .ref w6, .ref w7])), (w0, .inl (cI, 8, .inl qfw)), (w1, .inl (cI, 8, .inl qfo)), (w2, .inl (cI, 8, .inl qfr)), (w3, .inl (cI, 8, .inl qfn)), (w4, .inl (cI, 8, .inl qft)), (w5, .inl (cI, 3, .inl qfk)), (w6, .inl (cI, 3, .inl qfa)), (w7, .inl (cI, 3, .inl (va_cpy qfb fb 0 0 3))), (h2, .inr (3, [.int qvi, .int qro, .int qwa, .int qlz, .int qds, .int qdy, .int qga, .int qpa, .ref qw0, .ref qw1, .ref qw2, .ref qw3, .ref qw4, .ref qw5, .ref qw6, .ref qw7])), (qw0, .inl (cI, 8, .inl qfw)), (qw1, .inl (cI, 8, .inl qfo)), (qw2, .inl (cI, 8, .inl qfr)), (qw3, .inl (cI, 8, .inl qfn)), (qw4, .inl (cI, 8, .inl qft)), (qw5, .inl (cI, 3, .inl qfk)), (qw6, .inl (cI, 3, .inl qfa)), (qw7, .inl (cI, 3, .inl qfb))] H := hP
  have hD : va_D A [(h, .inr (3, [.int qvi, .int qro, .int qwa, .int qlz, .int qds, .int qdy, .int qga, .int qpa, .ref w0, .ref w1, .ref w2, .ref w3, .ref w4, .ref w5, .ref w6, .ref w7])), (w0, .inl (cI, 8, .inl qfw)), (w1, .inl (cI, 8, .inl qfo)), (w2, .inl (cI, 8, .inl qfr)), (w3, .inl (cI, 8, .inl qfn)), (w4, .inl (cI, 8, .inl qft)), (w5, .inl (cI, 3, .inl qfk)), (w6, .inl (cI, 3, .inl qfa)), (w7, .inl (cI, 3, .inl (va_cpy qfb fb 0 0 3))), (h2, .inr (3, [.int qvi, .int qro, .int qwa, .int qlz, .int qds, .int qdy, .int qga, .int qpa, .ref qw0, .ref qw1, .ref qw2, .ref qw3, .ref qw4, .ref qw5, .ref qw6, .ref qw7])), (qw0, .inl (cI, 8, .inl qfw)), (qw1, .inl (cI, 8, .inl qfo)), (qw2, .inl (cI, 8, .inl qfr)), (qw3, .inl (cI, 8, .inl qfn)), (qw4, .inl (cI, 8, .inl qft)), (qw5, .inl (cI, 3, .inl qfk)), (qw6, .inl (cI, 3, .inl qfa)), (qw7, .inl (cI, 3, .inl qfb))] := hD
  have hP := wx_P (k := 8) (f := (va_cpy qfb fb 0 0 3)) (g := qfb) hP hD rfl (fun j hj => zcp hj)
  have hD := wx_D (k := 8) (f := (va_cpy qfb fb 0 0 3)) (g := qfb) hD rfl
  have hP : va_P D kl [(h, .inr (3, [.int qvi, .int qro, .int qwa, .int qlz, .int qds, .int qdy, .int qga, .int qpa, .ref w0, .ref w1, .ref w2, .ref w3, .ref w4, .ref w5, .ref w6, .ref w7])), (w0, .inl (cI, 8, .inl qfw)), (w1, .inl (cI, 8, .inl qfo)), (w2, .inl (cI, 8, .inl qfr)), (w3, .inl (cI, 8, .inl qfn)), (w4, .inl (cI, 8, .inl qft)), (w5, .inl (cI, 3, .inl qfk)), (w6, .inl (cI, 3, .inl qfa)), (w7, .inl (cI, 3, .inl qfb)), (h2, .inr (3, [.int qvi, .int qro, .int qwa, .int qlz, .int qds, .int qdy, .int qga, .int qpa, .ref qw0, .ref qw1, .ref qw2, .ref qw3, .ref qw4, .ref qw5, .ref qw6, .ref qw7])), (qw0, .inl (cI, 8, .inl qfw)), (qw1, .inl (cI, 8, .inl qfo)), (qw2, .inl (cI, 8, .inl qfr)), (qw3, .inl (cI, 8, .inl qfn)), (qw4, .inl (cI, 8, .inl qft)), (qw5, .inl (cI, 3, .inl qfk)), (qw6, .inl (cI, 3, .inl qfa)), (qw7, .inl (cI, 3, .inl qfb))] H := hP
  have hD : va_D A [(h, .inr (3, [.int qvi, .int qro, .int qwa, .int qlz, .int qds, .int qdy, .int qga, .int qpa, .ref w0, .ref w1, .ref w2, .ref w3, .ref w4, .ref w5, .ref w6, .ref w7])), (w0, .inl (cI, 8, .inl qfw)), (w1, .inl (cI, 8, .inl qfo)), (w2, .inl (cI, 8, .inl qfr)), (w3, .inl (cI, 8, .inl qfn)), (w4, .inl (cI, 8, .inl qft)), (w5, .inl (cI, 3, .inl qfk)), (w6, .inl (cI, 3, .inl qfa)), (w7, .inl (cI, 3, .inl qfb)), (h2, .inr (3, [.int qvi, .int qro, .int qwa, .int qlz, .int qds, .int qdy, .int qga, .int qpa, .ref qw0, .ref qw1, .ref qw2, .ref qw3, .ref qw4, .ref qw5, .ref qw6, .ref qw7])), (qw0, .inl (cI, 8, .inl qfw)), (qw1, .inl (cI, 8, .inl qfo)), (qw2, .inl (cI, 8, .inl qfr)), (qw3, .inl (cI, 8, .inl qfn)), (qw4, .inl (cI, 8, .inl qft)), (qw5, .inl (cI, 3, .inl qfk)), (qw6, .inl (cI, 3, .inl qfa)), (qw7, .inl (cI, 3, .inl qfb))] := hD
  exact wr_v hx hb hr hlocks hS (qvi, qro, qwa, qlz, qds, qdy, qga, qpa, qfw, qfo, qfr, qfn, qft, qfk, qfa, qfb) (by exact ⟨show 0 ≤ (qvi : Int32).toInt ∧ (qvi : Int32).toInt ≤ 8 from by omega, show 0 ≤ (qwa : Int32).toInt ∧ (qwa : Int32).toInt ≤ 3 from by omega, qha⟩) (hP.sub [0, 1, 2, 3, 4, 5, 6, 7, 8, 9, 10, 11, 12, 13, 14, 15, 16, 17] rfl) (hD.sub [0, 1, 2, 3, 4, 5, 6, 7, 8, 9, 10, 11, 12, 13, 14, 15, 16, 17] (by decide) rfl) dX4_becomeLike_181
