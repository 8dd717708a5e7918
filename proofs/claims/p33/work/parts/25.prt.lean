set_option maxHeartbeats 4000000 in
set_option maxRecDepth 100000 in
theorem p_X6_kindOfLetter (l : Launch) (D : va_G) (cI cB cQ : ClassId) (sz : Nat) (k : Int32) : mi l yX6_kindOfLetter wsX6_kindOfLetter ({ frames := 0, cells := 0, slots := 0, locals := 0 }) D cI cB cQ [.int k] sz [] (fun (r : Int32) (_u : Unit) => (r.toInt = tpo k.toInt ∧ (r.toInt = 0 ∨ 0 ≤ k.toInt))) (fun _ => []) 0 0 := by
  refine wm_i (cc := cX6_kindOfLetter) (maxL := 1) (ret := (some .int)) (by decide) rfl (Nat.le_of_ble_eq_true rfl) ?_
  intro p e s m below meth c A ls hx hb hr hml hown hts hlocks hin hP hK hD hN hA hl hS
  have hown : s.vm.findClass RX6 = some m.cls := hown
  have hl : lv_has ls 1 [(0, .int k)] := hl
  change W p l e ({ frames := 0, cells := 0, slots := 0, locals := 0 }) s m ([.int k] : List Value).toArray below meth c s.heap [] 0 0 (MQ below (va_Qi (fun (r : Int32) (_u : Unit) => (r.toInt = tpo k.toInt ∧ (r.toInt = 0 ∨ 0 ≤ k.toInt))) (fun u t => wb D A ((fun _ => []) u) t) A) ([.int k] : List Value).toArray s 0 0 A) (F0 m 0 ls [])
  have hto := tpo_c k.toInt
  refine lv_iload_n hx hb dX6_kindOfLetter_0 rfl (lv_at hl 0 rfl) ?_
  by_cases g_2 : k.toInt = 101
  · refine lv_lookup (off := 59) (tgt := 60) hx hb dX6_kindOfLetter_1 (by decide) (by rw [g_2]; rfl) (by decide) ?_
    refine lv_iconst (v := 5) hx hb dX6_kindOfLetter_60 (by decide) ?_
    exact wr_i (v := 5) hx hb hr hlocks hS () (by exact show 5 = tpo k.toInt ∧ (5 = 0 ∨ 0 ≤ k.toInt) from by omega) (hP.sub [] rfl) (hD.sub [] (by decide) rfl) dX6_kindOfLetter_61
  by_cases g_3 : k.toInt = 108
  · refine lv_lookup (off := 55) (tgt := 56) hx hb dX6_kindOfLetter_1 (by decide) (by rw [g_3]; rfl) (by decide) ?_
    refine lv_iconst (v := 3) hx hb dX6_kindOfLetter_56 (by decide) ?_
    exact wr_i (v := 3) hx hb hr hlocks hS () (by exact show 3 = tpo k.toInt ∧ (3 = 0 ∨ 0 ≤ k.toInt) from by omega) (hP.sub [] rfl) (hD.sub [] (by decide) rfl) dX6_kindOfLetter_57
  by_cases g_4 : k.toInt = 111
  · refine lv_lookup (off := 51) (tgt := 52) hx hb dX6_kindOfLetter_1 (by decide) (by rw [g_4]; rfl) (by decide) ?_
    refine lv_iconst (v := 1) hx hb dX6_kindOfLetter_52 (by decide) ?_
    exact wr_i (v := 1) hx hb hr hlocks hS () (by exact show 1 = tpo k.toInt ∧ (1 = 0 ∨ 0 ≤ k.toInt) from by omega) (hP.sub [] rfl) (hD.sub [] (by decide) rfl) dX6_kindOfLetter_53
  by_cases g_5 : k.toInt = 115
  · refine lv_lookup (off := 53) (tgt := 54) hx hb dX6_kindOfLetter_1 (by decide) (by rw [g_5]; rfl) (by decide) ?_
    refine lv_iconst (v := 2) hx hb dX6_kindOfLetter_54 (by decide) ?_
    exact wr_i (v := 2) hx hb hr hlocks hS () (by exact show 2 = tpo k.toInt ∧ (2 = 0 ∨ 0 ≤ k.toInt) from by omega) (hP.sub [] rfl) (hD.sub [] (by decide) rfl) dX6_kindOfLetter_55
  by_cases g_6 : k.toInt = 116
  · refine lv_lookup (off := 57) (tgt := 58) hx hb dX6_kindOfLetter_1 (by decide) (by rw [g_6]; rfl) (by decide) ?_
    refine lv_iconst (v := 4) hx hb dX6_kindOfLetter_58 (by decide) ?_
    exact wr_i (v := 4) hx hb hr hlocks hS () (by exact show 4 = tpo k.toInt ∧ (4 = 0 ∨ 0 ≤ k.toInt) from by omega) (hP.sub [] rfl) (hD.sub [] (by decide) rfl) dX6_kindOfLetter_59
  refine lv_lookup (off := 61) (tgt := 62) hx hb dX6_kindOfLetter_1 (by decide) (by simp [Op.lookupswitch.offset, show ¬ (101 : Int) = k.toInt from fun z => g_2 z.symm, show ¬ (108 : Int) = k.toInt from fun z => g_3 z.symm, show ¬ (111 : Int) = k.toInt from fun z => g_4 z.symm, show ¬ (115 : Int) = k.toInt from fun z => g_5 z.symm, show ¬ (116 : Int) = k.toInt from fun z => g_6 z.symm]) (by decide) ?_
  refine lv_iconst (v := 0) hx hb dX6_kindOfLetter_62 (by decide) ?_
  exact wr_i (v := 0) hx hb hr hlocks hS () (by exact show 0 = tpo k.toInt ∧ (0 = 0 ∨ 0 ≤ k.toInt) from by omega) (hP.sub [] rfl) (hD.sub [] (by decide) rfl) dX6_kindOfLetter_63
set_option maxHeartbeats 4000000 in
set_option maxRecDepth 100000 in
theorem p_X6_readLaw (l : Launch) (D : va_G) (cI cB cQ : ClassId) (sz : Nat) (h : Nat) (tb : Nat) (dr : Nat) (dw0 : Nat) (dw1 : Nat) (dw2 : Nat) (dw3 : Nat) (dw4 : Nat) (dw5 : Nat) (dw6 : Nat) (dw7 : Nat) (le : Int32) (lf : Int32) (fp : Int32) (pl : Int32) (fy : Int32) (dvi : Int32) (dro : Int32) (dwa : Int32) (dlz : Int32) (dds : Int32) (ddy : Int32) (dga : Int32) (dpa : Int32) (tf : Nat → Int32) (h_le : 0 ≤ le.toInt ∧ le.toInt ≤ 120) (h_fp : 0 ≤ fp.toInt ∧ fp.toInt ≤ 120) (h_pl : 0 ≤ pl.toInt ∧ pl.toInt ≤ 120) : mv l yX6_readLaw wsX6_readLaw ({ frames := 3, cells := 0, slots := 0, locals := 70 }) D cI cB cQ [.ref h] sz [(h, .inr (5, [.ref tb, .ref dr, .int le, .int lf, .int fp, .int pl, .int fy])), (tb, .inl (cI, 120, .inl tf)), (dr, .inr (3, [.int dvi, .int dro, .int dwa, .int dlz, .int dds, .int ddy, .int dga, .int dpa, .ref dw0, .ref dw1, .ref dw2, .ref dw3, .ref dw4, .ref dw5, .ref dw6, .ref dw7]))] (fun (u : Int32 × Int32 × Int32 × Int32 × Int32) => (((u.2.2.2.1.toInt, u.1.toInt, u.2.1.toInt, u.2.2.1.toInt) : TPS) = tpLaw (tbc tf le.toInt) (fy.toInt, lf.toInt, fp.toInt, pl.toInt)) ∧ (0 ≤ u.2.1.toInt ∧ u.2.1.toInt ≤ 120) ∧ (0 ≤ u.2.2.1.toInt ∧ u.2.2.1.toInt ≤ 120)) (fun u => [(h, .inr (5, [.ref tb, .ref dr, .int le, .int u.1, .int u.2.1, .int u.2.2.1, .int u.2.2.2.1])), (tb, .inl (cI, 120, .inl tf)), (dr, .inr (3, [.int dvi, .int dro, .int dwa, .int u.2.2.2.2, .int dds, .int ddy, .int dga, .int dpa, .ref dw0, .ref dw1, .ref dw2, .ref dw3, .ref dw4, .ref dw5, .ref dw6, .ref dw7]))]) 0 0 := by
  refine wm_v (cc := cX6_readLaw) (maxL := 1) (ret := none) (by decide) rfl (Nat.le_of_ble_eq_true rfl) ?_
  intro p e s m below meth c A ls hx hb hr hml hown hts hlocks hin hP hK hD hN hA hl hS
  have hown : s.vm.findClass RX6 = some m.cls := hown
  have hl : lv_has ls 1 [(0, .ref h)] := hl
  change W p l e ({ frames := 3, cells := 0, slots := 0, locals := 70 }) s m ([.ref h] : List Value).toArray below meth c s.heap [] 0 0 (MQ below (va_Qv (fun (u : Int32 × Int32 × Int32 × Int32 × Int32) => (((u.2.2.2.1.toInt, u.1.toInt, u.2.1.toInt, u.2.2.1.toInt) : TPS) = tpLaw (tbc tf le.toInt) (fy.toInt, lf.toInt, fp.toInt, pl.toInt)) ∧ (0 ≤ u.2.1.toInt ∧ u.2.1.toInt ≤ 120) ∧ (0 ≤ u.2.2.1.toInt ∧ u.2.2.1.toInt ≤ 120)) (fun u t => wb D A ((fun u => [(h, .inr (5, [.ref tb, .ref dr, .int le, .int u.1, .int u.2.1, .int u.2.2.1, .int u.2.2.2.1])), (tb, .inl (cI, 120, .inl tf)), (dr, .inr (3, [.int dvi, .int dro, .int dwa, .int u.2.2.2.2, .int dds, .int ddy, .int dga, .int dpa, .ref dw0, .ref dw1, .ref dw2, .ref dw3, .ref dw4, .ref dw5, .ref dw6, .ref dw7]))]) u) t) A) ([.ref h] : List Value).toArray s 0 0 A) (F0 m 0 ls [])
  refine lv_aload_n hx hb dX6_readLaw_0 rfl (lv_at hl 0 rfl) ?_
  refine lv_bipush (v := 102) hx hb dX6_readLaw_1 (by decide) ?_
  have k_1 := (p_X6_takeSign l D cI cB cQ s.heap.size h tb dr le lf fp pl fy 102 tf (by omega) (by omega) (by omega) ⟨by decide, by decide⟩)
  refine wc_v (WC := [(h, .inr (5, [.ref tb, .ref dr, .int le, .int lf, .int fp, .int pl, .int fy])), (tb, .inl (cI, 120, .inl tf))]) (WR := [(dr, .inr (3, [.int dvi, .int dro, .int dwa, .int dlz, .int dds, .int ddy, .int dga, .int dpa, .ref dw0, .ref dw1, .ref dw2, .ref dw3, .ref dw4, .ref dw5, .ref dw6, .ref dw7]))]) (va_runV (As := [.int 102]) (rest := []) ⟨hx, hb, hml, hown, hts⟩ k_1 (cwV 1 hts gX6_readLaw_X6_takeSign rfl rfl rfl (by decide +kernel) ⟨Nat.le_of_ble_eq_true rfl, Nat.le_of_ble_eq_true rfl⟩) (wp_V hP hK hD hN [0, 1] (by decide) rfl (ci := 5) rfl rfl) rfl rfl hl.1 rfl (lv_room (Nat.le_of_ble_eq_true rfl)) dX6_readLaw_3 ⟨Nat.le_of_ble_eq_true rfl, Nat.le_of_ble_eq_true rfl⟩) hP hD hS hA [0, 1] [2] rfl rfl (by decide) (by decide) (pe4 (fun v1_0 v1_1 v1_2 v1_3 H locs hw_1 hP hD hS => ?_))
  clear k_1
  have hP : va_P D kl [(dr, .inr (3, [.int dvi, .int dro, .int dwa, .int dlz, .int dds, .int ddy, .int dga, .int dpa, .ref dw0, .ref dw1, .ref dw2, .ref dw3, .ref dw4, .ref dw5, .ref dw6, .ref dw7])), (h, .inr (5, [.ref tb, .ref dr, .int le, .int v1_0, .int v1_1, .int v1_2, .int v1_3])), (tb, .inl (cI, 120, .inl tf))] H := hP
  have hD : va_D A [(dr, .inr (3, [.int dvi, .int dro, .int dwa, .int dlz, .int dds, .int ddy, .int dga, .int dpa, .ref dw0, .ref dw1, .ref dw2, .ref dw3, .ref dw4, .ref dw5, .ref dw6, .ref dw7])), (h, .inr (5, [.ref tb, .ref dr, .int le, .int v1_0, .int v1_1, .int v1_2, .int v1_3])), (tb, .inl (cI, 120, .inl tf))] := hD
  obtain ⟨c1_0, c1_1, c1_2⟩ := hw_1
  have c1_0 : ((v1_3.toInt, v1_0.toInt, v1_1.toInt, v1_2.toInt) : TPS) = tS (tbc tf le.toInt) (102 : Int) (fy.toInt, lf.toInt, fp.toInt, pl.toInt) := c1_0
  have c1_1 : 0 ≤ v1_1.toInt ∧ v1_1.toInt ≤ 120 := c1_1
  have c1_2 : 0 ≤ v1_2.toInt ∧ v1_2.toInt ≤ 120 := c1_2
  refine lv_aload_n hx hb dX6_readLaw_6 rfl (lv_at hl 0 rfl) ?_
  refine va_get (D := D) (ci := 5) (v := .ref dr) (C := RX6) (T := TX6) (N := 7) hx hb hts (fun _ h => List.mem_cons_of_mem _ (List.mem_append_left _ (List.mem_append_right _ h))) hown hK hP 1 rfl rfl 1 (by decide) (hts (.fieldLink RX6 18 "WinterWalk$Tape" "draft" "LWinterWalk$Land;") (List.mem_of_getElem? (i := 1) rfl)) (fun _ h9 => h9) rfl dX6_readLaw_7 ?_
  refine lv_aload_n hx hb dX6_readLaw_10 rfl (lv_at hl 0 rfl) ?_
  refine lv_iconst (v := 1) hx hb dX6_readLaw_11 (by decide) ?_
  refine lv_bipush (v := 9) hx hb dX6_readLaw_12 (by decide) ?_
  have k_2 := (p_X6_takeNumber l D cI cB cQ H.size h tb dr le v1_0 v1_1 v1_2 v1_3 1 9 tf (by omega) (by omega) (by omega))
  refine wc_i (WC := [(h, .inr (5, [.ref tb, .ref dr, .int le, .int v1_0, .int v1_1, .int v1_2, .int v1_3])), (tb, .inl (cI, 120, .inl tf))]) (WR := [(dr, .inr (3, [.int dvi, .int dro, .int dwa, .int dlz, .int dds, .int ddy, .int dga, .int dpa, .ref dw0, .ref dw1, .ref dw2, .ref dw3, .ref dw4, .ref dw5, .ref dw6, .ref dw7]))]) (va_runV (As := [.int 1, .int 9]) (rest := [.ref dr]) ⟨hx, hb, hml, hown, hts⟩ k_2 (cwV 2 hts gX6_readLaw_X6_takeNumber rfl rfl rfl (by decide +kernel) ⟨Nat.le_of_ble_eq_true rfl, Nat.le_of_ble_eq_true rfl⟩) (wp_V hP hK hD hN [1, 2] (by decide) rfl (ci := 5) rfl rfl) rfl rfl hl.1 rfl (lv_room (Nat.le_of_ble_eq_true rfl)) dX6_readLaw_14 ⟨Nat.le_of_ble_eq_true rfl, Nat.le_of_ble_eq_true rfl⟩) hP hD hS hA [1, 2] [0] rfl rfl (by decide) (by decide) (fun r_2 => pe4 (fun v2_0 v2_1 v2_2 v2_3 H locs hw_2 hP hD hS => ?_))
  clear k_2
  have hP : va_P D kl [(dr, .inr (3, [.int dvi, .int dro, .int dwa, .int dlz, .int dds, .int ddy, .int dga, .int dpa, .ref dw0, .ref dw1, .ref dw2, .ref dw3, .ref dw4, .ref dw5, .ref dw6, .ref dw7])), (h, .inr (5, [.ref tb, .ref dr, .int le, .int v2_0, .int v2_1, .int v2_2, .int v2_3])), (tb, .inl (cI, 120, .inl tf))] H := hP
  have hD : va_D A [(dr, .inr (3, [.int dvi, .int dro, .int dwa, .int dlz, .int dds, .int ddy, .int dga, .int dpa, .ref dw0, .ref dw1, .ref dw2, .ref dw3, .ref dw4, .ref dw5, .ref dw6, .ref dw7])), (h, .inr (5, [.ref tb, .ref dr, .int le, .int v2_0, .int v2_1, .int v2_2, .int v2_3])), (tb, .inl (cI, 120, .inl tf))] := hD
  obtain ⟨c2_0, c2_1, c2_2, c2_3, c2_4⟩ := hw_2
  have c2_0 : ((v2_3.toInt, v2_0.toInt, v2_1.toInt, v2_2.toInt) : TPS) = tN (tbc tf le.toInt) (1 : Int) (9 : Int) (v1_3.toInt, v1_0.toInt, v1_1.toInt, v1_2.toInt) := c2_0
  have c2_1 : r_2.toInt = tV (tbc tf le.toInt) (1 : Int) (9 : Int) (v1_3.toInt, v1_0.toInt, v1_1.toInt, v1_2.toInt) := c2_1
  have c2_2 : r_2.toInt = 0 ∨ ((1 : Int) ≤ r_2.toInt ∧ r_2.toInt ≤ (9 : Int)) := c2_2
  have c2_3 : 0 ≤ v2_1.toInt ∧ v2_1.toInt ≤ 120 := c2_3
  have c2_4 : 0 ≤ v2_2.toInt ∧ v2_2.toInt ≤ 120 := c2_4
  refine va_put (D := D) (ci := 3) (v := .int r_2) (ty := .int) (C := RX4) (T := TX4) (N := 16) hx hb hts (fun _ h => List.mem_cons_of_mem _ (List.mem_append_right _ h)) tyX4 tyX4_ok nmX4 hown hK hP hD hS 0 rfl rfl 3 (by decide) (hts (.fieldLink RX6 70 "WinterWalk$Land" "lasts" "I") (List.mem_of_getElem? (i := 2) rfl)) (fun _ h9 => h9) rfl (by decide +kernel) rfl rfl (Nat.le_of_ble_eq_true rfl) dX6_readLaw_17 (fun H locs hP hD hS => ?_)
  have hP : va_P D kl [(dr, .inr (3, [.int dvi, .int dro, .int dwa, .int r_2, .int dds, .int ddy, .int dga, .int dpa, .ref dw0, .ref dw1, .ref dw2, .ref dw3, .ref dw4, .ref dw5, .ref dw6, .ref dw7])), (h, .inr (5, [.ref tb, .ref dr, .int le, .int v2_0, .int v2_1, .int v2_2, .int v2_3])), (tb, .inl (cI, 120, .inl tf))] H := hP
  have hD : va_D A [(dr, .inr (3, [.int dvi, .int dro, .int dwa, .int r_2, .int dds, .int ddy, .int dga, .int dpa, .ref dw0, .ref dw1, .ref dw2, .ref dw3, .ref dw4, .ref dw5, .ref dw6, .ref dw7])), (h, .inr (5, [.ref tb, .ref dr, .int le, .int v2_0, .int v2_1, .int v2_2, .int v2_3])), (tb, .inl (cI, 120, .inl tf))] := hD
  refine lv_aload_n hx hb dX6_readLaw_20 rfl (lv_at hl 0 rfl) ?_
  refine lv_bipush (v := 59) hx hb dX6_readLaw_21 (by decide) ?_
  have k_3 := (p_X6_takeSign l D cI cB cQ H.size h tb dr le v2_0 v2_1 v2_2 v2_3 59 tf (by omega) (by omega) (by omega) ⟨by decide, by decide⟩)
  refine wc_v (WC := [(h, .inr (5, [.ref tb, .ref dr, .int le, .int v2_0, .int v2_1, .int v2_2, .int v2_3])), (tb, .inl (cI, 120, .inl tf))]) (WR := [(dr, .inr (3, [.int dvi, .int dro, .int dwa, .int r_2, .int dds, .int ddy, .int dga, .int dpa, .ref dw0, .ref dw1, .ref dw2, .ref dw3, .ref dw4, .ref dw5, .ref dw6, .ref dw7]))]) (va_runV (As := [.int 59]) (rest := []) ⟨hx, hb, hml, hown, hts⟩ k_3 (cwV 1 hts gX6_readLaw_X6_takeSign rfl rfl rfl (by decide +kernel) ⟨Nat.le_of_ble_eq_true rfl, Nat.le_of_ble_eq_true rfl⟩) (wp_V hP hK hD hN [1, 2] (by decide) rfl (ci := 5) rfl rfl) rfl rfl hl.1 rfl (lv_room (Nat.le_of_ble_eq_true rfl)) dX6_readLaw_23 ⟨Nat.le_of_ble_eq_true rfl, Nat.le_of_ble_eq_true rfl⟩) hP hD hS hA [1, 2] [0] rfl rfl (by decide) (by decide) (pe4 (fun v3_0 v3_1 v3_2 v3_3 H locs hw_3 hP hD hS => ?_))
  clear k_3
  have hP : va_P D kl [(dr, .inr (3, [.int dvi, .int dro, .int dwa, .int r_2, .int dds, .int ddy, .int dga, .int dpa, .ref dw0, .ref dw1, .ref dw2, .ref dw3, .ref dw4, .ref dw5, .ref dw6, .ref dw7])), (h, .inr (5, [.ref tb, .ref dr, .int le, .int v3_0, .int v3_1, .int v3_2, .int v3_3])), (tb, .inl (cI, 120, .inl tf))] H := hP
  have hD : va_D A [(dr, .inr (3, [.int dvi, .int dro, .int dwa, .int r_2, .int dds, .int ddy, .int dga, .int dpa, .ref dw0, .ref dw1, .ref dw2, .ref dw3, .ref dw4, .ref dw5, .ref dw6, .ref dw7])), (h, .inr (5, [.ref tb, .ref dr, .int le, .int v3_0, .int v3_1, .int v3_2, .int v3_3])), (tb, .inl (cI, 120, .inl tf))] := hD
  obtain ⟨c3_0, c3_1, c3_2⟩ := hw_3
  have c3_0 : ((v3_3.toInt, v3_0.toInt, v3_1.toInt, v3_2.toInt) : TPS) = tS (tbc tf le.toInt) (59 : Int) (v2_3.toInt, v2_0.toInt, v2_1.toInt, v2_2.toInt) := c3_0
  have c3_1 : 0 ≤ v3_1.toInt ∧ v3_1.toInt ≤ 120 := c3_1
  have c3_2 : 0 ≤ v3_2.toInt ∧ v3_2.toInt ≤ 120 := c3_2
  exact wr_v hx hb hr hlocks hS (v3_0, v3_1, v3_2, v3_3, r_2) (by exact ⟨show ((v3_3.toInt, v3_0.toInt, v3_1.toInt, v3_2.toInt) : TPS) = tpLaw (tbc tf le.toInt) (fy.toInt, lf.toInt, fp.toInt, pl.toInt) from by rw [c3_0, c2_0, c1_0]; rfl, show 0 ≤ (v3_1 : Int32).toInt ∧ (v3_1 : Int32).toInt ≤ 120 from by omega, show 0 ≤ (v3_2 : Int32).toInt ∧ (v3_2 : Int32).toInt ≤ 120 from by omega⟩) (hP.sub [1, 2, 0] rfl) (hD.sub [1, 2, 0] (by decide) rfl) dX6_readLaw_26
set_option maxHeartbeats 4000000 in
set_option maxRecDepth 100000 in
theorem p_X6_beginsVillage (l : Launch) (D : va_G) (cI cB cQ : ClassId) (sz : Nat) (h : Nat) (tb : Nat) (dr : Nat) (le : Int32) (lf : Int32) (fp : Int32) (pl : Int32) (fy : Int32) (tf : Nat → Int32) (h_le : 0 ≤ le.toInt ∧ le.toInt ≤ 120) (h_fp : 0 ≤ fp.toInt ∧ fp.toInt ≤ 120) (h_pl : 0 ≤ pl.toInt ∧ pl.toInt ≤ 120) : mi l yX6_beginsVillage wsX6_beginsVillage ({ frames := 2, cells := 0, slots := 0, locals := 41 }) D cI cB cQ [.ref h] sz [(h, .inr (5, [.ref tb, .ref dr, .int le, .int lf, .int fp, .int pl, .int fy])), (tb, .inl (cI, 120, .inl tf))] (fun (r : Int32) (_u : Unit) => ((r = 1 ∧ (fy.toInt = 0 ∧ (tbc tf le.toInt pl.toInt = 103 ∨ tbc tf le.toInt pl.toInt = 99)) ∧ pl.toInt < le.toInt) ∨ (r = 0 ∧ ¬ (fy.toInt = 0 ∧ (tbc tf le.toInt pl.toInt = 103 ∨ tbc tf le.toInt pl.toInt = 99))))) (fun _ => [(h, .inr (5, [.ref tb, .ref dr, .int le, .int lf, .int fp, .int pl, .int fy])), (tb, .inl (cI, 120, .inl tf))]) 0 0 := by
  refine wm_i (cc := cX6_beginsVillage) (maxL := 1) (ret := (some .boolean)) (by decide) rfl (Nat.le_of_ble_eq_true rfl) ?_
  intro p e s m below meth c A ls hx hb hr hml hown hts hlocks hin hP hK hD hN hA hl hS
  have hown : s.vm.findClass RX6 = some m.cls := hown
  have hl : lv_has ls 1 [(0, .ref h)] := hl
  change W p l e ({ frames := 2, cells := 0, slots := 0, locals := 41 }) s m ([.ref h] : List Value).toArray below meth c s.heap [] 0 0 (MQ below (va_Qi (fun (r : Int32) (_u : Unit) => ((r = 1 ∧ (fy.toInt = 0 ∧ (tbc tf le.toInt pl.toInt = 103 ∨ tbc tf le.toInt pl.toInt = 99)) ∧ pl.toInt < le.toInt) ∨ (r = 0 ∧ ¬ (fy.toInt = 0 ∧ (tbc tf le.toInt pl.toInt = 103 ∨ tbc tf le.toInt pl.toInt = 99))))) (fun u t => wb D A ((fun _ => [(h, .inr (5, [.ref tb, .ref dr, .int le, .int lf, .int fp, .int pl, .int fy])), (tb, .inl (cI, 120, .inl tf))]) u) t) A) ([.ref h] : List Value).toArray s 0 0 A) (F0 m 0 ls [])
  refine lv_aload_n hx hb dX6_beginsVillage_0 rfl (lv_at hl 0 rfl) ?_
  have k_1 := (p_X6_next l D cI cB cQ s.heap.size h tb dr le lf fp pl fy tf (by omega) (by omega) (by omega))
  refine wc_i (WC := [(h, .inr (5, [.ref tb, .ref dr, .int le, .int lf, .int fp, .int pl, .int fy])), (tb, .inl (cI, 120, .inl tf))]) (WR := []) (va_runV (As := []) (rest := []) ⟨hx, hb, hml, hown, hts⟩ k_1 (cwV 0 hts gX6_beginsVillage_X6_next rfl rfl rfl (by decide +kernel) ⟨Nat.le_of_ble_eq_true rfl, Nat.le_of_ble_eq_true rfl⟩) (wp_V hP hK hD hN [0, 1] (by decide) rfl (ci := 5) rfl rfl) rfl rfl hl.1 rfl (lv_room (Nat.le_of_ble_eq_true rfl)) dX6_beginsVillage_1 ⟨Nat.le_of_ble_eq_true rfl, Nat.le_of_ble_eq_true rfl⟩) hP hD hS hA [0, 1] [] rfl rfl (by decide) (by decide) (fun r_1 u_1 H locs hw_1 hP hD hS => ?_)
  clear k_1
  have hP : va_P D kl [(h, .inr (5, [.ref tb, .ref dr, .int le, .int lf, .int fp, .int pl, .int fy])), (tb, .inl (cI, 120, .inl tf))] H := hP
  have hD : va_D A [(h, .inr (5, [.ref tb, .ref dr, .int le, .int lf, .int fp, .int pl, .int fy])), (tb, .inl (cI, 120, .inl tf))] := hD
  have c1_0 := hw_1
  have c1_0 : ((¬ fy.toInt = 0 ∧ r_1.toInt = (-1)) ∨ (fy.toInt = 0 ∧ (r_1.toInt = tbc tf le.toInt pl.toInt ∨ (128 ≤ r_1.toInt ∧ tbc tf le.toInt pl.toInt = (-1))))) ∧ (r_1.toInt = (-1) ∨ pl.toInt < le.toInt) := c1_0
  refine lv_bipush (v := 103) hx hb dX6_beginsVillage_4 (by decide) ?_
  refine lv_icmp_eq (tgt := 18) hx hb dX6_beginsVillage_6 (by decide) (fun c_2 => ?_) (fun c_2 => ?_)
  · have f_2 : r_1.toInt = 103 := zi_eq c_2
    refine lv_iconst (v := 1) hx hb dX6_beginsVillage_18 (by decide) ?_
    refine lv_goto (tgt := 23) hx hb dX6_beginsVillage_19 (by decide) ?_
    exact wr_z (v := 1) hx hb hr hlocks hS () (by exact Or.inl ⟨rfl, show (fy.toInt = 0 ∧ (tbc tf le.toInt pl.toInt = 103 ∨ tbc tf le.toInt pl.toInt = 99)) ∧ pl.toInt < le.toInt from by omega⟩) (hP.sub [0, 1] rfl) (hD.sub [0, 1] (by decide) rfl) dX6_beginsVillage_23 rfl
  · have f_2 : ¬ r_1.toInt = 103 := zi_ne c_2
    refine lv_aload_n hx hb dX6_beginsVillage_9 rfl (lv_at hl 0 rfl) ?_
    have k_3 := (p_X6_next l D cI cB cQ H.size h tb dr le lf fp pl fy tf (by omega) (by omega) (by omega))
    refine wc_i (WC := [(h, .inr (5, [.ref tb, .ref dr, .int le, .int lf, .int fp, .int pl, .int fy])), (tb, .inl (cI, 120, .inl tf))]) (WR := []) (va_runV (As := []) (rest := []) ⟨hx, hb, hml, hown, hts⟩ k_3 (cwV 0 hts gX6_beginsVillage_X6_next rfl rfl rfl (by decide +kernel) ⟨Nat.le_of_ble_eq_true rfl, Nat.le_of_ble_eq_true rfl⟩) (wp_V hP hK hD hN [0, 1] (by decide) rfl (ci := 5) rfl rfl) rfl rfl hl.1 rfl (lv_room (Nat.le_of_ble_eq_true rfl)) dX6_beginsVillage_10 ⟨Nat.le_of_ble_eq_true rfl, Nat.le_of_ble_eq_true rfl⟩) hP hD hS hA [0, 1] [] rfl rfl (by decide) (by decide) (fun r_3 u_3 H locs hw_3 hP hD hS => ?_)
    clear k_3
    have hP : va_P D kl [(h, .inr (5, [.ref tb, .ref dr, .int le, .int lf, .int fp, .int pl, .int fy])), (tb, .inl (cI, 120, .inl tf))] H := hP
    have hD : va_D A [(h, .inr (5, [.ref tb, .ref dr, .int le, .int lf, .int fp, .int pl, .int fy])), (tb, .inl (cI, 120, .inl tf))] := hD
    have c3_0 := hw_3
    have c3_0 : ((¬ fy.toInt = 0 ∧ r_3.toInt = (-1)) ∨ (fy.toInt = 0 ∧ (r_3.toInt = tbc tf le.toInt pl.toInt ∨ (128 ≤ r_3.toInt ∧ tbc tf le.toInt pl.toInt = (-1))))) ∧ (r_3.toInt = (-1) ∨ pl.toInt < le.toInt) := c3_0
    refine lv_bipush (v := 99) hx hb dX6_beginsVillage_13 (by decide) ?_
    refine lv_icmp_ne (tgt := 22) hx hb dX6_beginsVillage_15 (by decide) (fun c_4 => ?_) (fun c_4 => ?_)
    · have f_4 : ¬ r_3.toInt = 99 := zi_ne c_4
      refine lv_iconst (v := 0) hx hb dX6_beginsVillage_22 (by decide) ?_
      exact wr_z (v := 0) hx hb hr hlocks hS () (by exact Or.inr (⟨rfl, show ¬ (fy.toInt = 0 ∧ (tbc tf le.toInt pl.toInt = 103 ∨ tbc tf le.toInt pl.toInt = 99)) from by omega⟩)) (hP.sub [0, 1] rfl) (hD.sub [0, 1] (by decide) rfl) dX6_beginsVillage_23 rfl
    · have f_4 : r_3.toInt = 99 := zi_eq c_4
      refine lv_iconst (v := 1) hx hb dX6_beginsVillage_18 (by decide) ?_
      refine lv_goto (tgt := 23) hx hb dX6_beginsVillage_19 (by decide) ?_
      exact wr_z (v := 1) hx hb hr hlocks hS () (by exact Or.inl ⟨rfl, show (fy.toInt = 0 ∧ (tbc tf le.toInt pl.toInt = 103 ∨ tbc tf le.toInt pl.toInt = 99)) ∧ pl.toInt < le.toInt from by omega⟩) (hP.sub [0, 1] rfl) (hD.sub [0, 1] (by decide) rfl) dX6_beginsVillage_23 rfl
set_option maxHeartbeats 4000000 in
set_option maxRecDepth 100000 in
theorem p_X4_isIn (l : Launch) (D : va_G) (cI cB cQ : ClassId) (sz : Nat) (bs : Int32) (v : Int32) : mi l yX4_isIn wsX4_isIn ({ frames := 0, cells := 0, slots := 0, locals := 0 }) D cI cB cQ [.int bs, .int v] sz [] (fun (r : Int32) (_u : Unit) => ((r = 1 ∧ tbi bs v.toInt = 1) ∨ (r = 0 ∧ tbi bs v.toInt = 0))) (fun _ => []) 0 0 := by
  refine wm_i (cc := cX4_isIn) (maxL := 2) (ret := (some .boolean)) (by decide) rfl (Nat.le_of_ble_eq_true rfl) ?_
  intro p e s m below meth c A ls hx hb hr hml hown hts hlocks hin hP hK hD hN hA hl hS
  have hown : s.vm.findClass RX4 = some m.cls := hown
  have hl : lv_has ls 2 [(0, .int bs), (1, .int v)] := hl
  change W p l e ({ frames := 0, cells := 0, slots := 0, locals := 0 }) s m ([.int bs, .int v] : List Value).toArray below meth c s.heap [] 0 0 (MQ below (va_Qi (fun (r : Int32) (_u : Unit) => ((r = 1 ∧ tbi bs v.toInt = 1) ∨ (r = 0 ∧ tbi bs v.toInt = 0))) (fun u t => wb D A ((fun _ => []) u) t) A) ([.int bs, .int v] : List Value).toArray s 0 0 A) (F0 m 0 ls [])
  refine lv_iload_n hx hb dX4_isIn_0 rfl (lv_at hl 0 rfl) ?_
  refine lv_iload_n hx hb dX4_isIn_1 rfl (lv_at hl 1 rfl) ?_
  refine lv_ishr hx hb dX4_isIn_2 ?_
  refine lv_topi (fun x_1 ex_1 => ?_)
  refine lv_iconst (v := 1) hx hb dX4_isIn_3 (by decide) ?_
  refine lv_iand hx hb dX4_isIn_4 ?_
  refine lv_topi (fun x_2 ex_2 => ?_)
  refine lv_if_eq (tgt := 12) hx hb dX4_isIn_5 (by decide) (fun c_3 => ?_) (fun c_3 => ?_)
  · have f_3 : x_2.toInt = 0 := zi_eq c_3
    refine lv_iconst (v := 0) hx hb dX4_isIn_12 (by decide) ?_
    exact wr_z (v := 0) hx hb hr hlocks hS () (by exact Or.inr (⟨rfl, show tbi bs v.toInt = 0 from tbi_0 ex_1 ex_2 f_3⟩)) (hP.sub [] rfl) (hD.sub [] (by decide) rfl) dX4_isIn_13 rfl
  · have f_3 : ¬ x_2.toInt = 0 := zi_ne c_3
    refine lv_iconst (v := 1) hx hb dX4_isIn_8 (by decide) ?_
    refine lv_goto (tgt := 13) hx hb dX4_isIn_9 (by decide) ?_
    exact wr_z (v := 1) hx hb hr hlocks hS () (by exact Or.inl ⟨rfl, show tbi bs v.toInt = 1 from tbi_1 ex_1 ex_2 f_3⟩) (hP.sub [] rfl) (hD.sub [] (by decide) rfl) dX4_isIn_13 rfl
set_option maxHeartbeats 4000000 in
set_option maxRecDepth 100000 in
theorem p_X4_addVillage (l : Launch) (D : va_G) (cI cB cQ : ClassId) (sz : Nat) (h : Nat) (w0 : Nat) (w1 : Nat) (w2 : Nat) (w3 : Nat) (w4 : Nat) (w5 : Nat) (w6 : Nat) (w7 : Nat) (vi : Int32) (ro : Int32) (wa : Int32) (lz : Int32) (ds : Int32) (dy : Int32) (ga : Int32) (pa : Int32) (a : Int32) (b : Int32) (fw : Nat → Int32) (fo : Nat → Int32) (fr : Nat → Int32) (fn : Nat → Int32) (ft : Nat → Int32) (fk : Nat → Int32) (fa : Nat → Int32) (fb : Nat → Int32) (ha : ∀ j, j < 3 → 0 ≤ (fa j).toInt ∧ (fa j).toInt ≤ 7) (h_vi : 0 ≤ vi.toInt ∧ vi.toInt ≤ 8) (h_wa : 0 ≤ wa.toInt ∧ wa.toInt ≤ 3) : mv l yX4_addVillage wsX4_addVillage ({ frames := 0, cells := 0, slots := 0, locals := 0 }) D cI cB cQ [.ref h, .int a, .int b] sz [(h, .inr (3, [.int vi, .int ro, .int wa, .int lz, .int ds, .int dy, .int ga, .int pa, .ref w0, .ref w1, .ref w2, .ref w3, .ref w4, .ref w5, .ref w6, .ref w7])), (w0, .inl (cI, 8, .inl fw)), (w1, .inl (cI, 8, .inl fo)), (w2, .inl (cI, 8, .inl fr)), (w3, .inl (cI, 8, .inl fn)), (w4, .inl (cI, 8, .inl ft)), (w5, .inl (cI, 3, .inl fk)), (w6, .inl (cI, 3, .inl fa)), (w7, .inl (cI, 3, .inl fb))] (fun (u : Int32 × (Nat → Int32) × (Nat → Int32)) => ((vi.toInt < 8 ∧ u.1.toInt = vi.toInt + 1) ∨ (¬ vi.toInt < 8 ∧ u.1.toInt = vi.toInt)) ∧ (0 ≤ u.1.toInt ∧ u.1.toInt ≤ 8)) (fun u => [(h, .inr (3, [.int u.1, .int ro, .int wa, .int lz, .int ds, .int dy, .int ga, .int pa, .ref w0, .ref w1, .ref w2, .ref w3, .ref w4, .ref w5, .ref w6, .ref w7])), (w0, .inl (cI, 8, .inl u.2.1)), (w1, .inl (cI, 8, .inl u.2.2)), (w2, .inl (cI, 8, .inl fr)), (w3, .inl (cI, 8, .inl fn)), (w4, .inl (cI, 8, .inl ft)), (w5, .inl (cI, 3, .inl fk)), (w6, .inl (cI, 3, .inl fa)), (w7, .inl (cI, 3, .inl fb))]) 0 0 := by
  refine wm_v (cc := cX4_addVillage) (maxL := 3) (ret := none) (by decide) rfl (Nat.le_of_ble_eq_true rfl) ?_
  intro p e s m below meth c A ls hx hb hr hml hown hts hlocks hin hP hK hD hN hA hl hS
  have hown : s.vm.findClass RX4 = some m.cls := hown
  have hl : lv_has ls 3 [(0, .ref h), (1, .int a), (2, .int b)] := hl
  change W p l e ({ frames := 0, cells := 0, slots := 0, locals := 0 }) s m ([.ref h, .int a, .int b] : List Value).toArray below meth c s.heap [] 0 0 (MQ below (va_Qv (fun (u : Int32 × (Nat → Int32) × (Nat → Int32)) => ((vi.toInt < 8 ∧ u.1.toInt = vi.toInt + 1) ∨ (¬ vi.toInt < 8 ∧ u.1.toInt = vi.toInt)) ∧ (0 ≤ u.1.toInt ∧ u.1.toInt ≤ 8)) (fun u t => wb D A ((fun u => [(h, .inr (3, [.int u.1, .int ro, .int wa, .int lz, .int ds, .int dy, .int ga, .int pa, .ref w0, .ref w1, .ref w2, .ref w3, .ref w4, .ref w5, .ref w6, .ref w7])), (w0, .inl (cI, 8, .inl u.2.1)), (w1, .inl (cI, 8, .inl u.2.2)), (w2, .inl (cI, 8, .inl fr)), (w3, .inl (cI, 8, .inl fn)), (w4, .inl (cI, 8, .inl ft)), (w5, .inl (cI, 3, .inl fk)), (w6, .inl (cI, 3, .inl fa)), (w7, .inl (cI, 3, .inl fb))]) u) t) A) ([.ref h, .int a, .int b] : List Value).toArray s 0 0 A) (F0 m 0 ls [])
  refine lv_aload_n hx hb dX4_addVillage_0 rfl (lv_at hl 0 rfl) ?_
  refine va_get (D := D) (ci := 3) (v := .int vi) (C := RX4) (T := TX4) (N := 16) hx hb hts (fun _ h => List.mem_cons_of_mem _ (List.mem_append_right _ h)) hown hK hP 0 rfl rfl 0 (by decide) (hts (.fieldLink RX4 9 "WinterWalk$Land" "villages" "I") (List.mem_of_getElem? (i := 1) rfl)) (fun _ h9 => h9) rfl dX4_addVillage_1 ?_
  refine lv_bipush (v := 8) hx hb dX4_addVillage_4 (by decide) ?_
  refine lv_icmp_ge (tgt := 39) hx hb dX4_addVillage_6 (by decide) (fun c_1 => ?_) (fun c_1 => ?_)
  · have f_1 : 8 ≤ vi.toInt := zi_le c_1
    exact wr_v hx hb hr hlocks hS (vi, fw, fo) (by exact ⟨show (vi.toInt < 8 ∧ vi.toInt = vi.toInt + 1) ∨ (¬ vi.toInt < 8 ∧ vi.toInt = vi.toInt) from by omega, show 0 ≤ (vi : Int32).toInt ∧ (vi : Int32).toInt ≤ 8 from by omega⟩) (hP.sub [0, 1, 2, 3, 4, 5, 6, 7, 8] rfl) (hD.sub [0, 1, 2, 3, 4, 5, 6, 7, 8] (by decide) rfl) dX4_addVillage_39
  · have f_1 : ¬ 8 ≤ vi.toInt := zi_nle c_1
    refine lv_aload_n hx hb dX4_addVillage_9 rfl (lv_at hl 0 rfl) ?_
    refine va_get (D := D) (ci := 3) (v := .ref w0) (C := RX4) (T := TX4) (N := 16) hx hb hts (fun _ h => List.mem_cons_of_mem _ (List.mem_append_right _ h)) hown hK hP 0 rfl rfl 8 (by decide) (hts (.fieldLink RX4 36 "WinterWalk$Land" "worth" "[I") (List.mem_of_getElem? (i := 2) rfl)) (fun _ h9 => h9) rfl dX4_addVillage_10 ?_
    refine lv_aload_n hx hb dX4_addVillage_13 rfl (lv_at hl 0 rfl) ?_
    refine va_get (D := D) (ci := 3) (v := .int vi) (C := RX4) (T := TX4) (N := 16) hx hb hts (fun _ h => List.mem_cons_of_mem _ (List.mem_append_right _ h)) hown hK hP 0 rfl rfl 0 (by decide) (hts (.fieldLink RX4 9 "WinterWalk$Land" "villages" "I") (List.mem_of_getElem? (i := 1) rfl)) (fun _ h9 => h9) rfl dX4_addVillage_14 ?_
    refine lv_iload_n hx hb dX4_addVillage_17 rfl (lv_at hl 1 rfl) ?_
    refine va_iast hx hb hK hP hD hS 1 0 rfl rfl (zi_in (by omega) (by omega)) dX4_addVillage_18 (fun H locs hP hD hS => ?_)
    have hP : va_P D kl [(h, .inr (3, [.int vi, .int ro, .int wa, .int lz, .int ds, .int dy, .int ga, .int pa, .ref w0, .ref w1, .ref w2, .ref w3, .ref w4, .ref w5, .ref w6, .ref w7])), (w0, .inl (cI, 8, .inl (upd fw (vi : Int32).toNatClampNeg a))), (w1, .inl (cI, 8, .inl fo)), (w2, .inl (cI, 8, .inl fr)), (w3, .inl (cI, 8, .inl fn)), (w4, .inl (cI, 8, .inl ft)), (w5, .inl (cI, 3, .inl fk)), (w6, .inl (cI, 3, .inl fa)), (w7, .inl (cI, 3, .inl fb))] H := hP
    have hD : va_D A [(h, .inr (3, [.int vi, .int ro, .int wa, .int lz, .int ds, .int dy, .int ga, .int pa, .ref w0, .ref w1, .ref w2, .ref w3, .ref w4, .ref w5, .ref w6, .ref w7])), (w0, .inl (cI, 8, .inl (upd fw (vi : Int32).toNatClampNeg a))), (w1, .inl (cI, 8, .inl fo)), (w2, .inl (cI, 8, .inl fr)), (w3, .inl (cI, 8, .inl fn)), (w4, .inl (cI, 8, .inl ft)), (w5, .inl (cI, 3, .inl fk)), (w6, .inl (cI, 3, .inl fa)), (w7, .inl (cI, 3, .inl fb))] := hD
    refine lv_aload_n hx hb dX4_addVillage_19 rfl (lv_at hl 0 rfl) ?_
    refine va_get (D := D) (ci := 3) (v := .ref w1) (C := RX4) (T := TX4) (N := 16) hx hb hts (fun _ h => List.mem_cons_of_mem _ (List.mem_append_right _ h)) hown hK hP 0 rfl rfl 9 (by decide) (hts (.fieldLink RX4 40 "WinterWalk$Land" "offers" "[I") (List.mem_of_getElem? (i := 3) rfl)) (fun _ h9 => h9) rfl dX4_addVillage_20 ?_
    refine lv_aload_n hx hb dX4_addVillage_23 rfl (lv_at hl 0 rfl) ?_
    refine va_get (D := D) (ci := 3) (v := .int vi) (C := RX4) (T := TX4) (N := 16) hx hb hts (fun _ h => List.mem_cons_of_mem _ (List.mem_append_right _ h)) hown hK hP 0 rfl rfl 0 (by decide) (hts (.fieldLink RX4 9 "WinterWalk$Land" "villages" "I") (List.mem_of_getElem? (i := 1) rfl)) (fun _ h9 => h9) rfl dX4_addVillage_24 ?_
    refine lv_iload_n hx hb dX4_addVillage_27 rfl (lv_at hl 2 rfl) ?_
    refine va_iast hx hb hK hP hD hS 2 0 rfl rfl (zi_in (by omega) (by omega)) dX4_addVillage_28 (fun H locs hP hD hS => ?_)
    have hP : va_P D kl [(h, .inr (3, [.int vi, .int ro, .int wa, .int lz, .int ds, .int dy, .int ga, .int pa, .ref w0, .ref w1, .ref w2, .ref w3, .ref w4, .ref w5, .ref w6, .ref w7])), (w0, .inl (cI, 8, .inl (upd fw (vi : Int32).toNatClampNeg a))), (w1, .inl (cI, 8, .inl (upd fo (vi : Int32).toNatClampNeg b))), (w2, .inl (cI, 8, .inl fr)), (w3, .inl (cI, 8, .inl fn)), (w4, .inl (cI, 8, .inl ft)), (w5, .inl (cI, 3, .inl fk)), (w6, .inl (cI, 3, .inl fa)), (w7, .inl (cI, 3, .inl fb))] H := hP
    have hD : va_D A [(h, .inr (3, [.int vi, .int ro, .int wa, .int lz, .int ds, .int dy, .int ga, .int pa, .ref w0, .ref w1, .ref w2, .ref w3, .ref w4, .ref w5, .ref w6, .ref w7])), (w0, .inl (cI, 8, .inl (upd fw (vi : Int32).toNatClampNeg a))), (w1, .inl (cI, 8, .inl (upd fo (vi : Int32).toNatClampNeg b))), (w2, .inl (cI, 8, .inl fr)), (w3, .inl (cI, 8, .inl fn)), (w4, .inl (cI, 8, .inl ft)), (w5, .inl (cI, 3, .inl fk)), (w6, .inl (cI, 3, .inl fa)), (w7, .inl (cI, 3, .inl fb))] := hD
    refine lv_aload_n hx hb dX4_addVillage_29 rfl (lv_at hl 0 rfl) ?_
    refine lv_dup hx hb dX4_addVillage_30 rfl ?_
    refine va_get (D := D) (ci := 3) (v := .int vi) (C := RX4) (T := TX4) (N := 16) hx hb hts (fun _ h => List.mem_cons_of_mem _ (List.mem_append_right _ h)) hown hK hP 0 rfl rfl 0 (by decide) (hts (.fieldLink RX4 9 "WinterWalk$Land" "villages" "I") (List.mem_of_getElem? (i := 1) rfl)) (fun _ h9 => h9) rfl dX4_addVillage_31 ?_
    refine lv_iconst (v := 1) hx hb dX4_addVillage_34 (by decide) ?_
    refine lv_iadd hx hb dX4_addVillage_35 ?_
    refine lv_topi (fun x_2 ex_2 => ?_)
    have e_2 : x_2.toInt = vi.toInt + 1 := by rw [ex_2]; exact zi_add (rfl) (by decide) (by omega) (by omega)
    clear ex_2
    refine va_put (D := D) (ci := 3) (v := .int x_2) (ty := .int) (C := RX4) (T := TX4) (N := 16) hx hb hts (fun _ h => List.mem_cons_of_mem _ (List.mem_append_right _ h)) tyX4 tyX4_ok nmX4 hown hK hP hD hS 0 rfl rfl 0 (by decide) (hts (.fieldLink RX4 9 "WinterWalk$Land" "villages" "I") (List.mem_of_getElem? (i := 1) rfl)) (fun _ h9 => h9) rfl (by decide +kernel) rfl rfl (Nat.le_of_ble_eq_true rfl) dX4_addVillage_36 (fun H locs hP hD hS => ?_)
    have hP : va_P D kl [(h, .inr (3, [.int x_2, .int ro, .int wa, .int lz, .int ds, .int dy, .int ga, .int pa, .ref w0, .ref w1, .ref w2, .ref w3, .ref w4, .ref w5, .ref w6, .ref w7])), (w0, .inl (cI, 8, .inl (upd fw (vi : Int32).toNatClampNeg a))), (w1, .inl (cI, 8, .inl (upd fo (vi : Int32).toNatClampNeg b))), (w2, .inl (cI, 8, .inl fr)), (w3, .inl (cI, 8, .inl fn)), (w4, .inl (cI, 8, .inl ft)), (w5, .inl (cI, 3, .inl fk)), (w6, .inl (cI, 3, .inl fa)), (w7, .inl (cI, 3, .inl fb))] H := hP
    have hD : va_D A [(h, .inr (3, [.int x_2, .int ro, .int wa, .int lz, .int ds, .int dy, .int ga, .int pa, .ref w0, .ref w1, .ref w2, .ref w3, .ref w4, .ref w5, .ref w6, .ref w7])), (w0, .inl (cI, 8, .inl (upd fw (vi : Int32).toNatClampNeg a))), (w1, .inl (cI, 8, .inl (upd fo (vi : Int32).toNatClampNeg b))), (w2, .inl (cI, 8, .inl fr)), (w3, .inl (cI, 8, .inl fn)), (w4, .inl (cI, 8, .inl ft)), (w5, .inl (cI, 3, .inl fk)), (w6, .inl (cI, 3, .inl fa)), (w7, .inl (cI, 3, .inl fb))] := hD
    exact wr_v hx hb hr hlocks hS (x_2, (upd fw (vi : Int32).toNatClampNeg a), (upd fo (vi : Int32).toNatClampNeg b)) (by exact ⟨show (vi.toInt < 8 ∧ x_2.toInt = vi.toInt + 1) ∨ (¬ vi.toInt < 8 ∧ x_2.toInt = vi.toInt) from by omega, show 0 ≤ (x_2 : Int32).toInt ∧ (x_2 : Int32).toInt ≤ 8 from by omega⟩) (hP.sub [0, 1, 2, 3, 4, 5, 6, 7, 8] rfl) (hD.sub [0, 1, 2, 3, 4, 5, 6, 7, 8] (by decide) rfl) dX4_addVillage_39
set_option maxHeartbeats 4000000 in
set_option maxRecDepth 100000 in
theorem p_X4_canJoin (l : Launch) (D : va_G) (cI cB cQ : ClassId) (sz : Nat) (h : Nat) (w0 : Nat) (w1 : Nat) (w2 : Nat) (w3 : Nat) (w4 : Nat) (w5 : Nat) (w6 : Nat) (w7 : Nat) (vi : Int32) (ro : Int32) (wa : Int32) (lz : Int32) (ds : Int32) (dy : Int32) (ga : Int32) (pa : Int32) (a : Int32) (b : Int32) (fr : Nat → Int32) (h_vi : 0 ≤ vi.toInt ∧ vi.toInt ≤ 8) (h_wa : 0 ≤ wa.toInt ∧ wa.toInt ≤ 3) : mi l yX4_canJoin wsX4_canJoin ({ frames := 1, cells := 0, slots := 0, locals := 21 }) D cI cB cQ [.ref h, .int a, .int b] sz [(h, .inr (3, [.int vi, .int ro, .int wa, .int lz, .int ds, .int dy, .int ga, .int pa, .ref w0, .ref w1, .ref w2, .ref w3, .ref w4, .ref w5, .ref w6, .ref w7])), (w2, .inl (cI, 8, .inl fr))] (fun (r : Int32) (_u : Unit) => ((r = 1 ∧ ((0 ≤ a.toInt ∧ a.toInt < vi.toInt) ∧ (0 ≤ b.toInt ∧ b.toInt < vi.toInt)) ∧ ¬ a.toInt = b.toInt ∧ tbi (fr a.toNatClampNeg) b.toInt = 0) ∨ (r = 0 ∧ ¬ (((0 ≤ a.toInt ∧ a.toInt < vi.toInt) ∧ (0 ≤ b.toInt ∧ b.toInt < vi.toInt)) ∧ ¬ a.toInt = b.toInt ∧ tbi (fr a.toNatClampNeg) b.toInt = 0)))) (fun _ => [(h, .inr (3, [.int vi, .int ro, .int wa, .int lz, .int ds, .int dy, .int ga, .int pa, .ref w0, .ref w1, .ref w2, .ref w3, .ref w4, .ref w5, .ref w6, .ref w7])), (w2, .inl (cI, 8, .inl fr))]) 0 0 := by
  refine wm_i (cc := cX4_canJoin) (maxL := 3) (ret := (some .boolean)) (by decide) rfl (Nat.le_of_ble_eq_true rfl) ?_
  intro p e s m below meth c A ls hx hb hr hml hown hts hlocks hin hP hK hD hN hA hl hS
  have hown : s.vm.findClass RX4 = some m.cls := hown
  have hl : lv_has ls 3 [(0, .ref h), (1, .int a), (2, .int b)] := hl
  change W p l e ({ frames := 1, cells := 0, slots := 0, locals := 21 }) s m ([.ref h, .int a, .int b] : List Value).toArray below meth c s.heap [] 0 0 (MQ below (va_Qi (fun (r : Int32) (_u : Unit) => ((r = 1 ∧ ((0 ≤ a.toInt ∧ a.toInt < vi.toInt) ∧ (0 ≤ b.toInt ∧ b.toInt < vi.toInt)) ∧ ¬ a.toInt = b.toInt ∧ tbi (fr a.toNatClampNeg) b.toInt = 0) ∨ (r = 0 ∧ ¬ (((0 ≤ a.toInt ∧ a.toInt < vi.toInt) ∧ (0 ≤ b.toInt ∧ b.toInt < vi.toInt)) ∧ ¬ a.toInt = b.toInt ∧ tbi (fr a.toNatClampNeg) b.toInt = 0)))) (fun u t => wb D A ((fun _ => [(h, .inr (3, [.int vi, .int ro, .int wa, .int lz, .int ds, .int dy, .int ga, .int pa, .ref w0, .ref w1, .ref w2, .ref w3, .ref w4, .ref w5, .ref w6, .ref w7])), (w2, .inl (cI, 8, .inl fr))]) u) t) A) ([.ref h, .int a, .int b] : List Value).toArray s 0 0 A) (F0 m 0 ls [])
  refine lv_aload_n hx hb dX4_canJoin_0 rfl (lv_at hl 0 rfl) ?_
  refine lv_iload_n hx hb dX4_canJoin_1 rfl (lv_at hl 1 rfl) ?_
  have k_1 := (g_X4_hasVillage l D cI cB cQ s.heap.size h w0 w1 w2 w3 w4 w5 w6 w7 vi ro wa lz ds dy ga pa a)
  refine wc_i (WC := [(h, .inr (3, [.int vi, .int ro, .int wa, .int lz, .int ds, .int dy, .int ga, .int pa, .ref w0, .ref w1, .ref w2, .ref w3, .ref w4, .ref w5, .ref w6, .ref w7]))]) (WR := [(w2, .inl (cI, 8, .inl fr))]) (va_runV (As := [.int a]) (rest := []) ⟨hx, hb, hml, hown, hts⟩ k_1 (cwV 1 hts gX4_canJoin_X4_hasVillage rfl rfl rfl (by decide +kernel) ⟨Nat.le_of_ble_eq_true rfl, Nat.le_of_ble_eq_true rfl⟩) (wp_V hP hK hD hN [0] (by decide) rfl (ci := 3) rfl rfl) rfl rfl hl.1 rfl (lv_room (Nat.le_of_ble_eq_true rfl)) dX4_canJoin_2 ⟨Nat.le_of_ble_eq_true rfl, Nat.le_of_ble_eq_true rfl⟩) hP hD hS hA [0] [1] rfl rfl (by decide) (by decide) (fun r_1 u_1 H locs hw_1 hP hD hS => ?_)
  clear k_1
  have hP : va_P D kl [(w2, .inl (cI, 8, .inl fr)), (h, .inr (3, [.int vi, .int ro, .int wa, .int lz, .int ds, .int dy, .int ga, .int pa, .ref w0, .ref w1, .ref w2, .ref w3, .ref w4, .ref w5, .ref w6, .ref w7]))] H := hP
  have hD : va_D A [(w2, .inl (cI, 8, .inl fr)), (h, .inr (3, [.int vi, .int ro, .int wa, .int lz, .int ds, .int dy, .int ga, .int pa, .ref w0, .ref w1, .ref w2, .ref w3, .ref w4, .ref w5, .ref w6, .ref w7]))] := hD
  have c1_0 := hw_1
  rcases c1_0 with ⟨e_1, f_1⟩ | ⟨e_1, f_1⟩
  · subst e_1
    have f_1 : 0 ≤ a.toInt ∧ a.toInt < vi.toInt := f_1
    refine lv_if_eq (tgt := 38) hx hb dX4_canJoin_5 (by decide) (fun c9 => absurd c9 (by decide)) (fun _ => ?_)
    refine lv_aload_n hx hb dX4_canJoin_8 rfl (lv_at hl 0 rfl) ?_
    refine lv_iload_n hx hb dX4_canJoin_9 rfl (lv_at hl 2 rfl) ?_
    have k_2 := (g_X4_hasVillage l D cI cB cQ H.size h w0 w1 w2 w3 w4 w5 w6 w7 vi ro wa lz ds dy ga pa b)
    refine wc_i (WC := [(h, .inr (3, [.int vi, .int ro, .int wa, .int lz, .int ds, .int dy, .int ga, .int pa, .ref w0, .ref w1, .ref w2, .ref w3, .ref w4, .ref w5, .ref w6, .ref w7]))]) (WR := [(w2, .inl (cI, 8, .inl fr))]) (va_runV (As := [.int b]) (rest := []) ⟨hx, hb, hml, hown, hts⟩ k_2 (cwV 1 hts gX4_canJoin_X4_hasVillage rfl rfl rfl (by decide +kernel) ⟨Nat.le_of_ble_eq_true rfl, Nat.le_of_ble_eq_true rfl⟩) (wp_V hP hK hD hN [1] (by decide) rfl (ci := 3) rfl rfl) rfl rfl hl.1 rfl (lv_room (Nat.le_of_ble_eq_true rfl)) dX4_canJoin_10 ⟨Nat.le_of_ble_eq_true rfl, Nat.le_of_ble_eq_true rfl⟩) hP hD hS hA [1] [0] rfl rfl (by decide) (by decide) (fun r_2 u_2 H locs hw_2 hP hD hS => ?_)
    clear k_2
    have hP : va_P D kl [(w2, .inl (cI, 8, .inl fr)), (h, .inr (3, [.int vi, .int ro, .int wa, .int lz, .int ds, .int dy, .int ga, .int pa, .ref w0, .ref w1, .ref w2, .ref w3, .ref w4, .ref w5, .ref w6, .ref w7]))] H := hP
    have hD : va_D A [(w2, .inl (cI, 8, .inl fr)), (h, .inr (3, [.int vi, .int ro, .int wa, .int lz, .int ds, .int dy, .int ga, .int pa, .ref w0, .ref w1, .ref w2, .ref w3, .ref w4, .ref w5, .ref w6, .ref w7]))] := hD
    have c2_0 := hw_2
    rcases c2_0 with ⟨e_2, f_2⟩ | ⟨e_2, f_2⟩
    · subst e_2
      have f_2 : 0 ≤ b.toInt ∧ b.toInt < vi.toInt := f_2
      refine lv_if_eq (tgt := 38) hx hb dX4_canJoin_13 (by decide) (fun c9 => absurd c9 (by decide)) (fun _ => ?_)
      refine lv_iload_n hx hb dX4_canJoin_16 rfl (lv_at hl 1 rfl) ?_
      refine lv_iload_n hx hb dX4_canJoin_17 rfl (lv_at hl 2 rfl) ?_
      refine lv_icmp_eq (tgt := 38) hx hb dX4_canJoin_18 (by decide) (fun c_3 => ?_) (fun c_3 => ?_)
      · have f_3 : a.toInt = b.toInt := zi_eq c_3
        refine lv_iconst (v := 0) hx hb dX4_canJoin_38 (by decide) ?_
        exact wr_z (v := 0) hx hb hr hlocks hS () (by exact Or.inr (⟨rfl, show ¬ (((0 ≤ a.toInt ∧ a.toInt < vi.toInt) ∧ (0 ≤ b.toInt ∧ b.toInt < vi.toInt)) ∧ ¬ a.toInt = b.toInt ∧ tbi (fr a.toNatClampNeg) b.toInt = 0) from by omega⟩)) (hP.sub [1, 0] rfl) (hD.sub [1, 0] (by decide) rfl) dX4_canJoin_39 rfl
      · have f_3 : ¬ a.toInt = b.toInt := zi_ne c_3
        refine lv_aload_n hx hb dX4_canJoin_21 rfl (lv_at hl 0 rfl) ?_
        refine va_get (D := D) (ci := 3) (v := .ref w2) (C := RX4) (T := TX4) (N := 16) hx hb hts (fun _ h => List.mem_cons_of_mem _ (List.mem_append_right _ h)) hown hK hP 1 rfl rfl 10 (by decide) (hts (.fieldLink RX4 43 "WinterWalk$Land" "roads" "[I") (List.mem_of_getElem? (i := 1) rfl)) (fun _ h9 => h9) rfl dX4_canJoin_22 ?_
        refine lv_iload_n hx hb dX4_canJoin_25 rfl (lv_at hl 1 rfl) ?_
        refine va_iald hx hb hK hP 0 0 rfl rfl (zi_in (by omega) (by omega)) dX4_canJoin_26 ?_
        refine lv_topi (fun x_4 ex_4 => ?_)
        subst ex_4
        refine lv_iload_n hx hb dX4_canJoin_27 rfl (lv_at hl 2 rfl) ?_
        have k_5 := (p_X4_isIn l D cI cB cQ H.size (fr (a : Int32).toNatClampNeg) b)
        refine wc_i (WC := []) (WR := [(w2, .inl (cI, 8, .inl fr)), (h, .inr (3, [.int vi, .int ro, .int wa, .int lz, .int ds, .int dy, .int ga, .int pa, .ref w0, .ref w1, .ref w2, .ref w3, .ref w4, .ref w5, .ref w6, .ref w7]))]) (va_runS (As := [.int (fr (a : Int32).toNatClampNeg), .int b]) (rest := []) ⟨hx, hb, hml, hown, hts⟩ k_5 (va_cwS 2 hts gX4_canJoin_X4_isIn rfl rfl rfl (by decide +kernel) ⟨Nat.le_of_ble_eq_true rfl, Nat.le_of_ble_eq_true rfl⟩) (wp_S hP hK hD hN [] (by decide) rfl) rfl rfl hl.1 rfl (lv_room (Nat.le_of_ble_eq_true rfl)) dX4_canJoin_28 ⟨Nat.le_of_ble_eq_true rfl, Nat.le_of_ble_eq_true rfl⟩) hP hD hS hA [] [0, 1] rfl rfl (by decide) (by decide) (fun r_5 u_5 H locs hw_5 hP hD hS => ?_)
        clear k_5
        have hP : va_P D kl [(w2, .inl (cI, 8, .inl fr)), (h, .inr (3, [.int vi, .int ro, .int wa, .int lz, .int ds, .int dy, .int ga, .int pa, .ref w0, .ref w1, .ref w2, .ref w3, .ref w4, .ref w5, .ref w6, .ref w7]))] H := hP
        have hD : va_D A [(w2, .inl (cI, 8, .inl fr)), (h, .inr (3, [.int vi, .int ro, .int wa, .int lz, .int ds, .int dy, .int ga, .int pa, .ref w0, .ref w1, .ref w2, .ref w3, .ref w4, .ref w5, .ref w6, .ref w7]))] := hD
        have c5_0 := hw_5
        rcases c5_0 with ⟨e_5, f_5⟩ | ⟨e_5, f_5⟩
        · subst e_5
          have f_5 : tbi (fr (a : Int32).toNatClampNeg) b.toInt = 1 := f_5
          refine lv_if_ne (tgt := 38) hx hb dX4_canJoin_31 (by decide) (fun _ => ?_) (fun c9 => absurd c9 (by decide))
          refine lv_iconst (v := 0) hx hb dX4_canJoin_38 (by decide) ?_
          exact wr_z (v := 0) hx hb hr hlocks hS () (by exact Or.inr (⟨rfl, show ¬ (((0 ≤ a.toInt ∧ a.toInt < vi.toInt) ∧ (0 ≤ b.toInt ∧ b.toInt < vi.toInt)) ∧ ¬ a.toInt = b.toInt ∧ tbi (fr a.toNatClampNeg) b.toInt = 0) from by omega⟩)) (hP.sub [1, 0] rfl) (hD.sub [1, 0] (by decide) rfl) dX4_canJoin_39 rfl
        · subst e_5
          have f_5 : tbi (fr (a : Int32).toNatClampNeg) b.toInt = 0 := f_5
          refine lv_if_ne (tgt := 38) hx hb dX4_canJoin_31 (by decide) (fun c9 => absurd (by decide) c9) (fun _ => ?_)
          refine lv_iconst (v := 1) hx hb dX4_canJoin_34 (by decide) ?_
          refine lv_goto (tgt := 39) hx hb dX4_canJoin_35 (by decide) ?_
          exact wr_z (v := 1) hx hb hr hlocks hS () (by exact Or.inl ⟨rfl, show ((0 ≤ a.toInt ∧ a.toInt < vi.toInt) ∧ (0 ≤ b.toInt ∧ b.toInt < vi.toInt)) ∧ ¬ a.toInt = b.toInt ∧ tbi (fr a.toNatClampNeg) b.toInt = 0 from by omega⟩) (hP.sub [1, 0] rfl) (hD.sub [1, 0] (by decide) rfl) dX4_canJoin_39 rfl
    · subst e_2
      have f_2 : ¬ (0 ≤ b.toInt ∧ b.toInt < vi.toInt) := f_2
      refine lv_if_eq (tgt := 38) hx hb dX4_canJoin_13 (by decide) (fun _ => ?_) (fun c9 => absurd (by decide) c9)
      refine lv_iconst (v := 0) hx hb dX4_canJoin_38 (by decide) ?_
      exact wr_z (v := 0) hx hb hr hlocks hS () (by exact Or.inr (⟨rfl, show ¬ (((0 ≤ a.toInt ∧ a.toInt < vi.toInt) ∧ (0 ≤ b.toInt ∧ b.toInt < vi.toInt)) ∧ ¬ a.toInt = b.toInt ∧ tbi (fr a.toNatClampNeg) b.toInt = 0) from by omega⟩)) (hP.sub [1, 0] rfl) (hD.sub [1, 0] (by decide) rfl) dX4_canJoin_39 rfl
  · subst e_1
    have f_1 : ¬ (0 ≤ a.toInt ∧ a.toInt < vi.toInt) := f_1
    refine lv_if_eq (tgt := 38) hx hb dX4_canJoin_5 (by decide) (fun _ => ?_) (fun c9 => absurd (by decide) c9)
    refine lv_iconst (v := 0) hx hb dX4_canJoin_38 (by decide) ?_
    exact wr_z (v := 0) hx hb hr hlocks hS () (by exact Or.inr (⟨rfl, show ¬ (((0 ≤ a.toInt ∧ a.toInt < vi.toInt) ∧ (0 ≤ b.toInt ∧ b.toInt < vi.toInt)) ∧ ¬ a.toInt = b.toInt ∧ tbi (fr a.toNatClampNeg) b.toInt = 0) from by omega⟩)) (hP.sub [1, 0] rfl) (hD.sub [1, 0] (by decide) rfl) dX4_canJoin_39 rfl
set_option maxHeartbeats 4000000 in
set_option maxRecDepth 100000 in
theorem p_X4_addRoad (l : Launch) (D : va_G) (cI cB cQ : ClassId) (sz : Nat) (h : Nat) (w0 : Nat) (w1 : Nat) (w2 : Nat) (w3 : Nat) (w4 : Nat) (w5 : Nat) (w6 : Nat) (w7 : Nat) (vi : Int32) (ro : Int32) (wa : Int32) (lz : Int32) (ds : Int32) (dy : Int32) (ga : Int32) (pa : Int32) (a : Int32) (b : Int32) (fw : Nat → Int32) (fo : Nat → Int32) (fr : Nat → Int32) (fn : Nat → Int32) (ft : Nat → Int32) (fk : Nat → Int32) (fa : Nat → Int32) (fb : Nat → Int32) (ha : ∀ j, j < 3 → 0 ≤ (fa j).toInt ∧ (fa j).toInt ≤ 7) (h_vi : 0 ≤ vi.toInt ∧ vi.toInt ≤ 8) (h_wa : 0 ≤ wa.toInt ∧ wa.toInt ≤ 3) (h_ro : 0 ≤ ro.toInt ∧ ro.toInt ≤ 12) (h_j : ((0 ≤ a.toInt ∧ a.toInt < vi.toInt) ∧ (0 ≤ b.toInt ∧ b.toInt < vi.toInt)) ∧ ¬ a.toInt = b.toInt ∧ tbi (fr a.toNatClampNeg) b.toInt = 0) (h_o : ro.toInt ≤ 11) : mv l yX4_addRoad wsX4_addRoad ({ frames := 2, cells := 0, slots := 0, locals := 43 }) D cI cB cQ [.ref h, .int a, .int b] sz [(h, .inr (3, [.int vi, .int ro, .int wa, .int lz, .int ds, .int dy, .int ga, .int pa, .ref w0, .ref w1, .ref w2, .ref w3, .ref w4, .ref w5, .ref w6, .ref w7])), (w0, .inl (cI, 8, .inl fw)), (w1, .inl (cI, 8, .inl fo)), (w2, .inl (cI, 8, .inl fr)), (w3, .inl (cI, 8, .inl fn)), (w4, .inl (cI, 8, .inl ft)), (w5, .inl (cI, 3, .inl fk)), (w6, .inl (cI, 3, .inl fa)), (w7, .inl (cI, 3, .inl fb))] (fun (u : Int32 × (Nat → Int32)) => (u.1.toInt = ro.toInt + 1) ∧ (u.2 = tor (tor fr a.toInt b.toInt) b.toInt a.toInt) ∧ (0 ≤ u.1.toInt ∧ u.1.toInt ≤ 12)) (fun u => [(h, .inr (3, [.int vi, .int u.1, .int wa, .int lz, .int ds, .int dy, .int ga, .int pa, .ref w0, .ref w1, .ref w2, .ref w3, .ref w4, .ref w5, .ref w6, .ref w7])), (w0, .inl (cI, 8, .inl fw)), (w1, .inl (cI, 8, .inl fo)), (w2, .inl (cI, 8, .inl u.2)), (w3, .inl (cI, 8, .inl fn)), (w4, .inl (cI, 8, .inl ft)), (w5, .inl (cI, 3, .inl fk)), (w6, .inl (cI, 3, .inl fa)), (w7, .inl (cI, 3, .inl fb))]) 0 0 := by
  refine wm_v (cc := cX4_addRoad) (maxL := 3) (ret := none) (by decide) rfl (Nat.le_of_ble_eq_true rfl) ?_
  intro p e s m below meth c A ls hx hb hr hml hown hts hlocks hin hP hK hD hN hA hl hS
  have hown : s.vm.findClass RX4 = some m.cls := hown
  have hl : lv_has ls 3 [(0, .ref h), (1, .int a), (2, .int b)] := hl
  change W p l e ({ frames := 2, cells := 0, slots := 0, locals := 43 }) s m ([.ref h, .int a, .int b] : List Value).toArray below meth c s.heap [] 0 0 (MQ below (va_Qv (fun (u : Int32 × (Nat → Int32)) => (u.1.toInt = ro.toInt + 1) ∧ (u.2 = tor (tor fr a.toInt b.toInt) b.toInt a.toInt) ∧ (0 ≤ u.1.toInt ∧ u.1.toInt ≤ 12)) (fun u t => wb D A ((fun u => [(h, .inr (3, [.int vi, .int u.1, .int wa, .int lz, .int ds, .int dy, .int ga, .int pa, .ref w0, .ref w1, .ref w2, .ref w3, .ref w4, .ref w5, .ref w6, .ref w7])), (w0, .inl (cI, 8, .inl fw)), (w1, .inl (cI, 8, .inl fo)), (w2, .inl (cI, 8, .inl u.2)), (w3, .inl (cI, 8, .inl fn)), (w4, .inl (cI, 8, .inl ft)), (w5, .inl (cI, 3, .inl fk)), (w6, .inl (cI, 3, .inl fa)), (w7, .inl (cI, 3, .inl fb))]) u) t) A) ([.ref h, .int a, .int b] : List Value).toArray s 0 0 A) (F0 m 0 ls [])
  refine lv_aload_n hx hb dX4_addRoad_0 rfl (lv_at hl 0 rfl) ?_
  refine lv_iload_n hx hb dX4_addRoad_1 rfl (lv_at hl 1 rfl) ?_
  refine lv_iload_n hx hb dX4_addRoad_2 rfl (lv_at hl 2 rfl) ?_
  have k_1 := (p_X4_canJoin l D cI cB cQ s.heap.size h w0 w1 w2 w3 w4 w5 w6 w7 vi ro wa lz ds dy ga pa a b fr (by omega) (by omega))
  refine wc_i (WC := [(h, .inr (3, [.int vi, .int ro, .int wa, .int lz, .int ds, .int dy, .int ga, .int pa, .ref w0, .ref w1, .ref w2, .ref w3, .ref w4, .ref w5, .ref w6, .ref w7])), (w2, .inl (cI, 8, .inl fr))]) (WR := [(w0, .inl (cI, 8, .inl fw)), (w1, .inl (cI, 8, .inl fo)), (w3, .inl (cI, 8, .inl fn)), (w4, .inl (cI, 8, .inl ft)), (w5, .inl (cI, 3, .inl fk)), (w6, .inl (cI, 3, .inl fa)), (w7, .inl (cI, 3, .inl fb))]) (va_runV (As := [.int a, .int b]) (rest := []) ⟨hx, hb, hml, hown, hts⟩ k_1 (cwV 2 hts gX4_addRoad_X4_canJoin rfl rfl rfl (by decide +kernel) ⟨Nat.le_of_ble_eq_true rfl, Nat.le_of_ble_eq_true rfl⟩) (wp_V hP hK hD hN [0, 3] (by decide) rfl (ci := 3) rfl rfl) rfl rfl hl.1 rfl (lv_room (Nat.le_of_ble_eq_true rfl)) dX4_addRoad_3 ⟨Nat.le_of_ble_eq_true rfl, Nat.le_of_ble_eq_true rfl⟩) hP hD hS hA [0, 3] [1, 2, 4, 5, 6, 7, 8] rfl rfl (by decide) (by decide) (fun r_1 u_1 H locs hw_1 hP hD hS => ?_)
  clear k_1
  have hP : va_P D kl [(w0, .inl (cI, 8, .inl fw)), (w1, .inl (cI, 8, .inl fo)), (w3, .inl (cI, 8, .inl fn)), (w4, .inl (cI, 8, .inl ft)), (w5, .inl (cI, 3, .inl fk)), (w6, .inl (cI, 3, .inl fa)), (w7, .inl (cI, 3, .inl fb)), (h, .inr (3, [.int vi, .int ro, .int wa, .int lz, .int ds, .int dy, .int ga, .int pa, .ref w0, .ref w1, .ref w2, .ref w3, .ref w4, .ref w5, .ref w6, .ref w7])), (w2, .inl (cI, 8, .inl fr))] H := hP
  have hD : va_D A [(w0, .inl (cI, 8, .inl fw)), (w1, .inl (cI, 8, .inl fo)), (w3, .inl (cI, 8, .inl fn)), (w4, .inl (cI, 8, .inl ft)), (w5, .inl (cI, 3, .inl fk)), (w6, .inl (cI, 3, .inl fa)), (w7, .inl (cI, 3, .inl fb)), (h, .inr (3, [.int vi, .int ro, .int wa, .int lz, .int ds, .int dy, .int ga, .int pa, .ref w0, .ref w1, .ref w2, .ref w3, .ref w4, .ref w5, .ref w6, .ref w7])), (w2, .inl (cI, 8, .inl fr))] := hD
  have c1_0 := hw_1
  rcases c1_0 with ⟨e_1, f_1⟩ | ⟨e_1, f_1⟩
  · subst e_1
    have f_1 : ((0 ≤ a.toInt ∧ a.toInt < vi.toInt) ∧ (0 ≤ b.toInt ∧ b.toInt < vi.toInt)) ∧ ¬ a.toInt = b.toInt ∧ tbi (fr a.toNatClampNeg) b.toInt = 0 := f_1
    refine lv_if_eq (tgt := 43) hx hb dX4_addRoad_6 (by decide) (fun c9 => absurd c9 (by decide)) (fun _ => ?_)
    refine lv_aload_n hx hb dX4_addRoad_9 rfl (lv_at hl 0 rfl) ?_
    refine va_get (D := D) (ci := 3) (v := .ref w2) (C := RX4) (T := TX4) (N := 16) hx hb hts (fun _ h => List.mem_cons_of_mem _ (List.mem_append_right _ h)) hown hK hP 7 rfl rfl 10 (by decide) (hts (.fieldLink RX4 43 "WinterWalk$Land" "roads" "[I") (List.mem_of_getElem? (i := 1) rfl)) (fun _ h9 => h9) rfl dX4_addRoad_10 ?_
    refine lv_iload_n hx hb dX4_addRoad_13 rfl (lv_at hl 1 rfl) ?_
    refine lv_dup2_11 hx hb dX4_addRoad_14 rfl rfl ?_
    refine va_iald hx hb hK hP 8 0 rfl rfl (zi_in (by omega) (by omega)) dX4_addRoad_15 ?_
    refine lv_topi (fun x_2 ex_2 => ?_)
    subst ex_2
    refine lv_iconst (v := 1) hx hb dX4_addRoad_16 (by decide) ?_
    refine lv_iload_n hx hb dX4_addRoad_17 rfl (lv_at hl 2 rfl) ?_
    refine lv_ishl hx hb dX4_addRoad_18 ?_
    refine lv_topi (fun x_3 ex_3 => ?_)
    have e_3 : 1 ≤ x_3.toInt ∧ x_3.toInt ≤ 256 := by rw [ex_3]; exact zi_sh (by omega)
    refine lv_ior hx hb dX4_addRoad_19 ?_
    refine lv_topi (fun x_4 ex_4 => ?_)
    refine va_iast hx hb hK hP hD hS 8 0 rfl rfl (zi_in (by omega) (by omega)) dX4_addRoad_20 (fun H locs hP hD hS => ?_)
    have hP : va_P D kl [(w0, .inl (cI, 8, .inl fw)), (w1, .inl (cI, 8, .inl fo)), (w3, .inl (cI, 8, .inl fn)), (w4, .inl (cI, 8, .inl ft)), (w5, .inl (cI, 3, .inl fk)), (w6, .inl (cI, 3, .inl fa)), (w7, .inl (cI, 3, .inl fb)), (h, .inr (3, [.int vi, .int ro, .int wa, .int lz, .int ds, .int dy, .int ga, .int pa, .ref w0, .ref w1, .ref w2, .ref w3, .ref w4, .ref w5, .ref w6, .ref w7])), (w2, .inl (cI, 8, .inl (upd fr (a : Int32).toNatClampNeg x_4)))] H := hP
    have hD : va_D A [(w0, .inl (cI, 8, .inl fw)), (w1, .inl (cI, 8, .inl fo)), (w3, .inl (cI, 8, .inl fn)), (w4, .inl (cI, 8, .inl ft)), (w5, .inl (cI, 3, .inl fk)), (w6, .inl (cI, 3, .inl fa)), (w7, .inl (cI, 3, .inl fb)), (h, .inr (3, [.int vi, .int ro, .int wa, .int lz, .int ds, .int dy, .int ga, .int pa, .ref w0, .ref w1, .ref w2, .ref w3, .ref w4, .ref w5, .ref w6, .ref w7])), (w2, .inl (cI, 8, .inl (upd fr (a : Int32).toNatClampNeg x_4)))] := hD
    refine lv_aload_n hx hb dX4_addRoad_21 rfl (lv_at hl 0 rfl) ?_
    refine va_get (D := D) (ci := 3) (v := .ref w2) (C := RX4) (T := TX4) (N := 16) hx hb hts (fun _ h => List.mem_cons_of_mem _ (List.mem_append_right _ h)) hown hK hP 7 rfl rfl 10 (by decide) (hts (.fieldLink RX4 43 "WinterWalk$Land" "roads" "[I") (List.mem_of_getElem? (i := 1) rfl)) (fun _ h9 => h9) rfl dX4_addRoad_22 ?_
    refine lv_iload_n hx hb dX4_addRoad_25 rfl (lv_at hl 2 rfl) ?_
    refine lv_dup2_11 hx hb dX4_addRoad_26 rfl rfl ?_
    refine va_iald hx hb hK hP 8 0 rfl rfl (zi_in (by omega) (by omega)) dX4_addRoad_27 ?_
    refine lv_topi (fun x_5 ex_5 => ?_)
    subst ex_5
    refine lv_iconst (v := 1) hx hb dX4_addRoad_28 (by decide) ?_
    refine lv_iload_n hx hb dX4_addRoad_29 rfl (lv_at hl 1 rfl) ?_
    refine lv_ishl hx hb dX4_addRoad_30 ?_
    refine lv_topi (fun x_6 ex_6 => ?_)
    have e_6 : 1 ≤ x_6.toInt ∧ x_6.toInt ≤ 256 := by rw [ex_6]; exact zi_sh (by omega)
    refine lv_ior hx hb dX4_addRoad_31 ?_
    refine lv_topi (fun x_7 ex_7 => ?_)
    refine va_iast hx hb hK hP hD hS 8 0 rfl rfl (zi_in (by omega) (by omega)) dX4_addRoad_32 (fun H locs hP hD hS => ?_)
    have hP : va_P D kl [(w0, .inl (cI, 8, .inl fw)), (w1, .inl (cI, 8, .inl fo)), (w3, .inl (cI, 8, .inl fn)), (w4, .inl (cI, 8, .inl ft)), (w5, .inl (cI, 3, .inl fk)), (w6, .inl (cI, 3, .inl fa)), (w7, .inl (cI, 3, .inl fb)), (h, .inr (3, [.int vi, .int ro, .int wa, .int lz, .int ds, .int dy, .int ga, .int pa, .ref w0, .ref w1, .ref w2, .ref w3, .ref w4, .ref w5, .ref w6, .ref w7])), (w2, .inl (cI, 8, .inl (upd (upd fr (a : Int32).toNatClampNeg x_4) (b : Int32).toNatClampNeg x_7)))] H := hP
    have hD : va_D A [(w0, .inl (cI, 8, .inl fw)), (w1, .inl (cI, 8, .inl fo)), (w3, .inl (cI, 8, .inl fn)), (w4, .inl (cI, 8, .inl ft)), (w5, .inl (cI, 3, .inl fk)), (w6, .inl (cI, 3, .inl fa)), (w7, .inl (cI, 3, .inl fb)), (h, .inr (3, [.int vi, .int ro, .int wa, .int lz, .int ds, .int dy, .int ga, .int pa, .ref w0, .ref w1, .ref w2, .ref w3, .ref w4, .ref w5, .ref w6, .ref w7])), (w2, .inl (cI, 8, .inl (upd (upd fr (a : Int32).toNatClampNeg x_4) (b : Int32).toNatClampNeg x_7)))] := hD
    refine lv_aload_n hx hb dX4_addRoad_33 rfl (lv_at hl 0 rfl) ?_
    refine lv_dup hx hb dX4_addRoad_34 rfl ?_
    refine va_get (D := D) (ci := 3) (v := .int ro) (C := RX4) (T := TX4) (N := 16) hx hb hts (fun _ h => List.mem_cons_of_mem _ (List.mem_append_right _ h)) hown hK hP 7 rfl rfl 1 (by decide) (hts (.fieldLink RX4 15 "WinterWalk$Land" "roadsTold" "I") (List.mem_of_getElem? (i := 2) rfl)) (fun _ h9 => h9) rfl dX4_addRoad_35 ?_
    refine lv_iconst (v := 1) hx hb dX4_addRoad_38 (by decide) ?_
    refine lv_iadd hx hb dX4_addRoad_39 ?_
    refine lv_topi (fun x_8 ex_8 => ?_)
    have e_8 : x_8.toInt = ro.toInt + 1 := by rw [ex_8]; exact zi_add (rfl) (by decide) (by omega) (by omega)
    refine va_put (D := D) (ci := 3) (v := .int x_8) (ty := .int) (C := RX4) (T := TX4) (N := 16) hx hb hts (fun _ h => List.mem_cons_of_mem _ (List.mem_append_right _ h)) tyX4 tyX4_ok nmX4 hown hK hP hD hS 7 rfl rfl 1 (by decide) (hts (.fieldLink RX4 15 "WinterWalk$Land" "roadsTold" "I") (List.mem_of_getElem? (i := 2) rfl)) (fun _ h9 => h9) rfl (by decide +kernel) rfl rfl (Nat.le_of_ble_eq_true rfl) dX4_addRoad_40 (fun H locs hP hD hS => ?_)
    have hP : va_P D kl [(w0, .inl (cI, 8, .inl fw)), (w1, .inl (cI, 8, .inl fo)), (w3, .inl (cI, 8, .inl fn)), (w4, .inl (cI, 8, .inl ft)), (w5, .inl (cI, 3, .inl fk)), (w6, .inl (cI, 3, .inl fa)), (w7, .inl (cI, 3, .inl fb)), (h, .inr (3, [.int vi, .int x_8, .int wa, .int lz, .int ds, .int dy, .int ga, .int pa, .ref w0, .ref w1, .ref w2, .ref w3, .ref w4, .ref w5, .ref w6, .ref w7])), (w2, .inl (cI, 8, .inl (upd (upd fr (a : Int32).toNatClampNeg x_4) (b : Int32).toNatClampNeg x_7)))] H := hP
    have hD : va_D A [(w0, .inl (cI, 8, .inl fw)), (w1, .inl (cI, 8, .inl fo)), (w3, .inl (cI, 8, .inl fn)), (w4, .inl (cI, 8, .inl ft)), (w5, .inl (cI, 3, .inl fk)), (w6, .inl (cI, 3, .inl fa)), (w7, .inl (cI, 3, .inl fb)), (h, .inr (3, [.int vi, .int x_8, .int wa, .int lz, .int ds, .int dy, .int ga, .int pa, .ref w0, .ref w1, .ref w2, .ref w3, .ref w4, .ref w5, .ref w6, .ref w7])), (w2, .inl (cI, 8, .inl (upd (upd fr (a : Int32).toNatClampNeg x_4) (b : Int32).toNatClampNeg x_7)))] := hD
    exact wr_v hx hb hr hlocks hS (x_8, (upd (upd fr (a : Int32).toNatClampNeg x_4) (b : Int32).toNatClampNeg x_7)) (by exact ⟨show x_8.toInt = ro.toInt + 1 from by omega, show (upd (upd fr (a : Int32).toNatClampNeg x_4) (b : Int32).toNatClampNeg x_7) = tor (tor fr a.toInt b.toInt) b.toInt a.toInt from tor_of ex_3 ex_4 ex_6 ex_7, show 0 ≤ (x_8 : Int32).toInt ∧ (x_8 : Int32).toInt ≤ 12 from by omega⟩) (hP.sub [7, 0, 1, 8, 2, 3, 4, 5, 6] rfl) (hD.sub [7, 0, 1, 8, 2, 3, 4, 5, 6] (by decide) rfl) dX4_addRoad_43
  · subst e_1
    have f_1 : ¬ (((0 ≤ a.toInt ∧ a.toInt < vi.toInt) ∧ (0 ≤ b.toInt ∧ b.toInt < vi.toInt)) ∧ ¬ a.toInt = b.toInt ∧ tbi (fr a.toNatClampNeg) b.toInt = 0) := f_1
    refine lv_if_eq (tgt := 43) hx hb dX4_addRoad_6 (by decide) (fun _ => ?_) (fun c9 => absurd (by decide) c9)
    exact wr_v hx hb hr hlocks hS (ro, fr) (by exact ⟨show ro.toInt = ro.toInt + 1 from by omega, show fr = tor (tor fr a.toInt b.toInt) b.toInt a.toInt from absurd h_j f_1, show 0 ≤ (ro : Int32).toInt ∧ (ro : Int32).toInt ≤ 12 from by omega⟩) (hP.sub [7, 0, 1, 8, 2, 3, 4, 5, 6] rfl) (hD.sub [7, 0, 1, 8, 2, 3, 4, 5, 6] (by decide) rfl) dX4_addRoad_43
set_option maxHeartbeats 4000000 in
set_option maxRecDepth 100000 in
theorem p_X4_addWalker (l : Launch) (D : va_G) (cI cB cQ : ClassId) (sz : Nat) (h : Nat) (w0 : Nat) (w1 : Nat) (w2 : Nat) (w3 : Nat) (w4 : Nat) (w5 : Nat) (w6 : Nat) (w7 : Nat) (vi : Int32) (ro : Int32) (wa : Int32) (lz : Int32) (ds : Int32) (dy : Int32) (ga : Int32) (pa : Int32) (k : Int32) (v : Int32) (fw : Nat → Int32) (fo : Nat → Int32) (fr : Nat → Int32) (fn : Nat → Int32) (ft : Nat → Int32) (fk : Nat → Int32) (fa : Nat → Int32) (fb : Nat → Int32) (ha : ∀ j, j < 3 → 0 ≤ (fa j).toInt ∧ (fa j).toInt ≤ 7) (h_vi : 0 ≤ vi.toInt ∧ vi.toInt ≤ 8) (h_wa : 0 ≤ wa.toInt ∧ wa.toInt ≤ 3) (h_v : 0 ≤ v.toInt ∧ v.toInt ≤ 7) (h_y : wa.toInt ≤ 2) : mv l yX4_addWalker wsX4_addWalker ({ frames := 0, cells := 0, slots := 0, locals := 0 }) D cI cB cQ [.ref h, .int k, .int v] sz [(h, .inr (3, [.int vi, .int ro, .int wa, .int lz, .int ds, .int dy, .int ga, .int pa, .ref w0, .ref w1, .ref w2, .ref w3, .ref w4, .ref w5, .ref w6, .ref w7])), (w0, .inl (cI, 8, .inl fw)), (w1, .inl (cI, 8, .inl fo)), (w2, .inl (cI, 8, .inl fr)), (w3, .inl (cI, 8, .inl fn)), (w4, .inl (cI, 8, .inl ft)), (w5, .inl (cI, 3, .inl fk)), (w6, .inl (cI, 3, .inl fa)), (w7, .inl (cI, 3, .inl fb))] (fun (u : Int32 × (Nat → Int32) × (Nat → Int32) × (Nat → Int32)) => (u.1.toInt = wa.toInt + 1) ∧ (u.2.1 = upd fk wa.toNatClampNeg k) ∧ (0 ≤ u.1.toInt ∧ u.1.toInt ≤ 3) ∧ (∀ j, j < 3 → 0 ≤ (u.2.2.1 j).toInt ∧ (u.2.2.1 j).toInt ≤ 7)) (fun u => [(h, .inr (3, [.int vi, .int ro, .int u.1, .int lz, .int ds, .int dy, .int ga, .int pa, .ref w0, .ref w1, .ref w2, .ref w3, .ref w4, .ref w5, .ref w6, .ref w7])), (w0, .inl (cI, 8, .inl fw)), (w1, .inl (cI, 8, .inl fo)), (w2, .inl (cI, 8, .inl fr)), (w3, .inl (cI, 8, .inl fn)), (w4, .inl (cI, 8, .inl ft)), (w5, .inl (cI, 3, .inl u.2.1)), (w6, .inl (cI, 3, .inl u.2.2.1)), (w7, .inl (cI, 3, .inl u.2.2.2))]) 0 0 := by
  refine wm_v (cc := cX4_addWalker) (maxL := 3) (ret := none) (by decide) rfl (Nat.le_of_ble_eq_true rfl) ?_
  intro p e s m below meth c A ls hx hb hr hml hown hts hlocks hin hP hK hD hN hA hl hS
  have hown : s.vm.findClass RX4 = some m.cls := hown
  have hl : lv_has ls 3 [(0, .ref h), (1, .int k), (2, .int v)] := hl
  change W p l e ({ frames := 0, cells := 0, slots := 0, locals := 0 }) s m ([.ref h, .int k, .int v] : List Value).toArray below meth c s.heap [] 0 0 (MQ below (va_Qv (fun (u : Int32 × (Nat → Int32) × (Nat → Int32) × (Nat → Int32)) => (u.1.toInt = wa.toInt + 1) ∧ (u.2.1 = upd fk wa.toNatClampNeg k) ∧ (0 ≤ u.1.toInt ∧ u.1.toInt ≤ 3) ∧ (∀ j, j < 3 → 0 ≤ (u.2.2.1 j).toInt ∧ (u.2.2.1 j).toInt ≤ 7)) (fun u t => wb D A ((fun u => [(h, .inr (3, [.int vi, .int ro, .int u.1, .int lz, .int ds, .int dy, .int ga, .int pa, .ref w0, .ref w1, .ref w2, .ref w3, .ref w4, .ref w5, .ref w6, .ref w7])), (w0, .inl (cI, 8, .inl fw)), (w1, .inl (cI, 8, .inl fo)), (w2, .inl (cI, 8, .inl fr)), (w3, .inl (cI, 8, .inl fn)), (w4, .inl (cI, 8, .inl ft)), (w5, .inl (cI, 3, .inl u.2.1)), (w6, .inl (cI, 3, .inl u.2.2.1)), (w7, .inl (cI, 3, .inl u.2.2.2))]) u) t) A) ([.ref h, .int k, .int v] : List Value).toArray s 0 0 A) (F0 m 0 ls [])
  refine lv_aload_n hx hb dX4_addWalker_0 rfl (lv_at hl 0 rfl) ?_
  refine va_get (D := D) (ci := 3) (v := .int wa) (C := RX4) (T := TX4) (N := 16) hx hb hts (fun _ h => List.mem_cons_of_mem _ (List.mem_append_right _ h)) hown hK hP 0 rfl rfl 2 (by decide) (hts (.fieldLink RX4 18 "WinterWalk$Land" "walkers" "I") (List.mem_of_getElem? (i := 1) rfl)) (fun _ h9 => h9) rfl dX4_addWalker_1 ?_
  refine lv_iconst (v := 3) hx hb dX4_addWalker_4 (by decide) ?_
  refine lv_icmp_ge (tgt := 49) hx hb dX4_addWalker_5 (by decide) (fun c_1 => ?_) (fun c_1 => ?_)
  · have f_1 : 3 ≤ wa.toInt := zi_le c_1
    exact wr_v hx hb hr hlocks hS (wa, fk, fa, fb) (by exact ⟨show wa.toInt = wa.toInt + 1 from by omega, show fk = upd fk wa.toNatClampNeg k from False.elim (by omega), show 0 ≤ (wa : Int32).toInt ∧ (wa : Int32).toInt ≤ 3 from by omega, ha⟩) (hP.sub [0, 1, 2, 3, 4, 5, 6, 7, 8] rfl) (hD.sub [0, 1, 2, 3, 4, 5, 6, 7, 8] (by decide) rfl) dX4_addWalker_49
  · have f_1 : ¬ 3 ≤ wa.toInt := zi_nle c_1
    refine lv_aload_n hx hb dX4_addWalker_8 rfl (lv_at hl 0 rfl) ?_
    refine va_get (D := D) (ci := 3) (v := .ref w5) (C := RX4) (T := TX4) (N := 16) hx hb hts (fun _ h => List.mem_cons_of_mem _ (List.mem_append_right _ h)) hown hK hP 0 rfl rfl 13 (by decide) (hts (.fieldLink RX4 52 "WinterWalk$Land" "kinds" "[I") (List.mem_of_getElem? (i := 2) rfl)) (fun _ h9 => h9) rfl dX4_addWalker_9 ?_
    refine lv_aload_n hx hb dX4_addWalker_12 rfl (lv_at hl 0 rfl) ?_
    refine va_get (D := D) (ci := 3) (v := .int wa) (C := RX4) (T := TX4) (N := 16) hx hb hts (fun _ h => List.mem_cons_of_mem _ (List.mem_append_right _ h)) hown hK hP 0 rfl rfl 2 (by decide) (hts (.fieldLink RX4 18 "WinterWalk$Land" "walkers" "I") (List.mem_of_getElem? (i := 1) rfl)) (fun _ h9 => h9) rfl dX4_addWalker_13 ?_
    refine lv_iload_n hx hb dX4_addWalker_16 rfl (lv_at hl 1 rfl) ?_
    refine va_iast hx hb hK hP hD hS 6 0 rfl rfl (zi_in (by omega) (by omega)) dX4_addWalker_17 (fun H locs hP hD hS => ?_)
    have hP : va_P D kl [(h, .inr (3, [.int vi, .int ro, .int wa, .int lz, .int ds, .int dy, .int ga, .int pa, .ref w0, .ref w1, .ref w2, .ref w3, .ref w4, .ref w5, .ref w6, .ref w7])), (w0, .inl (cI, 8, .inl fw)), (w1, .inl (cI, 8, .inl fo)), (w2, .inl (cI, 8, .inl fr)), (w3, .inl (cI, 8, .inl fn)), (w4, .inl (cI, 8, .inl ft)), (w5, .inl (cI, 3, .inl (upd fk (wa : Int32).toNatClampNeg k))), (w6, .inl (cI, 3, .inl fa)), (w7, .inl (cI, 3, .inl fb))] H := hP
    have hD : va_D A [(h, .inr (3, [.int vi, .int ro, .int wa, .int lz, .int ds, .int dy, .int ga, .int pa, .ref w0, .ref w1, .ref w2, .ref w3, .ref w4, .ref w5, .ref w6, .ref w7])), (w0, .inl (cI, 8, .inl fw)), (w1, .inl (cI, 8, .inl fo)), (w2, .inl (cI, 8, .inl fr)), (w3, .inl (cI, 8, .inl fn)), (w4, .inl (cI, 8, .inl ft)), (w5, .inl (cI, 3, .inl (upd fk (wa : Int32).toNatClampNeg k))), (w6, .inl (cI, 3, .inl fa)), (w7, .inl (cI, 3, .inl fb))] := hD
    refine lv_aload_n hx hb dX4_addWalker_18 rfl (lv_at hl 0 rfl) ?_
    refine va_get (D := D) (ci := 3) (v := .ref w6) (C := RX4) (T := TX4) (N := 16) hx hb hts (fun _ h => List.mem_cons_of_mem _ (List.mem_append_right _ h)) hown hK hP 0 rfl rfl 14 (by decide) (hts (.fieldLink RX4 55 "WinterWalk$Land" "at" "[I") (List.mem_of_getElem? (i := 3) rfl)) (fun _ h9 => h9) rfl dX4_addWalker_19 ?_
    refine lv_aload_n hx hb dX4_addWalker_22 rfl (lv_at hl 0 rfl) ?_
    refine va_get (D := D) (ci := 3) (v := .int wa) (C := RX4) (T := TX4) (N := 16) hx hb hts (fun _ h => List.mem_cons_of_mem _ (List.mem_append_right _ h)) hown hK hP 0 rfl rfl 2 (by decide) (hts (.fieldLink RX4 18 "WinterWalk$Land" "walkers" "I") (List.mem_of_getElem? (i := 1) rfl)) (fun _ h9 => h9) rfl dX4_addWalker_23 ?_
    refine lv_iload_n hx hb dX4_addWalker_26 rfl (lv_at hl 2 rfl) ?_
    refine va_iast hx hb hK hP hD hS 7 0 rfl rfl (zi_in (by omega) (by omega)) dX4_addWalker_27 (fun H locs hP hD hS => ?_)
    have hP : va_P D kl [(h, .inr (3, [.int vi, .int ro, .int wa, .int lz, .int ds, .int dy, .int ga, .int pa, .ref w0, .ref w1, .ref w2, .ref w3, .ref w4, .ref w5, .ref w6, .ref w7])), (w0, .inl (cI, 8, .inl fw)), (w1, .inl (cI, 8, .inl fo)), (w2, .inl (cI, 8, .inl fr)), (w3, .inl (cI, 8, .inl fn)), (w4, .inl (cI, 8, .inl ft)), (w5, .inl (cI, 3, .inl (upd fk (wa : Int32).toNatClampNeg k))), (w6, .inl (cI, 3, .inl (upd fa (wa : Int32).toNatClampNeg v))), (w7, .inl (cI, 3, .inl fb))] H := hP
    have hD : va_D A [(h, .inr (3, [.int vi, .int ro, .int wa, .int lz, .int ds, .int dy, .int ga, .int pa, .ref w0, .ref w1, .ref w2, .ref w3, .ref w4, .ref w5, .ref w6, .ref w7])), (w0, .inl (cI, 8, .inl fw)), (w1, .inl (cI, 8, .inl fo)), (w2, .inl (cI, 8, .inl fr)), (w3, .inl (cI, 8, .inl fn)), (w4, .inl (cI, 8, .inl ft)), (w5, .inl (cI, 3, .inl (upd fk (wa : Int32).toNatClampNeg k))), (w6, .inl (cI, 3, .inl (upd fa (wa : Int32).toNatClampNeg v))), (w7, .inl (cI, 3, .inl fb))] := hD
    have ha_2 : ∀ j, j < 3 → 0 ≤ ((upd fa (wa : Int32).toNatClampNeg v) j).toInt ∧ ((upd fa (wa : Int32).toNatClampNeg v) j).toInt ≤ 7 := zu_upd ha (by omega)
    refine lv_aload_n hx hb dX4_addWalker_28 rfl (lv_at hl 0 rfl) ?_
    refine va_get (D := D) (ci := 3) (v := .ref w7) (C := RX4) (T := TX4) (N := 16) hx hb hts (fun _ h => List.mem_cons_of_mem _ (List.mem_append_right _ h)) hown hK hP 0 rfl rfl 15 (by decide) (hts (.fieldLink RX4 58 "WinterWalk$Land" "before" "[I") (List.mem_of_getElem? (i := 4) rfl)) (fun _ h9 => h9) rfl dX4_addWalker_29 ?_
    refine lv_aload_n hx hb dX4_addWalker_32 rfl (lv_at hl 0 rfl) ?_
    refine va_get (D := D) (ci := 3) (v := .int wa) (C := RX4) (T := TX4) (N := 16) hx hb hts (fun _ h => List.mem_cons_of_mem _ (List.mem_append_right _ h)) hown hK hP 0 rfl rfl 2 (by decide) (hts (.fieldLink RX4 18 "WinterWalk$Land" "walkers" "I") (List.mem_of_getElem? (i := 1) rfl)) (fun _ h9 => h9) rfl dX4_addWalker_33 ?_
    refine lv_ldc (v := (-1000000)) hx hb hown (hts (.constant RX4 87 (-1000000)) (List.mem_of_getElem? (i := 5) rfl)) dX4_addWalker_36 ?_
    refine va_iast hx hb hK hP hD hS 8 0 rfl rfl (zi_in (by omega) (by omega)) dX4_addWalker_38 (fun H locs hP hD hS => ?_)
    have hP : va_P D kl [(h, .inr (3, [.int vi, .int ro, .int wa, .int lz, .int ds, .int dy, .int ga, .int pa, .ref w0, .ref w1, .ref w2, .ref w3, .ref w4, .ref w5, .ref w6, .ref w7])), (w0, .inl (cI, 8, .inl fw)), (w1, .inl (cI, 8, .inl fo)), (w2, .inl (cI, 8, .inl fr)), (w3, .inl (cI, 8, .inl fn)), (w4, .inl (cI, 8, .inl ft)), (w5, .inl (cI, 3, .inl (upd fk (wa : Int32).toNatClampNeg k))), (w6, .inl (cI, 3, .inl (upd fa (wa : Int32).toNatClampNeg v))), (w7, .inl (cI, 3, .inl (upd fb (wa : Int32).toNatClampNeg (-1000000))))] H := hP
    have hD : va_D A [(h, .inr (3, [.int vi, .int ro, .int wa, .int lz, .int ds, .int dy, .int ga, .int pa, .ref w0, .ref w1, .ref w2, .ref w3, .ref w4, .ref w5, .ref w6, .ref w7])), (w0, .inl (cI, 8, .inl fw)), (w1, .inl (cI, 8, .inl fo)), (w2, .inl (cI, 8, .inl fr)), (w3, .inl (cI, 8, .inl fn)), (w4, .inl (cI, 8, .inl ft)), (w5, .inl (cI, 3, .inl (upd fk (wa : Int32).toNatClampNeg k))), (w6, .inl (cI, 3, .inl (upd fa (wa : Int32).toNatClampNeg v))), (w7, .inl (cI, 3, .inl (upd fb (wa : Int32).toNatClampNeg (-1000000))))] := hD
    refine lv_aload_n hx hb dX4_addWalker_39 rfl (lv_at hl 0 rfl) ?_
    refine lv_dup hx hb dX4_addWalker_40 rfl ?_
    refine va_get (D := D) (ci := 3) (v := .int wa) (C := RX4) (T := TX4) (N := 16) hx hb hts (fun _ h => List.mem_cons_of_mem _ (List.mem_append_right _ h)) hown hK hP 0 rfl rfl 2 (by decide) (hts (.fieldLink RX4 18 "WinterWalk$Land" "walkers" "I") (List.mem_of_getElem? (i := 1) rfl)) (fun _ h9 => h9) rfl dX4_addWalker_41 ?_
    refine lv_iconst (v := 1) hx hb dX4_addWalker_44 (by decide) ?_
    refine lv_iadd hx hb dX4_addWalker_45 ?_
    refine lv_topi (fun x_3 ex_3 => ?_)
    have e_3 : x_3.toInt = wa.toInt + 1 := by rw [ex_3]; exact zi_add (rfl) (by decide) (by omega) (by omega)
    clear ex_3
    refine va_put (D := D) (ci := 3) (v := .int x_3) (ty := .int) (C := RX4) (T := TX4) (N := 16) hx hb hts (fun _ h => List.mem_cons_of_mem _ (List.mem_append_right _ h)) tyX4 tyX4_ok nmX4 hown hK hP hD hS 0 rfl rfl 2 (by decide) (hts (.fieldLink RX4 18 "WinterWalk$Land" "walkers" "I") (List.mem_of_getElem? (i := 1) rfl)) (fun _ h9 => h9) rfl (by decide +kernel) rfl rfl (Nat.le_of_ble_eq_true rfl) dX4_addWalker_46 (fun H locs hP hD hS => ?_)
    have hP : va_P D kl [(h, .inr (3, [.int vi, .int ro, .int x_3, .int lz, .int ds, .int dy, .int ga, .int pa, .ref w0, .ref w1, .ref w2, .ref w3, .ref w4, .ref w5, .ref w6, .ref w7])), (w0, .inl (cI, 8, .inl fw)), (w1, .inl (cI, 8, .inl fo)), (w2, .inl (cI, 8, .inl fr)), (w3, .inl (cI, 8, .inl fn)), (w4, .inl (cI, 8, .inl ft)), (w5, .inl (cI, 3, .inl (upd fk (wa : Int32).toNatClampNeg k))), (w6, .inl (cI, 3, .inl (upd fa (wa : Int32).toNatClampNeg v))), (w7, .inl (cI, 3, .inl (upd fb (wa : Int32).toNatClampNeg (-1000000))))] H := hP
    have hD : va_D A [(h, .inr (3, [.int vi, .int ro, .int x_3, .int lz, .int ds, .int dy, .int ga, .int pa, .ref w0, .ref w1, .ref w2, .ref w3, .ref w4, .ref w5, .ref w6, .ref w7])), (w0, .inl (cI, 8, .inl fw)), (w1, .inl (cI, 8, .inl fo)), (w2, .inl (cI, 8, .inl fr)), (w3, .inl (cI, 8, .inl fn)), (w4, .inl (cI, 8, .inl ft)), (w5, .inl (cI, 3, .inl (upd fk (wa : Int32).toNatClampNeg k))), (w6, .inl (cI, 3, .inl (upd fa (wa : Int32).toNatClampNeg v))), (w7, .inl (cI, 3, .inl (upd fb (wa : Int32).toNatClampNeg (-1000000))))] := hD
    exact wr_v hx hb hr hlocks hS (x_3, (upd fk (wa : Int32).toNatClampNeg k), (upd fa (wa : Int32).toNatClampNeg v), (upd fb (wa : Int32).toNatClampNeg (-1000000))) (by exact ⟨show x_3.toInt = wa.toInt + 1 from by omega, show (upd fk (wa : Int32).toNatClampNeg k) = upd fk wa.toNatClampNeg k from rfl, show 0 ≤ (x_3 : Int32).toInt ∧ (x_3 : Int32).toInt ≤ 3 from by omega, ha_2⟩) (hP.sub [0, 1, 2, 3, 4, 5, 6, 7, 8] rfl) (hD.sub [0, 1, 2, 3, 4, 5, 6, 7, 8] (by decide) rfl) dX4_addWalker_49
