set_option maxHeartbeats 4000000 in
set_option maxRecDepth 100000 in
theorem p_X6_takeNumber (l : Launch) (D : va_G) (cI cB cQ : ClassId) (sz : Nat) (h : Nat) (tb : Nat) (dr : Nat) (le : Int32) (lf : Int32) (fp : Int32) (pl : Int32) (fy : Int32) (a : Int32) (b : Int32) (tf : Nat → Int32) (h_le : 0 ≤ le.toInt ∧ le.toInt ≤ 120) (h_fp : 0 ≤ fp.toInt ∧ fp.toInt ≤ 120) (h_pl : 0 ≤ pl.toInt ∧ pl.toInt ≤ 120) : mi l yX6_takeNumber wsX6_takeNumber ({ frames := 2, cells := 0, slots := 0, locals := 45 }) D cI cB cQ [.ref h, .int a, .int b] sz [(h, .inr (5, [.ref tb, .ref dr, .int le, .int lf, .int fp, .int pl, .int fy])), (tb, .inl (cI, 120, .inl tf))] (fun (r : Int32) (u : Int32 × Int32 × Int32 × Int32) => (((u.2.2.2.toInt, u.1.toInt, u.2.1.toInt, u.2.2.1.toInt) : TPS) = tN (tbc tf le.toInt) a.toInt b.toInt (fy.toInt, lf.toInt, fp.toInt, pl.toInt)) ∧ (r.toInt = tV (tbc tf le.toInt) a.toInt b.toInt (fy.toInt, lf.toInt, fp.toInt, pl.toInt)) ∧ (r.toInt = 0 ∨ (a.toInt ≤ r.toInt ∧ r.toInt ≤ b.toInt)) ∧ (0 ≤ u.2.1.toInt ∧ u.2.1.toInt ≤ 120) ∧ (0 ≤ u.2.2.1.toInt ∧ u.2.2.1.toInt ≤ 120)) (fun u => [(h, .inr (5, [.ref tb, .ref dr, .int le, .int u.1, .int u.2.1, .int u.2.2.1, .int u.2.2.2])), (tb, .inl (cI, 120, .inl tf))]) 0 0 := by
  refine wm_i (cc := cX6_takeNumber) (maxL := 6) (ret := (some .int)) (by decide) rfl (Nat.le_of_ble_eq_true rfl) ?_
  intro p e s m below meth c A ls hx hb hr hml hown hts hlocks hin hP hK hD hN hA hl hS
  have hown : s.vm.findClass RX6 = some m.cls := hown
  have hl : lv_has ls 6 [(0, .ref h), (1, .int a), (2, .int b)] := hl
  change W p l e ({ frames := 2, cells := 0, slots := 0, locals := 45 }) s m ([.ref h, .int a, .int b] : List Value).toArray below meth c s.heap [] 0 0 (MQ below (va_Qi (fun (r : Int32) (u : Int32 × Int32 × Int32 × Int32) => (((u.2.2.2.toInt, u.1.toInt, u.2.1.toInt, u.2.2.1.toInt) : TPS) = tN (tbc tf le.toInt) a.toInt b.toInt (fy.toInt, lf.toInt, fp.toInt, pl.toInt)) ∧ (r.toInt = tV (tbc tf le.toInt) a.toInt b.toInt (fy.toInt, lf.toInt, fp.toInt, pl.toInt)) ∧ (r.toInt = 0 ∨ (a.toInt ≤ r.toInt ∧ r.toInt ≤ b.toInt)) ∧ (0 ≤ u.2.1.toInt ∧ u.2.1.toInt ≤ 120) ∧ (0 ≤ u.2.2.1.toInt ∧ u.2.2.1.toInt ≤ 120)) (fun u t => wb D A ((fun u => [(h, .inr (5, [.ref tb, .ref dr, .int le, .int u.1, .int u.2.1, .int u.2.2.1, .int u.2.2.2])), (tb, .inl (cI, 120, .inl tf))]) u) t) A) ([.ref h, .int a, .int b] : List Value).toArray s 0 0 A) (F0 m 0 ls [])
  refine lv_aload_n hx hb dX6_takeNumber_0 rfl (lv_at hl 0 rfl) ?_
  refine lv_aload_n hx hb dX6_takeNumber_1 rfl (lv_at hl 0 rfl) ?_
  refine va_get (D := D) (ci := 5) (v := .int pl) (C := RX6) (T := TX6) (N := 7) hx hb hts (fun _ h => List.mem_cons_of_mem _ (List.mem_append_right _ h)) hown hK hP 0 rfl rfl 5 (by decide) (hts (.fieldLink RX6 32 "WinterWalk$Tape" "place" "I") (List.mem_of_getElem? (i := 1) rfl)) (fun _ h9 => h9) rfl dX6_takeNumber_2 ?_
  have k_1 := (p_X6_figuresFrom l D cI cB cQ s.heap.size h tb dr le lf fp pl fy pl tf (by omega) (by omega) (by omega) (by omega))
  refine wc_i (WC := [(h, .inr (5, [.ref tb, .ref dr, .int le, .int lf, .int fp, .int pl, .int fy])), (tb, .inl (cI, 120, .inl tf))]) (WR := []) (va_runV (As := [.int pl]) (rest := []) ⟨hx, hb, hml, hown, hts⟩ k_1 (cwV 1 hts gX6_takeNumber_X6_figuresFrom rfl rfl rfl (by decide +kernel) ⟨Nat.le_of_ble_eq_true rfl, Nat.le_of_ble_eq_true rfl⟩) (wp_V hP hK hD hN [0, 1] (by decide) rfl (ci := 5) rfl rfl) rfl rfl hl.1 rfl (lv_room (Nat.le_of_ble_eq_true rfl)) dX6_takeNumber_5 ⟨Nat.le_of_ble_eq_true rfl, Nat.le_of_ble_eq_true rfl⟩) hP hD hS hA [0, 1] [] rfl rfl (by decide) (by decide) (fun r_1 u_1 H locs hw_1 hP hD hS => ?_)
  clear k_1
  have hP : va_P D kl [(h, .inr (5, [.ref tb, .ref dr, .int le, .int lf, .int fp, .int pl, .int fy])), (tb, .inl (cI, 120, .inl tf))] H := hP
  have hD : va_D A [(h, .inr (5, [.ref tb, .ref dr, .int le, .int lf, .int fp, .int pl, .int fy])), (tb, .inl (cI, 120, .inl tf))] := hD
  obtain ⟨c1_0, c1_1⟩ := hw_1
  have c1_0 : 0 ≤ r_1.toInt ∧ (r_1.toInt = 0 ∨ pl.toInt + r_1.toInt ≤ le.toInt) := c1_0
  have c1_1 : (r_1.toInt ≤ 2 ∧ r_1.toInt = tpn (tbc tf le.toInt) pl.toInt) ∨ (3 ≤ r_1.toInt ∧ tpn (tbc tf le.toInt) pl.toInt = 3) := c1_1
  refine lv_istore_n (lv' := [(3, .int r_1), (0, .ref h), (1, .int a), (2, .int b)]) hx hb dX6_takeNumber_8 rfl hl (by decide) rfl (fun ls hl => ?_)
  refine lv_aload_n hx hb dX6_takeNumber_9 rfl (lv_at hl 1 rfl) ?_
  refine va_get (D := D) (ci := 5) (v := .int fy) (C := RX6) (T := TX6) (N := 7) hx hb hts (fun _ h => List.mem_cons_of_mem _ (List.mem_append_right _ h)) hown hK hP 0 rfl rfl 6 (by decide) (hts (.fieldLink RX6 35 "WinterWalk$Tape" "faulty" "Z") (List.mem_of_getElem? (i := 2) rfl)) (fun _ h9 => h9) rfl dX6_takeNumber_10 ?_
  refine lv_if_ne (tgt := 26) hx hb dX6_takeNumber_13 (by decide) (fun c_2 => ?_) (fun c_2 => ?_)
  · have f_2 : ¬ fy.toInt = 0 := zi_ne c_2
    refine lv_aload_n hx hb dX6_takeNumber_26 rfl (lv_at hl 1 rfl) ?_
    refine lv_iconst (v := 1) hx hb dX6_takeNumber_27 (by decide) ?_
    refine lv_aload_n hx hb dX6_takeNumber_28 rfl (lv_at hl 1 rfl) ?_
    refine va_get (D := D) (ci := 5) (v := .int pl) (C := RX6) (T := TX6) (N := 7) hx hb hts (fun _ h => List.mem_cons_of_mem _ (List.mem_append_right _ h)) hown hK hP 0 rfl rfl 5 (by decide) (hts (.fieldLink RX6 32 "WinterWalk$Tape" "place" "I") (List.mem_of_getElem? (i := 1) rfl)) (fun _ h9 => h9) rfl dX6_takeNumber_29 ?_
    have k_3 := (p_X6_fail l D cI cB cQ H.size h tb dr le lf fp pl fy 1 pl (by omega) (by omega))
    refine wc_v (WC := [(h, .inr (5, [.ref tb, .ref dr, .int le, .int lf, .int fp, .int pl, .int fy]))]) (WR := [(tb, .inl (cI, 120, .inl tf))]) (va_runV (As := [.int 1, .int pl]) (rest := []) ⟨hx, hb, hml, hown, hts⟩ k_3 (cwV 2 hts gX6_takeNumber_X6_fail rfl rfl rfl (by decide +kernel) ⟨Nat.le_of_ble_eq_true rfl, Nat.le_of_ble_eq_true rfl⟩) (wp_V hP hK hD hN [0] (by decide) rfl (ci := 5) rfl rfl) rfl rfl hl.1 rfl (lv_room (Nat.le_of_ble_eq_true rfl)) dX6_takeNumber_32 ⟨Nat.le_of_ble_eq_true rfl, Nat.le_of_ble_eq_true rfl⟩) hP hD hS hA [0] [1] rfl rfl (by decide) (by decide) (pe3 (fun v3_0 v3_1 v3_2 H locs hw_3 hP hD hS => ?_))
    clear k_3
    have hP : va_P D kl [(tb, .inl (cI, 120, .inl tf)), (h, .inr (5, [.ref tb, .ref dr, .int le, .int v3_0, .int v3_1, .int pl, .int v3_2]))] H := hP
    have hD : va_D A [(tb, .inl (cI, 120, .inl tf)), (h, .inr (5, [.ref tb, .ref dr, .int le, .int v3_0, .int v3_1, .int pl, .int v3_2]))] := hD
    obtain ⟨c3_0, c3_1⟩ := hw_3
    have c3_0 : ((v3_2.toInt, v3_0.toInt, v3_1.toInt, pl.toInt) : TPS) = tF (1 : Int) pl.toInt (fy.toInt, lf.toInt, fp.toInt, pl.toInt) := c3_0
    have c3_1 : 0 ≤ v3_1.toInt ∧ v3_1.toInt ≤ 120 := c3_1
    refine lv_iconst (v := 0) hx hb dX6_takeNumber_35 (by decide) ?_
    exact wr_i (v := 0) hx hb hr hlocks hS (v3_0, v3_1, pl, v3_2) (by exact ⟨show ((v3_2.toInt, v3_0.toInt, v3_1.toInt, pl.toInt) : TPS) = tN (tbc tf le.toInt) a.toInt b.toInt (fy.toInt, lf.toInt, fp.toInt, pl.toInt) from by first | exact c3_0.trans (tN_no (Or.inl (by omega))) | exact c3_0.trans (tN_n1 (by omega)), show 0 = tV (tbc tf le.toInt) a.toInt b.toInt (fy.toInt, lf.toInt, fp.toInt, pl.toInt) from by first | exact tV_f (by omega) rfl | exact tV_1 (by omega) rfl, show 0 = 0 ∨ (a.toInt ≤ 0 ∧ 0 ≤ b.toInt) from by omega, show 0 ≤ (v3_1 : Int32).toInt ∧ (v3_1 : Int32).toInt ≤ 120 from by omega, show 0 ≤ (pl : Int32).toInt ∧ (pl : Int32).toInt ≤ 120 from by omega⟩) (hP.sub [1, 0] rfl) (hD.sub [1, 0] (by decide) rfl) dX6_takeNumber_36
  · have f_2 : fy.toInt = 0 := zi_eq c_2
    refine lv_iload_n hx hb dX6_takeNumber_16 rfl (lv_at hl 0 rfl) ?_
    refine lv_iconst (v := 1) hx hb dX6_takeNumber_17 (by decide) ?_
    refine lv_icmp_lt (tgt := 26) hx hb dX6_takeNumber_18 (by decide) (fun c_4 => ?_) (fun c_4 => ?_)
    · have f_4 : r_1.toInt < 1 := zi_lt c_4
      refine lv_aload_n hx hb dX6_takeNumber_26 rfl (lv_at hl 1 rfl) ?_
      refine lv_iconst (v := 1) hx hb dX6_takeNumber_27 (by decide) ?_
      refine lv_aload_n hx hb dX6_takeNumber_28 rfl (lv_at hl 1 rfl) ?_
      refine va_get (D := D) (ci := 5) (v := .int pl) (C := RX6) (T := TX6) (N := 7) hx hb hts (fun _ h => List.mem_cons_of_mem _ (List.mem_append_right _ h)) hown hK hP 0 rfl rfl 5 (by decide) (hts (.fieldLink RX6 32 "WinterWalk$Tape" "place" "I") (List.mem_of_getElem? (i := 1) rfl)) (fun _ h9 => h9) rfl dX6_takeNumber_29 ?_
      have k_5 := (p_X6_fail l D cI cB cQ H.size h tb dr le lf fp pl fy 1 pl (by omega) (by omega))
      refine wc_v (WC := [(h, .inr (5, [.ref tb, .ref dr, .int le, .int lf, .int fp, .int pl, .int fy]))]) (WR := [(tb, .inl (cI, 120, .inl tf))]) (va_runV (As := [.int 1, .int pl]) (rest := []) ⟨hx, hb, hml, hown, hts⟩ k_5 (cwV 2 hts gX6_takeNumber_X6_fail rfl rfl rfl (by decide +kernel) ⟨Nat.le_of_ble_eq_true rfl, Nat.le_of_ble_eq_true rfl⟩) (wp_V hP hK hD hN [0] (by decide) rfl (ci := 5) rfl rfl) rfl rfl hl.1 rfl (lv_room (Nat.le_of_ble_eq_true rfl)) dX6_takeNumber_32 ⟨Nat.le_of_ble_eq_true rfl, Nat.le_of_ble_eq_true rfl⟩) hP hD hS hA [0] [1] rfl rfl (by decide) (by decide) (pe3 (fun v5_0 v5_1 v5_2 H locs hw_5 hP hD hS => ?_))
      clear k_5
      have hP : va_P D kl [(tb, .inl (cI, 120, .inl tf)), (h, .inr (5, [.ref tb, .ref dr, .int le, .int v5_0, .int v5_1, .int pl, .int v5_2]))] H := hP
      have hD : va_D A [(tb, .inl (cI, 120, .inl tf)), (h, .inr (5, [.ref tb, .ref dr, .int le, .int v5_0, .int v5_1, .int pl, .int v5_2]))] := hD
      obtain ⟨c5_0, c5_1⟩ := hw_5
      have c5_0 : ((v5_2.toInt, v5_0.toInt, v5_1.toInt, pl.toInt) : TPS) = tF (1 : Int) pl.toInt (fy.toInt, lf.toInt, fp.toInt, pl.toInt) := c5_0
      have c5_1 : 0 ≤ v5_1.toInt ∧ v5_1.toInt ≤ 120 := c5_1
      refine lv_iconst (v := 0) hx hb dX6_takeNumber_35 (by decide) ?_
      exact wr_i (v := 0) hx hb hr hlocks hS (v5_0, v5_1, pl, v5_2) (by exact ⟨show ((v5_2.toInt, v5_0.toInt, v5_1.toInt, pl.toInt) : TPS) = tN (tbc tf le.toInt) a.toInt b.toInt (fy.toInt, lf.toInt, fp.toInt, pl.toInt) from by first | exact c5_0.trans (tN_no (Or.inl (by omega))) | exact c5_0.trans (tN_n1 (by omega)), show 0 = tV (tbc tf le.toInt) a.toInt b.toInt (fy.toInt, lf.toInt, fp.toInt, pl.toInt) from by first | exact tV_f (by omega) rfl | exact tV_1 (by omega) rfl, show 0 = 0 ∨ (a.toInt ≤ 0 ∧ 0 ≤ b.toInt) from by omega, show 0 ≤ (v5_1 : Int32).toInt ∧ (v5_1 : Int32).toInt ≤ 120 from by omega, show 0 ≤ (pl : Int32).toInt ∧ (pl : Int32).toInt ≤ 120 from by omega⟩) (hP.sub [1, 0] rfl) (hD.sub [1, 0] (by decide) rfl) dX6_takeNumber_36
    · have f_4 : ¬ r_1.toInt < 1 := zi_nlt c_4
      refine lv_iload_n hx hb dX6_takeNumber_21 rfl (lv_at hl 0 rfl) ?_
      refine lv_iconst (v := 2) hx hb dX6_takeNumber_22 (by decide) ?_
      refine lv_icmp_le (tgt := 37) hx hb dX6_takeNumber_23 (by decide) (fun c_6 => ?_) (fun c_6 => ?_)
      · have f_6 : r_1.toInt ≤ 2 := zi_le c_6
        refine lv_iconst (v := 0) hx hb dX6_takeNumber_37 (by decide) ?_
        refine lv_istore (lv' := [(4, .int 0), (3, .int r_1), (0, .ref h), (1, .int a), (2, .int b)]) hx hb dX6_takeNumber_38 hl (by decide) rfl (fun ls hl => ?_)
        refine lv_aload_n hx hb dX6_takeNumber_40 rfl (lv_at hl 2 rfl) ?_
        refine va_get (D := D) (ci := 5) (v := .int pl) (C := RX6) (T := TX6) (N := 7) hx hb hts (fun _ h => List.mem_cons_of_mem _ (List.mem_append_right _ h)) hown hK hP 0 rfl rfl 5 (by decide) (hts (.fieldLink RX6 32 "WinterWalk$Tape" "place" "I") (List.mem_of_getElem? (i := 1) rfl)) (fun _ h9 => h9) rfl dX6_takeNumber_41 ?_
        refine lv_istore (lv' := [(5, .int pl), (4, .int 0), (3, .int r_1), (0, .ref h), (1, .int a), (2, .int b)]) hx hb dX6_takeNumber_44 hl (by decide) rfl (fun ls hl => ?_)
        have hL46 : ∀ (nf : Nat) (t5_c46 : Int32) (t4_c46 : Int32) (H : Heap) (locs : List Loc) (ls : Array Slot), (0 ≤ t5_c46.toInt ∧ t5_c46.toInt ≤ 125) → (0 ≤ t4_c46.toInt ∧ t4_c46.toInt ≤ 99) → (t5_c46.toInt ≤ pl.toInt + r_1.toInt) → (pl.toInt ≤ t5_c46.toInt) → (tnv (tbc tf le.toInt) pl.toInt t5_c46.toInt t4_c46.toInt) → (125 - t5_c46.toInt).toNat < nf → va_P D kl [(h, .inr (5, [.ref tb, .ref dr, .int le, .int lf, .int fp, .int pl, .int fy])), (tb, .inl (cI, 120, .inl tf))] H → va_D A [(h, .inr (5, [.ref tb, .ref dr, .int le, .int lf, .int fp, .int pl, .int fy])), (tb, .inl (cI, 120, .inl tf))] → va_S A s.heap H locs → lv_has ls 6 [(5, .int t5_c46), (4, .int t4_c46), (3, .int r_1), (0, .ref h), (1, .int a), (2, .int b)] → W p l e ({ frames := 2, cells := 0, slots := 0, locals := 45 }) s m ([.ref h, .int a, .int b] : List Value).toArray below meth c H locs 0 0 (MQ below (va_Qi (fun (r : Int32) (u : Int32 × Int32 × Int32 × Int32) => (((u.2.2.2.toInt, u.1.toInt, u.2.1.toInt, u.2.2.1.toInt) : TPS) = tN (tbc tf le.toInt) a.toInt b.toInt (fy.toInt, lf.toInt, fp.toInt, pl.toInt)) ∧ (r.toInt = tV (tbc tf le.toInt) a.toInt b.toInt (fy.toInt, lf.toInt, fp.toInt, pl.toInt)) ∧ (r.toInt = 0 ∨ (a.toInt ≤ r.toInt ∧ r.toInt ≤ b.toInt)) ∧ (0 ≤ u.2.1.toInt ∧ u.2.1.toInt ≤ 120) ∧ (0 ≤ u.2.2.1.toInt ∧ u.2.2.1.toInt ≤ 120)) (fun u t => wb D A ((fun u => [(h, .inr (5, [.ref tb, .ref dr, .int le, .int u.1, .int u.2.1, .int u.2.2.1, .int u.2.2.2])), (tb, .inl (cI, 120, .inl tf))]) u) t) A) ([.ref h, .int a, .int b] : List Value).toArray s 0 0 A) (F0 m 46 ls []) := by
          intro nf
          induction nf with
          | zero =>
            intro t5_c46 t4_c46 H locs ls i_t5_c46 i_t4_c46 j0_c46 j1_c46 q0_c46 hm
            exact absurd hm (Nat.not_lt_zero _)
          | succ nf ih46 =>
            intro t5_c46 t4_c46 H locs ls i_t5_c46 i_t4_c46 j0_c46 j1_c46 q0_c46 hm46 hP hD hS hl
            refine lv_iload hx hb dX6_takeNumber_46 (lv_at hl 0 rfl) ?_
            refine lv_aload_n hx hb dX6_takeNumber_48 rfl (lv_at hl 3 rfl) ?_
            refine va_get (D := D) (ci := 5) (v := .int pl) (C := RX6) (T := TX6) (N := 7) hx hb hts (fun _ h => List.mem_cons_of_mem _ (List.mem_append_right _ h)) hown hK hP 0 rfl rfl 5 (by decide) (hts (.fieldLink RX6 32 "WinterWalk$Tape" "place" "I") (List.mem_of_getElem? (i := 1) rfl)) (fun _ h9 => h9) rfl dX6_takeNumber_49 ?_
            refine lv_iload_n hx hb dX6_takeNumber_52 rfl (lv_at hl 2 rfl) ?_
            refine lv_iadd hx hb dX6_takeNumber_53 ?_
            refine lv_topi (fun x_7 ex_7 => ?_)
            have e_7 : x_7.toInt = pl.toInt + r_1.toInt := by rw [ex_7]; exact zi_add (rfl) (rfl) (by omega) (by omega)
            clear ex_7
            refine lv_icmp_ge (tgt := 80) hx hb dX6_takeNumber_54 (by decide) (fun c_8 => ?_) (fun c_8 => ?_)
            · have f_8 : x_7.toInt ≤ t5_c46.toInt := zi_le c_8
              refine lv_iload_n hx hb dX6_takeNumber_80 rfl (lv_at hl 4 rfl) ?_
              refine lv_iload hx hb dX6_takeNumber_81 (lv_at hl 1 rfl) ?_
              refine lv_iload_n hx hb dX6_takeNumber_83 rfl (lv_at hl 5 rfl) ?_
              have k_9 := (g_X7_isFrom l D cI cB cQ H.size a t4_c46 b)
              refine wc_i (WC := []) (WR := [(h, .inr (5, [.ref tb, .ref dr, .int le, .int lf, .int fp, .int pl, .int fy])), (tb, .inl (cI, 120, .inl tf))]) (va_runSN (As := [.int a, .int t4_c46, .int b]) (rest := []) ⟨hx, hb, hml, hown, hts⟩ k_9 (⟨va_cnB 3 hts gX6_takeNumber_X7_isFrom_n126 rfl rfl rfl hN.2.2.2.2.2.2.1 (hts (.initialized RX7) (List.mem_of_getElem? (i := 15) rfl)) (by decide +kernel) ⟨Nat.le_of_ble_eq_true rfl, Nat.le_of_ble_eq_true rfl⟩, (hts (.static yX7_isFrom) (List.mem_of_getElem? (i := 14) rfl)), trivial⟩) (wp_S hP hK hD hN [] (by decide) rfl) rfl rfl hl.1 rfl (lv_room (Nat.le_of_ble_eq_true rfl)) dX6_takeNumber_84 ⟨Nat.le_of_ble_eq_true rfl, Nat.le_of_ble_eq_true rfl⟩) hP hD hS hA [] [0, 1] rfl rfl (by decide) (by decide) (fun r_9 u_9 H locs hw_9 hP hD hS => ?_)
              clear k_9
              have hP : va_P D kl [(h, .inr (5, [.ref tb, .ref dr, .int le, .int lf, .int fp, .int pl, .int fy])), (tb, .inl (cI, 120, .inl tf))] H := hP
              have hD : va_D A [(h, .inr (5, [.ref tb, .ref dr, .int le, .int lf, .int fp, .int pl, .int fy])), (tb, .inl (cI, 120, .inl tf))] := hD
              have c9_0 := hw_9
              rcases c9_0 with ⟨e_9, f_9⟩ | ⟨e_9, f_9⟩
              · subst e_9
                have f_9 : a.toInt ≤ t4_c46.toInt ∧ t4_c46.toInt ≤ b.toInt := f_9
                refine lv_if_ne (tgt := 101) hx hb dX6_takeNumber_87 (by decide) (fun _ => ?_) (fun c9 => absurd c9 (by decide))
                refine lv_aload_n hx hb dX6_takeNumber_101 rfl (lv_at hl 3 rfl) ?_
                refine lv_dup hx hb dX6_takeNumber_102 rfl ?_
                refine va_get (D := D) (ci := 5) (v := .int pl) (C := RX6) (T := TX6) (N := 7) hx hb hts (fun _ h => List.mem_cons_of_mem _ (List.mem_append_right _ h)) hown hK hP 0 rfl rfl 5 (by decide) (hts (.fieldLink RX6 32 "WinterWalk$Tape" "place" "I") (List.mem_of_getElem? (i := 1) rfl)) (fun _ h9 => h9) rfl dX6_takeNumber_103 ?_
                refine lv_iload_n hx hb dX6_takeNumber_106 rfl (lv_at hl 2 rfl) ?_
                refine lv_iadd hx hb dX6_takeNumber_107 ?_
                refine lv_topi (fun x_10 ex_10 => ?_)
                have e_10 : x_10.toInt = pl.toInt + r_1.toInt := by rw [ex_10]; exact zi_add (rfl) (rfl) (by omega) (by omega)
                clear ex_10
                refine va_put (D := D) (ci := 5) (v := .int x_10) (ty := .int) (C := RX6) (T := TX6) (N := 7) hx hb hts (fun _ h => List.mem_cons_of_mem _ (List.mem_append_right _ h)) tyX6 tyX6_ok nmX6 hown hK hP hD hS 0 rfl rfl 5 (by decide) (hts (.fieldLink RX6 32 "WinterWalk$Tape" "place" "I") (List.mem_of_getElem? (i := 1) rfl)) (fun _ h9 => h9) rfl (by decide +kernel) rfl rfl (Nat.le_of_ble_eq_true rfl) dX6_takeNumber_108 (fun H locs hP hD hS => ?_)
                have hP : va_P D kl [(h, .inr (5, [.ref tb, .ref dr, .int le, .int lf, .int fp, .int x_10, .int fy])), (tb, .inl (cI, 120, .inl tf))] H := hP
                have hD : va_D A [(h, .inr (5, [.ref tb, .ref dr, .int le, .int lf, .int fp, .int x_10, .int fy])), (tb, .inl (cI, 120, .inl tf))] := hD
                refine lv_iload hx hb dX6_takeNumber_111 (lv_at hl 1 rfl) ?_
                exact wr_i (v := t4_c46) hx hb hr hlocks hS (lf, fp, x_10, fy) (by exact ⟨show ((fy.toInt, lf.toInt, fp.toInt, x_10.toInt) : TPS) = tN (tbc tf le.toInt) a.toInt b.toInt (fy.toInt, lf.toInt, fp.toInt, pl.toInt) from tN_o (by omega) (by omega) (tnv_e (t := r_1.toInt) q0_c46 (by omega) (by omega) (by omega)) (by omega) (by omega), show t4_c46.toInt = tV (tbc tf le.toInt) a.toInt b.toInt (fy.toInt, lf.toInt, fp.toInt, pl.toInt) from tV_o (by omega) (by omega) (tnv_e (t := r_1.toInt) q0_c46 (by omega) (by omega) (by omega)) (by omega), show t4_c46.toInt = 0 ∨ (a.toInt ≤ t4_c46.toInt ∧ t4_c46.toInt ≤ b.toInt) from by omega, show 0 ≤ (fp : Int32).toInt ∧ (fp : Int32).toInt ≤ 120 from by omega, show 0 ≤ (x_10 : Int32).toInt ∧ (x_10 : Int32).toInt ≤ 120 from by omega⟩) (hP.sub [0, 1] rfl) (hD.sub [0, 1] (by decide) rfl) dX6_takeNumber_113
              · subst e_9
                have f_9 : ¬ (a.toInt ≤ t4_c46.toInt ∧ t4_c46.toInt ≤ b.toInt) := f_9
                refine lv_if_ne (tgt := 101) hx hb dX6_takeNumber_87 (by decide) (fun c9 => absurd (by decide) c9) (fun _ => ?_)
                refine lv_aload_n hx hb dX6_takeNumber_90 rfl (lv_at hl 3 rfl) ?_
                refine lv_iconst (v := 2) hx hb dX6_takeNumber_91 (by decide) ?_
                refine lv_aload_n hx hb dX6_takeNumber_92 rfl (lv_at hl 3 rfl) ?_
                refine va_get (D := D) (ci := 5) (v := .int pl) (C := RX6) (T := TX6) (N := 7) hx hb hts (fun _ h => List.mem_cons_of_mem _ (List.mem_append_right _ h)) hown hK hP 0 rfl rfl 5 (by decide) (hts (.fieldLink RX6 32 "WinterWalk$Tape" "place" "I") (List.mem_of_getElem? (i := 1) rfl)) (fun _ h9 => h9) rfl dX6_takeNumber_93 ?_
                have k_11 := (p_X6_fail l D cI cB cQ H.size h tb dr le lf fp pl fy 2 pl (by omega) (by omega))
                refine wc_v (WC := [(h, .inr (5, [.ref tb, .ref dr, .int le, .int lf, .int fp, .int pl, .int fy]))]) (WR := [(tb, .inl (cI, 120, .inl tf))]) (va_runV (As := [.int 2, .int pl]) (rest := []) ⟨hx, hb, hml, hown, hts⟩ k_11 (cwV 2 hts gX6_takeNumber_X6_fail rfl rfl rfl (by decide +kernel) ⟨Nat.le_of_ble_eq_true rfl, Nat.le_of_ble_eq_true rfl⟩) (wp_V hP hK hD hN [0] (by decide) rfl (ci := 5) rfl rfl) rfl rfl hl.1 rfl (lv_room (Nat.le_of_ble_eq_true rfl)) dX6_takeNumber_96 ⟨Nat.le_of_ble_eq_true rfl, Nat.le_of_ble_eq_true rfl⟩) hP hD hS hA [0] [1] rfl rfl (by decide) (by decide) (pe3 (fun v11_0 v11_1 v11_2 H locs hw_11 hP hD hS => ?_))
                clear k_11
                have hP : va_P D kl [(tb, .inl (cI, 120, .inl tf)), (h, .inr (5, [.ref tb, .ref dr, .int le, .int v11_0, .int v11_1, .int pl, .int v11_2]))] H := hP
                have hD : va_D A [(tb, .inl (cI, 120, .inl tf)), (h, .inr (5, [.ref tb, .ref dr, .int le, .int v11_0, .int v11_1, .int pl, .int v11_2]))] := hD
                obtain ⟨c11_0, c11_1⟩ := hw_11
                have c11_0 : ((v11_2.toInt, v11_0.toInt, v11_1.toInt, pl.toInt) : TPS) = tF (2 : Int) pl.toInt (fy.toInt, lf.toInt, fp.toInt, pl.toInt) := c11_0
                have c11_1 : 0 ≤ v11_1.toInt ∧ v11_1.toInt ≤ 120 := c11_1
                refine lv_iconst (v := 0) hx hb dX6_takeNumber_99 (by decide) ?_
                exact wr_i (v := 0) hx hb hr hlocks hS (v11_0, v11_1, pl, v11_2) (by exact ⟨show ((v11_2.toInt, v11_0.toInt, v11_1.toInt, pl.toInt) : TPS) = tN (tbc tf le.toInt) a.toInt b.toInt (fy.toInt, lf.toInt, fp.toInt, pl.toInt) from c11_0.trans (tN_n2 (by omega) (tnv_e (t := r_1.toInt) q0_c46 (by omega) (by omega) (by omega)) (by omega)), show 0 = tV (tbc tf le.toInt) a.toInt b.toInt (fy.toInt, lf.toInt, fp.toInt, pl.toInt) from tV_2 (by omega) (tnv_e (t := r_1.toInt) q0_c46 (by omega) (by omega) (by omega)) (by omega) rfl, show 0 = 0 ∨ (a.toInt ≤ 0 ∧ 0 ≤ b.toInt) from by omega, show 0 ≤ (v11_1 : Int32).toInt ∧ (v11_1 : Int32).toInt ≤ 120 from by omega, show 0 ≤ (pl : Int32).toInt ∧ (pl : Int32).toInt ≤ 120 from by omega⟩) (hP.sub [1, 0] rfl) (hD.sub [1, 0] (by decide) rfl) dX6_takeNumber_100
            · have f_8 : ¬ x_7.toInt ≤ t5_c46.toInt := zi_nle c_8
              refine lv_iload hx hb dX6_takeNumber_57 (lv_at hl 1 rfl) ?_
              refine lv_bipush (v := 10) hx hb dX6_takeNumber_59 (by decide) ?_
              refine lv_imul hx hb dX6_takeNumber_61 ?_
              refine lv_topi (fun x_12 ex_12 => ?_)
              have e_12 : x_12.toInt = t4_c46.toInt * 10 := by rw [ex_12]; exact zi_mul (rfl) (by decide) (by omega) (by omega)
              clear ex_12
              refine lv_aload_n hx hb dX6_takeNumber_62 rfl (lv_at hl 3 rfl) ?_
              refine lv_iload hx hb dX6_takeNumber_63 (lv_at hl 0 rfl) ?_
              have k_13 := (p_X6_byteAt l D cI cB cQ H.size h tb dr le lf fp pl fy t5_c46 tf (by omega) (by omega) (by omega))
              refine wc_i (WC := [(h, .inr (5, [.ref tb, .ref dr, .int le, .int lf, .int fp, .int pl, .int fy])), (tb, .inl (cI, 120, .inl tf))]) (WR := []) (va_runV (As := [.int t5_c46]) (rest := [.int x_12]) ⟨hx, hb, hml, hown, hts⟩ k_13 (cwV 1 hts gX6_takeNumber_X6_byteAt rfl rfl rfl (by decide +kernel) ⟨Nat.le_of_ble_eq_true rfl, Nat.le_of_ble_eq_true rfl⟩) (wp_V hP hK hD hN [0, 1] (by decide) rfl (ci := 5) rfl rfl) rfl rfl hl.1 rfl (lv_room (Nat.le_of_ble_eq_true rfl)) dX6_takeNumber_65 ⟨Nat.le_of_ble_eq_true rfl, Nat.le_of_ble_eq_true rfl⟩) hP hD hS hA [0, 1] [] rfl rfl (by decide) (by decide) (fun r_13 u_13 H locs hw_13 hP hD hS => ?_)
              clear k_13
              have hP : va_P D kl [(h, .inr (5, [.ref tb, .ref dr, .int le, .int lf, .int fp, .int pl, .int fy])), (tb, .inl (cI, 120, .inl tf))] H := hP
              have hD : va_D A [(h, .inr (5, [.ref tb, .ref dr, .int le, .int lf, .int fp, .int pl, .int fy])), (tb, .inl (cI, 120, .inl tf))] := hD
              have c13_0 := hw_13
              have c13_0 : (r_13.toInt = tbc tf le.toInt t5_c46.toInt ∨ (128 ≤ r_13.toInt ∧ tbc tf le.toInt t5_c46.toInt = (-1))) ∧ (r_13.toInt = (-1) ∨ (0 ≤ t5_c46.toInt ∧ t5_c46.toInt < le.toInt)) := c13_0
              have hd_13 := tnv_d (B := (tbc tf le.toInt)) (p := pl.toInt) (i := t5_c46.toInt) (t := r_1.toInt) (by omega) (by omega) (by omega)
              have hb_13 : 48 ≤ r_13.toInt ∧ r_13.toInt ≤ 57 := by omega
              have hn_13 := tnv_s (b := r_13.toInt) (n' := t4_c46.toInt * 10 + r_13.toInt - 48) (i' := t5_c46.toInt + 1) q0_c46 (by omega) (by omega) rfl rfl
              have hg_13 := tnv_r (t := r_1.toInt) hn_13 (by omega) (by omega) (by omega)
              refine lv_iadd hx hb dX6_takeNumber_68 ?_
              refine lv_topi (fun x_14 ex_14 => ?_)
              have e_14 : x_14.toInt = x_12.toInt + r_13.toInt := by rw [ex_14]; exact zi_add (rfl) (rfl) (by omega) (by omega)
              clear ex_14
              refine lv_bipush (v := 48) hx hb dX6_takeNumber_69 (by decide) ?_
              refine lv_isub hx hb dX6_takeNumber_71 ?_
              refine lv_topi (fun x_15 ex_15 => ?_)
              have e_15 : x_15.toInt = x_14.toInt - 48 := by rw [ex_15]; exact zi_sub (rfl) (by decide) (by omega) (by omega)
              clear ex_15
              refine lv_istore (lv' := [(4, .int x_15), (5, .int t5_c46), (3, .int r_1), (0, .ref h), (1, .int a), (2, .int b)]) hx hb dX6_takeNumber_72 hl (by decide) rfl (fun ls hl => ?_)
              obtain ⟨x_16, ex_16⟩ : ∃ y : Int32, y = t5_c46 + Int32.ofInt 1 := ⟨_, rfl⟩
              refine lv_iinc (v := x_16) (lv' := [(5, .int x_16), (4, .int x_15), (3, .int r_1), (0, .ref h), (1, .int a), (2, .int b)]) hx hb dX6_takeNumber_74 hl (k := 1) rfl ex_16.symm (by decide) rfl (fun ls hl => ?_)
              have ex_16 : x_16 = t5_c46 + 1 := ex_16
              have e_16 : x_16.toInt = t5_c46.toInt + 1 := by rw [ex_16]; exact zi_add (rfl) (by decide) (by omega) (by omega)
              clear ex_16
              refine lv_goto (tgt := 46) hx hb dX6_takeNumber_77 (by decide) ?_
              exact ih46 x_16 x_15 _ _ _ (show 0 ≤ x_16.toInt ∧ x_16.toInt ≤ 125 from by omega) (show 0 ≤ x_15.toInt ∧ x_15.toInt ≤ 99 from by omega) (show x_16.toInt ≤ pl.toInt + r_1.toInt from by omega) (show pl.toInt ≤ x_16.toInt from by omega) (tnv_s (b := r_13.toInt) q0_c46 (by omega) (by omega) (by omega) (by omega)) (by omega) (hP.sub [0, 1] rfl) (hD.sub [0, 1] (by decide) rfl) hS (lv_sub hl [0, 1, 2, 3, 4, 5] rfl)
        exact hL46 (((125 - (pl : Int32).toInt).toNat) + 1) pl 0 _ _ _ (show 0 ≤ pl.toInt ∧ pl.toInt ≤ 125 from by omega) (show 0 ≤ 0 ∧ 0 ≤ 99 from by omega) (show pl.toInt ≤ pl.toInt + r_1.toInt from by omega) (show pl.toInt ≤ pl.toInt from by omega) (tnv_0 rfl (by decide)) (Nat.lt_succ_self _) (hP.sub [0, 1] rfl) (hD.sub [0, 1] (by decide) rfl) hS (lv_sub hl [0, 1, 2, 3, 4, 5] rfl)
      · have f_6 : ¬ r_1.toInt ≤ 2 := zi_nle c_6
        refine lv_aload_n hx hb dX6_takeNumber_26 rfl (lv_at hl 1 rfl) ?_
        refine lv_iconst (v := 1) hx hb dX6_takeNumber_27 (by decide) ?_
        refine lv_aload_n hx hb dX6_takeNumber_28 rfl (lv_at hl 1 rfl) ?_
        refine va_get (D := D) (ci := 5) (v := .int pl) (C := RX6) (T := TX6) (N := 7) hx hb hts (fun _ h => List.mem_cons_of_mem _ (List.mem_append_right _ h)) hown hK hP 0 rfl rfl 5 (by decide) (hts (.fieldLink RX6 32 "WinterWalk$Tape" "place" "I") (List.mem_of_getElem? (i := 1) rfl)) (fun _ h9 => h9) rfl dX6_takeNumber_29 ?_
        have k_17 := (p_X6_fail l D cI cB cQ H.size h tb dr le lf fp pl fy 1 pl (by omega) (by omega))
        refine wc_v (WC := [(h, .inr (5, [.ref tb, .ref dr, .int le, .int lf, .int fp, .int pl, .int fy]))]) (WR := [(tb, .inl (cI, 120, .inl tf))]) (va_runV (As := [.int 1, .int pl]) (rest := []) ⟨hx, hb, hml, hown, hts⟩ k_17 (cwV 2 hts gX6_takeNumber_X6_fail rfl rfl rfl (by decide +kernel) ⟨Nat.le_of_ble_eq_true rfl, Nat.le_of_ble_eq_true rfl⟩) (wp_V hP hK hD hN [0] (by decide) rfl (ci := 5) rfl rfl) rfl rfl hl.1 rfl (lv_room (Nat.le_of_ble_eq_true rfl)) dX6_takeNumber_32 ⟨Nat.le_of_ble_eq_true rfl, Nat.le_of_ble_eq_true rfl⟩) hP hD hS hA [0] [1] rfl rfl (by decide) (by decide) (pe3 (fun v17_0 v17_1 v17_2 H locs hw_17 hP hD hS => ?_))
        clear k_17
        have hP : va_P D kl [(tb, .inl (cI, 120, .inl tf)), (h, .inr (5, [.ref tb, .ref dr, .int le, .int v17_0, .int v17_1, .int pl, .int v17_2]))] H := hP
        have hD : va_D A [(tb, .inl (cI, 120, .inl tf)), (h, .inr (5, [.ref tb, .ref dr, .int le, .int v17_0, .int v17_1, .int pl, .int v17_2]))] := hD
        obtain ⟨c17_0, c17_1⟩ := hw_17
        have c17_0 : ((v17_2.toInt, v17_0.toInt, v17_1.toInt, pl.toInt) : TPS) = tF (1 : Int) pl.toInt (fy.toInt, lf.toInt, fp.toInt, pl.toInt) := c17_0
        have c17_1 : 0 ≤ v17_1.toInt ∧ v17_1.toInt ≤ 120 := c17_1
        refine lv_iconst (v := 0) hx hb dX6_takeNumber_35 (by decide) ?_
        exact wr_i (v := 0) hx hb hr hlocks hS (v17_0, v17_1, pl, v17_2) (by exact ⟨show ((v17_2.toInt, v17_0.toInt, v17_1.toInt, pl.toInt) : TPS) = tN (tbc tf le.toInt) a.toInt b.toInt (fy.toInt, lf.toInt, fp.toInt, pl.toInt) from by first | exact c17_0.trans (tN_no (Or.inl (by omega))) | exact c17_0.trans (tN_n1 (by omega)), show 0 = tV (tbc tf le.toInt) a.toInt b.toInt (fy.toInt, lf.toInt, fp.toInt, pl.toInt) from by first | exact tV_f (by omega) rfl | exact tV_1 (by omega) rfl, show 0 = 0 ∨ (a.toInt ≤ 0 ∧ 0 ≤ b.toInt) from by omega, show 0 ≤ (v17_1 : Int32).toInt ∧ (v17_1 : Int32).toInt ≤ 120 from by omega, show 0 ≤ (pl : Int32).toInt ∧ (pl : Int32).toInt ≤ 120 from by omega⟩) (hP.sub [1, 0] rfl) (hD.sub [1, 0] (by decide) rfl) dX6_takeNumber_36
