theorem nb_c {v : Int32} (h : 0 ≤ v.toInt ∧ v.toInt ≤ 255) : ((vp_nar .byte v.toInt8.toInt32).toInt = v.toInt ∧ v.toInt < 128) ∨ (128 ≤ v.toInt ∧ (vp_nar .byte v.toInt8.toInt32).toInt < 0) := by
  have e1 : vp_nar .byte v.toInt8.toInt32 = v.toInt8.toInt32.toInt8.toInt32 := rfl
  have e2 : v.toInt.bmod (2 ^ 8) = v.toInt ∧ v.toInt < 128 ∨ 128 ≤ v.toInt ∧ v.toInt.bmod (2 ^ 8) = v.toInt - 256 := by
    have e0 : v.toInt.bmod (2 ^ 8) = if v.toInt % 256 < 128 then v.toInt % 256 else v.toInt % 256 - 256 := rfl
    rw [e0]
    by_cases c : v.toInt % 256 < 128
    · rw [if_pos c]; omega
    · rw [if_neg c]; omega
  have e3 : (v.toInt.bmod (2 ^ 8)).bmod (2 ^ 8) = v.toInt.bmod (2 ^ 8) := Int.bmod_bmod
  rw [e1, Int8.toInt_toInt32, Int32.toInt_toInt8, Int8.toInt_toInt32, Int32.toInt_toInt8, e3]
  omega
theorem TR.feed {f g : Nat → Int32} {le m v le' : Int32} (h : TR f g le.toInt) (hm : le.toInt = m.toInt) (h0 : 0 ≤ le.toInt) (hl : (((0 ≤ v.toInt ∧ v.toInt ≤ 255) ∧ le.toInt < 120) ∧ le'.toInt = le.toInt + 1) ∨ (¬ ((0 ≤ v.toInt ∧ v.toInt ≤ 255) ∧ le.toInt < 120) ∧ le'.toInt = le.toInt)) : TR (rr_up ((0 ≤ v.toInt ∧ v.toInt ≤ 255) ∧ le.toInt < 120) f le v) (rr_up ((0 ≤ v.toInt ∧ v.toInt ≤ 255) ∧ m.toInt < 120) g m (vp_nar .byte v.toInt8.toInt32)) le'.toInt := by
  obtain rfl : le = m := Int32.toInt_inj.mp hm
  by_cases c : (0 ≤ v.toInt ∧ v.toInt ≤ 255) ∧ le.toInt < 120
  · rw [rr_pos c, rr_pos c]
    intro j hj
    have e1 := zi_cn h0
    by_cases e : j = le.toNatClampNeg
    · rw [e, pk_us, pk_us]
      have h9 := nb_c c.1
      omega
    · rw [pk_un e, pk_un e]
      exact h j (by omega)
  · rw [rr_neg c, rr_neg c]
    intro j hj
    exact h j (by omega)
set_option maxHeartbeats 4000000 in
set_option maxRecDepth 100000 in
theorem p_X6_byteAt (l : Launch) (D : va_G) (cI cB cQ : ClassId) (sz : Nat) (h : Nat) (tb : Nat) (dr : Nat) (le : Int32) (lf : Int32) (fp : Int32) (pl : Int32) (fy : Int32) (i : Int32) (tf : Nat → Int32) (h_le : 0 ≤ le.toInt ∧ le.toInt ≤ 120) (h_fp : 0 ≤ fp.toInt ∧ fp.toInt ≤ 120) (h_pl : 0 ≤ pl.toInt ∧ pl.toInt ≤ 120) : mi l yX6_byteAt wsX6_byteAt ({ frames := 0, cells := 0, slots := 0, locals := 0 }) D cI cB cQ [.ref h, .int i] sz [(h, .inr (5, [.ref tb, .ref dr, .int le, .int lf, .int fp, .int pl, .int fy])), (tb, .inl (cI, 120, .inl tf))] (fun (r : Int32) (_u : Unit) => ((r.toInt = tbc tf le.toInt i.toInt ∨ (128 ≤ r.toInt ∧ tbc tf le.toInt i.toInt = (-1))) ∧ (r.toInt = (-1) ∨ (0 ≤ i.toInt ∧ i.toInt < le.toInt)))) (fun _ => [(h, .inr (5, [.ref tb, .ref dr, .int le, .int lf, .int fp, .int pl, .int fy])), (tb, .inl (cI, 120, .inl tf))]) 0 0 := by
  refine wm_i (cc := cX6_byteAt) (maxL := 2) (ret := (some .int)) (by decide) rfl (Nat.le_of_ble_eq_true rfl) ?_
  intro p e s m below meth c A ls hx hb hr hml hown hts hlocks hin hP hK hD hN hA hl hS
  have hown : s.vm.findClass RX6 = some m.cls := hown
  have hl : lv_has ls 2 [(0, .ref h), (1, .int i)] := hl
  change W p l e ({ frames := 0, cells := 0, slots := 0, locals := 0 }) s m ([.ref h, .int i] : List Value).toArray below meth c s.heap [] 0 0 (MQ below (va_Qi (fun (r : Int32) (_u : Unit) => ((r.toInt = tbc tf le.toInt i.toInt ∨ (128 ≤ r.toInt ∧ tbc tf le.toInt i.toInt = (-1))) ∧ (r.toInt = (-1) ∨ (0 ≤ i.toInt ∧ i.toInt < le.toInt)))) (fun u t => wb D A ((fun _ => [(h, .inr (5, [.ref tb, .ref dr, .int le, .int lf, .int fp, .int pl, .int fy])), (tb, .inl (cI, 120, .inl tf))]) u) t) A) ([.ref h, .int i] : List Value).toArray s 0 0 A) (F0 m 0 ls [])
  have hB := tbc_c tf le.toInt i
  refine lv_iload_n hx hb dX6_byteAt_0 rfl (lv_at hl 1 rfl) ?_
  refine lv_if_lt (tgt := 21) hx hb dX6_byteAt_1 (by decide) (fun c_1 => ?_) (fun c_1 => ?_)
  · have f_1 : i.toInt < 0 := zi_lt c_1
    refine lv_iconst (v := (-1)) hx hb dX6_byteAt_21 (by decide) ?_
    exact wr_i (v := (-1)) hx hb hr hlocks hS () (by exact show ((-1) = tbc tf le.toInt i.toInt ∨ (128 ≤ (-1) ∧ tbc tf le.toInt i.toInt = (-1))) ∧ ((-1) = (-1) ∨ (0 ≤ i.toInt ∧ i.toInt < le.toInt)) from by omega) (hP.sub [0, 1] rfl) (hD.sub [0, 1] (by decide) rfl) dX6_byteAt_22
  · have f_1 : ¬ i.toInt < 0 := zi_nlt c_1
    refine lv_iload_n hx hb dX6_byteAt_4 rfl (lv_at hl 1 rfl) ?_
    refine lv_aload_n hx hb dX6_byteAt_5 rfl (lv_at hl 0 rfl) ?_
    refine va_get (D := D) (ci := 5) (v := .int le) (C := RX6) (T := TX6) (N := 7) hx hb hts (fun _ h => List.mem_cons_of_mem _ (List.mem_append_right _ h)) hown hK hP 0 rfl rfl 2 (by decide) (hts (.fieldLink RX6 22 "WinterWalk$Tape" "length" "I") (List.mem_of_getElem? (i := 1) rfl)) (fun _ h9 => h9) rfl dX6_byteAt_6 ?_
    refine lv_icmp_ge (tgt := 21) hx hb dX6_byteAt_9 (by decide) (fun c_2 => ?_) (fun c_2 => ?_)
    · have f_2 : le.toInt ≤ i.toInt := zi_le c_2
      refine lv_iconst (v := (-1)) hx hb dX6_byteAt_21 (by decide) ?_
      exact wr_i (v := (-1)) hx hb hr hlocks hS () (by exact show ((-1) = tbc tf le.toInt i.toInt ∨ (128 ≤ (-1) ∧ tbc tf le.toInt i.toInt = (-1))) ∧ ((-1) = (-1) ∨ (0 ≤ i.toInt ∧ i.toInt < le.toInt)) from by omega) (hP.sub [0, 1] rfl) (hD.sub [0, 1] (by decide) rfl) dX6_byteAt_22
    · have f_2 : ¬ le.toInt ≤ i.toInt := zi_nle c_2
      refine lv_aload_n hx hb dX6_byteAt_12 rfl (lv_at hl 0 rfl) ?_
      refine va_get (D := D) (ci := 5) (v := .ref tb) (C := RX6) (T := TX6) (N := 7) hx hb hts (fun _ h => List.mem_cons_of_mem _ (List.mem_append_right _ h)) hown hK hP 0 rfl rfl 0 (by decide) (hts (.fieldLink RX6 11 "WinterWalk$Tape" "bytes" "[I") (List.mem_of_getElem? (i := 2) rfl)) (fun _ h9 => h9) rfl dX6_byteAt_13 ?_
      refine lv_iload_n hx hb dX6_byteAt_16 rfl (lv_at hl 1 rfl) ?_
      refine va_iald hx hb hK hP 1 0 rfl rfl (zi_in (by omega) (by omega)) dX6_byteAt_17 ?_
      refine lv_topi (fun x_3 ex_3 => ?_)
      have g_3 : x_3.toInt = (tf (i : Int32).toNatClampNeg).toInt := by rw [ex_3]
      refine lv_goto (tgt := 22) hx hb dX6_byteAt_18 (by decide) ?_
      exact wr_i (v := x_3) hx hb hr hlocks hS () (by exact show (x_3.toInt = tbc tf le.toInt i.toInt ∨ (128 ≤ x_3.toInt ∧ tbc tf le.toInt i.toInt = (-1))) ∧ (x_3.toInt = (-1) ∨ (0 ≤ i.toInt ∧ i.toInt < le.toInt)) from by omega) (hP.sub [0, 1] rfl) (hD.sub [0, 1] (by decide) rfl) dX6_byteAt_22
set_option maxHeartbeats 4000000 in
set_option maxRecDepth 100000 in
theorem p_X6_next (l : Launch) (D : va_G) (cI cB cQ : ClassId) (sz : Nat) (h : Nat) (tb : Nat) (dr : Nat) (le : Int32) (lf : Int32) (fp : Int32) (pl : Int32) (fy : Int32) (tf : Nat → Int32) (h_le : 0 ≤ le.toInt ∧ le.toInt ≤ 120) (h_fp : 0 ≤ fp.toInt ∧ fp.toInt ≤ 120) (h_pl : 0 ≤ pl.toInt ∧ pl.toInt ≤ 120) : mi l yX6_next wsX6_next ({ frames := 1, cells := 0, slots := 0, locals := 21 }) D cI cB cQ [.ref h] sz [(h, .inr (5, [.ref tb, .ref dr, .int le, .int lf, .int fp, .int pl, .int fy])), (tb, .inl (cI, 120, .inl tf))] (fun (r : Int32) (_u : Unit) => (((¬ fy.toInt = 0 ∧ r.toInt = (-1)) ∨ (fy.toInt = 0 ∧ (r.toInt = tbc tf le.toInt pl.toInt ∨ (128 ≤ r.toInt ∧ tbc tf le.toInt pl.toInt = (-1))))) ∧ (r.toInt = (-1) ∨ pl.toInt < le.toInt))) (fun _ => [(h, .inr (5, [.ref tb, .ref dr, .int le, .int lf, .int fp, .int pl, .int fy])), (tb, .inl (cI, 120, .inl tf))]) 0 0 := by
  refine wm_i (cc := cX6_next) (maxL := 1) (ret := (some .int)) (by decide) rfl (Nat.le_of_ble_eq_true rfl) ?_
  intro p e s m below meth c A ls hx hb hr hml hown hts hlocks hin hP hK hD hN hA hl hS
  have hown : s.vm.findClass RX6 = some m.cls := hown
  have hl : lv_has ls 1 [(0, .ref h)] := hl
  change W p l e ({ frames := 1, cells := 0, slots := 0, locals := 21 }) s m ([.ref h] : List Value).toArray below meth c s.heap [] 0 0 (MQ below (va_Qi (fun (r : Int32) (_u : Unit) => (((¬ fy.toInt = 0 ∧ r.toInt = (-1)) ∨ (fy.toInt = 0 ∧ (r.toInt = tbc tf le.toInt pl.toInt ∨ (128 ≤ r.toInt ∧ tbc tf le.toInt pl.toInt = (-1))))) ∧ (r.toInt = (-1) ∨ pl.toInt < le.toInt))) (fun u t => wb D A ((fun _ => [(h, .inr (5, [.ref tb, .ref dr, .int le, .int lf, .int fp, .int pl, .int fy])), (tb, .inl (cI, 120, .inl tf))]) u) t) A) ([.ref h] : List Value).toArray s 0 0 A) (F0 m 0 ls [])
  refine lv_aload_n hx hb dX6_next_0 rfl (lv_at hl 0 rfl) ?_
  refine va_get (D := D) (ci := 5) (v := .int fy) (C := RX6) (T := TX6) (N := 7) hx hb hts (fun _ h => List.mem_cons_of_mem _ (List.mem_append_right _ h)) hown hK hP 0 rfl rfl 6 (by decide) (hts (.fieldLink RX6 35 "WinterWalk$Tape" "faulty" "Z") (List.mem_of_getElem? (i := 1) rfl)) (fun _ h9 => h9) rfl dX6_next_1 ?_
  refine lv_if_eq (tgt := 11) hx hb dX6_next_4 (by decide) (fun c_1 => ?_) (fun c_1 => ?_)
  · have f_1 : fy.toInt = 0 := zi_eq c_1
    refine lv_aload_n hx hb dX6_next_11 rfl (lv_at hl 0 rfl) ?_
    refine lv_aload_n hx hb dX6_next_12 rfl (lv_at hl 0 rfl) ?_
    refine va_get (D := D) (ci := 5) (v := .int pl) (C := RX6) (T := TX6) (N := 7) hx hb hts (fun _ h => List.mem_cons_of_mem _ (List.mem_append_right _ h)) hown hK hP 0 rfl rfl 5 (by decide) (hts (.fieldLink RX6 32 "WinterWalk$Tape" "place" "I") (List.mem_of_getElem? (i := 2) rfl)) (fun _ h9 => h9) rfl dX6_next_13 ?_
    have k_2 := (p_X6_byteAt l D cI cB cQ s.heap.size h tb dr le lf fp pl fy pl tf (by omega) (by omega) (by omega))
    refine wc_i (WC := [(h, .inr (5, [.ref tb, .ref dr, .int le, .int lf, .int fp, .int pl, .int fy])), (tb, .inl (cI, 120, .inl tf))]) (WR := []) (va_runV (As := [.int pl]) (rest := []) ⟨hx, hb, hml, hown, hts⟩ k_2 (cwV 1 hts gX6_next_X6_byteAt rfl rfl rfl (by decide +kernel) ⟨Nat.le_of_ble_eq_true rfl, Nat.le_of_ble_eq_true rfl⟩) (wp_V hP hK hD hN [0, 1] (by decide) rfl (ci := 5) rfl rfl) rfl rfl hl.1 rfl (lv_room (Nat.le_of_ble_eq_true rfl)) dX6_next_16 ⟨Nat.le_of_ble_eq_true rfl, Nat.le_of_ble_eq_true rfl⟩) hP hD hS hA [0, 1] [] rfl rfl (by decide) (by decide) (fun r_2 u_2 H locs hw_2 hP hD hS => ?_)
    clear k_2
    have hP : va_P D kl [(h, .inr (5, [.ref tb, .ref dr, .int le, .int lf, .int fp, .int pl, .int fy])), (tb, .inl (cI, 120, .inl tf))] H := hP
    have hD : va_D A [(h, .inr (5, [.ref tb, .ref dr, .int le, .int lf, .int fp, .int pl, .int fy])), (tb, .inl (cI, 120, .inl tf))] := hD
    have c2_0 := hw_2
    have c2_0 : (r_2.toInt = tbc tf le.toInt pl.toInt ∨ (128 ≤ r_2.toInt ∧ tbc tf le.toInt pl.toInt = (-1))) ∧ (r_2.toInt = (-1) ∨ (0 ≤ pl.toInt ∧ pl.toInt < le.toInt)) := c2_0
    exact wr_i (v := r_2) hx hb hr hlocks hS () (by exact show ((¬ fy.toInt = 0 ∧ r_2.toInt = (-1)) ∨ (fy.toInt = 0 ∧ (r_2.toInt = tbc tf le.toInt pl.toInt ∨ (128 ≤ r_2.toInt ∧ tbc tf le.toInt pl.toInt = (-1))))) ∧ (r_2.toInt = (-1) ∨ pl.toInt < le.toInt) from by omega) (hP.sub [0, 1] rfl) (hD.sub [0, 1] (by decide) rfl) dX6_next_19
  · have f_1 : ¬ fy.toInt = 0 := zi_ne c_1
    refine lv_iconst (v := (-1)) hx hb dX6_next_7 (by decide) ?_
    refine lv_goto (tgt := 19) hx hb dX6_next_8 (by decide) ?_
    exact wr_i (v := (-1)) hx hb hr hlocks hS () (by exact show ((¬ fy.toInt = 0 ∧ (-1) = (-1)) ∨ (fy.toInt = 0 ∧ ((-1) = tbc tf le.toInt pl.toInt ∨ (128 ≤ (-1) ∧ tbc tf le.toInt pl.toInt = (-1))))) ∧ ((-1) = (-1) ∨ pl.toInt < le.toInt) from by omega) (hP.sub [0, 1] rfl) (hD.sub [0, 1] (by decide) rfl) dX6_next_19
set_option maxHeartbeats 4000000 in
set_option maxRecDepth 100000 in
theorem p_X6_fail (l : Launch) (D : va_G) (cI cB cQ : ClassId) (sz : Nat) (h : Nat) (tb : Nat) (dr : Nat) (le : Int32) (lf : Int32) (fp : Int32) (pl : Int32) (fy : Int32) (n : Int32) (k : Int32) (h_fp : 0 ≤ fp.toInt ∧ fp.toInt ≤ 120) (h_k : 0 ≤ k.toInt ∧ k.toInt ≤ 120) : mv l yX6_fail wsX6_fail ({ frames := 0, cells := 0, slots := 0, locals := 0 }) D cI cB cQ [.ref h, .int n, .int k] sz [(h, .inr (5, [.ref tb, .ref dr, .int le, .int lf, .int fp, .int pl, .int fy]))] (fun (u : Int32 × Int32 × Int32) => (((u.2.2.toInt, u.1.toInt, u.2.1.toInt, pl.toInt) : TPS) = tF n.toInt k.toInt (fy.toInt, lf.toInt, fp.toInt, pl.toInt)) ∧ (0 ≤ u.2.1.toInt ∧ u.2.1.toInt ≤ 120)) (fun u => [(h, .inr (5, [.ref tb, .ref dr, .int le, .int u.1, .int u.2.1, .int pl, .int u.2.2]))]) 0 0 := by
  refine wm_v (cc := cX6_fail) (maxL := 3) (ret := none) (by decide) rfl (Nat.le_of_ble_eq_true rfl) ?_
  intro p e s m below meth c A ls hx hb hr hml hown hts hlocks hin hP hK hD hN hA hl hS
  have hown : s.vm.findClass RX6 = some m.cls := hown
  have hl : lv_has ls 3 [(0, .ref h), (1, .int n), (2, .int k)] := hl
  change W p l e ({ frames := 0, cells := 0, slots := 0, locals := 0 }) s m ([.ref h, .int n, .int k] : List Value).toArray below meth c s.heap [] 0 0 (MQ below (va_Qv (fun (u : Int32 × Int32 × Int32) => (((u.2.2.toInt, u.1.toInt, u.2.1.toInt, pl.toInt) : TPS) = tF n.toInt k.toInt (fy.toInt, lf.toInt, fp.toInt, pl.toInt)) ∧ (0 ≤ u.2.1.toInt ∧ u.2.1.toInt ≤ 120)) (fun u t => wb D A ((fun u => [(h, .inr (5, [.ref tb, .ref dr, .int le, .int u.1, .int u.2.1, .int pl, .int u.2.2]))]) u) t) A) ([.ref h, .int n, .int k] : List Value).toArray s 0 0 A) (F0 m 0 ls [])
  refine lv_aload_n hx hb dX6_fail_0 rfl (lv_at hl 0 rfl) ?_
  refine va_get (D := D) (ci := 5) (v := .int fy) (C := RX6) (T := TX6) (N := 7) hx hb hts (fun _ h => List.mem_cons_of_mem _ (List.mem_append_right _ h)) hown hK hP 0 rfl rfl 6 (by decide) (hts (.fieldLink RX6 35 "WinterWalk$Tape" "faulty" "Z") (List.mem_of_getElem? (i := 1) rfl)) (fun _ h9 => h9) rfl dX6_fail_1 ?_
  refine lv_if_ne (tgt := 22) hx hb dX6_fail_4 (by decide) (fun c_1 => ?_) (fun c_1 => ?_)
  · have f_1 : ¬ fy.toInt = 0 := zi_ne c_1
    exact wr_v hx hb hr hlocks hS (lf, fp, fy) (by exact ⟨show ((fy.toInt, lf.toInt, fp.toInt, pl.toInt) : TPS) = tF n.toInt k.toInt (fy.toInt, lf.toInt, fp.toInt, pl.toInt) from (tF_y (by omega)).symm, show 0 ≤ (fp : Int32).toInt ∧ (fp : Int32).toInt ≤ 120 from by omega⟩) (hP.sub [0] rfl) (hD.sub [0] (by decide) rfl) dX6_fail_22
  · have f_1 : fy.toInt = 0 := zi_eq c_1
    refine lv_aload_n hx hb dX6_fail_7 rfl (lv_at hl 0 rfl) ?_
    refine lv_iconst (v := 1) hx hb dX6_fail_8 (by decide) ?_
    refine va_put (D := D) (ci := 5) (v := .int 1) (ty := .boolean) (C := RX6) (T := TX6) (N := 7) hx hb hts (fun _ h => List.mem_cons_of_mem _ (List.mem_append_right _ h)) tyX6 tyX6_ok nmX6 hown hK hP hD hS 0 rfl rfl 6 (by decide) (hts (.fieldLink RX6 35 "WinterWalk$Tape" "faulty" "Z") (List.mem_of_getElem? (i := 1) rfl)) (fun _ h9 => h9) rfl (by decide +kernel) rfl rfl (Nat.le_of_ble_eq_true rfl) dX6_fail_9 (fun H locs hP hD hS => ?_)
    have hP : va_P D kl [(h, .inr (5, [.ref tb, .ref dr, .int le, .int lf, .int fp, .int pl, .int 1]))] H := hP
    have hD : va_D A [(h, .inr (5, [.ref tb, .ref dr, .int le, .int lf, .int fp, .int pl, .int 1]))] := hD
    refine lv_aload_n hx hb dX6_fail_12 rfl (lv_at hl 0 rfl) ?_
    refine lv_iload_n hx hb dX6_fail_13 rfl (lv_at hl 1 rfl) ?_
    refine va_put (D := D) (ci := 5) (v := .int n) (ty := .int) (C := RX6) (T := TX6) (N := 7) hx hb hts (fun _ h => List.mem_cons_of_mem _ (List.mem_append_right _ h)) tyX6 tyX6_ok nmX6 hown hK hP hD hS 0 rfl rfl 3 (by decide) (hts (.fieldLink RX6 26 "WinterWalk$Tape" "latestFault" "I") (List.mem_of_getElem? (i := 2) rfl)) (fun _ h9 => h9) rfl (by decide +kernel) rfl rfl (Nat.le_of_ble_eq_true rfl) dX6_fail_14 (fun H locs hP hD hS => ?_)
    have hP : va_P D kl [(h, .inr (5, [.ref tb, .ref dr, .int le, .int n, .int fp, .int pl, .int 1]))] H := hP
    have hD : va_D A [(h, .inr (5, [.ref tb, .ref dr, .int le, .int n, .int fp, .int pl, .int 1]))] := hD
    refine lv_aload_n hx hb dX6_fail_17 rfl (lv_at hl 0 rfl) ?_
    refine lv_iload_n hx hb dX6_fail_18 rfl (lv_at hl 2 rfl) ?_
    refine va_put (D := D) (ci := 5) (v := .int k) (ty := .int) (C := RX6) (T := TX6) (N := 7) hx hb hts (fun _ h => List.mem_cons_of_mem _ (List.mem_append_right _ h)) tyX6 tyX6_ok nmX6 hown hK hP hD hS 0 rfl rfl 4 (by decide) (hts (.fieldLink RX6 29 "WinterWalk$Tape" "faultPlace" "I") (List.mem_of_getElem? (i := 3) rfl)) (fun _ h9 => h9) rfl (by decide +kernel) rfl rfl (Nat.le_of_ble_eq_true rfl) dX6_fail_19 (fun H locs hP hD hS => ?_)
    have hP : va_P D kl [(h, .inr (5, [.ref tb, .ref dr, .int le, .int n, .int k, .int pl, .int 1]))] H := hP
    have hD : va_D A [(h, .inr (5, [.ref tb, .ref dr, .int le, .int n, .int k, .int pl, .int 1]))] := hD
    exact wr_v hx hb hr hlocks hS (n, k, 1) (by exact ⟨show ((1, n.toInt, k.toInt, pl.toInt) : TPS) = tF n.toInt k.toInt (fy.toInt, lf.toInt, fp.toInt, pl.toInt) from (tF_n (by omega)).symm, show 0 ≤ (k : Int32).toInt ∧ (k : Int32).toInt ≤ 120 from by omega⟩) (hP.sub [0] rfl) (hD.sub [0] (by decide) rfl) dX6_fail_22
set_option maxHeartbeats 4000000 in
set_option maxRecDepth 100000 in
theorem p_X6_takeSign (l : Launch) (D : va_G) (cI cB cQ : ClassId) (sz : Nat) (h : Nat) (tb : Nat) (dr : Nat) (le : Int32) (lf : Int32) (fp : Int32) (pl : Int32) (fy : Int32) (k : Int32) (tf : Nat → Int32) (h_le : 0 ≤ le.toInt ∧ le.toInt ≤ 120) (h_fp : 0 ≤ fp.toInt ∧ fp.toInt ≤ 120) (h_pl : 0 ≤ pl.toInt ∧ pl.toInt ≤ 120) (h_k : 0 ≤ k.toInt ∧ k.toInt ≤ 127) : mv l yX6_takeSign wsX6_takeSign ({ frames := 2, cells := 0, slots := 0, locals := 41 }) D cI cB cQ [.ref h, .int k] sz [(h, .inr (5, [.ref tb, .ref dr, .int le, .int lf, .int fp, .int pl, .int fy])), (tb, .inl (cI, 120, .inl tf))] (fun (u : Int32 × Int32 × Int32 × Int32) => (((u.2.2.2.toInt, u.1.toInt, u.2.1.toInt, u.2.2.1.toInt) : TPS) = tS (tbc tf le.toInt) k.toInt (fy.toInt, lf.toInt, fp.toInt, pl.toInt)) ∧ (0 ≤ u.2.1.toInt ∧ u.2.1.toInt ≤ 120) ∧ (0 ≤ u.2.2.1.toInt ∧ u.2.2.1.toInt ≤ 120)) (fun u => [(h, .inr (5, [.ref tb, .ref dr, .int le, .int u.1, .int u.2.1, .int u.2.2.1, .int u.2.2.2])), (tb, .inl (cI, 120, .inl tf))]) 0 0 := by
  refine wm_v (cc := cX6_takeSign) (maxL := 2) (ret := none) (by decide) rfl (Nat.le_of_ble_eq_true rfl) ?_
  intro p e s m below meth c A ls hx hb hr hml hown hts hlocks hin hP hK hD hN hA hl hS
  have hown : s.vm.findClass RX6 = some m.cls := hown
  have hl : lv_has ls 2 [(0, .ref h), (1, .int k)] := hl
  change W p l e ({ frames := 2, cells := 0, slots := 0, locals := 41 }) s m ([.ref h, .int k] : List Value).toArray below meth c s.heap [] 0 0 (MQ below (va_Qv (fun (u : Int32 × Int32 × Int32 × Int32) => (((u.2.2.2.toInt, u.1.toInt, u.2.1.toInt, u.2.2.1.toInt) : TPS) = tS (tbc tf le.toInt) k.toInt (fy.toInt, lf.toInt, fp.toInt, pl.toInt)) ∧ (0 ≤ u.2.1.toInt ∧ u.2.1.toInt ≤ 120) ∧ (0 ≤ u.2.2.1.toInt ∧ u.2.2.1.toInt ≤ 120)) (fun u t => wb D A ((fun u => [(h, .inr (5, [.ref tb, .ref dr, .int le, .int u.1, .int u.2.1, .int u.2.2.1, .int u.2.2.2])), (tb, .inl (cI, 120, .inl tf))]) u) t) A) ([.ref h, .int k] : List Value).toArray s 0 0 A) (F0 m 0 ls [])
  refine lv_aload_n hx hb dX6_takeSign_0 rfl (lv_at hl 0 rfl) ?_
  have k_1 := (p_X6_next l D cI cB cQ s.heap.size h tb dr le lf fp pl fy tf (by omega) (by omega) (by omega))
  refine wc_i (WC := [(h, .inr (5, [.ref tb, .ref dr, .int le, .int lf, .int fp, .int pl, .int fy])), (tb, .inl (cI, 120, .inl tf))]) (WR := []) (va_runV (As := []) (rest := []) ⟨hx, hb, hml, hown, hts⟩ k_1 (cwV 0 hts gX6_takeSign_X6_next rfl rfl rfl (by decide +kernel) ⟨Nat.le_of_ble_eq_true rfl, Nat.le_of_ble_eq_true rfl⟩) (wp_V hP hK hD hN [0, 1] (by decide) rfl (ci := 5) rfl rfl) rfl rfl hl.1 rfl (lv_room (Nat.le_of_ble_eq_true rfl)) dX6_takeSign_1 ⟨Nat.le_of_ble_eq_true rfl, Nat.le_of_ble_eq_true rfl⟩) hP hD hS hA [0, 1] [] rfl rfl (by decide) (by decide) (fun r_1 u_1 H locs hw_1 hP hD hS => ?_)
  clear k_1
  have hP : va_P D kl [(h, .inr (5, [.ref tb, .ref dr, .int le, .int lf, .int fp, .int pl, .int fy])), (tb, .inl (cI, 120, .inl tf))] H := hP
  have hD : va_D A [(h, .inr (5, [.ref tb, .ref dr, .int le, .int lf, .int fp, .int pl, .int fy])), (tb, .inl (cI, 120, .inl tf))] := hD
  have c1_0 := hw_1
  have c1_0 : ((¬ fy.toInt = 0 ∧ r_1.toInt = (-1)) ∨ (fy.toInt = 0 ∧ (r_1.toInt = tbc tf le.toInt pl.toInt ∨ (128 ≤ r_1.toInt ∧ tbc tf le.toInt pl.toInt = (-1))))) ∧ (r_1.toInt = (-1) ∨ pl.toInt < le.toInt) := c1_0
  refine lv_iload_n hx hb dX6_takeSign_4 rfl (lv_at hl 1 rfl) ?_
  refine lv_icmp_ne (tgt := 21) hx hb dX6_takeSign_5 (by decide) (fun c_2 => ?_) (fun c_2 => ?_)
  · have f_2 : ¬ r_1.toInt = k.toInt := zi_ne c_2
    refine lv_aload_n hx hb dX6_takeSign_21 rfl (lv_at hl 0 rfl) ?_
    refine lv_iconst (v := 1) hx hb dX6_takeSign_22 (by decide) ?_
    refine lv_aload_n hx hb dX6_takeSign_23 rfl (lv_at hl 0 rfl) ?_
    refine va_get (D := D) (ci := 5) (v := .int pl) (C := RX6) (T := TX6) (N := 7) hx hb hts (fun _ h => List.mem_cons_of_mem _ (List.mem_append_right _ h)) hown hK hP 0 rfl rfl 5 (by decide) (hts (.fieldLink RX6 32 "WinterWalk$Tape" "place" "I") (List.mem_of_getElem? (i := 1) rfl)) (fun _ h9 => h9) rfl dX6_takeSign_24 ?_
    have k_3 := (p_X6_fail l D cI cB cQ H.size h tb dr le lf fp pl fy 1 pl (by omega) (by omega))
    refine wc_v (WC := [(h, .inr (5, [.ref tb, .ref dr, .int le, .int lf, .int fp, .int pl, .int fy]))]) (WR := [(tb, .inl (cI, 120, .inl tf))]) (va_runV (As := [.int 1, .int pl]) (rest := []) ⟨hx, hb, hml, hown, hts⟩ k_3 (cwV 2 hts gX6_takeSign_X6_fail rfl rfl rfl (by decide +kernel) ⟨Nat.le_of_ble_eq_true rfl, Nat.le_of_ble_eq_true rfl⟩) (wp_V hP hK hD hN [0] (by decide) rfl (ci := 5) rfl rfl) rfl rfl hl.1 rfl (lv_room (Nat.le_of_ble_eq_true rfl)) dX6_takeSign_27 ⟨Nat.le_of_ble_eq_true rfl, Nat.le_of_ble_eq_true rfl⟩) hP hD hS hA [0] [1] rfl rfl (by decide) (by decide) (pe3 (fun v3_0 v3_1 v3_2 H locs hw_3 hP hD hS => ?_))
    clear k_3
    have hP : va_P D kl [(tb, .inl (cI, 120, .inl tf)), (h, .inr (5, [.ref tb, .ref dr, .int le, .int v3_0, .int v3_1, .int pl, .int v3_2]))] H := hP
    have hD : va_D A [(tb, .inl (cI, 120, .inl tf)), (h, .inr (5, [.ref tb, .ref dr, .int le, .int v3_0, .int v3_1, .int pl, .int v3_2]))] := hD
    obtain ⟨c3_0, c3_1⟩ := hw_3
    have c3_0 : ((v3_2.toInt, v3_0.toInt, v3_1.toInt, pl.toInt) : TPS) = tF (1 : Int) pl.toInt (fy.toInt, lf.toInt, fp.toInt, pl.toInt) := c3_0
    have c3_1 : 0 ≤ v3_1.toInt ∧ v3_1.toInt ≤ 120 := c3_1
    exact wr_v hx hb hr hlocks hS (v3_0, v3_1, pl, v3_2) (by exact ⟨show ((v3_2.toInt, v3_0.toInt, v3_1.toInt, pl.toInt) : TPS) = tS (tbc tf le.toInt) k.toInt (fy.toInt, lf.toInt, fp.toInt, pl.toInt) from c3_0.trans (tS_no (by omega)), show 0 ≤ (v3_1 : Int32).toInt ∧ (v3_1 : Int32).toInt ≤ 120 from by omega, show 0 ≤ (pl : Int32).toInt ∧ (pl : Int32).toInt ≤ 120 from by omega⟩) (hP.sub [1, 0] rfl) (hD.sub [1, 0] (by decide) rfl) dX6_takeSign_30
  · have f_2 : r_1.toInt = k.toInt := zi_eq c_2
    refine lv_aload_n hx hb dX6_takeSign_8 rfl (lv_at hl 0 rfl) ?_
    refine lv_dup hx hb dX6_takeSign_9 rfl ?_
    refine va_get (D := D) (ci := 5) (v := .int pl) (C := RX6) (T := TX6) (N := 7) hx hb hts (fun _ h => List.mem_cons_of_mem _ (List.mem_append_right _ h)) hown hK hP 0 rfl rfl 5 (by decide) (hts (.fieldLink RX6 32 "WinterWalk$Tape" "place" "I") (List.mem_of_getElem? (i := 1) rfl)) (fun _ h9 => h9) rfl dX6_takeSign_10 ?_
    refine lv_iconst (v := 1) hx hb dX6_takeSign_13 (by decide) ?_
    refine lv_iadd hx hb dX6_takeSign_14 ?_
    refine lv_topi (fun x_4 ex_4 => ?_)
    have e_4 : x_4.toInt = pl.toInt + 1 := by rw [ex_4]; exact zi_add (rfl) (by decide) (by omega) (by omega)
    clear ex_4
    refine va_put (D := D) (ci := 5) (v := .int x_4) (ty := .int) (C := RX6) (T := TX6) (N := 7) hx hb hts (fun _ h => List.mem_cons_of_mem _ (List.mem_append_right _ h)) tyX6 tyX6_ok nmX6 hown hK hP hD hS 0 rfl rfl 5 (by decide) (hts (.fieldLink RX6 32 "WinterWalk$Tape" "place" "I") (List.mem_of_getElem? (i := 1) rfl)) (fun _ h9 => h9) rfl (by decide +kernel) rfl rfl (Nat.le_of_ble_eq_true rfl) dX6_takeSign_15 (fun H locs hP hD hS => ?_)
    have hP : va_P D kl [(h, .inr (5, [.ref tb, .ref dr, .int le, .int lf, .int fp, .int x_4, .int fy])), (tb, .inl (cI, 120, .inl tf))] H := hP
    have hD : va_D A [(h, .inr (5, [.ref tb, .ref dr, .int le, .int lf, .int fp, .int x_4, .int fy])), (tb, .inl (cI, 120, .inl tf))] := hD
    refine lv_goto (tgt := 30) hx hb dX6_takeSign_18 (by decide) ?_
    exact wr_v hx hb hr hlocks hS (lf, fp, x_4, fy) (by exact ⟨show ((fy.toInt, lf.toInt, fp.toInt, x_4.toInt) : TPS) = tS (tbc tf le.toInt) k.toInt (fy.toInt, lf.toInt, fp.toInt, pl.toInt) from tS_ok (by omega) (by omega) (by omega), show 0 ≤ (fp : Int32).toInt ∧ (fp : Int32).toInt ≤ 120 from by omega, show 0 ≤ (x_4 : Int32).toInt ∧ (x_4 : Int32).toInt ≤ 120 from by omega⟩) (hP.sub [0, 1] rfl) (hD.sub [0, 1] (by decide) rfl) dX6_takeSign_30
set_option maxHeartbeats 4000000 in
set_option maxRecDepth 100000 in
theorem p_X6_takeLetter (l : Launch) (D : va_G) (cI cB cQ : ClassId) (sz : Nat) (h : Nat) (tb : Nat) (dr : Nat) (le : Int32) (lf : Int32) (fp : Int32) (pl : Int32) (fy : Int32) (k : Int32) (h_le : 0 ≤ le.toInt ∧ le.toInt ≤ 120) (h_fp : 0 ≤ fp.toInt ∧ fp.toInt ≤ 120) (h_pl : 0 ≤ pl.toInt ∧ pl.toInt ≤ 120) (h_x : pl.toInt ≤ 119) : mv l yX6_takeLetter wsX6_takeLetter ({ frames := 1, cells := 0, slots := 0, locals := 22 }) D cI cB cQ [.ref h, .int k] sz [(h, .inr (5, [.ref tb, .ref dr, .int le, .int lf, .int fp, .int pl, .int fy]))] (fun (u : Int32 × Int32 × Int32 × Int32) => (((u.2.2.2.toInt, u.1.toInt, u.2.1.toInt, u.2.2.1.toInt) : TPS) = tL k.toInt (fy.toInt, lf.toInt, fp.toInt, pl.toInt)) ∧ (0 ≤ u.2.1.toInt ∧ u.2.1.toInt ≤ 120) ∧ (0 ≤ u.2.2.1.toInt ∧ u.2.2.1.toInt ≤ 120)) (fun u => [(h, .inr (5, [.ref tb, .ref dr, .int le, .int u.1, .int u.2.1, .int u.2.2.1, .int u.2.2.2]))]) 0 0 := by
  refine wm_v (cc := cX6_takeLetter) (maxL := 2) (ret := none) (by decide) rfl (Nat.le_of_ble_eq_true rfl) ?_
  intro p e s m below meth c A ls hx hb hr hml hown hts hlocks hin hP hK hD hN hA hl hS
  have hown : s.vm.findClass RX6 = some m.cls := hown
  have hl : lv_has ls 2 [(0, .ref h), (1, .int k)] := hl
  change W p l e ({ frames := 1, cells := 0, slots := 0, locals := 22 }) s m ([.ref h, .int k] : List Value).toArray below meth c s.heap [] 0 0 (MQ below (va_Qv (fun (u : Int32 × Int32 × Int32 × Int32) => (((u.2.2.2.toInt, u.1.toInt, u.2.1.toInt, u.2.2.1.toInt) : TPS) = tL k.toInt (fy.toInt, lf.toInt, fp.toInt, pl.toInt)) ∧ (0 ≤ u.2.1.toInt ∧ u.2.1.toInt ≤ 120) ∧ (0 ≤ u.2.2.1.toInt ∧ u.2.2.1.toInt ≤ 120)) (fun u t => wb D A ((fun u => [(h, .inr (5, [.ref tb, .ref dr, .int le, .int u.1, .int u.2.1, .int u.2.2.1, .int u.2.2.2]))]) u) t) A) ([.ref h, .int k] : List Value).toArray s 0 0 A) (F0 m 0 ls [])
  refine lv_iload_n hx hb dX6_takeLetter_0 rfl (lv_at hl 1 rfl) ?_
  refine lv_if_eq (tgt := 17) hx hb dX6_takeLetter_1 (by decide) (fun c_1 => ?_) (fun c_1 => ?_)
  · have f_1 : k.toInt = 0 := zi_eq c_1
    refine lv_aload_n hx hb dX6_takeLetter_17 rfl (lv_at hl 0 rfl) ?_
    refine lv_iconst (v := 3) hx hb dX6_takeLetter_18 (by decide) ?_
    refine lv_aload_n hx hb dX6_takeLetter_19 rfl (lv_at hl 0 rfl) ?_
    refine va_get (D := D) (ci := 5) (v := .int pl) (C := RX6) (T := TX6) (N := 7) hx hb hts (fun _ h => List.mem_cons_of_mem _ (List.mem_append_right _ h)) hown hK hP 0 rfl rfl 5 (by decide) (hts (.fieldLink RX6 32 "WinterWalk$Tape" "place" "I") (List.mem_of_getElem? (i := 1) rfl)) (fun _ h9 => h9) rfl dX6_takeLetter_20 ?_
    have k_2 := (p_X6_fail l D cI cB cQ s.heap.size h tb dr le lf fp pl fy 3 pl (by omega) (by omega))
    refine wc_v (WC := [(h, .inr (5, [.ref tb, .ref dr, .int le, .int lf, .int fp, .int pl, .int fy]))]) (WR := []) (va_runV (As := [.int 3, .int pl]) (rest := []) ⟨hx, hb, hml, hown, hts⟩ k_2 (cwV 2 hts gX6_takeLetter_X6_fail rfl rfl rfl (by decide +kernel) ⟨Nat.le_of_ble_eq_true rfl, Nat.le_of_ble_eq_true rfl⟩) (wp_V hP hK hD hN [0] (by decide) rfl (ci := 5) rfl rfl) rfl rfl hl.1 rfl (lv_room (Nat.le_of_ble_eq_true rfl)) dX6_takeLetter_23 ⟨Nat.le_of_ble_eq_true rfl, Nat.le_of_ble_eq_true rfl⟩) hP hD hS hA [0] [] rfl rfl (by decide) (by decide) (pe3 (fun v2_0 v2_1 v2_2 H locs hw_2 hP hD hS => ?_))
    clear k_2
    have hP : va_P D kl [(h, .inr (5, [.ref tb, .ref dr, .int le, .int v2_0, .int v2_1, .int pl, .int v2_2]))] H := hP
    have hD : va_D A [(h, .inr (5, [.ref tb, .ref dr, .int le, .int v2_0, .int v2_1, .int pl, .int v2_2]))] := hD
    obtain ⟨c2_0, c2_1⟩ := hw_2
    have c2_0 : ((v2_2.toInt, v2_0.toInt, v2_1.toInt, pl.toInt) : TPS) = tF (3 : Int) pl.toInt (fy.toInt, lf.toInt, fp.toInt, pl.toInt) := c2_0
    have c2_1 : 0 ≤ v2_1.toInt ∧ v2_1.toInt ≤ 120 := c2_1
    exact wr_v hx hb hr hlocks hS (v2_0, v2_1, pl, v2_2) (by exact ⟨show ((v2_2.toInt, v2_0.toInt, v2_1.toInt, pl.toInt) : TPS) = tL k.toInt (fy.toInt, lf.toInt, fp.toInt, pl.toInt) from c2_0.trans (tL_0 (by omega)).symm, show 0 ≤ (v2_1 : Int32).toInt ∧ (v2_1 : Int32).toInt ≤ 120 from by omega, show 0 ≤ (pl : Int32).toInt ∧ (pl : Int32).toInt ≤ 120 from by omega⟩) (hP.sub [0] rfl) (hD.sub [0] (by decide) rfl) dX6_takeLetter_26
  · have f_1 : ¬ k.toInt = 0 := zi_ne c_1
    refine lv_aload_n hx hb dX6_takeLetter_4 rfl (lv_at hl 0 rfl) ?_
    refine lv_dup hx hb dX6_takeLetter_5 rfl ?_
    refine va_get (D := D) (ci := 5) (v := .int pl) (C := RX6) (T := TX6) (N := 7) hx hb hts (fun _ h => List.mem_cons_of_mem _ (List.mem_append_right _ h)) hown hK hP 0 rfl rfl 5 (by decide) (hts (.fieldLink RX6 32 "WinterWalk$Tape" "place" "I") (List.mem_of_getElem? (i := 1) rfl)) (fun _ h9 => h9) rfl dX6_takeLetter_6 ?_
    refine lv_iconst (v := 1) hx hb dX6_takeLetter_9 (by decide) ?_
    refine lv_iadd hx hb dX6_takeLetter_10 ?_
    refine lv_topi (fun x_3 ex_3 => ?_)
    have e_3 : x_3.toInt = pl.toInt + 1 := by rw [ex_3]; exact zi_add (rfl) (by decide) (by omega) (by omega)
    clear ex_3
    refine va_put (D := D) (ci := 5) (v := .int x_3) (ty := .int) (C := RX6) (T := TX6) (N := 7) hx hb hts (fun _ h => List.mem_cons_of_mem _ (List.mem_append_right _ h)) tyX6 tyX6_ok nmX6 hown hK hP hD hS 0 rfl rfl 5 (by decide) (hts (.fieldLink RX6 32 "WinterWalk$Tape" "place" "I") (List.mem_of_getElem? (i := 1) rfl)) (fun _ h9 => h9) rfl (by decide +kernel) rfl rfl (Nat.le_of_ble_eq_true rfl) dX6_takeLetter_11 (fun H locs hP hD hS => ?_)
    have hP : va_P D kl [(h, .inr (5, [.ref tb, .ref dr, .int le, .int lf, .int fp, .int x_3, .int fy]))] H := hP
    have hD : va_D A [(h, .inr (5, [.ref tb, .ref dr, .int le, .int lf, .int fp, .int x_3, .int fy]))] := hD
    refine lv_goto (tgt := 26) hx hb dX6_takeLetter_14 (by decide) ?_
    exact wr_v hx hb hr hlocks hS (lf, fp, x_3, fy) (by exact ⟨show ((fy.toInt, lf.toInt, fp.toInt, x_3.toInt) : TPS) = tL k.toInt (fy.toInt, lf.toInt, fp.toInt, pl.toInt) from tL_1 (by omega) (by omega), show 0 ≤ (fp : Int32).toInt ∧ (fp : Int32).toInt ≤ 120 from by omega, show 0 ≤ (x_3 : Int32).toInt ∧ (x_3 : Int32).toInt ≤ 120 from by omega⟩) (hP.sub [0] rfl) (hD.sub [0] (by decide) rfl) dX6_takeLetter_26
