set_option maxHeartbeats 4000000 in
set_option maxRecDepth 100000 in
theorem p_X6_figuresFrom (l : Launch) (D : va_G) (cI cB cQ : ClassId) (sz : Nat) (h : Nat) (tb : Nat) (dr : Nat) (le : Int32) (lf : Int32) (fp : Int32) (pl : Int32) (fy : Int32) (k : Int32) (tf : Nat → Int32) (h_le : 0 ≤ le.toInt ∧ le.toInt ≤ 120) (h_fp : 0 ≤ fp.toInt ∧ fp.toInt ≤ 120) (h_pl : 0 ≤ pl.toInt ∧ pl.toInt ≤ 120) (h_k : 0 ≤ k.toInt ∧ k.toInt ≤ 120) : mi l yX6_figuresFrom wsX6_figuresFrom ({ frames := 1, cells := 0, slots := 0, locals := 22 }) D cI cB cQ [.ref h, .int k] sz [(h, .inr (5, [.ref tb, .ref dr, .int le, .int lf, .int fp, .int pl, .int fy])), (tb, .inl (cI, 120, .inl tf))] (fun (r : Int32) (_u : Unit) => (0 ≤ r.toInt ∧ (r.toInt = 0 ∨ k.toInt + r.toInt ≤ le.toInt)) ∧ ((r.toInt ≤ 2 ∧ r.toInt = tpn (tbc tf le.toInt) k.toInt) ∨ (3 ≤ r.toInt ∧ tpn (tbc tf le.toInt) k.toInt = 3))) (fun _ => [(h, .inr (5, [.ref tb, .ref dr, .int le, .int lf, .int fp, .int pl, .int fy])), (tb, .inl (cI, 120, .inl tf))]) 0 0 := by
  refine wm_i (cc := cX6_figuresFrom) (maxL := 4) (ret := (some .int)) (by decide) rfl (Nat.le_of_ble_eq_true rfl) ?_
  intro p e s m below meth c A ls hx hb hr hml hown hts hlocks hin hP hK hD hN hA hl hS
  have hown : s.vm.findClass RX6 = some m.cls := hown
  have hl : lv_has ls 4 [(0, .ref h), (1, .int k)] := hl
  change W p l e ({ frames := 1, cells := 0, slots := 0, locals := 22 }) s m ([.ref h, .int k] : List Value).toArray below meth c s.heap [] 0 0 (MQ below (va_Qi (fun (r : Int32) (_u : Unit) => (0 ≤ r.toInt ∧ (r.toInt = 0 ∨ k.toInt + r.toInt ≤ le.toInt)) ∧ ((r.toInt ≤ 2 ∧ r.toInt = tpn (tbc tf le.toInt) k.toInt) ∨ (3 ≤ r.toInt ∧ tpn (tbc tf le.toInt) k.toInt = 3))) (fun u t => wb D A ((fun _ => [(h, .inr (5, [.ref tb, .ref dr, .int le, .int lf, .int fp, .int pl, .int fy])), (tb, .inl (cI, 120, .inl tf))]) u) t) A) ([.ref h, .int k] : List Value).toArray s 0 0 A) (F0 m 0 ls [])
  refine lv_iconst (v := 0) hx hb dX6_figuresFrom_0 (by decide) ?_
  refine lv_istore_n (lv' := [(2, .int 0), (0, .ref h), (1, .int k)]) hx hb dX6_figuresFrom_1 rfl hl (by decide) rfl (fun ls hl => ?_)
  refine lv_iload_n hx hb dX6_figuresFrom_2 rfl (lv_at hl 2 rfl) ?_
  refine lv_istore_n (lv' := [(3, .int k), (2, .int 0), (0, .ref h), (1, .int k)]) hx hb dX6_figuresFrom_3 rfl hl (by decide) rfl (fun ls hl => ?_)
  have hL4 : ∀ (nf : Nat) (t3_c4 : Int32) (t2_c4 : Int32) (H : Heap) (locs : List Loc) (ls : Array Slot), (0 ≤ t3_c4.toInt ∧ t3_c4.toInt ≤ 240) → (0 ≤ t2_c4.toInt ∧ t2_c4.toInt ≤ 120) → (t3_c4.toInt = k.toInt + t2_c4.toInt) → (t2_c4.toInt = 0 ∨ t3_c4.toInt ≤ le.toInt) → (tdg (tbc tf le.toInt) k.toInt t2_c4.toInt) → (120 - t3_c4.toInt).toNat < nf → va_P D kl [(h, .inr (5, [.ref tb, .ref dr, .int le, .int lf, .int fp, .int pl, .int fy])), (tb, .inl (cI, 120, .inl tf))] H → va_D A [(h, .inr (5, [.ref tb, .ref dr, .int le, .int lf, .int fp, .int pl, .int fy])), (tb, .inl (cI, 120, .inl tf))] → va_S A s.heap H locs → lv_has ls 4 [(3, .int t3_c4), (2, .int t2_c4), (0, .ref h), (1, .int k)] → W p l e ({ frames := 1, cells := 0, slots := 0, locals := 22 }) s m ([.ref h, .int k] : List Value).toArray below meth c H locs 0 0 (MQ below (va_Qi (fun (r : Int32) (_u : Unit) => (0 ≤ r.toInt ∧ (r.toInt = 0 ∨ k.toInt + r.toInt ≤ le.toInt)) ∧ ((r.toInt ≤ 2 ∧ r.toInt = tpn (tbc tf le.toInt) k.toInt) ∨ (3 ≤ r.toInt ∧ tpn (tbc tf le.toInt) k.toInt = 3))) (fun u t => wb D A ((fun _ => [(h, .inr (5, [.ref tb, .ref dr, .int le, .int lf, .int fp, .int pl, .int fy])), (tb, .inl (cI, 120, .inl tf))]) u) t) A) ([.ref h, .int k] : List Value).toArray s 0 0 A) (F0 m 4 ls []) := by
    intro nf
    induction nf with
    | zero =>
      intro t3_c4 t2_c4 H locs ls i_t3_c4 i_t2_c4 j0_c4 j1_c4 q0_c4 hm
      exact absurd hm (Nat.not_lt_zero _)
    | succ nf ih4 =>
      intro t3_c4 t2_c4 H locs ls i_t3_c4 i_t2_c4 j0_c4 j1_c4 q0_c4 hm4 hP hD hS hl
      refine lv_iload_n hx hb dX6_figuresFrom_4 rfl (lv_at hl 0 rfl) ?_
      refine lv_aload_n hx hb dX6_figuresFrom_5 rfl (lv_at hl 2 rfl) ?_
      refine va_get (D := D) (ci := 5) (v := .int le) (C := RX6) (T := TX6) (N := 7) hx hb hts (fun _ h => List.mem_cons_of_mem _ (List.mem_append_right _ h)) hown hK hP 0 rfl rfl 2 (by decide) (hts (.fieldLink RX6 22 "WinterWalk$Tape" "length" "I") (List.mem_of_getElem? (i := 1) rfl)) (fun _ h9 => h9) rfl dX6_figuresFrom_6 ?_
      refine lv_icmp_ge (tgt := 36) hx hb dX6_figuresFrom_9 (by decide) (fun c_1 => ?_) (fun c_1 => ?_)
      · have f_1 : le.toInt ≤ t3_c4.toInt := zi_le c_1
        refine lv_iload_n hx hb dX6_figuresFrom_36 rfl (lv_at hl 1 rfl) ?_
        exact wr_i (v := t2_c4) hx hb hr hlocks hS () (by exact ⟨show 0 ≤ t2_c4.toInt ∧ (t2_c4.toInt = 0 ∨ k.toInt + t2_c4.toInt ≤ le.toInt) from by omega, show (t2_c4.toInt ≤ 2 ∧ t2_c4.toInt = tpn (tbc tf le.toInt) k.toInt) ∨ (3 ≤ t2_c4.toInt ∧ tpn (tbc tf le.toInt) k.toInt = 3) from tdg_n (i := t3_c4.toInt) q0_c4 (by omega) (by omega) (by rw [tbc_hi (by omega)]; omega)⟩) (hP.sub [0, 1] rfl) (hD.sub [0, 1] (by decide) rfl) dX6_figuresFrom_37
      · have f_1 : ¬ le.toInt ≤ t3_c4.toInt := zi_nle c_1
        refine lv_bipush (v := 48) hx hb dX6_figuresFrom_12 (by decide) ?_
        refine lv_aload_n hx hb dX6_figuresFrom_14 rfl (lv_at hl 2 rfl) ?_
        refine lv_iload_n hx hb dX6_figuresFrom_15 rfl (lv_at hl 0 rfl) ?_
        have k_2 := (p_X6_byteAt l D cI cB cQ H.size h tb dr le lf fp pl fy t3_c4 tf (by omega) (by omega) (by omega))
        refine wc_i (WC := [(h, .inr (5, [.ref tb, .ref dr, .int le, .int lf, .int fp, .int pl, .int fy])), (tb, .inl (cI, 120, .inl tf))]) (WR := []) (va_runV (As := [.int t3_c4]) (rest := [.int 48]) ⟨hx, hb, hml, hown, hts⟩ k_2 (cwV 1 hts gX6_figuresFrom_X6_byteAt rfl rfl rfl (by decide +kernel) ⟨Nat.le_of_ble_eq_true rfl, Nat.le_of_ble_eq_true rfl⟩) (wp_V hP hK hD hN [0, 1] (by decide) rfl (ci := 5) rfl rfl) rfl rfl hl.1 rfl (lv_room (Nat.le_of_ble_eq_true rfl)) dX6_figuresFrom_16 ⟨Nat.le_of_ble_eq_true rfl, Nat.le_of_ble_eq_true rfl⟩) hP hD hS hA [0, 1] [] rfl rfl (by decide) (by decide) (fun r_2 u_2 H locs hw_2 hP hD hS => ?_)
        clear k_2
        have hP : va_P D kl [(h, .inr (5, [.ref tb, .ref dr, .int le, .int lf, .int fp, .int pl, .int fy])), (tb, .inl (cI, 120, .inl tf))] H := hP
        have hD : va_D A [(h, .inr (5, [.ref tb, .ref dr, .int le, .int lf, .int fp, .int pl, .int fy])), (tb, .inl (cI, 120, .inl tf))] := hD
        have c2_0 := hw_2
        have c2_0 : (r_2.toInt = tbc tf le.toInt t3_c4.toInt ∨ (128 ≤ r_2.toInt ∧ tbc tf le.toInt t3_c4.toInt = (-1))) ∧ (r_2.toInt = (-1) ∨ (0 ≤ t3_c4.toInt ∧ t3_c4.toInt < le.toInt)) := c2_0
        refine lv_bipush (v := 57) hx hb dX6_figuresFrom_19 (by decide) ?_
        have k_3 := (g_X7_isFrom l D cI cB cQ H.size 48 r_2 57)
        refine wc_i (WC := []) (WR := [(h, .inr (5, [.ref tb, .ref dr, .int le, .int lf, .int fp, .int pl, .int fy])), (tb, .inl (cI, 120, .inl tf))]) (va_runSN (As := [.int 48, .int r_2, .int 57]) (rest := []) ⟨hx, hb, hml, hown, hts⟩ k_3 (⟨va_cnB 3 hts gX6_figuresFrom_X7_isFrom_n126 rfl rfl rfl hN.2.2.2.2.2.2.1 (hts (.initialized RX7) (List.mem_of_getElem? (i := 9) rfl)) (by decide +kernel) ⟨Nat.le_of_ble_eq_true rfl, Nat.le_of_ble_eq_true rfl⟩, (hts (.static yX7_isFrom) (List.mem_of_getElem? (i := 8) rfl)), trivial⟩) (wp_S hP hK hD hN [] (by decide) rfl) rfl rfl hl.1 rfl (lv_room (Nat.le_of_ble_eq_true rfl)) dX6_figuresFrom_21 ⟨Nat.le_of_ble_eq_true rfl, Nat.le_of_ble_eq_true rfl⟩) hP hD hS hA [] [0, 1] rfl rfl (by decide) (by decide) (fun r_3 u_3 H locs hw_3 hP hD hS => ?_)
        clear k_3
        have hP : va_P D kl [(h, .inr (5, [.ref tb, .ref dr, .int le, .int lf, .int fp, .int pl, .int fy])), (tb, .inl (cI, 120, .inl tf))] H := hP
        have hD : va_D A [(h, .inr (5, [.ref tb, .ref dr, .int le, .int lf, .int fp, .int pl, .int fy])), (tb, .inl (cI, 120, .inl tf))] := hD
        have c3_0 := hw_3
        rcases c3_0 with ⟨e_3, f_3⟩ | ⟨e_3, f_3⟩
        · subst e_3
          have f_3 : (48 : Int) ≤ r_2.toInt ∧ r_2.toInt ≤ (57 : Int) := f_3
          refine lv_if_eq (tgt := 36) hx hb dX6_figuresFrom_24 (by decide) (fun c9 => absurd c9 (by decide)) (fun _ => ?_)
          obtain ⟨x_4, ex_4⟩ : ∃ y : Int32, y = t2_c4 + Int32.ofInt 1 := ⟨_, rfl⟩
          refine lv_iinc (v := x_4) (lv' := [(2, .int x_4), (3, .int t3_c4), (0, .ref h), (1, .int k)]) hx hb dX6_figuresFrom_27 hl (k := 1) rfl ex_4.symm (by decide) rfl (fun ls hl => ?_)
          have ex_4 : x_4 = t2_c4 + 1 := ex_4
          have e_4 : x_4.toInt = t2_c4.toInt + 1 := by rw [ex_4]; exact zi_add (rfl) (by decide) (by omega) (by omega)
          clear ex_4
          obtain ⟨x_5, ex_5⟩ : ∃ y : Int32, y = t3_c4 + Int32.ofInt 1 := ⟨_, rfl⟩
          refine lv_iinc (v := x_5) (lv' := [(3, .int x_5), (2, .int x_4), (0, .ref h), (1, .int k)]) hx hb dX6_figuresFrom_30 hl (k := 1) rfl ex_5.symm (by decide) rfl (fun ls hl => ?_)
          have ex_5 : x_5 = t3_c4 + 1 := ex_5
          have e_5 : x_5.toInt = t3_c4.toInt + 1 := by rw [ex_5]; exact zi_add (rfl) (by decide) (by omega) (by omega)
          clear ex_5
          refine lv_goto (tgt := 4) hx hb dX6_figuresFrom_33 (by decide) ?_
          exact ih4 x_5 x_4 _ _ _ (show 0 ≤ x_5.toInt ∧ x_5.toInt ≤ 240 from by omega) (show 0 ≤ x_4.toInt ∧ x_4.toInt ≤ 120 from by omega) (show x_5.toInt = k.toInt + x_4.toInt from by omega) (show x_4.toInt = 0 ∨ x_5.toInt ≤ le.toInt from by omega) (tdg_s (i := t3_c4.toInt) q0_c4 (by omega) (by omega) (by omega) (by omega)) (by omega) (hP.sub [0, 1] rfl) (hD.sub [0, 1] (by decide) rfl) hS (lv_sub hl [0, 1, 2, 3] rfl)
        · subst e_3
          have f_3 : ¬ ((48 : Int) ≤ r_2.toInt ∧ r_2.toInt ≤ (57 : Int)) := f_3
          refine lv_if_eq (tgt := 36) hx hb dX6_figuresFrom_24 (by decide) (fun _ => ?_) (fun c9 => absurd (by decide) c9)
          refine lv_iload_n hx hb dX6_figuresFrom_36 rfl (lv_at hl 1 rfl) ?_
          exact wr_i (v := t2_c4) hx hb hr hlocks hS () (by exact ⟨show 0 ≤ t2_c4.toInt ∧ (t2_c4.toInt = 0 ∨ k.toInt + t2_c4.toInt ≤ le.toInt) from by omega, show (t2_c4.toInt ≤ 2 ∧ t2_c4.toInt = tpn (tbc tf le.toInt) k.toInt) ∨ (3 ≤ t2_c4.toInt ∧ tpn (tbc tf le.toInt) k.toInt = 3) from tdg_n (i := t3_c4.toInt) q0_c4 (by omega) (by omega) (by omega)⟩) (hP.sub [0, 1] rfl) (hD.sub [0, 1] (by decide) rfl) dX6_figuresFrom_37
  exact hL4 (((120 - (k : Int32).toInt).toNat) + 1) k 0 _ _ _ (show 0 ≤ k.toInt ∧ k.toInt ≤ 240 from by omega) (show 0 ≤ 0 ∧ 0 ≤ 120 from by omega) (show k.toInt = k.toInt + 0 from by omega) (show 0 = 0 ∨ k.toInt ≤ le.toInt from by omega) (tdg_0 (by decide)) (Nat.lt_succ_self _) (hP.sub [0, 1] rfl) (hD.sub [0, 1] (by decide) rfl) hS (lv_sub hl [0, 1, 2, 3] rfl)
