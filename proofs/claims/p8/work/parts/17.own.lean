set_option maxHeartbeats 4000000 in
set_option maxRecDepth 100000 in
theorem g_X0_forgetAll (l : Launch) (D : va_G) (cI cB cQ : ClassId) (sz : Nat) (h : Nat) (rg : Nat) (ns : Int32) (kp : Int32) (h_kp : 0 ≤ kp.toInt ∧ kp.toInt ≤ 24) : mv l yX0_forgetAll wsX0_forgetAll ({ frames := 0, cells := 0, slots := 0, locals := 0 }) D cI cB cQ [.ref h] sz [(h, .inr (0, [.ref rg, .int ns, .int kp]))] (fun (u : Int32) => (0 ≤ u.toInt ∧ u.toInt ≤ 24)) (fun u => [(h, .inr (0, [.ref rg, .int ns, .int u]))]) 0 0 := by
  refine wm_v (cc := cX0_forgetAll) (maxL := 1) (ret := none) (by decide) rfl (Nat.le_of_ble_eq_true rfl) ?_
  intro p e s m below meth c A ls hx hb hr hml hown hts hlocks hin hP hK hD hN hA hl hS
  have hown : s.vm.findClass RX0 = some m.cls := hown
  have hl : lv_has ls 1 [(0, .ref h)] := hl
  change W p l e ({ frames := 0, cells := 0, slots := 0, locals := 0 }) s m ([.ref h] : List Value).toArray below meth c s.heap [] 0 0 (MQ below (va_Qv (fun (u : Int32) => (0 ≤ u.toInt ∧ u.toInt ≤ 24)) (fun u t => wb D A ((fun u => [(h, .inr (0, [.ref rg, .int ns, .int u]))]) u) t) A) ([.ref h] : List Value).toArray s 0 0 A) (F0 m 0 ls [])
  refine lv_aload_n hx hb dX0_forgetAll_0 rfl (lv_at hl 0 rfl) ?_
  refine lv_iconst (v := 0) hx hb dX0_forgetAll_1 (by decide) ?_
  refine va_put (D := D) (ci := 0) (v := .int 0) (ty := .int) (C := RX0) (T := TX0) (N := 3) hx hb hts (fun _ h => List.mem_cons_of_mem _ (List.mem_append_right _ h)) tyX0 tyX0_ok nmX0 hown hK hP hD hS 0 rfl rfl 2 (by decide) (hts (.fieldLink RX0 19 "WinterWalk$Acts" "kept" "I") (List.mem_of_getElem? (i := 1) rfl)) (fun _ h9 => h9) rfl (by decide +kernel) rfl rfl (Nat.le_of_ble_eq_true rfl) dX0_forgetAll_2 (fun H locs hP hD hS => ?_)
  have hP : va_P D kl [(h, .inr (0, [.ref rg, .int ns, .int 0]))] H := hP
  have hD : va_D A [(h, .inr (0, [.ref rg, .int ns, .int 0]))] := hD
  exact wr_v hx hb hr hlocks hS 0 (by exact show 0 ≤ (0 : Int32).toInt ∧ (0 : Int32).toInt ≤ 24 from ⟨by decide, by decide⟩) (hP.sub [0] rfl) (hD.sub [0] (by decide) rfl) dX0_forgetAll_5
set_option maxHeartbeats 4000000 in
set_option maxRecDepth 100000 in
theorem g_J7_rangeCheck_23922 (l : Launch) (D : va_G) (cI cB cQ : ClassId) (sz : Nat) (n : Int32) (a : Int32) (b : Int32) (h_n : 0 ≤ n.toInt ∧ n.toInt ≤ 320) (h_a : 0 ≤ a.toInt ∧ a.toInt ≤ 320) (h_b : 0 ≤ b.toInt ∧ b.toInt ≤ 320) (h_x : a.toInt ≤ b.toInt ∧ b.toInt ≤ n.toInt) : mv l yJ7_rangeCheck_23922 wsJ7_rangeCheck_23922 ({ frames := 0, cells := 0, slots := 0, locals := 0 }) D cI cB cQ [.int n, .int a, .int b] sz [] (fun (_u : Unit) => True) (fun _ => []) 0 0 := by
  refine wm_v (cc := cJ7_rangeCheck_23922) (maxL := 3) (ret := none) (by decide) rfl (Nat.le_of_ble_eq_true rfl) ?_
  intro p e s m below meth c A ls hx hb hr hml hown hts hlocks hin hP hK hD hN hA hl hS
  have hown : s.vm.findClass RJ7 = some m.cls := hown
  have hl : lv_has ls 3 [(0, .int n), (1, .int a), (2, .int b)] := hl
  change W p l e ({ frames := 0, cells := 0, slots := 0, locals := 0 }) s m ([.int n, .int a, .int b] : List Value).toArray below meth c s.heap [] 0 0 (MQ below (va_Qv (fun (_u : Unit) => True) (fun u t => wb D A ((fun _ => []) u) t) A) ([.int n, .int a, .int b] : List Value).toArray s 0 0 A) (F0 m 0 ls [])
  refine lv_iload_n hx hb dJ7_rangeCheck_23922_0 rfl (lv_at hl 1 rfl) ?_
  refine lv_iload_n hx hb dJ7_rangeCheck_23922_1 rfl (lv_at hl 2 rfl) ?_
  refine lv_icmp_le (tgt := 46) hx hb dJ7_rangeCheck_23922_2 (by decide) (fun c_1 => ?_) (fun c_1 => ?_)
  · have f_1 : a.toInt ≤ b.toInt := zi_le c_1
    refine lv_iload_n hx hb dJ7_rangeCheck_23922_46 rfl (lv_at hl 1 rfl) ?_
    refine lv_if_ge (tgt := 59) hx hb dJ7_rangeCheck_23922_47 (by decide) (fun c_2 => ?_) (fun c_2 => ?_)
    · have f_2 : 0 ≤ a.toInt := zi_le c_2
      refine lv_iload_n hx hb dJ7_rangeCheck_23922_59 rfl (lv_at hl 2 rfl) ?_
      refine lv_iload_n hx hb dJ7_rangeCheck_23922_60 rfl (lv_at hl 0 rfl) ?_
      refine lv_icmp_le (tgt := 73) hx hb dJ7_rangeCheck_23922_61 (by decide) (fun c_3 => ?_) (fun c_3 => ?_)
      · have f_3 : b.toInt ≤ n.toInt := zi_le c_3
        exact wr_v hx hb hr hlocks hS () (by trivial) (hP.sub [] rfl) (hD.sub [] (by decide) rfl) dJ7_rangeCheck_23922_73
      · have f_3 : ¬ b.toInt ≤ n.toInt := zi_nle c_3
        exfalso; omega
    · have f_2 : ¬ 0 ≤ a.toInt := zi_nle c_2
      exfalso; omega
  · have f_1 : ¬ a.toInt ≤ b.toInt := zi_nle c_1
    exfalso; omega
set_option maxHeartbeats 4000000 in
set_option maxRecDepth 100000 in
theorem g_J7_fill_fda19 (l : Launch) (D : va_G) (cI cB cQ : ClassId) (sz : Nat) (a : Nat) (x : Int32) (y : Int32) (v : Int32) (f : Nat → Int32) (h_x : 0 ≤ x.toInt ∧ x.toInt ≤ 320) (h_y : 0 ≤ y.toInt ∧ y.toInt ≤ 320) (h_x : x.toInt ≤ y.toInt) : mv l yJ7_fill_fda19 wsJ7_fill_fda19 ({ frames := 1, cells := 0, slots := 0, locals := 22 }) D cI cB cQ [.ref a, .int x, .int y, .int v] sz [(a, .inl (cI, 320, .inl f))] (fun (u : (Nat → Int32)) => True) (fun u => [(a, .inl (cI, 320, .inl u))]) 0 0 := by
  refine wm_v (cc := cJ7_fill_fda19) (maxL := 5) (ret := none) (by decide) rfl (Nat.le_of_ble_eq_true rfl) ?_
  intro p e s m below meth c A ls hx hb hr hml hown hts hlocks hin hP hK hD hN hA hl hS
  have hown : s.vm.findClass RJ7 = some m.cls := hown
  have hl : lv_has ls 5 [(0, .ref a), (1, .int x), (2, .int y), (3, .int v)] := hl
  change W p l e ({ frames := 1, cells := 0, slots := 0, locals := 22 }) s m ([.ref a, .int x, .int y, .int v] : List Value).toArray below meth c s.heap [] 0 0 (MQ below (va_Qv (fun (u : (Nat → Int32)) => True) (fun u t => wb D A ((fun u => [(a, .inl (cI, 320, .inl u))]) u) t) A) ([.ref a, .int x, .int y, .int v] : List Value).toArray s 0 0 A) (F0 m 0 ls [])
  refine lv_aload_n hx hb dJ7_fill_fda19_0 rfl (lv_at hl 0 rfl) ?_
  refine va_alen hx hb hK hP 0 0 rfl rfl (v := 320) rfl dJ7_fill_fda19_1 ?_
  refine lv_iload_n hx hb dJ7_fill_fda19_2 rfl (lv_at hl 1 rfl) ?_
  refine lv_iload_n hx hb dJ7_fill_fda19_3 rfl (lv_at hl 2 rfl) ?_
  have k_1 := (g_J7_rangeCheck_23922 l D cI cB cQ s.heap.size 320 x y ⟨by decide, by decide⟩ (by omega) (by omega) (by have hk0 : (320 : Int32).toInt = 320 := (by decide); omega))
  refine wc_v (WC := []) (WR := [(a, .inl (cI, 320, .inl f))]) (va_runS (As := [.int 320, .int x, .int y]) (rest := []) ⟨hx, hb, hml, hown, hts⟩ k_1 (va_cwS 3 hts gJ7_fill_fda19_J7_rangeCheck_23922 rfl rfl rfl (by decide +kernel) ⟨Nat.le_of_ble_eq_true rfl, Nat.le_of_ble_eq_true rfl⟩) (wp_S hP hK hD hN [] (by decide) rfl) rfl rfl hl.1 rfl (lv_room (Nat.le_of_ble_eq_true rfl)) dJ7_fill_fda19_4 ⟨Nat.le_of_ble_eq_true rfl, Nat.le_of_ble_eq_true rfl⟩) hP hD hS hA [] [0] rfl rfl (by decide) (by decide) (fun u_1 H locs hw_1 hP hD hS => ?_)
  clear k_1
  have hP : va_P D kl [(a, .inl (cI, 320, .inl f))] H := hP
  have hD : va_D A [(a, .inl (cI, 320, .inl f))] := hD
  clear hw_1
  refine lv_iload_n hx hb dJ7_fill_fda19_7 rfl (lv_at hl 1 rfl) ?_
  refine lv_istore (lv' := [(4, .int x), (0, .ref a), (1, .int x), (2, .int y), (3, .int v)]) hx hb dJ7_fill_fda19_8 hl (by decide) rfl (fun ls hl => ?_)
  have hL10 : ∀ (nf : Nat) (t4_c10 : Int32) (g0_c10 : Nat → Int32) (H : Heap) (locs : List Loc) (ls : Array Slot), (0 ≤ t4_c10.toInt ∧ t4_c10.toInt ≤ 320) → (320 - t4_c10.toInt).toNat < nf → va_P D kl [(a, .inl (cI, 320, .inl g0_c10))] H → va_D A [(a, .inl (cI, 320, .inl g0_c10))] → va_S A s.heap H locs → lv_has ls 5 [(4, .int t4_c10), (0, .ref a), (1, .int x), (2, .int y), (3, .int v)] → W p l e ({ frames := 1, cells := 0, slots := 0, locals := 22 }) s m ([.ref a, .int x, .int y, .int v] : List Value).toArray below meth c H locs 0 0 (MQ below (va_Qv (fun (u : (Nat → Int32)) => True) (fun u t => wb D A ((fun u => [(a, .inl (cI, 320, .inl u))]) u) t) A) ([.ref a, .int x, .int y, .int v] : List Value).toArray s 0 0 A) (F0 m 10 ls []) := by
    intro nf
    induction nf with
    | zero =>
      intro t4_c10 g0_c10 H locs ls i_t4_c10 hm
      exact absurd hm (Nat.not_lt_zero _)
    | succ nf ih10 =>
      intro t4_c10 g0_c10 H locs ls i_t4_c10 hm10 hP hD hS hl
      refine lv_iload hx hb dJ7_fill_fda19_10 (lv_at hl 0 rfl) ?_
      refine lv_iload_n hx hb dJ7_fill_fda19_12 rfl (lv_at hl 3 rfl) ?_
      refine lv_icmp_ge (tgt := 27) hx hb dJ7_fill_fda19_13 (by decide) (fun c_2 => ?_) (fun c_2 => ?_)
      · have f_2 : y.toInt ≤ t4_c10.toInt := zi_le c_2
        exact wr_v hx hb hr hlocks hS g0_c10 (by trivial) (hP.sub [0] rfl) (hD.sub [0] (by decide) rfl) dJ7_fill_fda19_27
      · have f_2 : ¬ y.toInt ≤ t4_c10.toInt := zi_nle c_2
        refine lv_aload_n hx hb dJ7_fill_fda19_16 rfl (lv_at hl 1 rfl) ?_
        refine lv_iload hx hb dJ7_fill_fda19_17 (lv_at hl 0 rfl) ?_
        refine lv_iload_n hx hb dJ7_fill_fda19_19 rfl (lv_at hl 4 rfl) ?_
        refine va_iast hx hb hK hP hD hS 0 0 rfl rfl (zi_in (by omega) (by omega)) dJ7_fill_fda19_20 (fun H locs hP hD hS => ?_)
        have hP : va_P D kl [(a, .inl (cI, 320, .inl (upd g0_c10 (t4_c10 : Int32).toNatClampNeg v)))] H := hP
        have hD : va_D A [(a, .inl (cI, 320, .inl (upd g0_c10 (t4_c10 : Int32).toNatClampNeg v)))] := hD
        obtain ⟨x_3, ex_3⟩ : ∃ y : Int32, y = t4_c10 + Int32.ofInt 1 := ⟨_, rfl⟩
        refine lv_iinc (v := x_3) (lv' := [(4, .int x_3), (0, .ref a), (1, .int x), (2, .int y), (3, .int v)]) hx hb dJ7_fill_fda19_21 hl (k := 0) rfl ex_3.symm (by decide) rfl (fun ls hl => ?_)
        have ex_3 : x_3 = t4_c10 + 1 := ex_3
        have e_3 : x_3.toInt = t4_c10.toInt + 1 := by rw [ex_3]; exact zi_add (rfl) (by decide) (by omega) (by omega)
        clear ex_3
        refine lv_goto (tgt := 10) hx hb dJ7_fill_fda19_24 (by decide) ?_
        exact ih10 x_3 (upd g0_c10 (t4_c10 : Int32).toNatClampNeg v) _ _ _ (show 0 ≤ x_3.toInt ∧ x_3.toInt ≤ 320 from by omega) (by omega) (hP.sub [0] rfl) (hD.sub [0] (by decide) rfl) hS (lv_sub hl [0, 1, 2, 3, 4] rfl)
  exact hL10 (((320 - (x : Int32).toInt).toNat) + 1) x f _ _ _ (show 0 ≤ x.toInt ∧ x.toInt ≤ 320 from by omega) (Nat.lt_succ_self _) (hP.sub [0] rfl) (hD.sub [0] (by decide) rfl) hS (lv_sub hl [0, 1, 2, 3, 4] rfl)
