set_option maxHeartbeats 4000000 in
set_option maxRecDepth 100000 in
theorem whole_start {p : Program} {e : Env} {s : State} {m : MethodId} {below : List Frame} {meth : Method} {c : Code} (l : Launch) (hflags : l.flags = flags0) {b L : Nat} {xs : Nat → Int32} (hL : L ≤ 6) (C0 : lw_At p s m meth c b L xs) : W p l e room_1 s m #[Value.ref b] below meth c s.heap [] 0 0 (lw_Z below #[Value.ref b] s) (entryFrame m ([Value.ref b] : List Value).toArray 4) := by
  obtain ⟨hx, hb, hr, hml, hown0, ht0, hX, hbl, hlocks, hgv⟩ := id C0
  have hown : s.vm.findClass RL = some m.cls := hown0
  have hts : ∀ w ∈ wsL_law, w.before #[Value.ref b] s = true := fun w h => ht0 w (wsL_law_in w h)
  obtain ⟨c0, iS0, hKn0⟩ := u_known (C := RX0) (T := TX0) (N := 3) (n := 3) ht0 inX0 (ht0 (.instantiable RX0 3) (tb1 (List.mem_of_getElem? (i := 158) rfl)))
  obtain ⟨c1, iS1, hKn1⟩ := u_known (C := RX1) (T := TX1) (N := 3) (n := 3) ht0 inX1 (ht0 (.instantiable RX1 3) (tb1 (List.mem_of_getElem? (i := 192) rfl)))
  obtain ⟨c2, iS2, hKn2⟩ := u_known (C := RX2) (T := TX2) (N := 2) (n := 2) ht0 inX2 (ht0 (.instantiable RX2 2) (tb1 (List.mem_of_getElem? (i := 177) rfl)))
  obtain ⟨c3, iS3, hKn3⟩ := u_known (C := RX4) (T := TX4) (N := 16) (n := 16) ht0 inX4 (ht0 (.instantiable RX4 16) (tb1 (List.mem_of_getElem? (i := 49) rfl)))
  obtain ⟨c4, iS4, hKn4⟩ := u_known (C := RX5) (T := TX5) (N := 3) (n := 3) ht0 inX5 (ht0 (.instantiable RX5 3) (tb1 (List.mem_of_getElem? (i := 23) rfl)))
  obtain ⟨c5, iS5, hKn5⟩ := u_known (C := RX6) (T := TX6) (N := 7) (n := 7) ht0 inX6 (ht0 (.instantiable RX6 7) (tb1 (List.mem_of_getElem? (i := 43) rfl)))
  obtain ⟨c6, iS6, hKn6⟩ := u_known (C := RX7) (T := TX7) (N := 8) (n := 8) ht0 inX7 (ht0 (.instantiable RX7 8) (tb1 (List.mem_of_getElem? (i := 15) rfl)))
  obtain ⟨c7, iS7, hKn7⟩ := u_known (C := RX8) (T := TX8) (N := 16) (n := 16) ht0 inX8 (ht0 (.instantiable RX8 16) (tb4 (List.mem_of_getElem? (i := 94) rfl)))
  obtain ⟨D, hKc⟩ : ∃ D : va_G, ∀ (k : Nat) (q : vw_C), kl[k]? = some q → u_Kn s q.1 q.2.1 q.2.2 (D.1 k) (D.2 k) := by
    refine ⟨(fun k => if k = 0 then c0 else if k = 1 then c1 else if k = 2 then c2 else if k = 3 then c3 else if k = 4 then c4 else if k = 5 then c5 else if k = 6 then c6 else c7, fun k => if k = 0 then iS0 else if k = 1 then iS1 else if k = 2 then iS2 else if k = 3 then iS3 else if k = 4 then iS4 else if k = 5 then iS5 else if k = 6 then iS6 else iS7), ?_⟩
    intro k q hq
    match k, hq with
    | 0, hq => cases hq; exact hKn0
    | 1, hq => cases hq; exact hKn1
    | 2, hq => cases hq; exact hKn2
    | 3, hq => cases hq; exact hKn3
    | 4, hq => cases hq; exact hKn4
    | 5, hq => cases hq; exact hKn5
    | 6, hq => cases hq; exact hKn6
    | 7, hq => cases hq; exact hKn7
    | k + 8, hq => simp [kl] at hq
  obtain ⟨cI, kI, gI, a1, a2, a3⟩ := Cond.arrayClass_spec (ht0 (.arrayClass .int) (tb1 (List.mem_of_getElem? (i := 41) rfl)))
  obtain ⟨cB, kB, gB, b1, b2, b3⟩ := Cond.arrayClass_spec (ht0 (.arrayClass .byte) (tb4 (List.mem_of_getElem? (i := 148) rfl)))
  have hAO : va_AO "WinterWalk$Land" s := va_AO.of (ht0 (.arrayOver (.object "WinterWalk$Land")) (tb1 (List.mem_of_getElem? (i := 164) rfl)))
  obtain ⟨gQ, cQ, kQ, q1, q2, q3, q4, q5⟩ := Cond.arrayOver_spec hAO
  have hK : va_K D kl (ty_s cI cB cQ) s := by
    refine ⟨hKc, fun k q h => ?_⟩
    match k, h with
    | 0, h => cases h; exact ⟨fun n z => ⟨fun k h => (by cases h), kI, a2, gI, a3⟩, a1⟩
    | 1, h => cases h; exact ⟨fun n z => ⟨fun k h => (by cases h), kB, b2, gB, b3⟩, b1⟩
    | 2, h => cases h; exact ⟨fun n z => ⟨fun k h => (by cases h), kQ, q3, gQ, q4⟩, kQ, gQ, q3, q4, q1, q5⟩
    | k + 3, h => simp [ty_s] at h
  have hN : ww_N s := ⟨va_Nw.of rfl (ht0 (.methodLinkNest RX7 18 yX6_init "WinterWalk") (tb1 (List.mem_of_getElem? (i := 44) rfl))), va_Nw.of rfl (ht0 (.methodLinkNest RX6 17 yX4_init "WinterWalk") (tb1 (List.mem_of_getElem? (i := 50) rfl))), va_Nw.of rfl (ht0 (.methodLinkNest RX7 25 yX4_init "WinterWalk") (tb1 (List.mem_of_getElem? (i := 156) rfl))), va_Nw.of rfl (ht0 (.methodLinkNest RX7 32 yX0_init "WinterWalk") (tb1 (List.mem_of_getElem? (i := 159) rfl))), va_Nw.of rfl (ht0 (.methodLinkNest RX2 11 yX4_init "WinterWalk") (tb1 (List.mem_of_getElem? (i := 183) rfl))), va_Nw.of rfl (ht0 (.methodLinkNest RX5 27 yX7_isFrom "WinterWalk") (tb2 (List.mem_of_getElem? (i := 1) rfl))), va_Nw.of rfl (ht0 (.methodLinkNest RX6 126 yX7_isFrom "WinterWalk") (tb2 (List.mem_of_getElem? (i := 136) rfl))), va_Nw.of rfl (ht0 (.methodLinkNest RX0 22 yX4_init "WinterWalk") (tb2 (List.mem_of_getElem? (i := 234) rfl))), va_Nw.of rfl (ht0 (.methodLinkNest RX3 9 yX7_isFrom "WinterWalk") (tb4 (List.mem_of_getElem? (i := 45) rfl))), va_Nw.of rfl (ht0 (.methodLinkNest RX1 39 yX7_isFrom "WinterWalk") (tb4 (List.mem_of_getElem? (i := 63) rfl))), hAO⟩
  obtain ⟨A, hAe⟩ : ∃ A : Nat → Prop, A = fun q : Nat => s.heap.size ≤ q := ⟨_, rfl⟩
  have hA : ∀ q : Nat, s.heap.size ≤ q → A q := fun q h => by rw [hAe]; exact h
  have hAs : ∀ q, A q → s.heap.size ≤ q := fun q h => by rw [hAe] at h; exact h
  have hbA : ¬ A b := fun h => Nat.not_le.mpr hbl (hAs b h)
  have hS : va_S A s.heap s.heap [] := va_S.rf
  have hP : va_P D kl [] s.heap := fun k q h => by simp at h
  have hD : va_D A [] := ⟨fun i j p q h => by simp at h, fun k q h => by simp at h⟩
  have hl := lv_entry ([.ref b]) (n := 4) (Nat.le_of_ble_eq_true rfl)
  rw [lg_entry_eq]
  generalize (lg_sl ([.ref b]) ++ List.replicate (4 - (lg_sl ([.ref b])).length) Slot.unset).toArray = ls at hl ⊢
  have hl : lv_has ls 4 [(0, .ref b)] := hl
  refine va_new (ci := 6) (fs := [.null, .null, .null, .null, .null, .null, .null, .int 0]) (C := RX7) (T := TX7) (N := 8) hx hb hts inlX7 tyX7 tyX7_ok hown (hts (.classLink RL 7 RX7) (List.mem_of_getElem? (i := 0) rfl)) (hts (.instantiable RX7 8) (List.mem_of_getElem? (i := 1) rfl)) (hts (.initialized RX7) (List.mem_of_getElem? (i := 2) rfl)) hK hP hD hS hA rfl (fun j hj => by rcases (show j = 0 ∨ j = 1 ∨ j = 2 ∨ j = 3 ∨ j = 4 ∨ j = 5 ∨ j = 6 ∨ j = 7 by omega) with rfl | rfl | rfl | rfl | rfl | rfl | rfl | rfl <;> rfl) (Nat.le_of_ble_eq_true rfl) (Nat.le_of_ble_eq_true rfl) dL_law_0 (fun q_1 H hP hD hS => ?_)
  have hP : va_P D kl [(q_1, .inr (6, [.null, .null, .null, .null, .null, .null, .null, .int 0]))] H := hP
  have hD : va_D A [(q_1, .inr (6, [.null, .null, .null, .null, .null, .null, .null, .int 0]))] := hD
  refine W.widen (k := 1) (n := 8) (Nat.le_of_ble_eq_true rfl) (Nat.le_of_ble_eq_true rfl) ?_
  refine lv_dup hx hb dL_law_3 rfl ?_
  have k_2 := (k_ww_init l D cI cB cQ H.size q_1)
  refine wc_v (WC := [(q_1, .inr (6, [.null, .null, .null, .null, .null, .null, .null, .int 0]))]) (WR := []) (va_runI (As := []) (rest := [.ref q_1]) ⟨hx, hb, hml, hown, hts⟩ k_2 (cwI 0 hts gL_law_X7_init rfl rfl rfl (hts (.initialized RX7) (List.mem_of_getElem? (i := 2) rfl)) (hts (.methodLink RL 9 yX7_init) (List.mem_of_getElem? (i := 6) rfl)) (hts (.instanceMethod yX7_init) (List.mem_of_getElem? (i := 7) rfl)) rfl (by decide +kernel) ⟨Nat.le_of_ble_eq_true rfl, Nat.le_of_ble_eq_true rfl⟩) (wp_S hP hK hD hN [0] (by decide) rfl) rfl rfl hl.1 rfl (lv_room (Nat.le_of_ble_eq_true rfl)) dL_law_4 ⟨Nat.le_of_ble_eq_true rfl, Nat.le_of_ble_eq_true rfl⟩) hP hD hS hA [0] [] rfl rfl (by decide) (by decide) (fun u_2 H locs hw_2 hP hD hS => ?_)
  obtain ⟨x_rw, x_la, x_sq, x_ir, x_tp, x_tb, x_dr, x_d0, x_d1, x_d2, x_d3, x_d4, x_d5, x_d6, x_d7, x_nw, x_w0, x_w1, x_w2, x_w3, x_w4, x_w5, x_w6, x_w7, x_ac, x_rg, x_im, x_fo, x_ak, x_bo⟩ := u_2
  have hP : va_P D kl [(q_1, .inr (6, [.ref x_rw, .ref x_tp, .ref x_nw, .ref x_ac, .ref x_im, .ref x_fo, .ref x_ak, .int 0])), (x_rw, .inr (4, [.ref x_la, .ref x_sq, .ref x_ir])), (x_la, .inl (cI, 8, .inl (fun _ => (-1)))), (x_sq, .inl (cI, 8, .inl (fun _ => 0))), (x_ir, .inl (cI, 320, .inl (fun _ => 0))), (x_tp, .inr (5, [.ref x_tb, .ref x_dr, .int 0, .int 0, .int 0, .int 0, .int 0])), (x_tb, .inl (cI, 120, .inl (fun _ => 0))), (x_dr, .inr (3, [.int 0, .int 0, .int 0, .int 0, .int 0, .int 0, .int 0, .int 0, .ref x_d0, .ref x_d1, .ref x_d2, .ref x_d3, .ref x_d4, .ref x_d5, .ref x_d6, .ref x_d7])), (x_d2, .inl (cI, 8, .inl (fun _ => 0))), (x_d3, .inl (cI, 8, .inl (fun _ => 0))), (x_d4, .inl (cI, 8, .inl (fun _ => 0))), (x_nw, .inr (3, [.int 0, .int 0, .int 0, .int 0, .int 0, .int 0, .int 0, .int 0, .ref x_w0, .ref x_w1, .ref x_w2, .ref x_w3, .ref x_w4, .ref x_w5, .ref x_w6, .ref x_w7])), (x_ac, .inr (0, [.ref x_rg, .int 0, .int 0])), (x_im, .inl (cQ, 2, .inr (.inr (.inr (.inr (fun _ => none)))))), (x_ak, .inr (1, [.ref x_nw, .ref x_bo, .int 0]))] H := hP
  have hD : va_D A [(q_1, .inr (6, [.ref x_rw, .ref x_tp, .ref x_nw, .ref x_ac, .ref x_im, .ref x_fo, .ref x_ak, .int 0])), (x_rw, .inr (4, [.ref x_la, .ref x_sq, .ref x_ir])), (x_la, .inl (cI, 8, .inl (fun _ => (-1)))), (x_sq, .inl (cI, 8, .inl (fun _ => 0))), (x_ir, .inl (cI, 320, .inl (fun _ => 0))), (x_tp, .inr (5, [.ref x_tb, .ref x_dr, .int 0, .int 0, .int 0, .int 0, .int 0])), (x_tb, .inl (cI, 120, .inl (fun _ => 0))), (x_dr, .inr (3, [.int 0, .int 0, .int 0, .int 0, .int 0, .int 0, .int 0, .int 0, .ref x_d0, .ref x_d1, .ref x_d2, .ref x_d3, .ref x_d4, .ref x_d5, .ref x_d6, .ref x_d7])), (x_d2, .inl (cI, 8, .inl (fun _ => 0))), (x_d3, .inl (cI, 8, .inl (fun _ => 0))), (x_d4, .inl (cI, 8, .inl (fun _ => 0))), (x_nw, .inr (3, [.int 0, .int 0, .int 0, .int 0, .int 0, .int 0, .int 0, .int 0, .ref x_w0, .ref x_w1, .ref x_w2, .ref x_w3, .ref x_w4, .ref x_w5, .ref x_w6, .ref x_w7])), (x_ac, .inr (0, [.ref x_rg, .int 0, .int 0])), (x_im, .inl (cQ, 2, .inr (.inr (.inr (.inr (fun _ => none)))))), (x_ak, .inr (1, [.ref x_nw, .ref x_bo, .int 0]))] := hD
  refine W.widen (k := 40) (n := 719) (Nat.le_of_ble_eq_true rfl) (Nat.le_of_ble_eq_true rfl) ?_
  refine lv_astore_n (lv' := [(1, .ref q_1), (0, .ref b)]) hx hb dL_law_7 rfl hl (by decide) rfl (fun ls hl => ?_)
  refine va_new (ci := 7) (fs := [.null, .int 0, .null, .null, .null, .null, .int 0, .int 0, .null, .int 0, .int 0, .int 0, .null, .int 0, .null, .int 0]) (C := RX8) (T := TX8) (N := 16) hx hb hts inlX8 tyX8 tyX8_ok hown (hts (.classLink RL 10 RX8) (List.mem_of_getElem? (i := 3) rfl)) (hts (.instantiable RX8 16) (List.mem_of_getElem? (i := 4) rfl)) (hts (.initialized RX8) (List.mem_of_getElem? (i := 5) rfl)) hK hP hD hS hA rfl (fun j hj => by rcases (show j = 0 ∨ j = 1 ∨ j = 2 ∨ j = 3 ∨ j = 4 ∨ j = 5 ∨ j = 6 ∨ j = 7 ∨ j = 8 ∨ j = 9 ∨ j = 10 ∨ j = 11 ∨ j = 12 ∨ j = 13 ∨ j = 14 ∨ j = 15 by omega) with rfl | rfl | rfl | rfl | rfl | rfl | rfl | rfl | rfl | rfl | rfl | rfl | rfl | rfl | rfl | rfl <;> rfl) (Nat.le_of_ble_eq_true rfl) (Nat.le_of_ble_eq_true rfl) dL_law_8 (fun q_3 H hP hD hS => ?_)
  have hP : va_P D kl [(q_1, .inr (6, [.ref x_rw, .ref x_tp, .ref x_nw, .ref x_ac, .ref x_im, .ref x_fo, .ref x_ak, .int 0])), (x_rw, .inr (4, [.ref x_la, .ref x_sq, .ref x_ir])), (x_la, .inl (cI, 8, .inl (fun _ => (-1)))), (x_sq, .inl (cI, 8, .inl (fun _ => 0))), (x_ir, .inl (cI, 320, .inl (fun _ => 0))), (x_tp, .inr (5, [.ref x_tb, .ref x_dr, .int 0, .int 0, .int 0, .int 0, .int 0])), (x_tb, .inl (cI, 120, .inl (fun _ => 0))), (x_dr, .inr (3, [.int 0, .int 0, .int 0, .int 0, .int 0, .int 0, .int 0, .int 0, .ref x_d0, .ref x_d1, .ref x_d2, .ref x_d3, .ref x_d4, .ref x_d5, .ref x_d6, .ref x_d7])), (x_d2, .inl (cI, 8, .inl (fun _ => 0))), (x_d3, .inl (cI, 8, .inl (fun _ => 0))), (x_d4, .inl (cI, 8, .inl (fun _ => 0))), (x_nw, .inr (3, [.int 0, .int 0, .int 0, .int 0, .int 0, .int 0, .int 0, .int 0, .ref x_w0, .ref x_w1, .ref x_w2, .ref x_w3, .ref x_w4, .ref x_w5, .ref x_w6, .ref x_w7])), (x_ac, .inr (0, [.ref x_rg, .int 0, .int 0])), (x_im, .inl (cQ, 2, .inr (.inr (.inr (.inr (fun _ => none)))))), (x_ak, .inr (1, [.ref x_nw, .ref x_bo, .int 0])), (q_3, .inr (7, [.null, .int 0, .null, .null, .null, .null, .int 0, .int 0, .null, .int 0, .int 0, .int 0, .null, .int 0, .null, .int 0]))] H := hP
  have hD : va_D A [(q_1, .inr (6, [.ref x_rw, .ref x_tp, .ref x_nw, .ref x_ac, .ref x_im, .ref x_fo, .ref x_ak, .int 0])), (x_rw, .inr (4, [.ref x_la, .ref x_sq, .ref x_ir])), (x_la, .inl (cI, 8, .inl (fun _ => (-1)))), (x_sq, .inl (cI, 8, .inl (fun _ => 0))), (x_ir, .inl (cI, 320, .inl (fun _ => 0))), (x_tp, .inr (5, [.ref x_tb, .ref x_dr, .int 0, .int 0, .int 0, .int 0, .int 0])), (x_tb, .inl (cI, 120, .inl (fun _ => 0))), (x_dr, .inr (3, [.int 0, .int 0, .int 0, .int 0, .int 0, .int 0, .int 0, .int 0, .ref x_d0, .ref x_d1, .ref x_d2, .ref x_d3, .ref x_d4, .ref x_d5, .ref x_d6, .ref x_d7])), (x_d2, .inl (cI, 8, .inl (fun _ => 0))), (x_d3, .inl (cI, 8, .inl (fun _ => 0))), (x_d4, .inl (cI, 8, .inl (fun _ => 0))), (x_nw, .inr (3, [.int 0, .int 0, .int 0, .int 0, .int 0, .int 0, .int 0, .int 0, .ref x_w0, .ref x_w1, .ref x_w2, .ref x_w3, .ref x_w4, .ref x_w5, .ref x_w6, .ref x_w7])), (x_ac, .inr (0, [.ref x_rg, .int 0, .int 0])), (x_im, .inl (cQ, 2, .inr (.inr (.inr (.inr (fun _ => none)))))), (x_ak, .inr (1, [.ref x_nw, .ref x_bo, .int 0])), (q_3, .inr (7, [.null, .int 0, .null, .null, .null, .null, .int 0, .int 0, .null, .int 0, .int 0, .int 0, .null, .int 0, .null, .int 0]))] := hD
  refine W.widen (k := 41) (n := 735) (Nat.le_of_ble_eq_true rfl) (Nat.le_of_ble_eq_true rfl) ?_
  refine lv_dup hx hb dL_law_11 rfl ?_
  have k_4 := (k_model_init l D cI cB cQ H.size q_3)
  refine wc_v (WC := [(q_3, .inr (7, [.null, .int 0, .null, .null, .null, .null, .int 0, .int 0, .null, .int 0, .int 0, .int 0, .null, .int 0, .null, .int 0]))]) (WR := [(q_1, .inr (6, [.ref x_rw, .ref x_tp, .ref x_nw, .ref x_ac, .ref x_im, .ref x_fo, .ref x_ak, .int 0])), (x_rw, .inr (4, [.ref x_la, .ref x_sq, .ref x_ir])), (x_la, .inl (cI, 8, .inl (fun _ => (-1)))), (x_sq, .inl (cI, 8, .inl (fun _ => 0))), (x_ir, .inl (cI, 320, .inl (fun _ => 0))), (x_tp, .inr (5, [.ref x_tb, .ref x_dr, .int 0, .int 0, .int 0, .int 0, .int 0])), (x_tb, .inl (cI, 120, .inl (fun _ => 0))), (x_dr, .inr (3, [.int 0, .int 0, .int 0, .int 0, .int 0, .int 0, .int 0, .int 0, .ref x_d0, .ref x_d1, .ref x_d2, .ref x_d3, .ref x_d4, .ref x_d5, .ref x_d6, .ref x_d7])), (x_d2, .inl (cI, 8, .inl (fun _ => 0))), (x_d3, .inl (cI, 8, .inl (fun _ => 0))), (x_d4, .inl (cI, 8, .inl (fun _ => 0))), (x_nw, .inr (3, [.int 0, .int 0, .int 0, .int 0, .int 0, .int 0, .int 0, .int 0, .ref x_w0, .ref x_w1, .ref x_w2, .ref x_w3, .ref x_w4, .ref x_w5, .ref x_w6, .ref x_w7])), (x_ac, .inr (0, [.ref x_rg, .int 0, .int 0])), (x_im, .inl (cQ, 2, .inr (.inr (.inr (.inr (fun _ => none)))))), (x_ak, .inr (1, [.ref x_nw, .ref x_bo, .int 0]))]) (va_runI (As := []) (rest := [.ref q_3]) ⟨hx, hb, hml, hown, hts⟩ k_4 (cwI 0 hts gL_law_X8_init rfl rfl rfl (hts (.initialized RX8) (List.mem_of_getElem? (i := 5) rfl)) (hts (.methodLink RL 12 yX8_init) (List.mem_of_getElem? (i := 101) rfl)) (hts (.instanceMethod yX8_init) (List.mem_of_getElem? (i := 102) rfl)) rfl (by decide +kernel) ⟨Nat.le_of_ble_eq_true rfl, Nat.le_of_ble_eq_true rfl⟩) (wp_S hP hK hD hN [15] (by decide) rfl) rfl rfl hl.1 rfl (lv_room (Nat.le_of_ble_eq_true rfl)) dL_law_12 ⟨Nat.le_of_ble_eq_true rfl, Nat.le_of_ble_eq_true rfl⟩) hP hD hS hA [15] [0, 1, 2, 3, 4, 5, 6, 7, 8, 9, 10, 11, 12, 13, 14] rfl rfl (by decide) (by decide) (fun u_4 H locs hw_4 hP hD hS => ?_)
  obtain ⟨m_sl, m_zs, m_ln, m_ir, m_tk, m_tb, m_tr, m_fz⟩ := u_4
  have hP : va_P D kl [(q_1, .inr (6, [.ref x_rw, .ref x_tp, .ref x_nw, .ref x_ac, .ref x_im, .ref x_fo, .ref x_ak, .int 0])), (x_rw, .inr (4, [.ref x_la, .ref x_sq, .ref x_ir])), (x_la, .inl (cI, 8, .inl (fun _ => (-1)))), (x_sq, .inl (cI, 8, .inl (fun _ => 0))), (x_ir, .inl (cI, 320, .inl (fun _ => 0))), (x_tp, .inr (5, [.ref x_tb, .ref x_dr, .int 0, .int 0, .int 0, .int 0, .int 0])), (x_tb, .inl (cI, 120, .inl (fun _ => 0))), (x_dr, .inr (3, [.int 0, .int 0, .int 0, .int 0, .int 0, .int 0, .int 0, .int 0, .ref x_d0, .ref x_d1, .ref x_d2, .ref x_d3, .ref x_d4, .ref x_d5, .ref x_d6, .ref x_d7])), (x_d2, .inl (cI, 8, .inl (fun _ => 0))), (x_d3, .inl (cI, 8, .inl (fun _ => 0))), (x_d4, .inl (cI, 8, .inl (fun _ => 0))), (x_nw, .inr (3, [.int 0, .int 0, .int 0, .int 0, .int 0, .int 0, .int 0, .int 0, .ref x_w0, .ref x_w1, .ref x_w2, .ref x_w3, .ref x_w4, .ref x_w5, .ref x_w6, .ref x_w7])), (x_ac, .inr (0, [.ref x_rg, .int 0, .int 0])), (x_im, .inl (cQ, 2, .inr (.inr (.inr (.inr (fun _ => none)))))), (x_ak, .inr (1, [.ref x_nw, .ref x_bo, .int 0])), (q_3, .inr (7, [.ref m_sl, .int 0, .ref m_zs, .ref m_ln, .ref m_ir, .ref m_tk, .int 0, .int 0, .ref m_tb, .int 0, .int 0, .int 0, .ref m_tr, .int 0, .ref m_fz, .int 0])), (m_sl, .inl (cI, 1653, .inl (fun _ => 0))), (m_zs, .inl (cI, 8, .inl (fun _ => (-1)))), (m_ln, .inl (cI, 8, .inl (fun _ => 0))), (m_ir, .inl (cI, 320, .inl (fun _ => 0))), (m_tb, .inl (cB, 120, .inl (fun _ => 0)))] H := hP
  have hD : va_D A [(q_1, .inr (6, [.ref x_rw, .ref x_tp, .ref x_nw, .ref x_ac, .ref x_im, .ref x_fo, .ref x_ak, .int 0])), (x_rw, .inr (4, [.ref x_la, .ref x_sq, .ref x_ir])), (x_la, .inl (cI, 8, .inl (fun _ => (-1)))), (x_sq, .inl (cI, 8, .inl (fun _ => 0))), (x_ir, .inl (cI, 320, .inl (fun _ => 0))), (x_tp, .inr (5, [.ref x_tb, .ref x_dr, .int 0, .int 0, .int 0, .int 0, .int 0])), (x_tb, .inl (cI, 120, .inl (fun _ => 0))), (x_dr, .inr (3, [.int 0, .int 0, .int 0, .int 0, .int 0, .int 0, .int 0, .int 0, .ref x_d0, .ref x_d1, .ref x_d2, .ref x_d3, .ref x_d4, .ref x_d5, .ref x_d6, .ref x_d7])), (x_d2, .inl (cI, 8, .inl (fun _ => 0))), (x_d3, .inl (cI, 8, .inl (fun _ => 0))), (x_d4, .inl (cI, 8, .inl (fun _ => 0))), (x_nw, .inr (3, [.int 0, .int 0, .int 0, .int 0, .int 0, .int 0, .int 0, .int 0, .ref x_w0, .ref x_w1, .ref x_w2, .ref x_w3, .ref x_w4, .ref x_w5, .ref x_w6, .ref x_w7])), (x_ac, .inr (0, [.ref x_rg, .int 0, .int 0])), (x_im, .inl (cQ, 2, .inr (.inr (.inr (.inr (fun _ => none)))))), (x_ak, .inr (1, [.ref x_nw, .ref x_bo, .int 0])), (q_3, .inr (7, [.ref m_sl, .int 0, .ref m_zs, .ref m_ln, .ref m_ir, .ref m_tk, .int 0, .int 0, .ref m_tb, .int 0, .int 0, .int 0, .ref m_tr, .int 0, .ref m_fz, .int 0])), (m_sl, .inl (cI, 1653, .inl (fun _ => 0))), (m_zs, .inl (cI, 8, .inl (fun _ => (-1)))), (m_ln, .inl (cI, 8, .inl (fun _ => 0))), (m_ir, .inl (cI, 320, .inl (fun _ => 0))), (m_tb, .inl (cB, 120, .inl (fun _ => 0)))] := hD
  refine W.widen (k := 49) (n := 2908) (Nat.le_of_ble_eq_true rfl) (Nat.le_of_ble_eq_true rfl) ?_
  refine lv_astore_n (lv' := [(2, .ref q_3), (1, .ref q_1), (0, .ref b)]) hx hb dL_law_15 rfl hl (by decide) rfl (fun ls hl => ?_)
  refine lv_iconst (v := 0) hx hb dL_law_16 (by decide) ?_
  refine lv_istore_n (lv' := [(3, .int 0), (2, .ref q_3), (1, .ref q_1), (0, .ref b)]) hx hb dL_law_17 rfl hl (by decide) rfl (fun ls hl => ?_)
  exact law_head hL hx hb hr hml hown hlocks hX hbl hbA hAs hA hS hts hK hN (hP.sub [0, 1, 2, 3, 4, 5, 6, 7, 8, 9, 10, 11, 12, 13, 14, 15, 16, 17, 18, 19, 20] rfl) (hD.sub [0, 1, 2, 3, 4, 5, 6, 7, 8, 9, 10, 11, 12, 13, 14, 15, 16, 17, 18, 19, 20] (by decide) rfl) hl
set_option maxHeartbeats 4000000 in
theorem lw_walk (l : Launch) (hflags : l.flags = flags0) (b : Addr) (xs : List Int32) : MetFree l x (headSpec (Jvm.Cond.code x code maxLocals ret :: tables_1) room_1) (lw_P b xs) (fun _ _ _ _ _ => True) lw_Q := by
  refine MetFree.of_bodyS (code := code) (maxLocals := maxLocals) (ret := ret) (by decide) ?_ ?_
  · intro args s m h hn
    obtain ⟨meth, c, h1, h2, h3, h4, h5, h6, -, -⟩ := Cond.code_spec hn (atoms_spec (ws := Jvm.Cond.code x code maxLocals ret :: tables_1) h _ List.mem_cons_self)
    exact ⟨meth, c, h1, h2, h3, h4, h5, h6⟩
  · intro p e s m args below meth c s₁ B hml0 hP _
    obtain ⟨rfl, hx, hbd, hgv⟩ := hP
    obtain ⟨scr, harrAt, hlist, hof, hsmall⟩ := hx
    obtain ⟨hcb, hkn, -, -⟩ := State.arrayAt?_spec harrAt
    have hown : s.vm.findClass R_law = some m.cls := findClass_of_methodNamed B.named
    have hts0 : ∀ c ∈ (Jvm.Cond.code x code maxLocals ret :: tables_1), c.before #[Value.ref b] s = true := atoms_spec (ws := Jvm.Cond.code x code maxLocals ret :: tables_1) B.pre
    have hts : ∀ w ∈ lw_tbl, w.before #[Value.ref b] s = true := k2_hts_sels lw_privs (fun w hw => hts0 w (List.mem_cons_of_mem _ hw)) lw_privs_ok
    have hml : c.maxLocals = 4 := B.maxLocals_eq (hts0 _ List.mem_cons_self)
    have X₀ : Stand p l e room_1 s m #[Value.ref b] below meth c s₁ [] 0 0 := Stand.of_body B
    have hh0 : s₁.heap = s.heap := by rw [B.state]; rfl
    have hsz : scr.slots.size = xs.length := by rw [← Array.length_toList, hlist, List.length_map]
    have hval : ∀ j : Nat, j < xs.length → scr.slots[j]? = some (.int (xs.getD j 0)) := fun j hj => by
      rw [← Array.getElem?_toList, hlist]
      simp [hj]
    have hbl : b < s.heap.size := (Array.getElem?_eq_some_iff.mp hcb).1
    have hX : va_X b xs.length (fun j => xs.getD j 0) s s.heap := ⟨scr, hcb, hof, hkn, hsz, hval⟩
    have K : W p l e room_1 s m #[Value.ref b] below meth c s₁.heap [] 0 0 (lw_Z below #[Value.ref b] s) (entryFrame m ([Value.ref b] : List Value).toArray 4) := by
      rw [hh0]
      exact whole_start l hflags hbd ⟨B.exec, B.bytes, B.returns, hml, hown, hts, hX, hbl, B.notSynchronized, hgv⟩
    obtain ⟨t, a1, o, b1, b2, b3⟩ := K s₁ rfl X₀
    exact ⟨t, o, a1, b1, b2, b3⟩
theorem lw_pre_spec {args : Array Value} {s : State} (h : (Jvm.Cond.and given_1 narrow_1).before args s = true) (hr : rest_1_c.before args s = true) : ∃ (b : Addr) (xs : List Int32), lw_P b xs args s := by
  have hs := flat_of_before _ h
  have hq := flat_of_before _ hr
  have hc : (Cond.count 1).before args s = true := hs _ (by decide +kernel)
  have harr : (Cond.arrayOf (.arg 0) .int).before args s = true := hs _ (by decide +kernel)
  have hle : (Cond.le (.length (.arg 0)) (.int 6)).before args s = true := hs _ (by decide +kernel)
  have hlen : (Cond.isInt (.length (.arg 0))).before args s = true := hq _ (by decide +kernel)
  have hall : (Cond.all (.arg 0) (.isInt (.elem (.arg 0) (.index 0)))).before args s = true := hq _ (by decide +kernel)
  obtain ⟨b, xs, hb, hx⟩ := State.ints_of_pre rfl harr hlen hall
  have hsm : xs.length < 2 ^ 31 := hx.choose_spec.2.2.2
  have hev : (Term.length (.arg 0)).eval args s none [] s = some (.int xs.length.toInt32) := hx.length_eval hb
  have hv := Cond.le_ints hev (show (Term.int 6).eval args s none [] s = some (.int 6) from rfl)
  have hd : xs.length.toInt32 ≤ 6 := by
    simpa [Cond.before, Cond.holds, hv] using hle
  have hN : xs.length ≤ 6 := (Int32.ofNat_le_ofNat hsm (by decide)).mp (show Int32.ofNat xs.length ≤ Int32.ofNat 6 from hd)
  exact ⟨b, xs, Cond.one_arg hc (show args[0]? = some (.ref b) from hb), hx, hN, h⟩
theorem lw_comes (l : Launch) (hflags : l.flags = flags0) : Comes l x (Jvm.Cond.code x code maxLocals ret :: tables_1) room_1 (fun tb e args s => Calls_1 tb e args s ∧ rest_1 tb e args s ∧ Pre_1 tb e args s)
    (fun _ _ args s o t => lw_Q args s o t) := by
  intro p e ha hc hk s m args below hf hfit hheap happ hpre
  obtain ⟨b, xs, hP⟩ := lw_pre_spec hpre.2.2 hpre.2.1
  obtain ⟨k, o, h1, h2, h3, hQ⟩ := lw_walk l hflags b xs p e ha hc hk s m args below hf ((Spec.applies_iff_loose hf).mp happ).1 hP trivial
  exact ⟨k, o, h1, h2, h3, hQ⟩
theorem lw_frame {s t : State} {o : Outcome} {args : Array Value} (h : Framed s o t [] 600000 7302250) :
    Framed s o t (fieldLocs frame_1_writes args s ++ arrayLocs frame_1_arrays args s ++ staticLocs frame_1_statics s) 600000 7302250 := h
theorem lw_limb (L : Cond) (hL : ∀ (args : Array Value) (s t : State), L.after args s (.returned (some (.int 1))) t = true) :
    ArmFor flags0 classFile x code maxLocals ret World_1 tables_1 room_1 Calls_1 rest_1 Pre_1
      (fun tb e a s o t => postC L tb e a s o t ∧ Framed s o t (fieldLocs frame_1_writes a s ++ arrayLocs frame_1_arrays a s ++ staticLocs frame_1_statics s) 600000 7302250) := by
  intro l hflags _ _ p e ha hc hk s m args below hf hfit hheap happ hpre
  obtain ⟨k, o, h1, h2, h3, rfl, hF⟩ := lw_comes l hflags p e ha hc hk s m args below hf hfit hheap happ hpre
  exact ⟨k, _, h1, h2, h3, hL args s _, lw_frame hF⟩
theorem i_vc : Claimed_1_1 ∧ Claimed_1_2 := ⟨lw_limb limb_1_1 (fun args s t => by simp [limb_1_1, Cond.after, Cond.holds, Cond.value]), lw_limb limb_1_2 (fun args s t => Cond.after_iff.mpr (by
  first | (rw [show limb_1_2 = Cond.eq .result (.int 1) from rfl, Cond.eq_ints (x := 1) (y := 1) rfl rfl]; simp; done) | (simp [limb_1_2, Cond.value, Term.eval]; done)))⟩
