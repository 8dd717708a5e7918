set_option maxHeartbeats 4000000 in
set_option maxRecDepth 100000 in
theorem g_X6_isFull (l : Launch) (D : va_G) (cI cB cQ : ClassId) (sz : Nat) (h : Nat) (tb : Nat) (dr : Nat) (le : Int32) (lf : Int32) (fp : Int32) (pl : Int32) (fy : Int32) : mi l yX6_isFull wsX6_isFull ({ frames := 0, cells := 0, slots := 0, locals := 0 }) D cI cB cQ [.ref h] sz [(h, .inr (5, [.ref tb, .ref dr, .int le, .int lf, .int fp, .int pl, .int fy]))] (fun (r : Int32) (_u : Unit) => ((r = 1 ∧ 120 ≤ le.toInt) ∨ (r = 0 ∧ ¬ 120 ≤ le.toInt))) (fun _ => [(h, .inr (5, [.ref tb, .ref dr, .int le, .int lf, .int fp, .int pl, .int fy]))]) 0 0 := by
  refine wm_i (cc := cX6_isFull) (maxL := 1) (ret := (some .boolean)) (by decide) rfl (Nat.le_of_ble_eq_true rfl) ?_
  intro p e s m below meth c A ls hx hb hr hml hown hts hlocks hin hP hK hD hN hA hl hS
  have hown : s.vm.findClass RX6 = some m.cls := hown
  have hl : lv_has ls 1 [(0, .ref h)] := hl
  change W p l e ({ frames := 0, cells := 0, slots := 0, locals := 0 }) s m ([.ref h] : List Value).toArray below meth c s.heap [] 0 0 (MQ below (va_Qi (fun (r : Int32) (_u : Unit) => ((r = 1 ∧ 120 ≤ le.toInt) ∨ (r = 0 ∧ ¬ 120 ≤ le.toInt))) (fun u t => wb D A ((fun _ => [(h, .inr (5, [.ref tb, .ref dr, .int le, .int lf, .int fp, .int pl, .int fy]))]) u) t) A) ([.ref h] : List Value).toArray s 0 0 A) (F0 m 0 ls [])
  refine lv_aload_n hx hb dX6_isFull_0 rfl (lv_at hl 0 rfl) ?_
  refine va_get (D := D) (ci := 5) (v := .int le) (C := RX6) (T := TX6) (N := 7) hx hb hts (fun _ h => List.mem_cons_of_mem _ (List.mem_append_right _ h)) hown hK hP 0 rfl rfl 2 (by decide) (hts (.fieldLink RX6 22 "WinterWalk$Tape" "length" "I") (List.mem_of_getElem? (i := 1) rfl)) (fun _ h9 => h9) rfl dX6_isFull_1 ?_
  refine lv_bipush (v := 120) hx hb dX6_isFull_4 (by decide) ?_
  refine lv_icmp_lt (tgt := 13) hx hb dX6_isFull_6 (by decide) (fun c_1 => ?_) (fun c_1 => ?_)
  · have f_1 : le.toInt < 120 := zi_lt c_1
    refine lv_iconst (v := 0) hx hb dX6_isFull_13 (by decide) ?_
    exact wr_z (v := 0) hx hb hr hlocks hS () (by exact Or.inr (⟨rfl, show ¬ 120 ≤ le.toInt from by omega⟩)) (hP.sub [0] rfl) (hD.sub [0] (by decide) rfl) dX6_isFull_14 rfl
  · have f_1 : ¬ le.toInt < 120 := zi_nlt c_1
    refine lv_iconst (v := 1) hx hb dX6_isFull_9 (by decide) ?_
    refine lv_goto (tgt := 14) hx hb dX6_isFull_10 (by decide) ?_
    exact wr_z (v := 1) hx hb hr hlocks hS () (by exact Or.inl ⟨rfl, show 120 ≤ le.toInt from by omega⟩) (hP.sub [0] rfl) (hD.sub [0] (by decide) rfl) dX6_isFull_14 rfl
