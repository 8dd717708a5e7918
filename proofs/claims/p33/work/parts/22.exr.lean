/-! rows, with their answers -/
theorem zu_eq {f : Nat → Int32} {i j v : Int32} (h : j.toInt = i.toInt) : upd f i.toNatClampNeg v j.toNatClampNeg = v := by
  rw [Int32.toInt_inj.mp h]; exact pk_us
def rr_up (c : Prop) [Decidable c] (f : Nat → Int32) (i v : Int32) : Nat → Int32 := if c then upd f i.toNatClampNeg v else f
theorem rr_pos {c : Prop} [Decidable c] {f : Nat → Int32} {i v : Int32} (h : c) : rr_up c f i v = upd f i.toNatClampNeg v := if_pos h
theorem rr_neg {c : Prop} [Decidable c] {f : Nat → Int32} {i v : Int32} (h : ¬ c) : rr_up c f i v = f := if_neg h
def cutl (k v : Int32) : Int32 := if k.toInt = 0 then v.toInt8.toInt32 else if k.toInt = 1 then v.toInt16.toInt32 else v
theorem cutl_c (k v : Int32) : (k.toInt = 0 ∧ (cutl k v).toInt = v.toInt8.toInt32.toInt) ∨ (k.toInt = 1 ∧ (cutl k v).toInt = v.toInt16.toInt32.toInt) ∨ (¬ k.toInt = 0 ∧ ¬ k.toInt = 1 ∧ (cutl k v).toInt = v.toInt) := by
  unfold cutl
  by_cases h : k.toInt = 0
  · left; exact ⟨h, by rw [if_pos h]⟩
  · right
    by_cases h1 : k.toInt = 1
    · left; exact ⟨h1, by rw [if_neg h, if_pos h1]⟩
    · right; exact ⟨h, h1, by rw [if_neg h, if_neg h1]⟩
/-- the rows of the class and of the reference -/
def RR (fl fs zf lnf : Nat → Int32) : Prop := ∀ j : Nat, j < 8 → ((fl j).toInt = (-1) ∧ (zf j).toInt = (-1)) ∨ (0 ≤ (fl j).toInt ∧ fl j = lnf j ∧ fs j = zf j ∧ 0 ≤ (zf j).toInt)
theorem RR.at {fl fs zf lnf : Nat → Int32} (h : RR fl fs zf lnf) (a : Int32) : ¬ (0 ≤ a.toInt ∧ a.toInt ≤ 7) ∨ ((fl a.toNatClampNeg).toInt = (-1) ∧ (zf a.toNatClampNeg).toInt = (-1)) ∨ (0 ≤ (fl a.toNatClampNeg).toInt ∧ (fl a.toNatClampNeg).toInt = (lnf a.toNatClampNeg).toInt ∧ (fs a.toNatClampNeg).toInt = (zf a.toNatClampNeg).toInt ∧ 0 ≤ (zf a.toNatClampNeg).toInt) := by
  by_cases c : 0 ≤ a.toInt ∧ a.toInt ≤ 7
  · have e := zi_cn c.1
    rcases h a.toNatClampNeg (by omega) with h1 | ⟨h1, h2, h3, h4⟩
    · exact Or.inr (Or.inl h1)
    · exact Or.inr (Or.inr ⟨h1, by rw [h2], by rw [h3], h4⟩)
  · exact Or.inl c
theorem RR.cut {fl fs zf lnf : Nat → Int32} (h : RR fl fs zf lnf) (a v : Int32) : ¬ (0 ≤ a.toInt ∧ a.toInt ≤ 7) ∨ (fl a.toNatClampNeg).toInt = (-1) ∨ (cutl (fl a.toNatClampNeg) v).toInt = (cutl (lnf a.toNatClampNeg) v).toInt := by
  by_cases c : 0 ≤ a.toInt ∧ a.toInt ≤ 7
  · have e := zi_cn c.1
    rcases h a.toNatClampNeg (by omega) with h1 | ⟨h1, h2, h3, h4⟩
    · exact Or.inr (Or.inl h1.1)
    · exact Or.inr (Or.inr (by rw [h2]))
  · exact Or.inl c
theorem RR.row {fl fs zf lnf : Nat → Int32} {a b n : Int32} (h : RR fl fs zf lnf) : RR (rr_up ((0 ≤ a.toInt ∧ a.toInt ≤ 7) ∧ (0 ≤ b.toInt ∧ b.toInt ≤ 2) ∧ 0 ≤ n.toInt ∧ n.toInt ≤ 40) fl a b) (rr_up ((0 ≤ a.toInt ∧ a.toInt ≤ 7) ∧ (0 ≤ b.toInt ∧ b.toInt ≤ 2) ∧ 0 ≤ n.toInt ∧ n.toInt ≤ 40) fs a n) (rr_up ((0 ≤ a.toInt ∧ a.toInt ≤ 7) ∧ (0 ≤ b.toInt ∧ b.toInt ≤ 2) ∧ 0 ≤ n.toInt ∧ n.toInt ≤ 40) zf a n) (rr_up ((0 ≤ a.toInt ∧ a.toInt ≤ 7) ∧ (0 ≤ b.toInt ∧ b.toInt ≤ 2) ∧ 0 ≤ n.toInt ∧ n.toInt ≤ 40) lnf a b) := by
  by_cases c : (0 ≤ a.toInt ∧ a.toInt ≤ 7) ∧ (0 ≤ b.toInt ∧ b.toInt ≤ 2) ∧ 0 ≤ n.toInt ∧ n.toInt ≤ 40
  · rw [rr_pos c, rr_pos c, rr_pos c, rr_pos c]
    intro j hj
    by_cases e : j = a.toNatClampNeg
    · rw [e, pk_us, pk_us, pk_us, pk_us]; exact Or.inr ⟨c.2.1.1, rfl, rfl, c.2.2.1⟩
    · rw [pk_un e, pk_un e, pk_un e, pk_un e]; exact h j hj
  · rw [rr_neg c, rr_neg c, rr_neg c, rr_neg c]; exact h
theorem RR.drop {fl fs zf lnf : Nat → Int32} {a : Int32} (h : RR fl fs zf lnf) : RR (rr_up ((0 ≤ a.toInt ∧ a.toInt ≤ 7) ∧ ¬ (fl a.toNatClampNeg).toInt = (-1)) fl a (-1)) fs (rr_up ((0 ≤ a.toInt ∧ a.toInt ≤ 7) ∧ ¬ (zf a.toNatClampNeg).toInt < 0) zf a (-1)) lnf := by
  have h0 := h.at a
  by_cases c : (0 ≤ a.toInt ∧ a.toInt ≤ 7) ∧ ¬ (fl a.toNatClampNeg).toInt = (-1)
  · rw [rr_pos c, rr_pos (by omega)]
    intro j hj
    by_cases e : j = a.toNatClampNeg
    · rw [e, pk_us, pk_us]; exact Or.inl ⟨by decide, by decide⟩
    · rw [pk_un e, pk_un e]; exact h j hj
  · rw [rr_neg c, rr_neg (by omega)]; exact h
set_option maxHeartbeats 4000000 in
set_option maxRecDepth 100000 in
theorem e_X5_isMissing (l : Launch) (D : va_G) (cI cB cQ : ClassId) (sz : Nat) (h : Nat) (la : Nat) (sq : Nat) (ir : Nat) (v : Int32) (fl : Nat → Int32) (h_v : 0 ≤ v.toInt ∧ v.toInt ≤ 7) : mi l yX5_isMissing wsX5_isMissing ({ frames := 0, cells := 0, slots := 0, locals := 0 }) D cI cB cQ [.ref h, .int v] sz [(h, .inr (4, [.ref la, .ref sq, .ref ir])), (la, .inl (cI, 8, .inl fl))] (fun (r : Int32) (_u : Unit) => ((r = 1 ∧ (fl v.toNatClampNeg).toInt = (-1)) ∨ (r = 0 ∧ ¬ (fl v.toNatClampNeg).toInt = (-1)))) (fun _ => [(h, .inr (4, [.ref la, .ref sq, .ref ir])), (la, .inl (cI, 8, .inl fl))]) 0 0 := by
  refine wm_i (cc := cX5_isMissing) (maxL := 2) (ret := (some .boolean)) (by decide) rfl (Nat.le_of_ble_eq_true rfl) ?_
  intro p e s m below meth c A ls hx hb hr hml hown hts hlocks hin hP hK hD hN hA hl hS
  have hown : s.vm.findClass RX5 = some m.cls := hown
  have hl : lv_has ls 2 [(0, .ref h), (1, .int v)] := hl
  change W p l e ({ frames := 0, cells := 0, slots := 0, locals := 0 }) s m ([.ref h, .int v] : List Value).toArray below meth c s.heap [] 0 0 (MQ below (va_Qi (fun (r : Int32) (_u : Unit) => ((r = 1 ∧ (fl v.toNatClampNeg).toInt = (-1)) ∨ (r = 0 ∧ ¬ (fl v.toNatClampNeg).toInt = (-1)))) (fun u t => wb D A ((fun _ => [(h, .inr (4, [.ref la, .ref sq, .ref ir])), (la, .inl (cI, 8, .inl fl))]) u) t) A) ([.ref h, .int v] : List Value).toArray s 0 0 A) (F0 m 0 ls [])
  refine lv_aload_n hx hb dX5_isMissing_0 rfl (lv_at hl 0 rfl) ?_
  refine va_get (D := D) (ci := 4) (v := .ref la) (C := RX5) (T := TX5) (N := 3) hx hb hts (fun _ h => List.mem_cons_of_mem _ (List.mem_append_right _ h)) hown hK hP 0 rfl rfl 0 (by decide) (hts (.fieldLink RX5 11 "WinterWalk$Rows" "lanes" "[I") (List.mem_of_getElem? (i := 1) rfl)) (fun _ h9 => h9) rfl dX5_isMissing_1 ?_
  refine lv_iload_n hx hb dX5_isMissing_4 rfl (lv_at hl 1 rfl) ?_
  refine va_iald hx hb hK hP 1 0 rfl rfl (zi_in (by omega) (by omega)) dX5_isMissing_5 ?_
  refine lv_topi (fun x_1 ex_1 => ?_)
  have g_1 : x_1.toInt = (fl (v : Int32).toNatClampNeg).toInt := by rw [ex_1]
  refine lv_iconst (v := (-1)) hx hb dX5_isMissing_6 (by decide) ?_
  refine lv_icmp_ne (tgt := 14) hx hb dX5_isMissing_7 (by decide) (fun c_2 => ?_) (fun c_2 => ?_)
  · have f_2 : ¬ x_1.toInt = (-1) := zi_ne c_2
    refine lv_iconst (v := 0) hx hb dX5_isMissing_14 (by decide) ?_
    exact wr_z (v := 0) hx hb hr hlocks hS () (by exact Or.inr (⟨rfl, show ¬ (fl v.toNatClampNeg).toInt = (-1) from by omega⟩)) (hP.sub [0, 1] rfl) (hD.sub [0, 1] (by decide) rfl) dX5_isMissing_15 rfl
  · have f_2 : x_1.toInt = (-1) := zi_eq c_2
    refine lv_iconst (v := 1) hx hb dX5_isMissing_10 (by decide) ?_
    refine lv_goto (tgt := 15) hx hb dX5_isMissing_11 (by decide) ?_
    exact wr_z (v := 1) hx hb hr hlocks hS () (by exact Or.inl ⟨rfl, show (fl v.toNatClampNeg).toInt = (-1) from by omega⟩) (hP.sub [0, 1] rfl) (hD.sub [0, 1] (by decide) rfl) dX5_isMissing_15 rfl
set_option maxHeartbeats 4000000 in
set_option maxRecDepth 100000 in
theorem e_X5_holds (l : Launch) (D : va_G) (cI cB cQ : ClassId) (sz : Nat) (h : Nat) (la : Nat) (sq : Nat) (ir : Nat) (v : Int32) (i : Int32) (n : Int32) (fl : Nat → Int32) (fs : Nat → Int32) (hs : ∀ j, j < 8 → 0 ≤ (fs j).toInt ∧ (fs j).toInt ≤ 40) (h_v : 0 ≤ v.toInt ∧ v.toInt ≤ 7) : mi l yX5_holds wsX5_holds ({ frames := 0, cells := 0, slots := 0, locals := 0 }) D cI cB cQ [.ref h, .int v, .int i, .int n] sz [(h, .inr (4, [.ref la, .ref sq, .ref ir])), (la, .inl (cI, 8, .inl fl)), (sq, .inl (cI, 8, .inl fs))] (fun (r : Int32) (_u : Unit) => ((r = 1 ∧ (0 ≤ i.toInt ∧ 0 ≤ n.toInt ∧ i.toInt + n.toInt ≤ (fs v.toNatClampNeg).toInt) ∧ (fs v.toNatClampNeg).toInt ≤ 40) ∨ (r = 0 ∧ ¬ (0 ≤ i.toInt ∧ 0 ≤ n.toInt ∧ i.toInt + n.toInt ≤ (fs v.toNatClampNeg).toInt)))) (fun _ => [(h, .inr (4, [.ref la, .ref sq, .ref ir])), (la, .inl (cI, 8, .inl fl)), (sq, .inl (cI, 8, .inl fs))]) 0 0 := by
  refine wm_i (cc := cX5_holds) (maxL := 4) (ret := (some .boolean)) (by decide) rfl (Nat.le_of_ble_eq_true rfl) ?_
  intro p e s m below meth c A ls hx hb hr hml hown hts hlocks hin hP hK hD hN hA hl hS
  have hown : s.vm.findClass RX5 = some m.cls := hown
  have hl : lv_has ls 4 [(0, .ref h), (1, .int v), (2, .int i), (3, .int n)] := hl
  change W p l e ({ frames := 0, cells := 0, slots := 0, locals := 0 }) s m ([.ref h, .int v, .int i, .int n] : List Value).toArray below meth c s.heap [] 0 0 (MQ below (va_Qi (fun (r : Int32) (_u : Unit) => ((r = 1 ∧ (0 ≤ i.toInt ∧ 0 ≤ n.toInt ∧ i.toInt + n.toInt ≤ (fs v.toNatClampNeg).toInt) ∧ (fs v.toNatClampNeg).toInt ≤ 40) ∨ (r = 0 ∧ ¬ (0 ≤ i.toInt ∧ 0 ≤ n.toInt ∧ i.toInt + n.toInt ≤ (fs v.toNatClampNeg).toInt)))) (fun u t => wb D A ((fun _ => [(h, .inr (4, [.ref la, .ref sq, .ref ir])), (la, .inl (cI, 8, .inl fl)), (sq, .inl (cI, 8, .inl fs))]) u) t) A) ([.ref h, .int v, .int i, .int n] : List Value).toArray s 0 0 A) (F0 m 0 ls [])
  have hb_i := zi_lo i
  have hc_i := zi_hi i
  have hb_n := zi_lo n
  have hc_n := zi_hi n
  refine lv_iload_n hx hb dX5_holds_0 rfl (lv_at hl 2 rfl) ?_
  refine lv_if_lt (tgt := 24) hx hb dX5_holds_1 (by decide) (fun c_1 => ?_) (fun c_1 => ?_)
  · have f_1 : i.toInt < 0 := zi_lt c_1
    refine lv_iconst (v := 0) hx hb dX5_holds_24 (by decide) ?_
    exact wr_z (v := 0) hx hb hr hlocks hS () (by exact Or.inr (⟨rfl, show ¬ (0 ≤ i.toInt ∧ 0 ≤ n.toInt ∧ i.toInt + n.toInt ≤ (fs v.toNatClampNeg).toInt) from by omega⟩)) (hP.sub [0, 1, 2] rfl) (hD.sub [0, 1, 2] (by decide) rfl) dX5_holds_25 rfl
  · have f_1 : ¬ i.toInt < 0 := zi_nlt c_1
    refine lv_iload_n hx hb dX5_holds_4 rfl (lv_at hl 3 rfl) ?_
    refine lv_if_lt (tgt := 24) hx hb dX5_holds_5 (by decide) (fun c_2 => ?_) (fun c_2 => ?_)
    · have f_2 : n.toInt < 0 := zi_lt c_2
      refine lv_iconst (v := 0) hx hb dX5_holds_24 (by decide) ?_
      exact wr_z (v := 0) hx hb hr hlocks hS () (by exact Or.inr (⟨rfl, show ¬ (0 ≤ i.toInt ∧ 0 ≤ n.toInt ∧ i.toInt + n.toInt ≤ (fs v.toNatClampNeg).toInt) from by omega⟩)) (hP.sub [0, 1, 2] rfl) (hD.sub [0, 1, 2] (by decide) rfl) dX5_holds_25 rfl
    · have f_2 : ¬ n.toInt < 0 := zi_nlt c_2
      refine lv_iload_n hx hb dX5_holds_8 rfl (lv_at hl 2 rfl) ?_
      refine lv_aload_n hx hb dX5_holds_9 rfl (lv_at hl 0 rfl) ?_
      refine va_get (D := D) (ci := 4) (v := .ref sq) (C := RX5) (T := TX5) (N := 3) hx hb hts (fun _ h => List.mem_cons_of_mem _ (List.mem_append_right _ h)) hown hK hP 0 rfl rfl 1 (by decide) (hts (.fieldLink RX5 15 "WinterWalk$Rows" "sizes" "[I") (List.mem_of_getElem? (i := 1) rfl)) (fun _ h9 => h9) rfl dX5_holds_10 ?_
      refine lv_iload_n hx hb dX5_holds_13 rfl (lv_at hl 1 rfl) ?_
      refine va_iald hx hb hK hP 2 0 rfl rfl (zi_in (by omega) (by omega)) dX5_holds_14 ?_
      refine lv_topi (fun x_3 ex_3 => ?_)
      have f_3 : 0 ≤ x_3.toInt ∧ x_3.toInt ≤ 40 := by rw [ex_3]; exact hs _ (zi_cl (by omega) (by omega))
      have g_3 : x_3.toInt = (fs (v : Int32).toNatClampNeg).toInt := by rw [ex_3]
      refine lv_iload_n hx hb dX5_holds_15 rfl (lv_at hl 3 rfl) ?_
      refine lv_isub hx hb dX5_holds_16 ?_
      refine lv_topi (fun x_4 ex_4 => ?_)
      have e_4 : x_4.toInt = x_3.toInt - n.toInt := by rw [ex_4]; exact zi_sub (rfl) (rfl) (by omega) (by omega)
      clear ex_4
      refine lv_icmp_gt (tgt := 24) hx hb dX5_holds_17 (by decide) (fun c_5 => ?_) (fun c_5 => ?_)
      · have f_5 : x_4.toInt < i.toInt := zi_lt c_5
        refine lv_iconst (v := 0) hx hb dX5_holds_24 (by decide) ?_
        exact wr_z (v := 0) hx hb hr hlocks hS () (by exact Or.inr (⟨rfl, show ¬ (0 ≤ i.toInt ∧ 0 ≤ n.toInt ∧ i.toInt + n.toInt ≤ (fs v.toNatClampNeg).toInt) from by omega⟩)) (hP.sub [0, 1, 2] rfl) (hD.sub [0, 1, 2] (by decide) rfl) dX5_holds_25 rfl
      · have f_5 : ¬ x_4.toInt < i.toInt := zi_nlt c_5
        refine lv_iconst (v := 1) hx hb dX5_holds_20 (by decide) ?_
        refine lv_goto (tgt := 25) hx hb dX5_holds_21 (by decide) ?_
        exact wr_z (v := 1) hx hb hr hlocks hS () (by exact Or.inl ⟨rfl, show (0 ≤ i.toInt ∧ 0 ≤ n.toInt ∧ i.toInt + n.toInt ≤ (fs v.toNatClampNeg).toInt) ∧ (fs v.toNatClampNeg).toInt ≤ 40 from by omega⟩) (hP.sub [0, 1, 2] rfl) (hD.sub [0, 1, 2] (by decide) rfl) dX5_holds_25 rfl
set_option maxHeartbeats 4000000 in
set_option maxRecDepth 100000 in
theorem e_X5_troubleWith (l : Launch) (D : va_G) (cI cB cQ : ClassId) (sz : Nat) (h : Nat) (la : Nat) (sq : Nat) (ir : Nat) (v : Int32) (i : Int32) (n : Int32) (fl : Nat → Int32) (fs : Nat → Int32) (hs : ∀ j, j < 8 → 0 ≤ (fs j).toInt ∧ (fs j).toInt ≤ 40) (h_v : 0 ≤ v.toInt ∧ v.toInt ≤ 7) : mi l yX5_troubleWith wsX5_troubleWith ({ frames := 1, cells := 0, slots := 0, locals := 23 }) D cI cB cQ [.ref h, .int v, .int i, .int n] sz [(h, .inr (4, [.ref la, .ref sq, .ref ir])), (la, .inl (cI, 8, .inl fl)), (sq, .inl (cI, 8, .inl fs))] (fun (r : Int32) (_u : Unit) => ((r = 0 ∧ ¬ (fl v.toNatClampNeg).toInt = (-1) ∧ (0 ≤ i.toInt ∧ 0 ≤ n.toInt ∧ i.toInt + n.toInt ≤ (fs v.toNatClampNeg).toInt) ∧ (fs v.toNatClampNeg).toInt ≤ 40) ∨ (r = 1 ∧ (fl v.toNatClampNeg).toInt = (-1)) ∨ (r = 2 ∧ ¬ (fl v.toNatClampNeg).toInt = (-1) ∧ ¬ (0 ≤ i.toInt ∧ 0 ≤ n.toInt ∧ i.toInt + n.toInt ≤ (fs v.toNatClampNeg).toInt)))) (fun _ => [(h, .inr (4, [.ref la, .ref sq, .ref ir])), (la, .inl (cI, 8, .inl fl)), (sq, .inl (cI, 8, .inl fs))]) 0 0 := by
  refine wm_i (cc := cX5_troubleWith) (maxL := 4) (ret := (some .int)) (by decide) rfl (Nat.le_of_ble_eq_true rfl) ?_
  intro p e s m below meth c A ls hx hb hr hml hown hts hlocks hin hP hK hD hN hA hl hS
  have hown : s.vm.findClass RX5 = some m.cls := hown
  have hl : lv_has ls 4 [(0, .ref h), (1, .int v), (2, .int i), (3, .int n)] := hl
  change W p l e ({ frames := 1, cells := 0, slots := 0, locals := 23 }) s m ([.ref h, .int v, .int i, .int n] : List Value).toArray below meth c s.heap [] 0 0 (MQ below (va_Qi (fun (r : Int32) (_u : Unit) => ((r = 0 ∧ ¬ (fl v.toNatClampNeg).toInt = (-1) ∧ (0 ≤ i.toInt ∧ 0 ≤ n.toInt ∧ i.toInt + n.toInt ≤ (fs v.toNatClampNeg).toInt) ∧ (fs v.toNatClampNeg).toInt ≤ 40) ∨ (r = 1 ∧ (fl v.toNatClampNeg).toInt = (-1)) ∨ (r = 2 ∧ ¬ (fl v.toNatClampNeg).toInt = (-1) ∧ ¬ (0 ≤ i.toInt ∧ 0 ≤ n.toInt ∧ i.toInt + n.toInt ≤ (fs v.toNatClampNeg).toInt)))) (fun u t => wb D A ((fun _ => [(h, .inr (4, [.ref la, .ref sq, .ref ir])), (la, .inl (cI, 8, .inl fl)), (sq, .inl (cI, 8, .inl fs))]) u) t) A) ([.ref h, .int v, .int i, .int n] : List Value).toArray s 0 0 A) (F0 m 0 ls [])
  refine lv_aload_n hx hb dX5_troubleWith_0 rfl (lv_at hl 0 rfl) ?_
  refine lv_iload_n hx hb dX5_troubleWith_1 rfl (lv_at hl 1 rfl) ?_
  have k_1 := (e_X5_isMissing l D cI cB cQ s.heap.size h la sq ir v fl (by omega))
  refine wc_i (WC := [(h, .inr (4, [.ref la, .ref sq, .ref ir])), (la, .inl (cI, 8, .inl fl))]) (WR := [(sq, .inl (cI, 8, .inl fs))]) (va_runV (As := [.int v]) (rest := []) ⟨hx, hb, hml, hown, hts⟩ k_1 (cwV 1 hts gX5_troubleWith_X5_isMissing rfl rfl rfl (by decide +kernel) ⟨Nat.le_of_ble_eq_true rfl, Nat.le_of_ble_eq_true rfl⟩) (wp_V hP hK hD hN [0, 1] (by decide) rfl (ci := 4) rfl rfl) rfl rfl hl.1 rfl (lv_room (Nat.le_of_ble_eq_true rfl)) dX5_troubleWith_2 ⟨Nat.le_of_ble_eq_true rfl, Nat.le_of_ble_eq_true rfl⟩) hP hD hS hA [0, 1] [2] rfl rfl (by decide) (by decide) (fun r_1 u_1 H locs hw_1 hP hD hS => ?_)
  clear k_1
  have hP : va_P D kl [(sq, .inl (cI, 8, .inl fs)), (h, .inr (4, [.ref la, .ref sq, .ref ir])), (la, .inl (cI, 8, .inl fl))] H := hP
  have hD : va_D A [(sq, .inl (cI, 8, .inl fs)), (h, .inr (4, [.ref la, .ref sq, .ref ir])), (la, .inl (cI, 8, .inl fl))] := hD
  have c1_0 := hw_1
  rcases c1_0 with ⟨e_1, f_1⟩ | ⟨e_1, f_1⟩
  · subst e_1
    have f_1 : (fl v.toNatClampNeg).toInt = (-1) := f_1
    refine lv_if_eq (tgt := 10) hx hb dX5_troubleWith_5 (by decide) (fun c9 => absurd c9 (by decide)) (fun _ => ?_)
    refine lv_iconst (v := 1) hx hb dX5_troubleWith_8 (by decide) ?_
    exact wr_i (v := 1) hx hb hr hlocks hS () (by exact Or.inr (Or.inl ⟨rfl, show (fl v.toNatClampNeg).toInt = (-1) from by omega⟩)) (hP.sub [1, 2, 0] rfl) (hD.sub [1, 2, 0] (by decide) rfl) dX5_troubleWith_9
  · subst e_1
    have f_1 : ¬ (fl v.toNatClampNeg).toInt = (-1) := f_1
    refine lv_if_eq (tgt := 10) hx hb dX5_troubleWith_5 (by decide) (fun _ => ?_) (fun c9 => absurd (by decide) c9)
    refine lv_aload_n hx hb dX5_troubleWith_10 rfl (lv_at hl 0 rfl) ?_
    refine lv_iload_n hx hb dX5_troubleWith_11 rfl (lv_at hl 1 rfl) ?_
    refine lv_iload_n hx hb dX5_troubleWith_12 rfl (lv_at hl 2 rfl) ?_
    refine lv_iload_n hx hb dX5_troubleWith_13 rfl (lv_at hl 3 rfl) ?_
    have k_2 := (e_X5_holds l D cI cB cQ H.size h la sq ir v i n fl fs hs (by omega))
    refine wc_i (WC := [(h, .inr (4, [.ref la, .ref sq, .ref ir])), (la, .inl (cI, 8, .inl fl)), (sq, .inl (cI, 8, .inl fs))]) (WR := []) (va_runV (As := [.int v, .int i, .int n]) (rest := []) ⟨hx, hb, hml, hown, hts⟩ k_2 (cwV 3 hts gX5_troubleWith_X5_holds rfl rfl rfl (by decide +kernel) ⟨Nat.le_of_ble_eq_true rfl, Nat.le_of_ble_eq_true rfl⟩) (wp_V hP hK hD hN [1, 2, 0] (by decide) rfl (ci := 4) rfl rfl) rfl rfl hl.1 rfl (lv_room (Nat.le_of_ble_eq_true rfl)) dX5_troubleWith_14 ⟨Nat.le_of_ble_eq_true rfl, Nat.le_of_ble_eq_true rfl⟩) hP hD hS hA [1, 2, 0] [] rfl rfl (by decide) (by decide) (fun r_2 u_2 H locs hw_2 hP hD hS => ?_)
    clear k_2
    have hP : va_P D kl [(h, .inr (4, [.ref la, .ref sq, .ref ir])), (la, .inl (cI, 8, .inl fl)), (sq, .inl (cI, 8, .inl fs))] H := hP
    have hD : va_D A [(h, .inr (4, [.ref la, .ref sq, .ref ir])), (la, .inl (cI, 8, .inl fl)), (sq, .inl (cI, 8, .inl fs))] := hD
    have c2_0 := hw_2
    rcases c2_0 with ⟨e_2, f_2⟩ | ⟨e_2, f_2⟩
    · subst e_2
      have f_2 : (0 ≤ i.toInt ∧ 0 ≤ n.toInt ∧ i.toInt + n.toInt ≤ (fs v.toNatClampNeg).toInt) ∧ (fs v.toNatClampNeg).toInt ≤ 40 := f_2
      refine lv_if_eq (tgt := 24) hx hb dX5_troubleWith_17 (by decide) (fun c9 => absurd c9 (by decide)) (fun _ => ?_)
      refine lv_iconst (v := 0) hx hb dX5_troubleWith_20 (by decide) ?_
      refine lv_goto (tgt := 25) hx hb dX5_troubleWith_21 (by decide) ?_
      exact wr_i (v := 0) hx hb hr hlocks hS () (by exact Or.inl ⟨rfl, show ¬ (fl v.toNatClampNeg).toInt = (-1) ∧ (0 ≤ i.toInt ∧ 0 ≤ n.toInt ∧ i.toInt + n.toInt ≤ (fs v.toNatClampNeg).toInt) ∧ (fs v.toNatClampNeg).toInt ≤ 40 from by omega⟩) (hP.sub [0, 1, 2] rfl) (hD.sub [0, 1, 2] (by decide) rfl) dX5_troubleWith_25
    · subst e_2
      have f_2 : ¬ (0 ≤ i.toInt ∧ 0 ≤ n.toInt ∧ i.toInt + n.toInt ≤ (fs v.toNatClampNeg).toInt) := f_2
      refine lv_if_eq (tgt := 24) hx hb dX5_troubleWith_17 (by decide) (fun _ => ?_) (fun c9 => absurd (by decide) c9)
      refine lv_iconst (v := 2) hx hb dX5_troubleWith_24 (by decide) ?_
      exact wr_i (v := 2) hx hb hr hlocks hS () (by exact Or.inr (Or.inr (⟨rfl, show ¬ (fl v.toNatClampNeg).toInt = (-1) ∧ ¬ (0 ≤ i.toInt ∧ 0 ≤ n.toInt ∧ i.toInt + n.toInt ≤ (fs v.toNatClampNeg).toInt) from by omega⟩))) (hP.sub [0, 1, 2] rfl) (hD.sub [0, 1, 2] (by decide) rfl) dX5_troubleWith_25
set_option maxHeartbeats 4000000 in
set_option maxRecDepth 100000 in
theorem e_X5_troubleBetween (l : Launch) (D : va_G) (cI cB cQ : ClassId) (sz : Nat) (h : Nat) (la : Nat) (sq : Nat) (ir : Nat) (v : Int32) (i : Int32) (b : Int32) (j : Int32) (n : Int32) (fl : Nat → Int32) (fs : Nat → Int32) (hs : ∀ j, j < 8 → 0 ≤ (fs j).toInt ∧ (fs j).toInt ≤ 40) (h_v : 0 ≤ v.toInt ∧ v.toInt ≤ 7) (h_b : 0 ≤ b.toInt ∧ b.toInt ≤ 7) : mi l yX5_troubleBetween wsX5_troubleBetween ({ frames := 1, cells := 0, slots := 0, locals := 23 }) D cI cB cQ [.ref h, .int v, .int i, .int b, .int j, .int n] sz [(h, .inr (4, [.ref la, .ref sq, .ref ir])), (la, .inl (cI, 8, .inl fl)), (sq, .inl (cI, 8, .inl fs))] (fun (r : Int32) (_u : Unit) => ((r = 0 ∧ ¬ (fl v.toNatClampNeg).toInt = (-1) ∧ ¬ (fl b.toNatClampNeg).toInt = (-1) ∧ (fl v.toNatClampNeg).toInt = (fl b.toNatClampNeg).toInt ∧ (0 ≤ i.toInt ∧ 0 ≤ n.toInt ∧ i.toInt + n.toInt ≤ (fs v.toNatClampNeg).toInt) ∧ (0 ≤ j.toInt ∧ 0 ≤ n.toInt ∧ j.toInt + n.toInt ≤ (fs b.toNatClampNeg).toInt) ∧ (fs v.toNatClampNeg).toInt ≤ 40 ∧ (fs b.toNatClampNeg).toInt ≤ 40) ∨ (r = 1 ∧ ((fl v.toNatClampNeg).toInt = (-1) ∨ (fl b.toNatClampNeg).toInt = (-1))) ∨ (r = 5 ∧ ¬ (fl v.toNatClampNeg).toInt = (-1) ∧ ¬ (fl b.toNatClampNeg).toInt = (-1) ∧ ¬ (fl v.toNatClampNeg).toInt = (fl b.toNatClampNeg).toInt) ∨ (r = 2 ∧ ¬ (fl v.toNatClampNeg).toInt = (-1) ∧ ¬ (fl b.toNatClampNeg).toInt = (-1) ∧ (fl v.toNatClampNeg).toInt = (fl b.toNatClampNeg).toInt ∧ ¬ ((0 ≤ i.toInt ∧ 0 ≤ n.toInt ∧ i.toInt + n.toInt ≤ (fs v.toNatClampNeg).toInt) ∧ (0 ≤ j.toInt ∧ 0 ≤ n.toInt ∧ j.toInt + n.toInt ≤ (fs b.toNatClampNeg).toInt))))) (fun _ => [(h, .inr (4, [.ref la, .ref sq, .ref ir])), (la, .inl (cI, 8, .inl fl)), (sq, .inl (cI, 8, .inl fs))]) 0 0 := by
  refine wm_i (cc := cX5_troubleBetween) (maxL := 6) (ret := (some .int)) (by decide) rfl (Nat.le_of_ble_eq_true rfl) ?_
  intro p e s m below meth c A ls hx hb hr hml hown hts hlocks hin hP hK hD hN hA hl hS
  have hown : s.vm.findClass RX5 = some m.cls := hown
  have hl : lv_has ls 6 [(0, .ref h), (1, .int v), (2, .int i), (3, .int b), (4, .int j), (5, .int n)] := hl
  change W p l e ({ frames := 1, cells := 0, slots := 0, locals := 23 }) s m ([.ref h, .int v, .int i, .int b, .int j, .int n] : List Value).toArray below meth c s.heap [] 0 0 (MQ below (va_Qi (fun (r : Int32) (_u : Unit) => ((r = 0 ∧ ¬ (fl v.toNatClampNeg).toInt = (-1) ∧ ¬ (fl b.toNatClampNeg).toInt = (-1) ∧ (fl v.toNatClampNeg).toInt = (fl b.toNatClampNeg).toInt ∧ (0 ≤ i.toInt ∧ 0 ≤ n.toInt ∧ i.toInt + n.toInt ≤ (fs v.toNatClampNeg).toInt) ∧ (0 ≤ j.toInt ∧ 0 ≤ n.toInt ∧ j.toInt + n.toInt ≤ (fs b.toNatClampNeg).toInt) ∧ (fs v.toNatClampNeg).toInt ≤ 40 ∧ (fs b.toNatClampNeg).toInt ≤ 40) ∨ (r = 1 ∧ ((fl v.toNatClampNeg).toInt = (-1) ∨ (fl b.toNatClampNeg).toInt = (-1))) ∨ (r = 5 ∧ ¬ (fl v.toNatClampNeg).toInt = (-1) ∧ ¬ (fl b.toNatClampNeg).toInt = (-1) ∧ ¬ (fl v.toNatClampNeg).toInt = (fl b.toNatClampNeg).toInt) ∨ (r = 2 ∧ ¬ (fl v.toNatClampNeg).toInt = (-1) ∧ ¬ (fl b.toNatClampNeg).toInt = (-1) ∧ (fl v.toNatClampNeg).toInt = (fl b.toNatClampNeg).toInt ∧ ¬ ((0 ≤ i.toInt ∧ 0 ≤ n.toInt ∧ i.toInt + n.toInt ≤ (fs v.toNatClampNeg).toInt) ∧ (0 ≤ j.toInt ∧ 0 ≤ n.toInt ∧ j.toInt + n.toInt ≤ (fs b.toNatClampNeg).toInt))))) (fun u t => wb D A ((fun _ => [(h, .inr (4, [.ref la, .ref sq, .ref ir])), (la, .inl (cI, 8, .inl fl)), (sq, .inl (cI, 8, .inl fs))]) u) t) A) ([.ref h, .int v, .int i, .int b, .int j, .int n] : List Value).toArray s 0 0 A) (F0 m 0 ls [])
  refine lv_aload_n hx hb dX5_troubleBetween_0 rfl (lv_at hl 0 rfl) ?_
  refine lv_iload_n hx hb dX5_troubleBetween_1 rfl (lv_at hl 1 rfl) ?_
  have k_1 := (e_X5_isMissing l D cI cB cQ s.heap.size h la sq ir v fl (by omega))
  refine wc_i (WC := [(h, .inr (4, [.ref la, .ref sq, .ref ir])), (la, .inl (cI, 8, .inl fl))]) (WR := [(sq, .inl (cI, 8, .inl fs))]) (va_runV (As := [.int v]) (rest := []) ⟨hx, hb, hml, hown, hts⟩ k_1 (cwV 1 hts gX5_troubleBetween_X5_isMissing rfl rfl rfl (by decide +kernel) ⟨Nat.le_of_ble_eq_true rfl, Nat.le_of_ble_eq_true rfl⟩) (wp_V hP hK hD hN [0, 1] (by decide) rfl (ci := 4) rfl rfl) rfl rfl hl.1 rfl (lv_room (Nat.le_of_ble_eq_true rfl)) dX5_troubleBetween_2 ⟨Nat.le_of_ble_eq_true rfl, Nat.le_of_ble_eq_true rfl⟩) hP hD hS hA [0, 1] [2] rfl rfl (by decide) (by decide) (fun r_1 u_1 H locs hw_1 hP hD hS => ?_)
  clear k_1
  have hP : va_P D kl [(sq, .inl (cI, 8, .inl fs)), (h, .inr (4, [.ref la, .ref sq, .ref ir])), (la, .inl (cI, 8, .inl fl))] H := hP
  have hD : va_D A [(sq, .inl (cI, 8, .inl fs)), (h, .inr (4, [.ref la, .ref sq, .ref ir])), (la, .inl (cI, 8, .inl fl))] := hD
  have c1_0 := hw_1
  rcases c1_0 with ⟨e_1, f_1⟩ | ⟨e_1, f_1⟩
  · subst e_1
    have f_1 : (fl v.toNatClampNeg).toInt = (-1) := f_1
    refine lv_if_ne (tgt := 16) hx hb dX5_troubleBetween_5 (by decide) (fun _ => ?_) (fun c9 => absurd c9 (by decide))
    refine lv_iconst (v := 1) hx hb dX5_troubleBetween_16 (by decide) ?_
    exact wr_i (v := 1) hx hb hr hlocks hS () (by exact Or.inr (Or.inl ⟨rfl, show ((fl v.toNatClampNeg).toInt = (-1) ∨ (fl b.toNatClampNeg).toInt = (-1)) from by omega⟩)) (hP.sub [1, 2, 0] rfl) (hD.sub [1, 2, 0] (by decide) rfl) dX5_troubleBetween_17
  · subst e_1
    have f_1 : ¬ (fl v.toNatClampNeg).toInt = (-1) := f_1
    refine lv_if_ne (tgt := 16) hx hb dX5_troubleBetween_5 (by decide) (fun c9 => absurd (by decide) c9) (fun _ => ?_)
    refine lv_aload_n hx hb dX5_troubleBetween_8 rfl (lv_at hl 0 rfl) ?_
    refine lv_iload_n hx hb dX5_troubleBetween_9 rfl (lv_at hl 3 rfl) ?_
    have k_2 := (e_X5_isMissing l D cI cB cQ H.size h la sq ir b fl (by omega))
    refine wc_i (WC := [(h, .inr (4, [.ref la, .ref sq, .ref ir])), (la, .inl (cI, 8, .inl fl))]) (WR := [(sq, .inl (cI, 8, .inl fs))]) (va_runV (As := [.int b]) (rest := []) ⟨hx, hb, hml, hown, hts⟩ k_2 (cwV 1 hts gX5_troubleBetween_X5_isMissing rfl rfl rfl (by decide +kernel) ⟨Nat.le_of_ble_eq_true rfl, Nat.le_of_ble_eq_true rfl⟩) (wp_V hP hK hD hN [1, 2] (by decide) rfl (ci := 4) rfl rfl) rfl rfl hl.1 rfl (lv_room (Nat.le_of_ble_eq_true rfl)) dX5_troubleBetween_10 ⟨Nat.le_of_ble_eq_true rfl, Nat.le_of_ble_eq_true rfl⟩) hP hD hS hA [1, 2] [0] rfl rfl (by decide) (by decide) (fun r_2 u_2 H locs hw_2 hP hD hS => ?_)
    clear k_2
    have hP : va_P D kl [(sq, .inl (cI, 8, .inl fs)), (h, .inr (4, [.ref la, .ref sq, .ref ir])), (la, .inl (cI, 8, .inl fl))] H := hP
    have hD : va_D A [(sq, .inl (cI, 8, .inl fs)), (h, .inr (4, [.ref la, .ref sq, .ref ir])), (la, .inl (cI, 8, .inl fl))] := hD
    have c2_0 := hw_2
    rcases c2_0 with ⟨e_2, f_2⟩ | ⟨e_2, f_2⟩
    · subst e_2
      have f_2 : (fl b.toNatClampNeg).toInt = (-1) := f_2
      refine lv_if_eq (tgt := 18) hx hb dX5_troubleBetween_13 (by decide) (fun c9 => absurd c9 (by decide)) (fun _ => ?_)
      refine lv_iconst (v := 1) hx hb dX5_troubleBetween_16 (by decide) ?_
      exact wr_i (v := 1) hx hb hr hlocks hS () (by exact Or.inr (Or.inl ⟨rfl, show ((fl v.toNatClampNeg).toInt = (-1) ∨ (fl b.toNatClampNeg).toInt = (-1)) from by omega⟩)) (hP.sub [1, 2, 0] rfl) (hD.sub [1, 2, 0] (by decide) rfl) dX5_troubleBetween_17
    · subst e_2
      have f_2 : ¬ (fl b.toNatClampNeg).toInt = (-1) := f_2
      refine lv_if_eq (tgt := 18) hx hb dX5_troubleBetween_13 (by decide) (fun _ => ?_) (fun c9 => absurd (by decide) c9)
      refine lv_aload_n hx hb dX5_troubleBetween_18 rfl (lv_at hl 0 rfl) ?_
      refine va_get (D := D) (ci := 4) (v := .ref la) (C := RX5) (T := TX5) (N := 3) hx hb hts (fun _ h => List.mem_cons_of_mem _ (List.mem_append_right _ h)) hown hK hP 1 rfl rfl 0 (by decide) (hts (.fieldLink RX5 11 "WinterWalk$Rows" "lanes" "[I") (List.mem_of_getElem? (i := 1) rfl)) (fun _ h9 => h9) rfl dX5_troubleBetween_19 ?_
      refine lv_iload_n hx hb dX5_troubleBetween_22 rfl (lv_at hl 1 rfl) ?_
      refine va_iald hx hb hK hP 2 0 rfl rfl (zi_in (by omega) (by omega)) dX5_troubleBetween_23 ?_
      refine lv_topi (fun x_3 ex_3 => ?_)
      have g_3 : x_3.toInt = (fl (v : Int32).toNatClampNeg).toInt := by rw [ex_3]
      refine lv_aload_n hx hb dX5_troubleBetween_24 rfl (lv_at hl 0 rfl) ?_
      refine va_get (D := D) (ci := 4) (v := .ref la) (C := RX5) (T := TX5) (N := 3) hx hb hts (fun _ h => List.mem_cons_of_mem _ (List.mem_append_right _ h)) hown hK hP 1 rfl rfl 0 (by decide) (hts (.fieldLink RX5 11 "WinterWalk$Rows" "lanes" "[I") (List.mem_of_getElem? (i := 1) rfl)) (fun _ h9 => h9) rfl dX5_troubleBetween_25 ?_
      refine lv_iload_n hx hb dX5_troubleBetween_28 rfl (lv_at hl 3 rfl) ?_
      refine va_iald hx hb hK hP 2 0 rfl rfl (zi_in (by omega) (by omega)) dX5_troubleBetween_29 ?_
      refine lv_topi (fun x_4 ex_4 => ?_)
      have g_4 : x_4.toInt = (fl (b : Int32).toNatClampNeg).toInt := by rw [ex_4]
      refine lv_icmp_eq (tgt := 35) hx hb dX5_troubleBetween_30 (by decide) (fun c_5 => ?_) (fun c_5 => ?_)
      · have f_5 : x_3.toInt = x_4.toInt := zi_eq c_5
        refine lv_aload_n hx hb dX5_troubleBetween_35 rfl (lv_at hl 0 rfl) ?_
        refine lv_iload_n hx hb dX5_troubleBetween_36 rfl (lv_at hl 1 rfl) ?_
        refine lv_iload_n hx hb dX5_troubleBetween_37 rfl (lv_at hl 2 rfl) ?_
        refine lv_iload hx hb dX5_troubleBetween_38 (lv_at hl 5 rfl) ?_
        have k_6 := (e_X5_holds l D cI cB cQ H.size h la sq ir v i n fl fs hs (by omega))
        refine wc_i (WC := [(h, .inr (4, [.ref la, .ref sq, .ref ir])), (la, .inl (cI, 8, .inl fl)), (sq, .inl (cI, 8, .inl fs))]) (WR := []) (va_runV (As := [.int v, .int i, .int n]) (rest := []) ⟨hx, hb, hml, hown, hts⟩ k_6 (cwV 3 hts gX5_troubleBetween_X5_holds rfl rfl rfl (by decide +kernel) ⟨Nat.le_of_ble_eq_true rfl, Nat.le_of_ble_eq_true rfl⟩) (wp_V hP hK hD hN [1, 2, 0] (by decide) rfl (ci := 4) rfl rfl) rfl rfl hl.1 rfl (lv_room (Nat.le_of_ble_eq_true rfl)) dX5_troubleBetween_40 ⟨Nat.le_of_ble_eq_true rfl, Nat.le_of_ble_eq_true rfl⟩) hP hD hS hA [1, 2, 0] [] rfl rfl (by decide) (by decide) (fun r_6 u_6 H locs hw_6 hP hD hS => ?_)
        clear k_6
        have hP : va_P D kl [(h, .inr (4, [.ref la, .ref sq, .ref ir])), (la, .inl (cI, 8, .inl fl)), (sq, .inl (cI, 8, .inl fs))] H := hP
        have hD : va_D A [(h, .inr (4, [.ref la, .ref sq, .ref ir])), (la, .inl (cI, 8, .inl fl)), (sq, .inl (cI, 8, .inl fs))] := hD
        have c6_0 := hw_6
        rcases c6_0 with ⟨e_6, f_6⟩ | ⟨e_6, f_6⟩
        · subst e_6
          have f_6 : (0 ≤ i.toInt ∧ 0 ≤ n.toInt ∧ i.toInt + n.toInt ≤ (fs v.toNatClampNeg).toInt) ∧ (fs v.toNatClampNeg).toInt ≤ 40 := f_6
          refine lv_if_eq (tgt := 62) hx hb dX5_troubleBetween_43 (by decide) (fun c9 => absurd c9 (by decide)) (fun _ => ?_)
          refine lv_aload_n hx hb dX5_troubleBetween_46 rfl (lv_at hl 0 rfl) ?_
          refine lv_iload_n hx hb dX5_troubleBetween_47 rfl (lv_at hl 3 rfl) ?_
          refine lv_iload hx hb dX5_troubleBetween_48 (lv_at hl 4 rfl) ?_
          refine lv_iload hx hb dX5_troubleBetween_50 (lv_at hl 5 rfl) ?_
          have k_7 := (e_X5_holds l D cI cB cQ H.size h la sq ir b j n fl fs hs (by omega))
          refine wc_i (WC := [(h, .inr (4, [.ref la, .ref sq, .ref ir])), (la, .inl (cI, 8, .inl fl)), (sq, .inl (cI, 8, .inl fs))]) (WR := []) (va_runV (As := [.int b, .int j, .int n]) (rest := []) ⟨hx, hb, hml, hown, hts⟩ k_7 (cwV 3 hts gX5_troubleBetween_X5_holds rfl rfl rfl (by decide +kernel) ⟨Nat.le_of_ble_eq_true rfl, Nat.le_of_ble_eq_true rfl⟩) (wp_V hP hK hD hN [0, 1, 2] (by decide) rfl (ci := 4) rfl rfl) rfl rfl hl.1 rfl (lv_room (Nat.le_of_ble_eq_true rfl)) dX5_troubleBetween_52 ⟨Nat.le_of_ble_eq_true rfl, Nat.le_of_ble_eq_true rfl⟩) hP hD hS hA [0, 1, 2] [] rfl rfl (by decide) (by decide) (fun r_7 u_7 H locs hw_7 hP hD hS => ?_)
          clear k_7
          have hP : va_P D kl [(h, .inr (4, [.ref la, .ref sq, .ref ir])), (la, .inl (cI, 8, .inl fl)), (sq, .inl (cI, 8, .inl fs))] H := hP
          have hD : va_D A [(h, .inr (4, [.ref la, .ref sq, .ref ir])), (la, .inl (cI, 8, .inl fl)), (sq, .inl (cI, 8, .inl fs))] := hD
          have c7_0 := hw_7
          rcases c7_0 with ⟨e_7, f_7⟩ | ⟨e_7, f_7⟩
          · subst e_7
            have f_7 : (0 ≤ j.toInt ∧ 0 ≤ n.toInt ∧ j.toInt + n.toInt ≤ (fs b.toNatClampNeg).toInt) ∧ (fs b.toNatClampNeg).toInt ≤ 40 := f_7
            refine lv_if_eq (tgt := 62) hx hb dX5_troubleBetween_55 (by decide) (fun c9 => absurd c9 (by decide)) (fun _ => ?_)
            refine lv_iconst (v := 0) hx hb dX5_troubleBetween_58 (by decide) ?_
            refine lv_goto (tgt := 63) hx hb dX5_troubleBetween_59 (by decide) ?_
            exact wr_i (v := 0) hx hb hr hlocks hS () (by exact Or.inl ⟨rfl, show ¬ (fl v.toNatClampNeg).toInt = (-1) ∧ ¬ (fl b.toNatClampNeg).toInt = (-1) ∧ (fl v.toNatClampNeg).toInt = (fl b.toNatClampNeg).toInt ∧ (0 ≤ i.toInt ∧ 0 ≤ n.toInt ∧ i.toInt + n.toInt ≤ (fs v.toNatClampNeg).toInt) ∧ (0 ≤ j.toInt ∧ 0 ≤ n.toInt ∧ j.toInt + n.toInt ≤ (fs b.toNatClampNeg).toInt) ∧ (fs v.toNatClampNeg).toInt ≤ 40 ∧ (fs b.toNatClampNeg).toInt ≤ 40 from by omega⟩) (hP.sub [0, 1, 2] rfl) (hD.sub [0, 1, 2] (by decide) rfl) dX5_troubleBetween_63
          · subst e_7
            have f_7 : ¬ (0 ≤ j.toInt ∧ 0 ≤ n.toInt ∧ j.toInt + n.toInt ≤ (fs b.toNatClampNeg).toInt) := f_7
            refine lv_if_eq (tgt := 62) hx hb dX5_troubleBetween_55 (by decide) (fun _ => ?_) (fun c9 => absurd (by decide) c9)
            refine lv_iconst (v := 2) hx hb dX5_troubleBetween_62 (by decide) ?_
            exact wr_i (v := 2) hx hb hr hlocks hS () (by exact Or.inr (Or.inr (Or.inr (⟨rfl, show ¬ (fl v.toNatClampNeg).toInt = (-1) ∧ ¬ (fl b.toNatClampNeg).toInt = (-1) ∧ (fl v.toNatClampNeg).toInt = (fl b.toNatClampNeg).toInt ∧ ¬ ((0 ≤ i.toInt ∧ 0 ≤ n.toInt ∧ i.toInt + n.toInt ≤ (fs v.toNatClampNeg).toInt) ∧ (0 ≤ j.toInt ∧ 0 ≤ n.toInt ∧ j.toInt + n.toInt ≤ (fs b.toNatClampNeg).toInt)) from by omega⟩)))) (hP.sub [0, 1, 2] rfl) (hD.sub [0, 1, 2] (by decide) rfl) dX5_troubleBetween_63
        · subst e_6
          have f_6 : ¬ (0 ≤ i.toInt ∧ 0 ≤ n.toInt ∧ i.toInt + n.toInt ≤ (fs v.toNatClampNeg).toInt) := f_6
          refine lv_if_eq (tgt := 62) hx hb dX5_troubleBetween_43 (by decide) (fun _ => ?_) (fun c9 => absurd (by decide) c9)
          refine lv_iconst (v := 2) hx hb dX5_troubleBetween_62 (by decide) ?_
          exact wr_i (v := 2) hx hb hr hlocks hS () (by exact Or.inr (Or.inr (Or.inr (⟨rfl, show ¬ (fl v.toNatClampNeg).toInt = (-1) ∧ ¬ (fl b.toNatClampNeg).toInt = (-1) ∧ (fl v.toNatClampNeg).toInt = (fl b.toNatClampNeg).toInt ∧ ¬ ((0 ≤ i.toInt ∧ 0 ≤ n.toInt ∧ i.toInt + n.toInt ≤ (fs v.toNatClampNeg).toInt) ∧ (0 ≤ j.toInt ∧ 0 ≤ n.toInt ∧ j.toInt + n.toInt ≤ (fs b.toNatClampNeg).toInt)) from by omega⟩)))) (hP.sub [0, 1, 2] rfl) (hD.sub [0, 1, 2] (by decide) rfl) dX5_troubleBetween_63
      · have f_5 : ¬ x_3.toInt = x_4.toInt := zi_ne c_5
        refine lv_iconst (v := 5) hx hb dX5_troubleBetween_33 (by decide) ?_
        exact wr_i (v := 5) hx hb hr hlocks hS () (by exact Or.inr (Or.inr (Or.inl ⟨rfl, show ¬ (fl v.toNatClampNeg).toInt = (-1) ∧ ¬ (fl b.toNatClampNeg).toInt = (-1) ∧ ¬ (fl v.toNatClampNeg).toInt = (fl b.toNatClampNeg).toInt from by omega⟩))) (hP.sub [1, 2, 0] rfl) (hD.sub [1, 2, 0] (by decide) rfl) dX5_troubleBetween_34
set_option maxHeartbeats 4000000 in
set_option maxRecDepth 100000 in
theorem e_X5_takeAway (l : Launch) (D : va_G) (cI cB cQ : ClassId) (sz : Nat) (h : Nat) (la : Nat) (sq : Nat) (ir : Nat) (v : Int32) (fl : Nat → Int32) (fs : Nat → Int32) (hs : ∀ j, j < 8 → 0 ≤ (fs j).toInt ∧ (fs j).toInt ≤ 40) (h_v : 0 ≤ v.toInt ∧ v.toInt ≤ 7) : mi l yX5_takeAway wsX5_takeAway ({ frames := 0, cells := 0, slots := 0, locals := 0 }) D cI cB cQ [.ref h, .int v] sz [(h, .inr (4, [.ref la, .ref sq, .ref ir])), (la, .inl (cI, 8, .inl fl)), (sq, .inl (cI, 8, .inl fs))] (fun (r : Int32) (u : (Nat → Int32)) => (r.toInt = (fs v.toNatClampNeg).toInt) ∧ (u = upd fl v.toNatClampNeg (-1))) (fun u => [(h, .inr (4, [.ref la, .ref sq, .ref ir])), (la, .inl (cI, 8, .inl u)), (sq, .inl (cI, 8, .inl fs))]) 0 0 := by
  refine wm_i (cc := cX5_takeAway) (maxL := 2) (ret := (some .int)) (by decide) rfl (Nat.le_of_ble_eq_true rfl) ?_
  intro p e s m below meth c A ls hx hb hr hml hown hts hlocks hin hP hK hD hN hA hl hS
  have hown : s.vm.findClass RX5 = some m.cls := hown
  have hl : lv_has ls 2 [(0, .ref h), (1, .int v)] := hl
  change W p l e ({ frames := 0, cells := 0, slots := 0, locals := 0 }) s m ([.ref h, .int v] : List Value).toArray below meth c s.heap [] 0 0 (MQ below (va_Qi (fun (r : Int32) (u : (Nat → Int32)) => (r.toInt = (fs v.toNatClampNeg).toInt) ∧ (u = upd fl v.toNatClampNeg (-1))) (fun u t => wb D A ((fun u => [(h, .inr (4, [.ref la, .ref sq, .ref ir])), (la, .inl (cI, 8, .inl u)), (sq, .inl (cI, 8, .inl fs))]) u) t) A) ([.ref h, .int v] : List Value).toArray s 0 0 A) (F0 m 0 ls [])
  refine lv_aload_n hx hb dX5_takeAway_0 rfl (lv_at hl 0 rfl) ?_
  refine va_get (D := D) (ci := 4) (v := .ref la) (C := RX5) (T := TX5) (N := 3) hx hb hts (fun _ h => List.mem_cons_of_mem _ (List.mem_append_right _ h)) hown hK hP 0 rfl rfl 0 (by decide) (hts (.fieldLink RX5 11 "WinterWalk$Rows" "lanes" "[I") (List.mem_of_getElem? (i := 1) rfl)) (fun _ h9 => h9) rfl dX5_takeAway_1 ?_
  refine lv_iload_n hx hb dX5_takeAway_4 rfl (lv_at hl 1 rfl) ?_
  refine lv_iconst (v := (-1)) hx hb dX5_takeAway_5 (by decide) ?_
  refine va_iast hx hb hK hP hD hS 1 0 rfl rfl (zi_in (by omega) (by omega)) dX5_takeAway_6 (fun H locs hP hD hS => ?_)
  have hP : va_P D kl [(h, .inr (4, [.ref la, .ref sq, .ref ir])), (la, .inl (cI, 8, .inl (upd fl (v : Int32).toNatClampNeg (-1)))), (sq, .inl (cI, 8, .inl fs))] H := hP
  have hD : va_D A [(h, .inr (4, [.ref la, .ref sq, .ref ir])), (la, .inl (cI, 8, .inl (upd fl (v : Int32).toNatClampNeg (-1)))), (sq, .inl (cI, 8, .inl fs))] := hD
  refine lv_aload_n hx hb dX5_takeAway_7 rfl (lv_at hl 0 rfl) ?_
  refine va_get (D := D) (ci := 4) (v := .ref sq) (C := RX5) (T := TX5) (N := 3) hx hb hts (fun _ h => List.mem_cons_of_mem _ (List.mem_append_right _ h)) hown hK hP 0 rfl rfl 1 (by decide) (hts (.fieldLink RX5 15 "WinterWalk$Rows" "sizes" "[I") (List.mem_of_getElem? (i := 2) rfl)) (fun _ h9 => h9) rfl dX5_takeAway_8 ?_
  refine lv_iload_n hx hb dX5_takeAway_11 rfl (lv_at hl 1 rfl) ?_
  refine va_iald hx hb hK hP 2 0 rfl rfl (zi_in (by omega) (by omega)) dX5_takeAway_12 ?_
  refine lv_topi (fun x_1 ex_1 => ?_)
  have f_1 : 0 ≤ x_1.toInt ∧ x_1.toInt ≤ 40 := by rw [ex_1]; exact hs _ (zi_cl (by omega) (by omega))
  have g_1 : x_1.toInt = (fs (v : Int32).toNatClampNeg).toInt := by rw [ex_1]
  exact wr_i (v := x_1) hx hb hr hlocks hS (upd fl (v : Int32).toNatClampNeg (-1)) (by exact ⟨show x_1.toInt = (fs v.toNatClampNeg).toInt from by omega, rfl⟩) (hP.sub [0, 1, 2] rfl) (hD.sub [0, 1, 2] (by decide) rfl) dX5_takeAway_13
set_option maxHeartbeats 4000000 in
set_option maxRecDepth 100000 in
theorem e_X5_lay (l : Launch) (D : va_G) (cI cB cQ : ClassId) (sz : Nat) (h : Nat) (la : Nat) (sq : Nat) (ir : Nat) (v : Int32) (k : Int32) (n : Int32) (fl : Nat → Int32) (fs : Nat → Int32) (fi : Nat → Int32) (hs : ∀ j, j < 8 → 0 ≤ (fs j).toInt ∧ (fs j).toInt ≤ 40) (h_v : 0 ≤ v.toInt ∧ v.toInt ≤ 7) (h_n : 0 ≤ n.toInt ∧ n.toInt ≤ 40) : mv l yX5_lay wsX5_lay ({ frames := 2, cells := 0, slots := 0, locals := 46 }) D cI cB cQ [.ref h, .int v, .int k, .int n] sz [(h, .inr (4, [.ref la, .ref sq, .ref ir])), (la, .inl (cI, 8, .inl fl)), (sq, .inl (cI, 8, .inl fs)), (ir, .inl (cI, 320, .inl fi))] (fun (u : (Nat → Int32) × (Nat → Int32) × (Nat → Int32)) => (∀ j, j < 8 → 0 ≤ (u.2.1 j).toInt ∧ (u.2.1 j).toInt ≤ 40) ∧ (u.1 = upd fl v.toNatClampNeg k) ∧ (u.2.1 = upd fs v.toNatClampNeg n)) (fun u => [(h, .inr (4, [.ref la, .ref sq, .ref ir])), (la, .inl (cI, 8, .inl u.1)), (sq, .inl (cI, 8, .inl u.2.1)), (ir, .inl (cI, 320, .inl u.2.2))]) 0 0 := by
  refine wm_v (cc := cX5_lay) (maxL := 4) (ret := none) (by decide) rfl (Nat.le_of_ble_eq_true rfl) ?_
  intro p e s m below meth c A ls hx hb hr hml hown hts hlocks hin hP hK hD hN hA hl hS
  have hown : s.vm.findClass RX5 = some m.cls := hown
  have hl : lv_has ls 4 [(0, .ref h), (1, .int v), (2, .int k), (3, .int n)] := hl
  change W p l e ({ frames := 2, cells := 0, slots := 0, locals := 46 }) s m ([.ref h, .int v, .int k, .int n] : List Value).toArray below meth c s.heap [] 0 0 (MQ below (va_Qv (fun (u : (Nat → Int32) × (Nat → Int32) × (Nat → Int32)) => (∀ j, j < 8 → 0 ≤ (u.2.1 j).toInt ∧ (u.2.1 j).toInt ≤ 40) ∧ (u.1 = upd fl v.toNatClampNeg k) ∧ (u.2.1 = upd fs v.toNatClampNeg n)) (fun u t => wb D A ((fun u => [(h, .inr (4, [.ref la, .ref sq, .ref ir])), (la, .inl (cI, 8, .inl u.1)), (sq, .inl (cI, 8, .inl u.2.1)), (ir, .inl (cI, 320, .inl u.2.2))]) u) t) A) ([.ref h, .int v, .int k, .int n] : List Value).toArray s 0 0 A) (F0 m 0 ls [])
  refine lv_aload_n hx hb dX5_lay_0 rfl (lv_at hl 0 rfl) ?_
  refine va_get (D := D) (ci := 4) (v := .ref la) (C := RX5) (T := TX5) (N := 3) hx hb hts (fun _ h => List.mem_cons_of_mem _ (List.mem_append_right _ h)) hown hK hP 0 rfl rfl 0 (by decide) (hts (.fieldLink RX5 11 "WinterWalk$Rows" "lanes" "[I") (List.mem_of_getElem? (i := 1) rfl)) (fun _ h9 => h9) rfl dX5_lay_1 ?_
  refine lv_iload_n hx hb dX5_lay_4 rfl (lv_at hl 1 rfl) ?_
  refine lv_iload_n hx hb dX5_lay_5 rfl (lv_at hl 2 rfl) ?_
  refine va_iast hx hb hK hP hD hS 1 0 rfl rfl (zi_in (by omega) (by omega)) dX5_lay_6 (fun H locs hP hD hS => ?_)
  have hP : va_P D kl [(h, .inr (4, [.ref la, .ref sq, .ref ir])), (la, .inl (cI, 8, .inl (upd fl (v : Int32).toNatClampNeg k))), (sq, .inl (cI, 8, .inl fs)), (ir, .inl (cI, 320, .inl fi))] H := hP
  have hD : va_D A [(h, .inr (4, [.ref la, .ref sq, .ref ir])), (la, .inl (cI, 8, .inl (upd fl (v : Int32).toNatClampNeg k))), (sq, .inl (cI, 8, .inl fs)), (ir, .inl (cI, 320, .inl fi))] := hD
  refine lv_aload_n hx hb dX5_lay_7 rfl (lv_at hl 0 rfl) ?_
  refine va_get (D := D) (ci := 4) (v := .ref sq) (C := RX5) (T := TX5) (N := 3) hx hb hts (fun _ h => List.mem_cons_of_mem _ (List.mem_append_right _ h)) hown hK hP 0 rfl rfl 1 (by decide) (hts (.fieldLink RX5 15 "WinterWalk$Rows" "sizes" "[I") (List.mem_of_getElem? (i := 2) rfl)) (fun _ h9 => h9) rfl dX5_lay_8 ?_
  refine lv_iload_n hx hb dX5_lay_11 rfl (lv_at hl 1 rfl) ?_
  refine lv_iload_n hx hb dX5_lay_12 rfl (lv_at hl 3 rfl) ?_
  refine va_iast hx hb hK hP hD hS 2 0 rfl rfl (zi_in (by omega) (by omega)) dX5_lay_13 (fun H locs hP hD hS => ?_)
  have hP : va_P D kl [(h, .inr (4, [.ref la, .ref sq, .ref ir])), (la, .inl (cI, 8, .inl (upd fl (v : Int32).toNatClampNeg k))), (sq, .inl (cI, 8, .inl (upd fs (v : Int32).toNatClampNeg n))), (ir, .inl (cI, 320, .inl fi))] H := hP
  have hD : va_D A [(h, .inr (4, [.ref la, .ref sq, .ref ir])), (la, .inl (cI, 8, .inl (upd fl (v : Int32).toNatClampNeg k))), (sq, .inl (cI, 8, .inl (upd fs (v : Int32).toNatClampNeg n))), (ir, .inl (cI, 320, .inl fi))] := hD
  have ha_1 : ∀ j, j < 8 → 0 ≤ ((upd fs (v : Int32).toNatClampNeg n) j).toInt ∧ ((upd fs (v : Int32).toNatClampNeg n) j).toInt ≤ 40 := zu_upd hs (by omega)
  refine lv_aload_n hx hb dX5_lay_14 rfl (lv_at hl 0 rfl) ?_
  refine va_get (D := D) (ci := 4) (v := .ref ir) (C := RX5) (T := TX5) (N := 3) hx hb hts (fun _ h => List.mem_cons_of_mem _ (List.mem_append_right _ h)) hown hK hP 0 rfl rfl 2 (by decide) (hts (.fieldLink RX5 18 "WinterWalk$Rows" "items" "[I") (List.mem_of_getElem? (i := 3) rfl)) (fun _ h9 => h9) rfl dX5_lay_15 ?_
  refine lv_iload_n hx hb dX5_lay_18 rfl (lv_at hl 1 rfl) ?_
  refine lv_bipush (v := 40) hx hb dX5_lay_19 (by decide) ?_
  refine lv_imul hx hb dX5_lay_21 ?_
  refine lv_topi (fun x_2 ex_2 => ?_)
  have e_2 : x_2.toInt = v.toInt * 40 := by rw [ex_2]; exact zi_mul (rfl) (by decide) (by omega) (by omega)
  clear ex_2
  refine lv_iload_n hx hb dX5_lay_22 rfl (lv_at hl 1 rfl) ?_
  refine lv_iconst (v := 1) hx hb dX5_lay_23 (by decide) ?_
  refine lv_iadd hx hb dX5_lay_24 ?_
  refine lv_topi (fun x_3 ex_3 => ?_)
  have e_3 : x_3.toInt = v.toInt + 1 := by rw [ex_3]; exact zi_add (rfl) (by decide) (by omega) (by omega)
  clear ex_3
  refine lv_bipush (v := 40) hx hb dX5_lay_25 (by decide) ?_
  refine lv_imul hx hb dX5_lay_27 ?_
  refine lv_topi (fun x_4 ex_4 => ?_)
  have e_4 : x_4.toInt = x_3.toInt * 40 := by rw [ex_4]; exact zi_mul (rfl) (by decide) (by omega) (by omega)
  clear ex_4
  refine lv_iconst (v := 0) hx hb dX5_lay_28 (by decide) ?_
  have k_5 := (g_J7_fill_fda19 l D cI cB cQ H.size ir x_2 x_4 0 fi (by have hk0 : (0 : Int32).toInt = 0 := (by decide); omega) (by omega) (by have hk0 : (0 : Int32).toInt = 0 := (by decide); omega))
  refine wc_v (WC := [(ir, .inl (cI, 320, .inl fi))]) (WR := [(h, .inr (4, [.ref la, .ref sq, .ref ir])), (la, .inl (cI, 8, .inl (upd fl (v : Int32).toNatClampNeg k))), (sq, .inl (cI, 8, .inl (upd fs (v : Int32).toNatClampNeg n)))]) (va_runS (As := [.ref ir, .int x_2, .int x_4, .int 0]) (rest := []) ⟨hx, hb, hml, hown, hts⟩ k_5 (va_cwS 4 hts gX5_lay_J7_fill_fda19 rfl rfl rfl (by decide +kernel) ⟨Nat.le_of_ble_eq_true rfl, Nat.le_of_ble_eq_true rfl⟩) (wp_S hP hK hD hN [3] (by decide) rfl) rfl rfl hl.1 rfl (lv_room (Nat.le_of_ble_eq_true rfl)) dX5_lay_29 ⟨Nat.le_of_ble_eq_true rfl, Nat.le_of_ble_eq_true rfl⟩) hP hD hS hA [3] [0, 1, 2] rfl rfl (by decide) (by decide) (fun u_5 H locs hw_5 hP hD hS => ?_)
  clear k_5
  have hP : va_P D kl [(h, .inr (4, [.ref la, .ref sq, .ref ir])), (la, .inl (cI, 8, .inl (upd fl (v : Int32).toNatClampNeg k))), (sq, .inl (cI, 8, .inl (upd fs (v : Int32).toNatClampNeg n))), (ir, .inl (cI, 320, .inl u_5))] H := hP
  have hD : va_D A [(h, .inr (4, [.ref la, .ref sq, .ref ir])), (la, .inl (cI, 8, .inl (upd fl (v : Int32).toNatClampNeg k))), (sq, .inl (cI, 8, .inl (upd fs (v : Int32).toNatClampNeg n))), (ir, .inl (cI, 320, .inl u_5))] := hD
  clear hw_5
  exact wr_v hx hb hr hlocks hS ((upd fl (v : Int32).toNatClampNeg k), (upd fs (v : Int32).toNatClampNeg n), u_5) (by exact ⟨ha_1, rfl, rfl⟩) (hP.sub [0, 1, 2, 3] rfl) (hD.sub [0, 1, 2, 3] (by decide) rfl) dX5_lay_32
set_option maxHeartbeats 4000000 in
set_option maxRecDepth 100000 in
theorem e_X5_cutToLane (l : Launch) (D : va_G) (cI cB cQ : ClassId) (sz : Nat) (k : Int32) (v : Int32) : mi l yX5_cutToLane wsX5_cutToLane ({ frames := 0, cells := 0, slots := 0, locals := 0 }) D cI cB cQ [.int k, .int v] sz [] (fun (r : Int32) (_u : Unit) => (r.toInt = (cutl k v).toInt)) (fun _ => []) 0 0 := by
  refine wm_i (cc := cX5_cutToLane) (maxL := 2) (ret := (some .int)) (by decide) rfl (Nat.le_of_ble_eq_true rfl) ?_
  intro p e s m below meth c A ls hx hb hr hml hown hts hlocks hin hP hK hD hN hA hl hS
  have hown : s.vm.findClass RX5 = some m.cls := hown
  have hl : lv_has ls 2 [(0, .int k), (1, .int v)] := hl
  change W p l e ({ frames := 0, cells := 0, slots := 0, locals := 0 }) s m ([.int k, .int v] : List Value).toArray below meth c s.heap [] 0 0 (MQ below (va_Qi (fun (r : Int32) (_u : Unit) => (r.toInt = (cutl k v).toInt)) (fun u t => wb D A ((fun _ => []) u) t) A) ([.int k, .int v] : List Value).toArray s 0 0 A) (F0 m 0 ls [])
  have hcut := cutl_c k v
  refine lv_iload_n hx hb dX5_cutToLane_0 rfl (lv_at hl 0 rfl) ?_
  by_cases g_2 : k.toInt = 0
  · refine lv_lookup (off := 27) (tgt := 28) hx hb dX5_cutToLane_1 (by decide) (by rw [g_2]; rfl) (by decide) ?_
    refine lv_iload_n hx hb dX5_cutToLane_28 rfl (lv_at hl 1 rfl) ?_
    refine lv_i2b (v := (v).toInt8.toInt32) hx hb dX5_cutToLane_29 rfl ?_
    exact wr_i (v := (v.toInt8.toInt32)) hx hb hr hlocks hS () (by exact show (v.toInt8.toInt32).toInt = (cutl k v).toInt from by omega) (hP.sub [] rfl) (hD.sub [] (by decide) rfl) dX5_cutToLane_30
  by_cases g_3 : k.toInt = 1
  · refine lv_lookup (off := 30) (tgt := 31) hx hb dX5_cutToLane_1 (by decide) (by rw [g_3]; rfl) (by decide) ?_
    refine lv_iload_n hx hb dX5_cutToLane_31 rfl (lv_at hl 1 rfl) ?_
    refine lv_i2s (v := (v).toInt16.toInt32) hx hb dX5_cutToLane_32 rfl ?_
    exact wr_i (v := (v.toInt16.toInt32)) hx hb hr hlocks hS () (by exact show (v.toInt16.toInt32).toInt = (cutl k v).toInt from by omega) (hP.sub [] rfl) (hD.sub [] (by decide) rfl) dX5_cutToLane_33
  refine lv_lookup (off := 33) (tgt := 34) hx hb dX5_cutToLane_1 (by decide) (by simp [Op.lookupswitch.offset, show ¬ (0 : Int) = k.toInt from fun z => g_2 z.symm, show ¬ (1 : Int) = k.toInt from fun z => g_3 z.symm]) (by decide) ?_
  refine lv_iload_n hx hb dX5_cutToLane_34 rfl (lv_at hl 1 rfl) ?_
  exact wr_i (v := v) hx hb hr hlocks hS () (by exact show v.toInt = (cutl k v).toInt from by omega) (hP.sub [] rfl) (hD.sub [] (by decide) rfl) dX5_cutToLane_35
set_option maxHeartbeats 4000000 in
set_option maxRecDepth 100000 in
theorem e_X5_put (l : Launch) (D : va_G) (cI cB cQ : ClassId) (sz : Nat) (h : Nat) (la : Nat) (sq : Nat) (ir : Nat) (v : Int32) (i : Int32) (x : Int32) (fl : Nat → Int32) (fi : Nat → Int32) (h_v : 0 ≤ v.toInt ∧ v.toInt ≤ 7) (h_i : 0 ≤ i.toInt ∧ i.toInt ≤ 39) : mi l yX5_put wsX5_put ({ frames := 1, cells := 0, slots := 0, locals := 22 }) D cI cB cQ [.ref h, .int v, .int i, .int x] sz [(h, .inr (4, [.ref la, .ref sq, .ref ir])), (la, .inl (cI, 8, .inl fl)), (ir, .inl (cI, 320, .inl fi))] (fun (r : Int32) (u : (Nat → Int32)) => (r.toInt = (cutl (fl v.toNatClampNeg) x).toInt)) (fun u => [(h, .inr (4, [.ref la, .ref sq, .ref ir])), (la, .inl (cI, 8, .inl fl)), (ir, .inl (cI, 320, .inl u))]) 0 0 := by
  refine wm_i (cc := cX5_put) (maxL := 5) (ret := (some .int)) (by decide) rfl (Nat.le_of_ble_eq_true rfl) ?_
  intro p e s m below meth c A ls hx hb hr hml hown hts hlocks hin hP hK hD hN hA hl hS
  have hown : s.vm.findClass RX5 = some m.cls := hown
  have hl : lv_has ls 5 [(0, .ref h), (1, .int v), (2, .int i), (3, .int x)] := hl
  change W p l e ({ frames := 1, cells := 0, slots := 0, locals := 22 }) s m ([.ref h, .int v, .int i, .int x] : List Value).toArray below meth c s.heap [] 0 0 (MQ below (va_Qi (fun (r : Int32) (u : (Nat → Int32)) => (r.toInt = (cutl (fl v.toNatClampNeg) x).toInt)) (fun u t => wb D A ((fun u => [(h, .inr (4, [.ref la, .ref sq, .ref ir])), (la, .inl (cI, 8, .inl fl)), (ir, .inl (cI, 320, .inl u))]) u) t) A) ([.ref h, .int v, .int i, .int x] : List Value).toArray s 0 0 A) (F0 m 0 ls [])
  refine lv_aload_n hx hb dX5_put_0 rfl (lv_at hl 0 rfl) ?_
  refine va_get (D := D) (ci := 4) (v := .ref la) (C := RX5) (T := TX5) (N := 3) hx hb hts (fun _ h => List.mem_cons_of_mem _ (List.mem_append_right _ h)) hown hK hP 0 rfl rfl 0 (by decide) (hts (.fieldLink RX5 11 "WinterWalk$Rows" "lanes" "[I") (List.mem_of_getElem? (i := 1) rfl)) (fun _ h9 => h9) rfl dX5_put_1 ?_
  refine lv_iload_n hx hb dX5_put_4 rfl (lv_at hl 1 rfl) ?_
  refine va_iald hx hb hK hP 1 0 rfl rfl (zi_in (by omega) (by omega)) dX5_put_5 ?_
  refine lv_topi (fun x_1 ex_1 => ?_)
  have g_1 : x_1.toInt = (fl (v : Int32).toNatClampNeg).toInt := by rw [ex_1]
  refine lv_iload_n hx hb dX5_put_6 rfl (lv_at hl 3 rfl) ?_
  have k_2 := (e_X5_cutToLane l D cI cB cQ s.heap.size x_1 x)
  refine wc_i (WC := []) (WR := [(h, .inr (4, [.ref la, .ref sq, .ref ir])), (la, .inl (cI, 8, .inl fl)), (ir, .inl (cI, 320, .inl fi))]) (va_runS (As := [.int x_1, .int x]) (rest := []) ⟨hx, hb, hml, hown, hts⟩ k_2 (va_cwS 2 hts gX5_put_X5_cutToLane rfl rfl rfl (by decide +kernel) ⟨Nat.le_of_ble_eq_true rfl, Nat.le_of_ble_eq_true rfl⟩) (wp_S hP hK hD hN [] (by decide) rfl) rfl rfl hl.1 rfl (lv_room (Nat.le_of_ble_eq_true rfl)) dX5_put_7 ⟨Nat.le_of_ble_eq_true rfl, Nat.le_of_ble_eq_true rfl⟩) hP hD hS hA [] [0, 1, 2] rfl rfl (by decide) (by decide) (fun r_2 u_2 H locs hw_2 hP hD hS => ?_)
  clear k_2
  have hP : va_P D kl [(h, .inr (4, [.ref la, .ref sq, .ref ir])), (la, .inl (cI, 8, .inl fl)), (ir, .inl (cI, 320, .inl fi))] H := hP
  have hD : va_D A [(h, .inr (4, [.ref la, .ref sq, .ref ir])), (la, .inl (cI, 8, .inl fl)), (ir, .inl (cI, 320, .inl fi))] := hD
  have c2_0 := hw_2
  have c2_0 : r_2.toInt = (cutl x_1 x).toInt := c2_0
  refine lv_istore (lv' := [(4, .int r_2), (0, .ref h), (1, .int v), (2, .int i), (3, .int x)]) hx hb dX5_put_10 hl (by decide) rfl (fun ls hl => ?_)
  refine lv_aload_n hx hb dX5_put_12 rfl (lv_at hl 1 rfl) ?_
  refine va_get (D := D) (ci := 4) (v := .ref ir) (C := RX5) (T := TX5) (N := 3) hx hb hts (fun _ h => List.mem_cons_of_mem _ (List.mem_append_right _ h)) hown hK hP 0 rfl rfl 2 (by decide) (hts (.fieldLink RX5 18 "WinterWalk$Rows" "items" "[I") (List.mem_of_getElem? (i := 2) rfl)) (fun _ h9 => h9) rfl dX5_put_13 ?_
  refine lv_aload_n hx hb dX5_put_16 rfl (lv_at hl 1 rfl) ?_
  refine lv_iload_n hx hb dX5_put_17 rfl (lv_at hl 2 rfl) ?_
  refine lv_iload_n hx hb dX5_put_18 rfl (lv_at hl 3 rfl) ?_
  have k_3 := (g_X5_indexOf l D cI cB cQ H.size h la sq ir v i (by omega) (by omega))
  refine wc_i (WC := [(h, .inr (4, [.ref la, .ref sq, .ref ir]))]) (WR := [(la, .inl (cI, 8, .inl fl)), (ir, .inl (cI, 320, .inl fi))]) (va_runV (As := [.int v, .int i]) (rest := [.ref ir]) ⟨hx, hb, hml, hown, hts⟩ k_3 (cwV 2 hts gX5_put_X5_indexOf rfl rfl rfl (by decide +kernel) ⟨Nat.le_of_ble_eq_true rfl, Nat.le_of_ble_eq_true rfl⟩) (wp_V hP hK hD hN [0] (by decide) rfl (ci := 4) rfl rfl) rfl rfl hl.1 rfl (lv_room (Nat.le_of_ble_eq_true rfl)) dX5_put_19 ⟨Nat.le_of_ble_eq_true rfl, Nat.le_of_ble_eq_true rfl⟩) hP hD hS hA [0] [1, 2] rfl rfl (by decide) (by decide) (fun r_3 u_3 H locs hw_3 hP hD hS => ?_)
  clear k_3
  have hP : va_P D kl [(la, .inl (cI, 8, .inl fl)), (ir, .inl (cI, 320, .inl fi)), (h, .inr (4, [.ref la, .ref sq, .ref ir]))] H := hP
  have hD : va_D A [(la, .inl (cI, 8, .inl fl)), (ir, .inl (cI, 320, .inl fi)), (h, .inr (4, [.ref la, .ref sq, .ref ir]))] := hD
  have c3_0 := hw_3
  have c3_0 : r_3.toInt = v.toInt * 40 + i.toInt := c3_0
  refine lv_iload hx hb dX5_put_22 (lv_at hl 0 rfl) ?_
  refine va_iast hx hb hK hP hD hS 1 0 rfl rfl (zi_in (by omega) (by omega)) dX5_put_24 (fun H locs hP hD hS => ?_)
  have hP : va_P D kl [(la, .inl (cI, 8, .inl fl)), (ir, .inl (cI, 320, .inl (upd fi (r_3 : Int32).toNatClampNeg r_2))), (h, .inr (4, [.ref la, .ref sq, .ref ir]))] H := hP
  have hD : va_D A [(la, .inl (cI, 8, .inl fl)), (ir, .inl (cI, 320, .inl (upd fi (r_3 : Int32).toNatClampNeg r_2))), (h, .inr (4, [.ref la, .ref sq, .ref ir]))] := hD
  refine lv_iload hx hb dX5_put_25 (lv_at hl 0 rfl) ?_
  exact wr_i (v := r_2) hx hb hr hlocks hS (upd fi (r_3 : Int32).toNatClampNeg r_2) (by exact (show r_2.toInt = (cutl (fl v.toNatClampNeg) x).toInt from by rw [← ex_1]; exact c2_0)) (hP.sub [2, 0, 1] rfl) (hD.sub [2, 0, 1] (by decide) rfl) dX5_put_27
