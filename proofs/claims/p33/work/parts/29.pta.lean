/-! kinds are from 1 to 5; what the static rows hold -/
def ZV (z : ZT) : Prop := z.2.2.2.2.1 = (fun j => [(-1 : Int32), (0 : Int32), (1 : Int32), (1 : Int32), (0 : Int32), (4 : Int32)].getD j 0) ∧ z.2.2.2.2.2.1 = (fun j => [(10 : Int32), (11 : Int32), (12 : Int32), (0 : Int32), (13 : Int32), (14 : Int32)].getD j 0) ∧ z.2.2.2.2.2.2 = (fun j => [(20 : Int32), (21 : Int32), (24 : Int32), (22 : Int32), (23 : Int32), (0 : Int32)].getD j 0)
def KK (K : TPK) : Prop := ∀ j : Nat, (j : Int) < K.2.1 → 1 ≤ (K.2.2 j).toInt ∧ (K.2.2 j).toInt ≤ 5
def KKI (f : Nat → Int32) : Prop := ∀ a : Int, 0 ≤ a → a ≤ 2 → KK (kr f a)
theorem KKI.ks {f g : Nat → Int32} (h : KKI f) (hs : KS f g) : KKI g := fun a h0 h1 => by rw [hs a h0 h1]; exact h a h0 h1
theorem KKI.img {k v r : Int} {f g : Nat → Int32} (h : KKI f) (h2 : IMR k v r f g) : KKI g := by
  rcases h2 with ⟨_, _, _, d⟩ | ⟨_, _, d⟩ | ⟨_, _, _, d⟩
  · intro a h0 h1
    by_cases c : a = 0
    · rw [c, d.1]; exact h 0 (by decide) (by decide)
    · have e := d.2 (a - 1).toNat (by omega)
      rw [show 1 + (((a - 1).toNat : Nat) : Int) = a by omega] at e
      rw [e]
      split
      · exact h 0 (by decide) (by decide)
      · exact h a h0 h1
  · rw [d]; exact h
  · rw [d]; exact h
theorem KKI.rst {k r na na' v0 : Int} {f g : Nat → Int32} (h : KKI f) (hs : SI f v0) (h2 : RSR k r f g na na') : KKI g := by
  rcases h2 with ⟨a2, _, _, e, d, _⟩ | ⟨_, _, d, _⟩ | ⟨_, _, _, d, _⟩
  · intro a h0 h1
    by_cases c : a = 0
    · rw [c, e]; exact h (k + 1) (by omega) (by omega)
    · rw [kr_frm hs d (a := a) (by omega) (by omega)]; exact h a h0 h1
  · rw [d]; exact h
  · rw [d]; exact h
theorem KKI.land {ok na na' : Int} {T : TPK} {f g : Nat → Int32} (h : KKI f) (h2 : LDR ok T f g na na') (hT : KK T) : KKI g := by
  intro a h0 h1
  by_cases c : a = 0
  · rw [c]
    rcases h2.2.2 with ⟨_, e⟩ | ⟨_, e⟩
    · rw [e]; exact hT
    · rw [e]; exact h 0 (by decide) (by decide)
  · rw [h2.1 a (by omega) h1]; exact h a h0 h1
theorem KKI.start : KKI (fun _ => 0) := by
  intro a _ _ j hj
  exact absurd (show (j : Int) < (0 : Int32).toInt from hj) (by have e : (0 : Int32).toInt = 0 := (by decide); omega)
theorem KINV.kk {v w ns kp na : Int} {fk f : Nat → Int32} {rf mf : Nat → Option Nat} {Bs : List PT} (h : KINV v w fk rf ns kp Bs mf f na) (hk : KKI f) : ∀ j : Nat, (j : Int) < w → 1 ≤ (fk j).toInt ∧ (fk j).toInt ≤ 5 := by
  intro j hj
  have e : trk w fk j = (kr f 0).2.2 j := congrFun (congrArg (fun K : TPK => K.2.2) h.1) j
  rw [trk_at hj] at e
  rw [e]
  exact hk 0 (by decide) (by decide) j (by rw [kr_w, ← h.w]; exact hj)
/-! of a text that is told -/
def PKK (s : TPT) : Prop := 0 ≤ s.2.2.2.1 ∧ ∀ j : Nat, (j : Int) < s.2.2.2.1 → 1 ≤ (s.2.2.2.2.2 j).toInt ∧ (s.2.2.2.2.2 j).toInt ≤ 5
theorem PKK.same {s t : TPT} (h : PKK s) (h1 : t.2.2.2.1 = s.2.2.2.1) (h2 : t.2.2.2.2.2 = s.2.2.2.2.2) : PKK t := by
  unfold PKK
  rw [h1, h2]
  exact h
theorem PKK.V {B : Int → Int} {s : TPT} (h : PKK s) : PKK (tpV B s) := by
  by_cases c : (tpVt B s.1 s.2.1).1 = 0
  · exact h.same (by unfold tpV; rw [if_pos c]) (by unfold tpV; rw [if_pos c])
  · exact h.same (by unfold tpV; rw [if_neg c]) (by unfold tpV; rw [if_neg c])
theorem PKK.R {B : Int → Int} {s : TPT} (h : PKK s) : PKK (tpR B s) := by
  by_cases c : (tpRx B s.1 s.2.1 s.2.2.1 s.2.2.2.2.1).1 = 0
  · exact h.same (by unfold tpR; rw [if_pos c]) (by unfold tpR; rw [if_pos c])
  · exact h.same (by unfold tpR; rw [if_neg c]) (by unfold tpR; rw [if_neg c])
theorem tpo_in {x : Int} (h : ¬ tpo x = 0) : 1 ≤ (Int32.ofInt (tpo x)).toInt ∧ (Int32.ofInt (tpo x)).toInt ≤ 5 := by
  rcases tpo_c x with ⟨_, e⟩ | ⟨_, e⟩ | ⟨_, e⟩ | ⟨_, e⟩ | ⟨_, e⟩ | ⟨_, e⟩
  · rw [e]; decide
  · rw [e]; decide
  · rw [e]; decide
  · rw [e]; decide
  · rw [e]; decide
  · exact absurd e h
theorem PKK.W {B : Int → Int} {s : TPT} (hc : bW B s = true) (h : PKK s) : PKK (tpW B s) := by
  have h1 := of_decide_eq_true hc
  have h2 := tpo_in h1.2
  have h3 := h.1
  unfold PKK tpW
  by_cases c : (tpWt B s.1 s.2.1 s.2.2.2.1).1 = 0
  · rw [if_pos c]
    refine ⟨show 0 ≤ s.2.2.2.1 + 1 by omega, fun j hj => ?_⟩
    have hj : (j : Int) < s.2.2.2.1 + 1 := hj
    show 1 ≤ (upd s.2.2.2.2.2 s.2.2.2.1.toNat (Int32.ofInt (tpo (B s.1.2.2.2))) j).toInt ∧ (upd s.2.2.2.2.2 s.2.2.2.1.toNat (Int32.ofInt (tpo (B s.1.2.2.2))) j).toInt ≤ 5
    by_cases e : j = s.2.2.2.1.toNat
    · rw [e, pk_us]; exact h2
    · rw [pk_un e]; exact h.2 j (by omega)
  · rw [if_neg c]; exact h
theorem tlp_inv {S : Type} {c : S → Bool} {f : S → S} {I : S → Prop} (h : ∀ s, c s = true → I s → I (f s)) : ∀ (n : Nat) (s : S), I s → I (tlp c f n s) := by
  intro n
  induction n with
  | zero => intro s hs; exact hs
  | succ n ih =>
    intro s hs
    cases hc : c s with
    | false => rw [tlp_n hc]; exact hs
    | true => rw [tlp_y hc]; exact ih (f s) (h s hc hs)
theorem PKK.A {B : Int → Int} {L x y : Int} : PKK (tpA B L x y) := by
  have h0 : PKK (tpLaw B (0, x, y, 0), (0, 0, 0, (fun _ => 0), (fun _ => 0))) := ⟨Int.le_refl _, fun j hj => absurd (show (j : Int) < 0 from hj) (by omega)⟩
  have h1 : PKK (tpC B (tpLaw B (0, x, y, 0), (0, 0, 0, (fun _ => 0), (fun _ => 0)))) := h0.same rfl rfl
  have h2 := tlp_inv (c := bV B) (f := tpV B) (I := PKK) (fun s _ hs => hs.V) 120 _ h1
  have h3 := tlp_inv (c := bR B) (f := tpR B) (I := PKK) (fun s _ hs => hs.R) 120 _ h2
  have h4 := tlp_inv (c := bW B) (f := tpW B) (I := PKK) (fun s hc hs => hs.W hc) 120 _ h3
  exact h4.same rfl rfl
theorem KK.A {B : Int → Int} {L x y : Int} : KK (kof (tpA B L x y).2) := fun j hj => (PKK.A (B := B) (L := L) (x := x) (y := y)).2 j hj
set_option maxHeartbeats 4000000 in
set_option maxRecDepth 100000 in
theorem s_X7_found (l : Launch) (D : va_G) (cI cB cQ : ClassId) (sz : Nat) (h : Nat) (rw : Nat) (tp : Nat) (nw : Nat) (ac : Nat) (im : Nat) (fo : Nat) (ak : Nat) (fg : Int32) (n : Int32) : mi l yX7_found wsX7_found ({ frames := 0, cells := 0, slots := 0, locals := 0 }) D cI cB cQ [.ref h, .int n] sz [(h, .inr (6, [.ref rw, .ref tp, .ref nw, .ref ac, .ref im, .ref fo, .ref ak, .int fg]))] (fun (r : Int32) (u : Int32) => (r = (-1000010) - n) ∧ (u.toInt = n.toInt)) (fun u => [(h, .inr (6, [.ref rw, .ref tp, .ref nw, .ref ac, .ref im, .ref fo, .ref ak, .int u]))]) 0 0 := by
  refine wm_i (cc := cX7_found) (maxL := 2) (ret := (some .int)) (by decide) rfl (Nat.le_of_ble_eq_true rfl) ?_
  intro p e s m below meth c A ls hx hb hr hml hown hts hlocks hin hP hK hD hN hA hl hS
  have hown : s.vm.findClass RX7 = some m.cls := hown
  have hl : lv_has ls 2 [(0, .ref h), (1, .int n)] := hl
  change W p l e ({ frames := 0, cells := 0, slots := 0, locals := 0 }) s m ([.ref h, .int n] : List Value).toArray below meth c s.heap [] 0 0 (MQ below (va_Qi (fun (r : Int32) (u : Int32) => (r = (-1000010) - n) ∧ (u.toInt = n.toInt)) (fun u t => wb D A ((fun u => [(h, .inr (6, [.ref rw, .ref tp, .ref nw, .ref ac, .ref im, .ref fo, .ref ak, .int u]))]) u) t) A) ([.ref h, .int n] : List Value).toArray s 0 0 A) (F0 m 0 ls [])
  refine lv_aload_n hx hb dX7_found_0 rfl (lv_at hl 0 rfl) ?_
  refine lv_iload_n hx hb dX7_found_1 rfl (lv_at hl 1 rfl) ?_
  refine va_put (D := D) (ci := 6) (v := .int n) (ty := .int) (C := RX7) (T := TX7) (N := 8) hx hb hts (fun _ h => List.mem_cons_of_mem _ (List.mem_append_right _ h)) tyX7 tyX7_ok nmX7 hown hK hP hD hS 0 rfl rfl 7 (by decide) (hts (.fieldLink RX7 57 "WinterWalk" "finding" "I") (List.mem_of_getElem? (i := 1) rfl)) (fun _ h9 => h9) rfl (by decide +kernel) rfl rfl (Nat.le_of_ble_eq_true rfl) dX7_found_2 (fun H locs hP hD hS => ?_)
  have hP : va_P D kl [(h, .inr (6, [.ref rw, .ref tp, .ref nw, .ref ac, .ref im, .ref fo, .ref ak, .int n]))] H := hP
  have hD : va_D A [(h, .inr (6, [.ref rw, .ref tp, .ref nw, .ref ac, .ref im, .ref fo, .ref ak, .int n]))] := hD
  refine lv_ldcw (v := (-1000010)) hx hb hown (hts (.constant RX7 305 (-1000010)) (List.mem_of_getElem? (i := 2) rfl)) dX7_found_5 ?_
  refine lv_iload_n hx hb dX7_found_8 rfl (lv_at hl 1 rfl) ?_
  refine lv_isub hx hb dX7_found_9 ?_
  refine lv_topi (fun x_1 ex_1 => ?_)
  exact wr_i (v := x_1) hx hb hr hlocks hS n (by exact ⟨ex_1, show n.toInt = n.toInt from by omega⟩) (hP.sub [0] rfl) (hD.sub [0] (by decide) rfl) dX7_found_10
set_option maxHeartbeats 4000000 in
set_option maxRecDepth 100000 in
theorem s_X7_foundNothing (l : Launch) (D : va_G) (cI cB cQ : ClassId) (sz : Nat) (h : Nat) (rw : Nat) (tp : Nat) (nw : Nat) (ac : Nat) (im : Nat) (fo : Nat) (ak : Nat) (fg : Int32) (n : Int32) : mi l yX7_foundNothing wsX7_foundNothing ({ frames := 0, cells := 0, slots := 0, locals := 0 }) D cI cB cQ [.ref h, .int n] sz [(h, .inr (6, [.ref rw, .ref tp, .ref nw, .ref ac, .ref im, .ref fo, .ref ak, .int fg]))] (fun (r : Int32) (u : Int32) => (r = n) ∧ (u.toInt = 0)) (fun u => [(h, .inr (6, [.ref rw, .ref tp, .ref nw, .ref ac, .ref im, .ref fo, .ref ak, .int u]))]) 0 0 := by
  refine wm_i (cc := cX7_foundNothing) (maxL := 2) (ret := (some .int)) (by decide) rfl (Nat.le_of_ble_eq_true rfl) ?_
  intro p e s m below meth c A ls hx hb hr hml hown hts hlocks hin hP hK hD hN hA hl hS
  have hown : s.vm.findClass RX7 = some m.cls := hown
  have hl : lv_has ls 2 [(0, .ref h), (1, .int n)] := hl
  change W p l e ({ frames := 0, cells := 0, slots := 0, locals := 0 }) s m ([.ref h, .int n] : List Value).toArray below meth c s.heap [] 0 0 (MQ below (va_Qi (fun (r : Int32) (u : Int32) => (r = n) ∧ (u.toInt = 0)) (fun u t => wb D A ((fun u => [(h, .inr (6, [.ref rw, .ref tp, .ref nw, .ref ac, .ref im, .ref fo, .ref ak, .int u]))]) u) t) A) ([.ref h, .int n] : List Value).toArray s 0 0 A) (F0 m 0 ls [])
  refine lv_aload_n hx hb dX7_foundNothing_0 rfl (lv_at hl 0 rfl) ?_
  refine lv_iconst (v := 0) hx hb dX7_foundNothing_1 (by decide) ?_
  refine va_put (D := D) (ci := 6) (v := .int 0) (ty := .int) (C := RX7) (T := TX7) (N := 8) hx hb hts (fun _ h => List.mem_cons_of_mem _ (List.mem_append_right _ h)) tyX7 tyX7_ok nmX7 hown hK hP hD hS 0 rfl rfl 7 (by decide) (hts (.fieldLink RX7 57 "WinterWalk" "finding" "I") (List.mem_of_getElem? (i := 1) rfl)) (fun _ h9 => h9) rfl (by decide +kernel) rfl rfl (Nat.le_of_ble_eq_true rfl) dX7_foundNothing_2 (fun H locs hP hD hS => ?_)
  have hP : va_P D kl [(h, .inr (6, [.ref rw, .ref tp, .ref nw, .ref ac, .ref im, .ref fo, .ref ak, .int 0]))] H := hP
  have hD : va_D A [(h, .inr (6, [.ref rw, .ref tp, .ref nw, .ref ac, .ref im, .ref fo, .ref ak, .int 0]))] := hD
  refine lv_iload_n hx hb dX7_foundNothing_5 rfl (lv_at hl 1 rfl) ?_
  exact wr_i (v := n) hx hb hr hlocks hS 0 (by exact ⟨rfl, show 0 = 0 from by omega⟩) (hP.sub [0] rfl) (hD.sub [0] (by decide) rfl) dX7_foundNothing_6
set_option maxHeartbeats 4000000 in
set_option maxRecDepth 100000 in
theorem s_X8_finds (l : Launch) (D : va_G) (cI cB cQ : ClassId) (sz : Nat) (h : Nat) (sl : Nat) (zs : Nat) (ln : Nat) (ir : Nat) (tk : Nat) (tb : Nat) (tr : Nat) (fz : Nat) (na : Int32) (su : Int32) (le : Int32) (fu : Int32) (ap : Int32) (pp : Int32) (tc : Int32) (nm : Int32) (n : Int32) : mi l yX8_finds wsX8_finds ({ frames := 0, cells := 0, slots := 0, locals := 0 }) D cI cB cQ [.ref h, .int n] sz [(h, .inr (7, [.ref sl, .int na, .ref zs, .ref ln, .ref ir, .ref tk, .int su, .int le, .ref tb, .int fu, .int ap, .int pp, .ref tr, .int tc, .ref fz, .int nm]))] (fun (r : Int32) (u : Int32) => (r = (-1000010) - n) ∧ (u.toInt = n.toInt)) (fun u => [(h, .inr (7, [.ref sl, .int na, .ref zs, .ref ln, .ref ir, .ref tk, .int u, .int le, .ref tb, .int fu, .int ap, .int pp, .ref tr, .int tc, .ref fz, .int nm]))]) 0 0 := by
  refine wm_i (cc := cX8_finds) (maxL := 2) (ret := (some .int)) (by decide) rfl (Nat.le_of_ble_eq_true rfl) ?_
  intro p e s m below meth c A ls hx hb hr hml hown hts hlocks hin hP hK hD hN hA hl hS
  have hown : s.vm.findClass RX8 = some m.cls := hown
  have hl : lv_has ls 2 [(0, .ref h), (1, .int n)] := hl
  change W p l e ({ frames := 0, cells := 0, slots := 0, locals := 0 }) s m ([.ref h, .int n] : List Value).toArray below meth c s.heap [] 0 0 (MQ below (va_Qi (fun (r : Int32) (u : Int32) => (r = (-1000010) - n) ∧ (u.toInt = n.toInt)) (fun u t => wb D A ((fun u => [(h, .inr (7, [.ref sl, .int na, .ref zs, .ref ln, .ref ir, .ref tk, .int u, .int le, .ref tb, .int fu, .int ap, .int pp, .ref tr, .int tc, .ref fz, .int nm]))]) u) t) A) ([.ref h, .int n] : List Value).toArray s 0 0 A) (F0 m 0 ls [])
  refine lv_aload_n hx hb dX8_finds_0 rfl (lv_at hl 0 rfl) ?_
  refine lv_iload_n hx hb dX8_finds_1 rfl (lv_at hl 1 rfl) ?_
  refine va_put (D := D) (ci := 7) (v := .int n) (ty := .int) (C := RX8) (T := TX8) (N := 16) hx hb hts (fun _ h => List.mem_cons_of_mem _ (List.mem_append_right _ h)) tyX8 tyX8_ok nmX8 hown hK hP hD hS 0 rfl rfl 6 (by decide) (hts (.fieldLink RX8 35 "WinterWalkModel" "status" "I") (List.mem_of_getElem? (i := 1) rfl)) (fun _ h9 => h9) rfl (by decide +kernel) rfl rfl (Nat.le_of_ble_eq_true rfl) dX8_finds_2 (fun H locs hP hD hS => ?_)
  have hP : va_P D kl [(h, .inr (7, [.ref sl, .int na, .ref zs, .ref ln, .ref ir, .ref tk, .int n, .int le, .ref tb, .int fu, .int ap, .int pp, .ref tr, .int tc, .ref fz, .int nm]))] H := hP
  have hD : va_D A [(h, .inr (7, [.ref sl, .int na, .ref zs, .ref ln, .ref ir, .ref tk, .int n, .int le, .ref tb, .int fu, .int ap, .int pp, .ref tr, .int tc, .ref fz, .int nm]))] := hD
  refine lv_ldc (v := (-1000010)) hx hb hown (hts (.constant RX8 39 (-1000010)) (List.mem_of_getElem? (i := 2) rfl)) dX8_finds_5 ?_
  refine lv_iload_n hx hb dX8_finds_7 rfl (lv_at hl 1 rfl) ?_
  refine lv_isub hx hb dX8_finds_8 ?_
  refine lv_topi (fun x_1 ex_1 => ?_)
  exact wr_i (v := x_1) hx hb hr hlocks hS n (by exact ⟨ex_1, show n.toInt = n.toInt from by omega⟩) (hP.sub [0] rfl) (hD.sub [0] (by decide) rfl) dX8_finds_9
set_option maxHeartbeats 4000000 in
set_option maxRecDepth 100000 in
theorem s_X8_told (l : Launch) (D : va_G) (cI cB cQ : ClassId) (sz : Nat) (h : Nat) (sl : Nat) (zs : Nat) (ln : Nat) (ir : Nat) (tk : Nat) (tb : Nat) (tr : Nat) (fz : Nat) (na : Int32) (su : Int32) (le : Int32) (fu : Int32) (ap : Int32) (pp : Int32) (tc : Int32) (nm : Int32) (n : Int32) : mi l yX8_told wsX8_told ({ frames := 0, cells := 0, slots := 0, locals := 0 }) D cI cB cQ [.ref h, .int n] sz [(h, .inr (7, [.ref sl, .int na, .ref zs, .ref ln, .ref ir, .ref tk, .int su, .int le, .ref tb, .int fu, .int ap, .int pp, .ref tr, .int tc, .ref fz, .int nm]))] (fun (r : Int32) (u : Int32) => (r = n) ∧ (u.toInt = 0)) (fun u => [(h, .inr (7, [.ref sl, .int na, .ref zs, .ref ln, .ref ir, .ref tk, .int u, .int le, .ref tb, .int fu, .int ap, .int pp, .ref tr, .int tc, .ref fz, .int nm]))]) 0 0 := by
  refine wm_i (cc := cX8_told) (maxL := 2) (ret := (some .int)) (by decide) rfl (Nat.le_of_ble_eq_true rfl) ?_
  intro p e s m below meth c A ls hx hb hr hml hown hts hlocks hin hP hK hD hN hA hl hS
  have hown : s.vm.findClass RX8 = some m.cls := hown
  have hl : lv_has ls 2 [(0, .ref h), (1, .int n)] := hl
  change W p l e ({ frames := 0, cells := 0, slots := 0, locals := 0 }) s m ([.ref h, .int n] : List Value).toArray below meth c s.heap [] 0 0 (MQ below (va_Qi (fun (r : Int32) (u : Int32) => (r = n) ∧ (u.toInt = 0)) (fun u t => wb D A ((fun u => [(h, .inr (7, [.ref sl, .int na, .ref zs, .ref ln, .ref ir, .ref tk, .int u, .int le, .ref tb, .int fu, .int ap, .int pp, .ref tr, .int tc, .ref fz, .int nm]))]) u) t) A) ([.ref h, .int n] : List Value).toArray s 0 0 A) (F0 m 0 ls [])
  refine lv_aload_n hx hb dX8_told_0 rfl (lv_at hl 0 rfl) ?_
  refine lv_iconst (v := 0) hx hb dX8_told_1 (by decide) ?_
  refine va_put (D := D) (ci := 7) (v := .int 0) (ty := .int) (C := RX8) (T := TX8) (N := 16) hx hb hts (fun _ h => List.mem_cons_of_mem _ (List.mem_append_right _ h)) tyX8 tyX8_ok nmX8 hown hK hP hD hS 0 rfl rfl 6 (by decide) (hts (.fieldLink RX8 35 "WinterWalkModel" "status" "I") (List.mem_of_getElem? (i := 1) rfl)) (fun _ h9 => h9) rfl (by decide +kernel) rfl rfl (Nat.le_of_ble_eq_true rfl) dX8_told_2 (fun H locs hP hD hS => ?_)
  have hP : va_P D kl [(h, .inr (7, [.ref sl, .int na, .ref zs, .ref ln, .ref ir, .ref tk, .int 0, .int le, .ref tb, .int fu, .int ap, .int pp, .ref tr, .int tc, .ref fz, .int nm]))] H := hP
  have hD : va_D A [(h, .inr (7, [.ref sl, .int na, .ref zs, .ref ln, .ref ir, .ref tk, .int 0, .int le, .ref tb, .int fu, .int ap, .int pp, .ref tr, .int tc, .ref fz, .int nm]))] := hD
  refine lv_iload_n hx hb dX8_told_5 rfl (lv_at hl 1 rfl) ?_
  exact wr_i (v := n) hx hb hr hlocks hS 0 (by exact ⟨rfl, show 0 = 0 from by omega⟩) (hP.sub [0] rfl) (hD.sub [0] (by decide) rfl) dX8_told_6
set_option maxHeartbeats 4000000 in
set_option maxRecDepth 100000 in
theorem s_X7_row (l : Launch) (D : va_G) (cI cB cQ : ClassId) (sz : Nat) (h : Nat) (rw : Nat) (tp : Nat) (nw : Nat) (ac : Nat) (im : Nat) (fo : Nat) (ak : Nat) (la : Nat) (sq : Nat) (ir : Nat) (fg : Int32) (a : Int32) (b : Int32) (n : Int32) (fl : Nat → Int32) (fs : Nat → Int32) (fi : Nat → Int32) (hs : ∀ j, j < 8 → 0 ≤ (fs j).toInt ∧ (fs j).toInt ≤ 40) : mi l yX7_row wsX7_row ({ frames := 3, cells := 0, slots := 0, locals := 69 }) D cI cB cQ [.ref h, .int a, .int b, .int n] sz [(h, .inr (6, [.ref rw, .ref tp, .ref nw, .ref ac, .ref im, .ref fo, .ref ak, .int fg])), (rw, .inr (4, [.ref la, .ref sq, .ref ir])), (la, .inl (cI, 8, .inl fl)), (sq, .inl (cI, 8, .inl fs)), (ir, .inl (cI, 320, .inl fi))] (fun (r : Int32) (u : Int32 × (Nat → Int32) × (Nat → Int32) × (Nat → Int32)) => ((((0 ≤ a.toInt ∧ a.toInt ≤ 7) ∧ (0 ≤ b.toInt ∧ b.toInt ≤ 2) ∧ 0 ≤ n.toInt ∧ n.toInt ≤ 40) ∧ r.toInt = n.toInt ∧ u.1.toInt = 0) ∨ (((0 ≤ a.toInt ∧ a.toInt ≤ 7) ∧ (0 ≤ b.toInt ∧ b.toInt ≤ 2) ∧ n.toInt < 0) ∧ r.toInt = (-1000014) ∧ u.1.toInt = 4) ∨ (¬ ((0 ≤ a.toInt ∧ a.toInt ≤ 7) ∧ (0 ≤ b.toInt ∧ b.toInt ≤ 2) ∧ n.toInt ≤ 40) ∧ r.toInt = (-1000001) ∧ u.1.toInt = fg.toInt)) ∧ (∀ j, j < 8 → 0 ≤ (u.2.2.1 j).toInt ∧ (u.2.2.1 j).toInt ≤ 40) ∧ (u.2.1 = rr_up ((0 ≤ a.toInt ∧ a.toInt ≤ 7) ∧ (0 ≤ b.toInt ∧ b.toInt ≤ 2) ∧ 0 ≤ n.toInt ∧ n.toInt ≤ 40) fl a b) ∧ (u.2.2.1 = rr_up ((0 ≤ a.toInt ∧ a.toInt ≤ 7) ∧ (0 ≤ b.toInt ∧ b.toInt ≤ 2) ∧ 0 ≤ n.toInt ∧ n.toInt ≤ 40) fs a n)) (fun u => [(h, .inr (6, [.ref rw, .ref tp, .ref nw, .ref ac, .ref im, .ref fo, .ref ak, .int u.1])), (rw, .inr (4, [.ref la, .ref sq, .ref ir])), (la, .inl (cI, 8, .inl u.2.1)), (sq, .inl (cI, 8, .inl u.2.2.1)), (ir, .inl (cI, 320, .inl u.2.2.2))]) 0 0 := by
  refine wm_i (cc := cX7_row) (maxL := 4) (ret := (some .int)) (by decide) rfl (Nat.le_of_ble_eq_true rfl) ?_
  intro p e s m below meth c A ls hx hb hr hml hown hts hlocks hin hP hK hD hN hA hl hS
  have hown : s.vm.findClass RX7 = some m.cls := hown
  have hl : lv_has ls 4 [(0, .ref h), (1, .int a), (2, .int b), (3, .int n)] := hl
  change W p l e ({ frames := 3, cells := 0, slots := 0, locals := 69 }) s m ([.ref h, .int a, .int b, .int n] : List Value).toArray below meth c s.heap [] 0 0 (MQ below (va_Qi (fun (r : Int32) (u : Int32 × (Nat → Int32) × (Nat → Int32) × (Nat → Int32)) => ((((0 ≤ a.toInt ∧ a.toInt ≤ 7) ∧ (0 ≤ b.toInt ∧ b.toInt ≤ 2) ∧ 0 ≤ n.toInt ∧ n.toInt ≤ 40) ∧ r.toInt = n.toInt ∧ u.1.toInt = 0) ∨ (((0 ≤ a.toInt ∧ a.toInt ≤ 7) ∧ (0 ≤ b.toInt ∧ b.toInt ≤ 2) ∧ n.toInt < 0) ∧ r.toInt = (-1000014) ∧ u.1.toInt = 4) ∨ (¬ ((0 ≤ a.toInt ∧ a.toInt ≤ 7) ∧ (0 ≤ b.toInt ∧ b.toInt ≤ 2) ∧ n.toInt ≤ 40) ∧ r.toInt = (-1000001) ∧ u.1.toInt = fg.toInt)) ∧ (∀ j, j < 8 → 0 ≤ (u.2.2.1 j).toInt ∧ (u.2.2.1 j).toInt ≤ 40) ∧ (u.2.1 = rr_up ((0 ≤ a.toInt ∧ a.toInt ≤ 7) ∧ (0 ≤ b.toInt ∧ b.toInt ≤ 2) ∧ 0 ≤ n.toInt ∧ n.toInt ≤ 40) fl a b) ∧ (u.2.2.1 = rr_up ((0 ≤ a.toInt ∧ a.toInt ≤ 7) ∧ (0 ≤ b.toInt ∧ b.toInt ≤ 2) ∧ 0 ≤ n.toInt ∧ n.toInt ≤ 40) fs a n)) (fun u t => wb D A ((fun u => [(h, .inr (6, [.ref rw, .ref tp, .ref nw, .ref ac, .ref im, .ref fo, .ref ak, .int u.1])), (rw, .inr (4, [.ref la, .ref sq, .ref ir])), (la, .inl (cI, 8, .inl u.2.1)), (sq, .inl (cI, 8, .inl u.2.2.1)), (ir, .inl (cI, 320, .inl u.2.2.2))]) u) t) A) ([.ref h, .int a, .int b, .int n] : List Value).toArray s 0 0 A) (F0 m 0 ls [])
  refine lv_iload_n hx hb dX7_row_0 rfl (lv_at hl 1 rfl) ?_
  have k_1 := (g_X5_isRow l D cI cB cQ s.heap.size a)
  refine wc_i (WC := []) (WR := [(h, .inr (6, [.ref rw, .ref tp, .ref nw, .ref ac, .ref im, .ref fo, .ref ak, .int fg])), (rw, .inr (4, [.ref la, .ref sq, .ref ir])), (la, .inl (cI, 8, .inl fl)), (sq, .inl (cI, 8, .inl fs)), (ir, .inl (cI, 320, .inl fi))]) (va_runS (As := [.int a]) (rest := []) ⟨hx, hb, hml, hown, hts⟩ k_1 (va_cwS 1 hts gX7_row_X5_isRow rfl rfl rfl (by decide +kernel) ⟨Nat.le_of_ble_eq_true rfl, Nat.le_of_ble_eq_true rfl⟩) (wp_S hP hK hD hN [] (by decide) rfl) rfl rfl hl.1 rfl (lv_room (Nat.le_of_ble_eq_true rfl)) dX7_row_1 ⟨Nat.le_of_ble_eq_true rfl, Nat.le_of_ble_eq_true rfl⟩) hP hD hS hA [] [0, 1, 2, 3, 4] rfl rfl (by decide) (by decide) (fun r_1 u_1 H locs hw_1 hP hD hS => ?_)
  clear k_1
  have hP : va_P D kl [(h, .inr (6, [.ref rw, .ref tp, .ref nw, .ref ac, .ref im, .ref fo, .ref ak, .int fg])), (rw, .inr (4, [.ref la, .ref sq, .ref ir])), (la, .inl (cI, 8, .inl fl)), (sq, .inl (cI, 8, .inl fs)), (ir, .inl (cI, 320, .inl fi))] H := hP
  have hD : va_D A [(h, .inr (6, [.ref rw, .ref tp, .ref nw, .ref ac, .ref im, .ref fo, .ref ak, .int fg])), (rw, .inr (4, [.ref la, .ref sq, .ref ir])), (la, .inl (cI, 8, .inl fl)), (sq, .inl (cI, 8, .inl fs)), (ir, .inl (cI, 320, .inl fi))] := hD
  have c1_0 := hw_1
  rcases c1_0 with ⟨e_1, f_1⟩ | ⟨e_1, f_1⟩
  · subst e_1
    have f_1 : 0 ≤ a.toInt ∧ a.toInt ≤ 7 := f_1
    refine lv_if_eq (tgt := 20) hx hb dX7_row_4 (by decide) (fun c9 => absurd c9 (by decide)) (fun _ => ?_)
    refine lv_iload_n hx hb dX7_row_7 rfl (lv_at hl 2 rfl) ?_
    have k_2 := (g_X5_isLane l D cI cB cQ H.size b)
    refine wc_i (WC := []) (WR := [(h, .inr (6, [.ref rw, .ref tp, .ref nw, .ref ac, .ref im, .ref fo, .ref ak, .int fg])), (rw, .inr (4, [.ref la, .ref sq, .ref ir])), (la, .inl (cI, 8, .inl fl)), (sq, .inl (cI, 8, .inl fs)), (ir, .inl (cI, 320, .inl fi))]) (va_runS (As := [.int b]) (rest := []) ⟨hx, hb, hml, hown, hts⟩ k_2 (va_cwS 1 hts gX7_row_X5_isLane rfl rfl rfl (by decide +kernel) ⟨Nat.le_of_ble_eq_true rfl, Nat.le_of_ble_eq_true rfl⟩) (wp_S hP hK hD hN [] (by decide) rfl) rfl rfl hl.1 rfl (lv_room (Nat.le_of_ble_eq_true rfl)) dX7_row_8 ⟨Nat.le_of_ble_eq_true rfl, Nat.le_of_ble_eq_true rfl⟩) hP hD hS hA [] [0, 1, 2, 3, 4] rfl rfl (by decide) (by decide) (fun r_2 u_2 H locs hw_2 hP hD hS => ?_)
    clear k_2
    have hP : va_P D kl [(h, .inr (6, [.ref rw, .ref tp, .ref nw, .ref ac, .ref im, .ref fo, .ref ak, .int fg])), (rw, .inr (4, [.ref la, .ref sq, .ref ir])), (la, .inl (cI, 8, .inl fl)), (sq, .inl (cI, 8, .inl fs)), (ir, .inl (cI, 320, .inl fi))] H := hP
    have hD : va_D A [(h, .inr (6, [.ref rw, .ref tp, .ref nw, .ref ac, .ref im, .ref fo, .ref ak, .int fg])), (rw, .inr (4, [.ref la, .ref sq, .ref ir])), (la, .inl (cI, 8, .inl fl)), (sq, .inl (cI, 8, .inl fs)), (ir, .inl (cI, 320, .inl fi))] := hD
    have c2_0 := hw_2
    rcases c2_0 with ⟨e_2, f_2⟩ | ⟨e_2, f_2⟩
    · subst e_2
      have f_2 : 0 ≤ b.toInt ∧ b.toInt ≤ 2 := f_2
      refine lv_if_eq (tgt := 20) hx hb dX7_row_11 (by decide) (fun c9 => absurd c9 (by decide)) (fun _ => ?_)
      refine lv_iload_n hx hb dX7_row_14 rfl (lv_at hl 3 rfl) ?_
      refine lv_bipush (v := 40) hx hb dX7_row_15 (by decide) ?_
      refine lv_icmp_le (tgt := 23) hx hb dX7_row_17 (by decide) (fun c_3 => ?_) (fun c_3 => ?_)
      · have f_3 : n.toInt ≤ 40 := zi_le c_3
        refine lv_iload_n hx hb dX7_row_23 rfl (lv_at hl 3 rfl) ?_
        refine lv_if_ge (tgt := 33) hx hb dX7_row_24 (by decide) (fun c_4 => ?_) (fun c_4 => ?_)
        · have f_4 : 0 ≤ n.toInt := zi_le c_4
          refine lv_aload_n hx hb dX7_row_33 rfl (lv_at hl 0 rfl) ?_
          refine va_get (D := D) (ci := 6) (v := .ref rw) (C := RX7) (T := TX7) (N := 8) hx hb hts (fun _ h => List.mem_cons_of_mem _ (List.mem_append_left _ (List.mem_append_right _ h))) hown hK hP 0 rfl rfl 0 (by decide) (hts (.fieldLink RX7 10 "WinterWalk" "rows" "LWinterWalk$Rows;") (List.mem_of_getElem? (i := 2) rfl)) (fun _ h9 => h9) rfl dX7_row_34 ?_
          refine lv_iload_n hx hb dX7_row_37 rfl (lv_at hl 1 rfl) ?_
          refine lv_iload_n hx hb dX7_row_38 rfl (lv_at hl 2 rfl) ?_
          refine lv_iload_n hx hb dX7_row_39 rfl (lv_at hl 3 rfl) ?_
          have k_5 := (e_X5_lay l D cI cB cQ H.size rw la sq ir a b n fl fs fi hs (by omega) (by omega))
          refine wc_v (WC := [(rw, .inr (4, [.ref la, .ref sq, .ref ir])), (la, .inl (cI, 8, .inl fl)), (sq, .inl (cI, 8, .inl fs)), (ir, .inl (cI, 320, .inl fi))]) (WR := [(h, .inr (6, [.ref rw, .ref tp, .ref nw, .ref ac, .ref im, .ref fo, .ref ak, .int fg]))]) (va_runV (As := [.int a, .int b, .int n]) (rest := []) ⟨hx, hb, hml, hown, hts⟩ k_5 (cwV 3 hts gX7_row_X5_lay rfl rfl rfl (by decide +kernel) ⟨Nat.le_of_ble_eq_true rfl, Nat.le_of_ble_eq_true rfl⟩) (wp_V hP hK hD hN [1, 2, 3, 4] (by decide) rfl (ci := 4) rfl rfl) rfl rfl hl.1 rfl (lv_room (Nat.le_of_ble_eq_true rfl)) dX7_row_40 ⟨Nat.le_of_ble_eq_true rfl, Nat.le_of_ble_eq_true rfl⟩) hP hD hS hA [1, 2, 3, 4] [0] rfl rfl (by decide) (by decide) (pe3 (fun v5_0 v5_1 v5_2 H locs hw_5 hP hD hS => ?_))
          clear k_5
          have hP : va_P D kl [(h, .inr (6, [.ref rw, .ref tp, .ref nw, .ref ac, .ref im, .ref fo, .ref ak, .int fg])), (rw, .inr (4, [.ref la, .ref sq, .ref ir])), (la, .inl (cI, 8, .inl v5_0)), (sq, .inl (cI, 8, .inl v5_1)), (ir, .inl (cI, 320, .inl v5_2))] H := hP
          have hD : va_D A [(h, .inr (6, [.ref rw, .ref tp, .ref nw, .ref ac, .ref im, .ref fo, .ref ak, .int fg])), (rw, .inr (4, [.ref la, .ref sq, .ref ir])), (la, .inl (cI, 8, .inl v5_0)), (sq, .inl (cI, 8, .inl v5_1)), (ir, .inl (cI, 320, .inl v5_2))] := hD
          obtain ⟨c5_0, c5_1, c5_2⟩ := hw_5
          have c5_0 : ∀ j, j < 8 → 0 ≤ (v5_1 j).toInt ∧ (v5_1 j).toInt ≤ 40 := c5_0
          subst c5_1
          subst c5_2
          refine lv_aload_n hx hb dX7_row_43 rfl (lv_at hl 0 rfl) ?_
          refine lv_iload_n hx hb dX7_row_44 rfl (lv_at hl 3 rfl) ?_
          have k_6 := (s_X7_foundNothing l D cI cB cQ H.size h rw tp nw ac im fo ak fg n)
          refine wc_i (WC := [(h, .inr (6, [.ref rw, .ref tp, .ref nw, .ref ac, .ref im, .ref fo, .ref ak, .int fg]))]) (WR := [(rw, .inr (4, [.ref la, .ref sq, .ref ir])), (la, .inl (cI, 8, .inl (upd fl a.toNatClampNeg b))), (sq, .inl (cI, 8, .inl (upd fs a.toNatClampNeg n))), (ir, .inl (cI, 320, .inl v5_2))]) (va_runV (As := [.int n]) (rest := []) ⟨hx, hb, hml, hown, hts⟩ k_6 (cwV 1 hts gX7_row_X7_foundNothing rfl rfl rfl (by decide +kernel) ⟨Nat.le_of_ble_eq_true rfl, Nat.le_of_ble_eq_true rfl⟩) (wp_V hP hK hD hN [0] (by decide) rfl (ci := 6) rfl rfl) rfl rfl hl.1 rfl (lv_room (Nat.le_of_ble_eq_true rfl)) dX7_row_45 ⟨Nat.le_of_ble_eq_true rfl, Nat.le_of_ble_eq_true rfl⟩) hP hD hS hA [0] [1, 2, 3, 4] rfl rfl (by decide) (by decide) (fun r_6 u_6 H locs hw_6 hP hD hS => ?_)
          clear k_6
          have hP : va_P D kl [(rw, .inr (4, [.ref la, .ref sq, .ref ir])), (la, .inl (cI, 8, .inl (upd fl a.toNatClampNeg b))), (sq, .inl (cI, 8, .inl (upd fs a.toNatClampNeg n))), (ir, .inl (cI, 320, .inl v5_2)), (h, .inr (6, [.ref rw, .ref tp, .ref nw, .ref ac, .ref im, .ref fo, .ref ak, .int u_6]))] H := hP
          have hD : va_D A [(rw, .inr (4, [.ref la, .ref sq, .ref ir])), (la, .inl (cI, 8, .inl (upd fl a.toNatClampNeg b))), (sq, .inl (cI, 8, .inl (upd fs a.toNatClampNeg n))), (ir, .inl (cI, 320, .inl v5_2)), (h, .inr (6, [.ref rw, .ref tp, .ref nw, .ref ac, .ref im, .ref fo, .ref ak, .int u_6]))] := hD
          obtain ⟨c6_0, c6_1⟩ := hw_6
          have c6_1 : u_6.toInt = 0 := c6_1
          rw [c6_0]
          exact wr_i (v := n) hx hb hr hlocks hS (u_6, (upd fl a.toNatClampNeg b), (upd fs a.toNatClampNeg n), v5_2) (by exact ⟨show (((0 ≤ a.toInt ∧ a.toInt ≤ 7) ∧ (0 ≤ b.toInt ∧ b.toInt ≤ 2) ∧ 0 ≤ n.toInt ∧ n.toInt ≤ 40) ∧ n.toInt = n.toInt ∧ u_6.toInt = 0) ∨ (((0 ≤ a.toInt ∧ a.toInt ≤ 7) ∧ (0 ≤ b.toInt ∧ b.toInt ≤ 2) ∧ n.toInt < 0) ∧ n.toInt = (-1000014) ∧ u_6.toInt = 4) ∨ (¬ ((0 ≤ a.toInt ∧ a.toInt ≤ 7) ∧ (0 ≤ b.toInt ∧ b.toInt ≤ 2) ∧ n.toInt ≤ 40) ∧ n.toInt = (-1000001) ∧ u_6.toInt = fg.toInt) from by omega, c5_0, (rr_pos (show (0 ≤ a.toInt ∧ a.toInt ≤ 7) ∧ (0 ≤ b.toInt ∧ b.toInt ≤ 2) ∧ 0 ≤ n.toInt ∧ n.toInt ≤ 40 from by omega)).symm, (rr_pos (show (0 ≤ a.toInt ∧ a.toInt ≤ 7) ∧ (0 ≤ b.toInt ∧ b.toInt ≤ 2) ∧ 0 ≤ n.toInt ∧ n.toInt ≤ 40 from by omega)).symm⟩) (hP.sub [4, 0, 1, 2, 3] rfl) (hD.sub [4, 0, 1, 2, 3] (by decide) rfl) dX7_row_48
        · have f_4 : ¬ 0 ≤ n.toInt := zi_nle c_4
          refine lv_aload_n hx hb dX7_row_27 rfl (lv_at hl 0 rfl) ?_
          refine lv_iconst (v := 4) hx hb dX7_row_28 (by decide) ?_
          have k_7 := (s_X7_found l D cI cB cQ H.size h rw tp nw ac im fo ak fg 4)
          refine wc_i (WC := [(h, .inr (6, [.ref rw, .ref tp, .ref nw, .ref ac, .ref im, .ref fo, .ref ak, .int fg]))]) (WR := [(rw, .inr (4, [.ref la, .ref sq, .ref ir])), (la, .inl (cI, 8, .inl fl)), (sq, .inl (cI, 8, .inl fs)), (ir, .inl (cI, 320, .inl fi))]) (va_runV (As := [.int 4]) (rest := []) ⟨hx, hb, hml, hown, hts⟩ k_7 (cwV 1 hts gX7_row_X7_found rfl rfl rfl (by decide +kernel) ⟨Nat.le_of_ble_eq_true rfl, Nat.le_of_ble_eq_true rfl⟩) (wp_V hP hK hD hN [0] (by decide) rfl (ci := 6) rfl rfl) rfl rfl hl.1 rfl (lv_room (Nat.le_of_ble_eq_true rfl)) dX7_row_29 ⟨Nat.le_of_ble_eq_true rfl, Nat.le_of_ble_eq_true rfl⟩) hP hD hS hA [0] [1, 2, 3, 4] rfl rfl (by decide) (by decide) (fun r_7 u_7 H locs hw_7 hP hD hS => ?_)
          clear k_7
          have hP : va_P D kl [(rw, .inr (4, [.ref la, .ref sq, .ref ir])), (la, .inl (cI, 8, .inl fl)), (sq, .inl (cI, 8, .inl fs)), (ir, .inl (cI, 320, .inl fi)), (h, .inr (6, [.ref rw, .ref tp, .ref nw, .ref ac, .ref im, .ref fo, .ref ak, .int u_7]))] H := hP
          have hD : va_D A [(rw, .inr (4, [.ref la, .ref sq, .ref ir])), (la, .inl (cI, 8, .inl fl)), (sq, .inl (cI, 8, .inl fs)), (ir, .inl (cI, 320, .inl fi)), (h, .inr (6, [.ref rw, .ref tp, .ref nw, .ref ac, .ref im, .ref fo, .ref ak, .int u_7]))] := hD
          obtain ⟨c7_0, c7_1⟩ := hw_7
          have c7_1 : u_7.toInt = (4 : Int) := c7_1
          obtain rfl : r_7 = (-1000014) := by first | exact c7_0 | exact c7_0.trans (by decide)
          exact wr_i (v := (-1000014)) hx hb hr hlocks hS (u_7, fl, fs, fi) (by exact ⟨show (((0 ≤ a.toInt ∧ a.toInt ≤ 7) ∧ (0 ≤ b.toInt ∧ b.toInt ≤ 2) ∧ 0 ≤ n.toInt ∧ n.toInt ≤ 40) ∧ (-1000014) = n.toInt ∧ u_7.toInt = 0) ∨ (((0 ≤ a.toInt ∧ a.toInt ≤ 7) ∧ (0 ≤ b.toInt ∧ b.toInt ≤ 2) ∧ n.toInt < 0) ∧ (-1000014) = (-1000014) ∧ u_7.toInt = 4) ∨ (¬ ((0 ≤ a.toInt ∧ a.toInt ≤ 7) ∧ (0 ≤ b.toInt ∧ b.toInt ≤ 2) ∧ n.toInt ≤ 40) ∧ (-1000014) = (-1000001) ∧ u_7.toInt = fg.toInt) from by omega, hs, (rr_neg (show ¬ ((0 ≤ a.toInt ∧ a.toInt ≤ 7) ∧ (0 ≤ b.toInt ∧ b.toInt ≤ 2) ∧ 0 ≤ n.toInt ∧ n.toInt ≤ 40) from by omega)).symm, (rr_neg (show ¬ ((0 ≤ a.toInt ∧ a.toInt ≤ 7) ∧ (0 ≤ b.toInt ∧ b.toInt ≤ 2) ∧ 0 ≤ n.toInt ∧ n.toInt ≤ 40) from by omega)).symm⟩) (hP.sub [4, 0, 1, 2, 3] rfl) (hD.sub [4, 0, 1, 2, 3] (by decide) rfl) dX7_row_32
      · have f_3 : ¬ n.toInt ≤ 40 := zi_nle c_3
        refine lv_ldc (v := (-1000001)) hx hb hown (hts (.constant RX7 68 (-1000001)) (List.mem_of_getElem? (i := 1) rfl)) dX7_row_20 ?_
        exact wr_i (v := (-1000001)) hx hb hr hlocks hS (fg, fl, fs, fi) (by exact ⟨show (((0 ≤ a.toInt ∧ a.toInt ≤ 7) ∧ (0 ≤ b.toInt ∧ b.toInt ≤ 2) ∧ 0 ≤ n.toInt ∧ n.toInt ≤ 40) ∧ (-1000001) = n.toInt ∧ fg.toInt = 0) ∨ (((0 ≤ a.toInt ∧ a.toInt ≤ 7) ∧ (0 ≤ b.toInt ∧ b.toInt ≤ 2) ∧ n.toInt < 0) ∧ (-1000001) = (-1000014) ∧ fg.toInt = 4) ∨ (¬ ((0 ≤ a.toInt ∧ a.toInt ≤ 7) ∧ (0 ≤ b.toInt ∧ b.toInt ≤ 2) ∧ n.toInt ≤ 40) ∧ (-1000001) = (-1000001) ∧ fg.toInt = fg.toInt) from by omega, hs, (rr_neg (show ¬ ((0 ≤ a.toInt ∧ a.toInt ≤ 7) ∧ (0 ≤ b.toInt ∧ b.toInt ≤ 2) ∧ 0 ≤ n.toInt ∧ n.toInt ≤ 40) from by omega)).symm, (rr_neg (show ¬ ((0 ≤ a.toInt ∧ a.toInt ≤ 7) ∧ (0 ≤ b.toInt ∧ b.toInt ≤ 2) ∧ 0 ≤ n.toInt ∧ n.toInt ≤ 40) from by omega)).symm⟩) (hP.sub [0, 1, 2, 3, 4] rfl) (hD.sub [0, 1, 2, 3, 4] (by decide) rfl) dX7_row_22
    · subst e_2
      have f_2 : ¬ (0 ≤ b.toInt ∧ b.toInt ≤ 2) := f_2
      refine lv_if_eq (tgt := 20) hx hb dX7_row_11 (by decide) (fun _ => ?_) (fun c9 => absurd (by decide) c9)
      refine lv_ldc (v := (-1000001)) hx hb hown (hts (.constant RX7 68 (-1000001)) (List.mem_of_getElem? (i := 1) rfl)) dX7_row_20 ?_
      exact wr_i (v := (-1000001)) hx hb hr hlocks hS (fg, fl, fs, fi) (by exact ⟨show (((0 ≤ a.toInt ∧ a.toInt ≤ 7) ∧ (0 ≤ b.toInt ∧ b.toInt ≤ 2) ∧ 0 ≤ n.toInt ∧ n.toInt ≤ 40) ∧ (-1000001) = n.toInt ∧ fg.toInt = 0) ∨ (((0 ≤ a.toInt ∧ a.toInt ≤ 7) ∧ (0 ≤ b.toInt ∧ b.toInt ≤ 2) ∧ n.toInt < 0) ∧ (-1000001) = (-1000014) ∧ fg.toInt = 4) ∨ (¬ ((0 ≤ a.toInt ∧ a.toInt ≤ 7) ∧ (0 ≤ b.toInt ∧ b.toInt ≤ 2) ∧ n.toInt ≤ 40) ∧ (-1000001) = (-1000001) ∧ fg.toInt = fg.toInt) from by omega, hs, (rr_neg (show ¬ ((0 ≤ a.toInt ∧ a.toInt ≤ 7) ∧ (0 ≤ b.toInt ∧ b.toInt ≤ 2) ∧ 0 ≤ n.toInt ∧ n.toInt ≤ 40) from by omega)).symm, (rr_neg (show ¬ ((0 ≤ a.toInt ∧ a.toInt ≤ 7) ∧ (0 ≤ b.toInt ∧ b.toInt ≤ 2) ∧ 0 ≤ n.toInt ∧ n.toInt ≤ 40) from by omega)).symm⟩) (hP.sub [0, 1, 2, 3, 4] rfl) (hD.sub [0, 1, 2, 3, 4] (by decide) rfl) dX7_row_22
  · subst e_1
    have f_1 : ¬ (0 ≤ a.toInt ∧ a.toInt ≤ 7) := f_1
    refine lv_if_eq (tgt := 20) hx hb dX7_row_4 (by decide) (fun _ => ?_) (fun c9 => absurd (by decide) c9)
    refine lv_ldc (v := (-1000001)) hx hb hown (hts (.constant RX7 68 (-1000001)) (List.mem_of_getElem? (i := 1) rfl)) dX7_row_20 ?_
    exact wr_i (v := (-1000001)) hx hb hr hlocks hS (fg, fl, fs, fi) (by exact ⟨show (((0 ≤ a.toInt ∧ a.toInt ≤ 7) ∧ (0 ≤ b.toInt ∧ b.toInt ≤ 2) ∧ 0 ≤ n.toInt ∧ n.toInt ≤ 40) ∧ (-1000001) = n.toInt ∧ fg.toInt = 0) ∨ (((0 ≤ a.toInt ∧ a.toInt ≤ 7) ∧ (0 ≤ b.toInt ∧ b.toInt ≤ 2) ∧ n.toInt < 0) ∧ (-1000001) = (-1000014) ∧ fg.toInt = 4) ∨ (¬ ((0 ≤ a.toInt ∧ a.toInt ≤ 7) ∧ (0 ≤ b.toInt ∧ b.toInt ≤ 2) ∧ n.toInt ≤ 40) ∧ (-1000001) = (-1000001) ∧ fg.toInt = fg.toInt) from by omega, hs, (rr_neg (show ¬ ((0 ≤ a.toInt ∧ a.toInt ≤ 7) ∧ (0 ≤ b.toInt ∧ b.toInt ≤ 2) ∧ 0 ≤ n.toInt ∧ n.toInt ≤ 40) from by omega)).symm, (rr_neg (show ¬ ((0 ≤ a.toInt ∧ a.toInt ≤ 7) ∧ (0 ≤ b.toInt ∧ b.toInt ≤ 2) ∧ 0 ≤ n.toInt ∧ n.toInt ≤ 40) from by omega)).symm⟩) (hP.sub [0, 1, 2, 3, 4] rfl) (hD.sub [0, 1, 2, 3, 4] (by decide) rfl) dX7_row_22
set_option maxHeartbeats 4000000 in
set_option maxRecDepth 100000 in
theorem s_X8_row (l : Launch) (D : va_G) (cI cB cQ : ClassId) (sz : Nat) (h : Nat) (sl : Nat) (zs : Nat) (ln : Nat) (ir : Nat) (tk : Nat) (tb : Nat) (tr : Nat) (fz : Nat) (na : Int32) (su : Int32) (le : Int32) (fu : Int32) (ap : Int32) (pp : Int32) (tc : Int32) (nm : Int32) (a : Int32) (b : Int32) (n : Int32) (zf : Nat → Int32) (lnf : Nat → Int32) (irf : Nat → Int32) (hz : ∀ j, j < 8 → (-1) ≤ (zf j).toInt ∧ (zf j).toInt ≤ 40) : mi l yX8_row wsX8_row ({ frames := 1, cells := 0, slots := 0, locals := 25 }) D cI cB cQ [.ref h, .int a, .int b, .int n] sz [(h, .inr (7, [.ref sl, .int na, .ref zs, .ref ln, .ref ir, .ref tk, .int su, .int le, .ref tb, .int fu, .int ap, .int pp, .ref tr, .int tc, .ref fz, .int nm])), (zs, .inl (cI, 8, .inl zf)), (ln, .inl (cI, 8, .inl lnf)), (ir, .inl (cI, 320, .inl irf))] (fun (r : Int32) (u : Int32 × (Nat → Int32) × (Nat → Int32) × (Nat → Int32)) => ((((0 ≤ a.toInt ∧ a.toInt ≤ 7) ∧ (0 ≤ b.toInt ∧ b.toInt ≤ 2) ∧ 0 ≤ n.toInt ∧ n.toInt ≤ 40) ∧ r.toInt = n.toInt ∧ u.1.toInt = 0) ∨ (((0 ≤ a.toInt ∧ a.toInt ≤ 7) ∧ (0 ≤ b.toInt ∧ b.toInt ≤ 2) ∧ n.toInt < 0) ∧ r.toInt = (-1000014) ∧ u.1.toInt = 4) ∨ (¬ ((0 ≤ a.toInt ∧ a.toInt ≤ 7) ∧ (0 ≤ b.toInt ∧ b.toInt ≤ 2) ∧ n.toInt ≤ 40) ∧ r.toInt = (-1000001) ∧ u.1.toInt = su.toInt)) ∧ (∀ j, j < 8 → (-1) ≤ (u.2.1 j).toInt ∧ (u.2.1 j).toInt ≤ 40) ∧ (u.2.1 = rr_up ((0 ≤ a.toInt ∧ a.toInt ≤ 7) ∧ (0 ≤ b.toInt ∧ b.toInt ≤ 2) ∧ 0 ≤ n.toInt ∧ n.toInt ≤ 40) zf a n) ∧ (u.2.2.1 = rr_up ((0 ≤ a.toInt ∧ a.toInt ≤ 7) ∧ (0 ≤ b.toInt ∧ b.toInt ≤ 2) ∧ 0 ≤ n.toInt ∧ n.toInt ≤ 40) lnf a b)) (fun u => [(h, .inr (7, [.ref sl, .int na, .ref zs, .ref ln, .ref ir, .ref tk, .int u.1, .int le, .ref tb, .int fu, .int ap, .int pp, .ref tr, .int tc, .ref fz, .int nm])), (zs, .inl (cI, 8, .inl u.2.1)), (ln, .inl (cI, 8, .inl u.2.2.1)), (ir, .inl (cI, 320, .inl u.2.2.2))]) 0 0 := by
  refine wm_i (cc := cX8_row) (maxL := 5) (ret := (some .int)) (by decide) rfl (Nat.le_of_ble_eq_true rfl) ?_
  intro p e s m below meth c A ls hx hb hr hml hown hts hlocks hin hP hK hD hN hA hl hS
  have hown : s.vm.findClass RX8 = some m.cls := hown
  have hl : lv_has ls 5 [(0, .ref h), (1, .int a), (2, .int b), (3, .int n)] := hl
  change W p l e ({ frames := 1, cells := 0, slots := 0, locals := 25 }) s m ([.ref h, .int a, .int b, .int n] : List Value).toArray below meth c s.heap [] 0 0 (MQ below (va_Qi (fun (r : Int32) (u : Int32 × (Nat → Int32) × (Nat → Int32) × (Nat → Int32)) => ((((0 ≤ a.toInt ∧ a.toInt ≤ 7) ∧ (0 ≤ b.toInt ∧ b.toInt ≤ 2) ∧ 0 ≤ n.toInt ∧ n.toInt ≤ 40) ∧ r.toInt = n.toInt ∧ u.1.toInt = 0) ∨ (((0 ≤ a.toInt ∧ a.toInt ≤ 7) ∧ (0 ≤ b.toInt ∧ b.toInt ≤ 2) ∧ n.toInt < 0) ∧ r.toInt = (-1000014) ∧ u.1.toInt = 4) ∨ (¬ ((0 ≤ a.toInt ∧ a.toInt ≤ 7) ∧ (0 ≤ b.toInt ∧ b.toInt ≤ 2) ∧ n.toInt ≤ 40) ∧ r.toInt = (-1000001) ∧ u.1.toInt = su.toInt)) ∧ (∀ j, j < 8 → (-1) ≤ (u.2.1 j).toInt ∧ (u.2.1 j).toInt ≤ 40) ∧ (u.2.1 = rr_up ((0 ≤ a.toInt ∧ a.toInt ≤ 7) ∧ (0 ≤ b.toInt ∧ b.toInt ≤ 2) ∧ 0 ≤ n.toInt ∧ n.toInt ≤ 40) zf a n) ∧ (u.2.2.1 = rr_up ((0 ≤ a.toInt ∧ a.toInt ≤ 7) ∧ (0 ≤ b.toInt ∧ b.toInt ≤ 2) ∧ 0 ≤ n.toInt ∧ n.toInt ≤ 40) lnf a b)) (fun u t => wb D A ((fun u => [(h, .inr (7, [.ref sl, .int na, .ref zs, .ref ln, .ref ir, .ref tk, .int u.1, .int le, .ref tb, .int fu, .int ap, .int pp, .ref tr, .int tc, .ref fz, .int nm])), (zs, .inl (cI, 8, .inl u.2.1)), (ln, .inl (cI, 8, .inl u.2.2.1)), (ir, .inl (cI, 320, .inl u.2.2.2))]) u) t) A) ([.ref h, .int a, .int b, .int n] : List Value).toArray s 0 0 A) (F0 m 0 ls [])
  refine lv_iload_n hx hb dX8_row_0 rfl (lv_at hl 1 rfl) ?_
  refine lv_i2l (v := (a.toInt64)) hx hb dX8_row_1 rfl ?_
  refine lv_lconst (v := 0) hx hb dX8_row_2 (by decide) ?_
  refine lv_ldc2 (v := 7) hx hb hown (hts (.constantLong RX8 40 (7)) (List.mem_of_getElem? (i := 1) rfl)) dX8_row_3 ?_
  have k_1 := (g_X8_in l D cI cB cQ s.heap.size (a.toInt64) 0 7)
  refine wc_i (WC := []) (WR := [(h, .inr (7, [.ref sl, .int na, .ref zs, .ref ln, .ref ir, .ref tk, .int su, .int le, .ref tb, .int fu, .int ap, .int pp, .ref tr, .int tc, .ref fz, .int nm])), (zs, .inl (cI, 8, .inl zf)), (ln, .inl (cI, 8, .inl lnf)), (ir, .inl (cI, 320, .inl irf))]) (va_runS (As := [.long (a.toInt64), .long 0, .long 7]) (rest := []) ⟨hx, hb, hml, hown, hts⟩ k_1 (va_cwS 3 hts gX8_row_X8_in rfl rfl rfl (by decide +kernel) ⟨Nat.le_of_ble_eq_true rfl, Nat.le_of_ble_eq_true rfl⟩) (wp_S hP hK hD hN [] (by decide) rfl) rfl rfl hl.1 rfl (lv_room (Nat.le_of_ble_eq_true rfl)) dX8_row_6 ⟨Nat.le_of_ble_eq_true rfl, Nat.le_of_ble_eq_true rfl⟩) hP hD hS hA [] [0, 1, 2, 3] rfl rfl (by decide) (by decide) (fun r_1 u_1 H locs hw_1 hP hD hS => ?_)
  clear k_1
  have hP : va_P D kl [(h, .inr (7, [.ref sl, .int na, .ref zs, .ref ln, .ref ir, .ref tk, .int su, .int le, .ref tb, .int fu, .int ap, .int pp, .ref tr, .int tc, .ref fz, .int nm])), (zs, .inl (cI, 8, .inl zf)), (ln, .inl (cI, 8, .inl lnf)), (ir, .inl (cI, 320, .inl irf))] H := hP
  have hD : va_D A [(h, .inr (7, [.ref sl, .int na, .ref zs, .ref ln, .ref ir, .ref tk, .int su, .int le, .ref tb, .int fu, .int ap, .int pp, .ref tr, .int tc, .ref fz, .int nm])), (zs, .inl (cI, 8, .inl zf)), (ln, .inl (cI, 8, .inl lnf)), (ir, .inl (cI, 320, .inl irf))] := hD
  have c1_0 := hw_1
  rcases c1_0 with ⟨e_1, f_1⟩ | ⟨e_1, f_1⟩
  · subst e_1
    have f_1 : (0 : Int) ≤ a.toInt ∧ a.toInt ≤ (7 : Int) := by
      have h8 := f_1
      try simp only [zl_of] at h8
      exact h8
    refine lv_if_eq (tgt := 30) hx hb dX8_row_9 (by decide) (fun c9 => absurd c9 (by decide)) (fun _ => ?_)
    refine lv_iload_n hx hb dX8_row_12 rfl (lv_at hl 2 rfl) ?_
    refine lv_i2l (v := (b.toInt64)) hx hb dX8_row_13 rfl ?_
    refine lv_lconst (v := 0) hx hb dX8_row_14 (by decide) ?_
    refine lv_ldc2 (v := 2) hx hb hown (hts (.constantLong RX8 46 (2)) (List.mem_of_getElem? (i := 2) rfl)) dX8_row_15 ?_
    have k_2 := (g_X8_in l D cI cB cQ H.size (b.toInt64) 0 2)
    refine wc_i (WC := []) (WR := [(h, .inr (7, [.ref sl, .int na, .ref zs, .ref ln, .ref ir, .ref tk, .int su, .int le, .ref tb, .int fu, .int ap, .int pp, .ref tr, .int tc, .ref fz, .int nm])), (zs, .inl (cI, 8, .inl zf)), (ln, .inl (cI, 8, .inl lnf)), (ir, .inl (cI, 320, .inl irf))]) (va_runS (As := [.long (b.toInt64), .long 0, .long 2]) (rest := []) ⟨hx, hb, hml, hown, hts⟩ k_2 (va_cwS 3 hts gX8_row_X8_in rfl rfl rfl (by decide +kernel) ⟨Nat.le_of_ble_eq_true rfl, Nat.le_of_ble_eq_true rfl⟩) (wp_S hP hK hD hN [] (by decide) rfl) rfl rfl hl.1 rfl (lv_room (Nat.le_of_ble_eq_true rfl)) dX8_row_18 ⟨Nat.le_of_ble_eq_true rfl, Nat.le_of_ble_eq_true rfl⟩) hP hD hS hA [] [0, 1, 2, 3] rfl rfl (by decide) (by decide) (fun r_2 u_2 H locs hw_2 hP hD hS => ?_)
    clear k_2
    have hP : va_P D kl [(h, .inr (7, [.ref sl, .int na, .ref zs, .ref ln, .ref ir, .ref tk, .int su, .int le, .ref tb, .int fu, .int ap, .int pp, .ref tr, .int tc, .ref fz, .int nm])), (zs, .inl (cI, 8, .inl zf)), (ln, .inl (cI, 8, .inl lnf)), (ir, .inl (cI, 320, .inl irf))] H := hP
    have hD : va_D A [(h, .inr (7, [.ref sl, .int na, .ref zs, .ref ln, .ref ir, .ref tk, .int su, .int le, .ref tb, .int fu, .int ap, .int pp, .ref tr, .int tc, .ref fz, .int nm])), (zs, .inl (cI, 8, .inl zf)), (ln, .inl (cI, 8, .inl lnf)), (ir, .inl (cI, 320, .inl irf))] := hD
    have c2_0 := hw_2
    rcases c2_0 with ⟨e_2, f_2⟩ | ⟨e_2, f_2⟩
    · subst e_2
      have f_2 : (0 : Int) ≤ b.toInt ∧ b.toInt ≤ (2 : Int) := by
        have h8 := f_2
        try simp only [zl_of] at h8
        exact h8
      refine lv_if_eq (tgt := 30) hx hb dX8_row_21 (by decide) (fun c9 => absurd c9 (by decide)) (fun _ => ?_)
      refine lv_iload_n hx hb dX8_row_24 rfl (lv_at hl 3 rfl) ?_
      refine lv_bipush (v := 40) hx hb dX8_row_25 (by decide) ?_
      refine lv_icmp_le (tgt := 33) hx hb dX8_row_27 (by decide) (fun c_3 => ?_) (fun c_3 => ?_)
      · have f_3 : n.toInt ≤ 40 := zi_le c_3
        refine lv_iload_n hx hb dX8_row_33 rfl (lv_at hl 3 rfl) ?_
        refine lv_if_ge (tgt := 43) hx hb dX8_row_34 (by decide) (fun c_4 => ?_) (fun c_4 => ?_)
        · have f_4 : 0 ≤ n.toInt := zi_le c_4
          refine lv_aload_n hx hb dX8_row_43 rfl (lv_at hl 0 rfl) ?_
          refine va_get (D := D) (ci := 7) (v := .ref zs) (C := RX8) (T := TX8) (N := 16) hx hb hts (fun _ h => List.mem_cons_of_mem _ (List.mem_append_right _ h)) hown hK hP 0 rfl rfl 2 (by decide) (hts (.fieldLink RX8 13 "WinterWalkModel" "size" "[I") (List.mem_of_getElem? (i := 4) rfl)) (fun _ h9 => h9) rfl dX8_row_44 ?_
          refine lv_iload_n hx hb dX8_row_47 rfl (lv_at hl 1 rfl) ?_
          refine lv_iload_n hx hb dX8_row_48 rfl (lv_at hl 3 rfl) ?_
          refine va_iast hx hb hK hP hD hS 1 0 rfl rfl (zi_in (by omega) (by omega)) dX8_row_49 (fun H locs hP hD hS => ?_)
          have hP : va_P D kl [(h, .inr (7, [.ref sl, .int na, .ref zs, .ref ln, .ref ir, .ref tk, .int su, .int le, .ref tb, .int fu, .int ap, .int pp, .ref tr, .int tc, .ref fz, .int nm])), (zs, .inl (cI, 8, .inl (upd zf (a : Int32).toNatClampNeg n))), (ln, .inl (cI, 8, .inl lnf)), (ir, .inl (cI, 320, .inl irf))] H := hP
          have hD : va_D A [(h, .inr (7, [.ref sl, .int na, .ref zs, .ref ln, .ref ir, .ref tk, .int su, .int le, .ref tb, .int fu, .int ap, .int pp, .ref tr, .int tc, .ref fz, .int nm])), (zs, .inl (cI, 8, .inl (upd zf (a : Int32).toNatClampNeg n))), (ln, .inl (cI, 8, .inl lnf)), (ir, .inl (cI, 320, .inl irf))] := hD
          have ha_5 : ∀ j, j < 8 → (-1) ≤ ((upd zf (a : Int32).toNatClampNeg n) j).toInt ∧ ((upd zf (a : Int32).toNatClampNeg n) j).toInt ≤ 40 := zu_upd hz (by omega)
          refine lv_aload_n hx hb dX8_row_50 rfl (lv_at hl 0 rfl) ?_
          refine va_get (D := D) (ci := 7) (v := .ref ln) (C := RX8) (T := TX8) (N := 16) hx hb hts (fun _ h => List.mem_cons_of_mem _ (List.mem_append_right _ h)) hown hK hP 0 rfl rfl 3 (by decide) (hts (.fieldLink RX8 16 "WinterWalkModel" "lane" "[I") (List.mem_of_getElem? (i := 5) rfl)) (fun _ h9 => h9) rfl dX8_row_51 ?_
          refine lv_iload_n hx hb dX8_row_54 rfl (lv_at hl 1 rfl) ?_
          refine lv_iload_n hx hb dX8_row_55 rfl (lv_at hl 2 rfl) ?_
          refine va_iast hx hb hK hP hD hS 2 0 rfl rfl (zi_in (by omega) (by omega)) dX8_row_56 (fun H locs hP hD hS => ?_)
          have hP : va_P D kl [(h, .inr (7, [.ref sl, .int na, .ref zs, .ref ln, .ref ir, .ref tk, .int su, .int le, .ref tb, .int fu, .int ap, .int pp, .ref tr, .int tc, .ref fz, .int nm])), (zs, .inl (cI, 8, .inl (upd zf (a : Int32).toNatClampNeg n))), (ln, .inl (cI, 8, .inl (upd lnf (a : Int32).toNatClampNeg b))), (ir, .inl (cI, 320, .inl irf))] H := hP
          have hD : va_D A [(h, .inr (7, [.ref sl, .int na, .ref zs, .ref ln, .ref ir, .ref tk, .int su, .int le, .ref tb, .int fu, .int ap, .int pp, .ref tr, .int tc, .ref fz, .int nm])), (zs, .inl (cI, 8, .inl (upd zf (a : Int32).toNatClampNeg n))), (ln, .inl (cI, 8, .inl (upd lnf (a : Int32).toNatClampNeg b))), (ir, .inl (cI, 320, .inl irf))] := hD
          refine lv_iconst (v := 0) hx hb dX8_row_57 (by decide) ?_
          refine lv_istore (lv' := [(4, .int 0), (0, .ref h), (1, .int a), (2, .int b), (3, .int n)]) hx hb dX8_row_58 hl (by decide) rfl (fun ls hl => ?_)
          have hL60 : ∀ (nf : Nat) (t4_c60 : Int32) (g0_c60 : Nat → Int32) (H : Heap) (locs : List Loc) (ls : Array Slot), (0 ≤ t4_c60.toInt ∧ t4_c60.toInt ≤ 40) → (40 - t4_c60.toInt).toNat < nf → va_P D kl [(h, .inr (7, [.ref sl, .int na, .ref zs, .ref ln, .ref ir, .ref tk, .int su, .int le, .ref tb, .int fu, .int ap, .int pp, .ref tr, .int tc, .ref fz, .int nm])), (zs, .inl (cI, 8, .inl (upd zf (a : Int32).toNatClampNeg n))), (ln, .inl (cI, 8, .inl (upd lnf (a : Int32).toNatClampNeg b))), (ir, .inl (cI, 320, .inl g0_c60))] H → va_D A [(h, .inr (7, [.ref sl, .int na, .ref zs, .ref ln, .ref ir, .ref tk, .int su, .int le, .ref tb, .int fu, .int ap, .int pp, .ref tr, .int tc, .ref fz, .int nm])), (zs, .inl (cI, 8, .inl (upd zf (a : Int32).toNatClampNeg n))), (ln, .inl (cI, 8, .inl (upd lnf (a : Int32).toNatClampNeg b))), (ir, .inl (cI, 320, .inl g0_c60))] → va_S A s.heap H locs → lv_has ls 5 [(4, .int t4_c60), (0, .ref h), (1, .int a), (2, .int b), (3, .int n)] → W p l e ({ frames := 1, cells := 0, slots := 0, locals := 25 }) s m ([.ref h, .int a, .int b, .int n] : List Value).toArray below meth c H locs 0 0 (MQ below (va_Qi (fun (r : Int32) (u : Int32 × (Nat → Int32) × (Nat → Int32) × (Nat → Int32)) => ((((0 ≤ a.toInt ∧ a.toInt ≤ 7) ∧ (0 ≤ b.toInt ∧ b.toInt ≤ 2) ∧ 0 ≤ n.toInt ∧ n.toInt ≤ 40) ∧ r.toInt = n.toInt ∧ u.1.toInt = 0) ∨ (((0 ≤ a.toInt ∧ a.toInt ≤ 7) ∧ (0 ≤ b.toInt ∧ b.toInt ≤ 2) ∧ n.toInt < 0) ∧ r.toInt = (-1000014) ∧ u.1.toInt = 4) ∨ (¬ ((0 ≤ a.toInt ∧ a.toInt ≤ 7) ∧ (0 ≤ b.toInt ∧ b.toInt ≤ 2) ∧ n.toInt ≤ 40) ∧ r.toInt = (-1000001) ∧ u.1.toInt = su.toInt)) ∧ (∀ j, j < 8 → (-1) ≤ (u.2.1 j).toInt ∧ (u.2.1 j).toInt ≤ 40) ∧ (u.2.1 = rr_up ((0 ≤ a.toInt ∧ a.toInt ≤ 7) ∧ (0 ≤ b.toInt ∧ b.toInt ≤ 2) ∧ 0 ≤ n.toInt ∧ n.toInt ≤ 40) zf a n) ∧ (u.2.2.1 = rr_up ((0 ≤ a.toInt ∧ a.toInt ≤ 7) ∧ (0 ≤ b.toInt ∧ b.toInt ≤ 2) ∧ 0 ≤ n.toInt ∧ n.toInt ≤ 40) lnf a b)) (fun u t => wb D A ((fun u => [(h, .inr (7, [.ref sl, .int na, .ref zs, .ref ln, .ref ir, .ref tk, .int u.1, .int le, .ref tb, .int fu, .int ap, .int pp, .ref tr, .int tc, .ref fz, .int nm])), (zs, .inl (cI, 8, .inl u.2.1)), (ln, .inl (cI, 8, .inl u.2.2.1)), (ir, .inl (cI, 320, .inl u.2.2.2))]) u) t) A) ([.ref h, .int a, .int b, .int n] : List Value).toArray s 0 0 A) (F0 m 60 ls []) := by
            intro nf
            induction nf with
            | zero =>
              intro t4_c60 g0_c60 H locs ls i_t4_c60 hm
              exact absurd hm (Nat.not_lt_zero _)
            | succ nf ih60 =>
              intro t4_c60 g0_c60 H locs ls i_t4_c60 hm60 hP hD hS hl
              refine lv_iload hx hb dX8_row_60 (lv_at hl 0 rfl) ?_
              refine lv_iload_n hx hb dX8_row_62 rfl (lv_at hl 4 rfl) ?_
              refine lv_icmp_ge (tgt := 85) hx hb dX8_row_63 (by decide) (fun c_6 => ?_) (fun c_6 => ?_)
              · have f_6 : n.toInt ≤ t4_c60.toInt := zi_le c_6
                refine lv_aload_n hx hb dX8_row_85 rfl (lv_at hl 1 rfl) ?_
                refine lv_iload_n hx hb dX8_row_86 rfl (lv_at hl 4 rfl) ?_
                have k_7 := (s_X8_told l D cI cB cQ H.size h sl zs ln ir tk tb tr fz na su le fu ap pp tc nm n)
                refine wc_i (WC := [(h, .inr (7, [.ref sl, .int na, .ref zs, .ref ln, .ref ir, .ref tk, .int su, .int le, .ref tb, .int fu, .int ap, .int pp, .ref tr, .int tc, .ref fz, .int nm]))]) (WR := [(zs, .inl (cI, 8, .inl (upd zf (a : Int32).toNatClampNeg n))), (ln, .inl (cI, 8, .inl (upd lnf (a : Int32).toNatClampNeg b))), (ir, .inl (cI, 320, .inl g0_c60))]) (va_runV (As := [.int n]) (rest := []) ⟨hx, hb, hml, hown, hts⟩ k_7 (cwV 1 hts gX8_row_X8_told rfl rfl rfl (by decide +kernel) ⟨Nat.le_of_ble_eq_true rfl, Nat.le_of_ble_eq_true rfl⟩) (wp_V hP hK hD hN [0] (by decide) rfl (ci := 7) rfl rfl) rfl rfl hl.1 rfl (lv_room (Nat.le_of_ble_eq_true rfl)) dX8_row_87 ⟨Nat.le_of_ble_eq_true rfl, Nat.le_of_ble_eq_true rfl⟩) hP hD hS hA [0] [1, 2, 3] rfl rfl (by decide) (by decide) (fun r_7 u_7 H locs hw_7 hP hD hS => ?_)
                clear k_7
                have hP : va_P D kl [(zs, .inl (cI, 8, .inl (upd zf (a : Int32).toNatClampNeg n))), (ln, .inl (cI, 8, .inl (upd lnf (a : Int32).toNatClampNeg b))), (ir, .inl (cI, 320, .inl g0_c60)), (h, .inr (7, [.ref sl, .int na, .ref zs, .ref ln, .ref ir, .ref tk, .int u_7, .int le, .ref tb, .int fu, .int ap, .int pp, .ref tr, .int tc, .ref fz, .int nm]))] H := hP
                have hD : va_D A [(zs, .inl (cI, 8, .inl (upd zf (a : Int32).toNatClampNeg n))), (ln, .inl (cI, 8, .inl (upd lnf (a : Int32).toNatClampNeg b))), (ir, .inl (cI, 320, .inl g0_c60)), (h, .inr (7, [.ref sl, .int na, .ref zs, .ref ln, .ref ir, .ref tk, .int u_7, .int le, .ref tb, .int fu, .int ap, .int pp, .ref tr, .int tc, .ref fz, .int nm]))] := hD
                obtain ⟨c7_0, c7_1⟩ := hw_7
                have c7_1 : u_7.toInt = 0 := c7_1
                rw [c7_0]
                exact wr_i (v := n) hx hb hr hlocks hS (u_7, (upd zf (a : Int32).toNatClampNeg n), (upd lnf (a : Int32).toNatClampNeg b), g0_c60) (by exact ⟨show (((0 ≤ a.toInt ∧ a.toInt ≤ 7) ∧ (0 ≤ b.toInt ∧ b.toInt ≤ 2) ∧ 0 ≤ n.toInt ∧ n.toInt ≤ 40) ∧ n.toInt = n.toInt ∧ u_7.toInt = 0) ∨ (((0 ≤ a.toInt ∧ a.toInt ≤ 7) ∧ (0 ≤ b.toInt ∧ b.toInt ≤ 2) ∧ n.toInt < 0) ∧ n.toInt = (-1000014) ∧ u_7.toInt = 4) ∨ (¬ ((0 ≤ a.toInt ∧ a.toInt ≤ 7) ∧ (0 ≤ b.toInt ∧ b.toInt ≤ 2) ∧ n.toInt ≤ 40) ∧ n.toInt = (-1000001) ∧ u_7.toInt = su.toInt) from by omega, ha_5, (rr_pos (show (0 ≤ a.toInt ∧ a.toInt ≤ 7) ∧ (0 ≤ b.toInt ∧ b.toInt ≤ 2) ∧ 0 ≤ n.toInt ∧ n.toInt ≤ 40 from by omega)).symm, (rr_pos (show (0 ≤ a.toInt ∧ a.toInt ≤ 7) ∧ (0 ≤ b.toInt ∧ b.toInt ≤ 2) ∧ 0 ≤ n.toInt ∧ n.toInt ≤ 40 from by omega)).symm⟩) (hP.sub [3, 0, 1, 2] rfl) (hD.sub [3, 0, 1, 2] (by decide) rfl) dX8_row_90
              · have f_6 : ¬ n.toInt ≤ t4_c60.toInt := zi_nle c_6
                refine lv_aload_n hx hb dX8_row_66 rfl (lv_at hl 1 rfl) ?_
                refine va_get (D := D) (ci := 7) (v := .ref ir) (C := RX8) (T := TX8) (N := 16) hx hb hts (fun _ h => List.mem_cons_of_mem _ (List.mem_append_right _ h)) hown hK hP 0 rfl rfl 4 (by decide) (hts (.fieldLink RX8 19 "WinterWalkModel" "items" "[I") (List.mem_of_getElem? (i := 6) rfl)) (fun _ h9 => h9) rfl dX8_row_67 ?_
                refine lv_bipush (v := 40) hx hb dX8_row_70 (by decide) ?_
                refine lv_iload_n hx hb dX8_row_72 rfl (lv_at hl 2 rfl) ?_
                refine lv_imul hx hb dX8_row_73 ?_
                refine lv_topi (fun x_8 ex_8 => ?_)
                have e_8 : x_8.toInt = 40 * a.toInt := by rw [ex_8]; exact zi_mul (by decide) (rfl) (by omega) (by omega)
                clear ex_8
                refine lv_iload hx hb dX8_row_74 (lv_at hl 0 rfl) ?_
                refine lv_iadd hx hb dX8_row_76 ?_
                refine lv_topi (fun x_9 ex_9 => ?_)
                have e_9 : x_9.toInt = x_8.toInt + t4_c60.toInt := by rw [ex_9]; exact zi_add (rfl) (rfl) (by omega) (by omega)
                clear ex_9
                refine lv_iconst (v := 0) hx hb dX8_row_77 (by decide) ?_
                refine va_iast hx hb hK hP hD hS 3 0 rfl rfl (zi_in (by omega) (by omega)) dX8_row_78 (fun H locs hP hD hS => ?_)
                have hP : va_P D kl [(h, .inr (7, [.ref sl, .int na, .ref zs, .ref ln, .ref ir, .ref tk, .int su, .int le, .ref tb, .int fu, .int ap, .int pp, .ref tr, .int tc, .ref fz, .int nm])), (zs, .inl (cI, 8, .inl (upd zf (a : Int32).toNatClampNeg n))), (ln, .inl (cI, 8, .inl (upd lnf (a : Int32).toNatClampNeg b))), (ir, .inl (cI, 320, .inl (upd g0_c60 (x_9 : Int32).toNatClampNeg 0)))] H := hP
                have hD : va_D A [(h, .inr (7, [.ref sl, .int na, .ref zs, .ref ln, .ref ir, .ref tk, .int su, .int le, .ref tb, .int fu, .int ap, .int pp, .ref tr, .int tc, .ref fz, .int nm])), (zs, .inl (cI, 8, .inl (upd zf (a : Int32).toNatClampNeg n))), (ln, .inl (cI, 8, .inl (upd lnf (a : Int32).toNatClampNeg b))), (ir, .inl (cI, 320, .inl (upd g0_c60 (x_9 : Int32).toNatClampNeg 0)))] := hD
                obtain ⟨x_10, ex_10⟩ : ∃ y : Int32, y = t4_c60 + Int32.ofInt 1 := ⟨_, rfl⟩
                refine lv_iinc (v := x_10) (lv' := [(4, .int x_10), (0, .ref h), (1, .int a), (2, .int b), (3, .int n)]) hx hb dX8_row_79 hl (k := 0) rfl ex_10.symm (by decide) rfl (fun ls hl => ?_)
                have ex_10 : x_10 = t4_c60 + 1 := ex_10
                have e_10 : x_10.toInt = t4_c60.toInt + 1 := by rw [ex_10]; exact zi_add (rfl) (by decide) (by omega) (by omega)
                clear ex_10
                refine lv_goto (tgt := 60) hx hb dX8_row_82 (by decide) ?_
                exact ih60 x_10 (upd g0_c60 (x_9 : Int32).toNatClampNeg 0) _ _ _ (show 0 ≤ x_10.toInt ∧ x_10.toInt ≤ 40 from by omega) (by omega) (hP.sub [0, 1, 2, 3] rfl) (hD.sub [0, 1, 2, 3] (by decide) rfl) hS (lv_sub hl [0, 1, 2, 3, 4] rfl)
          exact hL60 (((40 - (0 : Int32).toInt).toNat) + 1) 0 irf _ _ _ (show 0 ≤ 0 ∧ 0 ≤ 40 from by omega) (Nat.lt_succ_self _) (hP.sub [0, 1, 2, 3] rfl) (hD.sub [0, 1, 2, 3] (by decide) rfl) hS (lv_sub hl [0, 1, 2, 3, 4] rfl)
        · have f_4 : ¬ 0 ≤ n.toInt := zi_nle c_4
          refine lv_aload_n hx hb dX8_row_37 rfl (lv_at hl 0 rfl) ?_
          refine lv_iconst (v := 4) hx hb dX8_row_38 (by decide) ?_
          have k_11 := (s_X8_finds l D cI cB cQ H.size h sl zs ln ir tk tb tr fz na su le fu ap pp tc nm 4)
          refine wc_i (WC := [(h, .inr (7, [.ref sl, .int na, .ref zs, .ref ln, .ref ir, .ref tk, .int su, .int le, .ref tb, .int fu, .int ap, .int pp, .ref tr, .int tc, .ref fz, .int nm]))]) (WR := [(zs, .inl (cI, 8, .inl zf)), (ln, .inl (cI, 8, .inl lnf)), (ir, .inl (cI, 320, .inl irf))]) (va_runV (As := [.int 4]) (rest := []) ⟨hx, hb, hml, hown, hts⟩ k_11 (cwV 1 hts gX8_row_X8_finds rfl rfl rfl (by decide +kernel) ⟨Nat.le_of_ble_eq_true rfl, Nat.le_of_ble_eq_true rfl⟩) (wp_V hP hK hD hN [0] (by decide) rfl (ci := 7) rfl rfl) rfl rfl hl.1 rfl (lv_room (Nat.le_of_ble_eq_true rfl)) dX8_row_39 ⟨Nat.le_of_ble_eq_true rfl, Nat.le_of_ble_eq_true rfl⟩) hP hD hS hA [0] [1, 2, 3] rfl rfl (by decide) (by decide) (fun r_11 u_11 H locs hw_11 hP hD hS => ?_)
          clear k_11
          have hP : va_P D kl [(zs, .inl (cI, 8, .inl zf)), (ln, .inl (cI, 8, .inl lnf)), (ir, .inl (cI, 320, .inl irf)), (h, .inr (7, [.ref sl, .int na, .ref zs, .ref ln, .ref ir, .ref tk, .int u_11, .int le, .ref tb, .int fu, .int ap, .int pp, .ref tr, .int tc, .ref fz, .int nm]))] H := hP
          have hD : va_D A [(zs, .inl (cI, 8, .inl zf)), (ln, .inl (cI, 8, .inl lnf)), (ir, .inl (cI, 320, .inl irf)), (h, .inr (7, [.ref sl, .int na, .ref zs, .ref ln, .ref ir, .ref tk, .int u_11, .int le, .ref tb, .int fu, .int ap, .int pp, .ref tr, .int tc, .ref fz, .int nm]))] := hD
          obtain ⟨c11_0, c11_1⟩ := hw_11
          have c11_1 : u_11.toInt = (4 : Int) := c11_1
          obtain rfl : r_11 = (-1000014) := by first | exact c11_0 | exact c11_0.trans (by decide)
          exact wr_i (v := (-1000014)) hx hb hr hlocks hS (u_11, zf, lnf, irf) (by exact ⟨show (((0 ≤ a.toInt ∧ a.toInt ≤ 7) ∧ (0 ≤ b.toInt ∧ b.toInt ≤ 2) ∧ 0 ≤ n.toInt ∧ n.toInt ≤ 40) ∧ (-1000014) = n.toInt ∧ u_11.toInt = 0) ∨ (((0 ≤ a.toInt ∧ a.toInt ≤ 7) ∧ (0 ≤ b.toInt ∧ b.toInt ≤ 2) ∧ n.toInt < 0) ∧ (-1000014) = (-1000014) ∧ u_11.toInt = 4) ∨ (¬ ((0 ≤ a.toInt ∧ a.toInt ≤ 7) ∧ (0 ≤ b.toInt ∧ b.toInt ≤ 2) ∧ n.toInt ≤ 40) ∧ (-1000014) = (-1000001) ∧ u_11.toInt = su.toInt) from by omega, hz, (rr_neg (show ¬ ((0 ≤ a.toInt ∧ a.toInt ≤ 7) ∧ (0 ≤ b.toInt ∧ b.toInt ≤ 2) ∧ 0 ≤ n.toInt ∧ n.toInt ≤ 40) from by omega)).symm, (rr_neg (show ¬ ((0 ≤ a.toInt ∧ a.toInt ≤ 7) ∧ (0 ≤ b.toInt ∧ b.toInt ≤ 2) ∧ 0 ≤ n.toInt ∧ n.toInt ≤ 40) from by omega)).symm⟩) (hP.sub [3, 0, 1, 2] rfl) (hD.sub [3, 0, 1, 2] (by decide) rfl) dX8_row_42
      · have f_3 : ¬ n.toInt ≤ 40 := zi_nle c_3
        refine lv_ldc (v := (-1000001)) hx hb hown (hts (.constant RX8 48 (-1000001)) (List.mem_of_getElem? (i := 3) rfl)) dX8_row_30 ?_
        exact wr_i (v := (-1000001)) hx hb hr hlocks hS (su, zf, lnf, irf) (by exact ⟨show (((0 ≤ a.toInt ∧ a.toInt ≤ 7) ∧ (0 ≤ b.toInt ∧ b.toInt ≤ 2) ∧ 0 ≤ n.toInt ∧ n.toInt ≤ 40) ∧ (-1000001) = n.toInt ∧ su.toInt = 0) ∨ (((0 ≤ a.toInt ∧ a.toInt ≤ 7) ∧ (0 ≤ b.toInt ∧ b.toInt ≤ 2) ∧ n.toInt < 0) ∧ (-1000001) = (-1000014) ∧ su.toInt = 4) ∨ (¬ ((0 ≤ a.toInt ∧ a.toInt ≤ 7) ∧ (0 ≤ b.toInt ∧ b.toInt ≤ 2) ∧ n.toInt ≤ 40) ∧ (-1000001) = (-1000001) ∧ su.toInt = su.toInt) from by omega, hz, (rr_neg (show ¬ ((0 ≤ a.toInt ∧ a.toInt ≤ 7) ∧ (0 ≤ b.toInt ∧ b.toInt ≤ 2) ∧ 0 ≤ n.toInt ∧ n.toInt ≤ 40) from by omega)).symm, (rr_neg (show ¬ ((0 ≤ a.toInt ∧ a.toInt ≤ 7) ∧ (0 ≤ b.toInt ∧ b.toInt ≤ 2) ∧ 0 ≤ n.toInt ∧ n.toInt ≤ 40) from by omega)).symm⟩) (hP.sub [0, 1, 2, 3] rfl) (hD.sub [0, 1, 2, 3] (by decide) rfl) dX8_row_32
    · subst e_2
      have f_2 : ¬ ((0 : Int) ≤ b.toInt ∧ b.toInt ≤ (2 : Int)) := by
        have h8 := f_2
        try simp only [zl_of] at h8
        exact h8
      refine lv_if_eq (tgt := 30) hx hb dX8_row_21 (by decide) (fun _ => ?_) (fun c9 => absurd (by decide) c9)
      refine lv_ldc (v := (-1000001)) hx hb hown (hts (.constant RX8 48 (-1000001)) (List.mem_of_getElem? (i := 3) rfl)) dX8_row_30 ?_
      exact wr_i (v := (-1000001)) hx hb hr hlocks hS (su, zf, lnf, irf) (by exact ⟨show (((0 ≤ a.toInt ∧ a.toInt ≤ 7) ∧ (0 ≤ b.toInt ∧ b.toInt ≤ 2) ∧ 0 ≤ n.toInt ∧ n.toInt ≤ 40) ∧ (-1000001) = n.toInt ∧ su.toInt = 0) ∨ (((0 ≤ a.toInt ∧ a.toInt ≤ 7) ∧ (0 ≤ b.toInt ∧ b.toInt ≤ 2) ∧ n.toInt < 0) ∧ (-1000001) = (-1000014) ∧ su.toInt = 4) ∨ (¬ ((0 ≤ a.toInt ∧ a.toInt ≤ 7) ∧ (0 ≤ b.toInt ∧ b.toInt ≤ 2) ∧ n.toInt ≤ 40) ∧ (-1000001) = (-1000001) ∧ su.toInt = su.toInt) from by omega, hz, (rr_neg (show ¬ ((0 ≤ a.toInt ∧ a.toInt ≤ 7) ∧ (0 ≤ b.toInt ∧ b.toInt ≤ 2) ∧ 0 ≤ n.toInt ∧ n.toInt ≤ 40) from by omega)).symm, (rr_neg (show ¬ ((0 ≤ a.toInt ∧ a.toInt ≤ 7) ∧ (0 ≤ b.toInt ∧ b.toInt ≤ 2) ∧ 0 ≤ n.toInt ∧ n.toInt ≤ 40) from by omega)).symm⟩) (hP.sub [0, 1, 2, 3] rfl) (hD.sub [0, 1, 2, 3] (by decide) rfl) dX8_row_32
  · subst e_1
    have f_1 : ¬ ((0 : Int) ≤ a.toInt ∧ a.toInt ≤ (7 : Int)) := by
      have h8 := f_1
      try simp only [zl_of] at h8
      exact h8
    refine lv_if_eq (tgt := 30) hx hb dX8_row_9 (by decide) (fun _ => ?_) (fun c9 => absurd (by decide) c9)
    refine lv_ldc (v := (-1000001)) hx hb hown (hts (.constant RX8 48 (-1000001)) (List.mem_of_getElem? (i := 3) rfl)) dX8_row_30 ?_
    exact wr_i (v := (-1000001)) hx hb hr hlocks hS (su, zf, lnf, irf) (by exact ⟨show (((0 ≤ a.toInt ∧ a.toInt ≤ 7) ∧ (0 ≤ b.toInt ∧ b.toInt ≤ 2) ∧ 0 ≤ n.toInt ∧ n.toInt ≤ 40) ∧ (-1000001) = n.toInt ∧ su.toInt = 0) ∨ (((0 ≤ a.toInt ∧ a.toInt ≤ 7) ∧ (0 ≤ b.toInt ∧ b.toInt ≤ 2) ∧ n.toInt < 0) ∧ (-1000001) = (-1000014) ∧ su.toInt = 4) ∨ (¬ ((0 ≤ a.toInt ∧ a.toInt ≤ 7) ∧ (0 ≤ b.toInt ∧ b.toInt ≤ 2) ∧ n.toInt ≤ 40) ∧ (-1000001) = (-1000001) ∧ su.toInt = su.toInt) from by omega, hz, (rr_neg (show ¬ ((0 ≤ a.toInt ∧ a.toInt ≤ 7) ∧ (0 ≤ b.toInt ∧ b.toInt ≤ 2) ∧ 0 ≤ n.toInt ∧ n.toInt ≤ 40) from by omega)).symm, (rr_neg (show ¬ ((0 ≤ a.toInt ∧ a.toInt ≤ 7) ∧ (0 ≤ b.toInt ∧ b.toInt ≤ 2) ∧ 0 ≤ n.toInt ∧ n.toInt ≤ 40) from by omega)).symm⟩) (hP.sub [0, 1, 2, 3] rfl) (hD.sub [0, 1, 2, 3] (by decide) rfl) dX8_row_32
set_option maxHeartbeats 4000000 in
set_option maxRecDepth 100000 in
theorem s_X7_set (l : Launch) (D : va_G) (cI cB cQ : ClassId) (sz : Nat) (h : Nat) (rw : Nat) (tp : Nat) (nw : Nat) (ac : Nat) (im : Nat) (fo : Nat) (ak : Nat) (la : Nat) (sq : Nat) (ir : Nat) (fg : Int32) (a : Int32) (i : Int32) (v : Int32) (fl : Nat → Int32) (fs : Nat → Int32) (fi : Nat → Int32) (hs : ∀ j, j < 8 → 0 ≤ (fs j).toInt ∧ (fs j).toInt ≤ 40) : mi l yX7_set wsX7_set ({ frames := 2, cells := 0, slots := 0, locals := 46 }) D cI cB cQ [.ref h, .int a, .int i, .int v] sz [(h, .inr (6, [.ref rw, .ref tp, .ref nw, .ref ac, .ref im, .ref fo, .ref ak, .int fg])), (rw, .inr (4, [.ref la, .ref sq, .ref ir])), (la, .inl (cI, 8, .inl fl)), (sq, .inl (cI, 8, .inl fs)), (ir, .inl (cI, 320, .inl fi))] (fun (r : Int32) (u : Int32 × (Nat → Int32)) => (((0 ≤ a.toInt ∧ a.toInt ≤ 7) ∧ ¬ ((fl a.toNatClampNeg).toInt = (-1)) ∧ (0 ≤ i.toInt ∧ i.toInt < (fs a.toNatClampNeg).toInt) ∧ r.toInt = (cutl (fl a.toNatClampNeg) v).toInt ∧ u.1.toInt = 0) ∨ ((0 ≤ a.toInt ∧ a.toInt ≤ 7) ∧ ¬ ((fl a.toNatClampNeg).toInt = (-1)) ∧ ¬ (0 ≤ i.toInt ∧ i.toInt < (fs a.toNatClampNeg).toInt) ∧ r.toInt = (-1000012) ∧ u.1.toInt = 2) ∨ ((0 ≤ a.toInt ∧ a.toInt ≤ 7) ∧ ((fl a.toNatClampNeg).toInt = (-1)) ∧ r.toInt = (-1000011) ∧ u.1.toInt = 1) ∨ (¬ (0 ≤ a.toInt ∧ a.toInt ≤ 7) ∧ r.toInt = (-1000001) ∧ u.1.toInt = fg.toInt))) (fun u => [(h, .inr (6, [.ref rw, .ref tp, .ref nw, .ref ac, .ref im, .ref fo, .ref ak, .int u.1])), (rw, .inr (4, [.ref la, .ref sq, .ref ir])), (la, .inl (cI, 8, .inl fl)), (sq, .inl (cI, 8, .inl fs)), (ir, .inl (cI, 320, .inl u.2))]) 0 0 := by
  refine wm_i (cc := cX7_set) (maxL := 5) (ret := (some .int)) (by decide) rfl (Nat.le_of_ble_eq_true rfl) ?_
  intro p e s m below meth c A ls hx hb hr hml hown hts hlocks hin hP hK hD hN hA hl hS
  have hown : s.vm.findClass RX7 = some m.cls := hown
  have hl : lv_has ls 5 [(0, .ref h), (1, .int a), (2, .int i), (3, .int v)] := hl
  change W p l e ({ frames := 2, cells := 0, slots := 0, locals := 46 }) s m ([.ref h, .int a, .int i, .int v] : List Value).toArray below meth c s.heap [] 0 0 (MQ below (va_Qi (fun (r : Int32) (u : Int32 × (Nat → Int32)) => (((0 ≤ a.toInt ∧ a.toInt ≤ 7) ∧ ¬ ((fl a.toNatClampNeg).toInt = (-1)) ∧ (0 ≤ i.toInt ∧ i.toInt < (fs a.toNatClampNeg).toInt) ∧ r.toInt = (cutl (fl a.toNatClampNeg) v).toInt ∧ u.1.toInt = 0) ∨ ((0 ≤ a.toInt ∧ a.toInt ≤ 7) ∧ ¬ ((fl a.toNatClampNeg).toInt = (-1)) ∧ ¬ (0 ≤ i.toInt ∧ i.toInt < (fs a.toNatClampNeg).toInt) ∧ r.toInt = (-1000012) ∧ u.1.toInt = 2) ∨ ((0 ≤ a.toInt ∧ a.toInt ≤ 7) ∧ ((fl a.toNatClampNeg).toInt = (-1)) ∧ r.toInt = (-1000011) ∧ u.1.toInt = 1) ∨ (¬ (0 ≤ a.toInt ∧ a.toInt ≤ 7) ∧ r.toInt = (-1000001) ∧ u.1.toInt = fg.toInt))) (fun u t => wb D A ((fun u => [(h, .inr (6, [.ref rw, .ref tp, .ref nw, .ref ac, .ref im, .ref fo, .ref ak, .int u.1])), (rw, .inr (4, [.ref la, .ref sq, .ref ir])), (la, .inl (cI, 8, .inl fl)), (sq, .inl (cI, 8, .inl fs)), (ir, .inl (cI, 320, .inl u.2))]) u) t) A) ([.ref h, .int a, .int i, .int v] : List Value).toArray s 0 0 A) (F0 m 0 ls [])
  refine lv_iload_n hx hb dX7_set_0 rfl (lv_at hl 1 rfl) ?_
  have k_1 := (g_X5_isRow l D cI cB cQ s.heap.size a)
  refine wc_i (WC := []) (WR := [(h, .inr (6, [.ref rw, .ref tp, .ref nw, .ref ac, .ref im, .ref fo, .ref ak, .int fg])), (rw, .inr (4, [.ref la, .ref sq, .ref ir])), (la, .inl (cI, 8, .inl fl)), (sq, .inl (cI, 8, .inl fs)), (ir, .inl (cI, 320, .inl fi))]) (va_runS (As := [.int a]) (rest := []) ⟨hx, hb, hml, hown, hts⟩ k_1 (va_cwS 1 hts gX7_set_X5_isRow rfl rfl rfl (by decide +kernel) ⟨Nat.le_of_ble_eq_true rfl, Nat.le_of_ble_eq_true rfl⟩) (wp_S hP hK hD hN [] (by decide) rfl) rfl rfl hl.1 rfl (lv_room (Nat.le_of_ble_eq_true rfl)) dX7_set_1 ⟨Nat.le_of_ble_eq_true rfl, Nat.le_of_ble_eq_true rfl⟩) hP hD hS hA [] [0, 1, 2, 3, 4] rfl rfl (by decide) (by decide) (fun r_1 u_1 H locs hw_1 hP hD hS => ?_)
  clear k_1
  have hP : va_P D kl [(h, .inr (6, [.ref rw, .ref tp, .ref nw, .ref ac, .ref im, .ref fo, .ref ak, .int fg])), (rw, .inr (4, [.ref la, .ref sq, .ref ir])), (la, .inl (cI, 8, .inl fl)), (sq, .inl (cI, 8, .inl fs)), (ir, .inl (cI, 320, .inl fi))] H := hP
  have hD : va_D A [(h, .inr (6, [.ref rw, .ref tp, .ref nw, .ref ac, .ref im, .ref fo, .ref ak, .int fg])), (rw, .inr (4, [.ref la, .ref sq, .ref ir])), (la, .inl (cI, 8, .inl fl)), (sq, .inl (cI, 8, .inl fs)), (ir, .inl (cI, 320, .inl fi))] := hD
  have c1_0 := hw_1
  rcases c1_0 with ⟨e_1, f_1⟩ | ⟨e_1, f_1⟩
  · subst e_1
    have f_1 : 0 ≤ a.toInt ∧ a.toInt ≤ 7 := f_1
    refine lv_if_ne (tgt := 10) hx hb dX7_set_4 (by decide) (fun _ => ?_) (fun c9 => absurd c9 (by decide))
    refine lv_aload_n hx hb dX7_set_10 rfl (lv_at hl 0 rfl) ?_
    refine va_get (D := D) (ci := 6) (v := .ref rw) (C := RX7) (T := TX7) (N := 8) hx hb hts (fun _ h => List.mem_cons_of_mem _ (List.mem_append_left _ (List.mem_append_right _ h))) hown hK hP 0 rfl rfl 0 (by decide) (hts (.fieldLink RX7 10 "WinterWalk" "rows" "LWinterWalk$Rows;") (List.mem_of_getElem? (i := 2) rfl)) (fun _ h9 => h9) rfl dX7_set_11 ?_
    refine lv_iload_n hx hb dX7_set_14 rfl (lv_at hl 1 rfl) ?_
    refine lv_iload_n hx hb dX7_set_15 rfl (lv_at hl 2 rfl) ?_
    refine lv_iconst (v := 1) hx hb dX7_set_16 (by decide) ?_
    have k_2 := (e_X5_troubleWith l D cI cB cQ H.size rw la sq ir a i 1 fl fs hs (by omega))
    refine wc_i (WC := [(rw, .inr (4, [.ref la, .ref sq, .ref ir])), (la, .inl (cI, 8, .inl fl)), (sq, .inl (cI, 8, .inl fs))]) (WR := [(h, .inr (6, [.ref rw, .ref tp, .ref nw, .ref ac, .ref im, .ref fo, .ref ak, .int fg])), (ir, .inl (cI, 320, .inl fi))]) (va_runV (As := [.int a, .int i, .int 1]) (rest := []) ⟨hx, hb, hml, hown, hts⟩ k_2 (cwV 3 hts gX7_set_X5_troubleWith rfl rfl rfl (by decide +kernel) ⟨Nat.le_of_ble_eq_true rfl, Nat.le_of_ble_eq_true rfl⟩) (wp_V hP hK hD hN [1, 2, 3] (by decide) rfl (ci := 4) rfl rfl) rfl rfl hl.1 rfl (lv_room (Nat.le_of_ble_eq_true rfl)) dX7_set_17 ⟨Nat.le_of_ble_eq_true rfl, Nat.le_of_ble_eq_true rfl⟩) hP hD hS hA [1, 2, 3] [0, 4] rfl rfl (by decide) (by decide) (fun r_2 u_2 H locs hw_2 hP hD hS => ?_)
    clear k_2
    have hP : va_P D kl [(h, .inr (6, [.ref rw, .ref tp, .ref nw, .ref ac, .ref im, .ref fo, .ref ak, .int fg])), (ir, .inl (cI, 320, .inl fi)), (rw, .inr (4, [.ref la, .ref sq, .ref ir])), (la, .inl (cI, 8, .inl fl)), (sq, .inl (cI, 8, .inl fs))] H := hP
    have hD : va_D A [(h, .inr (6, [.ref rw, .ref tp, .ref nw, .ref ac, .ref im, .ref fo, .ref ak, .int fg])), (ir, .inl (cI, 320, .inl fi)), (rw, .inr (4, [.ref la, .ref sq, .ref ir])), (la, .inl (cI, 8, .inl fl)), (sq, .inl (cI, 8, .inl fs))] := hD
    have c2_0 := hw_2
    rcases c2_0 with ⟨e_2, f_2⟩ | ⟨e_2, f_2⟩ | ⟨e_2, f_2⟩
    · subst e_2
      have f_2 : ¬ (fl a.toNatClampNeg).toInt = (-1) ∧ (0 ≤ i.toInt ∧ 0 ≤ (1 : Int) ∧ i.toInt + (1 : Int) ≤ (fs a.toNatClampNeg).toInt) ∧ (fs a.toNatClampNeg).toInt ≤ 40 := f_2
      refine lv_istore (lv' := [(4, .int 0), (0, .ref h), (1, .int a), (2, .int i), (3, .int v)]) hx hb dX7_set_20 hl (by decide) rfl (fun ls hl => ?_)
      refine lv_iload hx hb dX7_set_22 (lv_at hl 0 rfl) ?_
      refine lv_if_eq (tgt := 34) hx hb dX7_set_24 (by decide) (fun _ => ?_) (fun c9 => absurd (by decide) c9)
      refine lv_aload_n hx hb dX7_set_34 rfl (lv_at hl 1 rfl) ?_
      refine lv_aload_n hx hb dX7_set_35 rfl (lv_at hl 1 rfl) ?_
      refine va_get (D := D) (ci := 6) (v := .ref rw) (C := RX7) (T := TX7) (N := 8) hx hb hts (fun _ h => List.mem_cons_of_mem _ (List.mem_append_left _ (List.mem_append_right _ h))) hown hK hP 0 rfl rfl 0 (by decide) (hts (.fieldLink RX7 10 "WinterWalk" "rows" "LWinterWalk$Rows;") (List.mem_of_getElem? (i := 2) rfl)) (fun _ h9 => h9) rfl dX7_set_36 ?_
      refine lv_iload_n hx hb dX7_set_39 rfl (lv_at hl 2 rfl) ?_
      refine lv_iload_n hx hb dX7_set_40 rfl (lv_at hl 3 rfl) ?_
      refine lv_iload_n hx hb dX7_set_41 rfl (lv_at hl 4 rfl) ?_
      have k_3 := (e_X5_put l D cI cB cQ H.size rw la sq ir a i v fl fi (by omega) (by omega))
      refine wc_i (WC := [(rw, .inr (4, [.ref la, .ref sq, .ref ir])), (la, .inl (cI, 8, .inl fl)), (ir, .inl (cI, 320, .inl fi))]) (WR := [(h, .inr (6, [.ref rw, .ref tp, .ref nw, .ref ac, .ref im, .ref fo, .ref ak, .int fg])), (sq, .inl (cI, 8, .inl fs))]) (va_runV (As := [.int a, .int i, .int v]) (rest := [.ref h]) ⟨hx, hb, hml, hown, hts⟩ k_3 (cwV 3 hts gX7_set_X5_put rfl rfl rfl (by decide +kernel) ⟨Nat.le_of_ble_eq_true rfl, Nat.le_of_ble_eq_true rfl⟩) (wp_V hP hK hD hN [2, 3, 1] (by decide) rfl (ci := 4) rfl rfl) rfl rfl hl.1 rfl (lv_room (Nat.le_of_ble_eq_true rfl)) dX7_set_42 ⟨Nat.le_of_ble_eq_true rfl, Nat.le_of_ble_eq_true rfl⟩) hP hD hS hA [2, 3, 1] [0, 4] rfl rfl (by decide) (by decide) (fun r_3 u_3 H locs hw_3 hP hD hS => ?_)
      clear k_3
      have hP : va_P D kl [(h, .inr (6, [.ref rw, .ref tp, .ref nw, .ref ac, .ref im, .ref fo, .ref ak, .int fg])), (sq, .inl (cI, 8, .inl fs)), (rw, .inr (4, [.ref la, .ref sq, .ref ir])), (la, .inl (cI, 8, .inl fl)), (ir, .inl (cI, 320, .inl u_3))] H := hP
      have hD : va_D A [(h, .inr (6, [.ref rw, .ref tp, .ref nw, .ref ac, .ref im, .ref fo, .ref ak, .int fg])), (sq, .inl (cI, 8, .inl fs)), (rw, .inr (4, [.ref la, .ref sq, .ref ir])), (la, .inl (cI, 8, .inl fl)), (ir, .inl (cI, 320, .inl u_3))] := hD
      have c3_0 := hw_3
      have c3_0 : r_3.toInt = (cutl (fl a.toNatClampNeg) v).toInt := c3_0
      have k_4 := (s_X7_foundNothing l D cI cB cQ H.size h rw tp nw ac im fo ak fg r_3)
      refine wc_i (WC := [(h, .inr (6, [.ref rw, .ref tp, .ref nw, .ref ac, .ref im, .ref fo, .ref ak, .int fg]))]) (WR := [(sq, .inl (cI, 8, .inl fs)), (rw, .inr (4, [.ref la, .ref sq, .ref ir])), (la, .inl (cI, 8, .inl fl)), (ir, .inl (cI, 320, .inl u_3))]) (va_runV (As := [.int r_3]) (rest := []) ⟨hx, hb, hml, hown, hts⟩ k_4 (cwV 1 hts gX7_set_X7_foundNothing rfl rfl rfl (by decide +kernel) ⟨Nat.le_of_ble_eq_true rfl, Nat.le_of_ble_eq_true rfl⟩) (wp_V hP hK hD hN [0] (by decide) rfl (ci := 6) rfl rfl) rfl rfl hl.1 rfl (lv_room (Nat.le_of_ble_eq_true rfl)) dX7_set_45 ⟨Nat.le_of_ble_eq_true rfl, Nat.le_of_ble_eq_true rfl⟩) hP hD hS hA [0] [1, 2, 3, 4] rfl rfl (by decide) (by decide) (fun r_4 u_4 H locs hw_4 hP hD hS => ?_)
      clear k_4
      have hP : va_P D kl [(sq, .inl (cI, 8, .inl fs)), (rw, .inr (4, [.ref la, .ref sq, .ref ir])), (la, .inl (cI, 8, .inl fl)), (ir, .inl (cI, 320, .inl u_3)), (h, .inr (6, [.ref rw, .ref tp, .ref nw, .ref ac, .ref im, .ref fo, .ref ak, .int u_4]))] H := hP
      have hD : va_D A [(sq, .inl (cI, 8, .inl fs)), (rw, .inr (4, [.ref la, .ref sq, .ref ir])), (la, .inl (cI, 8, .inl fl)), (ir, .inl (cI, 320, .inl u_3)), (h, .inr (6, [.ref rw, .ref tp, .ref nw, .ref ac, .ref im, .ref fo, .ref ak, .int u_4]))] := hD
      obtain ⟨c4_0, c4_1⟩ := hw_4
      have c4_1 : u_4.toInt = 0 := c4_1
      rw [c4_0]
      exact wr_i (v := r_3) hx hb hr hlocks hS (u_4, u_3) (by exact show ((0 ≤ a.toInt ∧ a.toInt ≤ 7) ∧ ¬ ((fl a.toNatClampNeg).toInt = (-1)) ∧ (0 ≤ i.toInt ∧ i.toInt < (fs a.toNatClampNeg).toInt) ∧ r_3.toInt = (cutl (fl a.toNatClampNeg) v).toInt ∧ u_4.toInt = 0) ∨ ((0 ≤ a.toInt ∧ a.toInt ≤ 7) ∧ ¬ ((fl a.toNatClampNeg).toInt = (-1)) ∧ ¬ (0 ≤ i.toInt ∧ i.toInt < (fs a.toNatClampNeg).toInt) ∧ r_3.toInt = (-1000012) ∧ u_4.toInt = 2) ∨ ((0 ≤ a.toInt ∧ a.toInt ≤ 7) ∧ ((fl a.toNatClampNeg).toInt = (-1)) ∧ r_3.toInt = (-1000011) ∧ u_4.toInt = 1) ∨ (¬ (0 ≤ a.toInt ∧ a.toInt ≤ 7) ∧ r_3.toInt = (-1000001) ∧ u_4.toInt = fg.toInt) from by omega) (hP.sub [4, 1, 2, 0, 3] rfl) (hD.sub [4, 1, 2, 0, 3] (by decide) rfl) dX7_set_48
    · subst e_2
      have f_2 : (fl a.toNatClampNeg).toInt = (-1) := f_2
      refine lv_istore (lv' := [(4, .int 1), (0, .ref h), (1, .int a), (2, .int i), (3, .int v)]) hx hb dX7_set_20 hl (by decide) rfl (fun ls hl => ?_)
      refine lv_iload hx hb dX7_set_22 (lv_at hl 0 rfl) ?_
      refine lv_if_eq (tgt := 34) hx hb dX7_set_24 (by decide) (fun c9 => absurd c9 (by decide)) (fun _ => ?_)
      refine lv_aload_n hx hb dX7_set_27 rfl (lv_at hl 1 rfl) ?_
      refine lv_iload hx hb dX7_set_28 (lv_at hl 0 rfl) ?_
      have k_5 := (s_X7_found l D cI cB cQ H.size h rw tp nw ac im fo ak fg 1)
      refine wc_i (WC := [(h, .inr (6, [.ref rw, .ref tp, .ref nw, .ref ac, .ref im, .ref fo, .ref ak, .int fg]))]) (WR := [(ir, .inl (cI, 320, .inl fi)), (rw, .inr (4, [.ref la, .ref sq, .ref ir])), (la, .inl (cI, 8, .inl fl)), (sq, .inl (cI, 8, .inl fs))]) (va_runV (As := [.int 1]) (rest := []) ⟨hx, hb, hml, hown, hts⟩ k_5 (cwV 1 hts gX7_set_X7_found rfl rfl rfl (by decide +kernel) ⟨Nat.le_of_ble_eq_true rfl, Nat.le_of_ble_eq_true rfl⟩) (wp_V hP hK hD hN [0] (by decide) rfl (ci := 6) rfl rfl) rfl rfl hl.1 rfl (lv_room (Nat.le_of_ble_eq_true rfl)) dX7_set_30 ⟨Nat.le_of_ble_eq_true rfl, Nat.le_of_ble_eq_true rfl⟩) hP hD hS hA [0] [1, 2, 3, 4] rfl rfl (by decide) (by decide) (fun r_5 u_5 H locs hw_5 hP hD hS => ?_)
      clear k_5
      have hP : va_P D kl [(ir, .inl (cI, 320, .inl fi)), (rw, .inr (4, [.ref la, .ref sq, .ref ir])), (la, .inl (cI, 8, .inl fl)), (sq, .inl (cI, 8, .inl fs)), (h, .inr (6, [.ref rw, .ref tp, .ref nw, .ref ac, .ref im, .ref fo, .ref ak, .int u_5]))] H := hP
      have hD : va_D A [(ir, .inl (cI, 320, .inl fi)), (rw, .inr (4, [.ref la, .ref sq, .ref ir])), (la, .inl (cI, 8, .inl fl)), (sq, .inl (cI, 8, .inl fs)), (h, .inr (6, [.ref rw, .ref tp, .ref nw, .ref ac, .ref im, .ref fo, .ref ak, .int u_5]))] := hD
      obtain ⟨c5_0, c5_1⟩ := hw_5
      have c5_1 : u_5.toInt = (1 : Int) := c5_1
      obtain rfl : r_5 = (-1000011) := by first | exact c5_0 | exact c5_0.trans (by decide)
      exact wr_i (v := (-1000011)) hx hb hr hlocks hS (u_5, fi) (by exact show ((0 ≤ a.toInt ∧ a.toInt ≤ 7) ∧ ¬ ((fl a.toNatClampNeg).toInt = (-1)) ∧ (0 ≤ i.toInt ∧ i.toInt < (fs a.toNatClampNeg).toInt) ∧ (-1000011) = (cutl (fl a.toNatClampNeg) v).toInt ∧ u_5.toInt = 0) ∨ ((0 ≤ a.toInt ∧ a.toInt ≤ 7) ∧ ¬ ((fl a.toNatClampNeg).toInt = (-1)) ∧ ¬ (0 ≤ i.toInt ∧ i.toInt < (fs a.toNatClampNeg).toInt) ∧ (-1000011) = (-1000012) ∧ u_5.toInt = 2) ∨ ((0 ≤ a.toInt ∧ a.toInt ≤ 7) ∧ ((fl a.toNatClampNeg).toInt = (-1)) ∧ (-1000011) = (-1000011) ∧ u_5.toInt = 1) ∨ (¬ (0 ≤ a.toInt ∧ a.toInt ≤ 7) ∧ (-1000011) = (-1000001) ∧ u_5.toInt = fg.toInt) from by omega) (hP.sub [4, 1, 2, 3, 0] rfl) (hD.sub [4, 1, 2, 3, 0] (by decide) rfl) dX7_set_33
    · subst e_2
      have f_2 : ¬ (fl a.toNatClampNeg).toInt = (-1) ∧ ¬ (0 ≤ i.toInt ∧ 0 ≤ (1 : Int) ∧ i.toInt + (1 : Int) ≤ (fs a.toNatClampNeg).toInt) := f_2
      refine lv_istore (lv' := [(4, .int 2), (0, .ref h), (1, .int a), (2, .int i), (3, .int v)]) hx hb dX7_set_20 hl (by decide) rfl (fun ls hl => ?_)
      refine lv_iload hx hb dX7_set_22 (lv_at hl 0 rfl) ?_
      refine lv_if_eq (tgt := 34) hx hb dX7_set_24 (by decide) (fun c9 => absurd c9 (by decide)) (fun _ => ?_)
      refine lv_aload_n hx hb dX7_set_27 rfl (lv_at hl 1 rfl) ?_
      refine lv_iload hx hb dX7_set_28 (lv_at hl 0 rfl) ?_
      have k_6 := (s_X7_found l D cI cB cQ H.size h rw tp nw ac im fo ak fg 2)
      refine wc_i (WC := [(h, .inr (6, [.ref rw, .ref tp, .ref nw, .ref ac, .ref im, .ref fo, .ref ak, .int fg]))]) (WR := [(ir, .inl (cI, 320, .inl fi)), (rw, .inr (4, [.ref la, .ref sq, .ref ir])), (la, .inl (cI, 8, .inl fl)), (sq, .inl (cI, 8, .inl fs))]) (va_runV (As := [.int 2]) (rest := []) ⟨hx, hb, hml, hown, hts⟩ k_6 (cwV 1 hts gX7_set_X7_found rfl rfl rfl (by decide +kernel) ⟨Nat.le_of_ble_eq_true rfl, Nat.le_of_ble_eq_true rfl⟩) (wp_V hP hK hD hN [0] (by decide) rfl (ci := 6) rfl rfl) rfl rfl hl.1 rfl (lv_room (Nat.le_of_ble_eq_true rfl)) dX7_set_30 ⟨Nat.le_of_ble_eq_true rfl, Nat.le_of_ble_eq_true rfl⟩) hP hD hS hA [0] [1, 2, 3, 4] rfl rfl (by decide) (by decide) (fun r_6 u_6 H locs hw_6 hP hD hS => ?_)
      clear k_6
      have hP : va_P D kl [(ir, .inl (cI, 320, .inl fi)), (rw, .inr (4, [.ref la, .ref sq, .ref ir])), (la, .inl (cI, 8, .inl fl)), (sq, .inl (cI, 8, .inl fs)), (h, .inr (6, [.ref rw, .ref tp, .ref nw, .ref ac, .ref im, .ref fo, .ref ak, .int u_6]))] H := hP
      have hD : va_D A [(ir, .inl (cI, 320, .inl fi)), (rw, .inr (4, [.ref la, .ref sq, .ref ir])), (la, .inl (cI, 8, .inl fl)), (sq, .inl (cI, 8, .inl fs)), (h, .inr (6, [.ref rw, .ref tp, .ref nw, .ref ac, .ref im, .ref fo, .ref ak, .int u_6]))] := hD
      obtain ⟨c6_0, c6_1⟩ := hw_6
      have c6_1 : u_6.toInt = (2 : Int) := c6_1
      obtain rfl : r_6 = (-1000012) := by first | exact c6_0 | exact c6_0.trans (by decide)
      exact wr_i (v := (-1000012)) hx hb hr hlocks hS (u_6, fi) (by exact show ((0 ≤ a.toInt ∧ a.toInt ≤ 7) ∧ ¬ ((fl a.toNatClampNeg).toInt = (-1)) ∧ (0 ≤ i.toInt ∧ i.toInt < (fs a.toNatClampNeg).toInt) ∧ (-1000012) = (cutl (fl a.toNatClampNeg) v).toInt ∧ u_6.toInt = 0) ∨ ((0 ≤ a.toInt ∧ a.toInt ≤ 7) ∧ ¬ ((fl a.toNatClampNeg).toInt = (-1)) ∧ ¬ (0 ≤ i.toInt ∧ i.toInt < (fs a.toNatClampNeg).toInt) ∧ (-1000012) = (-1000012) ∧ u_6.toInt = 2) ∨ ((0 ≤ a.toInt ∧ a.toInt ≤ 7) ∧ ((fl a.toNatClampNeg).toInt = (-1)) ∧ (-1000012) = (-1000011) ∧ u_6.toInt = 1) ∨ (¬ (0 ≤ a.toInt ∧ a.toInt ≤ 7) ∧ (-1000012) = (-1000001) ∧ u_6.toInt = fg.toInt) from by omega) (hP.sub [4, 1, 2, 3, 0] rfl) (hD.sub [4, 1, 2, 3, 0] (by decide) rfl) dX7_set_33
  · subst e_1
    have f_1 : ¬ (0 ≤ a.toInt ∧ a.toInt ≤ 7) := f_1
    refine lv_if_ne (tgt := 10) hx hb dX7_set_4 (by decide) (fun c9 => absurd (by decide) c9) (fun _ => ?_)
    refine lv_ldc (v := (-1000001)) hx hb hown (hts (.constant RX7 68 (-1000001)) (List.mem_of_getElem? (i := 1) rfl)) dX7_set_7 ?_
    exact wr_i (v := (-1000001)) hx hb hr hlocks hS (fg, fi) (by exact show ((0 ≤ a.toInt ∧ a.toInt ≤ 7) ∧ ¬ ((fl a.toNatClampNeg).toInt = (-1)) ∧ (0 ≤ i.toInt ∧ i.toInt < (fs a.toNatClampNeg).toInt) ∧ (-1000001) = (cutl (fl a.toNatClampNeg) v).toInt ∧ fg.toInt = 0) ∨ ((0 ≤ a.toInt ∧ a.toInt ≤ 7) ∧ ¬ ((fl a.toNatClampNeg).toInt = (-1)) ∧ ¬ (0 ≤ i.toInt ∧ i.toInt < (fs a.toNatClampNeg).toInt) ∧ (-1000001) = (-1000012) ∧ fg.toInt = 2) ∨ ((0 ≤ a.toInt ∧ a.toInt ≤ 7) ∧ ((fl a.toNatClampNeg).toInt = (-1)) ∧ (-1000001) = (-1000011) ∧ fg.toInt = 1) ∨ (¬ (0 ≤ a.toInt ∧ a.toInt ≤ 7) ∧ (-1000001) = (-1000001) ∧ fg.toInt = fg.toInt) from by omega) (hP.sub [0, 1, 2, 3, 4] rfl) (hD.sub [0, 1, 2, 3, 4] (by decide) rfl) dX7_set_9
set_option maxHeartbeats 4000000 in
set_option maxRecDepth 100000 in
theorem s_X8_set (l : Launch) (D : va_G) (cI cB cQ : ClassId) (sz : Nat) (h : Nat) (sl : Nat) (zs : Nat) (ln : Nat) (ir : Nat) (tk : Nat) (tb : Nat) (tr : Nat) (fz : Nat) (na : Int32) (su : Int32) (le : Int32) (fu : Int32) (ap : Int32) (pp : Int32) (tc : Int32) (nm : Int32) (a : Int32) (i : Int32) (v : Int32) (zf : Nat → Int32) (lnf : Nat → Int32) (irf : Nat → Int32) (hz : ∀ j, j < 8 → (-1) ≤ (zf j).toInt ∧ (zf j).toInt ≤ 40) : mi l yX8_set wsX8_set ({ frames := 1, cells := 0, slots := 0, locals := 25 }) D cI cB cQ [.ref h, .int a, .int i, .int v] sz [(h, .inr (7, [.ref sl, .int na, .ref zs, .ref ln, .ref ir, .ref tk, .int su, .int le, .ref tb, .int fu, .int ap, .int pp, .ref tr, .int tc, .ref fz, .int nm])), (zs, .inl (cI, 8, .inl zf)), (ln, .inl (cI, 8, .inl lnf)), (ir, .inl (cI, 320, .inl irf))] (fun (r : Int32) (u : Int32 × (Nat → Int32)) => (((0 ≤ a.toInt ∧ a.toInt ≤ 7) ∧ ¬ ((zf a.toNatClampNeg).toInt < 0) ∧ (0 ≤ i.toInt ∧ i.toInt < (zf a.toNatClampNeg).toInt) ∧ r.toInt = (cutl (lnf a.toNatClampNeg) v).toInt ∧ u.1.toInt = 0) ∨ ((0 ≤ a.toInt ∧ a.toInt ≤ 7) ∧ ¬ ((zf a.toNatClampNeg).toInt < 0) ∧ ¬ (0 ≤ i.toInt ∧ i.toInt < (zf a.toNatClampNeg).toInt) ∧ r.toInt = (-1000012) ∧ u.1.toInt = 2) ∨ ((0 ≤ a.toInt ∧ a.toInt ≤ 7) ∧ ((zf a.toNatClampNeg).toInt < 0) ∧ r.toInt = (-1000011) ∧ u.1.toInt = 1) ∨ (¬ (0 ≤ a.toInt ∧ a.toInt ≤ 7) ∧ r.toInt = (-1000001) ∧ u.1.toInt = su.toInt))) (fun u => [(h, .inr (7, [.ref sl, .int na, .ref zs, .ref ln, .ref ir, .ref tk, .int u.1, .int le, .ref tb, .int fu, .int ap, .int pp, .ref tr, .int tc, .ref fz, .int nm])), (zs, .inl (cI, 8, .inl zf)), (ln, .inl (cI, 8, .inl lnf)), (ir, .inl (cI, 320, .inl u.2))]) 0 0 := by
  refine wm_i (cc := cX8_set) (maxL := 4) (ret := (some .int)) (by decide) rfl (Nat.le_of_ble_eq_true rfl) ?_
  intro p e s m below meth c A ls hx hb hr hml hown hts hlocks hin hP hK hD hN hA hl hS
  have hown : s.vm.findClass RX8 = some m.cls := hown
  have hl : lv_has ls 4 [(0, .ref h), (1, .int a), (2, .int i), (3, .int v)] := hl
  change W p l e ({ frames := 1, cells := 0, slots := 0, locals := 25 }) s m ([.ref h, .int a, .int i, .int v] : List Value).toArray below meth c s.heap [] 0 0 (MQ below (va_Qi (fun (r : Int32) (u : Int32 × (Nat → Int32)) => (((0 ≤ a.toInt ∧ a.toInt ≤ 7) ∧ ¬ ((zf a.toNatClampNeg).toInt < 0) ∧ (0 ≤ i.toInt ∧ i.toInt < (zf a.toNatClampNeg).toInt) ∧ r.toInt = (cutl (lnf a.toNatClampNeg) v).toInt ∧ u.1.toInt = 0) ∨ ((0 ≤ a.toInt ∧ a.toInt ≤ 7) ∧ ¬ ((zf a.toNatClampNeg).toInt < 0) ∧ ¬ (0 ≤ i.toInt ∧ i.toInt < (zf a.toNatClampNeg).toInt) ∧ r.toInt = (-1000012) ∧ u.1.toInt = 2) ∨ ((0 ≤ a.toInt ∧ a.toInt ≤ 7) ∧ ((zf a.toNatClampNeg).toInt < 0) ∧ r.toInt = (-1000011) ∧ u.1.toInt = 1) ∨ (¬ (0 ≤ a.toInt ∧ a.toInt ≤ 7) ∧ r.toInt = (-1000001) ∧ u.1.toInt = su.toInt))) (fun u t => wb D A ((fun u => [(h, .inr (7, [.ref sl, .int na, .ref zs, .ref ln, .ref ir, .ref tk, .int u.1, .int le, .ref tb, .int fu, .int ap, .int pp, .ref tr, .int tc, .ref fz, .int nm])), (zs, .inl (cI, 8, .inl zf)), (ln, .inl (cI, 8, .inl lnf)), (ir, .inl (cI, 320, .inl u.2))]) u) t) A) ([.ref h, .int a, .int i, .int v] : List Value).toArray s 0 0 A) (F0 m 0 ls [])
  have hcut := cutl_c (lnf a.toNatClampNeg) v
  refine lv_iload_n hx hb dX8_set_0 rfl (lv_at hl 1 rfl) ?_
  refine lv_i2l (v := (a.toInt64)) hx hb dX8_set_1 rfl ?_
  refine lv_lconst (v := 0) hx hb dX8_set_2 (by decide) ?_
  refine lv_ldc2 (v := 7) hx hb hown (hts (.constantLong RX8 40 (7)) (List.mem_of_getElem? (i := 1) rfl)) dX8_set_3 ?_
  have k_1 := (g_X8_in l D cI cB cQ s.heap.size (a.toInt64) 0 7)
  refine wc_i (WC := []) (WR := [(h, .inr (7, [.ref sl, .int na, .ref zs, .ref ln, .ref ir, .ref tk, .int su, .int le, .ref tb, .int fu, .int ap, .int pp, .ref tr, .int tc, .ref fz, .int nm])), (zs, .inl (cI, 8, .inl zf)), (ln, .inl (cI, 8, .inl lnf)), (ir, .inl (cI, 320, .inl irf))]) (va_runS (As := [.long (a.toInt64), .long 0, .long 7]) (rest := []) ⟨hx, hb, hml, hown, hts⟩ k_1 (va_cwS 3 hts gX8_set_X8_in rfl rfl rfl (by decide +kernel) ⟨Nat.le_of_ble_eq_true rfl, Nat.le_of_ble_eq_true rfl⟩) (wp_S hP hK hD hN [] (by decide) rfl) rfl rfl hl.1 rfl (lv_room (Nat.le_of_ble_eq_true rfl)) dX8_set_6 ⟨Nat.le_of_ble_eq_true rfl, Nat.le_of_ble_eq_true rfl⟩) hP hD hS hA [] [0, 1, 2, 3] rfl rfl (by decide) (by decide) (fun r_1 u_1 H locs hw_1 hP hD hS => ?_)
  clear k_1
  have hP : va_P D kl [(h, .inr (7, [.ref sl, .int na, .ref zs, .ref ln, .ref ir, .ref tk, .int su, .int le, .ref tb, .int fu, .int ap, .int pp, .ref tr, .int tc, .ref fz, .int nm])), (zs, .inl (cI, 8, .inl zf)), (ln, .inl (cI, 8, .inl lnf)), (ir, .inl (cI, 320, .inl irf))] H := hP
  have hD : va_D A [(h, .inr (7, [.ref sl, .int na, .ref zs, .ref ln, .ref ir, .ref tk, .int su, .int le, .ref tb, .int fu, .int ap, .int pp, .ref tr, .int tc, .ref fz, .int nm])), (zs, .inl (cI, 8, .inl zf)), (ln, .inl (cI, 8, .inl lnf)), (ir, .inl (cI, 320, .inl irf))] := hD
  have c1_0 := hw_1
  rcases c1_0 with ⟨e_1, f_1⟩ | ⟨e_1, f_1⟩
  · subst e_1
    have f_1 : (0 : Int) ≤ a.toInt ∧ a.toInt ≤ (7 : Int) := by
      have h8 := f_1
      try simp only [zl_of] at h8
      exact h8
    refine lv_if_ne (tgt := 15) hx hb dX8_set_9 (by decide) (fun _ => ?_) (fun c9 => absurd c9 (by decide))
    refine lv_aload_n hx hb dX8_set_15 rfl (lv_at hl 0 rfl) ?_
    refine va_get (D := D) (ci := 7) (v := .ref zs) (C := RX8) (T := TX8) (N := 16) hx hb hts (fun _ h => List.mem_cons_of_mem _ (List.mem_append_right _ h)) hown hK hP 0 rfl rfl 2 (by decide) (hts (.fieldLink RX8 13 "WinterWalkModel" "size" "[I") (List.mem_of_getElem? (i := 3) rfl)) (fun _ h9 => h9) rfl dX8_set_16 ?_
    refine lv_iload_n hx hb dX8_set_19 rfl (lv_at hl 1 rfl) ?_
    refine va_iald hx hb hK hP 1 0 rfl rfl (zi_in (by omega) (by omega)) dX8_set_20 ?_
    refine lv_topi (fun x_2 ex_2 => ?_)
    have f_2 : (-1) ≤ x_2.toInt ∧ x_2.toInt ≤ 40 := by rw [ex_2]; exact hz _ (zi_cl (by omega) (by omega))
    have g_2 : x_2.toInt = (zf (a : Int32).toNatClampNeg).toInt := by rw [ex_2]
    refine lv_if_ge (tgt := 30) hx hb dX8_set_21 (by decide) (fun c_3 => ?_) (fun c_3 => ?_)
    · have f_3 : 0 ≤ x_2.toInt := zi_le c_3
      refine lv_iload_n hx hb dX8_set_30 rfl (lv_at hl 2 rfl) ?_
      refine lv_i2l (v := (i.toInt64)) hx hb dX8_set_31 rfl ?_
      refine lv_lconst (v := 0) hx hb dX8_set_32 (by decide) ?_
      refine lv_aload_n hx hb dX8_set_33 rfl (lv_at hl 0 rfl) ?_
      refine va_get (D := D) (ci := 7) (v := .ref zs) (C := RX8) (T := TX8) (N := 16) hx hb hts (fun _ h => List.mem_cons_of_mem _ (List.mem_append_right _ h)) hown hK hP 0 rfl rfl 2 (by decide) (hts (.fieldLink RX8 13 "WinterWalkModel" "size" "[I") (List.mem_of_getElem? (i := 3) rfl)) (fun _ h9 => h9) rfl dX8_set_34 ?_
      refine lv_iload_n hx hb dX8_set_37 rfl (lv_at hl 1 rfl) ?_
      refine va_iald hx hb hK hP 1 0 rfl rfl (zi_in (by omega) (by omega)) dX8_set_38 ?_
      refine lv_topi (fun x_4 ex_4 => ?_)
      have f_4 : (-1) ≤ x_4.toInt ∧ x_4.toInt ≤ 40 := by rw [ex_4]; exact hz _ (zi_cl (by omega) (by omega))
      have g_4 : x_4.toInt = (zf (a : Int32).toNatClampNeg).toInt := by rw [ex_4]
      refine lv_iconst (v := 1) hx hb dX8_set_39 (by decide) ?_
      refine lv_isub hx hb dX8_set_40 ?_
      refine lv_topi (fun x_5 ex_5 => ?_)
      have e_5 : x_5.toInt = x_4.toInt - 1 := by rw [ex_5]; exact zi_sub (rfl) (by decide) (by omega) (by omega)
      clear ex_5
      refine lv_i2l (v := (x_5.toInt64)) hx hb dX8_set_41 rfl ?_
      have k_6 := (g_X8_in l D cI cB cQ H.size (i.toInt64) 0 (x_5.toInt64))
      refine wc_i (WC := []) (WR := [(h, .inr (7, [.ref sl, .int na, .ref zs, .ref ln, .ref ir, .ref tk, .int su, .int le, .ref tb, .int fu, .int ap, .int pp, .ref tr, .int tc, .ref fz, .int nm])), (zs, .inl (cI, 8, .inl zf)), (ln, .inl (cI, 8, .inl lnf)), (ir, .inl (cI, 320, .inl irf))]) (va_runS (As := [.long (i.toInt64), .long 0, .long (x_5.toInt64)]) (rest := []) ⟨hx, hb, hml, hown, hts⟩ k_6 (va_cwS 3 hts gX8_set_X8_in rfl rfl rfl (by decide +kernel) ⟨Nat.le_of_ble_eq_true rfl, Nat.le_of_ble_eq_true rfl⟩) (wp_S hP hK hD hN [] (by decide) rfl) rfl rfl hl.1 rfl (lv_room (Nat.le_of_ble_eq_true rfl)) dX8_set_42 ⟨Nat.le_of_ble_eq_true rfl, Nat.le_of_ble_eq_true rfl⟩) hP hD hS hA [] [0, 1, 2, 3] rfl rfl (by decide) (by decide) (fun r_6 u_6 H locs hw_6 hP hD hS => ?_)
      clear k_6
      have hP : va_P D kl [(h, .inr (7, [.ref sl, .int na, .ref zs, .ref ln, .ref ir, .ref tk, .int su, .int le, .ref tb, .int fu, .int ap, .int pp, .ref tr, .int tc, .ref fz, .int nm])), (zs, .inl (cI, 8, .inl zf)), (ln, .inl (cI, 8, .inl lnf)), (ir, .inl (cI, 320, .inl irf))] H := hP
      have hD : va_D A [(h, .inr (7, [.ref sl, .int na, .ref zs, .ref ln, .ref ir, .ref tk, .int su, .int le, .ref tb, .int fu, .int ap, .int pp, .ref tr, .int tc, .ref fz, .int nm])), (zs, .inl (cI, 8, .inl zf)), (ln, .inl (cI, 8, .inl lnf)), (ir, .inl (cI, 320, .inl irf))] := hD
      have c6_0 := hw_6
      rcases c6_0 with ⟨e_6, f_6⟩ | ⟨e_6, f_6⟩
      · subst e_6
        have f_6 : (0 : Int) ≤ i.toInt ∧ i.toInt ≤ x_5.toInt := by
          have h8 := f_6
          try simp only [zl_of] at h8
          exact h8
        refine lv_if_ne (tgt := 54) hx hb dX8_set_45 (by decide) (fun _ => ?_) (fun c9 => absurd c9 (by decide))
        refine lv_aload_n hx hb dX8_set_54 rfl (lv_at hl 0 rfl) ?_
        refine va_get (D := D) (ci := 7) (v := .ref ir) (C := RX8) (T := TX8) (N := 16) hx hb hts (fun _ h => List.mem_cons_of_mem _ (List.mem_append_right _ h)) hown hK hP 0 rfl rfl 4 (by decide) (hts (.fieldLink RX8 19 "WinterWalkModel" "items" "[I") (List.mem_of_getElem? (i := 4) rfl)) (fun _ h9 => h9) rfl dX8_set_55 ?_
        refine lv_bipush (v := 40) hx hb dX8_set_58 (by decide) ?_
        refine lv_iload_n hx hb dX8_set_60 rfl (lv_at hl 1 rfl) ?_
        refine lv_imul hx hb dX8_set_61 ?_
        refine lv_topi (fun x_7 ex_7 => ?_)
        have e_7 : x_7.toInt = 40 * a.toInt := by rw [ex_7]; exact zi_mul (by decide) (rfl) (by omega) (by omega)
        clear ex_7
        refine lv_iload_n hx hb dX8_set_62 rfl (lv_at hl 2 rfl) ?_
        refine lv_iadd hx hb dX8_set_63 ?_
        refine lv_topi (fun x_8 ex_8 => ?_)
        have e_8 : x_8.toInt = x_7.toInt + i.toInt := by rw [ex_8]; exact zi_add (rfl) (rfl) (by omega) (by omega)
        clear ex_8
        refine lv_aload_n hx hb dX8_set_64 rfl (lv_at hl 0 rfl) ?_
        refine va_get (D := D) (ci := 7) (v := .ref ln) (C := RX8) (T := TX8) (N := 16) hx hb hts (fun _ h => List.mem_cons_of_mem _ (List.mem_append_right _ h)) hown hK hP 0 rfl rfl 3 (by decide) (hts (.fieldLink RX8 16 "WinterWalkModel" "lane" "[I") (List.mem_of_getElem? (i := 5) rfl)) (fun _ h9 => h9) rfl dX8_set_65 ?_
        refine lv_iload_n hx hb dX8_set_68 rfl (lv_at hl 1 rfl) ?_
        refine va_iald hx hb hK hP 2 0 rfl rfl (zi_in (by omega) (by omega)) dX8_set_69 ?_
        refine lv_topi (fun x_9 ex_9 => ?_)
        have g_9 : x_9.toInt = (lnf (a : Int32).toNatClampNeg).toInt := by rw [ex_9]
        refine lv_if_ne (tgt := 78) hx hb dX8_set_70 (by decide) (fun c_10 => ?_) (fun c_10 => ?_)
        · have f_10 : ¬ x_9.toInt = 0 := zi_ne c_10
          refine lv_aload_n hx hb dX8_set_78 rfl (lv_at hl 0 rfl) ?_
          refine va_get (D := D) (ci := 7) (v := .ref ln) (C := RX8) (T := TX8) (N := 16) hx hb hts (fun _ h => List.mem_cons_of_mem _ (List.mem_append_right _ h)) hown hK hP 0 rfl rfl 3 (by decide) (hts (.fieldLink RX8 16 "WinterWalkModel" "lane" "[I") (List.mem_of_getElem? (i := 5) rfl)) (fun _ h9 => h9) rfl dX8_set_79 ?_
          refine lv_iload_n hx hb dX8_set_82 rfl (lv_at hl 1 rfl) ?_
          refine va_iald hx hb hK hP 2 0 rfl rfl (zi_in (by omega) (by omega)) dX8_set_83 ?_
          refine lv_topi (fun x_11 ex_11 => ?_)
          have g_11 : x_11.toInt = (lnf (a : Int32).toNatClampNeg).toInt := by rw [ex_11]
          refine lv_iconst (v := 1) hx hb dX8_set_84 (by decide) ?_
          refine lv_icmp_ne (tgt := 93) hx hb dX8_set_85 (by decide) (fun c_12 => ?_) (fun c_12 => ?_)
          · have f_12 : ¬ x_11.toInt = 1 := zi_ne c_12
            refine lv_iload_n hx hb dX8_set_93 rfl (lv_at hl 3 rfl) ?_
            refine va_iast hx hb hK hP hD hS 3 0 rfl rfl (zi_in (by omega) (by omega)) dX8_set_94 (fun H locs hP hD hS => ?_)
            have hP : va_P D kl [(h, .inr (7, [.ref sl, .int na, .ref zs, .ref ln, .ref ir, .ref tk, .int su, .int le, .ref tb, .int fu, .int ap, .int pp, .ref tr, .int tc, .ref fz, .int nm])), (zs, .inl (cI, 8, .inl zf)), (ln, .inl (cI, 8, .inl lnf)), (ir, .inl (cI, 320, .inl (upd irf (x_8 : Int32).toNatClampNeg v)))] H := hP
            have hD : va_D A [(h, .inr (7, [.ref sl, .int na, .ref zs, .ref ln, .ref ir, .ref tk, .int su, .int le, .ref tb, .int fu, .int ap, .int pp, .ref tr, .int tc, .ref fz, .int nm])), (zs, .inl (cI, 8, .inl zf)), (ln, .inl (cI, 8, .inl lnf)), (ir, .inl (cI, 320, .inl (upd irf (x_8 : Int32).toNatClampNeg v)))] := hD
            refine lv_aload_n hx hb dX8_set_95 rfl (lv_at hl 0 rfl) ?_
            refine lv_aload_n hx hb dX8_set_96 rfl (lv_at hl 0 rfl) ?_
            refine va_get (D := D) (ci := 7) (v := .ref ir) (C := RX8) (T := TX8) (N := 16) hx hb hts (fun _ h => List.mem_cons_of_mem _ (List.mem_append_right _ h)) hown hK hP 0 rfl rfl 4 (by decide) (hts (.fieldLink RX8 19 "WinterWalkModel" "items" "[I") (List.mem_of_getElem? (i := 4) rfl)) (fun _ h9 => h9) rfl dX8_set_97 ?_
            refine lv_bipush (v := 40) hx hb dX8_set_100 (by decide) ?_
            refine lv_iload_n hx hb dX8_set_102 rfl (lv_at hl 1 rfl) ?_
            refine lv_imul hx hb dX8_set_103 ?_
            refine lv_topi (fun x_13 ex_13 => ?_)
            have e_13 : x_13.toInt = 40 * a.toInt := by rw [ex_13]; exact zi_mul (by decide) (rfl) (by omega) (by omega)
            clear ex_13
            refine lv_iload_n hx hb dX8_set_104 rfl (lv_at hl 2 rfl) ?_
            refine lv_iadd hx hb dX8_set_105 ?_
            refine lv_topi (fun x_14 ex_14 => ?_)
            have e_14 : x_14.toInt = x_13.toInt + i.toInt := by rw [ex_14]; exact zi_add (rfl) (rfl) (by omega) (by omega)
            clear ex_14
            refine va_iald hx hb hK hP 3 0 rfl rfl (zi_in (by omega) (by omega)) dX8_set_106 ?_
            refine lv_topi (fun x_15 ex_15 => ?_)
            have g_15 : x_15.toInt = (v : Int32).toInt := by rw [ex_15, zu_eq (by omega)]
            have k_16 := (s_X8_told l D cI cB cQ H.size h sl zs ln ir tk tb tr fz na su le fu ap pp tc nm x_15)
            refine wc_i (WC := [(h, .inr (7, [.ref sl, .int na, .ref zs, .ref ln, .ref ir, .ref tk, .int su, .int le, .ref tb, .int fu, .int ap, .int pp, .ref tr, .int tc, .ref fz, .int nm]))]) (WR := [(zs, .inl (cI, 8, .inl zf)), (ln, .inl (cI, 8, .inl lnf)), (ir, .inl (cI, 320, .inl (upd irf (x_8 : Int32).toNatClampNeg v)))]) (va_runV (As := [.int x_15]) (rest := []) ⟨hx, hb, hml, hown, hts⟩ k_16 (cwV 1 hts gX8_set_X8_told rfl rfl rfl (by decide +kernel) ⟨Nat.le_of_ble_eq_true rfl, Nat.le_of_ble_eq_true rfl⟩) (wp_V hP hK hD hN [0] (by decide) rfl (ci := 7) rfl rfl) rfl rfl hl.1 rfl (lv_room (Nat.le_of_ble_eq_true rfl)) dX8_set_107 ⟨Nat.le_of_ble_eq_true rfl, Nat.le_of_ble_eq_true rfl⟩) hP hD hS hA [0] [1, 2, 3] rfl rfl (by decide) (by decide) (fun r_16 u_16 H locs hw_16 hP hD hS => ?_)
            clear k_16
            have hP : va_P D kl [(zs, .inl (cI, 8, .inl zf)), (ln, .inl (cI, 8, .inl lnf)), (ir, .inl (cI, 320, .inl (upd irf (x_8 : Int32).toNatClampNeg v))), (h, .inr (7, [.ref sl, .int na, .ref zs, .ref ln, .ref ir, .ref tk, .int u_16, .int le, .ref tb, .int fu, .int ap, .int pp, .ref tr, .int tc, .ref fz, .int nm]))] H := hP
            have hD : va_D A [(zs, .inl (cI, 8, .inl zf)), (ln, .inl (cI, 8, .inl lnf)), (ir, .inl (cI, 320, .inl (upd irf (x_8 : Int32).toNatClampNeg v))), (h, .inr (7, [.ref sl, .int na, .ref zs, .ref ln, .ref ir, .ref tk, .int u_16, .int le, .ref tb, .int fu, .int ap, .int pp, .ref tr, .int tc, .ref fz, .int nm]))] := hD
            obtain ⟨c16_0, c16_1⟩ := hw_16
            have c16_1 : u_16.toInt = 0 := c16_1
            rw [c16_0]
            exact wr_i (v := x_15) hx hb hr hlocks hS (u_16, (upd irf (x_8 : Int32).toNatClampNeg v)) (by exact show ((0 ≤ a.toInt ∧ a.toInt ≤ 7) ∧ ¬ ((zf a.toNatClampNeg).toInt < 0) ∧ (0 ≤ i.toInt ∧ i.toInt < (zf a.toNatClampNeg).toInt) ∧ x_15.toInt = (cutl (lnf a.toNatClampNeg) v).toInt ∧ u_16.toInt = 0) ∨ ((0 ≤ a.toInt ∧ a.toInt ≤ 7) ∧ ¬ ((zf a.toNatClampNeg).toInt < 0) ∧ ¬ (0 ≤ i.toInt ∧ i.toInt < (zf a.toNatClampNeg).toInt) ∧ x_15.toInt = (-1000012) ∧ u_16.toInt = 2) ∨ ((0 ≤ a.toInt ∧ a.toInt ≤ 7) ∧ ((zf a.toNatClampNeg).toInt < 0) ∧ x_15.toInt = (-1000011) ∧ u_16.toInt = 1) ∨ (¬ (0 ≤ a.toInt ∧ a.toInt ≤ 7) ∧ x_15.toInt = (-1000001) ∧ u_16.toInt = su.toInt) from by omega) (hP.sub [3, 0, 1, 2] rfl) (hD.sub [3, 0, 1, 2] (by decide) rfl) dX8_set_110
          · have f_12 : x_11.toInt = 1 := zi_eq c_12
            refine lv_iload_n hx hb dX8_set_88 rfl (lv_at hl 3 rfl) ?_
            refine lv_i2s (v := (v).toInt16.toInt32) hx hb dX8_set_89 rfl ?_
            refine lv_goto (tgt := 94) hx hb dX8_set_90 (by decide) ?_
            refine va_iast hx hb hK hP hD hS 3 0 rfl rfl (zi_in (by omega) (by omega)) dX8_set_94 (fun H locs hP hD hS => ?_)
            have hP : va_P D kl [(h, .inr (7, [.ref sl, .int na, .ref zs, .ref ln, .ref ir, .ref tk, .int su, .int le, .ref tb, .int fu, .int ap, .int pp, .ref tr, .int tc, .ref fz, .int nm])), (zs, .inl (cI, 8, .inl zf)), (ln, .inl (cI, 8, .inl lnf)), (ir, .inl (cI, 320, .inl (upd irf (x_8 : Int32).toNatClampNeg (v.toInt16.toInt32))))] H := hP
            have hD : va_D A [(h, .inr (7, [.ref sl, .int na, .ref zs, .ref ln, .ref ir, .ref tk, .int su, .int le, .ref tb, .int fu, .int ap, .int pp, .ref tr, .int tc, .ref fz, .int nm])), (zs, .inl (cI, 8, .inl zf)), (ln, .inl (cI, 8, .inl lnf)), (ir, .inl (cI, 320, .inl (upd irf (x_8 : Int32).toNatClampNeg (v.toInt16.toInt32))))] := hD
            refine lv_aload_n hx hb dX8_set_95 rfl (lv_at hl 0 rfl) ?_
            refine lv_aload_n hx hb dX8_set_96 rfl (lv_at hl 0 rfl) ?_
            refine va_get (D := D) (ci := 7) (v := .ref ir) (C := RX8) (T := TX8) (N := 16) hx hb hts (fun _ h => List.mem_cons_of_mem _ (List.mem_append_right _ h)) hown hK hP 0 rfl rfl 4 (by decide) (hts (.fieldLink RX8 19 "WinterWalkModel" "items" "[I") (List.mem_of_getElem? (i := 4) rfl)) (fun _ h9 => h9) rfl dX8_set_97 ?_
            refine lv_bipush (v := 40) hx hb dX8_set_100 (by decide) ?_
            refine lv_iload_n hx hb dX8_set_102 rfl (lv_at hl 1 rfl) ?_
            refine lv_imul hx hb dX8_set_103 ?_
            refine lv_topi (fun x_17 ex_17 => ?_)
            have e_17 : x_17.toInt = 40 * a.toInt := by rw [ex_17]; exact zi_mul (by decide) (rfl) (by omega) (by omega)
            clear ex_17
            refine lv_iload_n hx hb dX8_set_104 rfl (lv_at hl 2 rfl) ?_
            refine lv_iadd hx hb dX8_set_105 ?_
            refine lv_topi (fun x_18 ex_18 => ?_)
            have e_18 : x_18.toInt = x_17.toInt + i.toInt := by rw [ex_18]; exact zi_add (rfl) (rfl) (by omega) (by omega)
            clear ex_18
            refine va_iald hx hb hK hP 3 0 rfl rfl (zi_in (by omega) (by omega)) dX8_set_106 ?_
            refine lv_topi (fun x_19 ex_19 => ?_)
            have g_19 : x_19.toInt = ((v.toInt16.toInt32) : Int32).toInt := by rw [ex_19, zu_eq (by omega)]
            have k_20 := (s_X8_told l D cI cB cQ H.size h sl zs ln ir tk tb tr fz na su le fu ap pp tc nm x_19)
            refine wc_i (WC := [(h, .inr (7, [.ref sl, .int na, .ref zs, .ref ln, .ref ir, .ref tk, .int su, .int le, .ref tb, .int fu, .int ap, .int pp, .ref tr, .int tc, .ref fz, .int nm]))]) (WR := [(zs, .inl (cI, 8, .inl zf)), (ln, .inl (cI, 8, .inl lnf)), (ir, .inl (cI, 320, .inl (upd irf (x_8 : Int32).toNatClampNeg (v.toInt16.toInt32))))]) (va_runV (As := [.int x_19]) (rest := []) ⟨hx, hb, hml, hown, hts⟩ k_20 (cwV 1 hts gX8_set_X8_told rfl rfl rfl (by decide +kernel) ⟨Nat.le_of_ble_eq_true rfl, Nat.le_of_ble_eq_true rfl⟩) (wp_V hP hK hD hN [0] (by decide) rfl (ci := 7) rfl rfl) rfl rfl hl.1 rfl (lv_room (Nat.le_of_ble_eq_true rfl)) dX8_set_107 ⟨Nat.le_of_ble_eq_true rfl, Nat.le_of_ble_eq_true rfl⟩) hP hD hS hA [0] [1, 2, 3] rfl rfl (by decide) (by decide) (fun r_20 u_20 H locs hw_20 hP hD hS => ?_)
            clear k_20
            have hP : va_P D kl [(zs, .inl (cI, 8, .inl zf)), (ln, .inl (cI, 8, .inl lnf)), (ir, .inl (cI, 320, .inl (upd irf (x_8 : Int32).toNatClampNeg (v.toInt16.toInt32)))), (h, .inr (7, [.ref sl, .int na, .ref zs, .ref ln, .ref ir, .ref tk, .int u_20, .int le, .ref tb, .int fu, .int ap, .int pp, .ref tr, .int tc, .ref fz, .int nm]))] H := hP
            have hD : va_D A [(zs, .inl (cI, 8, .inl zf)), (ln, .inl (cI, 8, .inl lnf)), (ir, .inl (cI, 320, .inl (upd irf (x_8 : Int32).toNatClampNeg (v.toInt16.toInt32)))), (h, .inr (7, [.ref sl, .int na, .ref zs, .ref ln, .ref ir, .ref tk, .int u_20, .int le, .ref tb, .int fu, .int ap, .int pp, .ref tr, .int tc, .ref fz, .int nm]))] := hD
            obtain ⟨c20_0, c20_1⟩ := hw_20
            have c20_1 : u_20.toInt = 0 := c20_1
            rw [c20_0]
            exact wr_i (v := x_19) hx hb hr hlocks hS (u_20, (upd irf (x_8 : Int32).toNatClampNeg (v.toInt16.toInt32))) (by exact show ((0 ≤ a.toInt ∧ a.toInt ≤ 7) ∧ ¬ ((zf a.toNatClampNeg).toInt < 0) ∧ (0 ≤ i.toInt ∧ i.toInt < (zf a.toNatClampNeg).toInt) ∧ x_19.toInt = (cutl (lnf a.toNatClampNeg) v).toInt ∧ u_20.toInt = 0) ∨ ((0 ≤ a.toInt ∧ a.toInt ≤ 7) ∧ ¬ ((zf a.toNatClampNeg).toInt < 0) ∧ ¬ (0 ≤ i.toInt ∧ i.toInt < (zf a.toNatClampNeg).toInt) ∧ x_19.toInt = (-1000012) ∧ u_20.toInt = 2) ∨ ((0 ≤ a.toInt ∧ a.toInt ≤ 7) ∧ ((zf a.toNatClampNeg).toInt < 0) ∧ x_19.toInt = (-1000011) ∧ u_20.toInt = 1) ∨ (¬ (0 ≤ a.toInt ∧ a.toInt ≤ 7) ∧ x_19.toInt = (-1000001) ∧ u_20.toInt = su.toInt) from by omega) (hP.sub [3, 0, 1, 2] rfl) (hD.sub [3, 0, 1, 2] (by decide) rfl) dX8_set_110
        · have f_10 : x_9.toInt = 0 := zi_eq c_10
          refine lv_iload_n hx hb dX8_set_73 rfl (lv_at hl 3 rfl) ?_
          refine lv_i2b (v := (v).toInt8.toInt32) hx hb dX8_set_74 rfl ?_
          refine lv_goto (tgt := 94) hx hb dX8_set_75 (by decide) ?_
          refine va_iast hx hb hK hP hD hS 3 0 rfl rfl (zi_in (by omega) (by omega)) dX8_set_94 (fun H locs hP hD hS => ?_)
          have hP : va_P D kl [(h, .inr (7, [.ref sl, .int na, .ref zs, .ref ln, .ref ir, .ref tk, .int su, .int le, .ref tb, .int fu, .int ap, .int pp, .ref tr, .int tc, .ref fz, .int nm])), (zs, .inl (cI, 8, .inl zf)), (ln, .inl (cI, 8, .inl lnf)), (ir, .inl (cI, 320, .inl (upd irf (x_8 : Int32).toNatClampNeg (v.toInt8.toInt32))))] H := hP
          have hD : va_D A [(h, .inr (7, [.ref sl, .int na, .ref zs, .ref ln, .ref ir, .ref tk, .int su, .int le, .ref tb, .int fu, .int ap, .int pp, .ref tr, .int tc, .ref fz, .int nm])), (zs, .inl (cI, 8, .inl zf)), (ln, .inl (cI, 8, .inl lnf)), (ir, .inl (cI, 320, .inl (upd irf (x_8 : Int32).toNatClampNeg (v.toInt8.toInt32))))] := hD
          refine lv_aload_n hx hb dX8_set_95 rfl (lv_at hl 0 rfl) ?_
          refine lv_aload_n hx hb dX8_set_96 rfl (lv_at hl 0 rfl) ?_
          refine va_get (D := D) (ci := 7) (v := .ref ir) (C := RX8) (T := TX8) (N := 16) hx hb hts (fun _ h => List.mem_cons_of_mem _ (List.mem_append_right _ h)) hown hK hP 0 rfl rfl 4 (by decide) (hts (.fieldLink RX8 19 "WinterWalkModel" "items" "[I") (List.mem_of_getElem? (i := 4) rfl)) (fun _ h9 => h9) rfl dX8_set_97 ?_
          refine lv_bipush (v := 40) hx hb dX8_set_100 (by decide) ?_
          refine lv_iload_n hx hb dX8_set_102 rfl (lv_at hl 1 rfl) ?_
          refine lv_imul hx hb dX8_set_103 ?_
          refine lv_topi (fun x_21 ex_21 => ?_)
          have e_21 : x_21.toInt = 40 * a.toInt := by rw [ex_21]; exact zi_mul (by decide) (rfl) (by omega) (by omega)
          clear ex_21
          refine lv_iload_n hx hb dX8_set_104 rfl (lv_at hl 2 rfl) ?_
          refine lv_iadd hx hb dX8_set_105 ?_
          refine lv_topi (fun x_22 ex_22 => ?_)
          have e_22 : x_22.toInt = x_21.toInt + i.toInt := by rw [ex_22]; exact zi_add (rfl) (rfl) (by omega) (by omega)
          clear ex_22
          refine va_iald hx hb hK hP 3 0 rfl rfl (zi_in (by omega) (by omega)) dX8_set_106 ?_
          refine lv_topi (fun x_23 ex_23 => ?_)
          have g_23 : x_23.toInt = ((v.toInt8.toInt32) : Int32).toInt := by rw [ex_23, zu_eq (by omega)]
          have k_24 := (s_X8_told l D cI cB cQ H.size h sl zs ln ir tk tb tr fz na su le fu ap pp tc nm x_23)
          refine wc_i (WC := [(h, .inr (7, [.ref sl, .int na, .ref zs, .ref ln, .ref ir, .ref tk, .int su, .int le, .ref tb, .int fu, .int ap, .int pp, .ref tr, .int tc, .ref fz, .int nm]))]) (WR := [(zs, .inl (cI, 8, .inl zf)), (ln, .inl (cI, 8, .inl lnf)), (ir, .inl (cI, 320, .inl (upd irf (x_8 : Int32).toNatClampNeg (v.toInt8.toInt32))))]) (va_runV (As := [.int x_23]) (rest := []) ⟨hx, hb, hml, hown, hts⟩ k_24 (cwV 1 hts gX8_set_X8_told rfl rfl rfl (by decide +kernel) ⟨Nat.le_of_ble_eq_true rfl, Nat.le_of_ble_eq_true rfl⟩) (wp_V hP hK hD hN [0] (by decide) rfl (ci := 7) rfl rfl) rfl rfl hl.1 rfl (lv_room (Nat.le_of_ble_eq_true rfl)) dX8_set_107 ⟨Nat.le_of_ble_eq_true rfl, Nat.le_of_ble_eq_true rfl⟩) hP hD hS hA [0] [1, 2, 3] rfl rfl (by decide) (by decide) (fun r_24 u_24 H locs hw_24 hP hD hS => ?_)
          clear k_24
          have hP : va_P D kl [(zs, .inl (cI, 8, .inl zf)), (ln, .inl (cI, 8, .inl lnf)), (ir, .inl (cI, 320, .inl (upd irf (x_8 : Int32).toNatClampNeg (v.toInt8.toInt32)))), (h, .inr (7, [.ref sl, .int na, .ref zs, .ref ln, .ref ir, .ref tk, .int u_24, .int le, .ref tb, .int fu, .int ap, .int pp, .ref tr, .int tc, .ref fz, .int nm]))] H := hP
          have hD : va_D A [(zs, .inl (cI, 8, .inl zf)), (ln, .inl (cI, 8, .inl lnf)), (ir, .inl (cI, 320, .inl (upd irf (x_8 : Int32).toNatClampNeg (v.toInt8.toInt32)))), (h, .inr (7, [.ref sl, .int na, .ref zs, .ref ln, .ref ir, .ref tk, .int u_24, .int le, .ref tb, .int fu, .int ap, .int pp, .ref tr, .int tc, .ref fz, .int nm]))] := hD
          obtain ⟨c24_0, c24_1⟩ := hw_24
          have c24_1 : u_24.toInt = 0 := c24_1
          rw [c24_0]
          exact wr_i (v := x_23) hx hb hr hlocks hS (u_24, (upd irf (x_8 : Int32).toNatClampNeg (v.toInt8.toInt32))) (by exact show ((0 ≤ a.toInt ∧ a.toInt ≤ 7) ∧ ¬ ((zf a.toNatClampNeg).toInt < 0) ∧ (0 ≤ i.toInt ∧ i.toInt < (zf a.toNatClampNeg).toInt) ∧ x_23.toInt = (cutl (lnf a.toNatClampNeg) v).toInt ∧ u_24.toInt = 0) ∨ ((0 ≤ a.toInt ∧ a.toInt ≤ 7) ∧ ¬ ((zf a.toNatClampNeg).toInt < 0) ∧ ¬ (0 ≤ i.toInt ∧ i.toInt < (zf a.toNatClampNeg).toInt) ∧ x_23.toInt = (-1000012) ∧ u_24.toInt = 2) ∨ ((0 ≤ a.toInt ∧ a.toInt ≤ 7) ∧ ((zf a.toNatClampNeg).toInt < 0) ∧ x_23.toInt = (-1000011) ∧ u_24.toInt = 1) ∨ (¬ (0 ≤ a.toInt ∧ a.toInt ≤ 7) ∧ x_23.toInt = (-1000001) ∧ u_24.toInt = su.toInt) from by omega) (hP.sub [3, 0, 1, 2] rfl) (hD.sub [3, 0, 1, 2] (by decide) rfl) dX8_set_110
      · subst e_6
        have f_6 : ¬ ((0 : Int) ≤ i.toInt ∧ i.toInt ≤ x_5.toInt) := by
          have h8 := f_6
          try simp only [zl_of] at h8
          exact h8
        refine lv_if_ne (tgt := 54) hx hb dX8_set_45 (by decide) (fun c9 => absurd (by decide) c9) (fun _ => ?_)
        refine lv_aload_n hx hb dX8_set_48 rfl (lv_at hl 0 rfl) ?_
        refine lv_iconst (v := 2) hx hb dX8_set_49 (by decide) ?_
        have k_25 := (s_X8_finds l D cI cB cQ H.size h sl zs ln ir tk tb tr fz na su le fu ap pp tc nm 2)
        refine wc_i (WC := [(h, .inr (7, [.ref sl, .int na, .ref zs, .ref ln, .ref ir, .ref tk, .int su, .int le, .ref tb, .int fu, .int ap, .int pp, .ref tr, .int tc, .ref fz, .int nm]))]) (WR := [(zs, .inl (cI, 8, .inl zf)), (ln, .inl (cI, 8, .inl lnf)), (ir, .inl (cI, 320, .inl irf))]) (va_runV (As := [.int 2]) (rest := []) ⟨hx, hb, hml, hown, hts⟩ k_25 (cwV 1 hts gX8_set_X8_finds rfl rfl rfl (by decide +kernel) ⟨Nat.le_of_ble_eq_true rfl, Nat.le_of_ble_eq_true rfl⟩) (wp_V hP hK hD hN [0] (by decide) rfl (ci := 7) rfl rfl) rfl rfl hl.1 rfl (lv_room (Nat.le_of_ble_eq_true rfl)) dX8_set_50 ⟨Nat.le_of_ble_eq_true rfl, Nat.le_of_ble_eq_true rfl⟩) hP hD hS hA [0] [1, 2, 3] rfl rfl (by decide) (by decide) (fun r_25 u_25 H locs hw_25 hP hD hS => ?_)
        clear k_25
        have hP : va_P D kl [(zs, .inl (cI, 8, .inl zf)), (ln, .inl (cI, 8, .inl lnf)), (ir, .inl (cI, 320, .inl irf)), (h, .inr (7, [.ref sl, .int na, .ref zs, .ref ln, .ref ir, .ref tk, .int u_25, .int le, .ref tb, .int fu, .int ap, .int pp, .ref tr, .int tc, .ref fz, .int nm]))] H := hP
        have hD : va_D A [(zs, .inl (cI, 8, .inl zf)), (ln, .inl (cI, 8, .inl lnf)), (ir, .inl (cI, 320, .inl irf)), (h, .inr (7, [.ref sl, .int na, .ref zs, .ref ln, .ref ir, .ref tk, .int u_25, .int le, .ref tb, .int fu, .int ap, .int pp, .ref tr, .int tc, .ref fz, .int nm]))] := hD
        obtain ⟨c25_0, c25_1⟩ := hw_25
        have c25_1 : u_25.toInt = (2 : Int) := c25_1
        obtain rfl : r_25 = (-1000012) := by first | exact c25_0 | exact c25_0.trans (by decide)
        exact wr_i (v := (-1000012)) hx hb hr hlocks hS (u_25, irf) (by exact show ((0 ≤ a.toInt ∧ a.toInt ≤ 7) ∧ ¬ ((zf a.toNatClampNeg).toInt < 0) ∧ (0 ≤ i.toInt ∧ i.toInt < (zf a.toNatClampNeg).toInt) ∧ (-1000012) = (cutl (lnf a.toNatClampNeg) v).toInt ∧ u_25.toInt = 0) ∨ ((0 ≤ a.toInt ∧ a.toInt ≤ 7) ∧ ¬ ((zf a.toNatClampNeg).toInt < 0) ∧ ¬ (0 ≤ i.toInt ∧ i.toInt < (zf a.toNatClampNeg).toInt) ∧ (-1000012) = (-1000012) ∧ u_25.toInt = 2) ∨ ((0 ≤ a.toInt ∧ a.toInt ≤ 7) ∧ ((zf a.toNatClampNeg).toInt < 0) ∧ (-1000012) = (-1000011) ∧ u_25.toInt = 1) ∨ (¬ (0 ≤ a.toInt ∧ a.toInt ≤ 7) ∧ (-1000012) = (-1000001) ∧ u_25.toInt = su.toInt) from by omega) (hP.sub [3, 0, 1, 2] rfl) (hD.sub [3, 0, 1, 2] (by decide) rfl) dX8_set_53
    · have f_3 : ¬ 0 ≤ x_2.toInt := zi_nle c_3
      refine lv_aload_n hx hb dX8_set_24 rfl (lv_at hl 0 rfl) ?_
      refine lv_iconst (v := 1) hx hb dX8_set_25 (by decide) ?_
      have k_26 := (s_X8_finds l D cI cB cQ H.size h sl zs ln ir tk tb tr fz na su le fu ap pp tc nm 1)
      refine wc_i (WC := [(h, .inr (7, [.ref sl, .int na, .ref zs, .ref ln, .ref ir, .ref tk, .int su, .int le, .ref tb, .int fu, .int ap, .int pp, .ref tr, .int tc, .ref fz, .int nm]))]) (WR := [(zs, .inl (cI, 8, .inl zf)), (ln, .inl (cI, 8, .inl lnf)), (ir, .inl (cI, 320, .inl irf))]) (va_runV (As := [.int 1]) (rest := []) ⟨hx, hb, hml, hown, hts⟩ k_26 (cwV 1 hts gX8_set_X8_finds rfl rfl rfl (by decide +kernel) ⟨Nat.le_of_ble_eq_true rfl, Nat.le_of_ble_eq_true rfl⟩) (wp_V hP hK hD hN [0] (by decide) rfl (ci := 7) rfl rfl) rfl rfl hl.1 rfl (lv_room (Nat.le_of_ble_eq_true rfl)) dX8_set_26 ⟨Nat.le_of_ble_eq_true rfl, Nat.le_of_ble_eq_true rfl⟩) hP hD hS hA [0] [1, 2, 3] rfl rfl (by decide) (by decide) (fun r_26 u_26 H locs hw_26 hP hD hS => ?_)
      clear k_26
      have hP : va_P D kl [(zs, .inl (cI, 8, .inl zf)), (ln, .inl (cI, 8, .inl lnf)), (ir, .inl (cI, 320, .inl irf)), (h, .inr (7, [.ref sl, .int na, .ref zs, .ref ln, .ref ir, .ref tk, .int u_26, .int le, .ref tb, .int fu, .int ap, .int pp, .ref tr, .int tc, .ref fz, .int nm]))] H := hP
      have hD : va_D A [(zs, .inl (cI, 8, .inl zf)), (ln, .inl (cI, 8, .inl lnf)), (ir, .inl (cI, 320, .inl irf)), (h, .inr (7, [.ref sl, .int na, .ref zs, .ref ln, .ref ir, .ref tk, .int u_26, .int le, .ref tb, .int fu, .int ap, .int pp, .ref tr, .int tc, .ref fz, .int nm]))] := hD
      obtain ⟨c26_0, c26_1⟩ := hw_26
      have c26_1 : u_26.toInt = (1 : Int) := c26_1
      obtain rfl : r_26 = (-1000011) := by first | exact c26_0 | exact c26_0.trans (by decide)
      exact wr_i (v := (-1000011)) hx hb hr hlocks hS (u_26, irf) (by exact show ((0 ≤ a.toInt ∧ a.toInt ≤ 7) ∧ ¬ ((zf a.toNatClampNeg).toInt < 0) ∧ (0 ≤ i.toInt ∧ i.toInt < (zf a.toNatClampNeg).toInt) ∧ (-1000011) = (cutl (lnf a.toNatClampNeg) v).toInt ∧ u_26.toInt = 0) ∨ ((0 ≤ a.toInt ∧ a.toInt ≤ 7) ∧ ¬ ((zf a.toNatClampNeg).toInt < 0) ∧ ¬ (0 ≤ i.toInt ∧ i.toInt < (zf a.toNatClampNeg).toInt) ∧ (-1000011) = (-1000012) ∧ u_26.toInt = 2) ∨ ((0 ≤ a.toInt ∧ a.toInt ≤ 7) ∧ ((zf a.toNatClampNeg).toInt < 0) ∧ (-1000011) = (-1000011) ∧ u_26.toInt = 1) ∨ (¬ (0 ≤ a.toInt ∧ a.toInt ≤ 7) ∧ (-1000011) = (-1000001) ∧ u_26.toInt = su.toInt) from by omega) (hP.sub [3, 0, 1, 2] rfl) (hD.sub [3, 0, 1, 2] (by decide) rfl) dX8_set_29
  · subst e_1
    have f_1 : ¬ ((0 : Int) ≤ a.toInt ∧ a.toInt ≤ (7 : Int)) := by
      have h8 := f_1
      try simp only [zl_of] at h8
      exact h8
    refine lv_if_ne (tgt := 15) hx hb dX8_set_9 (by decide) (fun c9 => absurd (by decide) c9) (fun _ => ?_)
    refine lv_ldc (v := (-1000001)) hx hb hown (hts (.constant RX8 48 (-1000001)) (List.mem_of_getElem? (i := 2) rfl)) dX8_set_12 ?_
    exact wr_i (v := (-1000001)) hx hb hr hlocks hS (su, irf) (by exact show ((0 ≤ a.toInt ∧ a.toInt ≤ 7) ∧ ¬ ((zf a.toNatClampNeg).toInt < 0) ∧ (0 ≤ i.toInt ∧ i.toInt < (zf a.toNatClampNeg).toInt) ∧ (-1000001) = (cutl (lnf a.toNatClampNeg) v).toInt ∧ su.toInt = 0) ∨ ((0 ≤ a.toInt ∧ a.toInt ≤ 7) ∧ ¬ ((zf a.toNatClampNeg).toInt < 0) ∧ ¬ (0 ≤ i.toInt ∧ i.toInt < (zf a.toNatClampNeg).toInt) ∧ (-1000001) = (-1000012) ∧ su.toInt = 2) ∨ ((0 ≤ a.toInt ∧ a.toInt ≤ 7) ∧ ((zf a.toNatClampNeg).toInt < 0) ∧ (-1000001) = (-1000011) ∧ su.toInt = 1) ∨ (¬ (0 ≤ a.toInt ∧ a.toInt ≤ 7) ∧ (-1000001) = (-1000001) ∧ su.toInt = su.toInt) from by omega) (hP.sub [0, 1, 2, 3] rfl) (hD.sub [0, 1, 2, 3] (by decide) rfl) dX8_set_14
set_option maxHeartbeats 4000000 in
set_option maxRecDepth 100000 in
theorem s_X7_copy (l : Launch) (D : va_G) (cI cB cQ : ClassId) (sz : Nat) (h : Nat) (rw : Nat) (tp : Nat) (nw : Nat) (ac : Nat) (im : Nat) (fo : Nat) (ak : Nat) (la : Nat) (sq : Nat) (ir : Nat) (fg : Int32) (a : Int32) (i : Int32) (b : Int32) (j : Int32) (n : Int32) (fl : Nat → Int32) (fs : Nat → Int32) (fi : Nat → Int32) (hs : ∀ j, j < 8 → 0 ≤ (fs j).toInt ∧ (fs j).toInt ≤ 40) : mi l yX7_copy wsX7_copy ({ frames := 2, cells := 0, slots := 0, locals := 105 }) D cI cB cQ [.ref h, .int a, .int i, .int b, .int j, .int n] sz [(h, .inr (6, [.ref rw, .ref tp, .ref nw, .ref ac, .ref im, .ref fo, .ref ak, .int fg])), (rw, .inr (4, [.ref la, .ref sq, .ref ir])), (la, .inl (cI, 8, .inl fl)), (sq, .inl (cI, 8, .inl fs)), (ir, .inl (cI, 320, .inl fi))] (fun (r : Int32) (u : Int32 × (Nat → Int32)) => ((((0 ≤ a.toInt ∧ a.toInt ≤ 7) ∧ (0 ≤ b.toInt ∧ b.toInt ≤ 7)) ∧ ¬ ((fl a.toNatClampNeg).toInt = (-1)) ∧ ¬ ((fl b.toNatClampNeg).toInt = (-1)) ∧ (fl a.toNatClampNeg).toInt = (fl b.toNatClampNeg).toInt ∧ ((0 ≤ i.toInt ∧ 0 ≤ n.toInt ∧ i.toInt + n.toInt ≤ (fs a.toNatClampNeg).toInt) ∧ 0 ≤ j.toInt ∧ j.toInt + n.toInt ≤ (fs b.toNatClampNeg).toInt) ∧ r.toInt = n.toInt ∧ u.1.toInt = 0) ∨ (((0 ≤ a.toInt ∧ a.toInt ≤ 7) ∧ (0 ≤ b.toInt ∧ b.toInt ≤ 7)) ∧ ¬ ((fl a.toNatClampNeg).toInt = (-1)) ∧ ¬ ((fl b.toNatClampNeg).toInt = (-1)) ∧ (fl a.toNatClampNeg).toInt = (fl b.toNatClampNeg).toInt ∧ ¬ ((0 ≤ i.toInt ∧ 0 ≤ n.toInt ∧ i.toInt + n.toInt ≤ (fs a.toNatClampNeg).toInt) ∧ 0 ≤ j.toInt ∧ j.toInt + n.toInt ≤ (fs b.toNatClampNeg).toInt) ∧ r.toInt = (-1000012) ∧ u.1.toInt = 2) ∨ (((0 ≤ a.toInt ∧ a.toInt ≤ 7) ∧ (0 ≤ b.toInt ∧ b.toInt ≤ 7)) ∧ ¬ ((fl a.toNatClampNeg).toInt = (-1)) ∧ ¬ ((fl b.toNatClampNeg).toInt = (-1)) ∧ ¬ (fl a.toNatClampNeg).toInt = (fl b.toNatClampNeg).toInt ∧ r.toInt = (-1000015) ∧ u.1.toInt = 5) ∨ (((0 ≤ a.toInt ∧ a.toInt ≤ 7) ∧ (0 ≤ b.toInt ∧ b.toInt ≤ 7)) ∧ (((fl a.toNatClampNeg).toInt = (-1)) ∨ ((fl b.toNatClampNeg).toInt = (-1))) ∧ r.toInt = (-1000011) ∧ u.1.toInt = 1) ∨ (¬ ((0 ≤ a.toInt ∧ a.toInt ≤ 7) ∧ (0 ≤ b.toInt ∧ b.toInt ≤ 7)) ∧ r.toInt = (-1000001) ∧ u.1.toInt = fg.toInt))) (fun u => [(h, .inr (6, [.ref rw, .ref tp, .ref nw, .ref ac, .ref im, .ref fo, .ref ak, .int u.1])), (rw, .inr (4, [.ref la, .ref sq, .ref ir])), (la, .inl (cI, 8, .inl fl)), (sq, .inl (cI, 8, .inl fs)), (ir, .inl (cI, 320, .inl u.2))]) 0 0 := by
  refine wm_i (cc := cX7_copy) (maxL := 7) (ret := (some .int)) (by decide) rfl (Nat.le_of_ble_eq_true rfl) ?_
  intro p e s m below meth c A ls hx hb hr hml hown hts hlocks hin hP hK hD hN hA hl hS
  have hown : s.vm.findClass RX7 = some m.cls := hown
  have hl : lv_has ls 7 [(0, .ref h), (1, .int a), (2, .int i), (3, .int b), (4, .int j), (5, .int n)] := hl
  change W p l e ({ frames := 2, cells := 0, slots := 0, locals := 105 }) s m ([.ref h, .int a, .int i, .int b, .int j, .int n] : List Value).toArray below meth c s.heap [] 0 0 (MQ below (va_Qi (fun (r : Int32) (u : Int32 × (Nat → Int32)) => ((((0 ≤ a.toInt ∧ a.toInt ≤ 7) ∧ (0 ≤ b.toInt ∧ b.toInt ≤ 7)) ∧ ¬ ((fl a.toNatClampNeg).toInt = (-1)) ∧ ¬ ((fl b.toNatClampNeg).toInt = (-1)) ∧ (fl a.toNatClampNeg).toInt = (fl b.toNatClampNeg).toInt ∧ ((0 ≤ i.toInt ∧ 0 ≤ n.toInt ∧ i.toInt + n.toInt ≤ (fs a.toNatClampNeg).toInt) ∧ 0 ≤ j.toInt ∧ j.toInt + n.toInt ≤ (fs b.toNatClampNeg).toInt) ∧ r.toInt = n.toInt ∧ u.1.toInt = 0) ∨ (((0 ≤ a.toInt ∧ a.toInt ≤ 7) ∧ (0 ≤ b.toInt ∧ b.toInt ≤ 7)) ∧ ¬ ((fl a.toNatClampNeg).toInt = (-1)) ∧ ¬ ((fl b.toNatClampNeg).toInt = (-1)) ∧ (fl a.toNatClampNeg).toInt = (fl b.toNatClampNeg).toInt ∧ ¬ ((0 ≤ i.toInt ∧ 0 ≤ n.toInt ∧ i.toInt + n.toInt ≤ (fs a.toNatClampNeg).toInt) ∧ 0 ≤ j.toInt ∧ j.toInt + n.toInt ≤ (fs b.toNatClampNeg).toInt) ∧ r.toInt = (-1000012) ∧ u.1.toInt = 2) ∨ (((0 ≤ a.toInt ∧ a.toInt ≤ 7) ∧ (0 ≤ b.toInt ∧ b.toInt ≤ 7)) ∧ ¬ ((fl a.toNatClampNeg).toInt = (-1)) ∧ ¬ ((fl b.toNatClampNeg).toInt = (-1)) ∧ ¬ (fl a.toNatClampNeg).toInt = (fl b.toNatClampNeg).toInt ∧ r.toInt = (-1000015) ∧ u.1.toInt = 5) ∨ (((0 ≤ a.toInt ∧ a.toInt ≤ 7) ∧ (0 ≤ b.toInt ∧ b.toInt ≤ 7)) ∧ (((fl a.toNatClampNeg).toInt = (-1)) ∨ ((fl b.toNatClampNeg).toInt = (-1))) ∧ r.toInt = (-1000011) ∧ u.1.toInt = 1) ∨ (¬ ((0 ≤ a.toInt ∧ a.toInt ≤ 7) ∧ (0 ≤ b.toInt ∧ b.toInt ≤ 7)) ∧ r.toInt = (-1000001) ∧ u.1.toInt = fg.toInt))) (fun u t => wb D A ((fun u => [(h, .inr (6, [.ref rw, .ref tp, .ref nw, .ref ac, .ref im, .ref fo, .ref ak, .int u.1])), (rw, .inr (4, [.ref la, .ref sq, .ref ir])), (la, .inl (cI, 8, .inl fl)), (sq, .inl (cI, 8, .inl fs)), (ir, .inl (cI, 320, .inl u.2))]) u) t) A) ([.ref h, .int a, .int i, .int b, .int j, .int n] : List Value).toArray s 0 0 A) (F0 m 0 ls [])
  refine lv_iload_n hx hb dX7_copy_0 rfl (lv_at hl 1 rfl) ?_
  have k_1 := (g_X5_isRow l D cI cB cQ s.heap.size a)
  refine wc_i (WC := []) (WR := [(h, .inr (6, [.ref rw, .ref tp, .ref nw, .ref ac, .ref im, .ref fo, .ref ak, .int fg])), (rw, .inr (4, [.ref la, .ref sq, .ref ir])), (la, .inl (cI, 8, .inl fl)), (sq, .inl (cI, 8, .inl fs)), (ir, .inl (cI, 320, .inl fi))]) (va_runS (As := [.int a]) (rest := []) ⟨hx, hb, hml, hown, hts⟩ k_1 (va_cwS 1 hts gX7_copy_X5_isRow rfl rfl rfl (by decide +kernel) ⟨Nat.le_of_ble_eq_true rfl, Nat.le_of_ble_eq_true rfl⟩) (wp_S hP hK hD hN [] (by decide) rfl) rfl rfl hl.1 rfl (lv_room (Nat.le_of_ble_eq_true rfl)) dX7_copy_1 ⟨Nat.le_of_ble_eq_true rfl, Nat.le_of_ble_eq_true rfl⟩) hP hD hS hA [] [0, 1, 2, 3, 4] rfl rfl (by decide) (by decide) (fun r_1 u_1 H locs hw_1 hP hD hS => ?_)
  clear k_1
  have hP : va_P D kl [(h, .inr (6, [.ref rw, .ref tp, .ref nw, .ref ac, .ref im, .ref fo, .ref ak, .int fg])), (rw, .inr (4, [.ref la, .ref sq, .ref ir])), (la, .inl (cI, 8, .inl fl)), (sq, .inl (cI, 8, .inl fs)), (ir, .inl (cI, 320, .inl fi))] H := hP
  have hD : va_D A [(h, .inr (6, [.ref rw, .ref tp, .ref nw, .ref ac, .ref im, .ref fo, .ref ak, .int fg])), (rw, .inr (4, [.ref la, .ref sq, .ref ir])), (la, .inl (cI, 8, .inl fl)), (sq, .inl (cI, 8, .inl fs)), (ir, .inl (cI, 320, .inl fi))] := hD
  have c1_0 := hw_1
  rcases c1_0 with ⟨e_1, f_1⟩ | ⟨e_1, f_1⟩
  · subst e_1
    have f_1 : 0 ≤ a.toInt ∧ a.toInt ≤ 7 := f_1
    refine lv_if_eq (tgt := 14) hx hb dX7_copy_4 (by decide) (fun c9 => absurd c9 (by decide)) (fun _ => ?_)
    refine lv_iload_n hx hb dX7_copy_7 rfl (lv_at hl 3 rfl) ?_
    have k_2 := (g_X5_isRow l D cI cB cQ H.size b)
    refine wc_i (WC := []) (WR := [(h, .inr (6, [.ref rw, .ref tp, .ref nw, .ref ac, .ref im, .ref fo, .ref ak, .int fg])), (rw, .inr (4, [.ref la, .ref sq, .ref ir])), (la, .inl (cI, 8, .inl fl)), (sq, .inl (cI, 8, .inl fs)), (ir, .inl (cI, 320, .inl fi))]) (va_runS (As := [.int b]) (rest := []) ⟨hx, hb, hml, hown, hts⟩ k_2 (va_cwS 1 hts gX7_copy_X5_isRow rfl rfl rfl (by decide +kernel) ⟨Nat.le_of_ble_eq_true rfl, Nat.le_of_ble_eq_true rfl⟩) (wp_S hP hK hD hN [] (by decide) rfl) rfl rfl hl.1 rfl (lv_room (Nat.le_of_ble_eq_true rfl)) dX7_copy_8 ⟨Nat.le_of_ble_eq_true rfl, Nat.le_of_ble_eq_true rfl⟩) hP hD hS hA [] [0, 1, 2, 3, 4] rfl rfl (by decide) (by decide) (fun r_2 u_2 H locs hw_2 hP hD hS => ?_)
    clear k_2
    have hP : va_P D kl [(h, .inr (6, [.ref rw, .ref tp, .ref nw, .ref ac, .ref im, .ref fo, .ref ak, .int fg])), (rw, .inr (4, [.ref la, .ref sq, .ref ir])), (la, .inl (cI, 8, .inl fl)), (sq, .inl (cI, 8, .inl fs)), (ir, .inl (cI, 320, .inl fi))] H := hP
    have hD : va_D A [(h, .inr (6, [.ref rw, .ref tp, .ref nw, .ref ac, .ref im, .ref fo, .ref ak, .int fg])), (rw, .inr (4, [.ref la, .ref sq, .ref ir])), (la, .inl (cI, 8, .inl fl)), (sq, .inl (cI, 8, .inl fs)), (ir, .inl (cI, 320, .inl fi))] := hD
    have c2_0 := hw_2
    rcases c2_0 with ⟨e_2, f_2⟩ | ⟨e_2, f_2⟩
    · subst e_2
      have f_2 : 0 ≤ b.toInt ∧ b.toInt ≤ 7 := f_2
      refine lv_if_ne (tgt := 17) hx hb dX7_copy_11 (by decide) (fun _ => ?_) (fun c9 => absurd c9 (by decide))
      refine lv_aload_n hx hb dX7_copy_17 rfl (lv_at hl 0 rfl) ?_
      refine va_get (D := D) (ci := 6) (v := .ref rw) (C := RX7) (T := TX7) (N := 8) hx hb hts (fun _ h => List.mem_cons_of_mem _ (List.mem_append_left _ (List.mem_append_right _ h))) hown hK hP 0 rfl rfl 0 (by decide) (hts (.fieldLink RX7 10 "WinterWalk" "rows" "LWinterWalk$Rows;") (List.mem_of_getElem? (i := 2) rfl)) (fun _ h9 => h9) rfl dX7_copy_18 ?_
      refine lv_iload_n hx hb dX7_copy_21 rfl (lv_at hl 1 rfl) ?_
      refine lv_iload_n hx hb dX7_copy_22 rfl (lv_at hl 2 rfl) ?_
      refine lv_iload_n hx hb dX7_copy_23 rfl (lv_at hl 3 rfl) ?_
      refine lv_iload hx hb dX7_copy_24 (lv_at hl 4 rfl) ?_
      refine lv_iload hx hb dX7_copy_26 (lv_at hl 5 rfl) ?_
      have k_3 := (e_X5_troubleBetween l D cI cB cQ H.size rw la sq ir a i b j n fl fs hs (by omega) (by omega))
      refine wc_i (WC := [(rw, .inr (4, [.ref la, .ref sq, .ref ir])), (la, .inl (cI, 8, .inl fl)), (sq, .inl (cI, 8, .inl fs))]) (WR := [(h, .inr (6, [.ref rw, .ref tp, .ref nw, .ref ac, .ref im, .ref fo, .ref ak, .int fg])), (ir, .inl (cI, 320, .inl fi))]) (va_runV (As := [.int a, .int i, .int b, .int j, .int n]) (rest := []) ⟨hx, hb, hml, hown, hts⟩ k_3 (cwV 5 hts gX7_copy_X5_troubleBetween rfl rfl rfl (by decide +kernel) ⟨Nat.le_of_ble_eq_true rfl, Nat.le_of_ble_eq_true rfl⟩) (wp_V hP hK hD hN [1, 2, 3] (by decide) rfl (ci := 4) rfl rfl) rfl rfl hl.1 rfl (lv_room (Nat.le_of_ble_eq_true rfl)) dX7_copy_28 ⟨Nat.le_of_ble_eq_true rfl, Nat.le_of_ble_eq_true rfl⟩) hP hD hS hA [1, 2, 3] [0, 4] rfl rfl (by decide) (by decide) (fun r_3 u_3 H locs hw_3 hP hD hS => ?_)
      clear k_3
      have hP : va_P D kl [(h, .inr (6, [.ref rw, .ref tp, .ref nw, .ref ac, .ref im, .ref fo, .ref ak, .int fg])), (ir, .inl (cI, 320, .inl fi)), (rw, .inr (4, [.ref la, .ref sq, .ref ir])), (la, .inl (cI, 8, .inl fl)), (sq, .inl (cI, 8, .inl fs))] H := hP
      have hD : va_D A [(h, .inr (6, [.ref rw, .ref tp, .ref nw, .ref ac, .ref im, .ref fo, .ref ak, .int fg])), (ir, .inl (cI, 320, .inl fi)), (rw, .inr (4, [.ref la, .ref sq, .ref ir])), (la, .inl (cI, 8, .inl fl)), (sq, .inl (cI, 8, .inl fs))] := hD
      have c3_0 := hw_3
      rcases c3_0 with ⟨e_3, f_3⟩ | ⟨e_3, f_3⟩ | ⟨e_3, f_3⟩ | ⟨e_3, f_3⟩
      · subst e_3
        have f_3 : ¬ (fl a.toNatClampNeg).toInt = (-1) ∧ ¬ (fl b.toNatClampNeg).toInt = (-1) ∧ (fl a.toNatClampNeg).toInt = (fl b.toNatClampNeg).toInt ∧ (0 ≤ i.toInt ∧ 0 ≤ n.toInt ∧ i.toInt + n.toInt ≤ (fs a.toNatClampNeg).toInt) ∧ (0 ≤ j.toInt ∧ 0 ≤ n.toInt ∧ j.toInt + n.toInt ≤ (fs b.toNatClampNeg).toInt) ∧ (fs a.toNatClampNeg).toInt ≤ 40 ∧ (fs b.toNatClampNeg).toInt ≤ 40 := f_3
        refine lv_istore (lv' := [(6, .int 0), (0, .ref h), (1, .int a), (2, .int i), (3, .int b), (4, .int j), (5, .int n)]) hx hb dX7_copy_31 hl (by decide) rfl (fun ls hl => ?_)
        refine lv_iload hx hb dX7_copy_33 (lv_at hl 0 rfl) ?_
        refine lv_if_eq (tgt := 45) hx hb dX7_copy_35 (by decide) (fun _ => ?_) (fun c9 => absurd (by decide) c9)
        refine lv_aload_n hx hb dX7_copy_45 rfl (lv_at hl 1 rfl) ?_
        refine va_get (D := D) (ci := 6) (v := .ref rw) (C := RX7) (T := TX7) (N := 8) hx hb hts (fun _ h => List.mem_cons_of_mem _ (List.mem_append_left _ (List.mem_append_right _ h))) hown hK hP 0 rfl rfl 0 (by decide) (hts (.fieldLink RX7 10 "WinterWalk" "rows" "LWinterWalk$Rows;") (List.mem_of_getElem? (i := 2) rfl)) (fun _ h9 => h9) rfl dX7_copy_46 ?_
        refine lv_iload_n hx hb dX7_copy_49 rfl (lv_at hl 2 rfl) ?_
        refine lv_iload_n hx hb dX7_copy_50 rfl (lv_at hl 3 rfl) ?_
        refine lv_iload_n hx hb dX7_copy_51 rfl (lv_at hl 4 rfl) ?_
        refine lv_iload hx hb dX7_copy_52 (lv_at hl 5 rfl) ?_
        refine lv_iload hx hb dX7_copy_54 (lv_at hl 6 rfl) ?_
        have k_4 := (g_X5_carry l D cI cB cQ H.size rw la sq ir a i b j n fi (by omega) (by omega) (by omega) (by omega) (by omega) (by omega))
        refine wc_v (WC := [(rw, .inr (4, [.ref la, .ref sq, .ref ir])), (ir, .inl (cI, 320, .inl fi))]) (WR := [(h, .inr (6, [.ref rw, .ref tp, .ref nw, .ref ac, .ref im, .ref fo, .ref ak, .int fg])), (la, .inl (cI, 8, .inl fl)), (sq, .inl (cI, 8, .inl fs))]) (va_runV (As := [.int a, .int i, .int b, .int j, .int n]) (rest := []) ⟨hx, hb, hml, hown, hts⟩ k_4 (cwV 5 hts gX7_copy_X5_carry rfl rfl rfl (by decide +kernel) ⟨Nat.le_of_ble_eq_true rfl, Nat.le_of_ble_eq_true rfl⟩) (wp_V hP hK hD hN [2, 1] (by decide) rfl (ci := 4) rfl rfl) rfl rfl hl.1 rfl (lv_room (Nat.le_of_ble_eq_true rfl)) dX7_copy_56 ⟨Nat.le_of_ble_eq_true rfl, Nat.le_of_ble_eq_true rfl⟩) hP hD hS hA [2, 1] [0, 3, 4] rfl rfl (by decide) (by decide) (fun u_4 H locs hw_4 hP hD hS => ?_)
        clear k_4
        have hP : va_P D kl [(h, .inr (6, [.ref rw, .ref tp, .ref nw, .ref ac, .ref im, .ref fo, .ref ak, .int fg])), (la, .inl (cI, 8, .inl fl)), (sq, .inl (cI, 8, .inl fs)), (rw, .inr (4, [.ref la, .ref sq, .ref ir])), (ir, .inl (cI, 320, .inl u_4))] H := hP
        have hD : va_D A [(h, .inr (6, [.ref rw, .ref tp, .ref nw, .ref ac, .ref im, .ref fo, .ref ak, .int fg])), (la, .inl (cI, 8, .inl fl)), (sq, .inl (cI, 8, .inl fs)), (rw, .inr (4, [.ref la, .ref sq, .ref ir])), (ir, .inl (cI, 320, .inl u_4))] := hD
        clear hw_4
        refine lv_aload_n hx hb dX7_copy_59 rfl (lv_at hl 1 rfl) ?_
        refine lv_iload hx hb dX7_copy_60 (lv_at hl 6 rfl) ?_
        have k_5 := (s_X7_foundNothing l D cI cB cQ H.size h rw tp nw ac im fo ak fg n)
        refine wc_i (WC := [(h, .inr (6, [.ref rw, .ref tp, .ref nw, .ref ac, .ref im, .ref fo, .ref ak, .int fg]))]) (WR := [(la, .inl (cI, 8, .inl fl)), (sq, .inl (cI, 8, .inl fs)), (rw, .inr (4, [.ref la, .ref sq, .ref ir])), (ir, .inl (cI, 320, .inl u_4))]) (va_runV (As := [.int n]) (rest := []) ⟨hx, hb, hml, hown, hts⟩ k_5 (cwV 1 hts gX7_copy_X7_foundNothing rfl rfl rfl (by decide +kernel) ⟨Nat.le_of_ble_eq_true rfl, Nat.le_of_ble_eq_true rfl⟩) (wp_V hP hK hD hN [0] (by decide) rfl (ci := 6) rfl rfl) rfl rfl hl.1 rfl (lv_room (Nat.le_of_ble_eq_true rfl)) dX7_copy_62 ⟨Nat.le_of_ble_eq_true rfl, Nat.le_of_ble_eq_true rfl⟩) hP hD hS hA [0] [1, 2, 3, 4] rfl rfl (by decide) (by decide) (fun r_5 u_5 H locs hw_5 hP hD hS => ?_)
        clear k_5
        have hP : va_P D kl [(la, .inl (cI, 8, .inl fl)), (sq, .inl (cI, 8, .inl fs)), (rw, .inr (4, [.ref la, .ref sq, .ref ir])), (ir, .inl (cI, 320, .inl u_4)), (h, .inr (6, [.ref rw, .ref tp, .ref nw, .ref ac, .ref im, .ref fo, .ref ak, .int u_5]))] H := hP
        have hD : va_D A [(la, .inl (cI, 8, .inl fl)), (sq, .inl (cI, 8, .inl fs)), (rw, .inr (4, [.ref la, .ref sq, .ref ir])), (ir, .inl (cI, 320, .inl u_4)), (h, .inr (6, [.ref rw, .ref tp, .ref nw, .ref ac, .ref im, .ref fo, .ref ak, .int u_5]))] := hD
        obtain ⟨c5_0, c5_1⟩ := hw_5
        have c5_1 : u_5.toInt = 0 := c5_1
        rw [c5_0]
        exact wr_i (v := n) hx hb hr hlocks hS (u_5, u_4) (by exact show (((0 ≤ a.toInt ∧ a.toInt ≤ 7) ∧ (0 ≤ b.toInt ∧ b.toInt ≤ 7)) ∧ ¬ ((fl a.toNatClampNeg).toInt = (-1)) ∧ ¬ ((fl b.toNatClampNeg).toInt = (-1)) ∧ (fl a.toNatClampNeg).toInt = (fl b.toNatClampNeg).toInt ∧ ((0 ≤ i.toInt ∧ 0 ≤ n.toInt ∧ i.toInt + n.toInt ≤ (fs a.toNatClampNeg).toInt) ∧ 0 ≤ j.toInt ∧ j.toInt + n.toInt ≤ (fs b.toNatClampNeg).toInt) ∧ n.toInt = n.toInt ∧ u_5.toInt = 0) ∨ (((0 ≤ a.toInt ∧ a.toInt ≤ 7) ∧ (0 ≤ b.toInt ∧ b.toInt ≤ 7)) ∧ ¬ ((fl a.toNatClampNeg).toInt = (-1)) ∧ ¬ ((fl b.toNatClampNeg).toInt = (-1)) ∧ (fl a.toNatClampNeg).toInt = (fl b.toNatClampNeg).toInt ∧ ¬ ((0 ≤ i.toInt ∧ 0 ≤ n.toInt ∧ i.toInt + n.toInt ≤ (fs a.toNatClampNeg).toInt) ∧ 0 ≤ j.toInt ∧ j.toInt + n.toInt ≤ (fs b.toNatClampNeg).toInt) ∧ n.toInt = (-1000012) ∧ u_5.toInt = 2) ∨ (((0 ≤ a.toInt ∧ a.toInt ≤ 7) ∧ (0 ≤ b.toInt ∧ b.toInt ≤ 7)) ∧ ¬ ((fl a.toNatClampNeg).toInt = (-1)) ∧ ¬ ((fl b.toNatClampNeg).toInt = (-1)) ∧ ¬ (fl a.toNatClampNeg).toInt = (fl b.toNatClampNeg).toInt ∧ n.toInt = (-1000015) ∧ u_5.toInt = 5) ∨ (((0 ≤ a.toInt ∧ a.toInt ≤ 7) ∧ (0 ≤ b.toInt ∧ b.toInt ≤ 7)) ∧ (((fl a.toNatClampNeg).toInt = (-1)) ∨ ((fl b.toNatClampNeg).toInt = (-1))) ∧ n.toInt = (-1000011) ∧ u_5.toInt = 1) ∨ (¬ ((0 ≤ a.toInt ∧ a.toInt ≤ 7) ∧ (0 ≤ b.toInt ∧ b.toInt ≤ 7)) ∧ n.toInt = (-1000001) ∧ u_5.toInt = fg.toInt) from by omega) (hP.sub [4, 2, 0, 1, 3] rfl) (hD.sub [4, 2, 0, 1, 3] (by decide) rfl) dX7_copy_65
      · subst e_3
        have f_3 : ((fl a.toNatClampNeg).toInt = (-1) ∨ (fl b.toNatClampNeg).toInt = (-1)) := f_3
        refine lv_istore (lv' := [(6, .int 1), (0, .ref h), (1, .int a), (2, .int i), (3, .int b), (4, .int j), (5, .int n)]) hx hb dX7_copy_31 hl (by decide) rfl (fun ls hl => ?_)
        refine lv_iload hx hb dX7_copy_33 (lv_at hl 0 rfl) ?_
        refine lv_if_eq (tgt := 45) hx hb dX7_copy_35 (by decide) (fun c9 => absurd c9 (by decide)) (fun _ => ?_)
        refine lv_aload_n hx hb dX7_copy_38 rfl (lv_at hl 1 rfl) ?_
        refine lv_iload hx hb dX7_copy_39 (lv_at hl 0 rfl) ?_
        have k_6 := (s_X7_found l D cI cB cQ H.size h rw tp nw ac im fo ak fg 1)
        refine wc_i (WC := [(h, .inr (6, [.ref rw, .ref tp, .ref nw, .ref ac, .ref im, .ref fo, .ref ak, .int fg]))]) (WR := [(ir, .inl (cI, 320, .inl fi)), (rw, .inr (4, [.ref la, .ref sq, .ref ir])), (la, .inl (cI, 8, .inl fl)), (sq, .inl (cI, 8, .inl fs))]) (va_runV (As := [.int 1]) (rest := []) ⟨hx, hb, hml, hown, hts⟩ k_6 (cwV 1 hts gX7_copy_X7_found rfl rfl rfl (by decide +kernel) ⟨Nat.le_of_ble_eq_true rfl, Nat.le_of_ble_eq_true rfl⟩) (wp_V hP hK hD hN [0] (by decide) rfl (ci := 6) rfl rfl) rfl rfl hl.1 rfl (lv_room (Nat.le_of_ble_eq_true rfl)) dX7_copy_41 ⟨Nat.le_of_ble_eq_true rfl, Nat.le_of_ble_eq_true rfl⟩) hP hD hS hA [0] [1, 2, 3, 4] rfl rfl (by decide) (by decide) (fun r_6 u_6 H locs hw_6 hP hD hS => ?_)
        clear k_6
        have hP : va_P D kl [(ir, .inl (cI, 320, .inl fi)), (rw, .inr (4, [.ref la, .ref sq, .ref ir])), (la, .inl (cI, 8, .inl fl)), (sq, .inl (cI, 8, .inl fs)), (h, .inr (6, [.ref rw, .ref tp, .ref nw, .ref ac, .ref im, .ref fo, .ref ak, .int u_6]))] H := hP
        have hD : va_D A [(ir, .inl (cI, 320, .inl fi)), (rw, .inr (4, [.ref la, .ref sq, .ref ir])), (la, .inl (cI, 8, .inl fl)), (sq, .inl (cI, 8, .inl fs)), (h, .inr (6, [.ref rw, .ref tp, .ref nw, .ref ac, .ref im, .ref fo, .ref ak, .int u_6]))] := hD
        obtain ⟨c6_0, c6_1⟩ := hw_6
        have c6_1 : u_6.toInt = (1 : Int) := c6_1
        obtain rfl : r_6 = (-1000011) := by first | exact c6_0 | exact c6_0.trans (by decide)
        exact wr_i (v := (-1000011)) hx hb hr hlocks hS (u_6, fi) (by exact show (((0 ≤ a.toInt ∧ a.toInt ≤ 7) ∧ (0 ≤ b.toInt ∧ b.toInt ≤ 7)) ∧ ¬ ((fl a.toNatClampNeg).toInt = (-1)) ∧ ¬ ((fl b.toNatClampNeg).toInt = (-1)) ∧ (fl a.toNatClampNeg).toInt = (fl b.toNatClampNeg).toInt ∧ ((0 ≤ i.toInt ∧ 0 ≤ n.toInt ∧ i.toInt + n.toInt ≤ (fs a.toNatClampNeg).toInt) ∧ 0 ≤ j.toInt ∧ j.toInt + n.toInt ≤ (fs b.toNatClampNeg).toInt) ∧ (-1000011) = n.toInt ∧ u_6.toInt = 0) ∨ (((0 ≤ a.toInt ∧ a.toInt ≤ 7) ∧ (0 ≤ b.toInt ∧ b.toInt ≤ 7)) ∧ ¬ ((fl a.toNatClampNeg).toInt = (-1)) ∧ ¬ ((fl b.toNatClampNeg).toInt = (-1)) ∧ (fl a.toNatClampNeg).toInt = (fl b.toNatClampNeg).toInt ∧ ¬ ((0 ≤ i.toInt ∧ 0 ≤ n.toInt ∧ i.toInt + n.toInt ≤ (fs a.toNatClampNeg).toInt) ∧ 0 ≤ j.toInt ∧ j.toInt + n.toInt ≤ (fs b.toNatClampNeg).toInt) ∧ (-1000011) = (-1000012) ∧ u_6.toInt = 2) ∨ (((0 ≤ a.toInt ∧ a.toInt ≤ 7) ∧ (0 ≤ b.toInt ∧ b.toInt ≤ 7)) ∧ ¬ ((fl a.toNatClampNeg).toInt = (-1)) ∧ ¬ ((fl b.toNatClampNeg).toInt = (-1)) ∧ ¬ (fl a.toNatClampNeg).toInt = (fl b.toNatClampNeg).toInt ∧ (-1000011) = (-1000015) ∧ u_6.toInt = 5) ∨ (((0 ≤ a.toInt ∧ a.toInt ≤ 7) ∧ (0 ≤ b.toInt ∧ b.toInt ≤ 7)) ∧ (((fl a.toNatClampNeg).toInt = (-1)) ∨ ((fl b.toNatClampNeg).toInt = (-1))) ∧ (-1000011) = (-1000011) ∧ u_6.toInt = 1) ∨ (¬ ((0 ≤ a.toInt ∧ a.toInt ≤ 7) ∧ (0 ≤ b.toInt ∧ b.toInt ≤ 7)) ∧ (-1000011) = (-1000001) ∧ u_6.toInt = fg.toInt) from by omega) (hP.sub [4, 1, 2, 3, 0] rfl) (hD.sub [4, 1, 2, 3, 0] (by decide) rfl) dX7_copy_44
      · subst e_3
        have f_3 : ¬ (fl a.toNatClampNeg).toInt = (-1) ∧ ¬ (fl b.toNatClampNeg).toInt = (-1) ∧ ¬ (fl a.toNatClampNeg).toInt = (fl b.toNatClampNeg).toInt := f_3
        refine lv_istore (lv' := [(6, .int 5), (0, .ref h), (1, .int a), (2, .int i), (3, .int b), (4, .int j), (5, .int n)]) hx hb dX7_copy_31 hl (by decide) rfl (fun ls hl => ?_)
        refine lv_iload hx hb dX7_copy_33 (lv_at hl 0 rfl) ?_
        refine lv_if_eq (tgt := 45) hx hb dX7_copy_35 (by decide) (fun c9 => absurd c9 (by decide)) (fun _ => ?_)
        refine lv_aload_n hx hb dX7_copy_38 rfl (lv_at hl 1 rfl) ?_
        refine lv_iload hx hb dX7_copy_39 (lv_at hl 0 rfl) ?_
        have k_7 := (s_X7_found l D cI cB cQ H.size h rw tp nw ac im fo ak fg 5)
        refine wc_i (WC := [(h, .inr (6, [.ref rw, .ref tp, .ref nw, .ref ac, .ref im, .ref fo, .ref ak, .int fg]))]) (WR := [(ir, .inl (cI, 320, .inl fi)), (rw, .inr (4, [.ref la, .ref sq, .ref ir])), (la, .inl (cI, 8, .inl fl)), (sq, .inl (cI, 8, .inl fs))]) (va_runV (As := [.int 5]) (rest := []) ⟨hx, hb, hml, hown, hts⟩ k_7 (cwV 1 hts gX7_copy_X7_found rfl rfl rfl (by decide +kernel) ⟨Nat.le_of_ble_eq_true rfl, Nat.le_of_ble_eq_true rfl⟩) (wp_V hP hK hD hN [0] (by decide) rfl (ci := 6) rfl rfl) rfl rfl hl.1 rfl (lv_room (Nat.le_of_ble_eq_true rfl)) dX7_copy_41 ⟨Nat.le_of_ble_eq_true rfl, Nat.le_of_ble_eq_true rfl⟩) hP hD hS hA [0] [1, 2, 3, 4] rfl rfl (by decide) (by decide) (fun r_7 u_7 H locs hw_7 hP hD hS => ?_)
        clear k_7
        have hP : va_P D kl [(ir, .inl (cI, 320, .inl fi)), (rw, .inr (4, [.ref la, .ref sq, .ref ir])), (la, .inl (cI, 8, .inl fl)), (sq, .inl (cI, 8, .inl fs)), (h, .inr (6, [.ref rw, .ref tp, .ref nw, .ref ac, .ref im, .ref fo, .ref ak, .int u_7]))] H := hP
        have hD : va_D A [(ir, .inl (cI, 320, .inl fi)), (rw, .inr (4, [.ref la, .ref sq, .ref ir])), (la, .inl (cI, 8, .inl fl)), (sq, .inl (cI, 8, .inl fs)), (h, .inr (6, [.ref rw, .ref tp, .ref nw, .ref ac, .ref im, .ref fo, .ref ak, .int u_7]))] := hD
        obtain ⟨c7_0, c7_1⟩ := hw_7
        have c7_1 : u_7.toInt = (5 : Int) := c7_1
        obtain rfl : r_7 = (-1000015) := by first | exact c7_0 | exact c7_0.trans (by decide)
        exact wr_i (v := (-1000015)) hx hb hr hlocks hS (u_7, fi) (by exact show (((0 ≤ a.toInt ∧ a.toInt ≤ 7) ∧ (0 ≤ b.toInt ∧ b.toInt ≤ 7)) ∧ ¬ ((fl a.toNatClampNeg).toInt = (-1)) ∧ ¬ ((fl b.toNatClampNeg).toInt = (-1)) ∧ (fl a.toNatClampNeg).toInt = (fl b.toNatClampNeg).toInt ∧ ((0 ≤ i.toInt ∧ 0 ≤ n.toInt ∧ i.toInt + n.toInt ≤ (fs a.toNatClampNeg).toInt) ∧ 0 ≤ j.toInt ∧ j.toInt + n.toInt ≤ (fs b.toNatClampNeg).toInt) ∧ (-1000015) = n.toInt ∧ u_7.toInt = 0) ∨ (((0 ≤ a.toInt ∧ a.toInt ≤ 7) ∧ (0 ≤ b.toInt ∧ b.toInt ≤ 7)) ∧ ¬ ((fl a.toNatClampNeg).toInt = (-1)) ∧ ¬ ((fl b.toNatClampNeg).toInt = (-1)) ∧ (fl a.toNatClampNeg).toInt = (fl b.toNatClampNeg).toInt ∧ ¬ ((0 ≤ i.toInt ∧ 0 ≤ n.toInt ∧ i.toInt + n.toInt ≤ (fs a.toNatClampNeg).toInt) ∧ 0 ≤ j.toInt ∧ j.toInt + n.toInt ≤ (fs b.toNatClampNeg).toInt) ∧ (-1000015) = (-1000012) ∧ u_7.toInt = 2) ∨ (((0 ≤ a.toInt ∧ a.toInt ≤ 7) ∧ (0 ≤ b.toInt ∧ b.toInt ≤ 7)) ∧ ¬ ((fl a.toNatClampNeg).toInt = (-1)) ∧ ¬ ((fl b.toNatClampNeg).toInt = (-1)) ∧ ¬ (fl a.toNatClampNeg).toInt = (fl b.toNatClampNeg).toInt ∧ (-1000015) = (-1000015) ∧ u_7.toInt = 5) ∨ (((0 ≤ a.toInt ∧ a.toInt ≤ 7) ∧ (0 ≤ b.toInt ∧ b.toInt ≤ 7)) ∧ (((fl a.toNatClampNeg).toInt = (-1)) ∨ ((fl b.toNatClampNeg).toInt = (-1))) ∧ (-1000015) = (-1000011) ∧ u_7.toInt = 1) ∨ (¬ ((0 ≤ a.toInt ∧ a.toInt ≤ 7) ∧ (0 ≤ b.toInt ∧ b.toInt ≤ 7)) ∧ (-1000015) = (-1000001) ∧ u_7.toInt = fg.toInt) from by omega) (hP.sub [4, 1, 2, 3, 0] rfl) (hD.sub [4, 1, 2, 3, 0] (by decide) rfl) dX7_copy_44
      · subst e_3
        have f_3 : ¬ (fl a.toNatClampNeg).toInt = (-1) ∧ ¬ (fl b.toNatClampNeg).toInt = (-1) ∧ (fl a.toNatClampNeg).toInt = (fl b.toNatClampNeg).toInt ∧ ¬ ((0 ≤ i.toInt ∧ 0 ≤ n.toInt ∧ i.toInt + n.toInt ≤ (fs a.toNatClampNeg).toInt) ∧ (0 ≤ j.toInt ∧ 0 ≤ n.toInt ∧ j.toInt + n.toInt ≤ (fs b.toNatClampNeg).toInt)) := f_3
        refine lv_istore (lv' := [(6, .int 2), (0, .ref h), (1, .int a), (2, .int i), (3, .int b), (4, .int j), (5, .int n)]) hx hb dX7_copy_31 hl (by decide) rfl (fun ls hl => ?_)
        refine lv_iload hx hb dX7_copy_33 (lv_at hl 0 rfl) ?_
        refine lv_if_eq (tgt := 45) hx hb dX7_copy_35 (by decide) (fun c9 => absurd c9 (by decide)) (fun _ => ?_)
        refine lv_aload_n hx hb dX7_copy_38 rfl (lv_at hl 1 rfl) ?_
        refine lv_iload hx hb dX7_copy_39 (lv_at hl 0 rfl) ?_
        have k_8 := (s_X7_found l D cI cB cQ H.size h rw tp nw ac im fo ak fg 2)
        refine wc_i (WC := [(h, .inr (6, [.ref rw, .ref tp, .ref nw, .ref ac, .ref im, .ref fo, .ref ak, .int fg]))]) (WR := [(ir, .inl (cI, 320, .inl fi)), (rw, .inr (4, [.ref la, .ref sq, .ref ir])), (la, .inl (cI, 8, .inl fl)), (sq, .inl (cI, 8, .inl fs))]) (va_runV (As := [.int 2]) (rest := []) ⟨hx, hb, hml, hown, hts⟩ k_8 (cwV 1 hts gX7_copy_X7_found rfl rfl rfl (by decide +kernel) ⟨Nat.le_of_ble_eq_true rfl, Nat.le_of_ble_eq_true rfl⟩) (wp_V hP hK hD hN [0] (by decide) rfl (ci := 6) rfl rfl) rfl rfl hl.1 rfl (lv_room (Nat.le_of_ble_eq_true rfl)) dX7_copy_41 ⟨Nat.le_of_ble_eq_true rfl, Nat.le_of_ble_eq_true rfl⟩) hP hD hS hA [0] [1, 2, 3, 4] rfl rfl (by decide) (by decide) (fun r_8 u_8 H locs hw_8 hP hD hS => ?_)
        clear k_8
        have hP : va_P D kl [(ir, .inl (cI, 320, .inl fi)), (rw, .inr (4, [.ref la, .ref sq, .ref ir])), (la, .inl (cI, 8, .inl fl)), (sq, .inl (cI, 8, .inl fs)), (h, .inr (6, [.ref rw, .ref tp, .ref nw, .ref ac, .ref im, .ref fo, .ref ak, .int u_8]))] H := hP
        have hD : va_D A [(ir, .inl (cI, 320, .inl fi)), (rw, .inr (4, [.ref la, .ref sq, .ref ir])), (la, .inl (cI, 8, .inl fl)), (sq, .inl (cI, 8, .inl fs)), (h, .inr (6, [.ref rw, .ref tp, .ref nw, .ref ac, .ref im, .ref fo, .ref ak, .int u_8]))] := hD
        obtain ⟨c8_0, c8_1⟩ := hw_8
        have c8_1 : u_8.toInt = (2 : Int) := c8_1
        obtain rfl : r_8 = (-1000012) := by first | exact c8_0 | exact c8_0.trans (by decide)
        exact wr_i (v := (-1000012)) hx hb hr hlocks hS (u_8, fi) (by exact show (((0 ≤ a.toInt ∧ a.toInt ≤ 7) ∧ (0 ≤ b.toInt ∧ b.toInt ≤ 7)) ∧ ¬ ((fl a.toNatClampNeg).toInt = (-1)) ∧ ¬ ((fl b.toNatClampNeg).toInt = (-1)) ∧ (fl a.toNatClampNeg).toInt = (fl b.toNatClampNeg).toInt ∧ ((0 ≤ i.toInt ∧ 0 ≤ n.toInt ∧ i.toInt + n.toInt ≤ (fs a.toNatClampNeg).toInt) ∧ 0 ≤ j.toInt ∧ j.toInt + n.toInt ≤ (fs b.toNatClampNeg).toInt) ∧ (-1000012) = n.toInt ∧ u_8.toInt = 0) ∨ (((0 ≤ a.toInt ∧ a.toInt ≤ 7) ∧ (0 ≤ b.toInt ∧ b.toInt ≤ 7)) ∧ ¬ ((fl a.toNatClampNeg).toInt = (-1)) ∧ ¬ ((fl b.toNatClampNeg).toInt = (-1)) ∧ (fl a.toNatClampNeg).toInt = (fl b.toNatClampNeg).toInt ∧ ¬ ((0 ≤ i.toInt ∧ 0 ≤ n.toInt ∧ i.toInt + n.toInt ≤ (fs a.toNatClampNeg).toInt) ∧ 0 ≤ j.toInt ∧ j.toInt + n.toInt ≤ (fs b.toNatClampNeg).toInt) ∧ (-1000012) = (-1000012) ∧ u_8.toInt = 2) ∨ (((0 ≤ a.toInt ∧ a.toInt ≤ 7) ∧ (0 ≤ b.toInt ∧ b.toInt ≤ 7)) ∧ ¬ ((fl a.toNatClampNeg).toInt = (-1)) ∧ ¬ ((fl b.toNatClampNeg).toInt = (-1)) ∧ ¬ (fl a.toNatClampNeg).toInt = (fl b.toNatClampNeg).toInt ∧ (-1000012) = (-1000015) ∧ u_8.toInt = 5) ∨ (((0 ≤ a.toInt ∧ a.toInt ≤ 7) ∧ (0 ≤ b.toInt ∧ b.toInt ≤ 7)) ∧ (((fl a.toNatClampNeg).toInt = (-1)) ∨ ((fl b.toNatClampNeg).toInt = (-1))) ∧ (-1000012) = (-1000011) ∧ u_8.toInt = 1) ∨ (¬ ((0 ≤ a.toInt ∧ a.toInt ≤ 7) ∧ (0 ≤ b.toInt ∧ b.toInt ≤ 7)) ∧ (-1000012) = (-1000001) ∧ u_8.toInt = fg.toInt) from by omega) (hP.sub [4, 1, 2, 3, 0] rfl) (hD.sub [4, 1, 2, 3, 0] (by decide) rfl) dX7_copy_44
    · subst e_2
      have f_2 : ¬ (0 ≤ b.toInt ∧ b.toInt ≤ 7) := f_2
      refine lv_if_ne (tgt := 17) hx hb dX7_copy_11 (by decide) (fun c9 => absurd (by decide) c9) (fun _ => ?_)
      refine lv_ldc (v := (-1000001)) hx hb hown (hts (.constant RX7 68 (-1000001)) (List.mem_of_getElem? (i := 1) rfl)) dX7_copy_14 ?_
      exact wr_i (v := (-1000001)) hx hb hr hlocks hS (fg, fi) (by exact show (((0 ≤ a.toInt ∧ a.toInt ≤ 7) ∧ (0 ≤ b.toInt ∧ b.toInt ≤ 7)) ∧ ¬ ((fl a.toNatClampNeg).toInt = (-1)) ∧ ¬ ((fl b.toNatClampNeg).toInt = (-1)) ∧ (fl a.toNatClampNeg).toInt = (fl b.toNatClampNeg).toInt ∧ ((0 ≤ i.toInt ∧ 0 ≤ n.toInt ∧ i.toInt + n.toInt ≤ (fs a.toNatClampNeg).toInt) ∧ 0 ≤ j.toInt ∧ j.toInt + n.toInt ≤ (fs b.toNatClampNeg).toInt) ∧ (-1000001) = n.toInt ∧ fg.toInt = 0) ∨ (((0 ≤ a.toInt ∧ a.toInt ≤ 7) ∧ (0 ≤ b.toInt ∧ b.toInt ≤ 7)) ∧ ¬ ((fl a.toNatClampNeg).toInt = (-1)) ∧ ¬ ((fl b.toNatClampNeg).toInt = (-1)) ∧ (fl a.toNatClampNeg).toInt = (fl b.toNatClampNeg).toInt ∧ ¬ ((0 ≤ i.toInt ∧ 0 ≤ n.toInt ∧ i.toInt + n.toInt ≤ (fs a.toNatClampNeg).toInt) ∧ 0 ≤ j.toInt ∧ j.toInt + n.toInt ≤ (fs b.toNatClampNeg).toInt) ∧ (-1000001) = (-1000012) ∧ fg.toInt = 2) ∨ (((0 ≤ a.toInt ∧ a.toInt ≤ 7) ∧ (0 ≤ b.toInt ∧ b.toInt ≤ 7)) ∧ ¬ ((fl a.toNatClampNeg).toInt = (-1)) ∧ ¬ ((fl b.toNatClampNeg).toInt = (-1)) ∧ ¬ (fl a.toNatClampNeg).toInt = (fl b.toNatClampNeg).toInt ∧ (-1000001) = (-1000015) ∧ fg.toInt = 5) ∨ (((0 ≤ a.toInt ∧ a.toInt ≤ 7) ∧ (0 ≤ b.toInt ∧ b.toInt ≤ 7)) ∧ (((fl a.toNatClampNeg).toInt = (-1)) ∨ ((fl b.toNatClampNeg).toInt = (-1))) ∧ (-1000001) = (-1000011) ∧ fg.toInt = 1) ∨ (¬ ((0 ≤ a.toInt ∧ a.toInt ≤ 7) ∧ (0 ≤ b.toInt ∧ b.toInt ≤ 7)) ∧ (-1000001) = (-1000001) ∧ fg.toInt = fg.toInt) from by omega) (hP.sub [0, 1, 2, 3, 4] rfl) (hD.sub [0, 1, 2, 3, 4] (by decide) rfl) dX7_copy_16
  · subst e_1
    have f_1 : ¬ (0 ≤ a.toInt ∧ a.toInt ≤ 7) := f_1
    refine lv_if_eq (tgt := 14) hx hb dX7_copy_4 (by decide) (fun _ => ?_) (fun c9 => absurd (by decide) c9)
    refine lv_ldc (v := (-1000001)) hx hb hown (hts (.constant RX7 68 (-1000001)) (List.mem_of_getElem? (i := 1) rfl)) dX7_copy_14 ?_
    exact wr_i (v := (-1000001)) hx hb hr hlocks hS (fg, fi) (by exact show (((0 ≤ a.toInt ∧ a.toInt ≤ 7) ∧ (0 ≤ b.toInt ∧ b.toInt ≤ 7)) ∧ ¬ ((fl a.toNatClampNeg).toInt = (-1)) ∧ ¬ ((fl b.toNatClampNeg).toInt = (-1)) ∧ (fl a.toNatClampNeg).toInt = (fl b.toNatClampNeg).toInt ∧ ((0 ≤ i.toInt ∧ 0 ≤ n.toInt ∧ i.toInt + n.toInt ≤ (fs a.toNatClampNeg).toInt) ∧ 0 ≤ j.toInt ∧ j.toInt + n.toInt ≤ (fs b.toNatClampNeg).toInt) ∧ (-1000001) = n.toInt ∧ fg.toInt = 0) ∨ (((0 ≤ a.toInt ∧ a.toInt ≤ 7) ∧ (0 ≤ b.toInt ∧ b.toInt ≤ 7)) ∧ ¬ ((fl a.toNatClampNeg).toInt = (-1)) ∧ ¬ ((fl b.toNatClampNeg).toInt = (-1)) ∧ (fl a.toNatClampNeg).toInt = (fl b.toNatClampNeg).toInt ∧ ¬ ((0 ≤ i.toInt ∧ 0 ≤ n.toInt ∧ i.toInt + n.toInt ≤ (fs a.toNatClampNeg).toInt) ∧ 0 ≤ j.toInt ∧ j.toInt + n.toInt ≤ (fs b.toNatClampNeg).toInt) ∧ (-1000001) = (-1000012) ∧ fg.toInt = 2) ∨ (((0 ≤ a.toInt ∧ a.toInt ≤ 7) ∧ (0 ≤ b.toInt ∧ b.toInt ≤ 7)) ∧ ¬ ((fl a.toNatClampNeg).toInt = (-1)) ∧ ¬ ((fl b.toNatClampNeg).toInt = (-1)) ∧ ¬ (fl a.toNatClampNeg).toInt = (fl b.toNatClampNeg).toInt ∧ (-1000001) = (-1000015) ∧ fg.toInt = 5) ∨ (((0 ≤ a.toInt ∧ a.toInt ≤ 7) ∧ (0 ≤ b.toInt ∧ b.toInt ≤ 7)) ∧ (((fl a.toNatClampNeg).toInt = (-1)) ∨ ((fl b.toNatClampNeg).toInt = (-1))) ∧ (-1000001) = (-1000011) ∧ fg.toInt = 1) ∨ (¬ ((0 ≤ a.toInt ∧ a.toInt ≤ 7) ∧ (0 ≤ b.toInt ∧ b.toInt ≤ 7)) ∧ (-1000001) = (-1000001) ∧ fg.toInt = fg.toInt) from by omega) (hP.sub [0, 1, 2, 3, 4] rfl) (hD.sub [0, 1, 2, 3, 4] (by decide) rfl) dX7_copy_16
set_option maxHeartbeats 4000000 in
set_option maxRecDepth 100000 in
theorem s_X8_copy (l : Launch) (D : va_G) (cI cB cQ : ClassId) (sz : Nat) (h : Nat) (sl : Nat) (zs : Nat) (ln : Nat) (ir : Nat) (tk : Nat) (tb : Nat) (tr : Nat) (fz : Nat) (na : Int32) (su : Int32) (le : Int32) (fu : Int32) (ap : Int32) (pp : Int32) (tc : Int32) (nm : Int32) (a : Int32) (i : Int32) (b : Int32) (j : Int32) (n : Int32) (zf : Nat → Int32) (lnf : Nat → Int32) (irf : Nat → Int32) (tkf : Nat → Int32) (hz : ∀ j, j < 8 → (-1) ≤ (zf j).toInt ∧ (zf j).toInt ≤ 40) : mi l yX8_copy wsX8_copy ({ frames := 1, cells := 0, slots := 0, locals := 25 }) D cI cB cQ [.ref h, .int a, .int i, .int b, .int j, .int n] sz [(h, .inr (7, [.ref sl, .int na, .ref zs, .ref ln, .ref ir, .ref tk, .int su, .int le, .ref tb, .int fu, .int ap, .int pp, .ref tr, .int tc, .ref fz, .int nm])), (zs, .inl (cI, 8, .inl zf)), (ln, .inl (cI, 8, .inl lnf)), (ir, .inl (cI, 320, .inl irf)), (tk, .inl (cI, 40, .inl tkf))] (fun (r : Int32) (u : Int32 × (Nat → Int32) × (Nat → Int32)) => ((((0 ≤ a.toInt ∧ a.toInt ≤ 7) ∧ (0 ≤ b.toInt ∧ b.toInt ≤ 7)) ∧ ¬ ((zf a.toNatClampNeg).toInt < 0) ∧ ¬ ((zf b.toNatClampNeg).toInt < 0) ∧ (lnf a.toNatClampNeg).toInt = (lnf b.toNatClampNeg).toInt ∧ ((0 ≤ i.toInt ∧ 0 ≤ n.toInt ∧ i.toInt + n.toInt ≤ (zf a.toNatClampNeg).toInt) ∧ 0 ≤ j.toInt ∧ j.toInt + n.toInt ≤ (zf b.toNatClampNeg).toInt) ∧ r.toInt = n.toInt ∧ u.1.toInt = 0) ∨ (((0 ≤ a.toInt ∧ a.toInt ≤ 7) ∧ (0 ≤ b.toInt ∧ b.toInt ≤ 7)) ∧ ¬ ((zf a.toNatClampNeg).toInt < 0) ∧ ¬ ((zf b.toNatClampNeg).toInt < 0) ∧ (lnf a.toNatClampNeg).toInt = (lnf b.toNatClampNeg).toInt ∧ ¬ ((0 ≤ i.toInt ∧ 0 ≤ n.toInt ∧ i.toInt + n.toInt ≤ (zf a.toNatClampNeg).toInt) ∧ 0 ≤ j.toInt ∧ j.toInt + n.toInt ≤ (zf b.toNatClampNeg).toInt) ∧ r.toInt = (-1000012) ∧ u.1.toInt = 2) ∨ (((0 ≤ a.toInt ∧ a.toInt ≤ 7) ∧ (0 ≤ b.toInt ∧ b.toInt ≤ 7)) ∧ ¬ ((zf a.toNatClampNeg).toInt < 0) ∧ ¬ ((zf b.toNatClampNeg).toInt < 0) ∧ ¬ (lnf a.toNatClampNeg).toInt = (lnf b.toNatClampNeg).toInt ∧ r.toInt = (-1000015) ∧ u.1.toInt = 5) ∨ (((0 ≤ a.toInt ∧ a.toInt ≤ 7) ∧ (0 ≤ b.toInt ∧ b.toInt ≤ 7)) ∧ (((zf a.toNatClampNeg).toInt < 0) ∨ ((zf b.toNatClampNeg).toInt < 0)) ∧ r.toInt = (-1000011) ∧ u.1.toInt = 1) ∨ (¬ ((0 ≤ a.toInt ∧ a.toInt ≤ 7) ∧ (0 ≤ b.toInt ∧ b.toInt ≤ 7)) ∧ r.toInt = (-1000001) ∧ u.1.toInt = su.toInt))) (fun u => [(h, .inr (7, [.ref sl, .int na, .ref zs, .ref ln, .ref ir, .ref tk, .int u.1, .int le, .ref tb, .int fu, .int ap, .int pp, .ref tr, .int tc, .ref fz, .int nm])), (zs, .inl (cI, 8, .inl zf)), (ln, .inl (cI, 8, .inl lnf)), (ir, .inl (cI, 320, .inl u.2.1)), (tk, .inl (cI, 40, .inl u.2.2))]) 0 0 := by
  refine wm_i (cc := cX8_copy) (maxL := 7) (ret := (some .int)) (by decide) rfl (Nat.le_of_ble_eq_true rfl) ?_
  intro p e s m below meth c A ls hx hb hr hml hown hts hlocks hin hP hK hD hN hA hl hS
  have hown : s.vm.findClass RX8 = some m.cls := hown
  have hl : lv_has ls 7 [(0, .ref h), (1, .int a), (2, .int i), (3, .int b), (4, .int j), (5, .int n)] := hl
  change W p l e ({ frames := 1, cells := 0, slots := 0, locals := 25 }) s m ([.ref h, .int a, .int i, .int b, .int j, .int n] : List Value).toArray below meth c s.heap [] 0 0 (MQ below (va_Qi (fun (r : Int32) (u : Int32 × (Nat → Int32) × (Nat → Int32)) => ((((0 ≤ a.toInt ∧ a.toInt ≤ 7) ∧ (0 ≤ b.toInt ∧ b.toInt ≤ 7)) ∧ ¬ ((zf a.toNatClampNeg).toInt < 0) ∧ ¬ ((zf b.toNatClampNeg).toInt < 0) ∧ (lnf a.toNatClampNeg).toInt = (lnf b.toNatClampNeg).toInt ∧ ((0 ≤ i.toInt ∧ 0 ≤ n.toInt ∧ i.toInt + n.toInt ≤ (zf a.toNatClampNeg).toInt) ∧ 0 ≤ j.toInt ∧ j.toInt + n.toInt ≤ (zf b.toNatClampNeg).toInt) ∧ r.toInt = n.toInt ∧ u.1.toInt = 0) ∨ (((0 ≤ a.toInt ∧ a.toInt ≤ 7) ∧ (0 ≤ b.toInt ∧ b.toInt ≤ 7)) ∧ ¬ ((zf a.toNatClampNeg).toInt < 0) ∧ ¬ ((zf b.toNatClampNeg).toInt < 0) ∧ (lnf a.toNatClampNeg).toInt = (lnf b.toNatClampNeg).toInt ∧ ¬ ((0 ≤ i.toInt ∧ 0 ≤ n.toInt ∧ i.toInt + n.toInt ≤ (zf a.toNatClampNeg).toInt) ∧ 0 ≤ j.toInt ∧ j.toInt + n.toInt ≤ (zf b.toNatClampNeg).toInt) ∧ r.toInt = (-1000012) ∧ u.1.toInt = 2) ∨ (((0 ≤ a.toInt ∧ a.toInt ≤ 7) ∧ (0 ≤ b.toInt ∧ b.toInt ≤ 7)) ∧ ¬ ((zf a.toNatClampNeg).toInt < 0) ∧ ¬ ((zf b.toNatClampNeg).toInt < 0) ∧ ¬ (lnf a.toNatClampNeg).toInt = (lnf b.toNatClampNeg).toInt ∧ r.toInt = (-1000015) ∧ u.1.toInt = 5) ∨ (((0 ≤ a.toInt ∧ a.toInt ≤ 7) ∧ (0 ≤ b.toInt ∧ b.toInt ≤ 7)) ∧ (((zf a.toNatClampNeg).toInt < 0) ∨ ((zf b.toNatClampNeg).toInt < 0)) ∧ r.toInt = (-1000011) ∧ u.1.toInt = 1) ∨ (¬ ((0 ≤ a.toInt ∧ a.toInt ≤ 7) ∧ (0 ≤ b.toInt ∧ b.toInt ≤ 7)) ∧ r.toInt = (-1000001) ∧ u.1.toInt = su.toInt))) (fun u t => wb D A ((fun u => [(h, .inr (7, [.ref sl, .int na, .ref zs, .ref ln, .ref ir, .ref tk, .int u.1, .int le, .ref tb, .int fu, .int ap, .int pp, .ref tr, .int tc, .ref fz, .int nm])), (zs, .inl (cI, 8, .inl zf)), (ln, .inl (cI, 8, .inl lnf)), (ir, .inl (cI, 320, .inl u.2.1)), (tk, .inl (cI, 40, .inl u.2.2))]) u) t) A) ([.ref h, .int a, .int i, .int b, .int j, .int n] : List Value).toArray s 0 0 A) (F0 m 0 ls [])
  have hb_i := zi_lo i
  have hc_i := zi_hi i
  have hb_j := zi_lo j
  have hc_j := zi_hi j
  have hb_n := zi_lo n
  have hc_n := zi_hi n
  refine lv_iload_n hx hb dX8_copy_0 rfl (lv_at hl 1 rfl) ?_
  refine lv_i2l (v := (a.toInt64)) hx hb dX8_copy_1 rfl ?_
  refine lv_lconst (v := 0) hx hb dX8_copy_2 (by decide) ?_
  refine lv_ldc2 (v := 7) hx hb hown (hts (.constantLong RX8 40 (7)) (List.mem_of_getElem? (i := 1) rfl)) dX8_copy_3 ?_
  have k_1 := (g_X8_in l D cI cB cQ s.heap.size (a.toInt64) 0 7)
  refine wc_i (WC := []) (WR := [(h, .inr (7, [.ref sl, .int na, .ref zs, .ref ln, .ref ir, .ref tk, .int su, .int le, .ref tb, .int fu, .int ap, .int pp, .ref tr, .int tc, .ref fz, .int nm])), (zs, .inl (cI, 8, .inl zf)), (ln, .inl (cI, 8, .inl lnf)), (ir, .inl (cI, 320, .inl irf)), (tk, .inl (cI, 40, .inl tkf))]) (va_runS (As := [.long (a.toInt64), .long 0, .long 7]) (rest := []) ⟨hx, hb, hml, hown, hts⟩ k_1 (va_cwS 3 hts gX8_copy_X8_in rfl rfl rfl (by decide +kernel) ⟨Nat.le_of_ble_eq_true rfl, Nat.le_of_ble_eq_true rfl⟩) (wp_S hP hK hD hN [] (by decide) rfl) rfl rfl hl.1 rfl (lv_room (Nat.le_of_ble_eq_true rfl)) dX8_copy_6 ⟨Nat.le_of_ble_eq_true rfl, Nat.le_of_ble_eq_true rfl⟩) hP hD hS hA [] [0, 1, 2, 3, 4] rfl rfl (by decide) (by decide) (fun r_1 u_1 H locs hw_1 hP hD hS => ?_)
  clear k_1
  have hP : va_P D kl [(h, .inr (7, [.ref sl, .int na, .ref zs, .ref ln, .ref ir, .ref tk, .int su, .int le, .ref tb, .int fu, .int ap, .int pp, .ref tr, .int tc, .ref fz, .int nm])), (zs, .inl (cI, 8, .inl zf)), (ln, .inl (cI, 8, .inl lnf)), (ir, .inl (cI, 320, .inl irf)), (tk, .inl (cI, 40, .inl tkf))] H := hP
  have hD : va_D A [(h, .inr (7, [.ref sl, .int na, .ref zs, .ref ln, .ref ir, .ref tk, .int su, .int le, .ref tb, .int fu, .int ap, .int pp, .ref tr, .int tc, .ref fz, .int nm])), (zs, .inl (cI, 8, .inl zf)), (ln, .inl (cI, 8, .inl lnf)), (ir, .inl (cI, 320, .inl irf)), (tk, .inl (cI, 40, .inl tkf))] := hD
  have c1_0 := hw_1
  rcases c1_0 with ⟨e_1, f_1⟩ | ⟨e_1, f_1⟩
  · subst e_1
    have f_1 : (0 : Int) ≤ a.toInt ∧ a.toInt ≤ (7 : Int) := by
      have h8 := f_1
      try simp only [zl_of] at h8
      exact h8
    refine lv_if_eq (tgt := 24) hx hb dX8_copy_9 (by decide) (fun c9 => absurd c9 (by decide)) (fun _ => ?_)
    refine lv_iload_n hx hb dX8_copy_12 rfl (lv_at hl 3 rfl) ?_
    refine lv_i2l (v := (b.toInt64)) hx hb dX8_copy_13 rfl ?_
    refine lv_lconst (v := 0) hx hb dX8_copy_14 (by decide) ?_
    refine lv_ldc2 (v := 7) hx hb hown (hts (.constantLong RX8 40 (7)) (List.mem_of_getElem? (i := 1) rfl)) dX8_copy_15 ?_
    have k_2 := (g_X8_in l D cI cB cQ H.size (b.toInt64) 0 7)
    refine wc_i (WC := []) (WR := [(h, .inr (7, [.ref sl, .int na, .ref zs, .ref ln, .ref ir, .ref tk, .int su, .int le, .ref tb, .int fu, .int ap, .int pp, .ref tr, .int tc, .ref fz, .int nm])), (zs, .inl (cI, 8, .inl zf)), (ln, .inl (cI, 8, .inl lnf)), (ir, .inl (cI, 320, .inl irf)), (tk, .inl (cI, 40, .inl tkf))]) (va_runS (As := [.long (b.toInt64), .long 0, .long 7]) (rest := []) ⟨hx, hb, hml, hown, hts⟩ k_2 (va_cwS 3 hts gX8_copy_X8_in rfl rfl rfl (by decide +kernel) ⟨Nat.le_of_ble_eq_true rfl, Nat.le_of_ble_eq_true rfl⟩) (wp_S hP hK hD hN [] (by decide) rfl) rfl rfl hl.1 rfl (lv_room (Nat.le_of_ble_eq_true rfl)) dX8_copy_18 ⟨Nat.le_of_ble_eq_true rfl, Nat.le_of_ble_eq_true rfl⟩) hP hD hS hA [] [0, 1, 2, 3, 4] rfl rfl (by decide) (by decide) (fun r_2 u_2 H locs hw_2 hP hD hS => ?_)
    clear k_2
    have hP : va_P D kl [(h, .inr (7, [.ref sl, .int na, .ref zs, .ref ln, .ref ir, .ref tk, .int su, .int le, .ref tb, .int fu, .int ap, .int pp, .ref tr, .int tc, .ref fz, .int nm])), (zs, .inl (cI, 8, .inl zf)), (ln, .inl (cI, 8, .inl lnf)), (ir, .inl (cI, 320, .inl irf)), (tk, .inl (cI, 40, .inl tkf))] H := hP
    have hD : va_D A [(h, .inr (7, [.ref sl, .int na, .ref zs, .ref ln, .ref ir, .ref tk, .int su, .int le, .ref tb, .int fu, .int ap, .int pp, .ref tr, .int tc, .ref fz, .int nm])), (zs, .inl (cI, 8, .inl zf)), (ln, .inl (cI, 8, .inl lnf)), (ir, .inl (cI, 320, .inl irf)), (tk, .inl (cI, 40, .inl tkf))] := hD
    have c2_0 := hw_2
    rcases c2_0 with ⟨e_2, f_2⟩ | ⟨e_2, f_2⟩
    · subst e_2
      have f_2 : (0 : Int) ≤ b.toInt ∧ b.toInt ≤ (7 : Int) := by
        have h8 := f_2
        try simp only [zl_of] at h8
        exact h8
      refine lv_if_ne (tgt := 27) hx hb dX8_copy_21 (by decide) (fun _ => ?_) (fun c9 => absurd c9 (by decide))
      refine lv_aload_n hx hb dX8_copy_27 rfl (lv_at hl 0 rfl) ?_
      refine va_get (D := D) (ci := 7) (v := .ref zs) (C := RX8) (T := TX8) (N := 16) hx hb hts (fun _ h => List.mem_cons_of_mem _ (List.mem_append_right _ h)) hown hK hP 0 rfl rfl 2 (by decide) (hts (.fieldLink RX8 13 "WinterWalkModel" "size" "[I") (List.mem_of_getElem? (i := 3) rfl)) (fun _ h9 => h9) rfl dX8_copy_28 ?_
      refine lv_iload_n hx hb dX8_copy_31 rfl (lv_at hl 1 rfl) ?_
      refine va_iald hx hb hK hP 1 0 rfl rfl (zi_in (by omega) (by omega)) dX8_copy_32 ?_
      refine lv_topi (fun x_3 ex_3 => ?_)
      have f_3 : (-1) ≤ x_3.toInt ∧ x_3.toInt ≤ 40 := by rw [ex_3]; exact hz _ (zi_cl (by omega) (by omega))
      have g_3 : x_3.toInt = (zf (a : Int32).toNatClampNeg).toInt := by rw [ex_3]
      refine lv_if_lt (tgt := 45) hx hb dX8_copy_33 (by decide) (fun c_4 => ?_) (fun c_4 => ?_)
      · have f_4 : x_3.toInt < 0 := zi_lt c_4
        refine lv_aload_n hx hb dX8_copy_45 rfl (lv_at hl 0 rfl) ?_
        refine lv_iconst (v := 1) hx hb dX8_copy_46 (by decide) ?_
        have k_5 := (s_X8_finds l D cI cB cQ H.size h sl zs ln ir tk tb tr fz na su le fu ap pp tc nm 1)
        refine wc_i (WC := [(h, .inr (7, [.ref sl, .int na, .ref zs, .ref ln, .ref ir, .ref tk, .int su, .int le, .ref tb, .int fu, .int ap, .int pp, .ref tr, .int tc, .ref fz, .int nm]))]) (WR := [(zs, .inl (cI, 8, .inl zf)), (ln, .inl (cI, 8, .inl lnf)), (ir, .inl (cI, 320, .inl irf)), (tk, .inl (cI, 40, .inl tkf))]) (va_runV (As := [.int 1]) (rest := []) ⟨hx, hb, hml, hown, hts⟩ k_5 (cwV 1 hts gX8_copy_X8_finds rfl rfl rfl (by decide +kernel) ⟨Nat.le_of_ble_eq_true rfl, Nat.le_of_ble_eq_true rfl⟩) (wp_V hP hK hD hN [0] (by decide) rfl (ci := 7) rfl rfl) rfl rfl hl.1 rfl (lv_room (Nat.le_of_ble_eq_true rfl)) dX8_copy_47 ⟨Nat.le_of_ble_eq_true rfl, Nat.le_of_ble_eq_true rfl⟩) hP hD hS hA [0] [1, 2, 3, 4] rfl rfl (by decide) (by decide) (fun r_5 u_5 H locs hw_5 hP hD hS => ?_)
        clear k_5
        have hP : va_P D kl [(zs, .inl (cI, 8, .inl zf)), (ln, .inl (cI, 8, .inl lnf)), (ir, .inl (cI, 320, .inl irf)), (tk, .inl (cI, 40, .inl tkf)), (h, .inr (7, [.ref sl, .int na, .ref zs, .ref ln, .ref ir, .ref tk, .int u_5, .int le, .ref tb, .int fu, .int ap, .int pp, .ref tr, .int tc, .ref fz, .int nm]))] H := hP
        have hD : va_D A [(zs, .inl (cI, 8, .inl zf)), (ln, .inl (cI, 8, .inl lnf)), (ir, .inl (cI, 320, .inl irf)), (tk, .inl (cI, 40, .inl tkf)), (h, .inr (7, [.ref sl, .int na, .ref zs, .ref ln, .ref ir, .ref tk, .int u_5, .int le, .ref tb, .int fu, .int ap, .int pp, .ref tr, .int tc, .ref fz, .int nm]))] := hD
        obtain ⟨c5_0, c5_1⟩ := hw_5
        have c5_1 : u_5.toInt = (1 : Int) := c5_1
        obtain rfl : r_5 = (-1000011) := by first | exact c5_0 | exact c5_0.trans (by decide)
        exact wr_i (v := (-1000011)) hx hb hr hlocks hS (u_5, irf, tkf) (by exact show (((0 ≤ a.toInt ∧ a.toInt ≤ 7) ∧ (0 ≤ b.toInt ∧ b.toInt ≤ 7)) ∧ ¬ ((zf a.toNatClampNeg).toInt < 0) ∧ ¬ ((zf b.toNatClampNeg).toInt < 0) ∧ (lnf a.toNatClampNeg).toInt = (lnf b.toNatClampNeg).toInt ∧ ((0 ≤ i.toInt ∧ 0 ≤ n.toInt ∧ i.toInt + n.toInt ≤ (zf a.toNatClampNeg).toInt) ∧ 0 ≤ j.toInt ∧ j.toInt + n.toInt ≤ (zf b.toNatClampNeg).toInt) ∧ (-1000011) = n.toInt ∧ u_5.toInt = 0) ∨ (((0 ≤ a.toInt ∧ a.toInt ≤ 7) ∧ (0 ≤ b.toInt ∧ b.toInt ≤ 7)) ∧ ¬ ((zf a.toNatClampNeg).toInt < 0) ∧ ¬ ((zf b.toNatClampNeg).toInt < 0) ∧ (lnf a.toNatClampNeg).toInt = (lnf b.toNatClampNeg).toInt ∧ ¬ ((0 ≤ i.toInt ∧ 0 ≤ n.toInt ∧ i.toInt + n.toInt ≤ (zf a.toNatClampNeg).toInt) ∧ 0 ≤ j.toInt ∧ j.toInt + n.toInt ≤ (zf b.toNatClampNeg).toInt) ∧ (-1000011) = (-1000012) ∧ u_5.toInt = 2) ∨ (((0 ≤ a.toInt ∧ a.toInt ≤ 7) ∧ (0 ≤ b.toInt ∧ b.toInt ≤ 7)) ∧ ¬ ((zf a.toNatClampNeg).toInt < 0) ∧ ¬ ((zf b.toNatClampNeg).toInt < 0) ∧ ¬ (lnf a.toNatClampNeg).toInt = (lnf b.toNatClampNeg).toInt ∧ (-1000011) = (-1000015) ∧ u_5.toInt = 5) ∨ (((0 ≤ a.toInt ∧ a.toInt ≤ 7) ∧ (0 ≤ b.toInt ∧ b.toInt ≤ 7)) ∧ (((zf a.toNatClampNeg).toInt < 0) ∨ ((zf b.toNatClampNeg).toInt < 0)) ∧ (-1000011) = (-1000011) ∧ u_5.toInt = 1) ∨ (¬ ((0 ≤ a.toInt ∧ a.toInt ≤ 7) ∧ (0 ≤ b.toInt ∧ b.toInt ≤ 7)) ∧ (-1000011) = (-1000001) ∧ u_5.toInt = su.toInt) from by omega) (hP.sub [4, 0, 1, 2, 3] rfl) (hD.sub [4, 0, 1, 2, 3] (by decide) rfl) dX8_copy_50
      · have f_4 : ¬ x_3.toInt < 0 := zi_nlt c_4
        refine lv_aload_n hx hb dX8_copy_36 rfl (lv_at hl 0 rfl) ?_
        refine va_get (D := D) (ci := 7) (v := .ref zs) (C := RX8) (T := TX8) (N := 16) hx hb hts (fun _ h => List.mem_cons_of_mem _ (List.mem_append_right _ h)) hown hK hP 0 rfl rfl 2 (by decide) (hts (.fieldLink RX8 13 "WinterWalkModel" "size" "[I") (List.mem_of_getElem? (i := 3) rfl)) (fun _ h9 => h9) rfl dX8_copy_37 ?_
        refine lv_iload_n hx hb dX8_copy_40 rfl (lv_at hl 3 rfl) ?_
        refine va_iald hx hb hK hP 1 0 rfl rfl (zi_in (by omega) (by omega)) dX8_copy_41 ?_
        refine lv_topi (fun x_6 ex_6 => ?_)
        have f_6 : (-1) ≤ x_6.toInt ∧ x_6.toInt ≤ 40 := by rw [ex_6]; exact hz _ (zi_cl (by omega) (by omega))
        have g_6 : x_6.toInt = (zf (b : Int32).toNatClampNeg).toInt := by rw [ex_6]
        refine lv_if_ge (tgt := 51) hx hb dX8_copy_42 (by decide) (fun c_7 => ?_) (fun c_7 => ?_)
        · have f_7 : 0 ≤ x_6.toInt := zi_le c_7
          refine lv_aload_n hx hb dX8_copy_51 rfl (lv_at hl 0 rfl) ?_
          refine va_get (D := D) (ci := 7) (v := .ref ln) (C := RX8) (T := TX8) (N := 16) hx hb hts (fun _ h => List.mem_cons_of_mem _ (List.mem_append_right _ h)) hown hK hP 0 rfl rfl 3 (by decide) (hts (.fieldLink RX8 16 "WinterWalkModel" "lane" "[I") (List.mem_of_getElem? (i := 4) rfl)) (fun _ h9 => h9) rfl dX8_copy_52 ?_
          refine lv_iload_n hx hb dX8_copy_55 rfl (lv_at hl 1 rfl) ?_
          refine va_iald hx hb hK hP 2 0 rfl rfl (zi_in (by omega) (by omega)) dX8_copy_56 ?_
          refine lv_topi (fun x_8 ex_8 => ?_)
          have g_8 : x_8.toInt = (lnf (a : Int32).toNatClampNeg).toInt := by rw [ex_8]
          refine lv_aload_n hx hb dX8_copy_57 rfl (lv_at hl 0 rfl) ?_
          refine va_get (D := D) (ci := 7) (v := .ref ln) (C := RX8) (T := TX8) (N := 16) hx hb hts (fun _ h => List.mem_cons_of_mem _ (List.mem_append_right _ h)) hown hK hP 0 rfl rfl 3 (by decide) (hts (.fieldLink RX8 16 "WinterWalkModel" "lane" "[I") (List.mem_of_getElem? (i := 4) rfl)) (fun _ h9 => h9) rfl dX8_copy_58 ?_
          refine lv_iload_n hx hb dX8_copy_61 rfl (lv_at hl 3 rfl) ?_
          refine va_iald hx hb hK hP 2 0 rfl rfl (zi_in (by omega) (by omega)) dX8_copy_62 ?_
          refine lv_topi (fun x_9 ex_9 => ?_)
          have g_9 : x_9.toInt = (lnf (b : Int32).toNatClampNeg).toInt := by rw [ex_9]
          refine lv_icmp_eq (tgt := 72) hx hb dX8_copy_63 (by decide) (fun c_10 => ?_) (fun c_10 => ?_)
          · have f_10 : x_8.toInt = x_9.toInt := zi_eq c_10
            refine lv_iload_n hx hb dX8_copy_72 rfl (lv_at hl 2 rfl) ?_
            refine lv_if_lt (tgt := 121) hx hb dX8_copy_73 (by decide) (fun c_11 => ?_) (fun c_11 => ?_)
            · have f_11 : i.toInt < 0 := zi_lt c_11
              refine lv_aload_n hx hb dX8_copy_121 rfl (lv_at hl 0 rfl) ?_
              refine lv_iconst (v := 2) hx hb dX8_copy_122 (by decide) ?_
              have k_12 := (s_X8_finds l D cI cB cQ H.size h sl zs ln ir tk tb tr fz na su le fu ap pp tc nm 2)
              refine wc_i (WC := [(h, .inr (7, [.ref sl, .int na, .ref zs, .ref ln, .ref ir, .ref tk, .int su, .int le, .ref tb, .int fu, .int ap, .int pp, .ref tr, .int tc, .ref fz, .int nm]))]) (WR := [(zs, .inl (cI, 8, .inl zf)), (ln, .inl (cI, 8, .inl lnf)), (ir, .inl (cI, 320, .inl irf)), (tk, .inl (cI, 40, .inl tkf))]) (va_runV (As := [.int 2]) (rest := []) ⟨hx, hb, hml, hown, hts⟩ k_12 (cwV 1 hts gX8_copy_X8_finds rfl rfl rfl (by decide +kernel) ⟨Nat.le_of_ble_eq_true rfl, Nat.le_of_ble_eq_true rfl⟩) (wp_V hP hK hD hN [0] (by decide) rfl (ci := 7) rfl rfl) rfl rfl hl.1 rfl (lv_room (Nat.le_of_ble_eq_true rfl)) dX8_copy_123 ⟨Nat.le_of_ble_eq_true rfl, Nat.le_of_ble_eq_true rfl⟩) hP hD hS hA [0] [1, 2, 3, 4] rfl rfl (by decide) (by decide) (fun r_12 u_12 H locs hw_12 hP hD hS => ?_)
              clear k_12
              have hP : va_P D kl [(zs, .inl (cI, 8, .inl zf)), (ln, .inl (cI, 8, .inl lnf)), (ir, .inl (cI, 320, .inl irf)), (tk, .inl (cI, 40, .inl tkf)), (h, .inr (7, [.ref sl, .int na, .ref zs, .ref ln, .ref ir, .ref tk, .int u_12, .int le, .ref tb, .int fu, .int ap, .int pp, .ref tr, .int tc, .ref fz, .int nm]))] H := hP
              have hD : va_D A [(zs, .inl (cI, 8, .inl zf)), (ln, .inl (cI, 8, .inl lnf)), (ir, .inl (cI, 320, .inl irf)), (tk, .inl (cI, 40, .inl tkf)), (h, .inr (7, [.ref sl, .int na, .ref zs, .ref ln, .ref ir, .ref tk, .int u_12, .int le, .ref tb, .int fu, .int ap, .int pp, .ref tr, .int tc, .ref fz, .int nm]))] := hD
              obtain ⟨c12_0, c12_1⟩ := hw_12
              have c12_1 : u_12.toInt = (2 : Int) := c12_1
              obtain rfl : r_12 = (-1000012) := by first | exact c12_0 | exact c12_0.trans (by decide)
              exact wr_i (v := (-1000012)) hx hb hr hlocks hS (u_12, irf, tkf) (by exact show (((0 ≤ a.toInt ∧ a.toInt ≤ 7) ∧ (0 ≤ b.toInt ∧ b.toInt ≤ 7)) ∧ ¬ ((zf a.toNatClampNeg).toInt < 0) ∧ ¬ ((zf b.toNatClampNeg).toInt < 0) ∧ (lnf a.toNatClampNeg).toInt = (lnf b.toNatClampNeg).toInt ∧ ((0 ≤ i.toInt ∧ 0 ≤ n.toInt ∧ i.toInt + n.toInt ≤ (zf a.toNatClampNeg).toInt) ∧ 0 ≤ j.toInt ∧ j.toInt + n.toInt ≤ (zf b.toNatClampNeg).toInt) ∧ (-1000012) = n.toInt ∧ u_12.toInt = 0) ∨ (((0 ≤ a.toInt ∧ a.toInt ≤ 7) ∧ (0 ≤ b.toInt ∧ b.toInt ≤ 7)) ∧ ¬ ((zf a.toNatClampNeg).toInt < 0) ∧ ¬ ((zf b.toNatClampNeg).toInt < 0) ∧ (lnf a.toNatClampNeg).toInt = (lnf b.toNatClampNeg).toInt ∧ ¬ ((0 ≤ i.toInt ∧ 0 ≤ n.toInt ∧ i.toInt + n.toInt ≤ (zf a.toNatClampNeg).toInt) ∧ 0 ≤ j.toInt ∧ j.toInt + n.toInt ≤ (zf b.toNatClampNeg).toInt) ∧ (-1000012) = (-1000012) ∧ u_12.toInt = 2) ∨ (((0 ≤ a.toInt ∧ a.toInt ≤ 7) ∧ (0 ≤ b.toInt ∧ b.toInt ≤ 7)) ∧ ¬ ((zf a.toNatClampNeg).toInt < 0) ∧ ¬ ((zf b.toNatClampNeg).toInt < 0) ∧ ¬ (lnf a.toNatClampNeg).toInt = (lnf b.toNatClampNeg).toInt ∧ (-1000012) = (-1000015) ∧ u_12.toInt = 5) ∨ (((0 ≤ a.toInt ∧ a.toInt ≤ 7) ∧ (0 ≤ b.toInt ∧ b.toInt ≤ 7)) ∧ (((zf a.toNatClampNeg).toInt < 0) ∨ ((zf b.toNatClampNeg).toInt < 0)) ∧ (-1000012) = (-1000011) ∧ u_12.toInt = 1) ∨ (¬ ((0 ≤ a.toInt ∧ a.toInt ≤ 7) ∧ (0 ≤ b.toInt ∧ b.toInt ≤ 7)) ∧ (-1000012) = (-1000001) ∧ u_12.toInt = su.toInt) from by omega) (hP.sub [4, 0, 1, 2, 3] rfl) (hD.sub [4, 0, 1, 2, 3] (by decide) rfl) dX8_copy_126
            · have f_11 : ¬ i.toInt < 0 := zi_nlt c_11
              refine lv_iload hx hb dX8_copy_76 (lv_at hl 4 rfl) ?_
              refine lv_if_lt (tgt := 121) hx hb dX8_copy_78 (by decide) (fun c_13 => ?_) (fun c_13 => ?_)
              · have f_13 : j.toInt < 0 := zi_lt c_13
                refine lv_aload_n hx hb dX8_copy_121 rfl (lv_at hl 0 rfl) ?_
                refine lv_iconst (v := 2) hx hb dX8_copy_122 (by decide) ?_
                have k_14 := (s_X8_finds l D cI cB cQ H.size h sl zs ln ir tk tb tr fz na su le fu ap pp tc nm 2)
                refine wc_i (WC := [(h, .inr (7, [.ref sl, .int na, .ref zs, .ref ln, .ref ir, .ref tk, .int su, .int le, .ref tb, .int fu, .int ap, .int pp, .ref tr, .int tc, .ref fz, .int nm]))]) (WR := [(zs, .inl (cI, 8, .inl zf)), (ln, .inl (cI, 8, .inl lnf)), (ir, .inl (cI, 320, .inl irf)), (tk, .inl (cI, 40, .inl tkf))]) (va_runV (As := [.int 2]) (rest := []) ⟨hx, hb, hml, hown, hts⟩ k_14 (cwV 1 hts gX8_copy_X8_finds rfl rfl rfl (by decide +kernel) ⟨Nat.le_of_ble_eq_true rfl, Nat.le_of_ble_eq_true rfl⟩) (wp_V hP hK hD hN [0] (by decide) rfl (ci := 7) rfl rfl) rfl rfl hl.1 rfl (lv_room (Nat.le_of_ble_eq_true rfl)) dX8_copy_123 ⟨Nat.le_of_ble_eq_true rfl, Nat.le_of_ble_eq_true rfl⟩) hP hD hS hA [0] [1, 2, 3, 4] rfl rfl (by decide) (by decide) (fun r_14 u_14 H locs hw_14 hP hD hS => ?_)
                clear k_14
                have hP : va_P D kl [(zs, .inl (cI, 8, .inl zf)), (ln, .inl (cI, 8, .inl lnf)), (ir, .inl (cI, 320, .inl irf)), (tk, .inl (cI, 40, .inl tkf)), (h, .inr (7, [.ref sl, .int na, .ref zs, .ref ln, .ref ir, .ref tk, .int u_14, .int le, .ref tb, .int fu, .int ap, .int pp, .ref tr, .int tc, .ref fz, .int nm]))] H := hP
                have hD : va_D A [(zs, .inl (cI, 8, .inl zf)), (ln, .inl (cI, 8, .inl lnf)), (ir, .inl (cI, 320, .inl irf)), (tk, .inl (cI, 40, .inl tkf)), (h, .inr (7, [.ref sl, .int na, .ref zs, .ref ln, .ref ir, .ref tk, .int u_14, .int le, .ref tb, .int fu, .int ap, .int pp, .ref tr, .int tc, .ref fz, .int nm]))] := hD
                obtain ⟨c14_0, c14_1⟩ := hw_14
                have c14_1 : u_14.toInt = (2 : Int) := c14_1
                obtain rfl : r_14 = (-1000012) := by first | exact c14_0 | exact c14_0.trans (by decide)
                exact wr_i (v := (-1000012)) hx hb hr hlocks hS (u_14, irf, tkf) (by exact show (((0 ≤ a.toInt ∧ a.toInt ≤ 7) ∧ (0 ≤ b.toInt ∧ b.toInt ≤ 7)) ∧ ¬ ((zf a.toNatClampNeg).toInt < 0) ∧ ¬ ((zf b.toNatClampNeg).toInt < 0) ∧ (lnf a.toNatClampNeg).toInt = (lnf b.toNatClampNeg).toInt ∧ ((0 ≤ i.toInt ∧ 0 ≤ n.toInt ∧ i.toInt + n.toInt ≤ (zf a.toNatClampNeg).toInt) ∧ 0 ≤ j.toInt ∧ j.toInt + n.toInt ≤ (zf b.toNatClampNeg).toInt) ∧ (-1000012) = n.toInt ∧ u_14.toInt = 0) ∨ (((0 ≤ a.toInt ∧ a.toInt ≤ 7) ∧ (0 ≤ b.toInt ∧ b.toInt ≤ 7)) ∧ ¬ ((zf a.toNatClampNeg).toInt < 0) ∧ ¬ ((zf b.toNatClampNeg).toInt < 0) ∧ (lnf a.toNatClampNeg).toInt = (lnf b.toNatClampNeg).toInt ∧ ¬ ((0 ≤ i.toInt ∧ 0 ≤ n.toInt ∧ i.toInt + n.toInt ≤ (zf a.toNatClampNeg).toInt) ∧ 0 ≤ j.toInt ∧ j.toInt + n.toInt ≤ (zf b.toNatClampNeg).toInt) ∧ (-1000012) = (-1000012) ∧ u_14.toInt = 2) ∨ (((0 ≤ a.toInt ∧ a.toInt ≤ 7) ∧ (0 ≤ b.toInt ∧ b.toInt ≤ 7)) ∧ ¬ ((zf a.toNatClampNeg).toInt < 0) ∧ ¬ ((zf b.toNatClampNeg).toInt < 0) ∧ ¬ (lnf a.toNatClampNeg).toInt = (lnf b.toNatClampNeg).toInt ∧ (-1000012) = (-1000015) ∧ u_14.toInt = 5) ∨ (((0 ≤ a.toInt ∧ a.toInt ≤ 7) ∧ (0 ≤ b.toInt ∧ b.toInt ≤ 7)) ∧ (((zf a.toNatClampNeg).toInt < 0) ∨ ((zf b.toNatClampNeg).toInt < 0)) ∧ (-1000012) = (-1000011) ∧ u_14.toInt = 1) ∨ (¬ ((0 ≤ a.toInt ∧ a.toInt ≤ 7) ∧ (0 ≤ b.toInt ∧ b.toInt ≤ 7)) ∧ (-1000012) = (-1000001) ∧ u_14.toInt = su.toInt) from by omega) (hP.sub [4, 0, 1, 2, 3] rfl) (hD.sub [4, 0, 1, 2, 3] (by decide) rfl) dX8_copy_126
              · have f_13 : ¬ j.toInt < 0 := zi_nlt c_13
                refine lv_iload hx hb dX8_copy_81 (lv_at hl 5 rfl) ?_
                refine lv_if_lt (tgt := 121) hx hb dX8_copy_83 (by decide) (fun c_15 => ?_) (fun c_15 => ?_)
                · have f_15 : n.toInt < 0 := zi_lt c_15
                  refine lv_aload_n hx hb dX8_copy_121 rfl (lv_at hl 0 rfl) ?_
                  refine lv_iconst (v := 2) hx hb dX8_copy_122 (by decide) ?_
                  have k_16 := (s_X8_finds l D cI cB cQ H.size h sl zs ln ir tk tb tr fz na su le fu ap pp tc nm 2)
                  refine wc_i (WC := [(h, .inr (7, [.ref sl, .int na, .ref zs, .ref ln, .ref ir, .ref tk, .int su, .int le, .ref tb, .int fu, .int ap, .int pp, .ref tr, .int tc, .ref fz, .int nm]))]) (WR := [(zs, .inl (cI, 8, .inl zf)), (ln, .inl (cI, 8, .inl lnf)), (ir, .inl (cI, 320, .inl irf)), (tk, .inl (cI, 40, .inl tkf))]) (va_runV (As := [.int 2]) (rest := []) ⟨hx, hb, hml, hown, hts⟩ k_16 (cwV 1 hts gX8_copy_X8_finds rfl rfl rfl (by decide +kernel) ⟨Nat.le_of_ble_eq_true rfl, Nat.le_of_ble_eq_true rfl⟩) (wp_V hP hK hD hN [0] (by decide) rfl (ci := 7) rfl rfl) rfl rfl hl.1 rfl (lv_room (Nat.le_of_ble_eq_true rfl)) dX8_copy_123 ⟨Nat.le_of_ble_eq_true rfl, Nat.le_of_ble_eq_true rfl⟩) hP hD hS hA [0] [1, 2, 3, 4] rfl rfl (by decide) (by decide) (fun r_16 u_16 H locs hw_16 hP hD hS => ?_)
                  clear k_16
                  have hP : va_P D kl [(zs, .inl (cI, 8, .inl zf)), (ln, .inl (cI, 8, .inl lnf)), (ir, .inl (cI, 320, .inl irf)), (tk, .inl (cI, 40, .inl tkf)), (h, .inr (7, [.ref sl, .int na, .ref zs, .ref ln, .ref ir, .ref tk, .int u_16, .int le, .ref tb, .int fu, .int ap, .int pp, .ref tr, .int tc, .ref fz, .int nm]))] H := hP
                  have hD : va_D A [(zs, .inl (cI, 8, .inl zf)), (ln, .inl (cI, 8, .inl lnf)), (ir, .inl (cI, 320, .inl irf)), (tk, .inl (cI, 40, .inl tkf)), (h, .inr (7, [.ref sl, .int na, .ref zs, .ref ln, .ref ir, .ref tk, .int u_16, .int le, .ref tb, .int fu, .int ap, .int pp, .ref tr, .int tc, .ref fz, .int nm]))] := hD
                  obtain ⟨c16_0, c16_1⟩ := hw_16
                  have c16_1 : u_16.toInt = (2 : Int) := c16_1
                  obtain rfl : r_16 = (-1000012) := by first | exact c16_0 | exact c16_0.trans (by decide)
                  exact wr_i (v := (-1000012)) hx hb hr hlocks hS (u_16, irf, tkf) (by exact show (((0 ≤ a.toInt ∧ a.toInt ≤ 7) ∧ (0 ≤ b.toInt ∧ b.toInt ≤ 7)) ∧ ¬ ((zf a.toNatClampNeg).toInt < 0) ∧ ¬ ((zf b.toNatClampNeg).toInt < 0) ∧ (lnf a.toNatClampNeg).toInt = (lnf b.toNatClampNeg).toInt ∧ ((0 ≤ i.toInt ∧ 0 ≤ n.toInt ∧ i.toInt + n.toInt ≤ (zf a.toNatClampNeg).toInt) ∧ 0 ≤ j.toInt ∧ j.toInt + n.toInt ≤ (zf b.toNatClampNeg).toInt) ∧ (-1000012) = n.toInt ∧ u_16.toInt = 0) ∨ (((0 ≤ a.toInt ∧ a.toInt ≤ 7) ∧ (0 ≤ b.toInt ∧ b.toInt ≤ 7)) ∧ ¬ ((zf a.toNatClampNeg).toInt < 0) ∧ ¬ ((zf b.toNatClampNeg).toInt < 0) ∧ (lnf a.toNatClampNeg).toInt = (lnf b.toNatClampNeg).toInt ∧ ¬ ((0 ≤ i.toInt ∧ 0 ≤ n.toInt ∧ i.toInt + n.toInt ≤ (zf a.toNatClampNeg).toInt) ∧ 0 ≤ j.toInt ∧ j.toInt + n.toInt ≤ (zf b.toNatClampNeg).toInt) ∧ (-1000012) = (-1000012) ∧ u_16.toInt = 2) ∨ (((0 ≤ a.toInt ∧ a.toInt ≤ 7) ∧ (0 ≤ b.toInt ∧ b.toInt ≤ 7)) ∧ ¬ ((zf a.toNatClampNeg).toInt < 0) ∧ ¬ ((zf b.toNatClampNeg).toInt < 0) ∧ ¬ (lnf a.toNatClampNeg).toInt = (lnf b.toNatClampNeg).toInt ∧ (-1000012) = (-1000015) ∧ u_16.toInt = 5) ∨ (((0 ≤ a.toInt ∧ a.toInt ≤ 7) ∧ (0 ≤ b.toInt ∧ b.toInt ≤ 7)) ∧ (((zf a.toNatClampNeg).toInt < 0) ∨ ((zf b.toNatClampNeg).toInt < 0)) ∧ (-1000012) = (-1000011) ∧ u_16.toInt = 1) ∨ (¬ ((0 ≤ a.toInt ∧ a.toInt ≤ 7) ∧ (0 ≤ b.toInt ∧ b.toInt ≤ 7)) ∧ (-1000012) = (-1000001) ∧ u_16.toInt = su.toInt) from by omega) (hP.sub [4, 0, 1, 2, 3] rfl) (hD.sub [4, 0, 1, 2, 3] (by decide) rfl) dX8_copy_126
                · have f_15 : ¬ n.toInt < 0 := zi_nlt c_15
                  refine lv_iload_n hx hb dX8_copy_86 rfl (lv_at hl 2 rfl) ?_
                  refine lv_i2l (v := (i.toInt64)) hx hb dX8_copy_87 rfl ?_
                  refine lv_iload hx hb dX8_copy_88 (lv_at hl 5 rfl) ?_
                  refine lv_i2l (v := (n.toInt64)) hx hb dX8_copy_90 rfl ?_
                  refine lv_ladd hx hb dX8_copy_91 ?_
                  refine lv_topl (fun x_17 ex_17 => ?_)
                  have e_17 : x_17.toInt = i.toInt + n.toInt := by rw [ex_17]; exact zl_add (zl_of _) (zl_of _) (by omega) (by omega)
                  clear ex_17
                  refine lv_aload_n hx hb dX8_copy_92 rfl (lv_at hl 0 rfl) ?_
                  refine va_get (D := D) (ci := 7) (v := .ref zs) (C := RX8) (T := TX8) (N := 16) hx hb hts (fun _ h => List.mem_cons_of_mem _ (List.mem_append_right _ h)) hown hK hP 0 rfl rfl 2 (by decide) (hts (.fieldLink RX8 13 "WinterWalkModel" "size" "[I") (List.mem_of_getElem? (i := 3) rfl)) (fun _ h9 => h9) rfl dX8_copy_93 ?_
                  refine lv_iload_n hx hb dX8_copy_96 rfl (lv_at hl 1 rfl) ?_
                  refine va_iald hx hb hK hP 1 0 rfl rfl (zi_in (by omega) (by omega)) dX8_copy_97 ?_
                  refine lv_topi (fun x_18 ex_18 => ?_)
                  have f_18 : (-1) ≤ x_18.toInt ∧ x_18.toInt ≤ 40 := by rw [ex_18]; exact hz _ (zi_cl (by omega) (by omega))
                  have g_18 : x_18.toInt = (zf (a : Int32).toNatClampNeg).toInt := by rw [ex_18]
                  refine lv_i2l (v := (x_18.toInt64)) hx hb dX8_copy_98 rfl ?_
                  refine W.lcmp hx hb dX8_copy_99 ?_
                  refine lv_topi (fun x_19 ex_19 => ?_)
                  rcases zc_cases x_17 (x_18.toInt64) with ⟨h1, f_19⟩ | ⟨h1, f_19⟩ | ⟨h1, f_19⟩
                  · obtain rfl : x_19 = 1 := ex_19.trans h1
                    have f_19 : x_18.toInt < x_17.toInt := by
                      have h8 := f_19
                      try simp only [zl_of] at h8
                      exact h8
                    refine lv_if_gt (tgt := 121) hx hb dX8_copy_100 (by decide) (fun _ => ?_) (fun c9 => absurd (by decide) c9)
                    refine lv_aload_n hx hb dX8_copy_121 rfl (lv_at hl 0 rfl) ?_
                    refine lv_iconst (v := 2) hx hb dX8_copy_122 (by decide) ?_
                    have k_20 := (s_X8_finds l D cI cB cQ H.size h sl zs ln ir tk tb tr fz na su le fu ap pp tc nm 2)
                    refine wc_i (WC := [(h, .inr (7, [.ref sl, .int na, .ref zs, .ref ln, .ref ir, .ref tk, .int su, .int le, .ref tb, .int fu, .int ap, .int pp, .ref tr, .int tc, .ref fz, .int nm]))]) (WR := [(zs, .inl (cI, 8, .inl zf)), (ln, .inl (cI, 8, .inl lnf)), (ir, .inl (cI, 320, .inl irf)), (tk, .inl (cI, 40, .inl tkf))]) (va_runV (As := [.int 2]) (rest := []) ⟨hx, hb, hml, hown, hts⟩ k_20 (cwV 1 hts gX8_copy_X8_finds rfl rfl rfl (by decide +kernel) ⟨Nat.le_of_ble_eq_true rfl, Nat.le_of_ble_eq_true rfl⟩) (wp_V hP hK hD hN [0] (by decide) rfl (ci := 7) rfl rfl) rfl rfl hl.1 rfl (lv_room (Nat.le_of_ble_eq_true rfl)) dX8_copy_123 ⟨Nat.le_of_ble_eq_true rfl, Nat.le_of_ble_eq_true rfl⟩) hP hD hS hA [0] [1, 2, 3, 4] rfl rfl (by decide) (by decide) (fun r_20 u_20 H locs hw_20 hP hD hS => ?_)
                    clear k_20
                    have hP : va_P D kl [(zs, .inl (cI, 8, .inl zf)), (ln, .inl (cI, 8, .inl lnf)), (ir, .inl (cI, 320, .inl irf)), (tk, .inl (cI, 40, .inl tkf)), (h, .inr (7, [.ref sl, .int na, .ref zs, .ref ln, .ref ir, .ref tk, .int u_20, .int le, .ref tb, .int fu, .int ap, .int pp, .ref tr, .int tc, .ref fz, .int nm]))] H := hP
                    have hD : va_D A [(zs, .inl (cI, 8, .inl zf)), (ln, .inl (cI, 8, .inl lnf)), (ir, .inl (cI, 320, .inl irf)), (tk, .inl (cI, 40, .inl tkf)), (h, .inr (7, [.ref sl, .int na, .ref zs, .ref ln, .ref ir, .ref tk, .int u_20, .int le, .ref tb, .int fu, .int ap, .int pp, .ref tr, .int tc, .ref fz, .int nm]))] := hD
                    obtain ⟨c20_0, c20_1⟩ := hw_20
                    have c20_1 : u_20.toInt = (2 : Int) := c20_1
                    obtain rfl : r_20 = (-1000012) := by first | exact c20_0 | exact c20_0.trans (by decide)
                    exact wr_i (v := (-1000012)) hx hb hr hlocks hS (u_20, irf, tkf) (by exact show (((0 ≤ a.toInt ∧ a.toInt ≤ 7) ∧ (0 ≤ b.toInt ∧ b.toInt ≤ 7)) ∧ ¬ ((zf a.toNatClampNeg).toInt < 0) ∧ ¬ ((zf b.toNatClampNeg).toInt < 0) ∧ (lnf a.toNatClampNeg).toInt = (lnf b.toNatClampNeg).toInt ∧ ((0 ≤ i.toInt ∧ 0 ≤ n.toInt ∧ i.toInt + n.toInt ≤ (zf a.toNatClampNeg).toInt) ∧ 0 ≤ j.toInt ∧ j.toInt + n.toInt ≤ (zf b.toNatClampNeg).toInt) ∧ (-1000012) = n.toInt ∧ u_20.toInt = 0) ∨ (((0 ≤ a.toInt ∧ a.toInt ≤ 7) ∧ (0 ≤ b.toInt ∧ b.toInt ≤ 7)) ∧ ¬ ((zf a.toNatClampNeg).toInt < 0) ∧ ¬ ((zf b.toNatClampNeg).toInt < 0) ∧ (lnf a.toNatClampNeg).toInt = (lnf b.toNatClampNeg).toInt ∧ ¬ ((0 ≤ i.toInt ∧ 0 ≤ n.toInt ∧ i.toInt + n.toInt ≤ (zf a.toNatClampNeg).toInt) ∧ 0 ≤ j.toInt ∧ j.toInt + n.toInt ≤ (zf b.toNatClampNeg).toInt) ∧ (-1000012) = (-1000012) ∧ u_20.toInt = 2) ∨ (((0 ≤ a.toInt ∧ a.toInt ≤ 7) ∧ (0 ≤ b.toInt ∧ b.toInt ≤ 7)) ∧ ¬ ((zf a.toNatClampNeg).toInt < 0) ∧ ¬ ((zf b.toNatClampNeg).toInt < 0) ∧ ¬ (lnf a.toNatClampNeg).toInt = (lnf b.toNatClampNeg).toInt ∧ (-1000012) = (-1000015) ∧ u_20.toInt = 5) ∨ (((0 ≤ a.toInt ∧ a.toInt ≤ 7) ∧ (0 ≤ b.toInt ∧ b.toInt ≤ 7)) ∧ (((zf a.toNatClampNeg).toInt < 0) ∨ ((zf b.toNatClampNeg).toInt < 0)) ∧ (-1000012) = (-1000011) ∧ u_20.toInt = 1) ∨ (¬ ((0 ≤ a.toInt ∧ a.toInt ≤ 7) ∧ (0 ≤ b.toInt ∧ b.toInt ≤ 7)) ∧ (-1000012) = (-1000001) ∧ u_20.toInt = su.toInt) from by omega) (hP.sub [4, 0, 1, 2, 3] rfl) (hD.sub [4, 0, 1, 2, 3] (by decide) rfl) dX8_copy_126
                  · obtain rfl : x_19 = 0 := ex_19.trans h1
                    have f_19 : x_17.toInt = x_18.toInt := by
                      have h8 := f_19
                      try simp only [zl_of] at h8
                      exact h8
                    refine lv_if_gt (tgt := 121) hx hb dX8_copy_100 (by decide) (fun c9 => absurd c9 (by decide)) (fun _ => ?_)
                    refine lv_iload hx hb dX8_copy_103 (lv_at hl 4 rfl) ?_
                    refine lv_i2l (v := (j.toInt64)) hx hb dX8_copy_105 rfl ?_
                    refine lv_iload hx hb dX8_copy_106 (lv_at hl 5 rfl) ?_
                    refine lv_i2l (v := (n.toInt64)) hx hb dX8_copy_108 rfl ?_
                    refine lv_ladd hx hb dX8_copy_109 ?_
                    refine lv_topl (fun x_21 ex_21 => ?_)
                    have e_21 : x_21.toInt = j.toInt + n.toInt := by rw [ex_21]; exact zl_add (zl_of _) (zl_of _) (by omega) (by omega)
                    clear ex_21
                    refine lv_aload_n hx hb dX8_copy_110 rfl (lv_at hl 0 rfl) ?_
                    refine va_get (D := D) (ci := 7) (v := .ref zs) (C := RX8) (T := TX8) (N := 16) hx hb hts (fun _ h => List.mem_cons_of_mem _ (List.mem_append_right _ h)) hown hK hP 0 rfl rfl 2 (by decide) (hts (.fieldLink RX8 13 "WinterWalkModel" "size" "[I") (List.mem_of_getElem? (i := 3) rfl)) (fun _ h9 => h9) rfl dX8_copy_111 ?_
                    refine lv_iload_n hx hb dX8_copy_114 rfl (lv_at hl 3 rfl) ?_
                    refine va_iald hx hb hK hP 1 0 rfl rfl (zi_in (by omega) (by omega)) dX8_copy_115 ?_
                    refine lv_topi (fun x_22 ex_22 => ?_)
                    have f_22 : (-1) ≤ x_22.toInt ∧ x_22.toInt ≤ 40 := by rw [ex_22]; exact hz _ (zi_cl (by omega) (by omega))
                    have g_22 : x_22.toInt = (zf (b : Int32).toNatClampNeg).toInt := by rw [ex_22]
                    refine lv_i2l (v := (x_22.toInt64)) hx hb dX8_copy_116 rfl ?_
                    refine W.lcmp hx hb dX8_copy_117 ?_
                    refine lv_topi (fun x_23 ex_23 => ?_)
                    rcases zc_cases x_21 (x_22.toInt64) with ⟨h1, f_23⟩ | ⟨h1, f_23⟩ | ⟨h1, f_23⟩
                    · obtain rfl : x_23 = 1 := ex_23.trans h1
                      have f_23 : x_22.toInt < x_21.toInt := by
                        have h8 := f_23
                        try simp only [zl_of] at h8
                        exact h8
                      refine lv_if_le (tgt := 127) hx hb dX8_copy_118 (by decide) (fun c9 => absurd c9 (by decide)) (fun _ => ?_)
                      refine lv_aload_n hx hb dX8_copy_121 rfl (lv_at hl 0 rfl) ?_
                      refine lv_iconst (v := 2) hx hb dX8_copy_122 (by decide) ?_
                      have k_24 := (s_X8_finds l D cI cB cQ H.size h sl zs ln ir tk tb tr fz na su le fu ap pp tc nm 2)
                      refine wc_i (WC := [(h, .inr (7, [.ref sl, .int na, .ref zs, .ref ln, .ref ir, .ref tk, .int su, .int le, .ref tb, .int fu, .int ap, .int pp, .ref tr, .int tc, .ref fz, .int nm]))]) (WR := [(zs, .inl (cI, 8, .inl zf)), (ln, .inl (cI, 8, .inl lnf)), (ir, .inl (cI, 320, .inl irf)), (tk, .inl (cI, 40, .inl tkf))]) (va_runV (As := [.int 2]) (rest := []) ⟨hx, hb, hml, hown, hts⟩ k_24 (cwV 1 hts gX8_copy_X8_finds rfl rfl rfl (by decide +kernel) ⟨Nat.le_of_ble_eq_true rfl, Nat.le_of_ble_eq_true rfl⟩) (wp_V hP hK hD hN [0] (by decide) rfl (ci := 7) rfl rfl) rfl rfl hl.1 rfl (lv_room (Nat.le_of_ble_eq_true rfl)) dX8_copy_123 ⟨Nat.le_of_ble_eq_true rfl, Nat.le_of_ble_eq_true rfl⟩) hP hD hS hA [0] [1, 2, 3, 4] rfl rfl (by decide) (by decide) (fun r_24 u_24 H locs hw_24 hP hD hS => ?_)
                      clear k_24
                      have hP : va_P D kl [(zs, .inl (cI, 8, .inl zf)), (ln, .inl (cI, 8, .inl lnf)), (ir, .inl (cI, 320, .inl irf)), (tk, .inl (cI, 40, .inl tkf)), (h, .inr (7, [.ref sl, .int na, .ref zs, .ref ln, .ref ir, .ref tk, .int u_24, .int le, .ref tb, .int fu, .int ap, .int pp, .ref tr, .int tc, .ref fz, .int nm]))] H := hP
                      have hD : va_D A [(zs, .inl (cI, 8, .inl zf)), (ln, .inl (cI, 8, .inl lnf)), (ir, .inl (cI, 320, .inl irf)), (tk, .inl (cI, 40, .inl tkf)), (h, .inr (7, [.ref sl, .int na, .ref zs, .ref ln, .ref ir, .ref tk, .int u_24, .int le, .ref tb, .int fu, .int ap, .int pp, .ref tr, .int tc, .ref fz, .int nm]))] := hD
                      obtain ⟨c24_0, c24_1⟩ := hw_24
                      have c24_1 : u_24.toInt = (2 : Int) := c24_1
                      obtain rfl : r_24 = (-1000012) := by first | exact c24_0 | exact c24_0.trans (by decide)
                      exact wr_i (v := (-1000012)) hx hb hr hlocks hS (u_24, irf, tkf) (by exact show (((0 ≤ a.toInt ∧ a.toInt ≤ 7) ∧ (0 ≤ b.toInt ∧ b.toInt ≤ 7)) ∧ ¬ ((zf a.toNatClampNeg).toInt < 0) ∧ ¬ ((zf b.toNatClampNeg).toInt < 0) ∧ (lnf a.toNatClampNeg).toInt = (lnf b.toNatClampNeg).toInt ∧ ((0 ≤ i.toInt ∧ 0 ≤ n.toInt ∧ i.toInt + n.toInt ≤ (zf a.toNatClampNeg).toInt) ∧ 0 ≤ j.toInt ∧ j.toInt + n.toInt ≤ (zf b.toNatClampNeg).toInt) ∧ (-1000012) = n.toInt ∧ u_24.toInt = 0) ∨ (((0 ≤ a.toInt ∧ a.toInt ≤ 7) ∧ (0 ≤ b.toInt ∧ b.toInt ≤ 7)) ∧ ¬ ((zf a.toNatClampNeg).toInt < 0) ∧ ¬ ((zf b.toNatClampNeg).toInt < 0) ∧ (lnf a.toNatClampNeg).toInt = (lnf b.toNatClampNeg).toInt ∧ ¬ ((0 ≤ i.toInt ∧ 0 ≤ n.toInt ∧ i.toInt + n.toInt ≤ (zf a.toNatClampNeg).toInt) ∧ 0 ≤ j.toInt ∧ j.toInt + n.toInt ≤ (zf b.toNatClampNeg).toInt) ∧ (-1000012) = (-1000012) ∧ u_24.toInt = 2) ∨ (((0 ≤ a.toInt ∧ a.toInt ≤ 7) ∧ (0 ≤ b.toInt ∧ b.toInt ≤ 7)) ∧ ¬ ((zf a.toNatClampNeg).toInt < 0) ∧ ¬ ((zf b.toNatClampNeg).toInt < 0) ∧ ¬ (lnf a.toNatClampNeg).toInt = (lnf b.toNatClampNeg).toInt ∧ (-1000012) = (-1000015) ∧ u_24.toInt = 5) ∨ (((0 ≤ a.toInt ∧ a.toInt ≤ 7) ∧ (0 ≤ b.toInt ∧ b.toInt ≤ 7)) ∧ (((zf a.toNatClampNeg).toInt < 0) ∨ ((zf b.toNatClampNeg).toInt < 0)) ∧ (-1000012) = (-1000011) ∧ u_24.toInt = 1) ∨ (¬ ((0 ≤ a.toInt ∧ a.toInt ≤ 7) ∧ (0 ≤ b.toInt ∧ b.toInt ≤ 7)) ∧ (-1000012) = (-1000001) ∧ u_24.toInt = su.toInt) from by omega) (hP.sub [4, 0, 1, 2, 3] rfl) (hD.sub [4, 0, 1, 2, 3] (by decide) rfl) dX8_copy_126
                    · obtain rfl : x_23 = 0 := ex_23.trans h1
                      have f_23 : x_21.toInt = x_22.toInt := by
                        have h8 := f_23
                        try simp only [zl_of] at h8
                        exact h8
                      refine lv_if_le (tgt := 127) hx hb dX8_copy_118 (by decide) (fun _ => ?_) (fun c9 => absurd (by decide) c9)
                      refine lv_iconst (v := 0) hx hb dX8_copy_127 (by decide) ?_
                      refine lv_istore (lv' := [(6, .int 0), (0, .ref h), (1, .int a), (2, .int i), (3, .int b), (4, .int j), (5, .int n)]) hx hb dX8_copy_128 hl (by decide) rfl (fun ls hl => ?_)
                      have hL130 : ∀ (nf : Nat) (t6_c130 : Int32) (g0_c130 : Nat → Int32) (H : Heap) (locs : List Loc) (ls : Array Slot), (0 ≤ t6_c130.toInt ∧ t6_c130.toInt ≤ 40) → (40 - t6_c130.toInt).toNat < nf → va_P D kl [(h, .inr (7, [.ref sl, .int na, .ref zs, .ref ln, .ref ir, .ref tk, .int su, .int le, .ref tb, .int fu, .int ap, .int pp, .ref tr, .int tc, .ref fz, .int nm])), (zs, .inl (cI, 8, .inl zf)), (ln, .inl (cI, 8, .inl lnf)), (ir, .inl (cI, 320, .inl irf)), (tk, .inl (cI, 40, .inl g0_c130))] H → va_D A [(h, .inr (7, [.ref sl, .int na, .ref zs, .ref ln, .ref ir, .ref tk, .int su, .int le, .ref tb, .int fu, .int ap, .int pp, .ref tr, .int tc, .ref fz, .int nm])), (zs, .inl (cI, 8, .inl zf)), (ln, .inl (cI, 8, .inl lnf)), (ir, .inl (cI, 320, .inl irf)), (tk, .inl (cI, 40, .inl g0_c130))] → va_S A s.heap H locs → lv_has ls 7 [(6, .int t6_c130), (0, .ref h), (1, .int a), (2, .int i), (3, .int b), (4, .int j), (5, .int n)] → W p l e ({ frames := 1, cells := 0, slots := 0, locals := 25 }) s m ([.ref h, .int a, .int i, .int b, .int j, .int n] : List Value).toArray below meth c H locs 0 0 (MQ below (va_Qi (fun (r : Int32) (u : Int32 × (Nat → Int32) × (Nat → Int32)) => ((((0 ≤ a.toInt ∧ a.toInt ≤ 7) ∧ (0 ≤ b.toInt ∧ b.toInt ≤ 7)) ∧ ¬ ((zf a.toNatClampNeg).toInt < 0) ∧ ¬ ((zf b.toNatClampNeg).toInt < 0) ∧ (lnf a.toNatClampNeg).toInt = (lnf b.toNatClampNeg).toInt ∧ ((0 ≤ i.toInt ∧ 0 ≤ n.toInt ∧ i.toInt + n.toInt ≤ (zf a.toNatClampNeg).toInt) ∧ 0 ≤ j.toInt ∧ j.toInt + n.toInt ≤ (zf b.toNatClampNeg).toInt) ∧ r.toInt = n.toInt ∧ u.1.toInt = 0) ∨ (((0 ≤ a.toInt ∧ a.toInt ≤ 7) ∧ (0 ≤ b.toInt ∧ b.toInt ≤ 7)) ∧ ¬ ((zf a.toNatClampNeg).toInt < 0) ∧ ¬ ((zf b.toNatClampNeg).toInt < 0) ∧ (lnf a.toNatClampNeg).toInt = (lnf b.toNatClampNeg).toInt ∧ ¬ ((0 ≤ i.toInt ∧ 0 ≤ n.toInt ∧ i.toInt + n.toInt ≤ (zf a.toNatClampNeg).toInt) ∧ 0 ≤ j.toInt ∧ j.toInt + n.toInt ≤ (zf b.toNatClampNeg).toInt) ∧ r.toInt = (-1000012) ∧ u.1.toInt = 2) ∨ (((0 ≤ a.toInt ∧ a.toInt ≤ 7) ∧ (0 ≤ b.toInt ∧ b.toInt ≤ 7)) ∧ ¬ ((zf a.toNatClampNeg).toInt < 0) ∧ ¬ ((zf b.toNatClampNeg).toInt < 0) ∧ ¬ (lnf a.toNatClampNeg).toInt = (lnf b.toNatClampNeg).toInt ∧ r.toInt = (-1000015) ∧ u.1.toInt = 5) ∨ (((0 ≤ a.toInt ∧ a.toInt ≤ 7) ∧ (0 ≤ b.toInt ∧ b.toInt ≤ 7)) ∧ (((zf a.toNatClampNeg).toInt < 0) ∨ ((zf b.toNatClampNeg).toInt < 0)) ∧ r.toInt = (-1000011) ∧ u.1.toInt = 1) ∨ (¬ ((0 ≤ a.toInt ∧ a.toInt ≤ 7) ∧ (0 ≤ b.toInt ∧ b.toInt ≤ 7)) ∧ r.toInt = (-1000001) ∧ u.1.toInt = su.toInt))) (fun u t => wb D A ((fun u => [(h, .inr (7, [.ref sl, .int na, .ref zs, .ref ln, .ref ir, .ref tk, .int u.1, .int le, .ref tb, .int fu, .int ap, .int pp, .ref tr, .int tc, .ref fz, .int nm])), (zs, .inl (cI, 8, .inl zf)), (ln, .inl (cI, 8, .inl lnf)), (ir, .inl (cI, 320, .inl u.2.1)), (tk, .inl (cI, 40, .inl u.2.2))]) u) t) A) ([.ref h, .int a, .int i, .int b, .int j, .int n] : List Value).toArray s 0 0 A) (F0 m 130 ls []) := by
                        intro nf
                        induction nf with
                        | zero =>
                          intro t6_c130 g0_c130 H locs ls i_t6_c130 hm
                          exact absurd hm (Nat.not_lt_zero _)
                        | succ nf ih130 =>
                          intro t6_c130 g0_c130 H locs ls i_t6_c130 hm130 hP hD hS hl
                          refine lv_iload hx hb dX8_copy_130 (lv_at hl 0 rfl) ?_
                          refine lv_iload hx hb dX8_copy_132 (lv_at hl 6 rfl) ?_
                          refine lv_icmp_ge (tgt := 164) hx hb dX8_copy_134 (by decide) (fun c_25 => ?_) (fun c_25 => ?_)
                          · have f_25 : n.toInt ≤ t6_c130.toInt := zi_le c_25
                            refine lv_iconst (v := 0) hx hb dX8_copy_164 (by decide) ?_
                            refine lv_istore (lv' := [(6, .int 0), (0, .ref h), (1, .int a), (2, .int i), (3, .int b), (4, .int j), (5, .int n)]) hx hb dX8_copy_165 hl (by decide) rfl (fun ls hl => ?_)
                            have hL167 : ∀ (nf : Nat) (t6_c167 : Int32) (g0_c167 : Nat → Int32) (H : Heap) (locs : List Loc) (ls : Array Slot), (0 ≤ t6_c167.toInt ∧ t6_c167.toInt ≤ 40) → (40 - t6_c167.toInt).toNat < nf → va_P D kl [(h, .inr (7, [.ref sl, .int na, .ref zs, .ref ln, .ref ir, .ref tk, .int su, .int le, .ref tb, .int fu, .int ap, .int pp, .ref tr, .int tc, .ref fz, .int nm])), (zs, .inl (cI, 8, .inl zf)), (ln, .inl (cI, 8, .inl lnf)), (ir, .inl (cI, 320, .inl g0_c167)), (tk, .inl (cI, 40, .inl g0_c130))] H → va_D A [(h, .inr (7, [.ref sl, .int na, .ref zs, .ref ln, .ref ir, .ref tk, .int su, .int le, .ref tb, .int fu, .int ap, .int pp, .ref tr, .int tc, .ref fz, .int nm])), (zs, .inl (cI, 8, .inl zf)), (ln, .inl (cI, 8, .inl lnf)), (ir, .inl (cI, 320, .inl g0_c167)), (tk, .inl (cI, 40, .inl g0_c130))] → va_S A s.heap H locs → lv_has ls 7 [(6, .int t6_c167), (0, .ref h), (1, .int a), (2, .int i), (3, .int b), (4, .int j), (5, .int n)] → W p l e ({ frames := 1, cells := 0, slots := 0, locals := 25 }) s m ([.ref h, .int a, .int i, .int b, .int j, .int n] : List Value).toArray below meth c H locs 0 0 (MQ below (va_Qi (fun (r : Int32) (u : Int32 × (Nat → Int32) × (Nat → Int32)) => ((((0 ≤ a.toInt ∧ a.toInt ≤ 7) ∧ (0 ≤ b.toInt ∧ b.toInt ≤ 7)) ∧ ¬ ((zf a.toNatClampNeg).toInt < 0) ∧ ¬ ((zf b.toNatClampNeg).toInt < 0) ∧ (lnf a.toNatClampNeg).toInt = (lnf b.toNatClampNeg).toInt ∧ ((0 ≤ i.toInt ∧ 0 ≤ n.toInt ∧ i.toInt + n.toInt ≤ (zf a.toNatClampNeg).toInt) ∧ 0 ≤ j.toInt ∧ j.toInt + n.toInt ≤ (zf b.toNatClampNeg).toInt) ∧ r.toInt = n.toInt ∧ u.1.toInt = 0) ∨ (((0 ≤ a.toInt ∧ a.toInt ≤ 7) ∧ (0 ≤ b.toInt ∧ b.toInt ≤ 7)) ∧ ¬ ((zf a.toNatClampNeg).toInt < 0) ∧ ¬ ((zf b.toNatClampNeg).toInt < 0) ∧ (lnf a.toNatClampNeg).toInt = (lnf b.toNatClampNeg).toInt ∧ ¬ ((0 ≤ i.toInt ∧ 0 ≤ n.toInt ∧ i.toInt + n.toInt ≤ (zf a.toNatClampNeg).toInt) ∧ 0 ≤ j.toInt ∧ j.toInt + n.toInt ≤ (zf b.toNatClampNeg).toInt) ∧ r.toInt = (-1000012) ∧ u.1.toInt = 2) ∨ (((0 ≤ a.toInt ∧ a.toInt ≤ 7) ∧ (0 ≤ b.toInt ∧ b.toInt ≤ 7)) ∧ ¬ ((zf a.toNatClampNeg).toInt < 0) ∧ ¬ ((zf b.toNatClampNeg).toInt < 0) ∧ ¬ (lnf a.toNatClampNeg).toInt = (lnf b.toNatClampNeg).toInt ∧ r.toInt = (-1000015) ∧ u.1.toInt = 5) ∨ (((0 ≤ a.toInt ∧ a.toInt ≤ 7) ∧ (0 ≤ b.toInt ∧ b.toInt ≤ 7)) ∧ (((zf a.toNatClampNeg).toInt < 0) ∨ ((zf b.toNatClampNeg).toInt < 0)) ∧ r.toInt = (-1000011) ∧ u.1.toInt = 1) ∨ (¬ ((0 ≤ a.toInt ∧ a.toInt ≤ 7) ∧ (0 ≤ b.toInt ∧ b.toInt ≤ 7)) ∧ r.toInt = (-1000001) ∧ u.1.toInt = su.toInt))) (fun u t => wb D A ((fun u => [(h, .inr (7, [.ref sl, .int na, .ref zs, .ref ln, .ref ir, .ref tk, .int u.1, .int le, .ref tb, .int fu, .int ap, .int pp, .ref tr, .int tc, .ref fz, .int nm])), (zs, .inl (cI, 8, .inl zf)), (ln, .inl (cI, 8, .inl lnf)), (ir, .inl (cI, 320, .inl u.2.1)), (tk, .inl (cI, 40, .inl u.2.2))]) u) t) A) ([.ref h, .int a, .int i, .int b, .int j, .int n] : List Value).toArray s 0 0 A) (F0 m 167 ls []) := by
                              intro nf
                              induction nf with
                              | zero =>
                                intro t6_c167 g0_c167 H locs ls i_t6_c167 hm
                                exact absurd hm (Nat.not_lt_zero _)
                              | succ nf ih167 =>
                                intro t6_c167 g0_c167 H locs ls i_t6_c167 hm167 hP hD hS hl
                                refine lv_iload hx hb dX8_copy_167 (lv_at hl 0 rfl) ?_
                                refine lv_iload hx hb dX8_copy_169 (lv_at hl 6 rfl) ?_
                                refine lv_icmp_ge (tgt := 202) hx hb dX8_copy_171 (by decide) (fun c_26 => ?_) (fun c_26 => ?_)
                                · have f_26 : n.toInt ≤ t6_c167.toInt := zi_le c_26
                                  refine lv_aload_n hx hb dX8_copy_202 rfl (lv_at hl 1 rfl) ?_
                                  refine lv_iload hx hb dX8_copy_203 (lv_at hl 6 rfl) ?_
                                  have k_27 := (s_X8_told l D cI cB cQ H.size h sl zs ln ir tk tb tr fz na su le fu ap pp tc nm n)
                                  refine wc_i (WC := [(h, .inr (7, [.ref sl, .int na, .ref zs, .ref ln, .ref ir, .ref tk, .int su, .int le, .ref tb, .int fu, .int ap, .int pp, .ref tr, .int tc, .ref fz, .int nm]))]) (WR := [(zs, .inl (cI, 8, .inl zf)), (ln, .inl (cI, 8, .inl lnf)), (ir, .inl (cI, 320, .inl g0_c167)), (tk, .inl (cI, 40, .inl g0_c130))]) (va_runV (As := [.int n]) (rest := []) ⟨hx, hb, hml, hown, hts⟩ k_27 (cwV 1 hts gX8_copy_X8_told rfl rfl rfl (by decide +kernel) ⟨Nat.le_of_ble_eq_true rfl, Nat.le_of_ble_eq_true rfl⟩) (wp_V hP hK hD hN [0] (by decide) rfl (ci := 7) rfl rfl) rfl rfl hl.1 rfl (lv_room (Nat.le_of_ble_eq_true rfl)) dX8_copy_205 ⟨Nat.le_of_ble_eq_true rfl, Nat.le_of_ble_eq_true rfl⟩) hP hD hS hA [0] [1, 2, 3, 4] rfl rfl (by decide) (by decide) (fun r_27 u_27 H locs hw_27 hP hD hS => ?_)
                                  clear k_27
                                  have hP : va_P D kl [(zs, .inl (cI, 8, .inl zf)), (ln, .inl (cI, 8, .inl lnf)), (ir, .inl (cI, 320, .inl g0_c167)), (tk, .inl (cI, 40, .inl g0_c130)), (h, .inr (7, [.ref sl, .int na, .ref zs, .ref ln, .ref ir, .ref tk, .int u_27, .int le, .ref tb, .int fu, .int ap, .int pp, .ref tr, .int tc, .ref fz, .int nm]))] H := hP
                                  have hD : va_D A [(zs, .inl (cI, 8, .inl zf)), (ln, .inl (cI, 8, .inl lnf)), (ir, .inl (cI, 320, .inl g0_c167)), (tk, .inl (cI, 40, .inl g0_c130)), (h, .inr (7, [.ref sl, .int na, .ref zs, .ref ln, .ref ir, .ref tk, .int u_27, .int le, .ref tb, .int fu, .int ap, .int pp, .ref tr, .int tc, .ref fz, .int nm]))] := hD
                                  obtain ⟨c27_0, c27_1⟩ := hw_27
                                  have c27_1 : u_27.toInt = 0 := c27_1
                                  rw [c27_0]
                                  exact wr_i (v := n) hx hb hr hlocks hS (u_27, g0_c167, g0_c130) (by exact show (((0 ≤ a.toInt ∧ a.toInt ≤ 7) ∧ (0 ≤ b.toInt ∧ b.toInt ≤ 7)) ∧ ¬ ((zf a.toNatClampNeg).toInt < 0) ∧ ¬ ((zf b.toNatClampNeg).toInt < 0) ∧ (lnf a.toNatClampNeg).toInt = (lnf b.toNatClampNeg).toInt ∧ ((0 ≤ i.toInt ∧ 0 ≤ n.toInt ∧ i.toInt + n.toInt ≤ (zf a.toNatClampNeg).toInt) ∧ 0 ≤ j.toInt ∧ j.toInt + n.toInt ≤ (zf b.toNatClampNeg).toInt) ∧ n.toInt = n.toInt ∧ u_27.toInt = 0) ∨ (((0 ≤ a.toInt ∧ a.toInt ≤ 7) ∧ (0 ≤ b.toInt ∧ b.toInt ≤ 7)) ∧ ¬ ((zf a.toNatClampNeg).toInt < 0) ∧ ¬ ((zf b.toNatClampNeg).toInt < 0) ∧ (lnf a.toNatClampNeg).toInt = (lnf b.toNatClampNeg).toInt ∧ ¬ ((0 ≤ i.toInt ∧ 0 ≤ n.toInt ∧ i.toInt + n.toInt ≤ (zf a.toNatClampNeg).toInt) ∧ 0 ≤ j.toInt ∧ j.toInt + n.toInt ≤ (zf b.toNatClampNeg).toInt) ∧ n.toInt = (-1000012) ∧ u_27.toInt = 2) ∨ (((0 ≤ a.toInt ∧ a.toInt ≤ 7) ∧ (0 ≤ b.toInt ∧ b.toInt ≤ 7)) ∧ ¬ ((zf a.toNatClampNeg).toInt < 0) ∧ ¬ ((zf b.toNatClampNeg).toInt < 0) ∧ ¬ (lnf a.toNatClampNeg).toInt = (lnf b.toNatClampNeg).toInt ∧ n.toInt = (-1000015) ∧ u_27.toInt = 5) ∨ (((0 ≤ a.toInt ∧ a.toInt ≤ 7) ∧ (0 ≤ b.toInt ∧ b.toInt ≤ 7)) ∧ (((zf a.toNatClampNeg).toInt < 0) ∨ ((zf b.toNatClampNeg).toInt < 0)) ∧ n.toInt = (-1000011) ∧ u_27.toInt = 1) ∨ (¬ ((0 ≤ a.toInt ∧ a.toInt ≤ 7) ∧ (0 ≤ b.toInt ∧ b.toInt ≤ 7)) ∧ n.toInt = (-1000001) ∧ u_27.toInt = su.toInt) from by omega) (hP.sub [4, 0, 1, 2, 3] rfl) (hD.sub [4, 0, 1, 2, 3] (by decide) rfl) dX8_copy_208
                                · have f_26 : ¬ n.toInt ≤ t6_c167.toInt := zi_nle c_26
                                  refine lv_aload_n hx hb dX8_copy_174 rfl (lv_at hl 1 rfl) ?_
                                  refine va_get (D := D) (ci := 7) (v := .ref ir) (C := RX8) (T := TX8) (N := 16) hx hb hts (fun _ h => List.mem_cons_of_mem _ (List.mem_append_right _ h)) hown hK hP 0 rfl rfl 4 (by decide) (hts (.fieldLink RX8 19 "WinterWalkModel" "items" "[I") (List.mem_of_getElem? (i := 6) rfl)) (fun _ h9 => h9) rfl dX8_copy_175 ?_
                                  refine lv_bipush (v := 40) hx hb dX8_copy_178 (by decide) ?_
                                  refine lv_iload_n hx hb dX8_copy_180 rfl (lv_at hl 4 rfl) ?_
                                  refine lv_imul hx hb dX8_copy_181 ?_
                                  refine lv_topi (fun x_28 ex_28 => ?_)
                                  have e_28 : x_28.toInt = 40 * b.toInt := by rw [ex_28]; exact zi_mul (by decide) (rfl) (by omega) (by omega)
                                  clear ex_28
                                  refine lv_iload hx hb dX8_copy_182 (lv_at hl 5 rfl) ?_
                                  refine lv_iadd hx hb dX8_copy_184 ?_
                                  refine lv_topi (fun x_29 ex_29 => ?_)
                                  have e_29 : x_29.toInt = x_28.toInt + j.toInt := by rw [ex_29]; exact zi_add (rfl) (rfl) (by omega) (by omega)
                                  clear ex_29
                                  refine lv_iload hx hb dX8_copy_185 (lv_at hl 0 rfl) ?_
                                  refine lv_iadd hx hb dX8_copy_187 ?_
                                  refine lv_topi (fun x_30 ex_30 => ?_)
                                  have e_30 : x_30.toInt = x_29.toInt + t6_c167.toInt := by rw [ex_30]; exact zi_add (rfl) (rfl) (by omega) (by omega)
                                  clear ex_30
                                  refine lv_aload_n hx hb dX8_copy_188 rfl (lv_at hl 1 rfl) ?_
                                  refine va_get (D := D) (ci := 7) (v := .ref tk) (C := RX8) (T := TX8) (N := 16) hx hb hts (fun _ h => List.mem_cons_of_mem _ (List.mem_append_right _ h)) hown hK hP 0 rfl rfl 5 (by decide) (hts (.fieldLink RX8 22 "WinterWalkModel" "taken" "[I") (List.mem_of_getElem? (i := 5) rfl)) (fun _ h9 => h9) rfl dX8_copy_189 ?_
                                  refine lv_iload hx hb dX8_copy_192 (lv_at hl 0 rfl) ?_
                                  refine va_iald hx hb hK hP 4 0 rfl rfl (zi_in (by omega) (by omega)) dX8_copy_194 ?_
                                  refine lv_topi (fun x_31 ex_31 => ?_)
                                  have g_31 : x_31.toInt = (g0_c130 (t6_c167 : Int32).toNatClampNeg).toInt := by rw [ex_31]
                                  refine va_iast hx hb hK hP hD hS 3 0 rfl rfl (zi_in (by omega) (by omega)) dX8_copy_195 (fun H locs hP hD hS => ?_)
                                  have hP : va_P D kl [(h, .inr (7, [.ref sl, .int na, .ref zs, .ref ln, .ref ir, .ref tk, .int su, .int le, .ref tb, .int fu, .int ap, .int pp, .ref tr, .int tc, .ref fz, .int nm])), (zs, .inl (cI, 8, .inl zf)), (ln, .inl (cI, 8, .inl lnf)), (ir, .inl (cI, 320, .inl (upd g0_c167 (x_30 : Int32).toNatClampNeg x_31))), (tk, .inl (cI, 40, .inl g0_c130))] H := hP
                                  have hD : va_D A [(h, .inr (7, [.ref sl, .int na, .ref zs, .ref ln, .ref ir, .ref tk, .int su, .int le, .ref tb, .int fu, .int ap, .int pp, .ref tr, .int tc, .ref fz, .int nm])), (zs, .inl (cI, 8, .inl zf)), (ln, .inl (cI, 8, .inl lnf)), (ir, .inl (cI, 320, .inl (upd g0_c167 (x_30 : Int32).toNatClampNeg x_31))), (tk, .inl (cI, 40, .inl g0_c130))] := hD
                                  obtain ⟨x_32, ex_32⟩ : ∃ y : Int32, y = t6_c167 + Int32.ofInt 1 := ⟨_, rfl⟩
                                  refine lv_iinc (v := x_32) (lv' := [(6, .int x_32), (0, .ref h), (1, .int a), (2, .int i), (3, .int b), (4, .int j), (5, .int n)]) hx hb dX8_copy_196 hl (k := 0) rfl ex_32.symm (by decide) rfl (fun ls hl => ?_)
                                  have ex_32 : x_32 = t6_c167 + 1 := ex_32
                                  have e_32 : x_32.toInt = t6_c167.toInt + 1 := by rw [ex_32]; exact zi_add (rfl) (by decide) (by omega) (by omega)
                                  clear ex_32
                                  refine lv_goto (tgt := 167) hx hb dX8_copy_199 (by decide) ?_
                                  exact ih167 x_32 (upd g0_c167 (x_30 : Int32).toNatClampNeg x_31) _ _ _ (show 0 ≤ x_32.toInt ∧ x_32.toInt ≤ 40 from by omega) (by omega) (hP.sub [0, 1, 2, 3, 4] rfl) (hD.sub [0, 1, 2, 3, 4] (by decide) rfl) hS (lv_sub hl [0, 1, 2, 3, 4, 5, 6] rfl)
                            exact hL167 (((40 - (0 : Int32).toInt).toNat) + 1) 0 irf _ _ _ (show 0 ≤ 0 ∧ 0 ≤ 40 from by omega) (Nat.lt_succ_self _) (hP.sub [0, 1, 2, 3, 4] rfl) (hD.sub [0, 1, 2, 3, 4] (by decide) rfl) hS (lv_sub hl [0, 1, 2, 3, 4, 5, 6] rfl)
                          · have f_25 : ¬ n.toInt ≤ t6_c130.toInt := zi_nle c_25
                            refine lv_aload_n hx hb dX8_copy_137 rfl (lv_at hl 1 rfl) ?_
                            refine va_get (D := D) (ci := 7) (v := .ref tk) (C := RX8) (T := TX8) (N := 16) hx hb hts (fun _ h => List.mem_cons_of_mem _ (List.mem_append_right _ h)) hown hK hP 0 rfl rfl 5 (by decide) (hts (.fieldLink RX8 22 "WinterWalkModel" "taken" "[I") (List.mem_of_getElem? (i := 5) rfl)) (fun _ h9 => h9) rfl dX8_copy_138 ?_
                            refine lv_iload hx hb dX8_copy_141 (lv_at hl 0 rfl) ?_
                            refine lv_aload_n hx hb dX8_copy_143 rfl (lv_at hl 1 rfl) ?_
                            refine va_get (D := D) (ci := 7) (v := .ref ir) (C := RX8) (T := TX8) (N := 16) hx hb hts (fun _ h => List.mem_cons_of_mem _ (List.mem_append_right _ h)) hown hK hP 0 rfl rfl 4 (by decide) (hts (.fieldLink RX8 19 "WinterWalkModel" "items" "[I") (List.mem_of_getElem? (i := 6) rfl)) (fun _ h9 => h9) rfl dX8_copy_144 ?_
                            refine lv_bipush (v := 40) hx hb dX8_copy_147 (by decide) ?_
                            refine lv_iload_n hx hb dX8_copy_149 rfl (lv_at hl 2 rfl) ?_
                            refine lv_imul hx hb dX8_copy_150 ?_
                            refine lv_topi (fun x_33 ex_33 => ?_)
                            have e_33 : x_33.toInt = 40 * a.toInt := by rw [ex_33]; exact zi_mul (by decide) (rfl) (by omega) (by omega)
                            clear ex_33
                            refine lv_iload_n hx hb dX8_copy_151 rfl (lv_at hl 3 rfl) ?_
                            refine lv_iadd hx hb dX8_copy_152 ?_
                            refine lv_topi (fun x_34 ex_34 => ?_)
                            have e_34 : x_34.toInt = x_33.toInt + i.toInt := by rw [ex_34]; exact zi_add (rfl) (rfl) (by omega) (by omega)
                            clear ex_34
                            refine lv_iload hx hb dX8_copy_153 (lv_at hl 0 rfl) ?_
                            refine lv_iadd hx hb dX8_copy_155 ?_
                            refine lv_topi (fun x_35 ex_35 => ?_)
                            have e_35 : x_35.toInt = x_34.toInt + t6_c130.toInt := by rw [ex_35]; exact zi_add (rfl) (rfl) (by omega) (by omega)
                            clear ex_35
                            refine va_iald hx hb hK hP 3 0 rfl rfl (zi_in (by omega) (by omega)) dX8_copy_156 ?_
                            refine lv_topi (fun x_36 ex_36 => ?_)
                            have g_36 : x_36.toInt = (irf (x_35 : Int32).toNatClampNeg).toInt := by rw [ex_36]
                            refine va_iast hx hb hK hP hD hS 4 0 rfl rfl (zi_in (by omega) (by omega)) dX8_copy_157 (fun H locs hP hD hS => ?_)
                            have hP : va_P D kl [(h, .inr (7, [.ref sl, .int na, .ref zs, .ref ln, .ref ir, .ref tk, .int su, .int le, .ref tb, .int fu, .int ap, .int pp, .ref tr, .int tc, .ref fz, .int nm])), (zs, .inl (cI, 8, .inl zf)), (ln, .inl (cI, 8, .inl lnf)), (ir, .inl (cI, 320, .inl irf)), (tk, .inl (cI, 40, .inl (upd g0_c130 (t6_c130 : Int32).toNatClampNeg x_36)))] H := hP
                            have hD : va_D A [(h, .inr (7, [.ref sl, .int na, .ref zs, .ref ln, .ref ir, .ref tk, .int su, .int le, .ref tb, .int fu, .int ap, .int pp, .ref tr, .int tc, .ref fz, .int nm])), (zs, .inl (cI, 8, .inl zf)), (ln, .inl (cI, 8, .inl lnf)), (ir, .inl (cI, 320, .inl irf)), (tk, .inl (cI, 40, .inl (upd g0_c130 (t6_c130 : Int32).toNatClampNeg x_36)))] := hD
                            obtain ⟨x_37, ex_37⟩ : ∃ y : Int32, y = t6_c130 + Int32.ofInt 1 := ⟨_, rfl⟩
                            refine lv_iinc (v := x_37) (lv' := [(6, .int x_37), (0, .ref h), (1, .int a), (2, .int i), (3, .int b), (4, .int j), (5, .int n)]) hx hb dX8_copy_158 hl (k := 0) rfl ex_37.symm (by decide) rfl (fun ls hl => ?_)
                            have ex_37 : x_37 = t6_c130 + 1 := ex_37
                            have e_37 : x_37.toInt = t6_c130.toInt + 1 := by rw [ex_37]; exact zi_add (rfl) (by decide) (by omega) (by omega)
                            clear ex_37
                            refine lv_goto (tgt := 130) hx hb dX8_copy_161 (by decide) ?_
                            exact ih130 x_37 (upd g0_c130 (t6_c130 : Int32).toNatClampNeg x_36) _ _ _ (show 0 ≤ x_37.toInt ∧ x_37.toInt ≤ 40 from by omega) (by omega) (hP.sub [0, 1, 2, 3, 4] rfl) (hD.sub [0, 1, 2, 3, 4] (by decide) rfl) hS (lv_sub hl [0, 1, 2, 3, 4, 5, 6] rfl)
                      exact hL130 (((40 - (0 : Int32).toInt).toNat) + 1) 0 tkf _ _ _ (show 0 ≤ 0 ∧ 0 ≤ 40 from by omega) (Nat.lt_succ_self _) (hP.sub [0, 1, 2, 3, 4] rfl) (hD.sub [0, 1, 2, 3, 4] (by decide) rfl) hS (lv_sub hl [0, 1, 2, 3, 4, 5, 6] rfl)
                    · obtain rfl : x_23 = (-1) := ex_23.trans h1
                      have f_23 : x_21.toInt < x_22.toInt := by
                        have h8 := f_23
                        try simp only [zl_of] at h8
                        exact h8
                      refine lv_if_le (tgt := 127) hx hb dX8_copy_118 (by decide) (fun _ => ?_) (fun c9 => absurd (by decide) c9)
                      refine lv_iconst (v := 0) hx hb dX8_copy_127 (by decide) ?_
                      refine lv_istore (lv' := [(6, .int 0), (0, .ref h), (1, .int a), (2, .int i), (3, .int b), (4, .int j), (5, .int n)]) hx hb dX8_copy_128 hl (by decide) rfl (fun ls hl => ?_)
                      have hL130 : ∀ (nf : Nat) (t6_c130 : Int32) (g0_c130 : Nat → Int32) (H : Heap) (locs : List Loc) (ls : Array Slot), (0 ≤ t6_c130.toInt ∧ t6_c130.toInt ≤ 40) → (40 - t6_c130.toInt).toNat < nf → va_P D kl [(h, .inr (7, [.ref sl, .int na, .ref zs, .ref ln, .ref ir, .ref tk, .int su, .int le, .ref tb, .int fu, .int ap, .int pp, .ref tr, .int tc, .ref fz, .int nm])), (zs, .inl (cI, 8, .inl zf)), (ln, .inl (cI, 8, .inl lnf)), (ir, .inl (cI, 320, .inl irf)), (tk, .inl (cI, 40, .inl g0_c130))] H → va_D A [(h, .inr (7, [.ref sl, .int na, .ref zs, .ref ln, .ref ir, .ref tk, .int su, .int le, .ref tb, .int fu, .int ap, .int pp, .ref tr, .int tc, .ref fz, .int nm])), (zs, .inl (cI, 8, .inl zf)), (ln, .inl (cI, 8, .inl lnf)), (ir, .inl (cI, 320, .inl irf)), (tk, .inl (cI, 40, .inl g0_c130))] → va_S A s.heap H locs → lv_has ls 7 [(6, .int t6_c130), (0, .ref h), (1, .int a), (2, .int i), (3, .int b), (4, .int j), (5, .int n)] → W p l e ({ frames := 1, cells := 0, slots := 0, locals := 25 }) s m ([.ref h, .int a, .int i, .int b, .int j, .int n] : List Value).toArray below meth c H locs 0 0 (MQ below (va_Qi (fun (r : Int32) (u : Int32 × (Nat → Int32) × (Nat → Int32)) => ((((0 ≤ a.toInt ∧ a.toInt ≤ 7) ∧ (0 ≤ b.toInt ∧ b.toInt ≤ 7)) ∧ ¬ ((zf a.toNatClampNeg).toInt < 0) ∧ ¬ ((zf b.toNatClampNeg).toInt < 0) ∧ (lnf a.toNatClampNeg).toInt = (lnf b.toNatClampNeg).toInt ∧ ((0 ≤ i.toInt ∧ 0 ≤ n.toInt ∧ i.toInt + n.toInt ≤ (zf a.toNatClampNeg).toInt) ∧ 0 ≤ j.toInt ∧ j.toInt + n.toInt ≤ (zf b.toNatClampNeg).toInt) ∧ r.toInt = n.toInt ∧ u.1.toInt = 0) ∨ (((0 ≤ a.toInt ∧ a.toInt ≤ 7) ∧ (0 ≤ b.toInt ∧ b.toInt ≤ 7)) ∧ ¬ ((zf a.toNatClampNeg).toInt < 0) ∧ ¬ ((zf b.toNatClampNeg).toInt < 0) ∧ (lnf a.toNatClampNeg).toInt = (lnf b.toNatClampNeg).toInt ∧ ¬ ((0 ≤ i.toInt ∧ 0 ≤ n.toInt ∧ i.toInt + n.toInt ≤ (zf a.toNatClampNeg).toInt) ∧ 0 ≤ j.toInt ∧ j.toInt + n.toInt ≤ (zf b.toNatClampNeg).toInt) ∧ r.toInt = (-1000012) ∧ u.1.toInt = 2) ∨ (((0 ≤ a.toInt ∧ a.toInt ≤ 7) ∧ (0 ≤ b.toInt ∧ b.toInt ≤ 7)) ∧ ¬ ((zf a.toNatClampNeg).toInt < 0) ∧ ¬ ((zf b.toNatClampNeg).toInt < 0) ∧ ¬ (lnf a.toNatClampNeg).toInt = (lnf b.toNatClampNeg).toInt ∧ r.toInt = (-1000015) ∧ u.1.toInt = 5) ∨ (((0 ≤ a.toInt ∧ a.toInt ≤ 7) ∧ (0 ≤ b.toInt ∧ b.toInt ≤ 7)) ∧ (((zf a.toNatClampNeg).toInt < 0) ∨ ((zf b.toNatClampNeg).toInt < 0)) ∧ r.toInt = (-1000011) ∧ u.1.toInt = 1) ∨ (¬ ((0 ≤ a.toInt ∧ a.toInt ≤ 7) ∧ (0 ≤ b.toInt ∧ b.toInt ≤ 7)) ∧ r.toInt = (-1000001) ∧ u.1.toInt = su.toInt))) (fun u t => wb D A ((fun u => [(h, .inr (7, [.ref sl, .int na, .ref zs, .ref ln, .ref ir, .ref tk, .int u.1, .int le, .ref tb, .int fu, .int ap, .int pp, .ref tr, .int tc, .ref fz, .int nm])), (zs, .inl (cI, 8, .inl zf)), (ln, .inl (cI, 8, .inl lnf)), (ir, .inl (cI, 320, .inl u.2.1)), (tk, .inl (cI, 40, .inl u.2.2))]) u) t) A) ([.ref h, .int a, .int i, .int b, .int j, .int n] : List Value).toArray s 0 0 A) (F0 m 130 ls []) := by
                        intro nf
                        induction nf with
                        | zero =>
                          intro t6_c130 g0_c130 H locs ls i_t6_c130 hm
                          exact absurd hm (Nat.not_lt_zero _)
                        | succ nf ih130 =>
                          intro t6_c130 g0_c130 H locs ls i_t6_c130 hm130 hP hD hS hl
                          refine lv_iload hx hb dX8_copy_130 (lv_at hl 0 rfl) ?_
                          refine lv_iload hx hb dX8_copy_132 (lv_at hl 6 rfl) ?_
                          refine lv_icmp_ge (tgt := 164) hx hb dX8_copy_134 (by decide) (fun c_38 => ?_) (fun c_38 => ?_)
                          · have f_38 : n.toInt ≤ t6_c130.toInt := zi_le c_38
                            refine lv_iconst (v := 0) hx hb dX8_copy_164 (by decide) ?_
                            refine lv_istore (lv' := [(6, .int 0), (0, .ref h), (1, .int a), (2, .int i), (3, .int b), (4, .int j), (5, .int n)]) hx hb dX8_copy_165 hl (by decide) rfl (fun ls hl => ?_)
                            have hL167 : ∀ (nf : Nat) (t6_c167 : Int32) (g0_c167 : Nat → Int32) (H : Heap) (locs : List Loc) (ls : Array Slot), (0 ≤ t6_c167.toInt ∧ t6_c167.toInt ≤ 40) → (40 - t6_c167.toInt).toNat < nf → va_P D kl [(h, .inr (7, [.ref sl, .int na, .ref zs, .ref ln, .ref ir, .ref tk, .int su, .int le, .ref tb, .int fu, .int ap, .int pp, .ref tr, .int tc, .ref fz, .int nm])), (zs, .inl (cI, 8, .inl zf)), (ln, .inl (cI, 8, .inl lnf)), (ir, .inl (cI, 320, .inl g0_c167)), (tk, .inl (cI, 40, .inl g0_c130))] H → va_D A [(h, .inr (7, [.ref sl, .int na, .ref zs, .ref ln, .ref ir, .ref tk, .int su, .int le, .ref tb, .int fu, .int ap, .int pp, .ref tr, .int tc, .ref fz, .int nm])), (zs, .inl (cI, 8, .inl zf)), (ln, .inl (cI, 8, .inl lnf)), (ir, .inl (cI, 320, .inl g0_c167)), (tk, .inl (cI, 40, .inl g0_c130))] → va_S A s.heap H locs → lv_has ls 7 [(6, .int t6_c167), (0, .ref h), (1, .int a), (2, .int i), (3, .int b), (4, .int j), (5, .int n)] → W p l e ({ frames := 1, cells := 0, slots := 0, locals := 25 }) s m ([.ref h, .int a, .int i, .int b, .int j, .int n] : List Value).toArray below meth c H locs 0 0 (MQ below (va_Qi (fun (r : Int32) (u : Int32 × (Nat → Int32) × (Nat → Int32)) => ((((0 ≤ a.toInt ∧ a.toInt ≤ 7) ∧ (0 ≤ b.toInt ∧ b.toInt ≤ 7)) ∧ ¬ ((zf a.toNatClampNeg).toInt < 0) ∧ ¬ ((zf b.toNatClampNeg).toInt < 0) ∧ (lnf a.toNatClampNeg).toInt = (lnf b.toNatClampNeg).toInt ∧ ((0 ≤ i.toInt ∧ 0 ≤ n.toInt ∧ i.toInt + n.toInt ≤ (zf a.toNatClampNeg).toInt) ∧ 0 ≤ j.toInt ∧ j.toInt + n.toInt ≤ (zf b.toNatClampNeg).toInt) ∧ r.toInt = n.toInt ∧ u.1.toInt = 0) ∨ (((0 ≤ a.toInt ∧ a.toInt ≤ 7) ∧ (0 ≤ b.toInt ∧ b.toInt ≤ 7)) ∧ ¬ ((zf a.toNatClampNeg).toInt < 0) ∧ ¬ ((zf b.toNatClampNeg).toInt < 0) ∧ (lnf a.toNatClampNeg).toInt = (lnf b.toNatClampNeg).toInt ∧ ¬ ((0 ≤ i.toInt ∧ 0 ≤ n.toInt ∧ i.toInt + n.toInt ≤ (zf a.toNatClampNeg).toInt) ∧ 0 ≤ j.toInt ∧ j.toInt + n.toInt ≤ (zf b.toNatClampNeg).toInt) ∧ r.toInt = (-1000012) ∧ u.1.toInt = 2) ∨ (((0 ≤ a.toInt ∧ a.toInt ≤ 7) ∧ (0 ≤ b.toInt ∧ b.toInt ≤ 7)) ∧ ¬ ((zf a.toNatClampNeg).toInt < 0) ∧ ¬ ((zf b.toNatClampNeg).toInt < 0) ∧ ¬ (lnf a.toNatClampNeg).toInt = (lnf b.toNatClampNeg).toInt ∧ r.toInt = (-1000015) ∧ u.1.toInt = 5) ∨ (((0 ≤ a.toInt ∧ a.toInt ≤ 7) ∧ (0 ≤ b.toInt ∧ b.toInt ≤ 7)) ∧ (((zf a.toNatClampNeg).toInt < 0) ∨ ((zf b.toNatClampNeg).toInt < 0)) ∧ r.toInt = (-1000011) ∧ u.1.toInt = 1) ∨ (¬ ((0 ≤ a.toInt ∧ a.toInt ≤ 7) ∧ (0 ≤ b.toInt ∧ b.toInt ≤ 7)) ∧ r.toInt = (-1000001) ∧ u.1.toInt = su.toInt))) (fun u t => wb D A ((fun u => [(h, .inr (7, [.ref sl, .int na, .ref zs, .ref ln, .ref ir, .ref tk, .int u.1, .int le, .ref tb, .int fu, .int ap, .int pp, .ref tr, .int tc, .ref fz, .int nm])), (zs, .inl (cI, 8, .inl zf)), (ln, .inl (cI, 8, .inl lnf)), (ir, .inl (cI, 320, .inl u.2.1)), (tk, .inl (cI, 40, .inl u.2.2))]) u) t) A) ([.ref h, .int a, .int i, .int b, .int j, .int n] : List Value).toArray s 0 0 A) (F0 m 167 ls []) := by
                              intro nf
                              induction nf with
                              | zero =>
                                intro t6_c167 g0_c167 H locs ls i_t6_c167 hm
                                exact absurd hm (Nat.not_lt_zero _)
                              | succ nf ih167 =>
                                intro t6_c167 g0_c167 H locs ls i_t6_c167 hm167 hP hD hS hl
                                refine lv_iload hx hb dX8_copy_167 (lv_at hl 0 rfl) ?_
                                refine lv_iload hx hb dX8_copy_169 (lv_at hl 6 rfl) ?_
                                refine lv_icmp_ge (tgt := 202) hx hb dX8_copy_171 (by decide) (fun c_39 => ?_) (fun c_39 => ?_)
                                · have f_39 : n.toInt ≤ t6_c167.toInt := zi_le c_39
                                  refine lv_aload_n hx hb dX8_copy_202 rfl (lv_at hl 1 rfl) ?_
                                  refine lv_iload hx hb dX8_copy_203 (lv_at hl 6 rfl) ?_
                                  have k_40 := (s_X8_told l D cI cB cQ H.size h sl zs ln ir tk tb tr fz na su le fu ap pp tc nm n)
                                  refine wc_i (WC := [(h, .inr (7, [.ref sl, .int na, .ref zs, .ref ln, .ref ir, .ref tk, .int su, .int le, .ref tb, .int fu, .int ap, .int pp, .ref tr, .int tc, .ref fz, .int nm]))]) (WR := [(zs, .inl (cI, 8, .inl zf)), (ln, .inl (cI, 8, .inl lnf)), (ir, .inl (cI, 320, .inl g0_c167)), (tk, .inl (cI, 40, .inl g0_c130))]) (va_runV (As := [.int n]) (rest := []) ⟨hx, hb, hml, hown, hts⟩ k_40 (cwV 1 hts gX8_copy_X8_told rfl rfl rfl (by decide +kernel) ⟨Nat.le_of_ble_eq_true rfl, Nat.le_of_ble_eq_true rfl⟩) (wp_V hP hK hD hN [0] (by decide) rfl (ci := 7) rfl rfl) rfl rfl hl.1 rfl (lv_room (Nat.le_of_ble_eq_true rfl)) dX8_copy_205 ⟨Nat.le_of_ble_eq_true rfl, Nat.le_of_ble_eq_true rfl⟩) hP hD hS hA [0] [1, 2, 3, 4] rfl rfl (by decide) (by decide) (fun r_40 u_40 H locs hw_40 hP hD hS => ?_)
                                  clear k_40
                                  have hP : va_P D kl [(zs, .inl (cI, 8, .inl zf)), (ln, .inl (cI, 8, .inl lnf)), (ir, .inl (cI, 320, .inl g0_c167)), (tk, .inl (cI, 40, .inl g0_c130)), (h, .inr (7, [.ref sl, .int na, .ref zs, .ref ln, .ref ir, .ref tk, .int u_40, .int le, .ref tb, .int fu, .int ap, .int pp, .ref tr, .int tc, .ref fz, .int nm]))] H := hP
                                  have hD : va_D A [(zs, .inl (cI, 8, .inl zf)), (ln, .inl (cI, 8, .inl lnf)), (ir, .inl (cI, 320, .inl g0_c167)), (tk, .inl (cI, 40, .inl g0_c130)), (h, .inr (7, [.ref sl, .int na, .ref zs, .ref ln, .ref ir, .ref tk, .int u_40, .int le, .ref tb, .int fu, .int ap, .int pp, .ref tr, .int tc, .ref fz, .int nm]))] := hD
                                  obtain ⟨c40_0, c40_1⟩ := hw_40
                                  have c40_1 : u_40.toInt = 0 := c40_1
                                  rw [c40_0]
                                  exact wr_i (v := n) hx hb hr hlocks hS (u_40, g0_c167, g0_c130) (by exact show (((0 ≤ a.toInt ∧ a.toInt ≤ 7) ∧ (0 ≤ b.toInt ∧ b.toInt ≤ 7)) ∧ ¬ ((zf a.toNatClampNeg).toInt < 0) ∧ ¬ ((zf b.toNatClampNeg).toInt < 0) ∧ (lnf a.toNatClampNeg).toInt = (lnf b.toNatClampNeg).toInt ∧ ((0 ≤ i.toInt ∧ 0 ≤ n.toInt ∧ i.toInt + n.toInt ≤ (zf a.toNatClampNeg).toInt) ∧ 0 ≤ j.toInt ∧ j.toInt + n.toInt ≤ (zf b.toNatClampNeg).toInt) ∧ n.toInt = n.toInt ∧ u_40.toInt = 0) ∨ (((0 ≤ a.toInt ∧ a.toInt ≤ 7) ∧ (0 ≤ b.toInt ∧ b.toInt ≤ 7)) ∧ ¬ ((zf a.toNatClampNeg).toInt < 0) ∧ ¬ ((zf b.toNatClampNeg).toInt < 0) ∧ (lnf a.toNatClampNeg).toInt = (lnf b.toNatClampNeg).toInt ∧ ¬ ((0 ≤ i.toInt ∧ 0 ≤ n.toInt ∧ i.toInt + n.toInt ≤ (zf a.toNatClampNeg).toInt) ∧ 0 ≤ j.toInt ∧ j.toInt + n.toInt ≤ (zf b.toNatClampNeg).toInt) ∧ n.toInt = (-1000012) ∧ u_40.toInt = 2) ∨ (((0 ≤ a.toInt ∧ a.toInt ≤ 7) ∧ (0 ≤ b.toInt ∧ b.toInt ≤ 7)) ∧ ¬ ((zf a.toNatClampNeg).toInt < 0) ∧ ¬ ((zf b.toNatClampNeg).toInt < 0) ∧ ¬ (lnf a.toNatClampNeg).toInt = (lnf b.toNatClampNeg).toInt ∧ n.toInt = (-1000015) ∧ u_40.toInt = 5) ∨ (((0 ≤ a.toInt ∧ a.toInt ≤ 7) ∧ (0 ≤ b.toInt ∧ b.toInt ≤ 7)) ∧ (((zf a.toNatClampNeg).toInt < 0) ∨ ((zf b.toNatClampNeg).toInt < 0)) ∧ n.toInt = (-1000011) ∧ u_40.toInt = 1) ∨ (¬ ((0 ≤ a.toInt ∧ a.toInt ≤ 7) ∧ (0 ≤ b.toInt ∧ b.toInt ≤ 7)) ∧ n.toInt = (-1000001) ∧ u_40.toInt = su.toInt) from by omega) (hP.sub [4, 0, 1, 2, 3] rfl) (hD.sub [4, 0, 1, 2, 3] (by decide) rfl) dX8_copy_208
                                · have f_39 : ¬ n.toInt ≤ t6_c167.toInt := zi_nle c_39
                                  refine lv_aload_n hx hb dX8_copy_174 rfl (lv_at hl 1 rfl) ?_
                                  refine va_get (D := D) (ci := 7) (v := .ref ir) (C := RX8) (T := TX8) (N := 16) hx hb hts (fun _ h => List.mem_cons_of_mem _ (List.mem_append_right _ h)) hown hK hP 0 rfl rfl 4 (by decide) (hts (.fieldLink RX8 19 "WinterWalkModel" "items" "[I") (List.mem_of_getElem? (i := 6) rfl)) (fun _ h9 => h9) rfl dX8_copy_175 ?_
                                  refine lv_bipush (v := 40) hx hb dX8_copy_178 (by decide) ?_
                                  refine lv_iload_n hx hb dX8_copy_180 rfl (lv_at hl 4 rfl) ?_
                                  refine lv_imul hx hb dX8_copy_181 ?_
                                  refine lv_topi (fun x_41 ex_41 => ?_)
                                  have e_41 : x_41.toInt = 40 * b.toInt := by rw [ex_41]; exact zi_mul (by decide) (rfl) (by omega) (by omega)
                                  clear ex_41
                                  refine lv_iload hx hb dX8_copy_182 (lv_at hl 5 rfl) ?_
                                  refine lv_iadd hx hb dX8_copy_184 ?_
                                  refine lv_topi (fun x_42 ex_42 => ?_)
                                  have e_42 : x_42.toInt = x_41.toInt + j.toInt := by rw [ex_42]; exact zi_add (rfl) (rfl) (by omega) (by omega)
                                  clear ex_42
                                  refine lv_iload hx hb dX8_copy_185 (lv_at hl 0 rfl) ?_
                                  refine lv_iadd hx hb dX8_copy_187 ?_
                                  refine lv_topi (fun x_43 ex_43 => ?_)
                                  have e_43 : x_43.toInt = x_42.toInt + t6_c167.toInt := by rw [ex_43]; exact zi_add (rfl) (rfl) (by omega) (by omega)
                                  clear ex_43
                                  refine lv_aload_n hx hb dX8_copy_188 rfl (lv_at hl 1 rfl) ?_
                                  refine va_get (D := D) (ci := 7) (v := .ref tk) (C := RX8) (T := TX8) (N := 16) hx hb hts (fun _ h => List.mem_cons_of_mem _ (List.mem_append_right _ h)) hown hK hP 0 rfl rfl 5 (by decide) (hts (.fieldLink RX8 22 "WinterWalkModel" "taken" "[I") (List.mem_of_getElem? (i := 5) rfl)) (fun _ h9 => h9) rfl dX8_copy_189 ?_
                                  refine lv_iload hx hb dX8_copy_192 (lv_at hl 0 rfl) ?_
                                  refine va_iald hx hb hK hP 4 0 rfl rfl (zi_in (by omega) (by omega)) dX8_copy_194 ?_
                                  refine lv_topi (fun x_44 ex_44 => ?_)
                                  have g_44 : x_44.toInt = (g0_c130 (t6_c167 : Int32).toNatClampNeg).toInt := by rw [ex_44]
                                  refine va_iast hx hb hK hP hD hS 3 0 rfl rfl (zi_in (by omega) (by omega)) dX8_copy_195 (fun H locs hP hD hS => ?_)
                                  have hP : va_P D kl [(h, .inr (7, [.ref sl, .int na, .ref zs, .ref ln, .ref ir, .ref tk, .int su, .int le, .ref tb, .int fu, .int ap, .int pp, .ref tr, .int tc, .ref fz, .int nm])), (zs, .inl (cI, 8, .inl zf)), (ln, .inl (cI, 8, .inl lnf)), (ir, .inl (cI, 320, .inl (upd g0_c167 (x_43 : Int32).toNatClampNeg x_44))), (tk, .inl (cI, 40, .inl g0_c130))] H := hP
                                  have hD : va_D A [(h, .inr (7, [.ref sl, .int na, .ref zs, .ref ln, .ref ir, .ref tk, .int su, .int le, .ref tb, .int fu, .int ap, .int pp, .ref tr, .int tc, .ref fz, .int nm])), (zs, .inl (cI, 8, .inl zf)), (ln, .inl (cI, 8, .inl lnf)), (ir, .inl (cI, 320, .inl (upd g0_c167 (x_43 : Int32).toNatClampNeg x_44))), (tk, .inl (cI, 40, .inl g0_c130))] := hD
                                  obtain ⟨x_45, ex_45⟩ : ∃ y : Int32, y = t6_c167 + Int32.ofInt 1 := ⟨_, rfl⟩
                                  refine lv_iinc (v := x_45) (lv' := [(6, .int x_45), (0, .ref h), (1, .int a), (2, .int i), (3, .int b), (4, .int j), (5, .int n)]) hx hb dX8_copy_196 hl (k := 0) rfl ex_45.symm (by decide) rfl (fun ls hl => ?_)
                                  have ex_45 : x_45 = t6_c167 + 1 := ex_45
                                  have e_45 : x_45.toInt = t6_c167.toInt + 1 := by rw [ex_45]; exact zi_add (rfl) (by decide) (by omega) (by omega)
                                  clear ex_45
                                  refine lv_goto (tgt := 167) hx hb dX8_copy_199 (by decide) ?_
                                  exact ih167 x_45 (upd g0_c167 (x_43 : Int32).toNatClampNeg x_44) _ _ _ (show 0 ≤ x_45.toInt ∧ x_45.toInt ≤ 40 from by omega) (by omega) (hP.sub [0, 1, 2, 3, 4] rfl) (hD.sub [0, 1, 2, 3, 4] (by decide) rfl) hS (lv_sub hl [0, 1, 2, 3, 4, 5, 6] rfl)
                            exact hL167 (((40 - (0 : Int32).toInt).toNat) + 1) 0 irf _ _ _ (show 0 ≤ 0 ∧ 0 ≤ 40 from by omega) (Nat.lt_succ_self _) (hP.sub [0, 1, 2, 3, 4] rfl) (hD.sub [0, 1, 2, 3, 4] (by decide) rfl) hS (lv_sub hl [0, 1, 2, 3, 4, 5, 6] rfl)
                          · have f_38 : ¬ n.toInt ≤ t6_c130.toInt := zi_nle c_38
                            refine lv_aload_n hx hb dX8_copy_137 rfl (lv_at hl 1 rfl) ?_
                            refine va_get (D := D) (ci := 7) (v := .ref tk) (C := RX8) (T := TX8) (N := 16) hx hb hts (fun _ h => List.mem_cons_of_mem _ (List.mem_append_right _ h)) hown hK hP 0 rfl rfl 5 (by decide) (hts (.fieldLink RX8 22 "WinterWalkModel" "taken" "[I") (List.mem_of_getElem? (i := 5) rfl)) (fun _ h9 => h9) rfl dX8_copy_138 ?_
                            refine lv_iload hx hb dX8_copy_141 (lv_at hl 0 rfl) ?_
                            refine lv_aload_n hx hb dX8_copy_143 rfl (lv_at hl 1 rfl) ?_
                            refine va_get (D := D) (ci := 7) (v := .ref ir) (C := RX8) (T := TX8) (N := 16) hx hb hts (fun _ h => List.mem_cons_of_mem _ (List.mem_append_right _ h)) hown hK hP 0 rfl rfl 4 (by decide) (hts (.fieldLink RX8 19 "WinterWalkModel" "items" "[I") (List.mem_of_getElem? (i := 6) rfl)) (fun _ h9 => h9) rfl dX8_copy_144 ?_
                            refine lv_bipush (v := 40) hx hb dX8_copy_147 (by decide) ?_
                            refine lv_iload_n hx hb dX8_copy_149 rfl (lv_at hl 2 rfl) ?_
                            refine lv_imul hx hb dX8_copy_150 ?_
                            refine lv_topi (fun x_46 ex_46 => ?_)
                            have e_46 : x_46.toInt = 40 * a.toInt := by rw [ex_46]; exact zi_mul (by decide) (rfl) (by omega) (by omega)
                            clear ex_46
                            refine lv_iload_n hx hb dX8_copy_151 rfl (lv_at hl 3 rfl) ?_
                            refine lv_iadd hx hb dX8_copy_152 ?_
                            refine lv_topi (fun x_47 ex_47 => ?_)
                            have e_47 : x_47.toInt = x_46.toInt + i.toInt := by rw [ex_47]; exact zi_add (rfl) (rfl) (by omega) (by omega)
                            clear ex_47
                            refine lv_iload hx hb dX8_copy_153 (lv_at hl 0 rfl) ?_
                            refine lv_iadd hx hb dX8_copy_155 ?_
                            refine lv_topi (fun x_48 ex_48 => ?_)
                            have e_48 : x_48.toInt = x_47.toInt + t6_c130.toInt := by rw [ex_48]; exact zi_add (rfl) (rfl) (by omega) (by omega)
                            clear ex_48
                            refine va_iald hx hb hK hP 3 0 rfl rfl (zi_in (by omega) (by omega)) dX8_copy_156 ?_
                            refine lv_topi (fun x_49 ex_49 => ?_)
                            have g_49 : x_49.toInt = (irf (x_48 : Int32).toNatClampNeg).toInt := by rw [ex_49]
                            refine va_iast hx hb hK hP hD hS 4 0 rfl rfl (zi_in (by omega) (by omega)) dX8_copy_157 (fun H locs hP hD hS => ?_)
                            have hP : va_P D kl [(h, .inr (7, [.ref sl, .int na, .ref zs, .ref ln, .ref ir, .ref tk, .int su, .int le, .ref tb, .int fu, .int ap, .int pp, .ref tr, .int tc, .ref fz, .int nm])), (zs, .inl (cI, 8, .inl zf)), (ln, .inl (cI, 8, .inl lnf)), (ir, .inl (cI, 320, .inl irf)), (tk, .inl (cI, 40, .inl (upd g0_c130 (t6_c130 : Int32).toNatClampNeg x_49)))] H := hP
                            have hD : va_D A [(h, .inr (7, [.ref sl, .int na, .ref zs, .ref ln, .ref ir, .ref tk, .int su, .int le, .ref tb, .int fu, .int ap, .int pp, .ref tr, .int tc, .ref fz, .int nm])), (zs, .inl (cI, 8, .inl zf)), (ln, .inl (cI, 8, .inl lnf)), (ir, .inl (cI, 320, .inl irf)), (tk, .inl (cI, 40, .inl (upd g0_c130 (t6_c130 : Int32).toNatClampNeg x_49)))] := hD
                            obtain ⟨x_50, ex_50⟩ : ∃ y : Int32, y = t6_c130 + Int32.ofInt 1 := ⟨_, rfl⟩
                            refine lv_iinc (v := x_50) (lv' := [(6, .int x_50), (0, .ref h), (1, .int a), (2, .int i), (3, .int b), (4, .int j), (5, .int n)]) hx hb dX8_copy_158 hl (k := 0) rfl ex_50.symm (by decide) rfl (fun ls hl => ?_)
                            have ex_50 : x_50 = t6_c130 + 1 := ex_50
                            have e_50 : x_50.toInt = t6_c130.toInt + 1 := by rw [ex_50]; exact zi_add (rfl) (by decide) (by omega) (by omega)
                            clear ex_50
                            refine lv_goto (tgt := 130) hx hb dX8_copy_161 (by decide) ?_
                            exact ih130 x_50 (upd g0_c130 (t6_c130 : Int32).toNatClampNeg x_49) _ _ _ (show 0 ≤ x_50.toInt ∧ x_50.toInt ≤ 40 from by omega) (by omega) (hP.sub [0, 1, 2, 3, 4] rfl) (hD.sub [0, 1, 2, 3, 4] (by decide) rfl) hS (lv_sub hl [0, 1, 2, 3, 4, 5, 6] rfl)
                      exact hL130 (((40 - (0 : Int32).toInt).toNat) + 1) 0 tkf _ _ _ (show 0 ≤ 0 ∧ 0 ≤ 40 from by omega) (Nat.lt_succ_self _) (hP.sub [0, 1, 2, 3, 4] rfl) (hD.sub [0, 1, 2, 3, 4] (by decide) rfl) hS (lv_sub hl [0, 1, 2, 3, 4, 5, 6] rfl)
                  · obtain rfl : x_19 = (-1) := ex_19.trans h1
                    have f_19 : x_17.toInt < x_18.toInt := by
                      have h8 := f_19
                      try simp only [zl_of] at h8
                      exact h8
                    refine lv_if_gt (tgt := 121) hx hb dX8_copy_100 (by decide) (fun c9 => absurd c9 (by decide)) (fun _ => ?_)
                    refine lv_iload hx hb dX8_copy_103 (lv_at hl 4 rfl) ?_
                    refine lv_i2l (v := (j.toInt64)) hx hb dX8_copy_105 rfl ?_
                    refine lv_iload hx hb dX8_copy_106 (lv_at hl 5 rfl) ?_
                    refine lv_i2l (v := (n.toInt64)) hx hb dX8_copy_108 rfl ?_
                    refine lv_ladd hx hb dX8_copy_109 ?_
                    refine lv_topl (fun x_51 ex_51 => ?_)
                    have e_51 : x_51.toInt = j.toInt + n.toInt := by rw [ex_51]; exact zl_add (zl_of _) (zl_of _) (by omega) (by omega)
                    clear ex_51
                    refine lv_aload_n hx hb dX8_copy_110 rfl (lv_at hl 0 rfl) ?_
                    refine va_get (D := D) (ci := 7) (v := .ref zs) (C := RX8) (T := TX8) (N := 16) hx hb hts (fun _ h => List.mem_cons_of_mem _ (List.mem_append_right _ h)) hown hK hP 0 rfl rfl 2 (by decide) (hts (.fieldLink RX8 13 "WinterWalkModel" "size" "[I") (List.mem_of_getElem? (i := 3) rfl)) (fun _ h9 => h9) rfl dX8_copy_111 ?_
                    refine lv_iload_n hx hb dX8_copy_114 rfl (lv_at hl 3 rfl) ?_
                    refine va_iald hx hb hK hP 1 0 rfl rfl (zi_in (by omega) (by omega)) dX8_copy_115 ?_
                    refine lv_topi (fun x_52 ex_52 => ?_)
                    have f_52 : (-1) ≤ x_52.toInt ∧ x_52.toInt ≤ 40 := by rw [ex_52]; exact hz _ (zi_cl (by omega) (by omega))
                    have g_52 : x_52.toInt = (zf (b : Int32).toNatClampNeg).toInt := by rw [ex_52]
                    refine lv_i2l (v := (x_52.toInt64)) hx hb dX8_copy_116 rfl ?_
                    refine W.lcmp hx hb dX8_copy_117 ?_
                    refine lv_topi (fun x_53 ex_53 => ?_)
                    rcases zc_cases x_51 (x_52.toInt64) with ⟨h1, f_53⟩ | ⟨h1, f_53⟩ | ⟨h1, f_53⟩
                    · obtain rfl : x_53 = 1 := ex_53.trans h1
                      have f_53 : x_52.toInt < x_51.toInt := by
                        have h8 := f_53
                        try simp only [zl_of] at h8
                        exact h8
                      refine lv_if_le (tgt := 127) hx hb dX8_copy_118 (by decide) (fun c9 => absurd c9 (by decide)) (fun _ => ?_)
                      refine lv_aload_n hx hb dX8_copy_121 rfl (lv_at hl 0 rfl) ?_
                      refine lv_iconst (v := 2) hx hb dX8_copy_122 (by decide) ?_
                      have k_54 := (s_X8_finds l D cI cB cQ H.size h sl zs ln ir tk tb tr fz na su le fu ap pp tc nm 2)
                      refine wc_i (WC := [(h, .inr (7, [.ref sl, .int na, .ref zs, .ref ln, .ref ir, .ref tk, .int su, .int le, .ref tb, .int fu, .int ap, .int pp, .ref tr, .int tc, .ref fz, .int nm]))]) (WR := [(zs, .inl (cI, 8, .inl zf)), (ln, .inl (cI, 8, .inl lnf)), (ir, .inl (cI, 320, .inl irf)), (tk, .inl (cI, 40, .inl tkf))]) (va_runV (As := [.int 2]) (rest := []) ⟨hx, hb, hml, hown, hts⟩ k_54 (cwV 1 hts gX8_copy_X8_finds rfl rfl rfl (by decide +kernel) ⟨Nat.le_of_ble_eq_true rfl, Nat.le_of_ble_eq_true rfl⟩) (wp_V hP hK hD hN [0] (by decide) rfl (ci := 7) rfl rfl) rfl rfl hl.1 rfl (lv_room (Nat.le_of_ble_eq_true rfl)) dX8_copy_123 ⟨Nat.le_of_ble_eq_true rfl, Nat.le_of_ble_eq_true rfl⟩) hP hD hS hA [0] [1, 2, 3, 4] rfl rfl (by decide) (by decide) (fun r_54 u_54 H locs hw_54 hP hD hS => ?_)
                      clear k_54
                      have hP : va_P D kl [(zs, .inl (cI, 8, .inl zf)), (ln, .inl (cI, 8, .inl lnf)), (ir, .inl (cI, 320, .inl irf)), (tk, .inl (cI, 40, .inl tkf)), (h, .inr (7, [.ref sl, .int na, .ref zs, .ref ln, .ref ir, .ref tk, .int u_54, .int le, .ref tb, .int fu, .int ap, .int pp, .ref tr, .int tc, .ref fz, .int nm]))] H := hP
                      have hD : va_D A [(zs, .inl (cI, 8, .inl zf)), (ln, .inl (cI, 8, .inl lnf)), (ir, .inl (cI, 320, .inl irf)), (tk, .inl (cI, 40, .inl tkf)), (h, .inr (7, [.ref sl, .int na, .ref zs, .ref ln, .ref ir, .ref tk, .int u_54, .int le, .ref tb, .int fu, .int ap, .int pp, .ref tr, .int tc, .ref fz, .int nm]))] := hD
                      obtain ⟨c54_0, c54_1⟩ := hw_54
                      have c54_1 : u_54.toInt = (2 : Int) := c54_1
                      obtain rfl : r_54 = (-1000012) := by first | exact c54_0 | exact c54_0.trans (by decide)
                      exact wr_i (v := (-1000012)) hx hb hr hlocks hS (u_54, irf, tkf) (by exact show (((0 ≤ a.toInt ∧ a.toInt ≤ 7) ∧ (0 ≤ b.toInt ∧ b.toInt ≤ 7)) ∧ ¬ ((zf a.toNatClampNeg).toInt < 0) ∧ ¬ ((zf b.toNatClampNeg).toInt < 0) ∧ (lnf a.toNatClampNeg).toInt = (lnf b.toNatClampNeg).toInt ∧ ((0 ≤ i.toInt ∧ 0 ≤ n.toInt ∧ i.toInt + n.toInt ≤ (zf a.toNatClampNeg).toInt) ∧ 0 ≤ j.toInt ∧ j.toInt + n.toInt ≤ (zf b.toNatClampNeg).toInt) ∧ (-1000012) = n.toInt ∧ u_54.toInt = 0) ∨ (((0 ≤ a.toInt ∧ a.toInt ≤ 7) ∧ (0 ≤ b.toInt ∧ b.toInt ≤ 7)) ∧ ¬ ((zf a.toNatClampNeg).toInt < 0) ∧ ¬ ((zf b.toNatClampNeg).toInt < 0) ∧ (lnf a.toNatClampNeg).toInt = (lnf b.toNatClampNeg).toInt ∧ ¬ ((0 ≤ i.toInt ∧ 0 ≤ n.toInt ∧ i.toInt + n.toInt ≤ (zf a.toNatClampNeg).toInt) ∧ 0 ≤ j.toInt ∧ j.toInt + n.toInt ≤ (zf b.toNatClampNeg).toInt) ∧ (-1000012) = (-1000012) ∧ u_54.toInt = 2) ∨ (((0 ≤ a.toInt ∧ a.toInt ≤ 7) ∧ (0 ≤ b.toInt ∧ b.toInt ≤ 7)) ∧ ¬ ((zf a.toNatClampNeg).toInt < 0) ∧ ¬ ((zf b.toNatClampNeg).toInt < 0) ∧ ¬ (lnf a.toNatClampNeg).toInt = (lnf b.toNatClampNeg).toInt ∧ (-1000012) = (-1000015) ∧ u_54.toInt = 5) ∨ (((0 ≤ a.toInt ∧ a.toInt ≤ 7) ∧ (0 ≤ b.toInt ∧ b.toInt ≤ 7)) ∧ (((zf a.toNatClampNeg).toInt < 0) ∨ ((zf b.toNatClampNeg).toInt < 0)) ∧ (-1000012) = (-1000011) ∧ u_54.toInt = 1) ∨ (¬ ((0 ≤ a.toInt ∧ a.toInt ≤ 7) ∧ (0 ≤ b.toInt ∧ b.toInt ≤ 7)) ∧ (-1000012) = (-1000001) ∧ u_54.toInt = su.toInt) from by omega) (hP.sub [4, 0, 1, 2, 3] rfl) (hD.sub [4, 0, 1, 2, 3] (by decide) rfl) dX8_copy_126
                    · obtain rfl : x_53 = 0 := ex_53.trans h1
                      have f_53 : x_51.toInt = x_52.toInt := by
                        have h8 := f_53
                        try simp only [zl_of] at h8
                        exact h8
                      refine lv_if_le (tgt := 127) hx hb dX8_copy_118 (by decide) (fun _ => ?_) (fun c9 => absurd (by decide) c9)
                      refine lv_iconst (v := 0) hx hb dX8_copy_127 (by decide) ?_
                      refine lv_istore (lv' := [(6, .int 0), (0, .ref h), (1, .int a), (2, .int i), (3, .int b), (4, .int j), (5, .int n)]) hx hb dX8_copy_128 hl (by decide) rfl (fun ls hl => ?_)
                      have hL130 : ∀ (nf : Nat) (t6_c130 : Int32) (g0_c130 : Nat → Int32) (H : Heap) (locs : List Loc) (ls : Array Slot), (0 ≤ t6_c130.toInt ∧ t6_c130.toInt ≤ 40) → (40 - t6_c130.toInt).toNat < nf → va_P D kl [(h, .inr (7, [.ref sl, .int na, .ref zs, .ref ln, .ref ir, .ref tk, .int su, .int le, .ref tb, .int fu, .int ap, .int pp, .ref tr, .int tc, .ref fz, .int nm])), (zs, .inl (cI, 8, .inl zf)), (ln, .inl (cI, 8, .inl lnf)), (ir, .inl (cI, 320, .inl irf)), (tk, .inl (cI, 40, .inl g0_c130))] H → va_D A [(h, .inr (7, [.ref sl, .int na, .ref zs, .ref ln, .ref ir, .ref tk, .int su, .int le, .ref tb, .int fu, .int ap, .int pp, .ref tr, .int tc, .ref fz, .int nm])), (zs, .inl (cI, 8, .inl zf)), (ln, .inl (cI, 8, .inl lnf)), (ir, .inl (cI, 320, .inl irf)), (tk, .inl (cI, 40, .inl g0_c130))] → va_S A s.heap H locs → lv_has ls 7 [(6, .int t6_c130), (0, .ref h), (1, .int a), (2, .int i), (3, .int b), (4, .int j), (5, .int n)] → W p l e ({ frames := 1, cells := 0, slots := 0, locals := 25 }) s m ([.ref h, .int a, .int i, .int b, .int j, .int n] : List Value).toArray below meth c H locs 0 0 (MQ below (va_Qi (fun (r : Int32) (u : Int32 × (Nat → Int32) × (Nat → Int32)) => ((((0 ≤ a.toInt ∧ a.toInt ≤ 7) ∧ (0 ≤ b.toInt ∧ b.toInt ≤ 7)) ∧ ¬ ((zf a.toNatClampNeg).toInt < 0) ∧ ¬ ((zf b.toNatClampNeg).toInt < 0) ∧ (lnf a.toNatClampNeg).toInt = (lnf b.toNatClampNeg).toInt ∧ ((0 ≤ i.toInt ∧ 0 ≤ n.toInt ∧ i.toInt + n.toInt ≤ (zf a.toNatClampNeg).toInt) ∧ 0 ≤ j.toInt ∧ j.toInt + n.toInt ≤ (zf b.toNatClampNeg).toInt) ∧ r.toInt = n.toInt ∧ u.1.toInt = 0) ∨ (((0 ≤ a.toInt ∧ a.toInt ≤ 7) ∧ (0 ≤ b.toInt ∧ b.toInt ≤ 7)) ∧ ¬ ((zf a.toNatClampNeg).toInt < 0) ∧ ¬ ((zf b.toNatClampNeg).toInt < 0) ∧ (lnf a.toNatClampNeg).toInt = (lnf b.toNatClampNeg).toInt ∧ ¬ ((0 ≤ i.toInt ∧ 0 ≤ n.toInt ∧ i.toInt + n.toInt ≤ (zf a.toNatClampNeg).toInt) ∧ 0 ≤ j.toInt ∧ j.toInt + n.toInt ≤ (zf b.toNatClampNeg).toInt) ∧ r.toInt = (-1000012) ∧ u.1.toInt = 2) ∨ (((0 ≤ a.toInt ∧ a.toInt ≤ 7) ∧ (0 ≤ b.toInt ∧ b.toInt ≤ 7)) ∧ ¬ ((zf a.toNatClampNeg).toInt < 0) ∧ ¬ ((zf b.toNatClampNeg).toInt < 0) ∧ ¬ (lnf a.toNatClampNeg).toInt = (lnf b.toNatClampNeg).toInt ∧ r.toInt = (-1000015) ∧ u.1.toInt = 5) ∨ (((0 ≤ a.toInt ∧ a.toInt ≤ 7) ∧ (0 ≤ b.toInt ∧ b.toInt ≤ 7)) ∧ (((zf a.toNatClampNeg).toInt < 0) ∨ ((zf b.toNatClampNeg).toInt < 0)) ∧ r.toInt = (-1000011) ∧ u.1.toInt = 1) ∨ (¬ ((0 ≤ a.toInt ∧ a.toInt ≤ 7) ∧ (0 ≤ b.toInt ∧ b.toInt ≤ 7)) ∧ r.toInt = (-1000001) ∧ u.1.toInt = su.toInt))) (fun u t => wb D A ((fun u => [(h, .inr (7, [.ref sl, .int na, .ref zs, .ref ln, .ref ir, .ref tk, .int u.1, .int le, .ref tb, .int fu, .int ap, .int pp, .ref tr, .int tc, .ref fz, .int nm])), (zs, .inl (cI, 8, .inl zf)), (ln, .inl (cI, 8, .inl lnf)), (ir, .inl (cI, 320, .inl u.2.1)), (tk, .inl (cI, 40, .inl u.2.2))]) u) t) A) ([.ref h, .int a, .int i, .int b, .int j, .int n] : List Value).toArray s 0 0 A) (F0 m 130 ls []) := by
                        intro nf
                        induction nf with
                        | zero =>
                          intro t6_c130 g0_c130 H locs ls i_t6_c130 hm
                          exact absurd hm (Nat.not_lt_zero _)
                        | succ nf ih130 =>
                          intro t6_c130 g0_c130 H locs ls i_t6_c130 hm130 hP hD hS hl
                          refine lv_iload hx hb dX8_copy_130 (lv_at hl 0 rfl) ?_
                          refine lv_iload hx hb dX8_copy_132 (lv_at hl 6 rfl) ?_
                          refine lv_icmp_ge (tgt := 164) hx hb dX8_copy_134 (by decide) (fun c_55 => ?_) (fun c_55 => ?_)
                          · have f_55 : n.toInt ≤ t6_c130.toInt := zi_le c_55
                            refine lv_iconst (v := 0) hx hb dX8_copy_164 (by decide) ?_
                            refine lv_istore (lv' := [(6, .int 0), (0, .ref h), (1, .int a), (2, .int i), (3, .int b), (4, .int j), (5, .int n)]) hx hb dX8_copy_165 hl (by decide) rfl (fun ls hl => ?_)
                            have hL167 : ∀ (nf : Nat) (t6_c167 : Int32) (g0_c167 : Nat → Int32) (H : Heap) (locs : List Loc) (ls : Array Slot), (0 ≤ t6_c167.toInt ∧ t6_c167.toInt ≤ 40) → (40 - t6_c167.toInt).toNat < nf → va_P D kl [(h, .inr (7, [.ref sl, .int na, .ref zs, .ref ln, .ref ir, .ref tk, .int su, .int le, .ref tb, .int fu, .int ap, .int pp, .ref tr, .int tc, .ref fz, .int nm])), (zs, .inl (cI, 8, .inl zf)), (ln, .inl (cI, 8, .inl lnf)), (ir, .inl (cI, 320, .inl g0_c167)), (tk, .inl (cI, 40, .inl g0_c130))] H → va_D A [(h, .inr (7, [.ref sl, .int na, .ref zs, .ref ln, .ref ir, .ref tk, .int su, .int le, .ref tb, .int fu, .int ap, .int pp, .ref tr, .int tc, .ref fz, .int nm])), (zs, .inl (cI, 8, .inl zf)), (ln, .inl (cI, 8, .inl lnf)), (ir, .inl (cI, 320, .inl g0_c167)), (tk, .inl (cI, 40, .inl g0_c130))] → va_S A s.heap H locs → lv_has ls 7 [(6, .int t6_c167), (0, .ref h), (1, .int a), (2, .int i), (3, .int b), (4, .int j), (5, .int n)] → W p l e ({ frames := 1, cells := 0, slots := 0, locals := 25 }) s m ([.ref h, .int a, .int i, .int b, .int j, .int n] : List Value).toArray below meth c H locs 0 0 (MQ below (va_Qi (fun (r : Int32) (u : Int32 × (Nat → Int32) × (Nat → Int32)) => ((((0 ≤ a.toInt ∧ a.toInt ≤ 7) ∧ (0 ≤ b.toInt ∧ b.toInt ≤ 7)) ∧ ¬ ((zf a.toNatClampNeg).toInt < 0) ∧ ¬ ((zf b.toNatClampNeg).toInt < 0) ∧ (lnf a.toNatClampNeg).toInt = (lnf b.toNatClampNeg).toInt ∧ ((0 ≤ i.toInt ∧ 0 ≤ n.toInt ∧ i.toInt + n.toInt ≤ (zf a.toNatClampNeg).toInt) ∧ 0 ≤ j.toInt ∧ j.toInt + n.toInt ≤ (zf b.toNatClampNeg).toInt) ∧ r.toInt = n.toInt ∧ u.1.toInt = 0) ∨ (((0 ≤ a.toInt ∧ a.toInt ≤ 7) ∧ (0 ≤ b.toInt ∧ b.toInt ≤ 7)) ∧ ¬ ((zf a.toNatClampNeg).toInt < 0) ∧ ¬ ((zf b.toNatClampNeg).toInt < 0) ∧ (lnf a.toNatClampNeg).toInt = (lnf b.toNatClampNeg).toInt ∧ ¬ ((0 ≤ i.toInt ∧ 0 ≤ n.toInt ∧ i.toInt + n.toInt ≤ (zf a.toNatClampNeg).toInt) ∧ 0 ≤ j.toInt ∧ j.toInt + n.toInt ≤ (zf b.toNatClampNeg).toInt) ∧ r.toInt = (-1000012) ∧ u.1.toInt = 2) ∨ (((0 ≤ a.toInt ∧ a.toInt ≤ 7) ∧ (0 ≤ b.toInt ∧ b.toInt ≤ 7)) ∧ ¬ ((zf a.toNatClampNeg).toInt < 0) ∧ ¬ ((zf b.toNatClampNeg).toInt < 0) ∧ ¬ (lnf a.toNatClampNeg).toInt = (lnf b.toNatClampNeg).toInt ∧ r.toInt = (-1000015) ∧ u.1.toInt = 5) ∨ (((0 ≤ a.toInt ∧ a.toInt ≤ 7) ∧ (0 ≤ b.toInt ∧ b.toInt ≤ 7)) ∧ (((zf a.toNatClampNeg).toInt < 0) ∨ ((zf b.toNatClampNeg).toInt < 0)) ∧ r.toInt = (-1000011) ∧ u.1.toInt = 1) ∨ (¬ ((0 ≤ a.toInt ∧ a.toInt ≤ 7) ∧ (0 ≤ b.toInt ∧ b.toInt ≤ 7)) ∧ r.toInt = (-1000001) ∧ u.1.toInt = su.toInt))) (fun u t => wb D A ((fun u => [(h, .inr (7, [.ref sl, .int na, .ref zs, .ref ln, .ref ir, .ref tk, .int u.1, .int le, .ref tb, .int fu, .int ap, .int pp, .ref tr, .int tc, .ref fz, .int nm])), (zs, .inl (cI, 8, .inl zf)), (ln, .inl (cI, 8, .inl lnf)), (ir, .inl (cI, 320, .inl u.2.1)), (tk, .inl (cI, 40, .inl u.2.2))]) u) t) A) ([.ref h, .int a, .int i, .int b, .int j, .int n] : List Value).toArray s 0 0 A) (F0 m 167 ls []) := by
                              intro nf
                              induction nf with
                              | zero =>
                                intro t6_c167 g0_c167 H locs ls i_t6_c167 hm
                                exact absurd hm (Nat.not_lt_zero _)
                              | succ nf ih167 =>
                                intro t6_c167 g0_c167 H locs ls i_t6_c167 hm167 hP hD hS hl
                                refine lv_iload hx hb dX8_copy_167 (lv_at hl 0 rfl) ?_
                                refine lv_iload hx hb dX8_copy_169 (lv_at hl 6 rfl) ?_
                                refine lv_icmp_ge (tgt := 202) hx hb dX8_copy_171 (by decide) (fun c_56 => ?_) (fun c_56 => ?_)
                                · have f_56 : n.toInt ≤ t6_c167.toInt := zi_le c_56
                                  refine lv_aload_n hx hb dX8_copy_202 rfl (lv_at hl 1 rfl) ?_
                                  refine lv_iload hx hb dX8_copy_203 (lv_at hl 6 rfl) ?_
                                  have k_57 := (s_X8_told l D cI cB cQ H.size h sl zs ln ir tk tb tr fz na su le fu ap pp tc nm n)
                                  refine wc_i (WC := [(h, .inr (7, [.ref sl, .int na, .ref zs, .ref ln, .ref ir, .ref tk, .int su, .int le, .ref tb, .int fu, .int ap, .int pp, .ref tr, .int tc, .ref fz, .int nm]))]) (WR := [(zs, .inl (cI, 8, .inl zf)), (ln, .inl (cI, 8, .inl lnf)), (ir, .inl (cI, 320, .inl g0_c167)), (tk, .inl (cI, 40, .inl g0_c130))]) (va_runV (As := [.int n]) (rest := []) ⟨hx, hb, hml, hown, hts⟩ k_57 (cwV 1 hts gX8_copy_X8_told rfl rfl rfl (by decide +kernel) ⟨Nat.le_of_ble_eq_true rfl, Nat.le_of_ble_eq_true rfl⟩) (wp_V hP hK hD hN [0] (by decide) rfl (ci := 7) rfl rfl) rfl rfl hl.1 rfl (lv_room (Nat.le_of_ble_eq_true rfl)) dX8_copy_205 ⟨Nat.le_of_ble_eq_true rfl, Nat.le_of_ble_eq_true rfl⟩) hP hD hS hA [0] [1, 2, 3, 4] rfl rfl (by decide) (by decide) (fun r_57 u_57 H locs hw_57 hP hD hS => ?_)
                                  clear k_57
                                  have hP : va_P D kl [(zs, .inl (cI, 8, .inl zf)), (ln, .inl (cI, 8, .inl lnf)), (ir, .inl (cI, 320, .inl g0_c167)), (tk, .inl (cI, 40, .inl g0_c130)), (h, .inr (7, [.ref sl, .int na, .ref zs, .ref ln, .ref ir, .ref tk, .int u_57, .int le, .ref tb, .int fu, .int ap, .int pp, .ref tr, .int tc, .ref fz, .int nm]))] H := hP
                                  have hD : va_D A [(zs, .inl (cI, 8, .inl zf)), (ln, .inl (cI, 8, .inl lnf)), (ir, .inl (cI, 320, .inl g0_c167)), (tk, .inl (cI, 40, .inl g0_c130)), (h, .inr (7, [.ref sl, .int na, .ref zs, .ref ln, .ref ir, .ref tk, .int u_57, .int le, .ref tb, .int fu, .int ap, .int pp, .ref tr, .int tc, .ref fz, .int nm]))] := hD
                                  obtain ⟨c57_0, c57_1⟩ := hw_57
                                  have c57_1 : u_57.toInt = 0 := c57_1
                                  rw [c57_0]
                                  exact wr_i (v := n) hx hb hr hlocks hS (u_57, g0_c167, g0_c130) (by exact show (((0 ≤ a.toInt ∧ a.toInt ≤ 7) ∧ (0 ≤ b.toInt ∧ b.toInt ≤ 7)) ∧ ¬ ((zf a.toNatClampNeg).toInt < 0) ∧ ¬ ((zf b.toNatClampNeg).toInt < 0) ∧ (lnf a.toNatClampNeg).toInt = (lnf b.toNatClampNeg).toInt ∧ ((0 ≤ i.toInt ∧ 0 ≤ n.toInt ∧ i.toInt + n.toInt ≤ (zf a.toNatClampNeg).toInt) ∧ 0 ≤ j.toInt ∧ j.toInt + n.toInt ≤ (zf b.toNatClampNeg).toInt) ∧ n.toInt = n.toInt ∧ u_57.toInt = 0) ∨ (((0 ≤ a.toInt ∧ a.toInt ≤ 7) ∧ (0 ≤ b.toInt ∧ b.toInt ≤ 7)) ∧ ¬ ((zf a.toNatClampNeg).toInt < 0) ∧ ¬ ((zf b.toNatClampNeg).toInt < 0) ∧ (lnf a.toNatClampNeg).toInt = (lnf b.toNatClampNeg).toInt ∧ ¬ ((0 ≤ i.toInt ∧ 0 ≤ n.toInt ∧ i.toInt + n.toInt ≤ (zf a.toNatClampNeg).toInt) ∧ 0 ≤ j.toInt ∧ j.toInt + n.toInt ≤ (zf b.toNatClampNeg).toInt) ∧ n.toInt = (-1000012) ∧ u_57.toInt = 2) ∨ (((0 ≤ a.toInt ∧ a.toInt ≤ 7) ∧ (0 ≤ b.toInt ∧ b.toInt ≤ 7)) ∧ ¬ ((zf a.toNatClampNeg).toInt < 0) ∧ ¬ ((zf b.toNatClampNeg).toInt < 0) ∧ ¬ (lnf a.toNatClampNeg).toInt = (lnf b.toNatClampNeg).toInt ∧ n.toInt = (-1000015) ∧ u_57.toInt = 5) ∨ (((0 ≤ a.toInt ∧ a.toInt ≤ 7) ∧ (0 ≤ b.toInt ∧ b.toInt ≤ 7)) ∧ (((zf a.toNatClampNeg).toInt < 0) ∨ ((zf b.toNatClampNeg).toInt < 0)) ∧ n.toInt = (-1000011) ∧ u_57.toInt = 1) ∨ (¬ ((0 ≤ a.toInt ∧ a.toInt ≤ 7) ∧ (0 ≤ b.toInt ∧ b.toInt ≤ 7)) ∧ n.toInt = (-1000001) ∧ u_57.toInt = su.toInt) from by omega) (hP.sub [4, 0, 1, 2, 3] rfl) (hD.sub [4, 0, 1, 2, 3] (by decide) rfl) dX8_copy_208
                                · have f_56 : ¬ n.toInt ≤ t6_c167.toInt := zi_nle c_56
                                  refine lv_aload_n hx hb dX8_copy_174 rfl (lv_at hl 1 rfl) ?_
                                  refine va_get (D := D) (ci := 7) (v := .ref ir) (C := RX8) (T := TX8) (N := 16) hx hb hts (fun _ h => List.mem_cons_of_mem _ (List.mem_append_right _ h)) hown hK hP 0 rfl rfl 4 (by decide) (hts (.fieldLink RX8 19 "WinterWalkModel" "items" "[I") (List.mem_of_getElem? (i := 6) rfl)) (fun _ h9 => h9) rfl dX8_copy_175 ?_
                                  refine lv_bipush (v := 40) hx hb dX8_copy_178 (by decide) ?_
                                  refine lv_iload_n hx hb dX8_copy_180 rfl (lv_at hl 4 rfl) ?_
                                  refine lv_imul hx hb dX8_copy_181 ?_
                                  refine lv_topi (fun x_58 ex_58 => ?_)
                                  have e_58 : x_58.toInt = 40 * b.toInt := by rw [ex_58]; exact zi_mul (by decide) (rfl) (by omega) (by omega)
                                  clear ex_58
                                  refine lv_iload hx hb dX8_copy_182 (lv_at hl 5 rfl) ?_
                                  refine lv_iadd hx hb dX8_copy_184 ?_
                                  refine lv_topi (fun x_59 ex_59 => ?_)
                                  have e_59 : x_59.toInt = x_58.toInt + j.toInt := by rw [ex_59]; exact zi_add (rfl) (rfl) (by omega) (by omega)
                                  clear ex_59
                                  refine lv_iload hx hb dX8_copy_185 (lv_at hl 0 rfl) ?_
                                  refine lv_iadd hx hb dX8_copy_187 ?_
                                  refine lv_topi (fun x_60 ex_60 => ?_)
                                  have e_60 : x_60.toInt = x_59.toInt + t6_c167.toInt := by rw [ex_60]; exact zi_add (rfl) (rfl) (by omega) (by omega)
                                  clear ex_60
                                  refine lv_aload_n hx hb dX8_copy_188 rfl (lv_at hl 1 rfl) ?_
                                  refine va_get (D := D) (ci := 7) (v := .ref tk) (C := RX8) (T := TX8) (N := 16) hx hb hts (fun _ h => List.mem_cons_of_mem _ (List.mem_append_right _ h)) hown hK hP 0 rfl rfl 5 (by decide) (hts (.fieldLink RX8 22 "WinterWalkModel" "taken" "[I") (List.mem_of_getElem? (i := 5) rfl)) (fun _ h9 => h9) rfl dX8_copy_189 ?_
                                  refine lv_iload hx hb dX8_copy_192 (lv_at hl 0 rfl) ?_
                                  refine va_iald hx hb hK hP 4 0 rfl rfl (zi_in (by omega) (by omega)) dX8_copy_194 ?_
                                  refine lv_topi (fun x_61 ex_61 => ?_)
                                  have g_61 : x_61.toInt = (g0_c130 (t6_c167 : Int32).toNatClampNeg).toInt := by rw [ex_61]
                                  refine va_iast hx hb hK hP hD hS 3 0 rfl rfl (zi_in (by omega) (by omega)) dX8_copy_195 (fun H locs hP hD hS => ?_)
                                  have hP : va_P D kl [(h, .inr (7, [.ref sl, .int na, .ref zs, .ref ln, .ref ir, .ref tk, .int su, .int le, .ref tb, .int fu, .int ap, .int pp, .ref tr, .int tc, .ref fz, .int nm])), (zs, .inl (cI, 8, .inl zf)), (ln, .inl (cI, 8, .inl lnf)), (ir, .inl (cI, 320, .inl (upd g0_c167 (x_60 : Int32).toNatClampNeg x_61))), (tk, .inl (cI, 40, .inl g0_c130))] H := hP
                                  have hD : va_D A [(h, .inr (7, [.ref sl, .int na, .ref zs, .ref ln, .ref ir, .ref tk, .int su, .int le, .ref tb, .int fu, .int ap, .int pp, .ref tr, .int tc, .ref fz, .int nm])), (zs, .inl (cI, 8, .inl zf)), (ln, .inl (cI, 8, .inl lnf)), (ir, .inl (cI, 320, .inl (upd g0_c167 (x_60 : Int32).toNatClampNeg x_61))), (tk, .inl (cI, 40, .inl g0_c130))] := hD
                                  obtain ⟨x_62, ex_62⟩ : ∃ y : Int32, y = t6_c167 + Int32.ofInt 1 := ⟨_, rfl⟩
                                  refine lv_iinc (v := x_62) (lv' := [(6, .int x_62), (0, .ref h), (1, .int a), (2, .int i), (3, .int b), (4, .int j), (5, .int n)]) hx hb dX8_copy_196 hl (k := 0) rfl ex_62.symm (by decide) rfl (fun ls hl => ?_)
                                  have ex_62 : x_62 = t6_c167 + 1 := ex_62
                                  have e_62 : x_62.toInt = t6_c167.toInt + 1 := by rw [ex_62]; exact zi_add (rfl) (by decide) (by omega) (by omega)
                                  clear ex_62
                                  refine lv_goto (tgt := 167) hx hb dX8_copy_199 (by decide) ?_
                                  exact ih167 x_62 (upd g0_c167 (x_60 : Int32).toNatClampNeg x_61) _ _ _ (show 0 ≤ x_62.toInt ∧ x_62.toInt ≤ 40 from by omega) (by omega) (hP.sub [0, 1, 2, 3, 4] rfl) (hD.sub [0, 1, 2, 3, 4] (by decide) rfl) hS (lv_sub hl [0, 1, 2, 3, 4, 5, 6] rfl)
                            exact hL167 (((40 - (0 : Int32).toInt).toNat) + 1) 0 irf _ _ _ (show 0 ≤ 0 ∧ 0 ≤ 40 from by omega) (Nat.lt_succ_self _) (hP.sub [0, 1, 2, 3, 4] rfl) (hD.sub [0, 1, 2, 3, 4] (by decide) rfl) hS (lv_sub hl [0, 1, 2, 3, 4, 5, 6] rfl)
                          · have f_55 : ¬ n.toInt ≤ t6_c130.toInt := zi_nle c_55
                            refine lv_aload_n hx hb dX8_copy_137 rfl (lv_at hl 1 rfl) ?_
                            refine va_get (D := D) (ci := 7) (v := .ref tk) (C := RX8) (T := TX8) (N := 16) hx hb hts (fun _ h => List.mem_cons_of_mem _ (List.mem_append_right _ h)) hown hK hP 0 rfl rfl 5 (by decide) (hts (.fieldLink RX8 22 "WinterWalkModel" "taken" "[I") (List.mem_of_getElem? (i := 5) rfl)) (fun _ h9 => h9) rfl dX8_copy_138 ?_
                            refine lv_iload hx hb dX8_copy_141 (lv_at hl 0 rfl) ?_
                            refine lv_aload_n hx hb dX8_copy_143 rfl (lv_at hl 1 rfl) ?_
                            refine va_get (D := D) (ci := 7) (v := .ref ir) (C := RX8) (T := TX8) (N := 16) hx hb hts (fun _ h => List.mem_cons_of_mem _ (List.mem_append_right _ h)) hown hK hP 0 rfl rfl 4 (by decide) (hts (.fieldLink RX8 19 "WinterWalkModel" "items" "[I") (List.mem_of_getElem? (i := 6) rfl)) (fun _ h9 => h9) rfl dX8_copy_144 ?_
                            refine lv_bipush (v := 40) hx hb dX8_copy_147 (by decide) ?_
                            refine lv_iload_n hx hb dX8_copy_149 rfl (lv_at hl 2 rfl) ?_
                            refine lv_imul hx hb dX8_copy_150 ?_
                            refine lv_topi (fun x_63 ex_63 => ?_)
                            have e_63 : x_63.toInt = 40 * a.toInt := by rw [ex_63]; exact zi_mul (by decide) (rfl) (by omega) (by omega)
                            clear ex_63
                            refine lv_iload_n hx hb dX8_copy_151 rfl (lv_at hl 3 rfl) ?_
                            refine lv_iadd hx hb dX8_copy_152 ?_
                            refine lv_topi (fun x_64 ex_64 => ?_)
                            have e_64 : x_64.toInt = x_63.toInt + i.toInt := by rw [ex_64]; exact zi_add (rfl) (rfl) (by omega) (by omega)
                            clear ex_64
                            refine lv_iload hx hb dX8_copy_153 (lv_at hl 0 rfl) ?_
                            refine lv_iadd hx hb dX8_copy_155 ?_
                            refine lv_topi (fun x_65 ex_65 => ?_)
                            have e_65 : x_65.toInt = x_64.toInt + t6_c130.toInt := by rw [ex_65]; exact zi_add (rfl) (rfl) (by omega) (by omega)
                            clear ex_65
                            refine va_iald hx hb hK hP 3 0 rfl rfl (zi_in (by omega) (by omega)) dX8_copy_156 ?_
                            refine lv_topi (fun x_66 ex_66 => ?_)
                            have g_66 : x_66.toInt = (irf (x_65 : Int32).toNatClampNeg).toInt := by rw [ex_66]
                            refine va_iast hx hb hK hP hD hS 4 0 rfl rfl (zi_in (by omega) (by omega)) dX8_copy_157 (fun H locs hP hD hS => ?_)
                            have hP : va_P D kl [(h, .inr (7, [.ref sl, .int na, .ref zs, .ref ln, .ref ir, .ref tk, .int su, .int le, .ref tb, .int fu, .int ap, .int pp, .ref tr, .int tc, .ref fz, .int nm])), (zs, .inl (cI, 8, .inl zf)), (ln, .inl (cI, 8, .inl lnf)), (ir, .inl (cI, 320, .inl irf)), (tk, .inl (cI, 40, .inl (upd g0_c130 (t6_c130 : Int32).toNatClampNeg x_66)))] H := hP
                            have hD : va_D A [(h, .inr (7, [.ref sl, .int na, .ref zs, .ref ln, .ref ir, .ref tk, .int su, .int le, .ref tb, .int fu, .int ap, .int pp, .ref tr, .int tc, .ref fz, .int nm])), (zs, .inl (cI, 8, .inl zf)), (ln, .inl (cI, 8, .inl lnf)), (ir, .inl (cI, 320, .inl irf)), (tk, .inl (cI, 40, .inl (upd g0_c130 (t6_c130 : Int32).toNatClampNeg x_66)))] := hD
                            obtain ⟨x_67, ex_67⟩ : ∃ y : Int32, y = t6_c130 + Int32.ofInt 1 := ⟨_, rfl⟩
                            refine lv_iinc (v := x_67) (lv' := [(6, .int x_67), (0, .ref h), (1, .int a), (2, .int i), (3, .int b), (4, .int j), (5, .int n)]) hx hb dX8_copy_158 hl (k := 0) rfl ex_67.symm (by decide) rfl (fun ls hl => ?_)
                            have ex_67 : x_67 = t6_c130 + 1 := ex_67
                            have e_67 : x_67.toInt = t6_c130.toInt + 1 := by rw [ex_67]; exact zi_add (rfl) (by decide) (by omega) (by omega)
                            clear ex_67
                            refine lv_goto (tgt := 130) hx hb dX8_copy_161 (by decide) ?_
                            exact ih130 x_67 (upd g0_c130 (t6_c130 : Int32).toNatClampNeg x_66) _ _ _ (show 0 ≤ x_67.toInt ∧ x_67.toInt ≤ 40 from by omega) (by omega) (hP.sub [0, 1, 2, 3, 4] rfl) (hD.sub [0, 1, 2, 3, 4] (by decide) rfl) hS (lv_sub hl [0, 1, 2, 3, 4, 5, 6] rfl)
                      exact hL130 (((40 - (0 : Int32).toInt).toNat) + 1) 0 tkf _ _ _ (show 0 ≤ 0 ∧ 0 ≤ 40 from by omega) (Nat.lt_succ_self _) (hP.sub [0, 1, 2, 3, 4] rfl) (hD.sub [0, 1, 2, 3, 4] (by decide) rfl) hS (lv_sub hl [0, 1, 2, 3, 4, 5, 6] rfl)
                    · obtain rfl : x_53 = (-1) := ex_53.trans h1
                      have f_53 : x_51.toInt < x_52.toInt := by
                        have h8 := f_53
                        try simp only [zl_of] at h8
                        exact h8
                      refine lv_if_le (tgt := 127) hx hb dX8_copy_118 (by decide) (fun _ => ?_) (fun c9 => absurd (by decide) c9)
                      refine lv_iconst (v := 0) hx hb dX8_copy_127 (by decide) ?_
                      refine lv_istore (lv' := [(6, .int 0), (0, .ref h), (1, .int a), (2, .int i), (3, .int b), (4, .int j), (5, .int n)]) hx hb dX8_copy_128 hl (by decide) rfl (fun ls hl => ?_)
                      have hL130 : ∀ (nf : Nat) (t6_c130 : Int32) (g0_c130 : Nat → Int32) (H : Heap) (locs : List Loc) (ls : Array Slot), (0 ≤ t6_c130.toInt ∧ t6_c130.toInt ≤ 40) → (40 - t6_c130.toInt).toNat < nf → va_P D kl [(h, .inr (7, [.ref sl, .int na, .ref zs, .ref ln, .ref ir, .ref tk, .int su, .int le, .ref tb, .int fu, .int ap, .int pp, .ref tr, .int tc, .ref fz, .int nm])), (zs, .inl (cI, 8, .inl zf)), (ln, .inl (cI, 8, .inl lnf)), (ir, .inl (cI, 320, .inl irf)), (tk, .inl (cI, 40, .inl g0_c130))] H → va_D A [(h, .inr (7, [.ref sl, .int na, .ref zs, .ref ln, .ref ir, .ref tk, .int su, .int le, .ref tb, .int fu, .int ap, .int pp, .ref tr, .int tc, .ref fz, .int nm])), (zs, .inl (cI, 8, .inl zf)), (ln, .inl (cI, 8, .inl lnf)), (ir, .inl (cI, 320, .inl irf)), (tk, .inl (cI, 40, .inl g0_c130))] → va_S A s.heap H locs → lv_has ls 7 [(6, .int t6_c130), (0, .ref h), (1, .int a), (2, .int i), (3, .int b), (4, .int j), (5, .int n)] → W p l e ({ frames := 1, cells := 0, slots := 0, locals := 25 }) s m ([.ref h, .int a, .int i, .int b, .int j, .int n] : List Value).toArray below meth c H locs 0 0 (MQ below (va_Qi (fun (r : Int32) (u : Int32 × (Nat → Int32) × (Nat → Int32)) => ((((0 ≤ a.toInt ∧ a.toInt ≤ 7) ∧ (0 ≤ b.toInt ∧ b.toInt ≤ 7)) ∧ ¬ ((zf a.toNatClampNeg).toInt < 0) ∧ ¬ ((zf b.toNatClampNeg).toInt < 0) ∧ (lnf a.toNatClampNeg).toInt = (lnf b.toNatClampNeg).toInt ∧ ((0 ≤ i.toInt ∧ 0 ≤ n.toInt ∧ i.toInt + n.toInt ≤ (zf a.toNatClampNeg).toInt) ∧ 0 ≤ j.toInt ∧ j.toInt + n.toInt ≤ (zf b.toNatClampNeg).toInt) ∧ r.toInt = n.toInt ∧ u.1.toInt = 0) ∨ (((0 ≤ a.toInt ∧ a.toInt ≤ 7) ∧ (0 ≤ b.toInt ∧ b.toInt ≤ 7)) ∧ ¬ ((zf a.toNatClampNeg).toInt < 0) ∧ ¬ ((zf b.toNatClampNeg).toInt < 0) ∧ (lnf a.toNatClampNeg).toInt = (lnf b.toNatClampNeg).toInt ∧ ¬ ((0 ≤ i.toInt ∧ 0 ≤ n.toInt ∧ i.toInt + n.toInt ≤ (zf a.toNatClampNeg).toInt) ∧ 0 ≤ j.toInt ∧ j.toInt + n.toInt ≤ (zf b.toNatClampNeg).toInt) ∧ r.toInt = (-1000012) ∧ u.1.toInt = 2) ∨ (((0 ≤ a.toInt ∧ a.toInt ≤ 7) ∧ (0 ≤ b.toInt ∧ b.toInt ≤ 7)) ∧ ¬ ((zf a.toNatClampNeg).toInt < 0) ∧ ¬ ((zf b.toNatClampNeg).toInt < 0) ∧ ¬ (lnf a.toNatClampNeg).toInt = (lnf b.toNatClampNeg).toInt ∧ r.toInt = (-1000015) ∧ u.1.toInt = 5) ∨ (((0 ≤ a.toInt ∧ a.toInt ≤ 7) ∧ (0 ≤ b.toInt ∧ b.toInt ≤ 7)) ∧ (((zf a.toNatClampNeg).toInt < 0) ∨ ((zf b.toNatClampNeg).toInt < 0)) ∧ r.toInt = (-1000011) ∧ u.1.toInt = 1) ∨ (¬ ((0 ≤ a.toInt ∧ a.toInt ≤ 7) ∧ (0 ≤ b.toInt ∧ b.toInt ≤ 7)) ∧ r.toInt = (-1000001) ∧ u.1.toInt = su.toInt))) (fun u t => wb D A ((fun u => [(h, .inr (7, [.ref sl, .int na, .ref zs, .ref ln, .ref ir, .ref tk, .int u.1, .int le, .ref tb, .int fu, .int ap, .int pp, .ref tr, .int tc, .ref fz, .int nm])), (zs, .inl (cI, 8, .inl zf)), (ln, .inl (cI, 8, .inl lnf)), (ir, .inl (cI, 320, .inl u.2.1)), (tk, .inl (cI, 40, .inl u.2.2))]) u) t) A) ([.ref h, .int a, .int i, .int b, .int j, .int n] : List Value).toArray s 0 0 A) (F0 m 130 ls []) := by
                        intro nf
                        induction nf with
                        | zero =>
                          intro t6_c130 g0_c130 H locs ls i_t6_c130 hm
                          exact absurd hm (Nat.not_lt_zero _)
                        | succ nf ih130 =>
                          intro t6_c130 g0_c130 H locs ls i_t6_c130 hm130 hP hD hS hl
                          refine lv_iload hx hb dX8_copy_130 (lv_at hl 0 rfl) ?_
                          refine lv_iload hx hb dX8_copy_132 (lv_at hl 6 rfl) ?_
                          refine lv_icmp_ge (tgt := 164) hx hb dX8_copy_134 (by decide) (fun c_68 => ?_) (fun c_68 => ?_)
                          · have f_68 : n.toInt ≤ t6_c130.toInt := zi_le c_68
                            refine lv_iconst (v := 0) hx hb dX8_copy_164 (by decide) ?_
                            refine lv_istore (lv' := [(6, .int 0), (0, .ref h), (1, .int a), (2, .int i), (3, .int b), (4, .int j), (5, .int n)]) hx hb dX8_copy_165 hl (by decide) rfl (fun ls hl => ?_)
                            have hL167 : ∀ (nf : Nat) (t6_c167 : Int32) (g0_c167 : Nat → Int32) (H : Heap) (locs : List Loc) (ls : Array Slot), (0 ≤ t6_c167.toInt ∧ t6_c167.toInt ≤ 40) → (40 - t6_c167.toInt).toNat < nf → va_P D kl [(h, .inr (7, [.ref sl, .int na, .ref zs, .ref ln, .ref ir, .ref tk, .int su, .int le, .ref tb, .int fu, .int ap, .int pp, .ref tr, .int tc, .ref fz, .int nm])), (zs, .inl (cI, 8, .inl zf)), (ln, .inl (cI, 8, .inl lnf)), (ir, .inl (cI, 320, .inl g0_c167)), (tk, .inl (cI, 40, .inl g0_c130))] H → va_D A [(h, .inr (7, [.ref sl, .int na, .ref zs, .ref ln, .ref ir, .ref tk, .int su, .int le, .ref tb, .int fu, .int ap, .int pp, .ref tr, .int tc, .ref fz, .int nm])), (zs, .inl (cI, 8, .inl zf)), (ln, .inl (cI, 8, .inl lnf)), (ir, .inl (cI, 320, .inl g0_c167)), (tk, .inl (cI, 40, .inl g0_c130))] → va_S A s.heap H locs → lv_has ls 7 [(6, .int t6_c167), (0, .ref h), (1, .int a), (2, .int i), (3, .int b), (4, .int j), (5, .int n)] → W p l e ({ frames := 1, cells := 0, slots := 0, locals := 25 }) s m ([.ref h, .int a, .int i, .int b, .int j, .int n] : List Value).toArray below meth c H locs 0 0 (MQ below (va_Qi (fun (r : Int32) (u : Int32 × (Nat → Int32) × (Nat → Int32)) => ((((0 ≤ a.toInt ∧ a.toInt ≤ 7) ∧ (0 ≤ b.toInt ∧ b.toInt ≤ 7)) ∧ ¬ ((zf a.toNatClampNeg).toInt < 0) ∧ ¬ ((zf b.toNatClampNeg).toInt < 0) ∧ (lnf a.toNatClampNeg).toInt = (lnf b.toNatClampNeg).toInt ∧ ((0 ≤ i.toInt ∧ 0 ≤ n.toInt ∧ i.toInt + n.toInt ≤ (zf a.toNatClampNeg).toInt) ∧ 0 ≤ j.toInt ∧ j.toInt + n.toInt ≤ (zf b.toNatClampNeg).toInt) ∧ r.toInt = n.toInt ∧ u.1.toInt = 0) ∨ (((0 ≤ a.toInt ∧ a.toInt ≤ 7) ∧ (0 ≤ b.toInt ∧ b.toInt ≤ 7)) ∧ ¬ ((zf a.toNatClampNeg).toInt < 0) ∧ ¬ ((zf b.toNatClampNeg).toInt < 0) ∧ (lnf a.toNatClampNeg).toInt = (lnf b.toNatClampNeg).toInt ∧ ¬ ((0 ≤ i.toInt ∧ 0 ≤ n.toInt ∧ i.toInt + n.toInt ≤ (zf a.toNatClampNeg).toInt) ∧ 0 ≤ j.toInt ∧ j.toInt + n.toInt ≤ (zf b.toNatClampNeg).toInt) ∧ r.toInt = (-1000012) ∧ u.1.toInt = 2) ∨ (((0 ≤ a.toInt ∧ a.toInt ≤ 7) ∧ (0 ≤ b.toInt ∧ b.toInt ≤ 7)) ∧ ¬ ((zf a.toNatClampNeg).toInt < 0) ∧ ¬ ((zf b.toNatClampNeg).toInt < 0) ∧ ¬ (lnf a.toNatClampNeg).toInt = (lnf b.toNatClampNeg).toInt ∧ r.toInt = (-1000015) ∧ u.1.toInt = 5) ∨ (((0 ≤ a.toInt ∧ a.toInt ≤ 7) ∧ (0 ≤ b.toInt ∧ b.toInt ≤ 7)) ∧ (((zf a.toNatClampNeg).toInt < 0) ∨ ((zf b.toNatClampNeg).toInt < 0)) ∧ r.toInt = (-1000011) ∧ u.1.toInt = 1) ∨ (¬ ((0 ≤ a.toInt ∧ a.toInt ≤ 7) ∧ (0 ≤ b.toInt ∧ b.toInt ≤ 7)) ∧ r.toInt = (-1000001) ∧ u.1.toInt = su.toInt))) (fun u t => wb D A ((fun u => [(h, .inr (7, [.ref sl, .int na, .ref zs, .ref ln, .ref ir, .ref tk, .int u.1, .int le, .ref tb, .int fu, .int ap, .int pp, .ref tr, .int tc, .ref fz, .int nm])), (zs, .inl (cI, 8, .inl zf)), (ln, .inl (cI, 8, .inl lnf)), (ir, .inl (cI, 320, .inl u.2.1)), (tk, .inl (cI, 40, .inl u.2.2))]) u) t) A) ([.ref h, .int a, .int i, .int b, .int j, .int n] : List Value).toArray s 0 0 A) (F0 m 167 ls []) := by
                              intro nf
                              induction nf with
                              | zero =>
                                intro t6_c167 g0_c167 H locs ls i_t6_c167 hm
                                exact absurd hm (Nat.not_lt_zero _)
                              | succ nf ih167 =>
                                intro t6_c167 g0_c167 H locs ls i_t6_c167 hm167 hP hD hS hl
                                refine lv_iload hx hb dX8_copy_167 (lv_at hl 0 rfl) ?_
                                refine lv_iload hx hb dX8_copy_169 (lv_at hl 6 rfl) ?_
                                refine lv_icmp_ge (tgt := 202) hx hb dX8_copy_171 (by decide) (fun c_69 => ?_) (fun c_69 => ?_)
                                · have f_69 : n.toInt ≤ t6_c167.toInt := zi_le c_69
                                  refine lv_aload_n hx hb dX8_copy_202 rfl (lv_at hl 1 rfl) ?_
                                  refine lv_iload hx hb dX8_copy_203 (lv_at hl 6 rfl) ?_
                                  have k_70 := (s_X8_told l D cI cB cQ H.size h sl zs ln ir tk tb tr fz na su le fu ap pp tc nm n)
                                  refine wc_i (WC := [(h, .inr (7, [.ref sl, .int na, .ref zs, .ref ln, .ref ir, .ref tk, .int su, .int le, .ref tb, .int fu, .int ap, .int pp, .ref tr, .int tc, .ref fz, .int nm]))]) (WR := [(zs, .inl (cI, 8, .inl zf)), (ln, .inl (cI, 8, .inl lnf)), (ir, .inl (cI, 320, .inl g0_c167)), (tk, .inl (cI, 40, .inl g0_c130))]) (va_runV (As := [.int n]) (rest := []) ⟨hx, hb, hml, hown, hts⟩ k_70 (cwV 1 hts gX8_copy_X8_told rfl rfl rfl (by decide +kernel) ⟨Nat.le_of_ble_eq_true rfl, Nat.le_of_ble_eq_true rfl⟩) (wp_V hP hK hD hN [0] (by decide) rfl (ci := 7) rfl rfl) rfl rfl hl.1 rfl (lv_room (Nat.le_of_ble_eq_true rfl)) dX8_copy_205 ⟨Nat.le_of_ble_eq_true rfl, Nat.le_of_ble_eq_true rfl⟩) hP hD hS hA [0] [1, 2, 3, 4] rfl rfl (by decide) (by decide) (fun r_70 u_70 H locs hw_70 hP hD hS => ?_)
                                  clear k_70
                                  have hP : va_P D kl [(zs, .inl (cI, 8, .inl zf)), (ln, .inl (cI, 8, .inl lnf)), (ir, .inl (cI, 320, .inl g0_c167)), (tk, .inl (cI, 40, .inl g0_c130)), (h, .inr (7, [.ref sl, .int na, .ref zs, .ref ln, .ref ir, .ref tk, .int u_70, .int le, .ref tb, .int fu, .int ap, .int pp, .ref tr, .int tc, .ref fz, .int nm]))] H := hP
                                  have hD : va_D A [(zs, .inl (cI, 8, .inl zf)), (ln, .inl (cI, 8, .inl lnf)), (ir, .inl (cI, 320, .inl g0_c167)), (tk, .inl (cI, 40, .inl g0_c130)), (h, .inr (7, [.ref sl, .int na, .ref zs, .ref ln, .ref ir, .ref tk, .int u_70, .int le, .ref tb, .int fu, .int ap, .int pp, .ref tr, .int tc, .ref fz, .int nm]))] := hD
                                  obtain ⟨c70_0, c70_1⟩ := hw_70
                                  have c70_1 : u_70.toInt = 0 := c70_1
                                  rw [c70_0]
                                  exact wr_i (v := n) hx hb hr hlocks hS (u_70, g0_c167, g0_c130) (by exact show (((0 ≤ a.toInt ∧ a.toInt ≤ 7) ∧ (0 ≤ b.toInt ∧ b.toInt ≤ 7)) ∧ ¬ ((zf a.toNatClampNeg).toInt < 0) ∧ ¬ ((zf b.toNatClampNeg).toInt < 0) ∧ (lnf a.toNatClampNeg).toInt = (lnf b.toNatClampNeg).toInt ∧ ((0 ≤ i.toInt ∧ 0 ≤ n.toInt ∧ i.toInt + n.toInt ≤ (zf a.toNatClampNeg).toInt) ∧ 0 ≤ j.toInt ∧ j.toInt + n.toInt ≤ (zf b.toNatClampNeg).toInt) ∧ n.toInt = n.toInt ∧ u_70.toInt = 0) ∨ (((0 ≤ a.toInt ∧ a.toInt ≤ 7) ∧ (0 ≤ b.toInt ∧ b.toInt ≤ 7)) ∧ ¬ ((zf a.toNatClampNeg).toInt < 0) ∧ ¬ ((zf b.toNatClampNeg).toInt < 0) ∧ (lnf a.toNatClampNeg).toInt = (lnf b.toNatClampNeg).toInt ∧ ¬ ((0 ≤ i.toInt ∧ 0 ≤ n.toInt ∧ i.toInt + n.toInt ≤ (zf a.toNatClampNeg).toInt) ∧ 0 ≤ j.toInt ∧ j.toInt + n.toInt ≤ (zf b.toNatClampNeg).toInt) ∧ n.toInt = (-1000012) ∧ u_70.toInt = 2) ∨ (((0 ≤ a.toInt ∧ a.toInt ≤ 7) ∧ (0 ≤ b.toInt ∧ b.toInt ≤ 7)) ∧ ¬ ((zf a.toNatClampNeg).toInt < 0) ∧ ¬ ((zf b.toNatClampNeg).toInt < 0) ∧ ¬ (lnf a.toNatClampNeg).toInt = (lnf b.toNatClampNeg).toInt ∧ n.toInt = (-1000015) ∧ u_70.toInt = 5) ∨ (((0 ≤ a.toInt ∧ a.toInt ≤ 7) ∧ (0 ≤ b.toInt ∧ b.toInt ≤ 7)) ∧ (((zf a.toNatClampNeg).toInt < 0) ∨ ((zf b.toNatClampNeg).toInt < 0)) ∧ n.toInt = (-1000011) ∧ u_70.toInt = 1) ∨ (¬ ((0 ≤ a.toInt ∧ a.toInt ≤ 7) ∧ (0 ≤ b.toInt ∧ b.toInt ≤ 7)) ∧ n.toInt = (-1000001) ∧ u_70.toInt = su.toInt) from by omega) (hP.sub [4, 0, 1, 2, 3] rfl) (hD.sub [4, 0, 1, 2, 3] (by decide) rfl) dX8_copy_208
                                · have f_69 : ¬ n.toInt ≤ t6_c167.toInt := zi_nle c_69
                                  refine lv_aload_n hx hb dX8_copy_174 rfl (lv_at hl 1 rfl) ?_
                                  refine va_get (D := D) (ci := 7) (v := .ref ir) (C := RX8) (T := TX8) (N := 16) hx hb hts (fun _ h => List.mem_cons_of_mem _ (List.mem_append_right _ h)) hown hK hP 0 rfl rfl 4 (by decide) (hts (.fieldLink RX8 19 "WinterWalkModel" "items" "[I") (List.mem_of_getElem? (i := 6) rfl)) (fun _ h9 => h9) rfl dX8_copy_175 ?_
                                  refine lv_bipush (v := 40) hx hb dX8_copy_178 (by decide) ?_
                                  refine lv_iload_n hx hb dX8_copy_180 rfl (lv_at hl 4 rfl) ?_
                                  refine lv_imul hx hb dX8_copy_181 ?_
                                  refine lv_topi (fun x_71 ex_71 => ?_)
                                  have e_71 : x_71.toInt = 40 * b.toInt := by rw [ex_71]; exact zi_mul (by decide) (rfl) (by omega) (by omega)
                                  clear ex_71
                                  refine lv_iload hx hb dX8_copy_182 (lv_at hl 5 rfl) ?_
                                  refine lv_iadd hx hb dX8_copy_184 ?_
                                  refine lv_topi (fun x_72 ex_72 => ?_)
                                  have e_72 : x_72.toInt = x_71.toInt + j.toInt := by rw [ex_72]; exact zi_add (rfl) (rfl) (by omega) (by omega)
                                  clear ex_72
                                  refine lv_iload hx hb dX8_copy_185 (lv_at hl 0 rfl) ?_
                                  refine lv_iadd hx hb dX8_copy_187 ?_
                                  refine lv_topi (fun x_73 ex_73 => ?_)
                                  have e_73 : x_73.toInt = x_72.toInt + t6_c167.toInt := by rw [ex_73]; exact zi_add (rfl) (rfl) (by omega) (by omega)
                                  clear ex_73
                                  refine lv_aload_n hx hb dX8_copy_188 rfl (lv_at hl 1 rfl) ?_
                                  refine va_get (D := D) (ci := 7) (v := .ref tk) (C := RX8) (T := TX8) (N := 16) hx hb hts (fun _ h => List.mem_cons_of_mem _ (List.mem_append_right _ h)) hown hK hP 0 rfl rfl 5 (by decide) (hts (.fieldLink RX8 22 "WinterWalkModel" "taken" "[I") (List.mem_of_getElem? (i := 5) rfl)) (fun _ h9 => h9) rfl dX8_copy_189 ?_
                                  refine lv_iload hx hb dX8_copy_192 (lv_at hl 0 rfl) ?_
                                  refine va_iald hx hb hK hP 4 0 rfl rfl (zi_in (by omega) (by omega)) dX8_copy_194 ?_
                                  refine lv_topi (fun x_74 ex_74 => ?_)
                                  have g_74 : x_74.toInt = (g0_c130 (t6_c167 : Int32).toNatClampNeg).toInt := by rw [ex_74]
                                  refine va_iast hx hb hK hP hD hS 3 0 rfl rfl (zi_in (by omega) (by omega)) dX8_copy_195 (fun H locs hP hD hS => ?_)
                                  have hP : va_P D kl [(h, .inr (7, [.ref sl, .int na, .ref zs, .ref ln, .ref ir, .ref tk, .int su, .int le, .ref tb, .int fu, .int ap, .int pp, .ref tr, .int tc, .ref fz, .int nm])), (zs, .inl (cI, 8, .inl zf)), (ln, .inl (cI, 8, .inl lnf)), (ir, .inl (cI, 320, .inl (upd g0_c167 (x_73 : Int32).toNatClampNeg x_74))), (tk, .inl (cI, 40, .inl g0_c130))] H := hP
                                  have hD : va_D A [(h, .inr (7, [.ref sl, .int na, .ref zs, .ref ln, .ref ir, .ref tk, .int su, .int le, .ref tb, .int fu, .int ap, .int pp, .ref tr, .int tc, .ref fz, .int nm])), (zs, .inl (cI, 8, .inl zf)), (ln, .inl (cI, 8, .inl lnf)), (ir, .inl (cI, 320, .inl (upd g0_c167 (x_73 : Int32).toNatClampNeg x_74))), (tk, .inl (cI, 40, .inl g0_c130))] := hD
                                  obtain ⟨x_75, ex_75⟩ : ∃ y : Int32, y = t6_c167 + Int32.ofInt 1 := ⟨_, rfl⟩
                                  refine lv_iinc (v := x_75) (lv' := [(6, .int x_75), (0, .ref h), (1, .int a), (2, .int i), (3, .int b), (4, .int j), (5, .int n)]) hx hb dX8_copy_196 hl (k := 0) rfl ex_75.symm (by decide) rfl (fun ls hl => ?_)
                                  have ex_75 : x_75 = t6_c167 + 1 := ex_75
                                  have e_75 : x_75.toInt = t6_c167.toInt + 1 := by rw [ex_75]; exact zi_add (rfl) (by decide) (by omega) (by omega)
                                  clear ex_75
                                  refine lv_goto (tgt := 167) hx hb dX8_copy_199 (by decide) ?_
                                  exact ih167 x_75 (upd g0_c167 (x_73 : Int32).toNatClampNeg x_74) _ _ _ (show 0 ≤ x_75.toInt ∧ x_75.toInt ≤ 40 from by omega) (by omega) (hP.sub [0, 1, 2, 3, 4] rfl) (hD.sub [0, 1, 2, 3, 4] (by decide) rfl) hS (lv_sub hl [0, 1, 2, 3, 4, 5, 6] rfl)
                            exact hL167 (((40 - (0 : Int32).toInt).toNat) + 1) 0 irf _ _ _ (show 0 ≤ 0 ∧ 0 ≤ 40 from by omega) (Nat.lt_succ_self _) (hP.sub [0, 1, 2, 3, 4] rfl) (hD.sub [0, 1, 2, 3, 4] (by decide) rfl) hS (lv_sub hl [0, 1, 2, 3, 4, 5, 6] rfl)
                          · have f_68 : ¬ n.toInt ≤ t6_c130.toInt := zi_nle c_68
                            refine lv_aload_n hx hb dX8_copy_137 rfl (lv_at hl 1 rfl) ?_
                            refine va_get (D := D) (ci := 7) (v := .ref tk) (C := RX8) (T := TX8) (N := 16) hx hb hts (fun _ h => List.mem_cons_of_mem _ (List.mem_append_right _ h)) hown hK hP 0 rfl rfl 5 (by decide) (hts (.fieldLink RX8 22 "WinterWalkModel" "taken" "[I") (List.mem_of_getElem? (i := 5) rfl)) (fun _ h9 => h9) rfl dX8_copy_138 ?_
                            refine lv_iload hx hb dX8_copy_141 (lv_at hl 0 rfl) ?_
                            refine lv_aload_n hx hb dX8_copy_143 rfl (lv_at hl 1 rfl) ?_
                            refine va_get (D := D) (ci := 7) (v := .ref ir) (C := RX8) (T := TX8) (N := 16) hx hb hts (fun _ h => List.mem_cons_of_mem _ (List.mem_append_right _ h)) hown hK hP 0 rfl rfl 4 (by decide) (hts (.fieldLink RX8 19 "WinterWalkModel" "items" "[I") (List.mem_of_getElem? (i := 6) rfl)) (fun _ h9 => h9) rfl dX8_copy_144 ?_
                            refine lv_bipush (v := 40) hx hb dX8_copy_147 (by decide) ?_
                            refine lv_iload_n hx hb dX8_copy_149 rfl (lv_at hl 2 rfl) ?_
                            refine lv_imul hx hb dX8_copy_150 ?_
                            refine lv_topi (fun x_76 ex_76 => ?_)
                            have e_76 : x_76.toInt = 40 * a.toInt := by rw [ex_76]; exact zi_mul (by decide) (rfl) (by omega) (by omega)
                            clear ex_76
                            refine lv_iload_n hx hb dX8_copy_151 rfl (lv_at hl 3 rfl) ?_
                            refine lv_iadd hx hb dX8_copy_152 ?_
                            refine lv_topi (fun x_77 ex_77 => ?_)
                            have e_77 : x_77.toInt = x_76.toInt + i.toInt := by rw [ex_77]; exact zi_add (rfl) (rfl) (by omega) (by omega)
                            clear ex_77
                            refine lv_iload hx hb dX8_copy_153 (lv_at hl 0 rfl) ?_
                            refine lv_iadd hx hb dX8_copy_155 ?_
                            refine lv_topi (fun x_78 ex_78 => ?_)
                            have e_78 : x_78.toInt = x_77.toInt + t6_c130.toInt := by rw [ex_78]; exact zi_add (rfl) (rfl) (by omega) (by omega)
                            clear ex_78
                            refine va_iald hx hb hK hP 3 0 rfl rfl (zi_in (by omega) (by omega)) dX8_copy_156 ?_
                            refine lv_topi (fun x_79 ex_79 => ?_)
                            have g_79 : x_79.toInt = (irf (x_78 : Int32).toNatClampNeg).toInt := by rw [ex_79]
                            refine va_iast hx hb hK hP hD hS 4 0 rfl rfl (zi_in (by omega) (by omega)) dX8_copy_157 (fun H locs hP hD hS => ?_)
                            have hP : va_P D kl [(h, .inr (7, [.ref sl, .int na, .ref zs, .ref ln, .ref ir, .ref tk, .int su, .int le, .ref tb, .int fu, .int ap, .int pp, .ref tr, .int tc, .ref fz, .int nm])), (zs, .inl (cI, 8, .inl zf)), (ln, .inl (cI, 8, .inl lnf)), (ir, .inl (cI, 320, .inl irf)), (tk, .inl (cI, 40, .inl (upd g0_c130 (t6_c130 : Int32).toNatClampNeg x_79)))] H := hP
                            have hD : va_D A [(h, .inr (7, [.ref sl, .int na, .ref zs, .ref ln, .ref ir, .ref tk, .int su, .int le, .ref tb, .int fu, .int ap, .int pp, .ref tr, .int tc, .ref fz, .int nm])), (zs, .inl (cI, 8, .inl zf)), (ln, .inl (cI, 8, .inl lnf)), (ir, .inl (cI, 320, .inl irf)), (tk, .inl (cI, 40, .inl (upd g0_c130 (t6_c130 : Int32).toNatClampNeg x_79)))] := hD
                            obtain ⟨x_80, ex_80⟩ : ∃ y : Int32, y = t6_c130 + Int32.ofInt 1 := ⟨_, rfl⟩
                            refine lv_iinc (v := x_80) (lv' := [(6, .int x_80), (0, .ref h), (1, .int a), (2, .int i), (3, .int b), (4, .int j), (5, .int n)]) hx hb dX8_copy_158 hl (k := 0) rfl ex_80.symm (by decide) rfl (fun ls hl => ?_)
                            have ex_80 : x_80 = t6_c130 + 1 := ex_80
                            have e_80 : x_80.toInt = t6_c130.toInt + 1 := by rw [ex_80]; exact zi_add (rfl) (by decide) (by omega) (by omega)
                            clear ex_80
                            refine lv_goto (tgt := 130) hx hb dX8_copy_161 (by decide) ?_
                            exact ih130 x_80 (upd g0_c130 (t6_c130 : Int32).toNatClampNeg x_79) _ _ _ (show 0 ≤ x_80.toInt ∧ x_80.toInt ≤ 40 from by omega) (by omega) (hP.sub [0, 1, 2, 3, 4] rfl) (hD.sub [0, 1, 2, 3, 4] (by decide) rfl) hS (lv_sub hl [0, 1, 2, 3, 4, 5, 6] rfl)
                      exact hL130 (((40 - (0 : Int32).toInt).toNat) + 1) 0 tkf _ _ _ (show 0 ≤ 0 ∧ 0 ≤ 40 from by omega) (Nat.lt_succ_self _) (hP.sub [0, 1, 2, 3, 4] rfl) (hD.sub [0, 1, 2, 3, 4] (by decide) rfl) hS (lv_sub hl [0, 1, 2, 3, 4, 5, 6] rfl)
          · have f_10 : ¬ x_8.toInt = x_9.toInt := zi_ne c_10
            refine lv_aload_n hx hb dX8_copy_66 rfl (lv_at hl 0 rfl) ?_
            refine lv_iconst (v := 5) hx hb dX8_copy_67 (by decide) ?_
            have k_81 := (s_X8_finds l D cI cB cQ H.size h sl zs ln ir tk tb tr fz na su le fu ap pp tc nm 5)
            refine wc_i (WC := [(h, .inr (7, [.ref sl, .int na, .ref zs, .ref ln, .ref ir, .ref tk, .int su, .int le, .ref tb, .int fu, .int ap, .int pp, .ref tr, .int tc, .ref fz, .int nm]))]) (WR := [(zs, .inl (cI, 8, .inl zf)), (ln, .inl (cI, 8, .inl lnf)), (ir, .inl (cI, 320, .inl irf)), (tk, .inl (cI, 40, .inl tkf))]) (va_runV (As := [.int 5]) (rest := []) ⟨hx, hb, hml, hown, hts⟩ k_81 (cwV 1 hts gX8_copy_X8_finds rfl rfl rfl (by decide +kernel) ⟨Nat.le_of_ble_eq_true rfl, Nat.le_of_ble_eq_true rfl⟩) (wp_V hP hK hD hN [0] (by decide) rfl (ci := 7) rfl rfl) rfl rfl hl.1 rfl (lv_room (Nat.le_of_ble_eq_true rfl)) dX8_copy_68 ⟨Nat.le_of_ble_eq_true rfl, Nat.le_of_ble_eq_true rfl⟩) hP hD hS hA [0] [1, 2, 3, 4] rfl rfl (by decide) (by decide) (fun r_81 u_81 H locs hw_81 hP hD hS => ?_)
            clear k_81
            have hP : va_P D kl [(zs, .inl (cI, 8, .inl zf)), (ln, .inl (cI, 8, .inl lnf)), (ir, .inl (cI, 320, .inl irf)), (tk, .inl (cI, 40, .inl tkf)), (h, .inr (7, [.ref sl, .int na, .ref zs, .ref ln, .ref ir, .ref tk, .int u_81, .int le, .ref tb, .int fu, .int ap, .int pp, .ref tr, .int tc, .ref fz, .int nm]))] H := hP
            have hD : va_D A [(zs, .inl (cI, 8, .inl zf)), (ln, .inl (cI, 8, .inl lnf)), (ir, .inl (cI, 320, .inl irf)), (tk, .inl (cI, 40, .inl tkf)), (h, .inr (7, [.ref sl, .int na, .ref zs, .ref ln, .ref ir, .ref tk, .int u_81, .int le, .ref tb, .int fu, .int ap, .int pp, .ref tr, .int tc, .ref fz, .int nm]))] := hD
            obtain ⟨c81_0, c81_1⟩ := hw_81
            have c81_1 : u_81.toInt = (5 : Int) := c81_1
            obtain rfl : r_81 = (-1000015) := by first | exact c81_0 | exact c81_0.trans (by decide)
            exact wr_i (v := (-1000015)) hx hb hr hlocks hS (u_81, irf, tkf) (by exact show (((0 ≤ a.toInt ∧ a.toInt ≤ 7) ∧ (0 ≤ b.toInt ∧ b.toInt ≤ 7)) ∧ ¬ ((zf a.toNatClampNeg).toInt < 0) ∧ ¬ ((zf b.toNatClampNeg).toInt < 0) ∧ (lnf a.toNatClampNeg).toInt = (lnf b.toNatClampNeg).toInt ∧ ((0 ≤ i.toInt ∧ 0 ≤ n.toInt ∧ i.toInt + n.toInt ≤ (zf a.toNatClampNeg).toInt) ∧ 0 ≤ j.toInt ∧ j.toInt + n.toInt ≤ (zf b.toNatClampNeg).toInt) ∧ (-1000015) = n.toInt ∧ u_81.toInt = 0) ∨ (((0 ≤ a.toInt ∧ a.toInt ≤ 7) ∧ (0 ≤ b.toInt ∧ b.toInt ≤ 7)) ∧ ¬ ((zf a.toNatClampNeg).toInt < 0) ∧ ¬ ((zf b.toNatClampNeg).toInt < 0) ∧ (lnf a.toNatClampNeg).toInt = (lnf b.toNatClampNeg).toInt ∧ ¬ ((0 ≤ i.toInt ∧ 0 ≤ n.toInt ∧ i.toInt + n.toInt ≤ (zf a.toNatClampNeg).toInt) ∧ 0 ≤ j.toInt ∧ j.toInt + n.toInt ≤ (zf b.toNatClampNeg).toInt) ∧ (-1000015) = (-1000012) ∧ u_81.toInt = 2) ∨ (((0 ≤ a.toInt ∧ a.toInt ≤ 7) ∧ (0 ≤ b.toInt ∧ b.toInt ≤ 7)) ∧ ¬ ((zf a.toNatClampNeg).toInt < 0) ∧ ¬ ((zf b.toNatClampNeg).toInt < 0) ∧ ¬ (lnf a.toNatClampNeg).toInt = (lnf b.toNatClampNeg).toInt ∧ (-1000015) = (-1000015) ∧ u_81.toInt = 5) ∨ (((0 ≤ a.toInt ∧ a.toInt ≤ 7) ∧ (0 ≤ b.toInt ∧ b.toInt ≤ 7)) ∧ (((zf a.toNatClampNeg).toInt < 0) ∨ ((zf b.toNatClampNeg).toInt < 0)) ∧ (-1000015) = (-1000011) ∧ u_81.toInt = 1) ∨ (¬ ((0 ≤ a.toInt ∧ a.toInt ≤ 7) ∧ (0 ≤ b.toInt ∧ b.toInt ≤ 7)) ∧ (-1000015) = (-1000001) ∧ u_81.toInt = su.toInt) from by omega) (hP.sub [4, 0, 1, 2, 3] rfl) (hD.sub [4, 0, 1, 2, 3] (by decide) rfl) dX8_copy_71
        · have f_7 : ¬ 0 ≤ x_6.toInt := zi_nle c_7
          refine lv_aload_n hx hb dX8_copy_45 rfl (lv_at hl 0 rfl) ?_
          refine lv_iconst (v := 1) hx hb dX8_copy_46 (by decide) ?_
          have k_82 := (s_X8_finds l D cI cB cQ H.size h sl zs ln ir tk tb tr fz na su le fu ap pp tc nm 1)
          refine wc_i (WC := [(h, .inr (7, [.ref sl, .int na, .ref zs, .ref ln, .ref ir, .ref tk, .int su, .int le, .ref tb, .int fu, .int ap, .int pp, .ref tr, .int tc, .ref fz, .int nm]))]) (WR := [(zs, .inl (cI, 8, .inl zf)), (ln, .inl (cI, 8, .inl lnf)), (ir, .inl (cI, 320, .inl irf)), (tk, .inl (cI, 40, .inl tkf))]) (va_runV (As := [.int 1]) (rest := []) ⟨hx, hb, hml, hown, hts⟩ k_82 (cwV 1 hts gX8_copy_X8_finds rfl rfl rfl (by decide +kernel) ⟨Nat.le_of_ble_eq_true rfl, Nat.le_of_ble_eq_true rfl⟩) (wp_V hP hK hD hN [0] (by decide) rfl (ci := 7) rfl rfl) rfl rfl hl.1 rfl (lv_room (Nat.le_of_ble_eq_true rfl)) dX8_copy_47 ⟨Nat.le_of_ble_eq_true rfl, Nat.le_of_ble_eq_true rfl⟩) hP hD hS hA [0] [1, 2, 3, 4] rfl rfl (by decide) (by decide) (fun r_82 u_82 H locs hw_82 hP hD hS => ?_)
          clear k_82
          have hP : va_P D kl [(zs, .inl (cI, 8, .inl zf)), (ln, .inl (cI, 8, .inl lnf)), (ir, .inl (cI, 320, .inl irf)), (tk, .inl (cI, 40, .inl tkf)), (h, .inr (7, [.ref sl, .int na, .ref zs, .ref ln, .ref ir, .ref tk, .int u_82, .int le, .ref tb, .int fu, .int ap, .int pp, .ref tr, .int tc, .ref fz, .int nm]))] H := hP
          have hD : va_D A [(zs, .inl (cI, 8, .inl zf)), (ln, .inl (cI, 8, .inl lnf)), (ir, .inl (cI, 320, .inl irf)), (tk, .inl (cI, 40, .inl tkf)), (h, .inr (7, [.ref sl, .int na, .ref zs, .ref ln, .ref ir, .ref tk, .int u_82, .int le, .ref tb, .int fu, .int ap, .int pp, .ref tr, .int tc, .ref fz, .int nm]))] := hD
          obtain ⟨c82_0, c82_1⟩ := hw_82
          have c82_1 : u_82.toInt = (1 : Int) := c82_1
          obtain rfl : r_82 = (-1000011) := by first | exact c82_0 | exact c82_0.trans (by decide)
          exact wr_i (v := (-1000011)) hx hb hr hlocks hS (u_82, irf, tkf) (by exact show (((0 ≤ a.toInt ∧ a.toInt ≤ 7) ∧ (0 ≤ b.toInt ∧ b.toInt ≤ 7)) ∧ ¬ ((zf a.toNatClampNeg).toInt < 0) ∧ ¬ ((zf b.toNatClampNeg).toInt < 0) ∧ (lnf a.toNatClampNeg).toInt = (lnf b.toNatClampNeg).toInt ∧ ((0 ≤ i.toInt ∧ 0 ≤ n.toInt ∧ i.toInt + n.toInt ≤ (zf a.toNatClampNeg).toInt) ∧ 0 ≤ j.toInt ∧ j.toInt + n.toInt ≤ (zf b.toNatClampNeg).toInt) ∧ (-1000011) = n.toInt ∧ u_82.toInt = 0) ∨ (((0 ≤ a.toInt ∧ a.toInt ≤ 7) ∧ (0 ≤ b.toInt ∧ b.toInt ≤ 7)) ∧ ¬ ((zf a.toNatClampNeg).toInt < 0) ∧ ¬ ((zf b.toNatClampNeg).toInt < 0) ∧ (lnf a.toNatClampNeg).toInt = (lnf b.toNatClampNeg).toInt ∧ ¬ ((0 ≤ i.toInt ∧ 0 ≤ n.toInt ∧ i.toInt + n.toInt ≤ (zf a.toNatClampNeg).toInt) ∧ 0 ≤ j.toInt ∧ j.toInt + n.toInt ≤ (zf b.toNatClampNeg).toInt) ∧ (-1000011) = (-1000012) ∧ u_82.toInt = 2) ∨ (((0 ≤ a.toInt ∧ a.toInt ≤ 7) ∧ (0 ≤ b.toInt ∧ b.toInt ≤ 7)) ∧ ¬ ((zf a.toNatClampNeg).toInt < 0) ∧ ¬ ((zf b.toNatClampNeg).toInt < 0) ∧ ¬ (lnf a.toNatClampNeg).toInt = (lnf b.toNatClampNeg).toInt ∧ (-1000011) = (-1000015) ∧ u_82.toInt = 5) ∨ (((0 ≤ a.toInt ∧ a.toInt ≤ 7) ∧ (0 ≤ b.toInt ∧ b.toInt ≤ 7)) ∧ (((zf a.toNatClampNeg).toInt < 0) ∨ ((zf b.toNatClampNeg).toInt < 0)) ∧ (-1000011) = (-1000011) ∧ u_82.toInt = 1) ∨ (¬ ((0 ≤ a.toInt ∧ a.toInt ≤ 7) ∧ (0 ≤ b.toInt ∧ b.toInt ≤ 7)) ∧ (-1000011) = (-1000001) ∧ u_82.toInt = su.toInt) from by omega) (hP.sub [4, 0, 1, 2, 3] rfl) (hD.sub [4, 0, 1, 2, 3] (by decide) rfl) dX8_copy_50
    · subst e_2
      have f_2 : ¬ ((0 : Int) ≤ b.toInt ∧ b.toInt ≤ (7 : Int)) := by
        have h8 := f_2
        try simp only [zl_of] at h8
        exact h8
      refine lv_if_ne (tgt := 27) hx hb dX8_copy_21 (by decide) (fun c9 => absurd (by decide) c9) (fun _ => ?_)
      refine lv_ldc (v := (-1000001)) hx hb hown (hts (.constant RX8 48 (-1000001)) (List.mem_of_getElem? (i := 2) rfl)) dX8_copy_24 ?_
      exact wr_i (v := (-1000001)) hx hb hr hlocks hS (su, irf, tkf) (by exact show (((0 ≤ a.toInt ∧ a.toInt ≤ 7) ∧ (0 ≤ b.toInt ∧ b.toInt ≤ 7)) ∧ ¬ ((zf a.toNatClampNeg).toInt < 0) ∧ ¬ ((zf b.toNatClampNeg).toInt < 0) ∧ (lnf a.toNatClampNeg).toInt = (lnf b.toNatClampNeg).toInt ∧ ((0 ≤ i.toInt ∧ 0 ≤ n.toInt ∧ i.toInt + n.toInt ≤ (zf a.toNatClampNeg).toInt) ∧ 0 ≤ j.toInt ∧ j.toInt + n.toInt ≤ (zf b.toNatClampNeg).toInt) ∧ (-1000001) = n.toInt ∧ su.toInt = 0) ∨ (((0 ≤ a.toInt ∧ a.toInt ≤ 7) ∧ (0 ≤ b.toInt ∧ b.toInt ≤ 7)) ∧ ¬ ((zf a.toNatClampNeg).toInt < 0) ∧ ¬ ((zf b.toNatClampNeg).toInt < 0) ∧ (lnf a.toNatClampNeg).toInt = (lnf b.toNatClampNeg).toInt ∧ ¬ ((0 ≤ i.toInt ∧ 0 ≤ n.toInt ∧ i.toInt + n.toInt ≤ (zf a.toNatClampNeg).toInt) ∧ 0 ≤ j.toInt ∧ j.toInt + n.toInt ≤ (zf b.toNatClampNeg).toInt) ∧ (-1000001) = (-1000012) ∧ su.toInt = 2) ∨ (((0 ≤ a.toInt ∧ a.toInt ≤ 7) ∧ (0 ≤ b.toInt ∧ b.toInt ≤ 7)) ∧ ¬ ((zf a.toNatClampNeg).toInt < 0) ∧ ¬ ((zf b.toNatClampNeg).toInt < 0) ∧ ¬ (lnf a.toNatClampNeg).toInt = (lnf b.toNatClampNeg).toInt ∧ (-1000001) = (-1000015) ∧ su.toInt = 5) ∨ (((0 ≤ a.toInt ∧ a.toInt ≤ 7) ∧ (0 ≤ b.toInt ∧ b.toInt ≤ 7)) ∧ (((zf a.toNatClampNeg).toInt < 0) ∨ ((zf b.toNatClampNeg).toInt < 0)) ∧ (-1000001) = (-1000011) ∧ su.toInt = 1) ∨ (¬ ((0 ≤ a.toInt ∧ a.toInt ≤ 7) ∧ (0 ≤ b.toInt ∧ b.toInt ≤ 7)) ∧ (-1000001) = (-1000001) ∧ su.toInt = su.toInt) from by omega) (hP.sub [0, 1, 2, 3, 4] rfl) (hD.sub [0, 1, 2, 3, 4] (by decide) rfl) dX8_copy_26
  · subst e_1
    have f_1 : ¬ ((0 : Int) ≤ a.toInt ∧ a.toInt ≤ (7 : Int)) := by
      have h8 := f_1
      try simp only [zl_of] at h8
      exact h8
    refine lv_if_eq (tgt := 24) hx hb dX8_copy_9 (by decide) (fun _ => ?_) (fun c9 => absurd (by decide) c9)
    refine lv_ldc (v := (-1000001)) hx hb hown (hts (.constant RX8 48 (-1000001)) (List.mem_of_getElem? (i := 2) rfl)) dX8_copy_24 ?_
    exact wr_i (v := (-1000001)) hx hb hr hlocks hS (su, irf, tkf) (by exact show (((0 ≤ a.toInt ∧ a.toInt ≤ 7) ∧ (0 ≤ b.toInt ∧ b.toInt ≤ 7)) ∧ ¬ ((zf a.toNatClampNeg).toInt < 0) ∧ ¬ ((zf b.toNatClampNeg).toInt < 0) ∧ (lnf a.toNatClampNeg).toInt = (lnf b.toNatClampNeg).toInt ∧ ((0 ≤ i.toInt ∧ 0 ≤ n.toInt ∧ i.toInt + n.toInt ≤ (zf a.toNatClampNeg).toInt) ∧ 0 ≤ j.toInt ∧ j.toInt + n.toInt ≤ (zf b.toNatClampNeg).toInt) ∧ (-1000001) = n.toInt ∧ su.toInt = 0) ∨ (((0 ≤ a.toInt ∧ a.toInt ≤ 7) ∧ (0 ≤ b.toInt ∧ b.toInt ≤ 7)) ∧ ¬ ((zf a.toNatClampNeg).toInt < 0) ∧ ¬ ((zf b.toNatClampNeg).toInt < 0) ∧ (lnf a.toNatClampNeg).toInt = (lnf b.toNatClampNeg).toInt ∧ ¬ ((0 ≤ i.toInt ∧ 0 ≤ n.toInt ∧ i.toInt + n.toInt ≤ (zf a.toNatClampNeg).toInt) ∧ 0 ≤ j.toInt ∧ j.toInt + n.toInt ≤ (zf b.toNatClampNeg).toInt) ∧ (-1000001) = (-1000012) ∧ su.toInt = 2) ∨ (((0 ≤ a.toInt ∧ a.toInt ≤ 7) ∧ (0 ≤ b.toInt ∧ b.toInt ≤ 7)) ∧ ¬ ((zf a.toNatClampNeg).toInt < 0) ∧ ¬ ((zf b.toNatClampNeg).toInt < 0) ∧ ¬ (lnf a.toNatClampNeg).toInt = (lnf b.toNatClampNeg).toInt ∧ (-1000001) = (-1000015) ∧ su.toInt = 5) ∨ (((0 ≤ a.toInt ∧ a.toInt ≤ 7) ∧ (0 ≤ b.toInt ∧ b.toInt ≤ 7)) ∧ (((zf a.toNatClampNeg).toInt < 0) ∨ ((zf b.toNatClampNeg).toInt < 0)) ∧ (-1000001) = (-1000011) ∧ su.toInt = 1) ∨ (¬ ((0 ≤ a.toInt ∧ a.toInt ≤ 7) ∧ (0 ≤ b.toInt ∧ b.toInt ≤ 7)) ∧ (-1000001) = (-1000001) ∧ su.toInt = su.toInt) from by omega) (hP.sub [0, 1, 2, 3, 4] rfl) (hD.sub [0, 1, 2, 3, 4] (by decide) rfl) dX8_copy_26
set_option maxHeartbeats 4000000 in
set_option maxRecDepth 100000 in
theorem s_X7_drop (l : Launch) (D : va_G) (cI cB cQ : ClassId) (sz : Nat) (h : Nat) (rw : Nat) (tp : Nat) (nw : Nat) (ac : Nat) (im : Nat) (fo : Nat) (ak : Nat) (la : Nat) (sq : Nat) (ir : Nat) (fg : Int32) (a : Int32) (fl : Nat → Int32) (fs : Nat → Int32) (fi : Nat → Int32) (hs : ∀ j, j < 8 → 0 ≤ (fs j).toInt ∧ (fs j).toInt ≤ 40) : mi l yX7_drop wsX7_drop ({ frames := 2, cells := 0, slots := 0, locals := 42 }) D cI cB cQ [.ref h, .int a] sz [(h, .inr (6, [.ref rw, .ref tp, .ref nw, .ref ac, .ref im, .ref fo, .ref ak, .int fg])), (rw, .inr (4, [.ref la, .ref sq, .ref ir])), (la, .inl (cI, 8, .inl fl)), (sq, .inl (cI, 8, .inl fs)), (ir, .inl (cI, 320, .inl fi))] (fun (r : Int32) (u : Int32 × (Nat → Int32)) => (((0 ≤ a.toInt ∧ a.toInt ≤ 7) ∧ ¬ ((fl a.toNatClampNeg).toInt = (-1)) ∧ r.toInt = (fs a.toNatClampNeg).toInt ∧ u.1.toInt = 0) ∨ ((0 ≤ a.toInt ∧ a.toInt ≤ 7) ∧ ((fl a.toNatClampNeg).toInt = (-1)) ∧ r.toInt = (-1000011) ∧ u.1.toInt = 1) ∨ (¬ (0 ≤ a.toInt ∧ a.toInt ≤ 7) ∧ r.toInt = (-1000001) ∧ u.1.toInt = fg.toInt)) ∧ (u.2 = rr_up ((0 ≤ a.toInt ∧ a.toInt ≤ 7) ∧ ¬ (fl a.toNatClampNeg).toInt = (-1)) fl a (-1))) (fun u => [(h, .inr (6, [.ref rw, .ref tp, .ref nw, .ref ac, .ref im, .ref fo, .ref ak, .int u.1])), (rw, .inr (4, [.ref la, .ref sq, .ref ir])), (la, .inl (cI, 8, .inl u.2)), (sq, .inl (cI, 8, .inl fs)), (ir, .inl (cI, 320, .inl fi))]) 0 0 := by
  refine wm_i (cc := cX7_drop) (maxL := 2) (ret := (some .int)) (by decide) rfl (Nat.le_of_ble_eq_true rfl) ?_
  intro p e s m below meth c A ls hx hb hr hml hown hts hlocks hin hP hK hD hN hA hl hS
  have hown : s.vm.findClass RX7 = some m.cls := hown
  have hl : lv_has ls 2 [(0, .ref h), (1, .int a)] := hl
  change W p l e ({ frames := 2, cells := 0, slots := 0, locals := 42 }) s m ([.ref h, .int a] : List Value).toArray below meth c s.heap [] 0 0 (MQ below (va_Qi (fun (r : Int32) (u : Int32 × (Nat → Int32)) => (((0 ≤ a.toInt ∧ a.toInt ≤ 7) ∧ ¬ ((fl a.toNatClampNeg).toInt = (-1)) ∧ r.toInt = (fs a.toNatClampNeg).toInt ∧ u.1.toInt = 0) ∨ ((0 ≤ a.toInt ∧ a.toInt ≤ 7) ∧ ((fl a.toNatClampNeg).toInt = (-1)) ∧ r.toInt = (-1000011) ∧ u.1.toInt = 1) ∨ (¬ (0 ≤ a.toInt ∧ a.toInt ≤ 7) ∧ r.toInt = (-1000001) ∧ u.1.toInt = fg.toInt)) ∧ (u.2 = rr_up ((0 ≤ a.toInt ∧ a.toInt ≤ 7) ∧ ¬ (fl a.toNatClampNeg).toInt = (-1)) fl a (-1))) (fun u t => wb D A ((fun u => [(h, .inr (6, [.ref rw, .ref tp, .ref nw, .ref ac, .ref im, .ref fo, .ref ak, .int u.1])), (rw, .inr (4, [.ref la, .ref sq, .ref ir])), (la, .inl (cI, 8, .inl u.2)), (sq, .inl (cI, 8, .inl fs)), (ir, .inl (cI, 320, .inl fi))]) u) t) A) ([.ref h, .int a] : List Value).toArray s 0 0 A) (F0 m 0 ls [])
  refine lv_iload_n hx hb dX7_drop_0 rfl (lv_at hl 1 rfl) ?_
  have k_1 := (g_X5_isRow l D cI cB cQ s.heap.size a)
  refine wc_i (WC := []) (WR := [(h, .inr (6, [.ref rw, .ref tp, .ref nw, .ref ac, .ref im, .ref fo, .ref ak, .int fg])), (rw, .inr (4, [.ref la, .ref sq, .ref ir])), (la, .inl (cI, 8, .inl fl)), (sq, .inl (cI, 8, .inl fs)), (ir, .inl (cI, 320, .inl fi))]) (va_runS (As := [.int a]) (rest := []) ⟨hx, hb, hml, hown, hts⟩ k_1 (va_cwS 1 hts gX7_drop_X5_isRow rfl rfl rfl (by decide +kernel) ⟨Nat.le_of_ble_eq_true rfl, Nat.le_of_ble_eq_true rfl⟩) (wp_S hP hK hD hN [] (by decide) rfl) rfl rfl hl.1 rfl (lv_room (Nat.le_of_ble_eq_true rfl)) dX7_drop_1 ⟨Nat.le_of_ble_eq_true rfl, Nat.le_of_ble_eq_true rfl⟩) hP hD hS hA [] [0, 1, 2, 3, 4] rfl rfl (by decide) (by decide) (fun r_1 u_1 H locs hw_1 hP hD hS => ?_)
  clear k_1
  have hP : va_P D kl [(h, .inr (6, [.ref rw, .ref tp, .ref nw, .ref ac, .ref im, .ref fo, .ref ak, .int fg])), (rw, .inr (4, [.ref la, .ref sq, .ref ir])), (la, .inl (cI, 8, .inl fl)), (sq, .inl (cI, 8, .inl fs)), (ir, .inl (cI, 320, .inl fi))] H := hP
  have hD : va_D A [(h, .inr (6, [.ref rw, .ref tp, .ref nw, .ref ac, .ref im, .ref fo, .ref ak, .int fg])), (rw, .inr (4, [.ref la, .ref sq, .ref ir])), (la, .inl (cI, 8, .inl fl)), (sq, .inl (cI, 8, .inl fs)), (ir, .inl (cI, 320, .inl fi))] := hD
  have c1_0 := hw_1
  rcases c1_0 with ⟨e_1, f_1⟩ | ⟨e_1, f_1⟩
  · subst e_1
    have f_1 : 0 ≤ a.toInt ∧ a.toInt ≤ 7 := f_1
    refine lv_if_ne (tgt := 10) hx hb dX7_drop_4 (by decide) (fun _ => ?_) (fun c9 => absurd c9 (by decide))
    refine lv_aload_n hx hb dX7_drop_10 rfl (lv_at hl 0 rfl) ?_
    refine va_get (D := D) (ci := 6) (v := .ref rw) (C := RX7) (T := TX7) (N := 8) hx hb hts (fun _ h => List.mem_cons_of_mem _ (List.mem_append_left _ (List.mem_append_right _ h))) hown hK hP 0 rfl rfl 0 (by decide) (hts (.fieldLink RX7 10 "WinterWalk" "rows" "LWinterWalk$Rows;") (List.mem_of_getElem? (i := 2) rfl)) (fun _ h9 => h9) rfl dX7_drop_11 ?_
    refine lv_iload_n hx hb dX7_drop_14 rfl (lv_at hl 1 rfl) ?_
    have k_2 := (e_X5_isMissing l D cI cB cQ H.size rw la sq ir a fl (by omega))
    refine wc_i (WC := [(rw, .inr (4, [.ref la, .ref sq, .ref ir])), (la, .inl (cI, 8, .inl fl))]) (WR := [(h, .inr (6, [.ref rw, .ref tp, .ref nw, .ref ac, .ref im, .ref fo, .ref ak, .int fg])), (sq, .inl (cI, 8, .inl fs)), (ir, .inl (cI, 320, .inl fi))]) (va_runV (As := [.int a]) (rest := []) ⟨hx, hb, hml, hown, hts⟩ k_2 (cwV 1 hts gX7_drop_X5_isMissing rfl rfl rfl (by decide +kernel) ⟨Nat.le_of_ble_eq_true rfl, Nat.le_of_ble_eq_true rfl⟩) (wp_V hP hK hD hN [1, 2] (by decide) rfl (ci := 4) rfl rfl) rfl rfl hl.1 rfl (lv_room (Nat.le_of_ble_eq_true rfl)) dX7_drop_15 ⟨Nat.le_of_ble_eq_true rfl, Nat.le_of_ble_eq_true rfl⟩) hP hD hS hA [1, 2] [0, 3, 4] rfl rfl (by decide) (by decide) (fun r_2 u_2 H locs hw_2 hP hD hS => ?_)
    clear k_2
    have hP : va_P D kl [(h, .inr (6, [.ref rw, .ref tp, .ref nw, .ref ac, .ref im, .ref fo, .ref ak, .int fg])), (sq, .inl (cI, 8, .inl fs)), (ir, .inl (cI, 320, .inl fi)), (rw, .inr (4, [.ref la, .ref sq, .ref ir])), (la, .inl (cI, 8, .inl fl))] H := hP
    have hD : va_D A [(h, .inr (6, [.ref rw, .ref tp, .ref nw, .ref ac, .ref im, .ref fo, .ref ak, .int fg])), (sq, .inl (cI, 8, .inl fs)), (ir, .inl (cI, 320, .inl fi)), (rw, .inr (4, [.ref la, .ref sq, .ref ir])), (la, .inl (cI, 8, .inl fl))] := hD
    have c2_0 := hw_2
    rcases c2_0 with ⟨e_2, f_2⟩ | ⟨e_2, f_2⟩
    · subst e_2
      have f_2 : (fl a.toNatClampNeg).toInt = (-1) := f_2
      refine lv_if_eq (tgt := 27) hx hb dX7_drop_18 (by decide) (fun c9 => absurd c9 (by decide)) (fun _ => ?_)
      refine lv_aload_n hx hb dX7_drop_21 rfl (lv_at hl 0 rfl) ?_
      refine lv_iconst (v := 1) hx hb dX7_drop_22 (by decide) ?_
      have k_3 := (s_X7_found l D cI cB cQ H.size h rw tp nw ac im fo ak fg 1)
      refine wc_i (WC := [(h, .inr (6, [.ref rw, .ref tp, .ref nw, .ref ac, .ref im, .ref fo, .ref ak, .int fg]))]) (WR := [(sq, .inl (cI, 8, .inl fs)), (ir, .inl (cI, 320, .inl fi)), (rw, .inr (4, [.ref la, .ref sq, .ref ir])), (la, .inl (cI, 8, .inl fl))]) (va_runV (As := [.int 1]) (rest := []) ⟨hx, hb, hml, hown, hts⟩ k_3 (cwV 1 hts gX7_drop_X7_found rfl rfl rfl (by decide +kernel) ⟨Nat.le_of_ble_eq_true rfl, Nat.le_of_ble_eq_true rfl⟩) (wp_V hP hK hD hN [0] (by decide) rfl (ci := 6) rfl rfl) rfl rfl hl.1 rfl (lv_room (Nat.le_of_ble_eq_true rfl)) dX7_drop_23 ⟨Nat.le_of_ble_eq_true rfl, Nat.le_of_ble_eq_true rfl⟩) hP hD hS hA [0] [1, 2, 3, 4] rfl rfl (by decide) (by decide) (fun r_3 u_3 H locs hw_3 hP hD hS => ?_)
      clear k_3
      have hP : va_P D kl [(sq, .inl (cI, 8, .inl fs)), (ir, .inl (cI, 320, .inl fi)), (rw, .inr (4, [.ref la, .ref sq, .ref ir])), (la, .inl (cI, 8, .inl fl)), (h, .inr (6, [.ref rw, .ref tp, .ref nw, .ref ac, .ref im, .ref fo, .ref ak, .int u_3]))] H := hP
      have hD : va_D A [(sq, .inl (cI, 8, .inl fs)), (ir, .inl (cI, 320, .inl fi)), (rw, .inr (4, [.ref la, .ref sq, .ref ir])), (la, .inl (cI, 8, .inl fl)), (h, .inr (6, [.ref rw, .ref tp, .ref nw, .ref ac, .ref im, .ref fo, .ref ak, .int u_3]))] := hD
      obtain ⟨c3_0, c3_1⟩ := hw_3
      have c3_1 : u_3.toInt = (1 : Int) := c3_1
      obtain rfl : r_3 = (-1000011) := by first | exact c3_0 | exact c3_0.trans (by decide)
      exact wr_i (v := (-1000011)) hx hb hr hlocks hS (u_3, fl) (by exact ⟨show ((0 ≤ a.toInt ∧ a.toInt ≤ 7) ∧ ¬ ((fl a.toNatClampNeg).toInt = (-1)) ∧ (-1000011) = (fs a.toNatClampNeg).toInt ∧ u_3.toInt = 0) ∨ ((0 ≤ a.toInt ∧ a.toInt ≤ 7) ∧ ((fl a.toNatClampNeg).toInt = (-1)) ∧ (-1000011) = (-1000011) ∧ u_3.toInt = 1) ∨ (¬ (0 ≤ a.toInt ∧ a.toInt ≤ 7) ∧ (-1000011) = (-1000001) ∧ u_3.toInt = fg.toInt) from by omega, (rr_neg (show ¬ ((0 ≤ a.toInt ∧ a.toInt ≤ 7) ∧ ¬ (fl a.toNatClampNeg).toInt = (-1)) from by omega)).symm⟩) (hP.sub [4, 2, 3, 0, 1] rfl) (hD.sub [4, 2, 3, 0, 1] (by decide) rfl) dX7_drop_26
    · subst e_2
      have f_2 : ¬ (fl a.toNatClampNeg).toInt = (-1) := f_2
      refine lv_if_eq (tgt := 27) hx hb dX7_drop_18 (by decide) (fun _ => ?_) (fun c9 => absurd (by decide) c9)
      refine lv_aload_n hx hb dX7_drop_27 rfl (lv_at hl 0 rfl) ?_
      refine lv_aload_n hx hb dX7_drop_28 rfl (lv_at hl 0 rfl) ?_
      refine va_get (D := D) (ci := 6) (v := .ref rw) (C := RX7) (T := TX7) (N := 8) hx hb hts (fun _ h => List.mem_cons_of_mem _ (List.mem_append_left _ (List.mem_append_right _ h))) hown hK hP 0 rfl rfl 0 (by decide) (hts (.fieldLink RX7 10 "WinterWalk" "rows" "LWinterWalk$Rows;") (List.mem_of_getElem? (i := 2) rfl)) (fun _ h9 => h9) rfl dX7_drop_29 ?_
      refine lv_iload_n hx hb dX7_drop_32 rfl (lv_at hl 1 rfl) ?_
      have k_4 := (e_X5_takeAway l D cI cB cQ H.size rw la sq ir a fl fs hs (by omega))
      refine wc_i (WC := [(rw, .inr (4, [.ref la, .ref sq, .ref ir])), (la, .inl (cI, 8, .inl fl)), (sq, .inl (cI, 8, .inl fs))]) (WR := [(h, .inr (6, [.ref rw, .ref tp, .ref nw, .ref ac, .ref im, .ref fo, .ref ak, .int fg])), (ir, .inl (cI, 320, .inl fi))]) (va_runV (As := [.int a]) (rest := [.ref h]) ⟨hx, hb, hml, hown, hts⟩ k_4 (cwV 1 hts gX7_drop_X5_takeAway rfl rfl rfl (by decide +kernel) ⟨Nat.le_of_ble_eq_true rfl, Nat.le_of_ble_eq_true rfl⟩) (wp_V hP hK hD hN [3, 4, 1] (by decide) rfl (ci := 4) rfl rfl) rfl rfl hl.1 rfl (lv_room (Nat.le_of_ble_eq_true rfl)) dX7_drop_33 ⟨Nat.le_of_ble_eq_true rfl, Nat.le_of_ble_eq_true rfl⟩) hP hD hS hA [3, 4, 1] [0, 2] rfl rfl (by decide) (by decide) (fun r_4 u_4 H locs hw_4 hP hD hS => ?_)
      clear k_4
      have hP : va_P D kl [(h, .inr (6, [.ref rw, .ref tp, .ref nw, .ref ac, .ref im, .ref fo, .ref ak, .int fg])), (ir, .inl (cI, 320, .inl fi)), (rw, .inr (4, [.ref la, .ref sq, .ref ir])), (la, .inl (cI, 8, .inl u_4)), (sq, .inl (cI, 8, .inl fs))] H := hP
      have hD : va_D A [(h, .inr (6, [.ref rw, .ref tp, .ref nw, .ref ac, .ref im, .ref fo, .ref ak, .int fg])), (ir, .inl (cI, 320, .inl fi)), (rw, .inr (4, [.ref la, .ref sq, .ref ir])), (la, .inl (cI, 8, .inl u_4)), (sq, .inl (cI, 8, .inl fs))] := hD
      obtain ⟨c4_0, c4_1⟩ := hw_4
      have c4_0 : r_4.toInt = (fs a.toNatClampNeg).toInt := c4_0
      subst c4_1
      have k_5 := (s_X7_foundNothing l D cI cB cQ H.size h rw tp nw ac im fo ak fg r_4)
      refine wc_i (WC := [(h, .inr (6, [.ref rw, .ref tp, .ref nw, .ref ac, .ref im, .ref fo, .ref ak, .int fg]))]) (WR := [(ir, .inl (cI, 320, .inl fi)), (rw, .inr (4, [.ref la, .ref sq, .ref ir])), (la, .inl (cI, 8, .inl (upd fl a.toNatClampNeg (-1)))), (sq, .inl (cI, 8, .inl fs))]) (va_runV (As := [.int r_4]) (rest := []) ⟨hx, hb, hml, hown, hts⟩ k_5 (cwV 1 hts gX7_drop_X7_foundNothing rfl rfl rfl (by decide +kernel) ⟨Nat.le_of_ble_eq_true rfl, Nat.le_of_ble_eq_true rfl⟩) (wp_V hP hK hD hN [0] (by decide) rfl (ci := 6) rfl rfl) rfl rfl hl.1 rfl (lv_room (Nat.le_of_ble_eq_true rfl)) dX7_drop_36 ⟨Nat.le_of_ble_eq_true rfl, Nat.le_of_ble_eq_true rfl⟩) hP hD hS hA [0] [1, 2, 3, 4] rfl rfl (by decide) (by decide) (fun r_5 u_5 H locs hw_5 hP hD hS => ?_)
      clear k_5
      have hP : va_P D kl [(ir, .inl (cI, 320, .inl fi)), (rw, .inr (4, [.ref la, .ref sq, .ref ir])), (la, .inl (cI, 8, .inl (upd fl a.toNatClampNeg (-1)))), (sq, .inl (cI, 8, .inl fs)), (h, .inr (6, [.ref rw, .ref tp, .ref nw, .ref ac, .ref im, .ref fo, .ref ak, .int u_5]))] H := hP
      have hD : va_D A [(ir, .inl (cI, 320, .inl fi)), (rw, .inr (4, [.ref la, .ref sq, .ref ir])), (la, .inl (cI, 8, .inl (upd fl a.toNatClampNeg (-1)))), (sq, .inl (cI, 8, .inl fs)), (h, .inr (6, [.ref rw, .ref tp, .ref nw, .ref ac, .ref im, .ref fo, .ref ak, .int u_5]))] := hD
      obtain ⟨c5_0, c5_1⟩ := hw_5
      have c5_1 : u_5.toInt = 0 := c5_1
      rw [c5_0]
      exact wr_i (v := r_4) hx hb hr hlocks hS (u_5, (upd fl a.toNatClampNeg (-1))) (by exact ⟨show ((0 ≤ a.toInt ∧ a.toInt ≤ 7) ∧ ¬ ((fl a.toNatClampNeg).toInt = (-1)) ∧ r_4.toInt = (fs a.toNatClampNeg).toInt ∧ u_5.toInt = 0) ∨ ((0 ≤ a.toInt ∧ a.toInt ≤ 7) ∧ ((fl a.toNatClampNeg).toInt = (-1)) ∧ r_4.toInt = (-1000011) ∧ u_5.toInt = 1) ∨ (¬ (0 ≤ a.toInt ∧ a.toInt ≤ 7) ∧ r_4.toInt = (-1000001) ∧ u_5.toInt = fg.toInt) from by omega, (rr_pos (show (0 ≤ a.toInt ∧ a.toInt ≤ 7) ∧ ¬ (fl a.toNatClampNeg).toInt = (-1) from by omega)).symm⟩) (hP.sub [4, 1, 2, 3, 0] rfl) (hD.sub [4, 1, 2, 3, 0] (by decide) rfl) dX7_drop_39
  · subst e_1
    have f_1 : ¬ (0 ≤ a.toInt ∧ a.toInt ≤ 7) := f_1
    refine lv_if_ne (tgt := 10) hx hb dX7_drop_4 (by decide) (fun c9 => absurd (by decide) c9) (fun _ => ?_)
    refine lv_ldc (v := (-1000001)) hx hb hown (hts (.constant RX7 68 (-1000001)) (List.mem_of_getElem? (i := 1) rfl)) dX7_drop_7 ?_
    exact wr_i (v := (-1000001)) hx hb hr hlocks hS (fg, fl) (by exact ⟨show ((0 ≤ a.toInt ∧ a.toInt ≤ 7) ∧ ¬ ((fl a.toNatClampNeg).toInt = (-1)) ∧ (-1000001) = (fs a.toNatClampNeg).toInt ∧ fg.toInt = 0) ∨ ((0 ≤ a.toInt ∧ a.toInt ≤ 7) ∧ ((fl a.toNatClampNeg).toInt = (-1)) ∧ (-1000001) = (-1000011) ∧ fg.toInt = 1) ∨ (¬ (0 ≤ a.toInt ∧ a.toInt ≤ 7) ∧ (-1000001) = (-1000001) ∧ fg.toInt = fg.toInt) from by omega, (rr_neg (show ¬ ((0 ≤ a.toInt ∧ a.toInt ≤ 7) ∧ ¬ (fl a.toNatClampNeg).toInt = (-1)) from by omega)).symm⟩) (hP.sub [0, 1, 2, 3, 4] rfl) (hD.sub [0, 1, 2, 3, 4] (by decide) rfl) dX7_drop_9
set_option maxHeartbeats 4000000 in
set_option maxRecDepth 100000 in
theorem s_X8_drop (l : Launch) (D : va_G) (cI cB cQ : ClassId) (sz : Nat) (h : Nat) (sl : Nat) (zs : Nat) (ln : Nat) (ir : Nat) (tk : Nat) (tb : Nat) (tr : Nat) (fz : Nat) (na : Int32) (su : Int32) (le : Int32) (fu : Int32) (ap : Int32) (pp : Int32) (tc : Int32) (nm : Int32) (a : Int32) (zf : Nat → Int32) (hz : ∀ j, j < 8 → (-1) ≤ (zf j).toInt ∧ (zf j).toInt ≤ 40) : mi l yX8_drop wsX8_drop ({ frames := 1, cells := 0, slots := 0, locals := 25 }) D cI cB cQ [.ref h, .int a] sz [(h, .inr (7, [.ref sl, .int na, .ref zs, .ref ln, .ref ir, .ref tk, .int su, .int le, .ref tb, .int fu, .int ap, .int pp, .ref tr, .int tc, .ref fz, .int nm])), (zs, .inl (cI, 8, .inl zf))] (fun (r : Int32) (u : Int32 × (Nat → Int32)) => (((0 ≤ a.toInt ∧ a.toInt ≤ 7) ∧ ¬ ((zf a.toNatClampNeg).toInt < 0) ∧ r.toInt = (zf a.toNatClampNeg).toInt ∧ u.1.toInt = 0) ∨ ((0 ≤ a.toInt ∧ a.toInt ≤ 7) ∧ ((zf a.toNatClampNeg).toInt < 0) ∧ r.toInt = (-1000011) ∧ u.1.toInt = 1) ∨ (¬ (0 ≤ a.toInt ∧ a.toInt ≤ 7) ∧ r.toInt = (-1000001) ∧ u.1.toInt = su.toInt)) ∧ (∀ j, j < 8 → (-1) ≤ (u.2 j).toInt ∧ (u.2 j).toInt ≤ 40) ∧ (u.2 = rr_up ((0 ≤ a.toInt ∧ a.toInt ≤ 7) ∧ ¬ (zf a.toNatClampNeg).toInt < 0) zf a (-1))) (fun u => [(h, .inr (7, [.ref sl, .int na, .ref zs, .ref ln, .ref ir, .ref tk, .int u.1, .int le, .ref tb, .int fu, .int ap, .int pp, .ref tr, .int tc, .ref fz, .int nm])), (zs, .inl (cI, 8, .inl u.2))]) 0 0 := by
  refine wm_i (cc := cX8_drop) (maxL := 3) (ret := (some .int)) (by decide) rfl (Nat.le_of_ble_eq_true rfl) ?_
  intro p e s m below meth c A ls hx hb hr hml hown hts hlocks hin hP hK hD hN hA hl hS
  have hown : s.vm.findClass RX8 = some m.cls := hown
  have hl : lv_has ls 3 [(0, .ref h), (1, .int a)] := hl
  change W p l e ({ frames := 1, cells := 0, slots := 0, locals := 25 }) s m ([.ref h, .int a] : List Value).toArray below meth c s.heap [] 0 0 (MQ below (va_Qi (fun (r : Int32) (u : Int32 × (Nat → Int32)) => (((0 ≤ a.toInt ∧ a.toInt ≤ 7) ∧ ¬ ((zf a.toNatClampNeg).toInt < 0) ∧ r.toInt = (zf a.toNatClampNeg).toInt ∧ u.1.toInt = 0) ∨ ((0 ≤ a.toInt ∧ a.toInt ≤ 7) ∧ ((zf a.toNatClampNeg).toInt < 0) ∧ r.toInt = (-1000011) ∧ u.1.toInt = 1) ∨ (¬ (0 ≤ a.toInt ∧ a.toInt ≤ 7) ∧ r.toInt = (-1000001) ∧ u.1.toInt = su.toInt)) ∧ (∀ j, j < 8 → (-1) ≤ (u.2 j).toInt ∧ (u.2 j).toInt ≤ 40) ∧ (u.2 = rr_up ((0 ≤ a.toInt ∧ a.toInt ≤ 7) ∧ ¬ (zf a.toNatClampNeg).toInt < 0) zf a (-1))) (fun u t => wb D A ((fun u => [(h, .inr (7, [.ref sl, .int na, .ref zs, .ref ln, .ref ir, .ref tk, .int u.1, .int le, .ref tb, .int fu, .int ap, .int pp, .ref tr, .int tc, .ref fz, .int nm])), (zs, .inl (cI, 8, .inl u.2))]) u) t) A) ([.ref h, .int a] : List Value).toArray s 0 0 A) (F0 m 0 ls [])
  refine lv_iload_n hx hb dX8_drop_0 rfl (lv_at hl 1 rfl) ?_
  refine lv_i2l (v := (a.toInt64)) hx hb dX8_drop_1 rfl ?_
  refine lv_lconst (v := 0) hx hb dX8_drop_2 (by decide) ?_
  refine lv_ldc2 (v := 7) hx hb hown (hts (.constantLong RX8 40 (7)) (List.mem_of_getElem? (i := 1) rfl)) dX8_drop_3 ?_
  have k_1 := (g_X8_in l D cI cB cQ s.heap.size (a.toInt64) 0 7)
  refine wc_i (WC := []) (WR := [(h, .inr (7, [.ref sl, .int na, .ref zs, .ref ln, .ref ir, .ref tk, .int su, .int le, .ref tb, .int fu, .int ap, .int pp, .ref tr, .int tc, .ref fz, .int nm])), (zs, .inl (cI, 8, .inl zf))]) (va_runS (As := [.long (a.toInt64), .long 0, .long 7]) (rest := []) ⟨hx, hb, hml, hown, hts⟩ k_1 (va_cwS 3 hts gX8_drop_X8_in rfl rfl rfl (by decide +kernel) ⟨Nat.le_of_ble_eq_true rfl, Nat.le_of_ble_eq_true rfl⟩) (wp_S hP hK hD hN [] (by decide) rfl) rfl rfl hl.1 rfl (lv_room (Nat.le_of_ble_eq_true rfl)) dX8_drop_6 ⟨Nat.le_of_ble_eq_true rfl, Nat.le_of_ble_eq_true rfl⟩) hP hD hS hA [] [0, 1] rfl rfl (by decide) (by decide) (fun r_1 u_1 H locs hw_1 hP hD hS => ?_)
  clear k_1
  have hP : va_P D kl [(h, .inr (7, [.ref sl, .int na, .ref zs, .ref ln, .ref ir, .ref tk, .int su, .int le, .ref tb, .int fu, .int ap, .int pp, .ref tr, .int tc, .ref fz, .int nm])), (zs, .inl (cI, 8, .inl zf))] H := hP
  have hD : va_D A [(h, .inr (7, [.ref sl, .int na, .ref zs, .ref ln, .ref ir, .ref tk, .int su, .int le, .ref tb, .int fu, .int ap, .int pp, .ref tr, .int tc, .ref fz, .int nm])), (zs, .inl (cI, 8, .inl zf))] := hD
  have c1_0 := hw_1
  rcases c1_0 with ⟨e_1, f_1⟩ | ⟨e_1, f_1⟩
  · subst e_1
    have f_1 : (0 : Int) ≤ a.toInt ∧ a.toInt ≤ (7 : Int) := by
      have h8 := f_1
      try simp only [zl_of] at h8
      exact h8
    refine lv_if_ne (tgt := 15) hx hb dX8_drop_9 (by decide) (fun _ => ?_) (fun c9 => absurd c9 (by decide))
    refine lv_aload_n hx hb dX8_drop_15 rfl (lv_at hl 0 rfl) ?_
    refine va_get (D := D) (ci := 7) (v := .ref zs) (C := RX8) (T := TX8) (N := 16) hx hb hts (fun _ h => List.mem_cons_of_mem _ (List.mem_append_right _ h)) hown hK hP 0 rfl rfl 2 (by decide) (hts (.fieldLink RX8 13 "WinterWalkModel" "size" "[I") (List.mem_of_getElem? (i := 3) rfl)) (fun _ h9 => h9) rfl dX8_drop_16 ?_
    refine lv_iload_n hx hb dX8_drop_19 rfl (lv_at hl 1 rfl) ?_
    refine va_iald hx hb hK hP 1 0 rfl rfl (zi_in (by omega) (by omega)) dX8_drop_20 ?_
    refine lv_topi (fun x_2 ex_2 => ?_)
    have f_2 : (-1) ≤ x_2.toInt ∧ x_2.toInt ≤ 40 := by rw [ex_2]; exact hz _ (zi_cl (by omega) (by omega))
    have g_2 : x_2.toInt = (zf (a : Int32).toNatClampNeg).toInt := by rw [ex_2]
    refine lv_if_ge (tgt := 30) hx hb dX8_drop_21 (by decide) (fun c_3 => ?_) (fun c_3 => ?_)
    · have f_3 : 0 ≤ x_2.toInt := zi_le c_3
      refine lv_aload_n hx hb dX8_drop_30 rfl (lv_at hl 0 rfl) ?_
      refine va_get (D := D) (ci := 7) (v := .ref zs) (C := RX8) (T := TX8) (N := 16) hx hb hts (fun _ h => List.mem_cons_of_mem _ (List.mem_append_right _ h)) hown hK hP 0 rfl rfl 2 (by decide) (hts (.fieldLink RX8 13 "WinterWalkModel" "size" "[I") (List.mem_of_getElem? (i := 3) rfl)) (fun _ h9 => h9) rfl dX8_drop_31 ?_
      refine lv_iload_n hx hb dX8_drop_34 rfl (lv_at hl 1 rfl) ?_
      refine va_iald hx hb hK hP 1 0 rfl rfl (zi_in (by omega) (by omega)) dX8_drop_35 ?_
      refine lv_topi (fun x_4 ex_4 => ?_)
      have f_4 : (-1) ≤ x_4.toInt ∧ x_4.toInt ≤ 40 := by rw [ex_4]; exact hz _ (zi_cl (by omega) (by omega))
      have g_4 : x_4.toInt = (zf (a : Int32).toNatClampNeg).toInt := by rw [ex_4]
      refine lv_istore_n (lv' := [(2, .int x_4), (0, .ref h), (1, .int a)]) hx hb dX8_drop_36 rfl hl (by decide) rfl (fun ls hl => ?_)
      refine lv_aload_n hx hb dX8_drop_37 rfl (lv_at hl 1 rfl) ?_
      refine va_get (D := D) (ci := 7) (v := .ref zs) (C := RX8) (T := TX8) (N := 16) hx hb hts (fun _ h => List.mem_cons_of_mem _ (List.mem_append_right _ h)) hown hK hP 0 rfl rfl 2 (by decide) (hts (.fieldLink RX8 13 "WinterWalkModel" "size" "[I") (List.mem_of_getElem? (i := 3) rfl)) (fun _ h9 => h9) rfl dX8_drop_38 ?_
      refine lv_iload_n hx hb dX8_drop_41 rfl (lv_at hl 2 rfl) ?_
      refine lv_iconst (v := (-1)) hx hb dX8_drop_42 (by decide) ?_
      refine va_iast hx hb hK hP hD hS 1 0 rfl rfl (zi_in (by omega) (by omega)) dX8_drop_43 (fun H locs hP hD hS => ?_)
      have hP : va_P D kl [(h, .inr (7, [.ref sl, .int na, .ref zs, .ref ln, .ref ir, .ref tk, .int su, .int le, .ref tb, .int fu, .int ap, .int pp, .ref tr, .int tc, .ref fz, .int nm])), (zs, .inl (cI, 8, .inl (upd zf (a : Int32).toNatClampNeg (-1))))] H := hP
      have hD : va_D A [(h, .inr (7, [.ref sl, .int na, .ref zs, .ref ln, .ref ir, .ref tk, .int su, .int le, .ref tb, .int fu, .int ap, .int pp, .ref tr, .int tc, .ref fz, .int nm])), (zs, .inl (cI, 8, .inl (upd zf (a : Int32).toNatClampNeg (-1))))] := hD
      have ha_5 : ∀ j, j < 8 → (-1) ≤ ((upd zf (a : Int32).toNatClampNeg (-1)) j).toInt ∧ ((upd zf (a : Int32).toNatClampNeg (-1)) j).toInt ≤ 40 := zu_upd hz (by decide)
      refine lv_aload_n hx hb dX8_drop_44 rfl (lv_at hl 1 rfl) ?_
      refine lv_iload_n hx hb dX8_drop_45 rfl (lv_at hl 0 rfl) ?_
      have k_6 := (s_X8_told l D cI cB cQ H.size h sl zs ln ir tk tb tr fz na su le fu ap pp tc nm x_4)
      refine wc_i (WC := [(h, .inr (7, [.ref sl, .int na, .ref zs, .ref ln, .ref ir, .ref tk, .int su, .int le, .ref tb, .int fu, .int ap, .int pp, .ref tr, .int tc, .ref fz, .int nm]))]) (WR := [(zs, .inl (cI, 8, .inl (upd zf (a : Int32).toNatClampNeg (-1))))]) (va_runV (As := [.int x_4]) (rest := []) ⟨hx, hb, hml, hown, hts⟩ k_6 (cwV 1 hts gX8_drop_X8_told rfl rfl rfl (by decide +kernel) ⟨Nat.le_of_ble_eq_true rfl, Nat.le_of_ble_eq_true rfl⟩) (wp_V hP hK hD hN [0] (by decide) rfl (ci := 7) rfl rfl) rfl rfl hl.1 rfl (lv_room (Nat.le_of_ble_eq_true rfl)) dX8_drop_46 ⟨Nat.le_of_ble_eq_true rfl, Nat.le_of_ble_eq_true rfl⟩) hP hD hS hA [0] [1] rfl rfl (by decide) (by decide) (fun r_6 u_6 H locs hw_6 hP hD hS => ?_)
      clear k_6
      have hP : va_P D kl [(zs, .inl (cI, 8, .inl (upd zf (a : Int32).toNatClampNeg (-1)))), (h, .inr (7, [.ref sl, .int na, .ref zs, .ref ln, .ref ir, .ref tk, .int u_6, .int le, .ref tb, .int fu, .int ap, .int pp, .ref tr, .int tc, .ref fz, .int nm]))] H := hP
      have hD : va_D A [(zs, .inl (cI, 8, .inl (upd zf (a : Int32).toNatClampNeg (-1)))), (h, .inr (7, [.ref sl, .int na, .ref zs, .ref ln, .ref ir, .ref tk, .int u_6, .int le, .ref tb, .int fu, .int ap, .int pp, .ref tr, .int tc, .ref fz, .int nm]))] := hD
      obtain ⟨c6_0, c6_1⟩ := hw_6
      have c6_1 : u_6.toInt = 0 := c6_1
      rw [c6_0]
      exact wr_i (v := x_4) hx hb hr hlocks hS (u_6, (upd zf (a : Int32).toNatClampNeg (-1))) (by exact ⟨show ((0 ≤ a.toInt ∧ a.toInt ≤ 7) ∧ ¬ ((zf a.toNatClampNeg).toInt < 0) ∧ x_4.toInt = (zf a.toNatClampNeg).toInt ∧ u_6.toInt = 0) ∨ ((0 ≤ a.toInt ∧ a.toInt ≤ 7) ∧ ((zf a.toNatClampNeg).toInt < 0) ∧ x_4.toInt = (-1000011) ∧ u_6.toInt = 1) ∨ (¬ (0 ≤ a.toInt ∧ a.toInt ≤ 7) ∧ x_4.toInt = (-1000001) ∧ u_6.toInt = su.toInt) from by omega, ha_5, (rr_pos (show (0 ≤ a.toInt ∧ a.toInt ≤ 7) ∧ ¬ (zf a.toNatClampNeg).toInt < 0 from by omega)).symm⟩) (hP.sub [1, 0] rfl) (hD.sub [1, 0] (by decide) rfl) dX8_drop_49
    · have f_3 : ¬ 0 ≤ x_2.toInt := zi_nle c_3
      refine lv_aload_n hx hb dX8_drop_24 rfl (lv_at hl 0 rfl) ?_
      refine lv_iconst (v := 1) hx hb dX8_drop_25 (by decide) ?_
      have k_7 := (s_X8_finds l D cI cB cQ H.size h sl zs ln ir tk tb tr fz na su le fu ap pp tc nm 1)
      refine wc_i (WC := [(h, .inr (7, [.ref sl, .int na, .ref zs, .ref ln, .ref ir, .ref tk, .int su, .int le, .ref tb, .int fu, .int ap, .int pp, .ref tr, .int tc, .ref fz, .int nm]))]) (WR := [(zs, .inl (cI, 8, .inl zf))]) (va_runV (As := [.int 1]) (rest := []) ⟨hx, hb, hml, hown, hts⟩ k_7 (cwV 1 hts gX8_drop_X8_finds rfl rfl rfl (by decide +kernel) ⟨Nat.le_of_ble_eq_true rfl, Nat.le_of_ble_eq_true rfl⟩) (wp_V hP hK hD hN [0] (by decide) rfl (ci := 7) rfl rfl) rfl rfl hl.1 rfl (lv_room (Nat.le_of_ble_eq_true rfl)) dX8_drop_26 ⟨Nat.le_of_ble_eq_true rfl, Nat.le_of_ble_eq_true rfl⟩) hP hD hS hA [0] [1] rfl rfl (by decide) (by decide) (fun r_7 u_7 H locs hw_7 hP hD hS => ?_)
      clear k_7
      have hP : va_P D kl [(zs, .inl (cI, 8, .inl zf)), (h, .inr (7, [.ref sl, .int na, .ref zs, .ref ln, .ref ir, .ref tk, .int u_7, .int le, .ref tb, .int fu, .int ap, .int pp, .ref tr, .int tc, .ref fz, .int nm]))] H := hP
      have hD : va_D A [(zs, .inl (cI, 8, .inl zf)), (h, .inr (7, [.ref sl, .int na, .ref zs, .ref ln, .ref ir, .ref tk, .int u_7, .int le, .ref tb, .int fu, .int ap, .int pp, .ref tr, .int tc, .ref fz, .int nm]))] := hD
      obtain ⟨c7_0, c7_1⟩ := hw_7
      have c7_1 : u_7.toInt = (1 : Int) := c7_1
      obtain rfl : r_7 = (-1000011) := by first | exact c7_0 | exact c7_0.trans (by decide)
      exact wr_i (v := (-1000011)) hx hb hr hlocks hS (u_7, zf) (by exact ⟨show ((0 ≤ a.toInt ∧ a.toInt ≤ 7) ∧ ¬ ((zf a.toNatClampNeg).toInt < 0) ∧ (-1000011) = (zf a.toNatClampNeg).toInt ∧ u_7.toInt = 0) ∨ ((0 ≤ a.toInt ∧ a.toInt ≤ 7) ∧ ((zf a.toNatClampNeg).toInt < 0) ∧ (-1000011) = (-1000011) ∧ u_7.toInt = 1) ∨ (¬ (0 ≤ a.toInt ∧ a.toInt ≤ 7) ∧ (-1000011) = (-1000001) ∧ u_7.toInt = su.toInt) from by omega, hz, (rr_neg (show ¬ ((0 ≤ a.toInt ∧ a.toInt ≤ 7) ∧ ¬ (zf a.toNatClampNeg).toInt < 0) from by omega)).symm⟩) (hP.sub [1, 0] rfl) (hD.sub [1, 0] (by decide) rfl) dX8_drop_29
  · subst e_1
    have f_1 : ¬ ((0 : Int) ≤ a.toInt ∧ a.toInt ≤ (7 : Int)) := by
      have h8 := f_1
      try simp only [zl_of] at h8
      exact h8
    refine lv_if_ne (tgt := 15) hx hb dX8_drop_9 (by decide) (fun c9 => absurd (by decide) c9) (fun _ => ?_)
    refine lv_ldc (v := (-1000001)) hx hb hown (hts (.constant RX8 48 (-1000001)) (List.mem_of_getElem? (i := 2) rfl)) dX8_drop_12 ?_
    exact wr_i (v := (-1000001)) hx hb hr hlocks hS (su, zf) (by exact ⟨show ((0 ≤ a.toInt ∧ a.toInt ≤ 7) ∧ ¬ ((zf a.toNatClampNeg).toInt < 0) ∧ (-1000001) = (zf a.toNatClampNeg).toInt ∧ su.toInt = 0) ∨ ((0 ≤ a.toInt ∧ a.toInt ≤ 7) ∧ ((zf a.toNatClampNeg).toInt < 0) ∧ (-1000001) = (-1000011) ∧ su.toInt = 1) ∨ (¬ (0 ≤ a.toInt ∧ a.toInt ≤ 7) ∧ (-1000001) = (-1000001) ∧ su.toInt = su.toInt) from by omega, hz, (rr_neg (show ¬ ((0 ≤ a.toInt ∧ a.toInt ≤ 7) ∧ ¬ (zf a.toNatClampNeg).toInt < 0) from by omega)).symm⟩) (hP.sub [0, 1] rfl) (hD.sub [0, 1] (by decide) rfl) dX8_drop_14
set_option maxHeartbeats 4000000 in
set_option maxRecDepth 100000 in
theorem z_X3_above_0 (l : Launch) (D : va_G) (cI cB cQ : ClassId) (z : ZT) (sz : Nat) (h_z : ZV z) : miz l yX3_above wsX3_above ({ frames := 1, cells := 0, slots := 0, locals := 22 }) z D cI cB cQ [.int 0] sz [] (fun (r : Int32) (_u : Unit) => (r = (-1))) (fun _ => []) 0 0 := by
  refine wm_z (cc := cX3_above) (maxL := 1) (ret := (some .int)) (by decide) rfl (Nat.le_of_ble_eq_true rfl) ?_
  intro p e s m below meth c A ls hZ hAb hx hb hr hml hown hts hlocks hin hP hK hD hN hA hl hS
  have hown : s.vm.findClass RX3 = some m.cls := hown
  have hl : lv_has ls 1 [(0, .int 0)] := hl
  change W p l e ({ frames := 1, cells := 0, slots := 0, locals := 22 }) s m ([.int 0] : List Value).toArray below meth c s.heap [] 0 0 (MQ below (va_Qi (fun (r : Int32) (_u : Unit) => (r = (-1))) (fun u t => wb D A ((fun _ => []) u) t) A) ([.int 0] : List Value).toArray s 0 0 A) (F0 m 0 ls [])
  refine lv_iconst (v := 0) hx hb dX3_above_0 (by decide) ?_
  refine lv_iload_n hx hb dX3_above_1 rfl (lv_at hl 0 rfl) ?_
  refine lv_iconst (v := 5) hx hb dX3_above_2 (by decide) ?_
  have k_1 := (g_X7_isFrom l D cI cB cQ s.heap.size 0 0 5)
  refine wc_i (WC := []) (WR := []) (va_runSN (As := [.int 0, .int 0, .int 5]) (rest := []) ⟨hx, hb, hml, hown, hts⟩ k_1 (⟨va_cnB 3 hts gX3_above_X7_isFrom_n9 rfl rfl rfl hN.2.2.2.2.2.2.2.2.1 (hts (.initialized RX7) (List.mem_of_getElem? (i := 3) rfl)) (by decide +kernel) ⟨Nat.le_of_ble_eq_true rfl, Nat.le_of_ble_eq_true rfl⟩, (hts (.static yX7_isFrom) (List.mem_of_getElem? (i := 2) rfl)), trivial⟩) (wp_S hP hK hD hN [] (by decide) rfl) rfl rfl hl.1 rfl (lv_room (Nat.le_of_ble_eq_true rfl)) dX3_above_3 ⟨Nat.le_of_ble_eq_true rfl, Nat.le_of_ble_eq_true rfl⟩) hP hD hS hA [] [] rfl rfl (by decide) (by decide) (fun r_1 u_1 H locs hw_1 hP hD hS => ?_)
  clear k_1
  have hP : va_P D kl [] H := hP
  have hD : va_D A [] := hD
  have c1_0 := hw_1
  rcases c1_0 with ⟨e_1, f_1⟩ | ⟨e_1, f_1⟩
  · subst e_1
    have f_1 : (0 : Int) ≤ (0 : Int) ∧ (0 : Int) ≤ (5 : Int) := f_1
    refine lv_if_eq (tgt := 17) hx hb dX3_above_6 (by decide) (fun c9 => absurd c9 (by decide)) (fun _ => ?_)
    refine va_gets (v := .ref z.2.1) hx hb (va_Z.narrow hZ.2.1.1 hAb) hS hown (hts (.fieldLink RX3 13 "WinterWalk$Kinds" "ABOVE" "[I") (List.mem_of_getElem? (i := 1) rfl)) (fun _ h => h) dX3_above_9 ?_
    refine lv_iload_n hx hb dX3_above_12 rfl (lv_at hl 0 rfl) ?_
    refine va_sld hx hb hZ.2.1.2.1 (Nat.lt_of_lt_of_le hZ.2.1.2.2 hZ.1) (fun q => absurd (hAb _ q) (Nat.not_le.mpr hZ.2.1.2.2)) hS (zi_in (by decide) (by decide)) dX3_above_13 ?_
    refine lv_topi (fun x_2 ex_2 => ?_)
    obtain rfl : x_2 = (-1) := ex_2.trans (by rw [h_z.1]; first | rfl | decide)
    refine lv_goto (tgt := 18) hx hb dX3_above_14 (by decide) ?_
    exact wr_i (v := (-1)) hx hb hr hlocks hS () (by exact rfl) (hP.sub [] rfl) (hD.sub [] (by decide) rfl) dX3_above_18
  · subst e_1
    have f_1 : ¬ ((0 : Int) ≤ (0 : Int) ∧ (0 : Int) ≤ (5 : Int)) := f_1
    exfalso; omega
set_option maxHeartbeats 4000000 in
set_option maxRecDepth 100000 in
theorem z_X3_above_1 (l : Launch) (D : va_G) (cI cB cQ : ClassId) (z : ZT) (sz : Nat) (h_z : ZV z) : miz l yX3_above wsX3_above ({ frames := 1, cells := 0, slots := 0, locals := 22 }) z D cI cB cQ [.int 1] sz [] (fun (r : Int32) (_u : Unit) => (r = 0)) (fun _ => []) 0 0 := by
  refine wm_z (cc := cX3_above) (maxL := 1) (ret := (some .int)) (by decide) rfl (Nat.le_of_ble_eq_true rfl) ?_
  intro p e s m below meth c A ls hZ hAb hx hb hr hml hown hts hlocks hin hP hK hD hN hA hl hS
  have hown : s.vm.findClass RX3 = some m.cls := hown
  have hl : lv_has ls 1 [(0, .int 1)] := hl
  change W p l e ({ frames := 1, cells := 0, slots := 0, locals := 22 }) s m ([.int 1] : List Value).toArray below meth c s.heap [] 0 0 (MQ below (va_Qi (fun (r : Int32) (_u : Unit) => (r = 0)) (fun u t => wb D A ((fun _ => []) u) t) A) ([.int 1] : List Value).toArray s 0 0 A) (F0 m 0 ls [])
  refine lv_iconst (v := 0) hx hb dX3_above_0 (by decide) ?_
  refine lv_iload_n hx hb dX3_above_1 rfl (lv_at hl 0 rfl) ?_
  refine lv_iconst (v := 5) hx hb dX3_above_2 (by decide) ?_
  have k_1 := (g_X7_isFrom l D cI cB cQ s.heap.size 0 1 5)
  refine wc_i (WC := []) (WR := []) (va_runSN (As := [.int 0, .int 1, .int 5]) (rest := []) ⟨hx, hb, hml, hown, hts⟩ k_1 (⟨va_cnB 3 hts gX3_above_X7_isFrom_n9 rfl rfl rfl hN.2.2.2.2.2.2.2.2.1 (hts (.initialized RX7) (List.mem_of_getElem? (i := 3) rfl)) (by decide +kernel) ⟨Nat.le_of_ble_eq_true rfl, Nat.le_of_ble_eq_true rfl⟩, (hts (.static yX7_isFrom) (List.mem_of_getElem? (i := 2) rfl)), trivial⟩) (wp_S hP hK hD hN [] (by decide) rfl) rfl rfl hl.1 rfl (lv_room (Nat.le_of_ble_eq_true rfl)) dX3_above_3 ⟨Nat.le_of_ble_eq_true rfl, Nat.le_of_ble_eq_true rfl⟩) hP hD hS hA [] [] rfl rfl (by decide) (by decide) (fun r_1 u_1 H locs hw_1 hP hD hS => ?_)
  clear k_1
  have hP : va_P D kl [] H := hP
  have hD : va_D A [] := hD
  have c1_0 := hw_1
  rcases c1_0 with ⟨e_1, f_1⟩ | ⟨e_1, f_1⟩
  · subst e_1
    have f_1 : (0 : Int) ≤ (1 : Int) ∧ (1 : Int) ≤ (5 : Int) := f_1
    refine lv_if_eq (tgt := 17) hx hb dX3_above_6 (by decide) (fun c9 => absurd c9 (by decide)) (fun _ => ?_)
    refine va_gets (v := .ref z.2.1) hx hb (va_Z.narrow hZ.2.1.1 hAb) hS hown (hts (.fieldLink RX3 13 "WinterWalk$Kinds" "ABOVE" "[I") (List.mem_of_getElem? (i := 1) rfl)) (fun _ h => h) dX3_above_9 ?_
    refine lv_iload_n hx hb dX3_above_12 rfl (lv_at hl 0 rfl) ?_
    refine va_sld hx hb hZ.2.1.2.1 (Nat.lt_of_lt_of_le hZ.2.1.2.2 hZ.1) (fun q => absurd (hAb _ q) (Nat.not_le.mpr hZ.2.1.2.2)) hS (zi_in (by decide) (by decide)) dX3_above_13 ?_
    refine lv_topi (fun x_2 ex_2 => ?_)
    obtain rfl : x_2 = 0 := ex_2.trans (by rw [h_z.1]; first | rfl | decide)
    refine lv_goto (tgt := 18) hx hb dX3_above_14 (by decide) ?_
    exact wr_i (v := 0) hx hb hr hlocks hS () (by exact rfl) (hP.sub [] rfl) (hD.sub [] (by decide) rfl) dX3_above_18
  · subst e_1
    have f_1 : ¬ ((0 : Int) ≤ (1 : Int) ∧ (1 : Int) ≤ (5 : Int)) := f_1
    exfalso; omega
set_option maxHeartbeats 4000000 in
set_option maxRecDepth 100000 in
theorem z_X3_above_2 (l : Launch) (D : va_G) (cI cB cQ : ClassId) (z : ZT) (sz : Nat) (h_z : ZV z) : miz l yX3_above wsX3_above ({ frames := 1, cells := 0, slots := 0, locals := 22 }) z D cI cB cQ [.int 2] sz [] (fun (r : Int32) (_u : Unit) => (r = 1)) (fun _ => []) 0 0 := by
  refine wm_z (cc := cX3_above) (maxL := 1) (ret := (some .int)) (by decide) rfl (Nat.le_of_ble_eq_true rfl) ?_
  intro p e s m below meth c A ls hZ hAb hx hb hr hml hown hts hlocks hin hP hK hD hN hA hl hS
  have hown : s.vm.findClass RX3 = some m.cls := hown
  have hl : lv_has ls 1 [(0, .int 2)] := hl
  change W p l e ({ frames := 1, cells := 0, slots := 0, locals := 22 }) s m ([.int 2] : List Value).toArray below meth c s.heap [] 0 0 (MQ below (va_Qi (fun (r : Int32) (_u : Unit) => (r = 1)) (fun u t => wb D A ((fun _ => []) u) t) A) ([.int 2] : List Value).toArray s 0 0 A) (F0 m 0 ls [])
  refine lv_iconst (v := 0) hx hb dX3_above_0 (by decide) ?_
  refine lv_iload_n hx hb dX3_above_1 rfl (lv_at hl 0 rfl) ?_
  refine lv_iconst (v := 5) hx hb dX3_above_2 (by decide) ?_
  have k_1 := (g_X7_isFrom l D cI cB cQ s.heap.size 0 2 5)
  refine wc_i (WC := []) (WR := []) (va_runSN (As := [.int 0, .int 2, .int 5]) (rest := []) ⟨hx, hb, hml, hown, hts⟩ k_1 (⟨va_cnB 3 hts gX3_above_X7_isFrom_n9 rfl rfl rfl hN.2.2.2.2.2.2.2.2.1 (hts (.initialized RX7) (List.mem_of_getElem? (i := 3) rfl)) (by decide +kernel) ⟨Nat.le_of_ble_eq_true rfl, Nat.le_of_ble_eq_true rfl⟩, (hts (.static yX7_isFrom) (List.mem_of_getElem? (i := 2) rfl)), trivial⟩) (wp_S hP hK hD hN [] (by decide) rfl) rfl rfl hl.1 rfl (lv_room (Nat.le_of_ble_eq_true rfl)) dX3_above_3 ⟨Nat.le_of_ble_eq_true rfl, Nat.le_of_ble_eq_true rfl⟩) hP hD hS hA [] [] rfl rfl (by decide) (by decide) (fun r_1 u_1 H locs hw_1 hP hD hS => ?_)
  clear k_1
  have hP : va_P D kl [] H := hP
  have hD : va_D A [] := hD
  have c1_0 := hw_1
  rcases c1_0 with ⟨e_1, f_1⟩ | ⟨e_1, f_1⟩
  · subst e_1
    have f_1 : (0 : Int) ≤ (2 : Int) ∧ (2 : Int) ≤ (5 : Int) := f_1
    refine lv_if_eq (tgt := 17) hx hb dX3_above_6 (by decide) (fun c9 => absurd c9 (by decide)) (fun _ => ?_)
    refine va_gets (v := .ref z.2.1) hx hb (va_Z.narrow hZ.2.1.1 hAb) hS hown (hts (.fieldLink RX3 13 "WinterWalk$Kinds" "ABOVE" "[I") (List.mem_of_getElem? (i := 1) rfl)) (fun _ h => h) dX3_above_9 ?_
    refine lv_iload_n hx hb dX3_above_12 rfl (lv_at hl 0 rfl) ?_
    refine va_sld hx hb hZ.2.1.2.1 (Nat.lt_of_lt_of_le hZ.2.1.2.2 hZ.1) (fun q => absurd (hAb _ q) (Nat.not_le.mpr hZ.2.1.2.2)) hS (zi_in (by decide) (by decide)) dX3_above_13 ?_
    refine lv_topi (fun x_2 ex_2 => ?_)
    obtain rfl : x_2 = 1 := ex_2.trans (by rw [h_z.1]; first | rfl | decide)
    refine lv_goto (tgt := 18) hx hb dX3_above_14 (by decide) ?_
    exact wr_i (v := 1) hx hb hr hlocks hS () (by exact rfl) (hP.sub [] rfl) (hD.sub [] (by decide) rfl) dX3_above_18
  · subst e_1
    have f_1 : ¬ ((0 : Int) ≤ (2 : Int) ∧ (2 : Int) ≤ (5 : Int)) := f_1
    exfalso; omega
set_option maxHeartbeats 4000000 in
set_option maxRecDepth 100000 in
theorem z_X3_above_3 (l : Launch) (D : va_G) (cI cB cQ : ClassId) (z : ZT) (sz : Nat) (h_z : ZV z) : miz l yX3_above wsX3_above ({ frames := 1, cells := 0, slots := 0, locals := 22 }) z D cI cB cQ [.int 3] sz [] (fun (r : Int32) (_u : Unit) => (r = 1)) (fun _ => []) 0 0 := by
  refine wm_z (cc := cX3_above) (maxL := 1) (ret := (some .int)) (by decide) rfl (Nat.le_of_ble_eq_true rfl) ?_
  intro p e s m below meth c A ls hZ hAb hx hb hr hml hown hts hlocks hin hP hK hD hN hA hl hS
  have hown : s.vm.findClass RX3 = some m.cls := hown
  have hl : lv_has ls 1 [(0, .int 3)] := hl
  change W p l e ({ frames := 1, cells := 0, slots := 0, locals := 22 }) s m ([.int 3] : List Value).toArray below meth c s.heap [] 0 0 (MQ below (va_Qi (fun (r : Int32) (_u : Unit) => (r = 1)) (fun u t => wb D A ((fun _ => []) u) t) A) ([.int 3] : List Value).toArray s 0 0 A) (F0 m 0 ls [])
  refine lv_iconst (v := 0) hx hb dX3_above_0 (by decide) ?_
  refine lv_iload_n hx hb dX3_above_1 rfl (lv_at hl 0 rfl) ?_
  refine lv_iconst (v := 5) hx hb dX3_above_2 (by decide) ?_
  have k_1 := (g_X7_isFrom l D cI cB cQ s.heap.size 0 3 5)
  refine wc_i (WC := []) (WR := []) (va_runSN (As := [.int 0, .int 3, .int 5]) (rest := []) ⟨hx, hb, hml, hown, hts⟩ k_1 (⟨va_cnB 3 hts gX3_above_X7_isFrom_n9 rfl rfl rfl hN.2.2.2.2.2.2.2.2.1 (hts (.initialized RX7) (List.mem_of_getElem? (i := 3) rfl)) (by decide +kernel) ⟨Nat.le_of_ble_eq_true rfl, Nat.le_of_ble_eq_true rfl⟩, (hts (.static yX7_isFrom) (List.mem_of_getElem? (i := 2) rfl)), trivial⟩) (wp_S hP hK hD hN [] (by decide) rfl) rfl rfl hl.1 rfl (lv_room (Nat.le_of_ble_eq_true rfl)) dX3_above_3 ⟨Nat.le_of_ble_eq_true rfl, Nat.le_of_ble_eq_true rfl⟩) hP hD hS hA [] [] rfl rfl (by decide) (by decide) (fun r_1 u_1 H locs hw_1 hP hD hS => ?_)
  clear k_1
  have hP : va_P D kl [] H := hP
  have hD : va_D A [] := hD
  have c1_0 := hw_1
  rcases c1_0 with ⟨e_1, f_1⟩ | ⟨e_1, f_1⟩
  · subst e_1
    have f_1 : (0 : Int) ≤ (3 : Int) ∧ (3 : Int) ≤ (5 : Int) := f_1
    refine lv_if_eq (tgt := 17) hx hb dX3_above_6 (by decide) (fun c9 => absurd c9 (by decide)) (fun _ => ?_)
    refine va_gets (v := .ref z.2.1) hx hb (va_Z.narrow hZ.2.1.1 hAb) hS hown (hts (.fieldLink RX3 13 "WinterWalk$Kinds" "ABOVE" "[I") (List.mem_of_getElem? (i := 1) rfl)) (fun _ h => h) dX3_above_9 ?_
    refine lv_iload_n hx hb dX3_above_12 rfl (lv_at hl 0 rfl) ?_
    refine va_sld hx hb hZ.2.1.2.1 (Nat.lt_of_lt_of_le hZ.2.1.2.2 hZ.1) (fun q => absurd (hAb _ q) (Nat.not_le.mpr hZ.2.1.2.2)) hS (zi_in (by decide) (by decide)) dX3_above_13 ?_
    refine lv_topi (fun x_2 ex_2 => ?_)
    obtain rfl : x_2 = 1 := ex_2.trans (by rw [h_z.1]; first | rfl | decide)
    refine lv_goto (tgt := 18) hx hb dX3_above_14 (by decide) ?_
    exact wr_i (v := 1) hx hb hr hlocks hS () (by exact rfl) (hP.sub [] rfl) (hD.sub [] (by decide) rfl) dX3_above_18
  · subst e_1
    have f_1 : ¬ ((0 : Int) ≤ (3 : Int) ∧ (3 : Int) ≤ (5 : Int)) := f_1
    exfalso; omega
set_option maxHeartbeats 4000000 in
set_option maxRecDepth 100000 in
theorem z_X3_above_4 (l : Launch) (D : va_G) (cI cB cQ : ClassId) (z : ZT) (sz : Nat) (h_z : ZV z) : miz l yX3_above wsX3_above ({ frames := 1, cells := 0, slots := 0, locals := 22 }) z D cI cB cQ [.int 4] sz [] (fun (r : Int32) (_u : Unit) => (r = 0)) (fun _ => []) 0 0 := by
  refine wm_z (cc := cX3_above) (maxL := 1) (ret := (some .int)) (by decide) rfl (Nat.le_of_ble_eq_true rfl) ?_
  intro p e s m below meth c A ls hZ hAb hx hb hr hml hown hts hlocks hin hP hK hD hN hA hl hS
  have hown : s.vm.findClass RX3 = some m.cls := hown
  have hl : lv_has ls 1 [(0, .int 4)] := hl
  change W p l e ({ frames := 1, cells := 0, slots := 0, locals := 22 }) s m ([.int 4] : List Value).toArray below meth c s.heap [] 0 0 (MQ below (va_Qi (fun (r : Int32) (_u : Unit) => (r = 0)) (fun u t => wb D A ((fun _ => []) u) t) A) ([.int 4] : List Value).toArray s 0 0 A) (F0 m 0 ls [])
  refine lv_iconst (v := 0) hx hb dX3_above_0 (by decide) ?_
  refine lv_iload_n hx hb dX3_above_1 rfl (lv_at hl 0 rfl) ?_
  refine lv_iconst (v := 5) hx hb dX3_above_2 (by decide) ?_
  have k_1 := (g_X7_isFrom l D cI cB cQ s.heap.size 0 4 5)
  refine wc_i (WC := []) (WR := []) (va_runSN (As := [.int 0, .int 4, .int 5]) (rest := []) ⟨hx, hb, hml, hown, hts⟩ k_1 (⟨va_cnB 3 hts gX3_above_X7_isFrom_n9 rfl rfl rfl hN.2.2.2.2.2.2.2.2.1 (hts (.initialized RX7) (List.mem_of_getElem? (i := 3) rfl)) (by decide +kernel) ⟨Nat.le_of_ble_eq_true rfl, Nat.le_of_ble_eq_true rfl⟩, (hts (.static yX7_isFrom) (List.mem_of_getElem? (i := 2) rfl)), trivial⟩) (wp_S hP hK hD hN [] (by decide) rfl) rfl rfl hl.1 rfl (lv_room (Nat.le_of_ble_eq_true rfl)) dX3_above_3 ⟨Nat.le_of_ble_eq_true rfl, Nat.le_of_ble_eq_true rfl⟩) hP hD hS hA [] [] rfl rfl (by decide) (by decide) (fun r_1 u_1 H locs hw_1 hP hD hS => ?_)
  clear k_1
  have hP : va_P D kl [] H := hP
  have hD : va_D A [] := hD
  have c1_0 := hw_1
  rcases c1_0 with ⟨e_1, f_1⟩ | ⟨e_1, f_1⟩
  · subst e_1
    have f_1 : (0 : Int) ≤ (4 : Int) ∧ (4 : Int) ≤ (5 : Int) := f_1
    refine lv_if_eq (tgt := 17) hx hb dX3_above_6 (by decide) (fun c9 => absurd c9 (by decide)) (fun _ => ?_)
    refine va_gets (v := .ref z.2.1) hx hb (va_Z.narrow hZ.2.1.1 hAb) hS hown (hts (.fieldLink RX3 13 "WinterWalk$Kinds" "ABOVE" "[I") (List.mem_of_getElem? (i := 1) rfl)) (fun _ h => h) dX3_above_9 ?_
    refine lv_iload_n hx hb dX3_above_12 rfl (lv_at hl 0 rfl) ?_
    refine va_sld hx hb hZ.2.1.2.1 (Nat.lt_of_lt_of_le hZ.2.1.2.2 hZ.1) (fun q => absurd (hAb _ q) (Nat.not_le.mpr hZ.2.1.2.2)) hS (zi_in (by decide) (by decide)) dX3_above_13 ?_
    refine lv_topi (fun x_2 ex_2 => ?_)
    obtain rfl : x_2 = 0 := ex_2.trans (by rw [h_z.1]; first | rfl | decide)
    refine lv_goto (tgt := 18) hx hb dX3_above_14 (by decide) ?_
    exact wr_i (v := 0) hx hb hr hlocks hS () (by exact rfl) (hP.sub [] rfl) (hD.sub [] (by decide) rfl) dX3_above_18
  · subst e_1
    have f_1 : ¬ ((0 : Int) ≤ (4 : Int) ∧ (4 : Int) ≤ (5 : Int)) := f_1
    exfalso; omega
set_option maxHeartbeats 4000000 in
set_option maxRecDepth 100000 in
theorem z_X3_above_5 (l : Launch) (D : va_G) (cI cB cQ : ClassId) (z : ZT) (sz : Nat) (h_z : ZV z) : miz l yX3_above wsX3_above ({ frames := 1, cells := 0, slots := 0, locals := 22 }) z D cI cB cQ [.int 5] sz [] (fun (r : Int32) (_u : Unit) => (r = 4)) (fun _ => []) 0 0 := by
  refine wm_z (cc := cX3_above) (maxL := 1) (ret := (some .int)) (by decide) rfl (Nat.le_of_ble_eq_true rfl) ?_
  intro p e s m below meth c A ls hZ hAb hx hb hr hml hown hts hlocks hin hP hK hD hN hA hl hS
  have hown : s.vm.findClass RX3 = some m.cls := hown
  have hl : lv_has ls 1 [(0, .int 5)] := hl
  change W p l e ({ frames := 1, cells := 0, slots := 0, locals := 22 }) s m ([.int 5] : List Value).toArray below meth c s.heap [] 0 0 (MQ below (va_Qi (fun (r : Int32) (_u : Unit) => (r = 4)) (fun u t => wb D A ((fun _ => []) u) t) A) ([.int 5] : List Value).toArray s 0 0 A) (F0 m 0 ls [])
  refine lv_iconst (v := 0) hx hb dX3_above_0 (by decide) ?_
  refine lv_iload_n hx hb dX3_above_1 rfl (lv_at hl 0 rfl) ?_
  refine lv_iconst (v := 5) hx hb dX3_above_2 (by decide) ?_
  have k_1 := (g_X7_isFrom l D cI cB cQ s.heap.size 0 5 5)
  refine wc_i (WC := []) (WR := []) (va_runSN (As := [.int 0, .int 5, .int 5]) (rest := []) ⟨hx, hb, hml, hown, hts⟩ k_1 (⟨va_cnB 3 hts gX3_above_X7_isFrom_n9 rfl rfl rfl hN.2.2.2.2.2.2.2.2.1 (hts (.initialized RX7) (List.mem_of_getElem? (i := 3) rfl)) (by decide +kernel) ⟨Nat.le_of_ble_eq_true rfl, Nat.le_of_ble_eq_true rfl⟩, (hts (.static yX7_isFrom) (List.mem_of_getElem? (i := 2) rfl)), trivial⟩) (wp_S hP hK hD hN [] (by decide) rfl) rfl rfl hl.1 rfl (lv_room (Nat.le_of_ble_eq_true rfl)) dX3_above_3 ⟨Nat.le_of_ble_eq_true rfl, Nat.le_of_ble_eq_true rfl⟩) hP hD hS hA [] [] rfl rfl (by decide) (by decide) (fun r_1 u_1 H locs hw_1 hP hD hS => ?_)
  clear k_1
  have hP : va_P D kl [] H := hP
  have hD : va_D A [] := hD
  have c1_0 := hw_1
  rcases c1_0 with ⟨e_1, f_1⟩ | ⟨e_1, f_1⟩
  · subst e_1
    have f_1 : (0 : Int) ≤ (5 : Int) ∧ (5 : Int) ≤ (5 : Int) := f_1
    refine lv_if_eq (tgt := 17) hx hb dX3_above_6 (by decide) (fun c9 => absurd c9 (by decide)) (fun _ => ?_)
    refine va_gets (v := .ref z.2.1) hx hb (va_Z.narrow hZ.2.1.1 hAb) hS hown (hts (.fieldLink RX3 13 "WinterWalk$Kinds" "ABOVE" "[I") (List.mem_of_getElem? (i := 1) rfl)) (fun _ h => h) dX3_above_9 ?_
    refine lv_iload_n hx hb dX3_above_12 rfl (lv_at hl 0 rfl) ?_
    refine va_sld hx hb hZ.2.1.2.1 (Nat.lt_of_lt_of_le hZ.2.1.2.2 hZ.1) (fun q => absurd (hAb _ q) (Nat.not_le.mpr hZ.2.1.2.2)) hS (zi_in (by decide) (by decide)) dX3_above_13 ?_
    refine lv_topi (fun x_2 ex_2 => ?_)
    obtain rfl : x_2 = 4 := ex_2.trans (by rw [h_z.1]; first | rfl | decide)
    refine lv_goto (tgt := 18) hx hb dX3_above_14 (by decide) ?_
    exact wr_i (v := 4) hx hb hr hlocks hS () (by exact rfl) (hP.sub [] rfl) (hD.sub [] (by decide) rfl) dX3_above_18
  · subst e_1
    have f_1 : ¬ ((0 : Int) ≤ (5 : Int) ∧ (5 : Int) ≤ (5 : Int)) := f_1
    exfalso; omega
set_option maxHeartbeats 4000000 in
set_option maxRecDepth 100000 in
theorem z_X3_isOf_1 (l : Launch) (D : va_G) (cI cB cQ : ClassId) (z : ZT) (sz : Nat) (b : Int32) (h_b : 0 ≤ b.toInt ∧ b.toInt ≤ 5) (h_z : ZV z) : miz l yX3_isOf wsX3_isOf ({ frames := 2, cells := 0, slots := 0, locals := 42 }) z D cI cB cQ [.int 1, .int b] sz [] (fun (r : Int32) (_u : Unit) => ((r = 1 ∧ (b.toInt = 1 ∨ b.toInt = 0)) ∨ (r = 0 ∧ ¬ (b.toInt = 1 ∨ b.toInt = 0)))) (fun _ => []) 0 0 := by
  refine wm_z (cc := cX3_isOf) (maxL := 4) (ret := (some .boolean)) (by decide) rfl (Nat.le_of_ble_eq_true rfl) ?_
  intro p e s m below meth c A ls hZ hAb hx hb hr hml hown hts hlocks hin hP hK hD hN hA hl hS
  have hown : s.vm.findClass RX3 = some m.cls := hown
  have hl : lv_has ls 4 [(0, .int 1), (1, .int b)] := hl
  change W p l e ({ frames := 2, cells := 0, slots := 0, locals := 42 }) s m ([.int 1, .int b] : List Value).toArray below meth c s.heap [] 0 0 (MQ below (va_Qi (fun (r : Int32) (_u : Unit) => ((r = 1 ∧ (b.toInt = 1 ∨ b.toInt = 0)) ∨ (r = 0 ∧ ¬ (b.toInt = 1 ∨ b.toInt = 0)))) (fun u t => wb D A ((fun _ => []) u) t) A) ([.int 1, .int b] : List Value).toArray s 0 0 A) (F0 m 0 ls [])
  refine lv_iload_n hx hb dX3_isOf_0 rfl (lv_at hl 0 rfl) ?_
  refine lv_istore_n (lv' := [(2, .int 1), (0, .int 1), (1, .int b)]) hx hb dX3_isOf_1 rfl hl (by decide) rfl (fun ls hl => ?_)
  refine lv_iconst (v := 0) hx hb dX3_isOf_2 (by decide) ?_
  refine lv_istore_n (lv' := [(3, .int 0), (2, .int 1), (0, .int 1), (1, .int b)]) hx hb dX3_isOf_3 rfl hl (by decide) rfl (fun ls hl => ?_)
  refine lv_iload_n hx hb dX3_isOf_4 rfl (lv_at hl 0 rfl) ?_
  refine lv_iconst (v := 5) hx hb dX3_isOf_5 (by decide) ?_
  refine lv_icmp_gt (tgt := 32) hx hb dX3_isOf_6 (by decide) (fun c9 => absurd c9 (by decide)) (fun _ => ?_)
  refine lv_iload_n hx hb dX3_isOf_9 rfl (lv_at hl 1 rfl) ?_
  refine lv_iconst (v := (-1)) hx hb dX3_isOf_10 (by decide) ?_
  refine lv_icmp_eq (tgt := 32) hx hb dX3_isOf_11 (by decide) (fun c9 => absurd c9 (by decide)) (fun _ => ?_)
  refine lv_iload_n hx hb dX3_isOf_14 rfl (lv_at hl 1 rfl) ?_
  refine lv_iload_n hx hb dX3_isOf_15 rfl (lv_at hl 3 rfl) ?_
  refine lv_icmp_ne (tgt := 21) hx hb dX3_isOf_16 (by decide) (fun c_1 => ?_) (fun c_1 => ?_)
  · have f_1 : ¬ 1 = b.toInt := zi_ne c_1
    refine lv_iload_n hx hb dX3_isOf_21 rfl (lv_at hl 1 rfl) ?_
    have k_2 := (z_X3_above_1 l D cI cB cQ z s.heap.size (h_z))
    refine wc_i (WC := []) (WR := []) (va_runS (As := [.int 1]) (rest := []) ⟨hx, hb, hml, hown, hts⟩ k_2 (va_cwS 1 hts gX3_isOf_X3_above rfl rfl rfl (by decide +kernel) ⟨Nat.le_of_ble_eq_true rfl, Nat.le_of_ble_eq_true rfl⟩) (wpz_S hZ hS hAb hP hK hD hN [] (by decide) rfl) rfl rfl hl.1 rfl (lv_room (Nat.le_of_ble_eq_true rfl)) dX3_isOf_22 ⟨Nat.le_of_ble_eq_true rfl, Nat.le_of_ble_eq_true rfl⟩) hP hD hS hA [] [] rfl rfl (by decide) (by decide) (fun r_2 u_2 H locs hw_2 hP hD hS => ?_)
    clear k_2
    have hP : va_P D kl [] H := hP
    have hD : va_D A [] := hD
    have c2_0 := hw_2
    obtain rfl : r_2 = 0 := by first | exact c2_0 | exact c2_0.trans (by decide)
    refine lv_istore_n (lv' := [(2, .int 0), (3, .int 0), (0, .int 1), (1, .int b)]) hx hb dX3_isOf_25 rfl hl (by decide) rfl (fun ls hl => ?_)
    refine lv_iinc (v := 1) (lv' := [(3, .int 1), (2, .int 0), (0, .int 1), (1, .int b)]) hx hb dX3_isOf_26 hl (k := 1) rfl (by decide) (by decide) rfl (fun ls hl => ?_)
    refine lv_goto (tgt := 4) hx hb dX3_isOf_29 (by decide) ?_
    refine lv_iload_n hx hb dX3_isOf_4 rfl (lv_at hl 0 rfl) ?_
    refine lv_iconst (v := 5) hx hb dX3_isOf_5 (by decide) ?_
    refine lv_icmp_gt (tgt := 32) hx hb dX3_isOf_6 (by decide) (fun c9 => absurd c9 (by decide)) (fun _ => ?_)
    refine lv_iload_n hx hb dX3_isOf_9 rfl (lv_at hl 1 rfl) ?_
    refine lv_iconst (v := (-1)) hx hb dX3_isOf_10 (by decide) ?_
    refine lv_icmp_eq (tgt := 32) hx hb dX3_isOf_11 (by decide) (fun c9 => absurd c9 (by decide)) (fun _ => ?_)
    refine lv_iload_n hx hb dX3_isOf_14 rfl (lv_at hl 1 rfl) ?_
    refine lv_iload_n hx hb dX3_isOf_15 rfl (lv_at hl 3 rfl) ?_
    refine lv_icmp_ne (tgt := 21) hx hb dX3_isOf_16 (by decide) (fun c_3 => ?_) (fun c_3 => ?_)
    · have f_3 : ¬ 0 = b.toInt := zi_ne c_3
      refine lv_iload_n hx hb dX3_isOf_21 rfl (lv_at hl 1 rfl) ?_
      have k_4 := (z_X3_above_0 l D cI cB cQ z H.size (h_z))
      refine wc_i (WC := []) (WR := []) (va_runS (As := [.int 0]) (rest := []) ⟨hx, hb, hml, hown, hts⟩ k_4 (va_cwS 1 hts gX3_isOf_X3_above rfl rfl rfl (by decide +kernel) ⟨Nat.le_of_ble_eq_true rfl, Nat.le_of_ble_eq_true rfl⟩) (wpz_S hZ hS hAb hP hK hD hN [] (by decide) rfl) rfl rfl hl.1 rfl (lv_room (Nat.le_of_ble_eq_true rfl)) dX3_isOf_22 ⟨Nat.le_of_ble_eq_true rfl, Nat.le_of_ble_eq_true rfl⟩) hP hD hS hA [] [] rfl rfl (by decide) (by decide) (fun r_4 u_4 H locs hw_4 hP hD hS => ?_)
      clear k_4
      have hP : va_P D kl [] H := hP
      have hD : va_D A [] := hD
      have c4_0 := hw_4
      obtain rfl : r_4 = (-1) := by first | exact c4_0 | exact c4_0.trans (by decide)
      refine lv_istore_n (lv' := [(2, .int (-1)), (3, .int 1), (0, .int 1), (1, .int b)]) hx hb dX3_isOf_25 rfl hl (by decide) rfl (fun ls hl => ?_)
      refine lv_iinc (v := 2) (lv' := [(3, .int 2), (2, .int (-1)), (0, .int 1), (1, .int b)]) hx hb dX3_isOf_26 hl (k := 1) rfl (by decide) (by decide) rfl (fun ls hl => ?_)
      refine lv_goto (tgt := 4) hx hb dX3_isOf_29 (by decide) ?_
      refine lv_iload_n hx hb dX3_isOf_4 rfl (lv_at hl 0 rfl) ?_
      refine lv_iconst (v := 5) hx hb dX3_isOf_5 (by decide) ?_
      refine lv_icmp_gt (tgt := 32) hx hb dX3_isOf_6 (by decide) (fun c9 => absurd c9 (by decide)) (fun _ => ?_)
      refine lv_iload_n hx hb dX3_isOf_9 rfl (lv_at hl 1 rfl) ?_
      refine lv_iconst (v := (-1)) hx hb dX3_isOf_10 (by decide) ?_
      refine lv_icmp_eq (tgt := 32) hx hb dX3_isOf_11 (by decide) (fun _ => ?_) (fun c9 => absurd (by decide) c9)
      refine lv_iconst (v := 0) hx hb dX3_isOf_32 (by decide) ?_
      exact wr_z (v := 0) hx hb hr hlocks hS () (by exact Or.inr (⟨rfl, show ¬ (b.toInt = 1 ∨ b.toInt = 0) from by omega⟩)) (hP.sub [] rfl) (hD.sub [] (by decide) rfl) dX3_isOf_33 rfl
    · have f_3 : 0 = b.toInt := zi_eq c_3
      refine lv_iconst (v := 1) hx hb dX3_isOf_19 (by decide) ?_
      exact wr_z (v := 1) hx hb hr hlocks hS () (by exact Or.inl ⟨rfl, show (b.toInt = 1 ∨ b.toInt = 0) from by omega⟩) (hP.sub [] rfl) (hD.sub [] (by decide) rfl) dX3_isOf_20 rfl
  · have f_1 : 1 = b.toInt := zi_eq c_1
    refine lv_iconst (v := 1) hx hb dX3_isOf_19 (by decide) ?_
    exact wr_z (v := 1) hx hb hr hlocks hS () (by exact Or.inl ⟨rfl, show (b.toInt = 1 ∨ b.toInt = 0) from by omega⟩) (hP.sub [] rfl) (hD.sub [] (by decide) rfl) dX3_isOf_20 rfl
set_option maxHeartbeats 4000000 in
set_option maxRecDepth 100000 in
theorem z_X3_isOf_2 (l : Launch) (D : va_G) (cI cB cQ : ClassId) (z : ZT) (sz : Nat) (b : Int32) (h_b : 0 ≤ b.toInt ∧ b.toInt ≤ 5) (h_z : ZV z) : miz l yX3_isOf wsX3_isOf ({ frames := 2, cells := 0, slots := 0, locals := 42 }) z D cI cB cQ [.int 2, .int b] sz [] (fun (r : Int32) (_u : Unit) => ((r = 1 ∧ (b.toInt = 2 ∨ b.toInt = 1 ∨ b.toInt = 0)) ∨ (r = 0 ∧ ¬ (b.toInt = 2 ∨ b.toInt = 1 ∨ b.toInt = 0)))) (fun _ => []) 0 0 := by
  refine wm_z (cc := cX3_isOf) (maxL := 4) (ret := (some .boolean)) (by decide) rfl (Nat.le_of_ble_eq_true rfl) ?_
  intro p e s m below meth c A ls hZ hAb hx hb hr hml hown hts hlocks hin hP hK hD hN hA hl hS
  have hown : s.vm.findClass RX3 = some m.cls := hown
  have hl : lv_has ls 4 [(0, .int 2), (1, .int b)] := hl
  change W p l e ({ frames := 2, cells := 0, slots := 0, locals := 42 }) s m ([.int 2, .int b] : List Value).toArray below meth c s.heap [] 0 0 (MQ below (va_Qi (fun (r : Int32) (_u : Unit) => ((r = 1 ∧ (b.toInt = 2 ∨ b.toInt = 1 ∨ b.toInt = 0)) ∨ (r = 0 ∧ ¬ (b.toInt = 2 ∨ b.toInt = 1 ∨ b.toInt = 0)))) (fun u t => wb D A ((fun _ => []) u) t) A) ([.int 2, .int b] : List Value).toArray s 0 0 A) (F0 m 0 ls [])
  refine lv_iload_n hx hb dX3_isOf_0 rfl (lv_at hl 0 rfl) ?_
  refine lv_istore_n (lv' := [(2, .int 2), (0, .int 2), (1, .int b)]) hx hb dX3_isOf_1 rfl hl (by decide) rfl (fun ls hl => ?_)
  refine lv_iconst (v := 0) hx hb dX3_isOf_2 (by decide) ?_
  refine lv_istore_n (lv' := [(3, .int 0), (2, .int 2), (0, .int 2), (1, .int b)]) hx hb dX3_isOf_3 rfl hl (by decide) rfl (fun ls hl => ?_)
  refine lv_iload_n hx hb dX3_isOf_4 rfl (lv_at hl 0 rfl) ?_
  refine lv_iconst (v := 5) hx hb dX3_isOf_5 (by decide) ?_
  refine lv_icmp_gt (tgt := 32) hx hb dX3_isOf_6 (by decide) (fun c9 => absurd c9 (by decide)) (fun _ => ?_)
  refine lv_iload_n hx hb dX3_isOf_9 rfl (lv_at hl 1 rfl) ?_
  refine lv_iconst (v := (-1)) hx hb dX3_isOf_10 (by decide) ?_
  refine lv_icmp_eq (tgt := 32) hx hb dX3_isOf_11 (by decide) (fun c9 => absurd c9 (by decide)) (fun _ => ?_)
  refine lv_iload_n hx hb dX3_isOf_14 rfl (lv_at hl 1 rfl) ?_
  refine lv_iload_n hx hb dX3_isOf_15 rfl (lv_at hl 3 rfl) ?_
  refine lv_icmp_ne (tgt := 21) hx hb dX3_isOf_16 (by decide) (fun c_1 => ?_) (fun c_1 => ?_)
  · have f_1 : ¬ 2 = b.toInt := zi_ne c_1
    refine lv_iload_n hx hb dX3_isOf_21 rfl (lv_at hl 1 rfl) ?_
    have k_2 := (z_X3_above_2 l D cI cB cQ z s.heap.size (h_z))
    refine wc_i (WC := []) (WR := []) (va_runS (As := [.int 2]) (rest := []) ⟨hx, hb, hml, hown, hts⟩ k_2 (va_cwS 1 hts gX3_isOf_X3_above rfl rfl rfl (by decide +kernel) ⟨Nat.le_of_ble_eq_true rfl, Nat.le_of_ble_eq_true rfl⟩) (wpz_S hZ hS hAb hP hK hD hN [] (by decide) rfl) rfl rfl hl.1 rfl (lv_room (Nat.le_of_ble_eq_true rfl)) dX3_isOf_22 ⟨Nat.le_of_ble_eq_true rfl, Nat.le_of_ble_eq_true rfl⟩) hP hD hS hA [] [] rfl rfl (by decide) (by decide) (fun r_2 u_2 H locs hw_2 hP hD hS => ?_)
    clear k_2
    have hP : va_P D kl [] H := hP
    have hD : va_D A [] := hD
    have c2_0 := hw_2
    obtain rfl : r_2 = 1 := by first | exact c2_0 | exact c2_0.trans (by decide)
    refine lv_istore_n (lv' := [(2, .int 1), (3, .int 0), (0, .int 2), (1, .int b)]) hx hb dX3_isOf_25 rfl hl (by decide) rfl (fun ls hl => ?_)
    refine lv_iinc (v := 1) (lv' := [(3, .int 1), (2, .int 1), (0, .int 2), (1, .int b)]) hx hb dX3_isOf_26 hl (k := 1) rfl (by decide) (by decide) rfl (fun ls hl => ?_)
    refine lv_goto (tgt := 4) hx hb dX3_isOf_29 (by decide) ?_
    refine lv_iload_n hx hb dX3_isOf_4 rfl (lv_at hl 0 rfl) ?_
    refine lv_iconst (v := 5) hx hb dX3_isOf_5 (by decide) ?_
    refine lv_icmp_gt (tgt := 32) hx hb dX3_isOf_6 (by decide) (fun c9 => absurd c9 (by decide)) (fun _ => ?_)
    refine lv_iload_n hx hb dX3_isOf_9 rfl (lv_at hl 1 rfl) ?_
    refine lv_iconst (v := (-1)) hx hb dX3_isOf_10 (by decide) ?_
    refine lv_icmp_eq (tgt := 32) hx hb dX3_isOf_11 (by decide) (fun c9 => absurd c9 (by decide)) (fun _ => ?_)
    refine lv_iload_n hx hb dX3_isOf_14 rfl (lv_at hl 1 rfl) ?_
    refine lv_iload_n hx hb dX3_isOf_15 rfl (lv_at hl 3 rfl) ?_
    refine lv_icmp_ne (tgt := 21) hx hb dX3_isOf_16 (by decide) (fun c_3 => ?_) (fun c_3 => ?_)
    · have f_3 : ¬ 1 = b.toInt := zi_ne c_3
      refine lv_iload_n hx hb dX3_isOf_21 rfl (lv_at hl 1 rfl) ?_
      have k_4 := (z_X3_above_1 l D cI cB cQ z H.size (h_z))
      refine wc_i (WC := []) (WR := []) (va_runS (As := [.int 1]) (rest := []) ⟨hx, hb, hml, hown, hts⟩ k_4 (va_cwS 1 hts gX3_isOf_X3_above rfl rfl rfl (by decide +kernel) ⟨Nat.le_of_ble_eq_true rfl, Nat.le_of_ble_eq_true rfl⟩) (wpz_S hZ hS hAb hP hK hD hN [] (by decide) rfl) rfl rfl hl.1 rfl (lv_room (Nat.le_of_ble_eq_true rfl)) dX3_isOf_22 ⟨Nat.le_of_ble_eq_true rfl, Nat.le_of_ble_eq_true rfl⟩) hP hD hS hA [] [] rfl rfl (by decide) (by decide) (fun r_4 u_4 H locs hw_4 hP hD hS => ?_)
      clear k_4
      have hP : va_P D kl [] H := hP
      have hD : va_D A [] := hD
      have c4_0 := hw_4
      obtain rfl : r_4 = 0 := by first | exact c4_0 | exact c4_0.trans (by decide)
      refine lv_istore_n (lv' := [(2, .int 0), (3, .int 1), (0, .int 2), (1, .int b)]) hx hb dX3_isOf_25 rfl hl (by decide) rfl (fun ls hl => ?_)
      refine lv_iinc (v := 2) (lv' := [(3, .int 2), (2, .int 0), (0, .int 2), (1, .int b)]) hx hb dX3_isOf_26 hl (k := 1) rfl (by decide) (by decide) rfl (fun ls hl => ?_)
      refine lv_goto (tgt := 4) hx hb dX3_isOf_29 (by decide) ?_
      refine lv_iload_n hx hb dX3_isOf_4 rfl (lv_at hl 0 rfl) ?_
      refine lv_iconst (v := 5) hx hb dX3_isOf_5 (by decide) ?_
      refine lv_icmp_gt (tgt := 32) hx hb dX3_isOf_6 (by decide) (fun c9 => absurd c9 (by decide)) (fun _ => ?_)
      refine lv_iload_n hx hb dX3_isOf_9 rfl (lv_at hl 1 rfl) ?_
      refine lv_iconst (v := (-1)) hx hb dX3_isOf_10 (by decide) ?_
      refine lv_icmp_eq (tgt := 32) hx hb dX3_isOf_11 (by decide) (fun c9 => absurd c9 (by decide)) (fun _ => ?_)
      refine lv_iload_n hx hb dX3_isOf_14 rfl (lv_at hl 1 rfl) ?_
      refine lv_iload_n hx hb dX3_isOf_15 rfl (lv_at hl 3 rfl) ?_
      refine lv_icmp_ne (tgt := 21) hx hb dX3_isOf_16 (by decide) (fun c_5 => ?_) (fun c_5 => ?_)
      · have f_5 : ¬ 0 = b.toInt := zi_ne c_5
        refine lv_iload_n hx hb dX3_isOf_21 rfl (lv_at hl 1 rfl) ?_
        have k_6 := (z_X3_above_0 l D cI cB cQ z H.size (h_z))
        refine wc_i (WC := []) (WR := []) (va_runS (As := [.int 0]) (rest := []) ⟨hx, hb, hml, hown, hts⟩ k_6 (va_cwS 1 hts gX3_isOf_X3_above rfl rfl rfl (by decide +kernel) ⟨Nat.le_of_ble_eq_true rfl, Nat.le_of_ble_eq_true rfl⟩) (wpz_S hZ hS hAb hP hK hD hN [] (by decide) rfl) rfl rfl hl.1 rfl (lv_room (Nat.le_of_ble_eq_true rfl)) dX3_isOf_22 ⟨Nat.le_of_ble_eq_true rfl, Nat.le_of_ble_eq_true rfl⟩) hP hD hS hA [] [] rfl rfl (by decide) (by decide) (fun r_6 u_6 H locs hw_6 hP hD hS => ?_)
        clear k_6
        have hP : va_P D kl [] H := hP
        have hD : va_D A [] := hD
        have c6_0 := hw_6
        obtain rfl : r_6 = (-1) := by first | exact c6_0 | exact c6_0.trans (by decide)
        refine lv_istore_n (lv' := [(2, .int (-1)), (3, .int 2), (0, .int 2), (1, .int b)]) hx hb dX3_isOf_25 rfl hl (by decide) rfl (fun ls hl => ?_)
        refine lv_iinc (v := 3) (lv' := [(3, .int 3), (2, .int (-1)), (0, .int 2), (1, .int b)]) hx hb dX3_isOf_26 hl (k := 1) rfl (by decide) (by decide) rfl (fun ls hl => ?_)
        refine lv_goto (tgt := 4) hx hb dX3_isOf_29 (by decide) ?_
        refine lv_iload_n hx hb dX3_isOf_4 rfl (lv_at hl 0 rfl) ?_
        refine lv_iconst (v := 5) hx hb dX3_isOf_5 (by decide) ?_
        refine lv_icmp_gt (tgt := 32) hx hb dX3_isOf_6 (by decide) (fun c9 => absurd c9 (by decide)) (fun _ => ?_)
        refine lv_iload_n hx hb dX3_isOf_9 rfl (lv_at hl 1 rfl) ?_
        refine lv_iconst (v := (-1)) hx hb dX3_isOf_10 (by decide) ?_
        refine lv_icmp_eq (tgt := 32) hx hb dX3_isOf_11 (by decide) (fun _ => ?_) (fun c9 => absurd (by decide) c9)
        refine lv_iconst (v := 0) hx hb dX3_isOf_32 (by decide) ?_
        exact wr_z (v := 0) hx hb hr hlocks hS () (by exact Or.inr (⟨rfl, show ¬ (b.toInt = 2 ∨ b.toInt = 1 ∨ b.toInt = 0) from by omega⟩)) (hP.sub [] rfl) (hD.sub [] (by decide) rfl) dX3_isOf_33 rfl
      · have f_5 : 0 = b.toInt := zi_eq c_5
        refine lv_iconst (v := 1) hx hb dX3_isOf_19 (by decide) ?_
        exact wr_z (v := 1) hx hb hr hlocks hS () (by exact Or.inl ⟨rfl, show (b.toInt = 2 ∨ b.toInt = 1 ∨ b.toInt = 0) from by omega⟩) (hP.sub [] rfl) (hD.sub [] (by decide) rfl) dX3_isOf_20 rfl
    · have f_3 : 1 = b.toInt := zi_eq c_3
      refine lv_iconst (v := 1) hx hb dX3_isOf_19 (by decide) ?_
      exact wr_z (v := 1) hx hb hr hlocks hS () (by exact Or.inl ⟨rfl, show (b.toInt = 2 ∨ b.toInt = 1 ∨ b.toInt = 0) from by omega⟩) (hP.sub [] rfl) (hD.sub [] (by decide) rfl) dX3_isOf_20 rfl
  · have f_1 : 2 = b.toInt := zi_eq c_1
    refine lv_iconst (v := 1) hx hb dX3_isOf_19 (by decide) ?_
    exact wr_z (v := 1) hx hb hr hlocks hS () (by exact Or.inl ⟨rfl, show (b.toInt = 2 ∨ b.toInt = 1 ∨ b.toInt = 0) from by omega⟩) (hP.sub [] rfl) (hD.sub [] (by decide) rfl) dX3_isOf_20 rfl
set_option maxHeartbeats 4000000 in
set_option maxRecDepth 100000 in
theorem z_X3_isOf_3 (l : Launch) (D : va_G) (cI cB cQ : ClassId) (z : ZT) (sz : Nat) (b : Int32) (h_b : 0 ≤ b.toInt ∧ b.toInt ≤ 5) (h_z : ZV z) : miz l yX3_isOf wsX3_isOf ({ frames := 2, cells := 0, slots := 0, locals := 42 }) z D cI cB cQ [.int 3, .int b] sz [] (fun (r : Int32) (_u : Unit) => ((r = 1 ∧ (b.toInt = 3 ∨ b.toInt = 1 ∨ b.toInt = 0)) ∨ (r = 0 ∧ ¬ (b.toInt = 3 ∨ b.toInt = 1 ∨ b.toInt = 0)))) (fun _ => []) 0 0 := by
  refine wm_z (cc := cX3_isOf) (maxL := 4) (ret := (some .boolean)) (by decide) rfl (Nat.le_of_ble_eq_true rfl) ?_
  intro p e s m below meth c A ls hZ hAb hx hb hr hml hown hts hlocks hin hP hK hD hN hA hl hS
  have hown : s.vm.findClass RX3 = some m.cls := hown
  have hl : lv_has ls 4 [(0, .int 3), (1, .int b)] := hl
  change W p l e ({ frames := 2, cells := 0, slots := 0, locals := 42 }) s m ([.int 3, .int b] : List Value).toArray below meth c s.heap [] 0 0 (MQ below (va_Qi (fun (r : Int32) (_u : Unit) => ((r = 1 ∧ (b.toInt = 3 ∨ b.toInt = 1 ∨ b.toInt = 0)) ∨ (r = 0 ∧ ¬ (b.toInt = 3 ∨ b.toInt = 1 ∨ b.toInt = 0)))) (fun u t => wb D A ((fun _ => []) u) t) A) ([.int 3, .int b] : List Value).toArray s 0 0 A) (F0 m 0 ls [])
  refine lv_iload_n hx hb dX3_isOf_0 rfl (lv_at hl 0 rfl) ?_
  refine lv_istore_n (lv' := [(2, .int 3), (0, .int 3), (1, .int b)]) hx hb dX3_isOf_1 rfl hl (by decide) rfl (fun ls hl => ?_)
  refine lv_iconst (v := 0) hx hb dX3_isOf_2 (by decide) ?_
  refine lv_istore_n (lv' := [(3, .int 0), (2, .int 3), (0, .int 3), (1, .int b)]) hx hb dX3_isOf_3 rfl hl (by decide) rfl (fun ls hl => ?_)
  refine lv_iload_n hx hb dX3_isOf_4 rfl (lv_at hl 0 rfl) ?_
  refine lv_iconst (v := 5) hx hb dX3_isOf_5 (by decide) ?_
  refine lv_icmp_gt (tgt := 32) hx hb dX3_isOf_6 (by decide) (fun c9 => absurd c9 (by decide)) (fun _ => ?_)
  refine lv_iload_n hx hb dX3_isOf_9 rfl (lv_at hl 1 rfl) ?_
  refine lv_iconst (v := (-1)) hx hb dX3_isOf_10 (by decide) ?_
  refine lv_icmp_eq (tgt := 32) hx hb dX3_isOf_11 (by decide) (fun c9 => absurd c9 (by decide)) (fun _ => ?_)
  refine lv_iload_n hx hb dX3_isOf_14 rfl (lv_at hl 1 rfl) ?_
  refine lv_iload_n hx hb dX3_isOf_15 rfl (lv_at hl 3 rfl) ?_
  refine lv_icmp_ne (tgt := 21) hx hb dX3_isOf_16 (by decide) (fun c_1 => ?_) (fun c_1 => ?_)
  · have f_1 : ¬ 3 = b.toInt := zi_ne c_1
    refine lv_iload_n hx hb dX3_isOf_21 rfl (lv_at hl 1 rfl) ?_
    have k_2 := (z_X3_above_3 l D cI cB cQ z s.heap.size (h_z))
    refine wc_i (WC := []) (WR := []) (va_runS (As := [.int 3]) (rest := []) ⟨hx, hb, hml, hown, hts⟩ k_2 (va_cwS 1 hts gX3_isOf_X3_above rfl rfl rfl (by decide +kernel) ⟨Nat.le_of_ble_eq_true rfl, Nat.le_of_ble_eq_true rfl⟩) (wpz_S hZ hS hAb hP hK hD hN [] (by decide) rfl) rfl rfl hl.1 rfl (lv_room (Nat.le_of_ble_eq_true rfl)) dX3_isOf_22 ⟨Nat.le_of_ble_eq_true rfl, Nat.le_of_ble_eq_true rfl⟩) hP hD hS hA [] [] rfl rfl (by decide) (by decide) (fun r_2 u_2 H locs hw_2 hP hD hS => ?_)
    clear k_2
    have hP : va_P D kl [] H := hP
    have hD : va_D A [] := hD
    have c2_0 := hw_2
    obtain rfl : r_2 = 1 := by first | exact c2_0 | exact c2_0.trans (by decide)
    refine lv_istore_n (lv' := [(2, .int 1), (3, .int 0), (0, .int 3), (1, .int b)]) hx hb dX3_isOf_25 rfl hl (by decide) rfl (fun ls hl => ?_)
    refine lv_iinc (v := 1) (lv' := [(3, .int 1), (2, .int 1), (0, .int 3), (1, .int b)]) hx hb dX3_isOf_26 hl (k := 1) rfl (by decide) (by decide) rfl (fun ls hl => ?_)
    refine lv_goto (tgt := 4) hx hb dX3_isOf_29 (by decide) ?_
    refine lv_iload_n hx hb dX3_isOf_4 rfl (lv_at hl 0 rfl) ?_
    refine lv_iconst (v := 5) hx hb dX3_isOf_5 (by decide) ?_
    refine lv_icmp_gt (tgt := 32) hx hb dX3_isOf_6 (by decide) (fun c9 => absurd c9 (by decide)) (fun _ => ?_)
    refine lv_iload_n hx hb dX3_isOf_9 rfl (lv_at hl 1 rfl) ?_
    refine lv_iconst (v := (-1)) hx hb dX3_isOf_10 (by decide) ?_
    refine lv_icmp_eq (tgt := 32) hx hb dX3_isOf_11 (by decide) (fun c9 => absurd c9 (by decide)) (fun _ => ?_)
    refine lv_iload_n hx hb dX3_isOf_14 rfl (lv_at hl 1 rfl) ?_
    refine lv_iload_n hx hb dX3_isOf_15 rfl (lv_at hl 3 rfl) ?_
    refine lv_icmp_ne (tgt := 21) hx hb dX3_isOf_16 (by decide) (fun c_3 => ?_) (fun c_3 => ?_)
    · have f_3 : ¬ 1 = b.toInt := zi_ne c_3
      refine lv_iload_n hx hb dX3_isOf_21 rfl (lv_at hl 1 rfl) ?_
      have k_4 := (z_X3_above_1 l D cI cB cQ z H.size (h_z))
      refine wc_i (WC := []) (WR := []) (va_runS (As := [.int 1]) (rest := []) ⟨hx, hb, hml, hown, hts⟩ k_4 (va_cwS 1 hts gX3_isOf_X3_above rfl rfl rfl (by decide +kernel) ⟨Nat.le_of_ble_eq_true rfl, Nat.le_of_ble_eq_true rfl⟩) (wpz_S hZ hS hAb hP hK hD hN [] (by decide) rfl) rfl rfl hl.1 rfl (lv_room (Nat.le_of_ble_eq_true rfl)) dX3_isOf_22 ⟨Nat.le_of_ble_eq_true rfl, Nat.le_of_ble_eq_true rfl⟩) hP hD hS hA [] [] rfl rfl (by decide) (by decide) (fun r_4 u_4 H locs hw_4 hP hD hS => ?_)
      clear k_4
      have hP : va_P D kl [] H := hP
      have hD : va_D A [] := hD
      have c4_0 := hw_4
      obtain rfl : r_4 = 0 := by first | exact c4_0 | exact c4_0.trans (by decide)
      refine lv_istore_n (lv' := [(2, .int 0), (3, .int 1), (0, .int 3), (1, .int b)]) hx hb dX3_isOf_25 rfl hl (by decide) rfl (fun ls hl => ?_)
      refine lv_iinc (v := 2) (lv' := [(3, .int 2), (2, .int 0), (0, .int 3), (1, .int b)]) hx hb dX3_isOf_26 hl (k := 1) rfl (by decide) (by decide) rfl (fun ls hl => ?_)
      refine lv_goto (tgt := 4) hx hb dX3_isOf_29 (by decide) ?_
      refine lv_iload_n hx hb dX3_isOf_4 rfl (lv_at hl 0 rfl) ?_
      refine lv_iconst (v := 5) hx hb dX3_isOf_5 (by decide) ?_
      refine lv_icmp_gt (tgt := 32) hx hb dX3_isOf_6 (by decide) (fun c9 => absurd c9 (by decide)) (fun _ => ?_)
      refine lv_iload_n hx hb dX3_isOf_9 rfl (lv_at hl 1 rfl) ?_
      refine lv_iconst (v := (-1)) hx hb dX3_isOf_10 (by decide) ?_
      refine lv_icmp_eq (tgt := 32) hx hb dX3_isOf_11 (by decide) (fun c9 => absurd c9 (by decide)) (fun _ => ?_)
      refine lv_iload_n hx hb dX3_isOf_14 rfl (lv_at hl 1 rfl) ?_
      refine lv_iload_n hx hb dX3_isOf_15 rfl (lv_at hl 3 rfl) ?_
      refine lv_icmp_ne (tgt := 21) hx hb dX3_isOf_16 (by decide) (fun c_5 => ?_) (fun c_5 => ?_)
      · have f_5 : ¬ 0 = b.toInt := zi_ne c_5
        refine lv_iload_n hx hb dX3_isOf_21 rfl (lv_at hl 1 rfl) ?_
        have k_6 := (z_X3_above_0 l D cI cB cQ z H.size (h_z))
        refine wc_i (WC := []) (WR := []) (va_runS (As := [.int 0]) (rest := []) ⟨hx, hb, hml, hown, hts⟩ k_6 (va_cwS 1 hts gX3_isOf_X3_above rfl rfl rfl (by decide +kernel) ⟨Nat.le_of_ble_eq_true rfl, Nat.le_of_ble_eq_true rfl⟩) (wpz_S hZ hS hAb hP hK hD hN [] (by decide) rfl) rfl rfl hl.1 rfl (lv_room (Nat.le_of_ble_eq_true rfl)) dX3_isOf_22 ⟨Nat.le_of_ble_eq_true rfl, Nat.le_of_ble_eq_true rfl⟩) hP hD hS hA [] [] rfl rfl (by decide) (by decide) (fun r_6 u_6 H locs hw_6 hP hD hS => ?_)
        clear k_6
        have hP : va_P D kl [] H := hP
        have hD : va_D A [] := hD
        have c6_0 := hw_6
        obtain rfl : r_6 = (-1) := by first | exact c6_0 | exact c6_0.trans (by decide)
        refine lv_istore_n (lv' := [(2, .int (-1)), (3, .int 2), (0, .int 3), (1, .int b)]) hx hb dX3_isOf_25 rfl hl (by decide) rfl (fun ls hl => ?_)
        refine lv_iinc (v := 3) (lv' := [(3, .int 3), (2, .int (-1)), (0, .int 3), (1, .int b)]) hx hb dX3_isOf_26 hl (k := 1) rfl (by decide) (by decide) rfl (fun ls hl => ?_)
        refine lv_goto (tgt := 4) hx hb dX3_isOf_29 (by decide) ?_
        refine lv_iload_n hx hb dX3_isOf_4 rfl (lv_at hl 0 rfl) ?_
        refine lv_iconst (v := 5) hx hb dX3_isOf_5 (by decide) ?_
        refine lv_icmp_gt (tgt := 32) hx hb dX3_isOf_6 (by decide) (fun c9 => absurd c9 (by decide)) (fun _ => ?_)
        refine lv_iload_n hx hb dX3_isOf_9 rfl (lv_at hl 1 rfl) ?_
        refine lv_iconst (v := (-1)) hx hb dX3_isOf_10 (by decide) ?_
        refine lv_icmp_eq (tgt := 32) hx hb dX3_isOf_11 (by decide) (fun _ => ?_) (fun c9 => absurd (by decide) c9)
        refine lv_iconst (v := 0) hx hb dX3_isOf_32 (by decide) ?_
        exact wr_z (v := 0) hx hb hr hlocks hS () (by exact Or.inr (⟨rfl, show ¬ (b.toInt = 3 ∨ b.toInt = 1 ∨ b.toInt = 0) from by omega⟩)) (hP.sub [] rfl) (hD.sub [] (by decide) rfl) dX3_isOf_33 rfl
      · have f_5 : 0 = b.toInt := zi_eq c_5
        refine lv_iconst (v := 1) hx hb dX3_isOf_19 (by decide) ?_
        exact wr_z (v := 1) hx hb hr hlocks hS () (by exact Or.inl ⟨rfl, show (b.toInt = 3 ∨ b.toInt = 1 ∨ b.toInt = 0) from by omega⟩) (hP.sub [] rfl) (hD.sub [] (by decide) rfl) dX3_isOf_20 rfl
    · have f_3 : 1 = b.toInt := zi_eq c_3
      refine lv_iconst (v := 1) hx hb dX3_isOf_19 (by decide) ?_
      exact wr_z (v := 1) hx hb hr hlocks hS () (by exact Or.inl ⟨rfl, show (b.toInt = 3 ∨ b.toInt = 1 ∨ b.toInt = 0) from by omega⟩) (hP.sub [] rfl) (hD.sub [] (by decide) rfl) dX3_isOf_20 rfl
  · have f_1 : 3 = b.toInt := zi_eq c_1
    refine lv_iconst (v := 1) hx hb dX3_isOf_19 (by decide) ?_
    exact wr_z (v := 1) hx hb hr hlocks hS () (by exact Or.inl ⟨rfl, show (b.toInt = 3 ∨ b.toInt = 1 ∨ b.toInt = 0) from by omega⟩) (hP.sub [] rfl) (hD.sub [] (by decide) rfl) dX3_isOf_20 rfl
set_option maxHeartbeats 4000000 in
set_option maxRecDepth 100000 in
theorem z_X3_isOf_4 (l : Launch) (D : va_G) (cI cB cQ : ClassId) (z : ZT) (sz : Nat) (b : Int32) (h_b : 0 ≤ b.toInt ∧ b.toInt ≤ 5) (h_z : ZV z) : miz l yX3_isOf wsX3_isOf ({ frames := 2, cells := 0, slots := 0, locals := 42 }) z D cI cB cQ [.int 4, .int b] sz [] (fun (r : Int32) (_u : Unit) => ((r = 1 ∧ (b.toInt = 4 ∨ b.toInt = 0)) ∨ (r = 0 ∧ ¬ (b.toInt = 4 ∨ b.toInt = 0)))) (fun _ => []) 0 0 := by
  refine wm_z (cc := cX3_isOf) (maxL := 4) (ret := (some .boolean)) (by decide) rfl (Nat.le_of_ble_eq_true rfl) ?_
  intro p e s m below meth c A ls hZ hAb hx hb hr hml hown hts hlocks hin hP hK hD hN hA hl hS
  have hown : s.vm.findClass RX3 = some m.cls := hown
  have hl : lv_has ls 4 [(0, .int 4), (1, .int b)] := hl
  change W p l e ({ frames := 2, cells := 0, slots := 0, locals := 42 }) s m ([.int 4, .int b] : List Value).toArray below meth c s.heap [] 0 0 (MQ below (va_Qi (fun (r : Int32) (_u : Unit) => ((r = 1 ∧ (b.toInt = 4 ∨ b.toInt = 0)) ∨ (r = 0 ∧ ¬ (b.toInt = 4 ∨ b.toInt = 0)))) (fun u t => wb D A ((fun _ => []) u) t) A) ([.int 4, .int b] : List Value).toArray s 0 0 A) (F0 m 0 ls [])
  refine lv_iload_n hx hb dX3_isOf_0 rfl (lv_at hl 0 rfl) ?_
  refine lv_istore_n (lv' := [(2, .int 4), (0, .int 4), (1, .int b)]) hx hb dX3_isOf_1 rfl hl (by decide) rfl (fun ls hl => ?_)
  refine lv_iconst (v := 0) hx hb dX3_isOf_2 (by decide) ?_
  refine lv_istore_n (lv' := [(3, .int 0), (2, .int 4), (0, .int 4), (1, .int b)]) hx hb dX3_isOf_3 rfl hl (by decide) rfl (fun ls hl => ?_)
  refine lv_iload_n hx hb dX3_isOf_4 rfl (lv_at hl 0 rfl) ?_
  refine lv_iconst (v := 5) hx hb dX3_isOf_5 (by decide) ?_
  refine lv_icmp_gt (tgt := 32) hx hb dX3_isOf_6 (by decide) (fun c9 => absurd c9 (by decide)) (fun _ => ?_)
  refine lv_iload_n hx hb dX3_isOf_9 rfl (lv_at hl 1 rfl) ?_
  refine lv_iconst (v := (-1)) hx hb dX3_isOf_10 (by decide) ?_
  refine lv_icmp_eq (tgt := 32) hx hb dX3_isOf_11 (by decide) (fun c9 => absurd c9 (by decide)) (fun _ => ?_)
  refine lv_iload_n hx hb dX3_isOf_14 rfl (lv_at hl 1 rfl) ?_
  refine lv_iload_n hx hb dX3_isOf_15 rfl (lv_at hl 3 rfl) ?_
  refine lv_icmp_ne (tgt := 21) hx hb dX3_isOf_16 (by decide) (fun c_1 => ?_) (fun c_1 => ?_)
  · have f_1 : ¬ 4 = b.toInt := zi_ne c_1
    refine lv_iload_n hx hb dX3_isOf_21 rfl (lv_at hl 1 rfl) ?_
    have k_2 := (z_X3_above_4 l D cI cB cQ z s.heap.size (h_z))
    refine wc_i (WC := []) (WR := []) (va_runS (As := [.int 4]) (rest := []) ⟨hx, hb, hml, hown, hts⟩ k_2 (va_cwS 1 hts gX3_isOf_X3_above rfl rfl rfl (by decide +kernel) ⟨Nat.le_of_ble_eq_true rfl, Nat.le_of_ble_eq_true rfl⟩) (wpz_S hZ hS hAb hP hK hD hN [] (by decide) rfl) rfl rfl hl.1 rfl (lv_room (Nat.le_of_ble_eq_true rfl)) dX3_isOf_22 ⟨Nat.le_of_ble_eq_true rfl, Nat.le_of_ble_eq_true rfl⟩) hP hD hS hA [] [] rfl rfl (by decide) (by decide) (fun r_2 u_2 H locs hw_2 hP hD hS => ?_)
    clear k_2
    have hP : va_P D kl [] H := hP
    have hD : va_D A [] := hD
    have c2_0 := hw_2
    obtain rfl : r_2 = 0 := by first | exact c2_0 | exact c2_0.trans (by decide)
    refine lv_istore_n (lv' := [(2, .int 0), (3, .int 0), (0, .int 4), (1, .int b)]) hx hb dX3_isOf_25 rfl hl (by decide) rfl (fun ls hl => ?_)
    refine lv_iinc (v := 1) (lv' := [(3, .int 1), (2, .int 0), (0, .int 4), (1, .int b)]) hx hb dX3_isOf_26 hl (k := 1) rfl (by decide) (by decide) rfl (fun ls hl => ?_)
    refine lv_goto (tgt := 4) hx hb dX3_isOf_29 (by decide) ?_
    refine lv_iload_n hx hb dX3_isOf_4 rfl (lv_at hl 0 rfl) ?_
    refine lv_iconst (v := 5) hx hb dX3_isOf_5 (by decide) ?_
    refine lv_icmp_gt (tgt := 32) hx hb dX3_isOf_6 (by decide) (fun c9 => absurd c9 (by decide)) (fun _ => ?_)
    refine lv_iload_n hx hb dX3_isOf_9 rfl (lv_at hl 1 rfl) ?_
    refine lv_iconst (v := (-1)) hx hb dX3_isOf_10 (by decide) ?_
    refine lv_icmp_eq (tgt := 32) hx hb dX3_isOf_11 (by decide) (fun c9 => absurd c9 (by decide)) (fun _ => ?_)
    refine lv_iload_n hx hb dX3_isOf_14 rfl (lv_at hl 1 rfl) ?_
    refine lv_iload_n hx hb dX3_isOf_15 rfl (lv_at hl 3 rfl) ?_
    refine lv_icmp_ne (tgt := 21) hx hb dX3_isOf_16 (by decide) (fun c_3 => ?_) (fun c_3 => ?_)
    · have f_3 : ¬ 0 = b.toInt := zi_ne c_3
      refine lv_iload_n hx hb dX3_isOf_21 rfl (lv_at hl 1 rfl) ?_
      have k_4 := (z_X3_above_0 l D cI cB cQ z H.size (h_z))
      refine wc_i (WC := []) (WR := []) (va_runS (As := [.int 0]) (rest := []) ⟨hx, hb, hml, hown, hts⟩ k_4 (va_cwS 1 hts gX3_isOf_X3_above rfl rfl rfl (by decide +kernel) ⟨Nat.le_of_ble_eq_true rfl, Nat.le_of_ble_eq_true rfl⟩) (wpz_S hZ hS hAb hP hK hD hN [] (by decide) rfl) rfl rfl hl.1 rfl (lv_room (Nat.le_of_ble_eq_true rfl)) dX3_isOf_22 ⟨Nat.le_of_ble_eq_true rfl, Nat.le_of_ble_eq_true rfl⟩) hP hD hS hA [] [] rfl rfl (by decide) (by decide) (fun r_4 u_4 H locs hw_4 hP hD hS => ?_)
      clear k_4
      have hP : va_P D kl [] H := hP
      have hD : va_D A [] := hD
      have c4_0 := hw_4
      obtain rfl : r_4 = (-1) := by first | exact c4_0 | exact c4_0.trans (by decide)
      refine lv_istore_n (lv' := [(2, .int (-1)), (3, .int 1), (0, .int 4), (1, .int b)]) hx hb dX3_isOf_25 rfl hl (by decide) rfl (fun ls hl => ?_)
      refine lv_iinc (v := 2) (lv' := [(3, .int 2), (2, .int (-1)), (0, .int 4), (1, .int b)]) hx hb dX3_isOf_26 hl (k := 1) rfl (by decide) (by decide) rfl (fun ls hl => ?_)
      refine lv_goto (tgt := 4) hx hb dX3_isOf_29 (by decide) ?_
      refine lv_iload_n hx hb dX3_isOf_4 rfl (lv_at hl 0 rfl) ?_
      refine lv_iconst (v := 5) hx hb dX3_isOf_5 (by decide) ?_
      refine lv_icmp_gt (tgt := 32) hx hb dX3_isOf_6 (by decide) (fun c9 => absurd c9 (by decide)) (fun _ => ?_)
      refine lv_iload_n hx hb dX3_isOf_9 rfl (lv_at hl 1 rfl) ?_
      refine lv_iconst (v := (-1)) hx hb dX3_isOf_10 (by decide) ?_
      refine lv_icmp_eq (tgt := 32) hx hb dX3_isOf_11 (by decide) (fun _ => ?_) (fun c9 => absurd (by decide) c9)
      refine lv_iconst (v := 0) hx hb dX3_isOf_32 (by decide) ?_
      exact wr_z (v := 0) hx hb hr hlocks hS () (by exact Or.inr (⟨rfl, show ¬ (b.toInt = 4 ∨ b.toInt = 0) from by omega⟩)) (hP.sub [] rfl) (hD.sub [] (by decide) rfl) dX3_isOf_33 rfl
    · have f_3 : 0 = b.toInt := zi_eq c_3
      refine lv_iconst (v := 1) hx hb dX3_isOf_19 (by decide) ?_
      exact wr_z (v := 1) hx hb hr hlocks hS () (by exact Or.inl ⟨rfl, show (b.toInt = 4 ∨ b.toInt = 0) from by omega⟩) (hP.sub [] rfl) (hD.sub [] (by decide) rfl) dX3_isOf_20 rfl
  · have f_1 : 4 = b.toInt := zi_eq c_1
    refine lv_iconst (v := 1) hx hb dX3_isOf_19 (by decide) ?_
    exact wr_z (v := 1) hx hb hr hlocks hS () (by exact Or.inl ⟨rfl, show (b.toInt = 4 ∨ b.toInt = 0) from by omega⟩) (hP.sub [] rfl) (hD.sub [] (by decide) rfl) dX3_isOf_20 rfl
set_option maxHeartbeats 4000000 in
set_option maxRecDepth 100000 in
theorem z_X3_isOf_5 (l : Launch) (D : va_G) (cI cB cQ : ClassId) (z : ZT) (sz : Nat) (b : Int32) (h_b : 0 ≤ b.toInt ∧ b.toInt ≤ 5) (h_z : ZV z) : miz l yX3_isOf wsX3_isOf ({ frames := 2, cells := 0, slots := 0, locals := 42 }) z D cI cB cQ [.int 5, .int b] sz [] (fun (r : Int32) (_u : Unit) => ((r = 1 ∧ (b.toInt = 5 ∨ b.toInt = 4 ∨ b.toInt = 0)) ∨ (r = 0 ∧ ¬ (b.toInt = 5 ∨ b.toInt = 4 ∨ b.toInt = 0)))) (fun _ => []) 0 0 := by
  refine wm_z (cc := cX3_isOf) (maxL := 4) (ret := (some .boolean)) (by decide) rfl (Nat.le_of_ble_eq_true rfl) ?_
  intro p e s m below meth c A ls hZ hAb hx hb hr hml hown hts hlocks hin hP hK hD hN hA hl hS
  have hown : s.vm.findClass RX3 = some m.cls := hown
  have hl : lv_has ls 4 [(0, .int 5), (1, .int b)] := hl
  change W p l e ({ frames := 2, cells := 0, slots := 0, locals := 42 }) s m ([.int 5, .int b] : List Value).toArray below meth c s.heap [] 0 0 (MQ below (va_Qi (fun (r : Int32) (_u : Unit) => ((r = 1 ∧ (b.toInt = 5 ∨ b.toInt = 4 ∨ b.toInt = 0)) ∨ (r = 0 ∧ ¬ (b.toInt = 5 ∨ b.toInt = 4 ∨ b.toInt = 0)))) (fun u t => wb D A ((fun _ => []) u) t) A) ([.int 5, .int b] : List Value).toArray s 0 0 A) (F0 m 0 ls [])
  refine lv_iload_n hx hb dX3_isOf_0 rfl (lv_at hl 0 rfl) ?_
  refine lv_istore_n (lv' := [(2, .int 5), (0, .int 5), (1, .int b)]) hx hb dX3_isOf_1 rfl hl (by decide) rfl (fun ls hl => ?_)
  refine lv_iconst (v := 0) hx hb dX3_isOf_2 (by decide) ?_
  refine lv_istore_n (lv' := [(3, .int 0), (2, .int 5), (0, .int 5), (1, .int b)]) hx hb dX3_isOf_3 rfl hl (by decide) rfl (fun ls hl => ?_)
  refine lv_iload_n hx hb dX3_isOf_4 rfl (lv_at hl 0 rfl) ?_
  refine lv_iconst (v := 5) hx hb dX3_isOf_5 (by decide) ?_
  refine lv_icmp_gt (tgt := 32) hx hb dX3_isOf_6 (by decide) (fun c9 => absurd c9 (by decide)) (fun _ => ?_)
  refine lv_iload_n hx hb dX3_isOf_9 rfl (lv_at hl 1 rfl) ?_
  refine lv_iconst (v := (-1)) hx hb dX3_isOf_10 (by decide) ?_
  refine lv_icmp_eq (tgt := 32) hx hb dX3_isOf_11 (by decide) (fun c9 => absurd c9 (by decide)) (fun _ => ?_)
  refine lv_iload_n hx hb dX3_isOf_14 rfl (lv_at hl 1 rfl) ?_
  refine lv_iload_n hx hb dX3_isOf_15 rfl (lv_at hl 3 rfl) ?_
  refine lv_icmp_ne (tgt := 21) hx hb dX3_isOf_16 (by decide) (fun c_1 => ?_) (fun c_1 => ?_)
  · have f_1 : ¬ 5 = b.toInt := zi_ne c_1
    refine lv_iload_n hx hb dX3_isOf_21 rfl (lv_at hl 1 rfl) ?_
    have k_2 := (z_X3_above_5 l D cI cB cQ z s.heap.size (h_z))
    refine wc_i (WC := []) (WR := []) (va_runS (As := [.int 5]) (rest := []) ⟨hx, hb, hml, hown, hts⟩ k_2 (va_cwS 1 hts gX3_isOf_X3_above rfl rfl rfl (by decide +kernel) ⟨Nat.le_of_ble_eq_true rfl, Nat.le_of_ble_eq_true rfl⟩) (wpz_S hZ hS hAb hP hK hD hN [] (by decide) rfl) rfl rfl hl.1 rfl (lv_room (Nat.le_of_ble_eq_true rfl)) dX3_isOf_22 ⟨Nat.le_of_ble_eq_true rfl, Nat.le_of_ble_eq_true rfl⟩) hP hD hS hA [] [] rfl rfl (by decide) (by decide) (fun r_2 u_2 H locs hw_2 hP hD hS => ?_)
    clear k_2
    have hP : va_P D kl [] H := hP
    have hD : va_D A [] := hD
    have c2_0 := hw_2
    obtain rfl : r_2 = 4 := by first | exact c2_0 | exact c2_0.trans (by decide)
    refine lv_istore_n (lv' := [(2, .int 4), (3, .int 0), (0, .int 5), (1, .int b)]) hx hb dX3_isOf_25 rfl hl (by decide) rfl (fun ls hl => ?_)
    refine lv_iinc (v := 1) (lv' := [(3, .int 1), (2, .int 4), (0, .int 5), (1, .int b)]) hx hb dX3_isOf_26 hl (k := 1) rfl (by decide) (by decide) rfl (fun ls hl => ?_)
    refine lv_goto (tgt := 4) hx hb dX3_isOf_29 (by decide) ?_
    refine lv_iload_n hx hb dX3_isOf_4 rfl (lv_at hl 0 rfl) ?_
    refine lv_iconst (v := 5) hx hb dX3_isOf_5 (by decide) ?_
    refine lv_icmp_gt (tgt := 32) hx hb dX3_isOf_6 (by decide) (fun c9 => absurd c9 (by decide)) (fun _ => ?_)
    refine lv_iload_n hx hb dX3_isOf_9 rfl (lv_at hl 1 rfl) ?_
    refine lv_iconst (v := (-1)) hx hb dX3_isOf_10 (by decide) ?_
    refine lv_icmp_eq (tgt := 32) hx hb dX3_isOf_11 (by decide) (fun c9 => absurd c9 (by decide)) (fun _ => ?_)
    refine lv_iload_n hx hb dX3_isOf_14 rfl (lv_at hl 1 rfl) ?_
    refine lv_iload_n hx hb dX3_isOf_15 rfl (lv_at hl 3 rfl) ?_
    refine lv_icmp_ne (tgt := 21) hx hb dX3_isOf_16 (by decide) (fun c_3 => ?_) (fun c_3 => ?_)
    · have f_3 : ¬ 4 = b.toInt := zi_ne c_3
      refine lv_iload_n hx hb dX3_isOf_21 rfl (lv_at hl 1 rfl) ?_
      have k_4 := (z_X3_above_4 l D cI cB cQ z H.size (h_z))
      refine wc_i (WC := []) (WR := []) (va_runS (As := [.int 4]) (rest := []) ⟨hx, hb, hml, hown, hts⟩ k_4 (va_cwS 1 hts gX3_isOf_X3_above rfl rfl rfl (by decide +kernel) ⟨Nat.le_of_ble_eq_true rfl, Nat.le_of_ble_eq_true rfl⟩) (wpz_S hZ hS hAb hP hK hD hN [] (by decide) rfl) rfl rfl hl.1 rfl (lv_room (Nat.le_of_ble_eq_true rfl)) dX3_isOf_22 ⟨Nat.le_of_ble_eq_true rfl, Nat.le_of_ble_eq_true rfl⟩) hP hD hS hA [] [] rfl rfl (by decide) (by decide) (fun r_4 u_4 H locs hw_4 hP hD hS => ?_)
      clear k_4
      have hP : va_P D kl [] H := hP
      have hD : va_D A [] := hD
      have c4_0 := hw_4
      obtain rfl : r_4 = 0 := by first | exact c4_0 | exact c4_0.trans (by decide)
      refine lv_istore_n (lv' := [(2, .int 0), (3, .int 1), (0, .int 5), (1, .int b)]) hx hb dX3_isOf_25 rfl hl (by decide) rfl (fun ls hl => ?_)
      refine lv_iinc (v := 2) (lv' := [(3, .int 2), (2, .int 0), (0, .int 5), (1, .int b)]) hx hb dX3_isOf_26 hl (k := 1) rfl (by decide) (by decide) rfl (fun ls hl => ?_)
      refine lv_goto (tgt := 4) hx hb dX3_isOf_29 (by decide) ?_
      refine lv_iload_n hx hb dX3_isOf_4 rfl (lv_at hl 0 rfl) ?_
      refine lv_iconst (v := 5) hx hb dX3_isOf_5 (by decide) ?_
      refine lv_icmp_gt (tgt := 32) hx hb dX3_isOf_6 (by decide) (fun c9 => absurd c9 (by decide)) (fun _ => ?_)
      refine lv_iload_n hx hb dX3_isOf_9 rfl (lv_at hl 1 rfl) ?_
      refine lv_iconst (v := (-1)) hx hb dX3_isOf_10 (by decide) ?_
      refine lv_icmp_eq (tgt := 32) hx hb dX3_isOf_11 (by decide) (fun c9 => absurd c9 (by decide)) (fun _ => ?_)
      refine lv_iload_n hx hb dX3_isOf_14 rfl (lv_at hl 1 rfl) ?_
      refine lv_iload_n hx hb dX3_isOf_15 rfl (lv_at hl 3 rfl) ?_
      refine lv_icmp_ne (tgt := 21) hx hb dX3_isOf_16 (by decide) (fun c_5 => ?_) (fun c_5 => ?_)
      · have f_5 : ¬ 0 = b.toInt := zi_ne c_5
        refine lv_iload_n hx hb dX3_isOf_21 rfl (lv_at hl 1 rfl) ?_
        have k_6 := (z_X3_above_0 l D cI cB cQ z H.size (h_z))
        refine wc_i (WC := []) (WR := []) (va_runS (As := [.int 0]) (rest := []) ⟨hx, hb, hml, hown, hts⟩ k_6 (va_cwS 1 hts gX3_isOf_X3_above rfl rfl rfl (by decide +kernel) ⟨Nat.le_of_ble_eq_true rfl, Nat.le_of_ble_eq_true rfl⟩) (wpz_S hZ hS hAb hP hK hD hN [] (by decide) rfl) rfl rfl hl.1 rfl (lv_room (Nat.le_of_ble_eq_true rfl)) dX3_isOf_22 ⟨Nat.le_of_ble_eq_true rfl, Nat.le_of_ble_eq_true rfl⟩) hP hD hS hA [] [] rfl rfl (by decide) (by decide) (fun r_6 u_6 H locs hw_6 hP hD hS => ?_)
        clear k_6
        have hP : va_P D kl [] H := hP
        have hD : va_D A [] := hD
        have c6_0 := hw_6
        obtain rfl : r_6 = (-1) := by first | exact c6_0 | exact c6_0.trans (by decide)
        refine lv_istore_n (lv' := [(2, .int (-1)), (3, .int 2), (0, .int 5), (1, .int b)]) hx hb dX3_isOf_25 rfl hl (by decide) rfl (fun ls hl => ?_)
        refine lv_iinc (v := 3) (lv' := [(3, .int 3), (2, .int (-1)), (0, .int 5), (1, .int b)]) hx hb dX3_isOf_26 hl (k := 1) rfl (by decide) (by decide) rfl (fun ls hl => ?_)
        refine lv_goto (tgt := 4) hx hb dX3_isOf_29 (by decide) ?_
        refine lv_iload_n hx hb dX3_isOf_4 rfl (lv_at hl 0 rfl) ?_
        refine lv_iconst (v := 5) hx hb dX3_isOf_5 (by decide) ?_
        refine lv_icmp_gt (tgt := 32) hx hb dX3_isOf_6 (by decide) (fun c9 => absurd c9 (by decide)) (fun _ => ?_)
        refine lv_iload_n hx hb dX3_isOf_9 rfl (lv_at hl 1 rfl) ?_
        refine lv_iconst (v := (-1)) hx hb dX3_isOf_10 (by decide) ?_
        refine lv_icmp_eq (tgt := 32) hx hb dX3_isOf_11 (by decide) (fun _ => ?_) (fun c9 => absurd (by decide) c9)
        refine lv_iconst (v := 0) hx hb dX3_isOf_32 (by decide) ?_
        exact wr_z (v := 0) hx hb hr hlocks hS () (by exact Or.inr (⟨rfl, show ¬ (b.toInt = 5 ∨ b.toInt = 4 ∨ b.toInt = 0) from by omega⟩)) (hP.sub [] rfl) (hD.sub [] (by decide) rfl) dX3_isOf_33 rfl
      · have f_5 : 0 = b.toInt := zi_eq c_5
        refine lv_iconst (v := 1) hx hb dX3_isOf_19 (by decide) ?_
        exact wr_z (v := 1) hx hb hr hlocks hS () (by exact Or.inl ⟨rfl, show (b.toInt = 5 ∨ b.toInt = 4 ∨ b.toInt = 0) from by omega⟩) (hP.sub [] rfl) (hD.sub [] (by decide) rfl) dX3_isOf_20 rfl
    · have f_3 : 4 = b.toInt := zi_eq c_3
      refine lv_iconst (v := 1) hx hb dX3_isOf_19 (by decide) ?_
      exact wr_z (v := 1) hx hb hr hlocks hS () (by exact Or.inl ⟨rfl, show (b.toInt = 5 ∨ b.toInt = 4 ∨ b.toInt = 0) from by omega⟩) (hP.sub [] rfl) (hD.sub [] (by decide) rfl) dX3_isOf_20 rfl
  · have f_1 : 5 = b.toInt := zi_eq c_1
    refine lv_iconst (v := 1) hx hb dX3_isOf_19 (by decide) ?_
    exact wr_z (v := 1) hx hb hr hlocks hS () (by exact Or.inl ⟨rfl, show (b.toInt = 5 ∨ b.toInt = 4 ∨ b.toInt = 0) from by omega⟩) (hP.sub [] rfl) (hD.sub [] (by decide) rfl) dX3_isOf_20 rfl
set_option maxHeartbeats 4000000 in
set_option maxRecDepth 100000 in
theorem s_X7_as (l : Launch) (D : va_G) (cI cB cQ : ClassId) (z : ZT) (sz : Nat) (h : Nat) (rw : Nat) (tp : Nat) (nw : Nat) (ac : Nat) (im : Nat) (fo : Nat) (ak : Nat) (nw0 : Nat) (nw1 : Nat) (nw2 : Nat) (nw3 : Nat) (nw4 : Nat) (nw5 : Nat) (nw6 : Nat) (nw7 : Nat) (fg : Int32) (nvi : Int32) (nro : Int32) (nwa : Int32) (nlz : Int32) (nds : Int32) (ndy : Int32) (nga : Int32) (npa : Int32) (w : Int32) (b : Int32) (nfw : Nat → Int32) (nfo : Nat → Int32) (nfr : Nat → Int32) (nfn : Nat → Int32) (nft : Nat → Int32) (nfk : Nat → Int32) (nfa : Nat → Int32) (nfb : Nat → Int32) (nha : ∀ j, j < 3 → 0 ≤ (nfa j).toInt ∧ (nfa j).toInt ≤ 7) (h_nvi : 0 ≤ nvi.toInt ∧ nvi.toInt ≤ 8) (h_nwa : 0 ≤ nwa.toInt ∧ nwa.toInt ≤ 3) (h_z : ZV z) (h_kk : ∀ j : Nat, (j : Int) < nwa.toInt → 1 ≤ (nfk j).toInt ∧ (nfk j).toInt ≤ 5) : miz l yX7_as wsX7_as ({ frames := 3, cells := 0, slots := 0, locals := 65 }) z D cI cB cQ [.ref h, .int w, .int b] sz [(h, .inr (6, [.ref rw, .ref tp, .ref nw, .ref ac, .ref im, .ref fo, .ref ak, .int fg])), (nw, .inr (3, [.int nvi, .int nro, .int nwa, .int nlz, .int nds, .int ndy, .int nga, .int npa, .ref nw0, .ref nw1, .ref nw2, .ref nw3, .ref nw4, .ref nw5, .ref nw6, .ref nw7])), (nw0, .inl (cI, 8, .inl nfw)), (nw1, .inl (cI, 8, .inl nfo)), (nw2, .inl (cI, 8, .inl nfr)), (nw3, .inl (cI, 8, .inl nfn)), (nw4, .inl (cI, 8, .inl nft)), (nw5, .inl (cI, 3, .inl nfk)), (nw6, .inl (cI, 3, .inl nfa)), (nw7, .inl (cI, 3, .inl nfb))] (fun (r : Int32) (u : Int32) => ((((0 ≤ w.toInt ∧ w.toInt < nwa.toInt) ∧ (0 ≤ b.toInt ∧ b.toInt ≤ 5)) ∧ (b.toInt = 0 ∨ (nfk w.toNatClampNeg).toInt = b.toInt ∨ (b.toInt = 1 ∧ (nfk w.toNatClampNeg).toInt < 4) ∨ (b.toInt = 4 ∧ (nfk w.toNatClampNeg).toInt = 5)) ∧ r.toInt = w.toInt ∧ u.toInt = 0) ∨ (((0 ≤ w.toInt ∧ w.toInt < nwa.toInt) ∧ (0 ≤ b.toInt ∧ b.toInt ≤ 5)) ∧ ¬ (b.toInt = 0 ∨ (nfk w.toNatClampNeg).toInt = b.toInt ∨ (b.toInt = 1 ∧ (nfk w.toNatClampNeg).toInt < 4) ∨ (b.toInt = 4 ∧ (nfk w.toNatClampNeg).toInt = 5)) ∧ r.toInt = (-1000013) ∧ u.toInt = 3) ∨ (¬ ((0 ≤ w.toInt ∧ w.toInt < nwa.toInt) ∧ (0 ≤ b.toInt ∧ b.toInt ≤ 5)) ∧ r.toInt = (-1000001) ∧ u.toInt = fg.toInt))) (fun u => [(h, .inr (6, [.ref rw, .ref tp, .ref nw, .ref ac, .ref im, .ref fo, .ref ak, .int u])), (nw, .inr (3, [.int nvi, .int nro, .int nwa, .int nlz, .int nds, .int ndy, .int nga, .int npa, .ref nw0, .ref nw1, .ref nw2, .ref nw3, .ref nw4, .ref nw5, .ref nw6, .ref nw7])), (nw0, .inl (cI, 8, .inl nfw)), (nw1, .inl (cI, 8, .inl nfo)), (nw2, .inl (cI, 8, .inl nfr)), (nw3, .inl (cI, 8, .inl nfn)), (nw4, .inl (cI, 8, .inl nft)), (nw5, .inl (cI, 3, .inl nfk)), (nw6, .inl (cI, 3, .inl nfa)), (nw7, .inl (cI, 3, .inl nfb))]) 0 0 := by
  refine wm_z (cc := cX7_as) (maxL := 3) (ret := (some .int)) (by decide) rfl (Nat.le_of_ble_eq_true rfl) ?_
  intro p e s m below meth c A ls hZ hAb hx hb hr hml hown hts hlocks hin hP hK hD hN hA hl hS
  have hown : s.vm.findClass RX7 = some m.cls := hown
  have hl : lv_has ls 3 [(0, .ref h), (1, .int w), (2, .int b)] := hl
  change W p l e ({ frames := 3, cells := 0, slots := 0, locals := 65 }) s m ([.ref h, .int w, .int b] : List Value).toArray below meth c s.heap [] 0 0 (MQ below (va_Qi (fun (r : Int32) (u : Int32) => ((((0 ≤ w.toInt ∧ w.toInt < nwa.toInt) ∧ (0 ≤ b.toInt ∧ b.toInt ≤ 5)) ∧ (b.toInt = 0 ∨ (nfk w.toNatClampNeg).toInt = b.toInt ∨ (b.toInt = 1 ∧ (nfk w.toNatClampNeg).toInt < 4) ∨ (b.toInt = 4 ∧ (nfk w.toNatClampNeg).toInt = 5)) ∧ r.toInt = w.toInt ∧ u.toInt = 0) ∨ (((0 ≤ w.toInt ∧ w.toInt < nwa.toInt) ∧ (0 ≤ b.toInt ∧ b.toInt ≤ 5)) ∧ ¬ (b.toInt = 0 ∨ (nfk w.toNatClampNeg).toInt = b.toInt ∨ (b.toInt = 1 ∧ (nfk w.toNatClampNeg).toInt < 4) ∨ (b.toInt = 4 ∧ (nfk w.toNatClampNeg).toInt = 5)) ∧ r.toInt = (-1000013) ∧ u.toInt = 3) ∨ (¬ ((0 ≤ w.toInt ∧ w.toInt < nwa.toInt) ∧ (0 ≤ b.toInt ∧ b.toInt ≤ 5)) ∧ r.toInt = (-1000001) ∧ u.toInt = fg.toInt))) (fun u t => wb D A ((fun u => [(h, .inr (6, [.ref rw, .ref tp, .ref nw, .ref ac, .ref im, .ref fo, .ref ak, .int u])), (nw, .inr (3, [.int nvi, .int nro, .int nwa, .int nlz, .int nds, .int ndy, .int nga, .int npa, .ref nw0, .ref nw1, .ref nw2, .ref nw3, .ref nw4, .ref nw5, .ref nw6, .ref nw7])), (nw0, .inl (cI, 8, .inl nfw)), (nw1, .inl (cI, 8, .inl nfo)), (nw2, .inl (cI, 8, .inl nfr)), (nw3, .inl (cI, 8, .inl nfn)), (nw4, .inl (cI, 8, .inl nft)), (nw5, .inl (cI, 3, .inl nfk)), (nw6, .inl (cI, 3, .inl nfa)), (nw7, .inl (cI, 3, .inl nfb))]) u) t) A) ([.ref h, .int w, .int b] : List Value).toArray s 0 0 A) (F0 m 0 ls [])
  refine lv_aload_n hx hb dX7_as_0 rfl (lv_at hl 0 rfl) ?_
  refine va_get (D := D) (ci := 6) (v := .ref nw) (C := RX7) (T := TX7) (N := 8) hx hb hts (fun _ h => List.mem_cons_of_mem _ (List.mem_append_left _ (List.mem_append_right _ h))) hown hK hP 0 rfl rfl 2 (by decide) (hts (.fieldLink RX7 26 "WinterWalk" "now" "LWinterWalk$Land;") (List.mem_of_getElem? (i := 1) rfl)) (fun _ h9 => h9) rfl dX7_as_1 ?_
  refine lv_iload_n hx hb dX7_as_4 rfl (lv_at hl 1 rfl) ?_
  have k_1 := (g_X4_hasWalker l D cI cB cQ s.heap.size nw nw0 nw1 nw2 nw3 nw4 nw5 nw6 nw7 nvi nro nwa nlz nds ndy nga npa w)
  refine wc_i (WC := [(nw, .inr (3, [.int nvi, .int nro, .int nwa, .int nlz, .int nds, .int ndy, .int nga, .int npa, .ref nw0, .ref nw1, .ref nw2, .ref nw3, .ref nw4, .ref nw5, .ref nw6, .ref nw7]))]) (WR := [(h, .inr (6, [.ref rw, .ref tp, .ref nw, .ref ac, .ref im, .ref fo, .ref ak, .int fg])), (nw0, .inl (cI, 8, .inl nfw)), (nw1, .inl (cI, 8, .inl nfo)), (nw2, .inl (cI, 8, .inl nfr)), (nw3, .inl (cI, 8, .inl nfn)), (nw4, .inl (cI, 8, .inl nft)), (nw5, .inl (cI, 3, .inl nfk)), (nw6, .inl (cI, 3, .inl nfa)), (nw7, .inl (cI, 3, .inl nfb))]) (va_runV (As := [.int w]) (rest := []) ⟨hx, hb, hml, hown, hts⟩ k_1 (cwV 1 hts gX7_as_X4_hasWalker rfl rfl rfl (by decide +kernel) ⟨Nat.le_of_ble_eq_true rfl, Nat.le_of_ble_eq_true rfl⟩) (wp_V hP hK hD hN [1] (by decide) rfl (ci := 3) rfl rfl) rfl rfl hl.1 rfl (lv_room (Nat.le_of_ble_eq_true rfl)) dX7_as_5 ⟨Nat.le_of_ble_eq_true rfl, Nat.le_of_ble_eq_true rfl⟩) hP hD hS hA [1] [0, 2, 3, 4, 5, 6, 7, 8, 9] rfl rfl (by decide) (by decide) (fun r_1 u_1 H locs hw_1 hP hD hS => ?_)
  clear k_1
  have hP : va_P D kl [(h, .inr (6, [.ref rw, .ref tp, .ref nw, .ref ac, .ref im, .ref fo, .ref ak, .int fg])), (nw0, .inl (cI, 8, .inl nfw)), (nw1, .inl (cI, 8, .inl nfo)), (nw2, .inl (cI, 8, .inl nfr)), (nw3, .inl (cI, 8, .inl nfn)), (nw4, .inl (cI, 8, .inl nft)), (nw5, .inl (cI, 3, .inl nfk)), (nw6, .inl (cI, 3, .inl nfa)), (nw7, .inl (cI, 3, .inl nfb)), (nw, .inr (3, [.int nvi, .int nro, .int nwa, .int nlz, .int nds, .int ndy, .int nga, .int npa, .ref nw0, .ref nw1, .ref nw2, .ref nw3, .ref nw4, .ref nw5, .ref nw6, .ref nw7]))] H := hP
  have hD : va_D A [(h, .inr (6, [.ref rw, .ref tp, .ref nw, .ref ac, .ref im, .ref fo, .ref ak, .int fg])), (nw0, .inl (cI, 8, .inl nfw)), (nw1, .inl (cI, 8, .inl nfo)), (nw2, .inl (cI, 8, .inl nfr)), (nw3, .inl (cI, 8, .inl nfn)), (nw4, .inl (cI, 8, .inl nft)), (nw5, .inl (cI, 3, .inl nfk)), (nw6, .inl (cI, 3, .inl nfa)), (nw7, .inl (cI, 3, .inl nfb)), (nw, .inr (3, [.int nvi, .int nro, .int nwa, .int nlz, .int nds, .int ndy, .int nga, .int npa, .ref nw0, .ref nw1, .ref nw2, .ref nw3, .ref nw4, .ref nw5, .ref nw6, .ref nw7]))] := hD
  have c1_0 := hw_1
  rcases c1_0 with ⟨e_1, f_1⟩ | ⟨e_1, f_1⟩
  · subst e_1
    have f_1 : 0 ≤ w.toInt ∧ w.toInt < nwa.toInt := f_1
    refine lv_if_eq (tgt := 20) hx hb dX7_as_8 (by decide) (fun c9 => absurd c9 (by decide)) (fun _ => ?_)
    refine lv_iconst (v := 0) hx hb dX7_as_11 (by decide) ?_
    refine lv_iload_n hx hb dX7_as_12 rfl (lv_at hl 2 rfl) ?_
    refine lv_iconst (v := 5) hx hb dX7_as_13 (by decide) ?_
    have k_2 := (g_X7_isFrom l D cI cB cQ H.size 0 b 5)
    refine wc_i (WC := []) (WR := [(h, .inr (6, [.ref rw, .ref tp, .ref nw, .ref ac, .ref im, .ref fo, .ref ak, .int fg])), (nw0, .inl (cI, 8, .inl nfw)), (nw1, .inl (cI, 8, .inl nfo)), (nw2, .inl (cI, 8, .inl nfr)), (nw3, .inl (cI, 8, .inl nfn)), (nw4, .inl (cI, 8, .inl nft)), (nw5, .inl (cI, 3, .inl nfk)), (nw6, .inl (cI, 3, .inl nfa)), (nw7, .inl (cI, 3, .inl nfb)), (nw, .inr (3, [.int nvi, .int nro, .int nwa, .int nlz, .int nds, .int ndy, .int nga, .int npa, .ref nw0, .ref nw1, .ref nw2, .ref nw3, .ref nw4, .ref nw5, .ref nw6, .ref nw7]))]) (va_runS (As := [.int 0, .int b, .int 5]) (rest := []) ⟨hx, hb, hml, hown, hts⟩ k_2 (va_cwS 3 hts gX7_as_X7_isFrom rfl rfl rfl (by decide +kernel) ⟨Nat.le_of_ble_eq_true rfl, Nat.le_of_ble_eq_true rfl⟩) (wp_S hP hK hD hN [] (by decide) rfl) rfl rfl hl.1 rfl (lv_room (Nat.le_of_ble_eq_true rfl)) dX7_as_14 ⟨Nat.le_of_ble_eq_true rfl, Nat.le_of_ble_eq_true rfl⟩) hP hD hS hA [] [0, 1, 2, 3, 4, 5, 6, 7, 8, 9] rfl rfl (by decide) (by decide) (fun r_2 u_2 H locs hw_2 hP hD hS => ?_)
    clear k_2
    have hP : va_P D kl [(h, .inr (6, [.ref rw, .ref tp, .ref nw, .ref ac, .ref im, .ref fo, .ref ak, .int fg])), (nw0, .inl (cI, 8, .inl nfw)), (nw1, .inl (cI, 8, .inl nfo)), (nw2, .inl (cI, 8, .inl nfr)), (nw3, .inl (cI, 8, .inl nfn)), (nw4, .inl (cI, 8, .inl nft)), (nw5, .inl (cI, 3, .inl nfk)), (nw6, .inl (cI, 3, .inl nfa)), (nw7, .inl (cI, 3, .inl nfb)), (nw, .inr (3, [.int nvi, .int nro, .int nwa, .int nlz, .int nds, .int ndy, .int nga, .int npa, .ref nw0, .ref nw1, .ref nw2, .ref nw3, .ref nw4, .ref nw5, .ref nw6, .ref nw7]))] H := hP
    have hD : va_D A [(h, .inr (6, [.ref rw, .ref tp, .ref nw, .ref ac, .ref im, .ref fo, .ref ak, .int fg])), (nw0, .inl (cI, 8, .inl nfw)), (nw1, .inl (cI, 8, .inl nfo)), (nw2, .inl (cI, 8, .inl nfr)), (nw3, .inl (cI, 8, .inl nfn)), (nw4, .inl (cI, 8, .inl nft)), (nw5, .inl (cI, 3, .inl nfk)), (nw6, .inl (cI, 3, .inl nfa)), (nw7, .inl (cI, 3, .inl nfb)), (nw, .inr (3, [.int nvi, .int nro, .int nwa, .int nlz, .int nds, .int ndy, .int nga, .int npa, .ref nw0, .ref nw1, .ref nw2, .ref nw3, .ref nw4, .ref nw5, .ref nw6, .ref nw7]))] := hD
    have c2_0 := hw_2
    rcases c2_0 with ⟨e_2, f_2⟩ | ⟨e_2, f_2⟩
    · subst e_2
      have f_2 : (0 : Int) ≤ b.toInt ∧ b.toInt ≤ (5 : Int) := f_2
      refine lv_if_ne (tgt := 23) hx hb dX7_as_17 (by decide) (fun _ => ?_) (fun c9 => absurd c9 (by decide))
      refine lv_aload_n hx hb dX7_as_23 rfl (lv_at hl 0 rfl) ?_
      refine va_get (D := D) (ci := 6) (v := .ref nw) (C := RX7) (T := TX7) (N := 8) hx hb hts (fun _ h => List.mem_cons_of_mem _ (List.mem_append_left _ (List.mem_append_right _ h))) hown hK hP 0 rfl rfl 2 (by decide) (hts (.fieldLink RX7 26 "WinterWalk" "now" "LWinterWalk$Land;") (List.mem_of_getElem? (i := 1) rfl)) (fun _ h9 => h9) rfl dX7_as_24 ?_
      refine va_get (D := D) (ci := 3) (v := .ref nw5) (C := RX4) (T := TX4) (N := 16) hx hb hts (fun _ h => List.mem_cons_of_mem _ (List.mem_append_right _ h)) hown hK hP 9 rfl rfl 13 (by decide) (hts (.fieldLink RX7 275 "WinterWalk$Land" "kinds" "[I") (List.mem_of_getElem? (i := 3) rfl)) (fun _ h9 => h9) rfl dX7_as_27 ?_
      refine lv_iload_n hx hb dX7_as_30 rfl (lv_at hl 1 rfl) ?_
      refine va_iald hx hb hK hP 6 0 rfl rfl (zi_in (by omega) (by omega)) dX7_as_31 ?_
      refine lv_topi (fun x_3 ex_3 => ?_)
      refine lv_iload_n hx hb dX7_as_32 rfl (lv_at hl 2 rfl) ?_
      have hkk := h_kk (w : Int32).toNatClampNeg (by have h9 := zi_cn (x := w) (by omega); omega)
      rw [← ex_3] at hkk
      rcases (show x_3.toInt = 1 ∨ x_3.toInt = 2 ∨ x_3.toInt = 3 ∨ x_3.toInt = 4 ∨ x_3.toInt = 5 by omega) with e9 | e9 | e9 | e9 | e9
      · obtain rfl : x_3 = 1 := Int32.toInt_inj.mp (e9.trans (by decide))
        have hs : (nfk w.toNatClampNeg).toInt = 1 := (congrArg Int32.toInt ex_3.symm).trans (by decide)
        have k_4 := (z_X3_isOf_1 l D cI cB cQ z H.size b (by omega) (h_z))
        refine wc_i (WC := []) (WR := [(h, .inr (6, [.ref rw, .ref tp, .ref nw, .ref ac, .ref im, .ref fo, .ref ak, .int fg])), (nw0, .inl (cI, 8, .inl nfw)), (nw1, .inl (cI, 8, .inl nfo)), (nw2, .inl (cI, 8, .inl nfr)), (nw3, .inl (cI, 8, .inl nfn)), (nw4, .inl (cI, 8, .inl nft)), (nw5, .inl (cI, 3, .inl nfk)), (nw6, .inl (cI, 3, .inl nfa)), (nw7, .inl (cI, 3, .inl nfb)), (nw, .inr (3, [.int nvi, .int nro, .int nwa, .int nlz, .int nds, .int ndy, .int nga, .int npa, .ref nw0, .ref nw1, .ref nw2, .ref nw3, .ref nw4, .ref nw5, .ref nw6, .ref nw7]))]) (va_runS (As := [.int 1, .int b]) (rest := []) ⟨hx, hb, hml, hown, hts⟩ k_4 (va_cwS 2 hts gX7_as_X3_isOf rfl rfl rfl (by decide +kernel) ⟨Nat.le_of_ble_eq_true rfl, Nat.le_of_ble_eq_true rfl⟩) (wpz_S hZ hS hAb hP hK hD hN [] (by decide) rfl) rfl rfl hl.1 rfl (lv_room (Nat.le_of_ble_eq_true rfl)) dX7_as_33 ⟨Nat.le_of_ble_eq_true rfl, Nat.le_of_ble_eq_true rfl⟩) hP hD hS hA [] [0, 1, 2, 3, 4, 5, 6, 7, 8, 9] rfl rfl (by decide) (by decide) (fun r_4 u_4 H locs hw_4 hP hD hS => ?_)
        clear k_4
        have hP : va_P D kl [(h, .inr (6, [.ref rw, .ref tp, .ref nw, .ref ac, .ref im, .ref fo, .ref ak, .int fg])), (nw0, .inl (cI, 8, .inl nfw)), (nw1, .inl (cI, 8, .inl nfo)), (nw2, .inl (cI, 8, .inl nfr)), (nw3, .inl (cI, 8, .inl nfn)), (nw4, .inl (cI, 8, .inl nft)), (nw5, .inl (cI, 3, .inl nfk)), (nw6, .inl (cI, 3, .inl nfa)), (nw7, .inl (cI, 3, .inl nfb)), (nw, .inr (3, [.int nvi, .int nro, .int nwa, .int nlz, .int nds, .int ndy, .int nga, .int npa, .ref nw0, .ref nw1, .ref nw2, .ref nw3, .ref nw4, .ref nw5, .ref nw6, .ref nw7]))] H := hP
        have hD : va_D A [(h, .inr (6, [.ref rw, .ref tp, .ref nw, .ref ac, .ref im, .ref fo, .ref ak, .int fg])), (nw0, .inl (cI, 8, .inl nfw)), (nw1, .inl (cI, 8, .inl nfo)), (nw2, .inl (cI, 8, .inl nfr)), (nw3, .inl (cI, 8, .inl nfn)), (nw4, .inl (cI, 8, .inl nft)), (nw5, .inl (cI, 3, .inl nfk)), (nw6, .inl (cI, 3, .inl nfa)), (nw7, .inl (cI, 3, .inl nfb)), (nw, .inr (3, [.int nvi, .int nro, .int nwa, .int nlz, .int nds, .int ndy, .int nga, .int npa, .ref nw0, .ref nw1, .ref nw2, .ref nw3, .ref nw4, .ref nw5, .ref nw6, .ref nw7]))] := hD
        have c4_0 := hw_4
        rcases c4_0 with ⟨e_4, f_4⟩ | ⟨e_4, f_4⟩
        · subst e_4
          have f_4 : (b.toInt = 1 ∨ b.toInt = 0) := f_4
          refine lv_if_ne (tgt := 45) hx hb dX7_as_36 (by decide) (fun _ => ?_) (fun c9 => absurd c9 (by decide))
          refine lv_aload_n hx hb dX7_as_45 rfl (lv_at hl 0 rfl) ?_
          refine lv_iload_n hx hb dX7_as_46 rfl (lv_at hl 1 rfl) ?_
          have k_5 := (s_X7_foundNothing l D cI cB cQ H.size h rw tp nw ac im fo ak fg w)
          refine wc_i (WC := [(h, .inr (6, [.ref rw, .ref tp, .ref nw, .ref ac, .ref im, .ref fo, .ref ak, .int fg]))]) (WR := [(nw0, .inl (cI, 8, .inl nfw)), (nw1, .inl (cI, 8, .inl nfo)), (nw2, .inl (cI, 8, .inl nfr)), (nw3, .inl (cI, 8, .inl nfn)), (nw4, .inl (cI, 8, .inl nft)), (nw5, .inl (cI, 3, .inl nfk)), (nw6, .inl (cI, 3, .inl nfa)), (nw7, .inl (cI, 3, .inl nfb)), (nw, .inr (3, [.int nvi, .int nro, .int nwa, .int nlz, .int nds, .int ndy, .int nga, .int npa, .ref nw0, .ref nw1, .ref nw2, .ref nw3, .ref nw4, .ref nw5, .ref nw6, .ref nw7]))]) (va_runV (As := [.int w]) (rest := []) ⟨hx, hb, hml, hown, hts⟩ k_5 (cwV 1 hts gX7_as_X7_foundNothing rfl rfl rfl (by decide +kernel) ⟨Nat.le_of_ble_eq_true rfl, Nat.le_of_ble_eq_true rfl⟩) (wp_V hP hK hD hN [0] (by decide) rfl (ci := 6) rfl rfl) rfl rfl hl.1 rfl (lv_room (Nat.le_of_ble_eq_true rfl)) dX7_as_47 ⟨Nat.le_of_ble_eq_true rfl, Nat.le_of_ble_eq_true rfl⟩) hP hD hS hA [0] [1, 2, 3, 4, 5, 6, 7, 8, 9] rfl rfl (by decide) (by decide) (fun r_5 u_5 H locs hw_5 hP hD hS => ?_)
          clear k_5
          have hP : va_P D kl [(nw0, .inl (cI, 8, .inl nfw)), (nw1, .inl (cI, 8, .inl nfo)), (nw2, .inl (cI, 8, .inl nfr)), (nw3, .inl (cI, 8, .inl nfn)), (nw4, .inl (cI, 8, .inl nft)), (nw5, .inl (cI, 3, .inl nfk)), (nw6, .inl (cI, 3, .inl nfa)), (nw7, .inl (cI, 3, .inl nfb)), (nw, .inr (3, [.int nvi, .int nro, .int nwa, .int nlz, .int nds, .int ndy, .int nga, .int npa, .ref nw0, .ref nw1, .ref nw2, .ref nw3, .ref nw4, .ref nw5, .ref nw6, .ref nw7])), (h, .inr (6, [.ref rw, .ref tp, .ref nw, .ref ac, .ref im, .ref fo, .ref ak, .int u_5]))] H := hP
          have hD : va_D A [(nw0, .inl (cI, 8, .inl nfw)), (nw1, .inl (cI, 8, .inl nfo)), (nw2, .inl (cI, 8, .inl nfr)), (nw3, .inl (cI, 8, .inl nfn)), (nw4, .inl (cI, 8, .inl nft)), (nw5, .inl (cI, 3, .inl nfk)), (nw6, .inl (cI, 3, .inl nfa)), (nw7, .inl (cI, 3, .inl nfb)), (nw, .inr (3, [.int nvi, .int nro, .int nwa, .int nlz, .int nds, .int ndy, .int nga, .int npa, .ref nw0, .ref nw1, .ref nw2, .ref nw3, .ref nw4, .ref nw5, .ref nw6, .ref nw7])), (h, .inr (6, [.ref rw, .ref tp, .ref nw, .ref ac, .ref im, .ref fo, .ref ak, .int u_5]))] := hD
          obtain ⟨c5_0, c5_1⟩ := hw_5
          have c5_1 : u_5.toInt = 0 := c5_1
          rw [c5_0]
          exact wr_i (v := w) hx hb hr hlocks hS u_5 (by exact show (((0 ≤ w.toInt ∧ w.toInt < nwa.toInt) ∧ (0 ≤ b.toInt ∧ b.toInt ≤ 5)) ∧ (b.toInt = 0 ∨ (nfk w.toNatClampNeg).toInt = b.toInt ∨ (b.toInt = 1 ∧ (nfk w.toNatClampNeg).toInt < 4) ∨ (b.toInt = 4 ∧ (nfk w.toNatClampNeg).toInt = 5)) ∧ w.toInt = w.toInt ∧ u_5.toInt = 0) ∨ (((0 ≤ w.toInt ∧ w.toInt < nwa.toInt) ∧ (0 ≤ b.toInt ∧ b.toInt ≤ 5)) ∧ ¬ (b.toInt = 0 ∨ (nfk w.toNatClampNeg).toInt = b.toInt ∨ (b.toInt = 1 ∧ (nfk w.toNatClampNeg).toInt < 4) ∨ (b.toInt = 4 ∧ (nfk w.toNatClampNeg).toInt = 5)) ∧ w.toInt = (-1000013) ∧ u_5.toInt = 3) ∨ (¬ ((0 ≤ w.toInt ∧ w.toInt < nwa.toInt) ∧ (0 ≤ b.toInt ∧ b.toInt ≤ 5)) ∧ w.toInt = (-1000001) ∧ u_5.toInt = fg.toInt) from by omega) (hP.sub [9, 8, 0, 1, 2, 3, 4, 5, 6, 7] rfl) (hD.sub [9, 8, 0, 1, 2, 3, 4, 5, 6, 7] (by decide) rfl) dX7_as_50
        · subst e_4
          have f_4 : ¬ (b.toInt = 1 ∨ b.toInt = 0) := f_4
          refine lv_if_ne (tgt := 45) hx hb dX7_as_36 (by decide) (fun c9 => absurd (by decide) c9) (fun _ => ?_)
          refine lv_aload_n hx hb dX7_as_39 rfl (lv_at hl 0 rfl) ?_
          refine lv_iconst (v := 3) hx hb dX7_as_40 (by decide) ?_
          have k_6 := (s_X7_found l D cI cB cQ H.size h rw tp nw ac im fo ak fg 3)
          refine wc_i (WC := [(h, .inr (6, [.ref rw, .ref tp, .ref nw, .ref ac, .ref im, .ref fo, .ref ak, .int fg]))]) (WR := [(nw0, .inl (cI, 8, .inl nfw)), (nw1, .inl (cI, 8, .inl nfo)), (nw2, .inl (cI, 8, .inl nfr)), (nw3, .inl (cI, 8, .inl nfn)), (nw4, .inl (cI, 8, .inl nft)), (nw5, .inl (cI, 3, .inl nfk)), (nw6, .inl (cI, 3, .inl nfa)), (nw7, .inl (cI, 3, .inl nfb)), (nw, .inr (3, [.int nvi, .int nro, .int nwa, .int nlz, .int nds, .int ndy, .int nga, .int npa, .ref nw0, .ref nw1, .ref nw2, .ref nw3, .ref nw4, .ref nw5, .ref nw6, .ref nw7]))]) (va_runV (As := [.int 3]) (rest := []) ⟨hx, hb, hml, hown, hts⟩ k_6 (cwV 1 hts gX7_as_X7_found rfl rfl rfl (by decide +kernel) ⟨Nat.le_of_ble_eq_true rfl, Nat.le_of_ble_eq_true rfl⟩) (wp_V hP hK hD hN [0] (by decide) rfl (ci := 6) rfl rfl) rfl rfl hl.1 rfl (lv_room (Nat.le_of_ble_eq_true rfl)) dX7_as_41 ⟨Nat.le_of_ble_eq_true rfl, Nat.le_of_ble_eq_true rfl⟩) hP hD hS hA [0] [1, 2, 3, 4, 5, 6, 7, 8, 9] rfl rfl (by decide) (by decide) (fun r_6 u_6 H locs hw_6 hP hD hS => ?_)
          clear k_6
          have hP : va_P D kl [(nw0, .inl (cI, 8, .inl nfw)), (nw1, .inl (cI, 8, .inl nfo)), (nw2, .inl (cI, 8, .inl nfr)), (nw3, .inl (cI, 8, .inl nfn)), (nw4, .inl (cI, 8, .inl nft)), (nw5, .inl (cI, 3, .inl nfk)), (nw6, .inl (cI, 3, .inl nfa)), (nw7, .inl (cI, 3, .inl nfb)), (nw, .inr (3, [.int nvi, .int nro, .int nwa, .int nlz, .int nds, .int ndy, .int nga, .int npa, .ref nw0, .ref nw1, .ref nw2, .ref nw3, .ref nw4, .ref nw5, .ref nw6, .ref nw7])), (h, .inr (6, [.ref rw, .ref tp, .ref nw, .ref ac, .ref im, .ref fo, .ref ak, .int u_6]))] H := hP
          have hD : va_D A [(nw0, .inl (cI, 8, .inl nfw)), (nw1, .inl (cI, 8, .inl nfo)), (nw2, .inl (cI, 8, .inl nfr)), (nw3, .inl (cI, 8, .inl nfn)), (nw4, .inl (cI, 8, .inl nft)), (nw5, .inl (cI, 3, .inl nfk)), (nw6, .inl (cI, 3, .inl nfa)), (nw7, .inl (cI, 3, .inl nfb)), (nw, .inr (3, [.int nvi, .int nro, .int nwa, .int nlz, .int nds, .int ndy, .int nga, .int npa, .ref nw0, .ref nw1, .ref nw2, .ref nw3, .ref nw4, .ref nw5, .ref nw6, .ref nw7])), (h, .inr (6, [.ref rw, .ref tp, .ref nw, .ref ac, .ref im, .ref fo, .ref ak, .int u_6]))] := hD
          obtain ⟨c6_0, c6_1⟩ := hw_6
          have c6_1 : u_6.toInt = (3 : Int) := c6_1
          obtain rfl : r_6 = (-1000013) := by first | exact c6_0 | exact c6_0.trans (by decide)
          exact wr_i (v := (-1000013)) hx hb hr hlocks hS u_6 (by exact show (((0 ≤ w.toInt ∧ w.toInt < nwa.toInt) ∧ (0 ≤ b.toInt ∧ b.toInt ≤ 5)) ∧ (b.toInt = 0 ∨ (nfk w.toNatClampNeg).toInt = b.toInt ∨ (b.toInt = 1 ∧ (nfk w.toNatClampNeg).toInt < 4) ∨ (b.toInt = 4 ∧ (nfk w.toNatClampNeg).toInt = 5)) ∧ (-1000013) = w.toInt ∧ u_6.toInt = 0) ∨ (((0 ≤ w.toInt ∧ w.toInt < nwa.toInt) ∧ (0 ≤ b.toInt ∧ b.toInt ≤ 5)) ∧ ¬ (b.toInt = 0 ∨ (nfk w.toNatClampNeg).toInt = b.toInt ∨ (b.toInt = 1 ∧ (nfk w.toNatClampNeg).toInt < 4) ∨ (b.toInt = 4 ∧ (nfk w.toNatClampNeg).toInt = 5)) ∧ (-1000013) = (-1000013) ∧ u_6.toInt = 3) ∨ (¬ ((0 ≤ w.toInt ∧ w.toInt < nwa.toInt) ∧ (0 ≤ b.toInt ∧ b.toInt ≤ 5)) ∧ (-1000013) = (-1000001) ∧ u_6.toInt = fg.toInt) from by omega) (hP.sub [9, 8, 0, 1, 2, 3, 4, 5, 6, 7] rfl) (hD.sub [9, 8, 0, 1, 2, 3, 4, 5, 6, 7] (by decide) rfl) dX7_as_44
      · obtain rfl : x_3 = 2 := Int32.toInt_inj.mp (e9.trans (by decide))
        have hs : (nfk w.toNatClampNeg).toInt = 2 := (congrArg Int32.toInt ex_3.symm).trans (by decide)
        have k_7 := (z_X3_isOf_2 l D cI cB cQ z H.size b (by omega) (h_z))
        refine wc_i (WC := []) (WR := [(h, .inr (6, [.ref rw, .ref tp, .ref nw, .ref ac, .ref im, .ref fo, .ref ak, .int fg])), (nw0, .inl (cI, 8, .inl nfw)), (nw1, .inl (cI, 8, .inl nfo)), (nw2, .inl (cI, 8, .inl nfr)), (nw3, .inl (cI, 8, .inl nfn)), (nw4, .inl (cI, 8, .inl nft)), (nw5, .inl (cI, 3, .inl nfk)), (nw6, .inl (cI, 3, .inl nfa)), (nw7, .inl (cI, 3, .inl nfb)), (nw, .inr (3, [.int nvi, .int nro, .int nwa, .int nlz, .int nds, .int ndy, .int nga, .int npa, .ref nw0, .ref nw1, .ref nw2, .ref nw3, .ref nw4, .ref nw5, .ref nw6, .ref nw7]))]) (va_runS (As := [.int 2, .int b]) (rest := []) ⟨hx, hb, hml, hown, hts⟩ k_7 (va_cwS 2 hts gX7_as_X3_isOf rfl rfl rfl (by decide +kernel) ⟨Nat.le_of_ble_eq_true rfl, Nat.le_of_ble_eq_true rfl⟩) (wpz_S hZ hS hAb hP hK hD hN [] (by decide) rfl) rfl rfl hl.1 rfl (lv_room (Nat.le_of_ble_eq_true rfl)) dX7_as_33 ⟨Nat.le_of_ble_eq_true rfl, Nat.le_of_ble_eq_true rfl⟩) hP hD hS hA [] [0, 1, 2, 3, 4, 5, 6, 7, 8, 9] rfl rfl (by decide) (by decide) (fun r_7 u_7 H locs hw_7 hP hD hS => ?_)
        clear k_7
        have hP : va_P D kl [(h, .inr (6, [.ref rw, .ref tp, .ref nw, .ref ac, .ref im, .ref fo, .ref ak, .int fg])), (nw0, .inl (cI, 8, .inl nfw)), (nw1, .inl (cI, 8, .inl nfo)), (nw2, .inl (cI, 8, .inl nfr)), (nw3, .inl (cI, 8, .inl nfn)), (nw4, .inl (cI, 8, .inl nft)), (nw5, .inl (cI, 3, .inl nfk)), (nw6, .inl (cI, 3, .inl nfa)), (nw7, .inl (cI, 3, .inl nfb)), (nw, .inr (3, [.int nvi, .int nro, .int nwa, .int nlz, .int nds, .int ndy, .int nga, .int npa, .ref nw0, .ref nw1, .ref nw2, .ref nw3, .ref nw4, .ref nw5, .ref nw6, .ref nw7]))] H := hP
        have hD : va_D A [(h, .inr (6, [.ref rw, .ref tp, .ref nw, .ref ac, .ref im, .ref fo, .ref ak, .int fg])), (nw0, .inl (cI, 8, .inl nfw)), (nw1, .inl (cI, 8, .inl nfo)), (nw2, .inl (cI, 8, .inl nfr)), (nw3, .inl (cI, 8, .inl nfn)), (nw4, .inl (cI, 8, .inl nft)), (nw5, .inl (cI, 3, .inl nfk)), (nw6, .inl (cI, 3, .inl nfa)), (nw7, .inl (cI, 3, .inl nfb)), (nw, .inr (3, [.int nvi, .int nro, .int nwa, .int nlz, .int nds, .int ndy, .int nga, .int npa, .ref nw0, .ref nw1, .ref nw2, .ref nw3, .ref nw4, .ref nw5, .ref nw6, .ref nw7]))] := hD
        have c7_0 := hw_7
        rcases c7_0 with ⟨e_7, f_7⟩ | ⟨e_7, f_7⟩
        · subst e_7
          have f_7 : (b.toInt = 2 ∨ b.toInt = 1 ∨ b.toInt = 0) := f_7
          refine lv_if_ne (tgt := 45) hx hb dX7_as_36 (by decide) (fun _ => ?_) (fun c9 => absurd c9 (by decide))
          refine lv_aload_n hx hb dX7_as_45 rfl (lv_at hl 0 rfl) ?_
          refine lv_iload_n hx hb dX7_as_46 rfl (lv_at hl 1 rfl) ?_
          have k_8 := (s_X7_foundNothing l D cI cB cQ H.size h rw tp nw ac im fo ak fg w)
          refine wc_i (WC := [(h, .inr (6, [.ref rw, .ref tp, .ref nw, .ref ac, .ref im, .ref fo, .ref ak, .int fg]))]) (WR := [(nw0, .inl (cI, 8, .inl nfw)), (nw1, .inl (cI, 8, .inl nfo)), (nw2, .inl (cI, 8, .inl nfr)), (nw3, .inl (cI, 8, .inl nfn)), (nw4, .inl (cI, 8, .inl nft)), (nw5, .inl (cI, 3, .inl nfk)), (nw6, .inl (cI, 3, .inl nfa)), (nw7, .inl (cI, 3, .inl nfb)), (nw, .inr (3, [.int nvi, .int nro, .int nwa, .int nlz, .int nds, .int ndy, .int nga, .int npa, .ref nw0, .ref nw1, .ref nw2, .ref nw3, .ref nw4, .ref nw5, .ref nw6, .ref nw7]))]) (va_runV (As := [.int w]) (rest := []) ⟨hx, hb, hml, hown, hts⟩ k_8 (cwV 1 hts gX7_as_X7_foundNothing rfl rfl rfl (by decide +kernel) ⟨Nat.le_of_ble_eq_true rfl, Nat.le_of_ble_eq_true rfl⟩) (wp_V hP hK hD hN [0] (by decide) rfl (ci := 6) rfl rfl) rfl rfl hl.1 rfl (lv_room (Nat.le_of_ble_eq_true rfl)) dX7_as_47 ⟨Nat.le_of_ble_eq_true rfl, Nat.le_of_ble_eq_true rfl⟩) hP hD hS hA [0] [1, 2, 3, 4, 5, 6, 7, 8, 9] rfl rfl (by decide) (by decide) (fun r_8 u_8 H locs hw_8 hP hD hS => ?_)
          clear k_8
          have hP : va_P D kl [(nw0, .inl (cI, 8, .inl nfw)), (nw1, .inl (cI, 8, .inl nfo)), (nw2, .inl (cI, 8, .inl nfr)), (nw3, .inl (cI, 8, .inl nfn)), (nw4, .inl (cI, 8, .inl nft)), (nw5, .inl (cI, 3, .inl nfk)), (nw6, .inl (cI, 3, .inl nfa)), (nw7, .inl (cI, 3, .inl nfb)), (nw, .inr (3, [.int nvi, .int nro, .int nwa, .int nlz, .int nds, .int ndy, .int nga, .int npa, .ref nw0, .ref nw1, .ref nw2, .ref nw3, .ref nw4, .ref nw5, .ref nw6, .ref nw7])), (h, .inr (6, [.ref rw, .ref tp, .ref nw, .ref ac, .ref im, .ref fo, .ref ak, .int u_8]))] H := hP
          have hD : va_D A [(nw0, .inl (cI, 8, .inl nfw)), (nw1, .inl (cI, 8, .inl nfo)), (nw2, .inl (cI, 8, .inl nfr)), (nw3, .inl (cI, 8, .inl nfn)), (nw4, .inl (cI, 8, .inl nft)), (nw5, .inl (cI, 3, .inl nfk)), (nw6, .inl (cI, 3, .inl nfa)), (nw7, .inl (cI, 3, .inl nfb)), (nw, .inr (3, [.int nvi, .int nro, .int nwa, .int nlz, .int nds, .int ndy, .int nga, .int npa, .ref nw0, .ref nw1, .ref nw2, .ref nw3, .ref nw4, .ref nw5, .ref nw6, .ref nw7])), (h, .inr (6, [.ref rw, .ref tp, .ref nw, .ref ac, .ref im, .ref fo, .ref ak, .int u_8]))] := hD
          obtain ⟨c8_0, c8_1⟩ := hw_8
          have c8_1 : u_8.toInt = 0 := c8_1
          rw [c8_0]
          exact wr_i (v := w) hx hb hr hlocks hS u_8 (by exact show (((0 ≤ w.toInt ∧ w.toInt < nwa.toInt) ∧ (0 ≤ b.toInt ∧ b.toInt ≤ 5)) ∧ (b.toInt = 0 ∨ (nfk w.toNatClampNeg).toInt = b.toInt ∨ (b.toInt = 1 ∧ (nfk w.toNatClampNeg).toInt < 4) ∨ (b.toInt = 4 ∧ (nfk w.toNatClampNeg).toInt = 5)) ∧ w.toInt = w.toInt ∧ u_8.toInt = 0) ∨ (((0 ≤ w.toInt ∧ w.toInt < nwa.toInt) ∧ (0 ≤ b.toInt ∧ b.toInt ≤ 5)) ∧ ¬ (b.toInt = 0 ∨ (nfk w.toNatClampNeg).toInt = b.toInt ∨ (b.toInt = 1 ∧ (nfk w.toNatClampNeg).toInt < 4) ∨ (b.toInt = 4 ∧ (nfk w.toNatClampNeg).toInt = 5)) ∧ w.toInt = (-1000013) ∧ u_8.toInt = 3) ∨ (¬ ((0 ≤ w.toInt ∧ w.toInt < nwa.toInt) ∧ (0 ≤ b.toInt ∧ b.toInt ≤ 5)) ∧ w.toInt = (-1000001) ∧ u_8.toInt = fg.toInt) from by omega) (hP.sub [9, 8, 0, 1, 2, 3, 4, 5, 6, 7] rfl) (hD.sub [9, 8, 0, 1, 2, 3, 4, 5, 6, 7] (by decide) rfl) dX7_as_50
        · subst e_7
          have f_7 : ¬ (b.toInt = 2 ∨ b.toInt = 1 ∨ b.toInt = 0) := f_7
          refine lv_if_ne (tgt := 45) hx hb dX7_as_36 (by decide) (fun c9 => absurd (by decide) c9) (fun _ => ?_)
          refine lv_aload_n hx hb dX7_as_39 rfl (lv_at hl 0 rfl) ?_
          refine lv_iconst (v := 3) hx hb dX7_as_40 (by decide) ?_
          have k_9 := (s_X7_found l D cI cB cQ H.size h rw tp nw ac im fo ak fg 3)
          refine wc_i (WC := [(h, .inr (6, [.ref rw, .ref tp, .ref nw, .ref ac, .ref im, .ref fo, .ref ak, .int fg]))]) (WR := [(nw0, .inl (cI, 8, .inl nfw)), (nw1, .inl (cI, 8, .inl nfo)), (nw2, .inl (cI, 8, .inl nfr)), (nw3, .inl (cI, 8, .inl nfn)), (nw4, .inl (cI, 8, .inl nft)), (nw5, .inl (cI, 3, .inl nfk)), (nw6, .inl (cI, 3, .inl nfa)), (nw7, .inl (cI, 3, .inl nfb)), (nw, .inr (3, [.int nvi, .int nro, .int nwa, .int nlz, .int nds, .int ndy, .int nga, .int npa, .ref nw0, .ref nw1, .ref nw2, .ref nw3, .ref nw4, .ref nw5, .ref nw6, .ref nw7]))]) (va_runV (As := [.int 3]) (rest := []) ⟨hx, hb, hml, hown, hts⟩ k_9 (cwV 1 hts gX7_as_X7_found rfl rfl rfl (by decide +kernel) ⟨Nat.le_of_ble_eq_true rfl, Nat.le_of_ble_eq_true rfl⟩) (wp_V hP hK hD hN [0] (by decide) rfl (ci := 6) rfl rfl) rfl rfl hl.1 rfl (lv_room (Nat.le_of_ble_eq_true rfl)) dX7_as_41 ⟨Nat.le_of_ble_eq_true rfl, Nat.le_of_ble_eq_true rfl⟩) hP hD hS hA [0] [1, 2, 3, 4, 5, 6, 7, 8, 9] rfl rfl (by decide) (by decide) (fun r_9 u_9 H locs hw_9 hP hD hS => ?_)
          clear k_9
          have hP : va_P D kl [(nw0, .inl (cI, 8, .inl nfw)), (nw1, .inl (cI, 8, .inl nfo)), (nw2, .inl (cI, 8, .inl nfr)), (nw3, .inl (cI, 8, .inl nfn)), (nw4, .inl (cI, 8, .inl nft)), (nw5, .inl (cI, 3, .inl nfk)), (nw6, .inl (cI, 3, .inl nfa)), (nw7, .inl (cI, 3, .inl nfb)), (nw, .inr (3, [.int nvi, .int nro, .int nwa, .int nlz, .int nds, .int ndy, .int nga, .int npa, .ref nw0, .ref nw1, .ref nw2, .ref nw3, .ref nw4, .ref nw5, .ref nw6, .ref nw7])), (h, .inr (6, [.ref rw, .ref tp, .ref nw, .ref ac, .ref im, .ref fo, .ref ak, .int u_9]))] H := hP
          have hD : va_D A [(nw0, .inl (cI, 8, .inl nfw)), (nw1, .inl (cI, 8, .inl nfo)), (nw2, .inl (cI, 8, .inl nfr)), (nw3, .inl (cI, 8, .inl nfn)), (nw4, .inl (cI, 8, .inl nft)), (nw5, .inl (cI, 3, .inl nfk)), (nw6, .inl (cI, 3, .inl nfa)), (nw7, .inl (cI, 3, .inl nfb)), (nw, .inr (3, [.int nvi, .int nro, .int nwa, .int nlz, .int nds, .int ndy, .int nga, .int npa, .ref nw0, .ref nw1, .ref nw2, .ref nw3, .ref nw4, .ref nw5, .ref nw6, .ref nw7])), (h, .inr (6, [.ref rw, .ref tp, .ref nw, .ref ac, .ref im, .ref fo, .ref ak, .int u_9]))] := hD
          obtain ⟨c9_0, c9_1⟩ := hw_9
          have c9_1 : u_9.toInt = (3 : Int) := c9_1
          obtain rfl : r_9 = (-1000013) := by first | exact c9_0 | exact c9_0.trans (by decide)
          exact wr_i (v := (-1000013)) hx hb hr hlocks hS u_9 (by exact show (((0 ≤ w.toInt ∧ w.toInt < nwa.toInt) ∧ (0 ≤ b.toInt ∧ b.toInt ≤ 5)) ∧ (b.toInt = 0 ∨ (nfk w.toNatClampNeg).toInt = b.toInt ∨ (b.toInt = 1 ∧ (nfk w.toNatClampNeg).toInt < 4) ∨ (b.toInt = 4 ∧ (nfk w.toNatClampNeg).toInt = 5)) ∧ (-1000013) = w.toInt ∧ u_9.toInt = 0) ∨ (((0 ≤ w.toInt ∧ w.toInt < nwa.toInt) ∧ (0 ≤ b.toInt ∧ b.toInt ≤ 5)) ∧ ¬ (b.toInt = 0 ∨ (nfk w.toNatClampNeg).toInt = b.toInt ∨ (b.toInt = 1 ∧ (nfk w.toNatClampNeg).toInt < 4) ∨ (b.toInt = 4 ∧ (nfk w.toNatClampNeg).toInt = 5)) ∧ (-1000013) = (-1000013) ∧ u_9.toInt = 3) ∨ (¬ ((0 ≤ w.toInt ∧ w.toInt < nwa.toInt) ∧ (0 ≤ b.toInt ∧ b.toInt ≤ 5)) ∧ (-1000013) = (-1000001) ∧ u_9.toInt = fg.toInt) from by omega) (hP.sub [9, 8, 0, 1, 2, 3, 4, 5, 6, 7] rfl) (hD.sub [9, 8, 0, 1, 2, 3, 4, 5, 6, 7] (by decide) rfl) dX7_as_44
      · obtain rfl : x_3 = 3 := Int32.toInt_inj.mp (e9.trans (by decide))
        have hs : (nfk w.toNatClampNeg).toInt = 3 := (congrArg Int32.toInt ex_3.symm).trans (by decide)
        have k_10 := (z_X3_isOf_3 l D cI cB cQ z H.size b (by omega) (h_z))
        refine wc_i (WC := []) (WR := [(h, .inr (6, [.ref rw, .ref tp, .ref nw, .ref ac, .ref im, .ref fo, .ref ak, .int fg])), (nw0, .inl (cI, 8, .inl nfw)), (nw1, .inl (cI, 8, .inl nfo)), (nw2, .inl (cI, 8, .inl nfr)), (nw3, .inl (cI, 8, .inl nfn)), (nw4, .inl (cI, 8, .inl nft)), (nw5, .inl (cI, 3, .inl nfk)), (nw6, .inl (cI, 3, .inl nfa)), (nw7, .inl (cI, 3, .inl nfb)), (nw, .inr (3, [.int nvi, .int nro, .int nwa, .int nlz, .int nds, .int ndy, .int nga, .int npa, .ref nw0, .ref nw1, .ref nw2, .ref nw3, .ref nw4, .ref nw5, .ref nw6, .ref nw7]))]) (va_runS (As := [.int 3, .int b]) (rest := []) ⟨hx, hb, hml, hown, hts⟩ k_10 (va_cwS 2 hts gX7_as_X3_isOf rfl rfl rfl (by decide +kernel) ⟨Nat.le_of_ble_eq_true rfl, Nat.le_of_ble_eq_true rfl⟩) (wpz_S hZ hS hAb hP hK hD hN [] (by decide) rfl) rfl rfl hl.1 rfl (lv_room (Nat.le_of_ble_eq_true rfl)) dX7_as_33 ⟨Nat.le_of_ble_eq_true rfl, Nat.le_of_ble_eq_true rfl⟩) hP hD hS hA [] [0, 1, 2, 3, 4, 5, 6, 7, 8, 9] rfl rfl (by decide) (by decide) (fun r_10 u_10 H locs hw_10 hP hD hS => ?_)
        clear k_10
        have hP : va_P D kl [(h, .inr (6, [.ref rw, .ref tp, .ref nw, .ref ac, .ref im, .ref fo, .ref ak, .int fg])), (nw0, .inl (cI, 8, .inl nfw)), (nw1, .inl (cI, 8, .inl nfo)), (nw2, .inl (cI, 8, .inl nfr)), (nw3, .inl (cI, 8, .inl nfn)), (nw4, .inl (cI, 8, .inl nft)), (nw5, .inl (cI, 3, .inl nfk)), (nw6, .inl (cI, 3, .inl nfa)), (nw7, .inl (cI, 3, .inl nfb)), (nw, .inr (3, [.int nvi, .int nro, .int nwa, .int nlz, .int nds, .int ndy, .int nga, .int npa, .ref nw0, .ref nw1, .ref nw2, .ref nw3, .ref nw4, .ref nw5, .ref nw6, .ref nw7]))] H := hP
        have hD : va_D A [(h, .inr (6, [.ref rw, .ref tp, .ref nw, .ref ac, .ref im, .ref fo, .ref ak, .int fg])), (nw0, .inl (cI, 8, .inl nfw)), (nw1, .inl (cI, 8, .inl nfo)), (nw2, .inl (cI, 8, .inl nfr)), (nw3, .inl (cI, 8, .inl nfn)), (nw4, .inl (cI, 8, .inl nft)), (nw5, .inl (cI, 3, .inl nfk)), (nw6, .inl (cI, 3, .inl nfa)), (nw7, .inl (cI, 3, .inl nfb)), (nw, .inr (3, [.int nvi, .int nro, .int nwa, .int nlz, .int nds, .int ndy, .int nga, .int npa, .ref nw0, .ref nw1, .ref nw2, .ref nw3, .ref nw4, .ref nw5, .ref nw6, .ref nw7]))] := hD
        have c10_0 := hw_10
        rcases c10_0 with ⟨e_10, f_10⟩ | ⟨e_10, f_10⟩
        · subst e_10
          have f_10 : (b.toInt = 3 ∨ b.toInt = 1 ∨ b.toInt = 0) := f_10
          refine lv_if_ne (tgt := 45) hx hb dX7_as_36 (by decide) (fun _ => ?_) (fun c9 => absurd c9 (by decide))
          refine lv_aload_n hx hb dX7_as_45 rfl (lv_at hl 0 rfl) ?_
          refine lv_iload_n hx hb dX7_as_46 rfl (lv_at hl 1 rfl) ?_
          have k_11 := (s_X7_foundNothing l D cI cB cQ H.size h rw tp nw ac im fo ak fg w)
          refine wc_i (WC := [(h, .inr (6, [.ref rw, .ref tp, .ref nw, .ref ac, .ref im, .ref fo, .ref ak, .int fg]))]) (WR := [(nw0, .inl (cI, 8, .inl nfw)), (nw1, .inl (cI, 8, .inl nfo)), (nw2, .inl (cI, 8, .inl nfr)), (nw3, .inl (cI, 8, .inl nfn)), (nw4, .inl (cI, 8, .inl nft)), (nw5, .inl (cI, 3, .inl nfk)), (nw6, .inl (cI, 3, .inl nfa)), (nw7, .inl (cI, 3, .inl nfb)), (nw, .inr (3, [.int nvi, .int nro, .int nwa, .int nlz, .int nds, .int ndy, .int nga, .int npa, .ref nw0, .ref nw1, .ref nw2, .ref nw3, .ref nw4, .ref nw5, .ref nw6, .ref nw7]))]) (va_runV (As := [.int w]) (rest := []) ⟨hx, hb, hml, hown, hts⟩ k_11 (cwV 1 hts gX7_as_X7_foundNothing rfl rfl rfl (by decide +kernel) ⟨Nat.le_of_ble_eq_true rfl, Nat.le_of_ble_eq_true rfl⟩) (wp_V hP hK hD hN [0] (by decide) rfl (ci := 6) rfl rfl) rfl rfl hl.1 rfl (lv_room (Nat.le_of_ble_eq_true rfl)) dX7_as_47 ⟨Nat.le_of_ble_eq_true rfl, Nat.le_of_ble_eq_true rfl⟩) hP hD hS hA [0] [1, 2, 3, 4, 5, 6, 7, 8, 9] rfl rfl (by decide) (by decide) (fun r_11 u_11 H locs hw_11 hP hD hS => ?_)
          clear k_11
          have hP : va_P D kl [(nw0, .inl (cI, 8, .inl nfw)), (nw1, .inl (cI, 8, .inl nfo)), (nw2, .inl (cI, 8, .inl nfr)), (nw3, .inl (cI, 8, .inl nfn)), (nw4, .inl (cI, 8, .inl nft)), (nw5, .inl (cI, 3, .inl nfk)), (nw6, .inl (cI, 3, .inl nfa)), (nw7, .inl (cI, 3, .inl nfb)), (nw, .inr (3, [.int nvi, .int nro, .int nwa, .int nlz, .int nds, .int ndy, .int nga, .int npa, .ref nw0, .ref nw1, .ref nw2, .ref nw3, .ref nw4, .ref nw5, .ref nw6, .ref nw7])), (h, .inr (6, [.ref rw, .ref tp, .ref nw, .ref ac, .ref im, .ref fo, .ref ak, .int u_11]))] H := hP
          have hD : va_D A [(nw0, .inl (cI, 8, .inl nfw)), (nw1, .inl (cI, 8, .inl nfo)), (nw2, .inl (cI, 8, .inl nfr)), (nw3, .inl (cI, 8, .inl nfn)), (nw4, .inl (cI, 8, .inl nft)), (nw5, .inl (cI, 3, .inl nfk)), (nw6, .inl (cI, 3, .inl nfa)), (nw7, .inl (cI, 3, .inl nfb)), (nw, .inr (3, [.int nvi, .int nro, .int nwa, .int nlz, .int nds, .int ndy, .int nga, .int npa, .ref nw0, .ref nw1, .ref nw2, .ref nw3, .ref nw4, .ref nw5, .ref nw6, .ref nw7])), (h, .inr (6, [.ref rw, .ref tp, .ref nw, .ref ac, .ref im, .ref fo, .ref ak, .int u_11]))] := hD
          obtain ⟨c11_0, c11_1⟩ := hw_11
          have c11_1 : u_11.toInt = 0 := c11_1
          rw [c11_0]
          exact wr_i (v := w) hx hb hr hlocks hS u_11 (by exact show (((0 ≤ w.toInt ∧ w.toInt < nwa.toInt) ∧ (0 ≤ b.toInt ∧ b.toInt ≤ 5)) ∧ (b.toInt = 0 ∨ (nfk w.toNatClampNeg).toInt = b.toInt ∨ (b.toInt = 1 ∧ (nfk w.toNatClampNeg).toInt < 4) ∨ (b.toInt = 4 ∧ (nfk w.toNatClampNeg).toInt = 5)) ∧ w.toInt = w.toInt ∧ u_11.toInt = 0) ∨ (((0 ≤ w.toInt ∧ w.toInt < nwa.toInt) ∧ (0 ≤ b.toInt ∧ b.toInt ≤ 5)) ∧ ¬ (b.toInt = 0 ∨ (nfk w.toNatClampNeg).toInt = b.toInt ∨ (b.toInt = 1 ∧ (nfk w.toNatClampNeg).toInt < 4) ∨ (b.toInt = 4 ∧ (nfk w.toNatClampNeg).toInt = 5)) ∧ w.toInt = (-1000013) ∧ u_11.toInt = 3) ∨ (¬ ((0 ≤ w.toInt ∧ w.toInt < nwa.toInt) ∧ (0 ≤ b.toInt ∧ b.toInt ≤ 5)) ∧ w.toInt = (-1000001) ∧ u_11.toInt = fg.toInt) from by omega) (hP.sub [9, 8, 0, 1, 2, 3, 4, 5, 6, 7] rfl) (hD.sub [9, 8, 0, 1, 2, 3, 4, 5, 6, 7] (by decide) rfl) dX7_as_50
        · subst e_10
          have f_10 : ¬ (b.toInt = 3 ∨ b.toInt = 1 ∨ b.toInt = 0) := f_10
          refine lv_if_ne (tgt := 45) hx hb dX7_as_36 (by decide) (fun c9 => absurd (by decide) c9) (fun _ => ?_)
          refine lv_aload_n hx hb dX7_as_39 rfl (lv_at hl 0 rfl) ?_
          refine lv_iconst (v := 3) hx hb dX7_as_40 (by decide) ?_
          have k_12 := (s_X7_found l D cI cB cQ H.size h rw tp nw ac im fo ak fg 3)
          refine wc_i (WC := [(h, .inr (6, [.ref rw, .ref tp, .ref nw, .ref ac, .ref im, .ref fo, .ref ak, .int fg]))]) (WR := [(nw0, .inl (cI, 8, .inl nfw)), (nw1, .inl (cI, 8, .inl nfo)), (nw2, .inl (cI, 8, .inl nfr)), (nw3, .inl (cI, 8, .inl nfn)), (nw4, .inl (cI, 8, .inl nft)), (nw5, .inl (cI, 3, .inl nfk)), (nw6, .inl (cI, 3, .inl nfa)), (nw7, .inl (cI, 3, .inl nfb)), (nw, .inr (3, [.int nvi, .int nro, .int nwa, .int nlz, .int nds, .int ndy, .int nga, .int npa, .ref nw0, .ref nw1, .ref nw2, .ref nw3, .ref nw4, .ref nw5, .ref nw6, .ref nw7]))]) (va_runV (As := [.int 3]) (rest := []) ⟨hx, hb, hml, hown, hts⟩ k_12 (cwV 1 hts gX7_as_X7_found rfl rfl rfl (by decide +kernel) ⟨Nat.le_of_ble_eq_true rfl, Nat.le_of_ble_eq_true rfl⟩) (wp_V hP hK hD hN [0] (by decide) rfl (ci := 6) rfl rfl) rfl rfl hl.1 rfl (lv_room (Nat.le_of_ble_eq_true rfl)) dX7_as_41 ⟨Nat.le_of_ble_eq_true rfl, Nat.le_of_ble_eq_true rfl⟩) hP hD hS hA [0] [1, 2, 3, 4, 5, 6, 7, 8, 9] rfl rfl (by decide) (by decide) (fun r_12 u_12 H locs hw_12 hP hD hS => ?_)
          clear k_12
          have hP : va_P D kl [(nw0, .inl (cI, 8, .inl nfw)), (nw1, .inl (cI, 8, .inl nfo)), (nw2, .inl (cI, 8, .inl nfr)), (nw3, .inl (cI, 8, .inl nfn)), (nw4, .inl (cI, 8, .inl nft)), (nw5, .inl (cI, 3, .inl nfk)), (nw6, .inl (cI, 3, .inl nfa)), (nw7, .inl (cI, 3, .inl nfb)), (nw, .inr (3, [.int nvi, .int nro, .int nwa, .int nlz, .int nds, .int ndy, .int nga, .int npa, .ref nw0, .ref nw1, .ref nw2, .ref nw3, .ref nw4, .ref nw5, .ref nw6, .ref nw7])), (h, .inr (6, [.ref rw, .ref tp, .ref nw, .ref ac, .ref im, .ref fo, .ref ak, .int u_12]))] H := hP
          have hD : va_D A [(nw0, .inl (cI, 8, .inl nfw)), (nw1, .inl (cI, 8, .inl nfo)), (nw2, .inl (cI, 8, .inl nfr)), (nw3, .inl (cI, 8, .inl nfn)), (nw4, .inl (cI, 8, .inl nft)), (nw5, .inl (cI, 3, .inl nfk)), (nw6, .inl (cI, 3, .inl nfa)), (nw7, .inl (cI, 3, .inl nfb)), (nw, .inr (3, [.int nvi, .int nro, .int nwa, .int nlz, .int nds, .int ndy, .int nga, .int npa, .ref nw0, .ref nw1, .ref nw2, .ref nw3, .ref nw4, .ref nw5, .ref nw6, .ref nw7])), (h, .inr (6, [.ref rw, .ref tp, .ref nw, .ref ac, .ref im, .ref fo, .ref ak, .int u_12]))] := hD
          obtain ⟨c12_0, c12_1⟩ := hw_12
          have c12_1 : u_12.toInt = (3 : Int) := c12_1
          obtain rfl : r_12 = (-1000013) := by first | exact c12_0 | exact c12_0.trans (by decide)
          exact wr_i (v := (-1000013)) hx hb hr hlocks hS u_12 (by exact show (((0 ≤ w.toInt ∧ w.toInt < nwa.toInt) ∧ (0 ≤ b.toInt ∧ b.toInt ≤ 5)) ∧ (b.toInt = 0 ∨ (nfk w.toNatClampNeg).toInt = b.toInt ∨ (b.toInt = 1 ∧ (nfk w.toNatClampNeg).toInt < 4) ∨ (b.toInt = 4 ∧ (nfk w.toNatClampNeg).toInt = 5)) ∧ (-1000013) = w.toInt ∧ u_12.toInt = 0) ∨ (((0 ≤ w.toInt ∧ w.toInt < nwa.toInt) ∧ (0 ≤ b.toInt ∧ b.toInt ≤ 5)) ∧ ¬ (b.toInt = 0 ∨ (nfk w.toNatClampNeg).toInt = b.toInt ∨ (b.toInt = 1 ∧ (nfk w.toNatClampNeg).toInt < 4) ∨ (b.toInt = 4 ∧ (nfk w.toNatClampNeg).toInt = 5)) ∧ (-1000013) = (-1000013) ∧ u_12.toInt = 3) ∨ (¬ ((0 ≤ w.toInt ∧ w.toInt < nwa.toInt) ∧ (0 ≤ b.toInt ∧ b.toInt ≤ 5)) ∧ (-1000013) = (-1000001) ∧ u_12.toInt = fg.toInt) from by omega) (hP.sub [9, 8, 0, 1, 2, 3, 4, 5, 6, 7] rfl) (hD.sub [9, 8, 0, 1, 2, 3, 4, 5, 6, 7] (by decide) rfl) dX7_as_44
      · obtain rfl : x_3 = 4 := Int32.toInt_inj.mp (e9.trans (by decide))
        have hs : (nfk w.toNatClampNeg).toInt = 4 := (congrArg Int32.toInt ex_3.symm).trans (by decide)
        have k_13 := (z_X3_isOf_4 l D cI cB cQ z H.size b (by omega) (h_z))
        refine wc_i (WC := []) (WR := [(h, .inr (6, [.ref rw, .ref tp, .ref nw, .ref ac, .ref im, .ref fo, .ref ak, .int fg])), (nw0, .inl (cI, 8, .inl nfw)), (nw1, .inl (cI, 8, .inl nfo)), (nw2, .inl (cI, 8, .inl nfr)), (nw3, .inl (cI, 8, .inl nfn)), (nw4, .inl (cI, 8, .inl nft)), (nw5, .inl (cI, 3, .inl nfk)), (nw6, .inl (cI, 3, .inl nfa)), (nw7, .inl (cI, 3, .inl nfb)), (nw, .inr (3, [.int nvi, .int nro, .int nwa, .int nlz, .int nds, .int ndy, .int nga, .int npa, .ref nw0, .ref nw1, .ref nw2, .ref nw3, .ref nw4, .ref nw5, .ref nw6, .ref nw7]))]) (va_runS (As := [.int 4, .int b]) (rest := []) ⟨hx, hb, hml, hown, hts⟩ k_13 (va_cwS 2 hts gX7_as_X3_isOf rfl rfl rfl (by decide +kernel) ⟨Nat.le_of_ble_eq_true rfl, Nat.le_of_ble_eq_true rfl⟩) (wpz_S hZ hS hAb hP hK hD hN [] (by decide) rfl) rfl rfl hl.1 rfl (lv_room (Nat.le_of_ble_eq_true rfl)) dX7_as_33 ⟨Nat.le_of_ble_eq_true rfl, Nat.le_of_ble_eq_true rfl⟩) hP hD hS hA [] [0, 1, 2, 3, 4, 5, 6, 7, 8, 9] rfl rfl (by decide) (by decide) (fun r_13 u_13 H locs hw_13 hP hD hS => ?_)
        clear k_13
        have hP : va_P D kl [(h, .inr (6, [.ref rw, .ref tp, .ref nw, .ref ac, .ref im, .ref fo, .ref ak, .int fg])), (nw0, .inl (cI, 8, .inl nfw)), (nw1, .inl (cI, 8, .inl nfo)), (nw2, .inl (cI, 8, .inl nfr)), (nw3, .inl (cI, 8, .inl nfn)), (nw4, .inl (cI, 8, .inl nft)), (nw5, .inl (cI, 3, .inl nfk)), (nw6, .inl (cI, 3, .inl nfa)), (nw7, .inl (cI, 3, .inl nfb)), (nw, .inr (3, [.int nvi, .int nro, .int nwa, .int nlz, .int nds, .int ndy, .int nga, .int npa, .ref nw0, .ref nw1, .ref nw2, .ref nw3, .ref nw4, .ref nw5, .ref nw6, .ref nw7]))] H := hP
        have hD : va_D A [(h, .inr (6, [.ref rw, .ref tp, .ref nw, .ref ac, .ref im, .ref fo, .ref ak, .int fg])), (nw0, .inl (cI, 8, .inl nfw)), (nw1, .inl (cI, 8, .inl nfo)), (nw2, .inl (cI, 8, .inl nfr)), (nw3, .inl (cI, 8, .inl nfn)), (nw4, .inl (cI, 8, .inl nft)), (nw5, .inl (cI, 3, .inl nfk)), (nw6, .inl (cI, 3, .inl nfa)), (nw7, .inl (cI, 3, .inl nfb)), (nw, .inr (3, [.int nvi, .int nro, .int nwa, .int nlz, .int nds, .int ndy, .int nga, .int npa, .ref nw0, .ref nw1, .ref nw2, .ref nw3, .ref nw4, .ref nw5, .ref nw6, .ref nw7]))] := hD
        have c13_0 := hw_13
        rcases c13_0 with ⟨e_13, f_13⟩ | ⟨e_13, f_13⟩
        · subst e_13
          have f_13 : (b.toInt = 4 ∨ b.toInt = 0) := f_13
          refine lv_if_ne (tgt := 45) hx hb dX7_as_36 (by decide) (fun _ => ?_) (fun c9 => absurd c9 (by decide))
          refine lv_aload_n hx hb dX7_as_45 rfl (lv_at hl 0 rfl) ?_
          refine lv_iload_n hx hb dX7_as_46 rfl (lv_at hl 1 rfl) ?_
          have k_14 := (s_X7_foundNothing l D cI cB cQ H.size h rw tp nw ac im fo ak fg w)
          refine wc_i (WC := [(h, .inr (6, [.ref rw, .ref tp, .ref nw, .ref ac, .ref im, .ref fo, .ref ak, .int fg]))]) (WR := [(nw0, .inl (cI, 8, .inl nfw)), (nw1, .inl (cI, 8, .inl nfo)), (nw2, .inl (cI, 8, .inl nfr)), (nw3, .inl (cI, 8, .inl nfn)), (nw4, .inl (cI, 8, .inl nft)), (nw5, .inl (cI, 3, .inl nfk)), (nw6, .inl (cI, 3, .inl nfa)), (nw7, .inl (cI, 3, .inl nfb)), (nw, .inr (3, [.int nvi, .int nro, .int nwa, .int nlz, .int nds, .int ndy, .int nga, .int npa, .ref nw0, .ref nw1, .ref nw2, .ref nw3, .ref nw4, .ref nw5, .ref nw6, .ref nw7]))]) (va_runV (As := [.int w]) (rest := []) ⟨hx, hb, hml, hown, hts⟩ k_14 (cwV 1 hts gX7_as_X7_foundNothing rfl rfl rfl (by decide +kernel) ⟨Nat.le_of_ble_eq_true rfl, Nat.le_of_ble_eq_true rfl⟩) (wp_V hP hK hD hN [0] (by decide) rfl (ci := 6) rfl rfl) rfl rfl hl.1 rfl (lv_room (Nat.le_of_ble_eq_true rfl)) dX7_as_47 ⟨Nat.le_of_ble_eq_true rfl, Nat.le_of_ble_eq_true rfl⟩) hP hD hS hA [0] [1, 2, 3, 4, 5, 6, 7, 8, 9] rfl rfl (by decide) (by decide) (fun r_14 u_14 H locs hw_14 hP hD hS => ?_)
          clear k_14
          have hP : va_P D kl [(nw0, .inl (cI, 8, .inl nfw)), (nw1, .inl (cI, 8, .inl nfo)), (nw2, .inl (cI, 8, .inl nfr)), (nw3, .inl (cI, 8, .inl nfn)), (nw4, .inl (cI, 8, .inl nft)), (nw5, .inl (cI, 3, .inl nfk)), (nw6, .inl (cI, 3, .inl nfa)), (nw7, .inl (cI, 3, .inl nfb)), (nw, .inr (3, [.int nvi, .int nro, .int nwa, .int nlz, .int nds, .int ndy, .int nga, .int npa, .ref nw0, .ref nw1, .ref nw2, .ref nw3, .ref nw4, .ref nw5, .ref nw6, .ref nw7])), (h, .inr (6, [.ref rw, .ref tp, .ref nw, .ref ac, .ref im, .ref fo, .ref ak, .int u_14]))] H := hP
          have hD : va_D A [(nw0, .inl (cI, 8, .inl nfw)), (nw1, .inl (cI, 8, .inl nfo)), (nw2, .inl (cI, 8, .inl nfr)), (nw3, .inl (cI, 8, .inl nfn)), (nw4, .inl (cI, 8, .inl nft)), (nw5, .inl (cI, 3, .inl nfk)), (nw6, .inl (cI, 3, .inl nfa)), (nw7, .inl (cI, 3, .inl nfb)), (nw, .inr (3, [.int nvi, .int nro, .int nwa, .int nlz, .int nds, .int ndy, .int nga, .int npa, .ref nw0, .ref nw1, .ref nw2, .ref nw3, .ref nw4, .ref nw5, .ref nw6, .ref nw7])), (h, .inr (6, [.ref rw, .ref tp, .ref nw, .ref ac, .ref im, .ref fo, .ref ak, .int u_14]))] := hD
          obtain ⟨c14_0, c14_1⟩ := hw_14
          have c14_1 : u_14.toInt = 0 := c14_1
          rw [c14_0]
          exact wr_i (v := w) hx hb hr hlocks hS u_14 (by exact show (((0 ≤ w.toInt ∧ w.toInt < nwa.toInt) ∧ (0 ≤ b.toInt ∧ b.toInt ≤ 5)) ∧ (b.toInt = 0 ∨ (nfk w.toNatClampNeg).toInt = b.toInt ∨ (b.toInt = 1 ∧ (nfk w.toNatClampNeg).toInt < 4) ∨ (b.toInt = 4 ∧ (nfk w.toNatClampNeg).toInt = 5)) ∧ w.toInt = w.toInt ∧ u_14.toInt = 0) ∨ (((0 ≤ w.toInt ∧ w.toInt < nwa.toInt) ∧ (0 ≤ b.toInt ∧ b.toInt ≤ 5)) ∧ ¬ (b.toInt = 0 ∨ (nfk w.toNatClampNeg).toInt = b.toInt ∨ (b.toInt = 1 ∧ (nfk w.toNatClampNeg).toInt < 4) ∨ (b.toInt = 4 ∧ (nfk w.toNatClampNeg).toInt = 5)) ∧ w.toInt = (-1000013) ∧ u_14.toInt = 3) ∨ (¬ ((0 ≤ w.toInt ∧ w.toInt < nwa.toInt) ∧ (0 ≤ b.toInt ∧ b.toInt ≤ 5)) ∧ w.toInt = (-1000001) ∧ u_14.toInt = fg.toInt) from by omega) (hP.sub [9, 8, 0, 1, 2, 3, 4, 5, 6, 7] rfl) (hD.sub [9, 8, 0, 1, 2, 3, 4, 5, 6, 7] (by decide) rfl) dX7_as_50
        · subst e_13
          have f_13 : ¬ (b.toInt = 4 ∨ b.toInt = 0) := f_13
          refine lv_if_ne (tgt := 45) hx hb dX7_as_36 (by decide) (fun c9 => absurd (by decide) c9) (fun _ => ?_)
          refine lv_aload_n hx hb dX7_as_39 rfl (lv_at hl 0 rfl) ?_
          refine lv_iconst (v := 3) hx hb dX7_as_40 (by decide) ?_
          have k_15 := (s_X7_found l D cI cB cQ H.size h rw tp nw ac im fo ak fg 3)
          refine wc_i (WC := [(h, .inr (6, [.ref rw, .ref tp, .ref nw, .ref ac, .ref im, .ref fo, .ref ak, .int fg]))]) (WR := [(nw0, .inl (cI, 8, .inl nfw)), (nw1, .inl (cI, 8, .inl nfo)), (nw2, .inl (cI, 8, .inl nfr)), (nw3, .inl (cI, 8, .inl nfn)), (nw4, .inl (cI, 8, .inl nft)), (nw5, .inl (cI, 3, .inl nfk)), (nw6, .inl (cI, 3, .inl nfa)), (nw7, .inl (cI, 3, .inl nfb)), (nw, .inr (3, [.int nvi, .int nro, .int nwa, .int nlz, .int nds, .int ndy, .int nga, .int npa, .ref nw0, .ref nw1, .ref nw2, .ref nw3, .ref nw4, .ref nw5, .ref nw6, .ref nw7]))]) (va_runV (As := [.int 3]) (rest := []) ⟨hx, hb, hml, hown, hts⟩ k_15 (cwV 1 hts gX7_as_X7_found rfl rfl rfl (by decide +kernel) ⟨Nat.le_of_ble_eq_true rfl, Nat.le_of_ble_eq_true rfl⟩) (wp_V hP hK hD hN [0] (by decide) rfl (ci := 6) rfl rfl) rfl rfl hl.1 rfl (lv_room (Nat.le_of_ble_eq_true rfl)) dX7_as_41 ⟨Nat.le_of_ble_eq_true rfl, Nat.le_of_ble_eq_true rfl⟩) hP hD hS hA [0] [1, 2, 3, 4, 5, 6, 7, 8, 9] rfl rfl (by decide) (by decide) (fun r_15 u_15 H locs hw_15 hP hD hS => ?_)
          clear k_15
          have hP : va_P D kl [(nw0, .inl (cI, 8, .inl nfw)), (nw1, .inl (cI, 8, .inl nfo)), (nw2, .inl (cI, 8, .inl nfr)), (nw3, .inl (cI, 8, .inl nfn)), (nw4, .inl (cI, 8, .inl nft)), (nw5, .inl (cI, 3, .inl nfk)), (nw6, .inl (cI, 3, .inl nfa)), (nw7, .inl (cI, 3, .inl nfb)), (nw, .inr (3, [.int nvi, .int nro, .int nwa, .int nlz, .int nds, .int ndy, .int nga, .int npa, .ref nw0, .ref nw1, .ref nw2, .ref nw3, .ref nw4, .ref nw5, .ref nw6, .ref nw7])), (h, .inr (6, [.ref rw, .ref tp, .ref nw, .ref ac, .ref im, .ref fo, .ref ak, .int u_15]))] H := hP
          have hD : va_D A [(nw0, .inl (cI, 8, .inl nfw)), (nw1, .inl (cI, 8, .inl nfo)), (nw2, .inl (cI, 8, .inl nfr)), (nw3, .inl (cI, 8, .inl nfn)), (nw4, .inl (cI, 8, .inl nft)), (nw5, .inl (cI, 3, .inl nfk)), (nw6, .inl (cI, 3, .inl nfa)), (nw7, .inl (cI, 3, .inl nfb)), (nw, .inr (3, [.int nvi, .int nro, .int nwa, .int nlz, .int nds, .int ndy, .int nga, .int npa, .ref nw0, .ref nw1, .ref nw2, .ref nw3, .ref nw4, .ref nw5, .ref nw6, .ref nw7])), (h, .inr (6, [.ref rw, .ref tp, .ref nw, .ref ac, .ref im, .ref fo, .ref ak, .int u_15]))] := hD
          obtain ⟨c15_0, c15_1⟩ := hw_15
          have c15_1 : u_15.toInt = (3 : Int) := c15_1
          obtain rfl : r_15 = (-1000013) := by first | exact c15_0 | exact c15_0.trans (by decide)
          exact wr_i (v := (-1000013)) hx hb hr hlocks hS u_15 (by exact show (((0 ≤ w.toInt ∧ w.toInt < nwa.toInt) ∧ (0 ≤ b.toInt ∧ b.toInt ≤ 5)) ∧ (b.toInt = 0 ∨ (nfk w.toNatClampNeg).toInt = b.toInt ∨ (b.toInt = 1 ∧ (nfk w.toNatClampNeg).toInt < 4) ∨ (b.toInt = 4 ∧ (nfk w.toNatClampNeg).toInt = 5)) ∧ (-1000013) = w.toInt ∧ u_15.toInt = 0) ∨ (((0 ≤ w.toInt ∧ w.toInt < nwa.toInt) ∧ (0 ≤ b.toInt ∧ b.toInt ≤ 5)) ∧ ¬ (b.toInt = 0 ∨ (nfk w.toNatClampNeg).toInt = b.toInt ∨ (b.toInt = 1 ∧ (nfk w.toNatClampNeg).toInt < 4) ∨ (b.toInt = 4 ∧ (nfk w.toNatClampNeg).toInt = 5)) ∧ (-1000013) = (-1000013) ∧ u_15.toInt = 3) ∨ (¬ ((0 ≤ w.toInt ∧ w.toInt < nwa.toInt) ∧ (0 ≤ b.toInt ∧ b.toInt ≤ 5)) ∧ (-1000013) = (-1000001) ∧ u_15.toInt = fg.toInt) from by omega) (hP.sub [9, 8, 0, 1, 2, 3, 4, 5, 6, 7] rfl) (hD.sub [9, 8, 0, 1, 2, 3, 4, 5, 6, 7] (by decide) rfl) dX7_as_44
      · obtain rfl : x_3 = 5 := Int32.toInt_inj.mp (e9.trans (by decide))
        have hs : (nfk w.toNatClampNeg).toInt = 5 := (congrArg Int32.toInt ex_3.symm).trans (by decide)
        have k_16 := (z_X3_isOf_5 l D cI cB cQ z H.size b (by omega) (h_z))
        refine wc_i (WC := []) (WR := [(h, .inr (6, [.ref rw, .ref tp, .ref nw, .ref ac, .ref im, .ref fo, .ref ak, .int fg])), (nw0, .inl (cI, 8, .inl nfw)), (nw1, .inl (cI, 8, .inl nfo)), (nw2, .inl (cI, 8, .inl nfr)), (nw3, .inl (cI, 8, .inl nfn)), (nw4, .inl (cI, 8, .inl nft)), (nw5, .inl (cI, 3, .inl nfk)), (nw6, .inl (cI, 3, .inl nfa)), (nw7, .inl (cI, 3, .inl nfb)), (nw, .inr (3, [.int nvi, .int nro, .int nwa, .int nlz, .int nds, .int ndy, .int nga, .int npa, .ref nw0, .ref nw1, .ref nw2, .ref nw3, .ref nw4, .ref nw5, .ref nw6, .ref nw7]))]) (va_runS (As := [.int 5, .int b]) (rest := []) ⟨hx, hb, hml, hown, hts⟩ k_16 (va_cwS 2 hts gX7_as_X3_isOf rfl rfl rfl (by decide +kernel) ⟨Nat.le_of_ble_eq_true rfl, Nat.le_of_ble_eq_true rfl⟩) (wpz_S hZ hS hAb hP hK hD hN [] (by decide) rfl) rfl rfl hl.1 rfl (lv_room (Nat.le_of_ble_eq_true rfl)) dX7_as_33 ⟨Nat.le_of_ble_eq_true rfl, Nat.le_of_ble_eq_true rfl⟩) hP hD hS hA [] [0, 1, 2, 3, 4, 5, 6, 7, 8, 9] rfl rfl (by decide) (by decide) (fun r_16 u_16 H locs hw_16 hP hD hS => ?_)
        clear k_16
        have hP : va_P D kl [(h, .inr (6, [.ref rw, .ref tp, .ref nw, .ref ac, .ref im, .ref fo, .ref ak, .int fg])), (nw0, .inl (cI, 8, .inl nfw)), (nw1, .inl (cI, 8, .inl nfo)), (nw2, .inl (cI, 8, .inl nfr)), (nw3, .inl (cI, 8, .inl nfn)), (nw4, .inl (cI, 8, .inl nft)), (nw5, .inl (cI, 3, .inl nfk)), (nw6, .inl (cI, 3, .inl nfa)), (nw7, .inl (cI, 3, .inl nfb)), (nw, .inr (3, [.int nvi, .int nro, .int nwa, .int nlz, .int nds, .int ndy, .int nga, .int npa, .ref nw0, .ref nw1, .ref nw2, .ref nw3, .ref nw4, .ref nw5, .ref nw6, .ref nw7]))] H := hP
        have hD : va_D A [(h, .inr (6, [.ref rw, .ref tp, .ref nw, .ref ac, .ref im, .ref fo, .ref ak, .int fg])), (nw0, .inl (cI, 8, .inl nfw)), (nw1, .inl (cI, 8, .inl nfo)), (nw2, .inl (cI, 8, .inl nfr)), (nw3, .inl (cI, 8, .inl nfn)), (nw4, .inl (cI, 8, .inl nft)), (nw5, .inl (cI, 3, .inl nfk)), (nw6, .inl (cI, 3, .inl nfa)), (nw7, .inl (cI, 3, .inl nfb)), (nw, .inr (3, [.int nvi, .int nro, .int nwa, .int nlz, .int nds, .int ndy, .int nga, .int npa, .ref nw0, .ref nw1, .ref nw2, .ref nw3, .ref nw4, .ref nw5, .ref nw6, .ref nw7]))] := hD
        have c16_0 := hw_16
        rcases c16_0 with ⟨e_16, f_16⟩ | ⟨e_16, f_16⟩
        · subst e_16
          have f_16 : (b.toInt = 5 ∨ b.toInt = 4 ∨ b.toInt = 0) := f_16
          refine lv_if_ne (tgt := 45) hx hb dX7_as_36 (by decide) (fun _ => ?_) (fun c9 => absurd c9 (by decide))
          refine lv_aload_n hx hb dX7_as_45 rfl (lv_at hl 0 rfl) ?_
          refine lv_iload_n hx hb dX7_as_46 rfl (lv_at hl 1 rfl) ?_
          have k_17 := (s_X7_foundNothing l D cI cB cQ H.size h rw tp nw ac im fo ak fg w)
          refine wc_i (WC := [(h, .inr (6, [.ref rw, .ref tp, .ref nw, .ref ac, .ref im, .ref fo, .ref ak, .int fg]))]) (WR := [(nw0, .inl (cI, 8, .inl nfw)), (nw1, .inl (cI, 8, .inl nfo)), (nw2, .inl (cI, 8, .inl nfr)), (nw3, .inl (cI, 8, .inl nfn)), (nw4, .inl (cI, 8, .inl nft)), (nw5, .inl (cI, 3, .inl nfk)), (nw6, .inl (cI, 3, .inl nfa)), (nw7, .inl (cI, 3, .inl nfb)), (nw, .inr (3, [.int nvi, .int nro, .int nwa, .int nlz, .int nds, .int ndy, .int nga, .int npa, .ref nw0, .ref nw1, .ref nw2, .ref nw3, .ref nw4, .ref nw5, .ref nw6, .ref nw7]))]) (va_runV (As := [.int w]) (rest := []) ⟨hx, hb, hml, hown, hts⟩ k_17 (cwV 1 hts gX7_as_X7_foundNothing rfl rfl rfl (by decide +kernel) ⟨Nat.le_of_ble_eq_true rfl, Nat.le_of_ble_eq_true rfl⟩) (wp_V hP hK hD hN [0] (by decide) rfl (ci := 6) rfl rfl) rfl rfl hl.1 rfl (lv_room (Nat.le_of_ble_eq_true rfl)) dX7_as_47 ⟨Nat.le_of_ble_eq_true rfl, Nat.le_of_ble_eq_true rfl⟩) hP hD hS hA [0] [1, 2, 3, 4, 5, 6, 7, 8, 9] rfl rfl (by decide) (by decide) (fun r_17 u_17 H locs hw_17 hP hD hS => ?_)
          clear k_17
          have hP : va_P D kl [(nw0, .inl (cI, 8, .inl nfw)), (nw1, .inl (cI, 8, .inl nfo)), (nw2, .inl (cI, 8, .inl nfr)), (nw3, .inl (cI, 8, .inl nfn)), (nw4, .inl (cI, 8, .inl nft)), (nw5, .inl (cI, 3, .inl nfk)), (nw6, .inl (cI, 3, .inl nfa)), (nw7, .inl (cI, 3, .inl nfb)), (nw, .inr (3, [.int nvi, .int nro, .int nwa, .int nlz, .int nds, .int ndy, .int nga, .int npa, .ref nw0, .ref nw1, .ref nw2, .ref nw3, .ref nw4, .ref nw5, .ref nw6, .ref nw7])), (h, .inr (6, [.ref rw, .ref tp, .ref nw, .ref ac, .ref im, .ref fo, .ref ak, .int u_17]))] H := hP
          have hD : va_D A [(nw0, .inl (cI, 8, .inl nfw)), (nw1, .inl (cI, 8, .inl nfo)), (nw2, .inl (cI, 8, .inl nfr)), (nw3, .inl (cI, 8, .inl nfn)), (nw4, .inl (cI, 8, .inl nft)), (nw5, .inl (cI, 3, .inl nfk)), (nw6, .inl (cI, 3, .inl nfa)), (nw7, .inl (cI, 3, .inl nfb)), (nw, .inr (3, [.int nvi, .int nro, .int nwa, .int nlz, .int nds, .int ndy, .int nga, .int npa, .ref nw0, .ref nw1, .ref nw2, .ref nw3, .ref nw4, .ref nw5, .ref nw6, .ref nw7])), (h, .inr (6, [.ref rw, .ref tp, .ref nw, .ref ac, .ref im, .ref fo, .ref ak, .int u_17]))] := hD
          obtain ⟨c17_0, c17_1⟩ := hw_17
          have c17_1 : u_17.toInt = 0 := c17_1
          rw [c17_0]
          exact wr_i (v := w) hx hb hr hlocks hS u_17 (by exact show (((0 ≤ w.toInt ∧ w.toInt < nwa.toInt) ∧ (0 ≤ b.toInt ∧ b.toInt ≤ 5)) ∧ (b.toInt = 0 ∨ (nfk w.toNatClampNeg).toInt = b.toInt ∨ (b.toInt = 1 ∧ (nfk w.toNatClampNeg).toInt < 4) ∨ (b.toInt = 4 ∧ (nfk w.toNatClampNeg).toInt = 5)) ∧ w.toInt = w.toInt ∧ u_17.toInt = 0) ∨ (((0 ≤ w.toInt ∧ w.toInt < nwa.toInt) ∧ (0 ≤ b.toInt ∧ b.toInt ≤ 5)) ∧ ¬ (b.toInt = 0 ∨ (nfk w.toNatClampNeg).toInt = b.toInt ∨ (b.toInt = 1 ∧ (nfk w.toNatClampNeg).toInt < 4) ∨ (b.toInt = 4 ∧ (nfk w.toNatClampNeg).toInt = 5)) ∧ w.toInt = (-1000013) ∧ u_17.toInt = 3) ∨ (¬ ((0 ≤ w.toInt ∧ w.toInt < nwa.toInt) ∧ (0 ≤ b.toInt ∧ b.toInt ≤ 5)) ∧ w.toInt = (-1000001) ∧ u_17.toInt = fg.toInt) from by omega) (hP.sub [9, 8, 0, 1, 2, 3, 4, 5, 6, 7] rfl) (hD.sub [9, 8, 0, 1, 2, 3, 4, 5, 6, 7] (by decide) rfl) dX7_as_50
        · subst e_16
          have f_16 : ¬ (b.toInt = 5 ∨ b.toInt = 4 ∨ b.toInt = 0) := f_16
          refine lv_if_ne (tgt := 45) hx hb dX7_as_36 (by decide) (fun c9 => absurd (by decide) c9) (fun _ => ?_)
          refine lv_aload_n hx hb dX7_as_39 rfl (lv_at hl 0 rfl) ?_
          refine lv_iconst (v := 3) hx hb dX7_as_40 (by decide) ?_
          have k_18 := (s_X7_found l D cI cB cQ H.size h rw tp nw ac im fo ak fg 3)
          refine wc_i (WC := [(h, .inr (6, [.ref rw, .ref tp, .ref nw, .ref ac, .ref im, .ref fo, .ref ak, .int fg]))]) (WR := [(nw0, .inl (cI, 8, .inl nfw)), (nw1, .inl (cI, 8, .inl nfo)), (nw2, .inl (cI, 8, .inl nfr)), (nw3, .inl (cI, 8, .inl nfn)), (nw4, .inl (cI, 8, .inl nft)), (nw5, .inl (cI, 3, .inl nfk)), (nw6, .inl (cI, 3, .inl nfa)), (nw7, .inl (cI, 3, .inl nfb)), (nw, .inr (3, [.int nvi, .int nro, .int nwa, .int nlz, .int nds, .int ndy, .int nga, .int npa, .ref nw0, .ref nw1, .ref nw2, .ref nw3, .ref nw4, .ref nw5, .ref nw6, .ref nw7]))]) (va_runV (As := [.int 3]) (rest := []) ⟨hx, hb, hml, hown, hts⟩ k_18 (cwV 1 hts gX7_as_X7_found rfl rfl rfl (by decide +kernel) ⟨Nat.le_of_ble_eq_true rfl, Nat.le_of_ble_eq_true rfl⟩) (wp_V hP hK hD hN [0] (by decide) rfl (ci := 6) rfl rfl) rfl rfl hl.1 rfl (lv_room (Nat.le_of_ble_eq_true rfl)) dX7_as_41 ⟨Nat.le_of_ble_eq_true rfl, Nat.le_of_ble_eq_true rfl⟩) hP hD hS hA [0] [1, 2, 3, 4, 5, 6, 7, 8, 9] rfl rfl (by decide) (by decide) (fun r_18 u_18 H locs hw_18 hP hD hS => ?_)
          clear k_18
          have hP : va_P D kl [(nw0, .inl (cI, 8, .inl nfw)), (nw1, .inl (cI, 8, .inl nfo)), (nw2, .inl (cI, 8, .inl nfr)), (nw3, .inl (cI, 8, .inl nfn)), (nw4, .inl (cI, 8, .inl nft)), (nw5, .inl (cI, 3, .inl nfk)), (nw6, .inl (cI, 3, .inl nfa)), (nw7, .inl (cI, 3, .inl nfb)), (nw, .inr (3, [.int nvi, .int nro, .int nwa, .int nlz, .int nds, .int ndy, .int nga, .int npa, .ref nw0, .ref nw1, .ref nw2, .ref nw3, .ref nw4, .ref nw5, .ref nw6, .ref nw7])), (h, .inr (6, [.ref rw, .ref tp, .ref nw, .ref ac, .ref im, .ref fo, .ref ak, .int u_18]))] H := hP
          have hD : va_D A [(nw0, .inl (cI, 8, .inl nfw)), (nw1, .inl (cI, 8, .inl nfo)), (nw2, .inl (cI, 8, .inl nfr)), (nw3, .inl (cI, 8, .inl nfn)), (nw4, .inl (cI, 8, .inl nft)), (nw5, .inl (cI, 3, .inl nfk)), (nw6, .inl (cI, 3, .inl nfa)), (nw7, .inl (cI, 3, .inl nfb)), (nw, .inr (3, [.int nvi, .int nro, .int nwa, .int nlz, .int nds, .int ndy, .int nga, .int npa, .ref nw0, .ref nw1, .ref nw2, .ref nw3, .ref nw4, .ref nw5, .ref nw6, .ref nw7])), (h, .inr (6, [.ref rw, .ref tp, .ref nw, .ref ac, .ref im, .ref fo, .ref ak, .int u_18]))] := hD
          obtain ⟨c18_0, c18_1⟩ := hw_18
          have c18_1 : u_18.toInt = (3 : Int) := c18_1
          obtain rfl : r_18 = (-1000013) := by first | exact c18_0 | exact c18_0.trans (by decide)
          exact wr_i (v := (-1000013)) hx hb hr hlocks hS u_18 (by exact show (((0 ≤ w.toInt ∧ w.toInt < nwa.toInt) ∧ (0 ≤ b.toInt ∧ b.toInt ≤ 5)) ∧ (b.toInt = 0 ∨ (nfk w.toNatClampNeg).toInt = b.toInt ∨ (b.toInt = 1 ∧ (nfk w.toNatClampNeg).toInt < 4) ∨ (b.toInt = 4 ∧ (nfk w.toNatClampNeg).toInt = 5)) ∧ (-1000013) = w.toInt ∧ u_18.toInt = 0) ∨ (((0 ≤ w.toInt ∧ w.toInt < nwa.toInt) ∧ (0 ≤ b.toInt ∧ b.toInt ≤ 5)) ∧ ¬ (b.toInt = 0 ∨ (nfk w.toNatClampNeg).toInt = b.toInt ∨ (b.toInt = 1 ∧ (nfk w.toNatClampNeg).toInt < 4) ∨ (b.toInt = 4 ∧ (nfk w.toNatClampNeg).toInt = 5)) ∧ (-1000013) = (-1000013) ∧ u_18.toInt = 3) ∨ (¬ ((0 ≤ w.toInt ∧ w.toInt < nwa.toInt) ∧ (0 ≤ b.toInt ∧ b.toInt ≤ 5)) ∧ (-1000013) = (-1000001) ∧ u_18.toInt = fg.toInt) from by omega) (hP.sub [9, 8, 0, 1, 2, 3, 4, 5, 6, 7] rfl) (hD.sub [9, 8, 0, 1, 2, 3, 4, 5, 6, 7] (by decide) rfl) dX7_as_44
    · subst e_2
      have f_2 : ¬ ((0 : Int) ≤ b.toInt ∧ b.toInt ≤ (5 : Int)) := f_2
      refine lv_if_ne (tgt := 23) hx hb dX7_as_17 (by decide) (fun c9 => absurd (by decide) c9) (fun _ => ?_)
      refine lv_ldc (v := (-1000001)) hx hb hown (hts (.constant RX7 68 (-1000001)) (List.mem_of_getElem? (i := 2) rfl)) dX7_as_20 ?_
      exact wr_i (v := (-1000001)) hx hb hr hlocks hS fg (by exact show (((0 ≤ w.toInt ∧ w.toInt < nwa.toInt) ∧ (0 ≤ b.toInt ∧ b.toInt ≤ 5)) ∧ (b.toInt = 0 ∨ (nfk w.toNatClampNeg).toInt = b.toInt ∨ (b.toInt = 1 ∧ (nfk w.toNatClampNeg).toInt < 4) ∨ (b.toInt = 4 ∧ (nfk w.toNatClampNeg).toInt = 5)) ∧ (-1000001) = w.toInt ∧ fg.toInt = 0) ∨ (((0 ≤ w.toInt ∧ w.toInt < nwa.toInt) ∧ (0 ≤ b.toInt ∧ b.toInt ≤ 5)) ∧ ¬ (b.toInt = 0 ∨ (nfk w.toNatClampNeg).toInt = b.toInt ∨ (b.toInt = 1 ∧ (nfk w.toNatClampNeg).toInt < 4) ∨ (b.toInt = 4 ∧ (nfk w.toNatClampNeg).toInt = 5)) ∧ (-1000001) = (-1000013) ∧ fg.toInt = 3) ∨ (¬ ((0 ≤ w.toInt ∧ w.toInt < nwa.toInt) ∧ (0 ≤ b.toInt ∧ b.toInt ≤ 5)) ∧ (-1000001) = (-1000001) ∧ fg.toInt = fg.toInt) from by omega) (hP.sub [0, 9, 1, 2, 3, 4, 5, 6, 7, 8] rfl) (hD.sub [0, 9, 1, 2, 3, 4, 5, 6, 7, 8] (by decide) rfl) dX7_as_22
  · subst e_1
    have f_1 : ¬ (0 ≤ w.toInt ∧ w.toInt < nwa.toInt) := f_1
    refine lv_if_eq (tgt := 20) hx hb dX7_as_8 (by decide) (fun _ => ?_) (fun c9 => absurd (by decide) c9)
    refine lv_ldc (v := (-1000001)) hx hb hown (hts (.constant RX7 68 (-1000001)) (List.mem_of_getElem? (i := 2) rfl)) dX7_as_20 ?_
    exact wr_i (v := (-1000001)) hx hb hr hlocks hS fg (by exact show (((0 ≤ w.toInt ∧ w.toInt < nwa.toInt) ∧ (0 ≤ b.toInt ∧ b.toInt ≤ 5)) ∧ (b.toInt = 0 ∨ (nfk w.toNatClampNeg).toInt = b.toInt ∨ (b.toInt = 1 ∧ (nfk w.toNatClampNeg).toInt < 4) ∨ (b.toInt = 4 ∧ (nfk w.toNatClampNeg).toInt = 5)) ∧ (-1000001) = w.toInt ∧ fg.toInt = 0) ∨ (((0 ≤ w.toInt ∧ w.toInt < nwa.toInt) ∧ (0 ≤ b.toInt ∧ b.toInt ≤ 5)) ∧ ¬ (b.toInt = 0 ∨ (nfk w.toNatClampNeg).toInt = b.toInt ∨ (b.toInt = 1 ∧ (nfk w.toNatClampNeg).toInt < 4) ∨ (b.toInt = 4 ∧ (nfk w.toNatClampNeg).toInt = 5)) ∧ (-1000001) = (-1000013) ∧ fg.toInt = 3) ∨ (¬ ((0 ≤ w.toInt ∧ w.toInt < nwa.toInt) ∧ (0 ≤ b.toInt ∧ b.toInt ≤ 5)) ∧ (-1000001) = (-1000001) ∧ fg.toInt = fg.toInt) from by omega) (hP.sub [0, 9, 1, 2, 3, 4, 5, 6, 7, 8] rfl) (hD.sub [0, 9, 1, 2, 3, 4, 5, 6, 7, 8] (by decide) rfl) dX7_as_22
set_option maxHeartbeats 4000000 in
set_option maxRecDepth 100000 in
theorem s_X8_isKind (l : Launch) (D : va_G) (cI cB cQ : ClassId) (sz : Nat) (k : Int32) (b : Int32) : mi l yX8_isKind wsX8_isKind ({ frames := 0, cells := 0, slots := 0, locals := 0 }) D cI cB cQ [.int k, .int b] sz [] (fun (r : Int32) (_u : Unit) => ((r = 1 ∧ (b.toInt = 0 ∨ k.toInt = b.toInt ∨ (b.toInt = 1 ∧ k.toInt < 4) ∨ (b.toInt = 4 ∧ k.toInt = 5))) ∨ (r = 0 ∧ ¬ (b.toInt = 0 ∨ k.toInt = b.toInt ∨ (b.toInt = 1 ∧ k.toInt < 4) ∨ (b.toInt = 4 ∧ k.toInt = 5))))) (fun _ => []) 0 0 := by
  refine wm_i (cc := cX8_isKind) (maxL := 2) (ret := (some .boolean)) (by decide) rfl (Nat.le_of_ble_eq_true rfl) ?_
  intro p e s m below meth c A ls hx hb hr hml hown hts hlocks hin hP hK hD hN hA hl hS
  have hown : s.vm.findClass RX8 = some m.cls := hown
  have hl : lv_has ls 2 [(0, .int k), (1, .int b)] := hl
  change W p l e ({ frames := 0, cells := 0, slots := 0, locals := 0 }) s m ([.int k, .int b] : List Value).toArray below meth c s.heap [] 0 0 (MQ below (va_Qi (fun (r : Int32) (_u : Unit) => ((r = 1 ∧ (b.toInt = 0 ∨ k.toInt = b.toInt ∨ (b.toInt = 1 ∧ k.toInt < 4) ∨ (b.toInt = 4 ∧ k.toInt = 5))) ∨ (r = 0 ∧ ¬ (b.toInt = 0 ∨ k.toInt = b.toInt ∨ (b.toInt = 1 ∧ k.toInt < 4) ∨ (b.toInt = 4 ∧ k.toInt = 5))))) (fun u t => wb D A ((fun _ => []) u) t) A) ([.int k, .int b] : List Value).toArray s 0 0 A) (F0 m 0 ls [])
  refine lv_iload_n hx hb dX8_isKind_0 rfl (lv_at hl 1 rfl) ?_
  refine lv_if_eq (tgt := 29) hx hb dX8_isKind_1 (by decide) (fun c_1 => ?_) (fun c_1 => ?_)
  · have f_1 : b.toInt = 0 := zi_eq c_1
    refine lv_iconst (v := 1) hx hb dX8_isKind_29 (by decide) ?_
    refine lv_goto (tgt := 34) hx hb dX8_isKind_30 (by decide) ?_
    exact wr_z (v := 1) hx hb hr hlocks hS () (by exact Or.inl ⟨rfl, show (b.toInt = 0 ∨ k.toInt = b.toInt ∨ (b.toInt = 1 ∧ k.toInt < 4) ∨ (b.toInt = 4 ∧ k.toInt = 5)) from by omega⟩) (hP.sub [] rfl) (hD.sub [] (by decide) rfl) dX8_isKind_34 rfl
  · have f_1 : ¬ b.toInt = 0 := zi_ne c_1
    refine lv_iload_n hx hb dX8_isKind_4 rfl (lv_at hl 0 rfl) ?_
    refine lv_iload_n hx hb dX8_isKind_5 rfl (lv_at hl 1 rfl) ?_
    refine lv_icmp_eq (tgt := 29) hx hb dX8_isKind_6 (by decide) (fun c_2 => ?_) (fun c_2 => ?_)
    · have f_2 : k.toInt = b.toInt := zi_eq c_2
      refine lv_iconst (v := 1) hx hb dX8_isKind_29 (by decide) ?_
      refine lv_goto (tgt := 34) hx hb dX8_isKind_30 (by decide) ?_
      exact wr_z (v := 1) hx hb hr hlocks hS () (by exact Or.inl ⟨rfl, show (b.toInt = 0 ∨ k.toInt = b.toInt ∨ (b.toInt = 1 ∧ k.toInt < 4) ∨ (b.toInt = 4 ∧ k.toInt = 5)) from by omega⟩) (hP.sub [] rfl) (hD.sub [] (by decide) rfl) dX8_isKind_34 rfl
    · have f_2 : ¬ k.toInt = b.toInt := zi_ne c_2
      refine lv_iload_n hx hb dX8_isKind_9 rfl (lv_at hl 1 rfl) ?_
      refine lv_iconst (v := 1) hx hb dX8_isKind_10 (by decide) ?_
      refine lv_icmp_ne (tgt := 19) hx hb dX8_isKind_11 (by decide) (fun c_3 => ?_) (fun c_3 => ?_)
      · have f_3 : ¬ b.toInt = 1 := zi_ne c_3
        refine lv_iload_n hx hb dX8_isKind_19 rfl (lv_at hl 1 rfl) ?_
        refine lv_iconst (v := 4) hx hb dX8_isKind_20 (by decide) ?_
        refine lv_icmp_ne (tgt := 33) hx hb dX8_isKind_21 (by decide) (fun c_4 => ?_) (fun c_4 => ?_)
        · have f_4 : ¬ b.toInt = 4 := zi_ne c_4
          refine lv_iconst (v := 0) hx hb dX8_isKind_33 (by decide) ?_
          exact wr_z (v := 0) hx hb hr hlocks hS () (by exact Or.inr (⟨rfl, show ¬ (b.toInt = 0 ∨ k.toInt = b.toInt ∨ (b.toInt = 1 ∧ k.toInt < 4) ∨ (b.toInt = 4 ∧ k.toInt = 5)) from by omega⟩)) (hP.sub [] rfl) (hD.sub [] (by decide) rfl) dX8_isKind_34 rfl
        · have f_4 : b.toInt = 4 := zi_eq c_4
          refine lv_iload_n hx hb dX8_isKind_24 rfl (lv_at hl 0 rfl) ?_
          refine lv_iconst (v := 5) hx hb dX8_isKind_25 (by decide) ?_
          refine lv_icmp_ne (tgt := 33) hx hb dX8_isKind_26 (by decide) (fun c_5 => ?_) (fun c_5 => ?_)
          · have f_5 : ¬ k.toInt = 5 := zi_ne c_5
            refine lv_iconst (v := 0) hx hb dX8_isKind_33 (by decide) ?_
            exact wr_z (v := 0) hx hb hr hlocks hS () (by exact Or.inr (⟨rfl, show ¬ (b.toInt = 0 ∨ k.toInt = b.toInt ∨ (b.toInt = 1 ∧ k.toInt < 4) ∨ (b.toInt = 4 ∧ k.toInt = 5)) from by omega⟩)) (hP.sub [] rfl) (hD.sub [] (by decide) rfl) dX8_isKind_34 rfl
          · have f_5 : k.toInt = 5 := zi_eq c_5
            refine lv_iconst (v := 1) hx hb dX8_isKind_29 (by decide) ?_
            refine lv_goto (tgt := 34) hx hb dX8_isKind_30 (by decide) ?_
            exact wr_z (v := 1) hx hb hr hlocks hS () (by exact Or.inl ⟨rfl, show (b.toInt = 0 ∨ k.toInt = b.toInt ∨ (b.toInt = 1 ∧ k.toInt < 4) ∨ (b.toInt = 4 ∧ k.toInt = 5)) from by omega⟩) (hP.sub [] rfl) (hD.sub [] (by decide) rfl) dX8_isKind_34 rfl
      · have f_3 : b.toInt = 1 := zi_eq c_3
        refine lv_iload_n hx hb dX8_isKind_14 rfl (lv_at hl 0 rfl) ?_
        refine lv_iconst (v := 4) hx hb dX8_isKind_15 (by decide) ?_
        refine lv_icmp_lt (tgt := 29) hx hb dX8_isKind_16 (by decide) (fun c_6 => ?_) (fun c_6 => ?_)
        · have f_6 : k.toInt < 4 := zi_lt c_6
          refine lv_iconst (v := 1) hx hb dX8_isKind_29 (by decide) ?_
          refine lv_goto (tgt := 34) hx hb dX8_isKind_30 (by decide) ?_
          exact wr_z (v := 1) hx hb hr hlocks hS () (by exact Or.inl ⟨rfl, show (b.toInt = 0 ∨ k.toInt = b.toInt ∨ (b.toInt = 1 ∧ k.toInt < 4) ∨ (b.toInt = 4 ∧ k.toInt = 5)) from by omega⟩) (hP.sub [] rfl) (hD.sub [] (by decide) rfl) dX8_isKind_34 rfl
        · have f_6 : ¬ k.toInt < 4 := zi_nlt c_6
          refine lv_iload_n hx hb dX8_isKind_19 rfl (lv_at hl 1 rfl) ?_
          refine lv_iconst (v := 4) hx hb dX8_isKind_20 (by decide) ?_
          refine lv_icmp_ne (tgt := 33) hx hb dX8_isKind_21 (by decide) (fun c_7 => ?_) (fun c_7 => ?_)
          · have f_7 : ¬ b.toInt = 4 := zi_ne c_7
            refine lv_iconst (v := 0) hx hb dX8_isKind_33 (by decide) ?_
            exact wr_z (v := 0) hx hb hr hlocks hS () (by exact Or.inr (⟨rfl, show ¬ (b.toInt = 0 ∨ k.toInt = b.toInt ∨ (b.toInt = 1 ∧ k.toInt < 4) ∨ (b.toInt = 4 ∧ k.toInt = 5)) from by omega⟩)) (hP.sub [] rfl) (hD.sub [] (by decide) rfl) dX8_isKind_34 rfl
          · have f_7 : b.toInt = 4 := zi_eq c_7
            exfalso; omega
set_option maxHeartbeats 4000000 in
set_option maxRecDepth 100000 in
theorem s_X8_as (l : Launch) (D : va_G) (cI cB cQ : ClassId) (sz : Nat) (h : Nat) (sl : Nat) (zs : Nat) (ln : Nat) (ir : Nat) (tk : Nat) (tb : Nat) (tr : Nat) (fz : Nat) (na : Int32) (su : Int32) (le : Int32) (fu : Int32) (ap : Int32) (pp : Int32) (tc : Int32) (nm : Int32) (v : Int32) (b : Int32) (sf : Nat → Int32) (v0 : Int) (hsi : SI sf v0) : mi l yX8_as wsX8_as ({ frames := 2, cells := 0, slots := 0, locals := 46 }) D cI cB cQ [.ref h, .int v, .int b] sz [(h, .inr (7, [.ref sl, .int na, .ref zs, .ref ln, .ref ir, .ref tk, .int su, .int le, .ref tb, .int fu, .int ap, .int pp, .ref tr, .int tc, .ref fz, .int nm])), (sl, .inl (cI, 1653, .inl sf))] (fun (r : Int32) (u : Int32) => ((((0 ≤ v.toInt ∧ v.toInt < (sf 2).toInt) ∧ (0 ≤ b.toInt ∧ b.toInt ≤ 5)) ∧ (b.toInt = 0 ∨ (sf (20 + v.toNatClampNeg)).toInt = b.toInt ∨ (b.toInt = 1 ∧ (sf (20 + v.toNatClampNeg)).toInt < 4) ∨ (b.toInt = 4 ∧ (sf (20 + v.toNatClampNeg)).toInt = 5)) ∧ r.toInt = v.toInt ∧ u.toInt = 0) ∨ (((0 ≤ v.toInt ∧ v.toInt < (sf 2).toInt) ∧ (0 ≤ b.toInt ∧ b.toInt ≤ 5)) ∧ ¬ (b.toInt = 0 ∨ (sf (20 + v.toNatClampNeg)).toInt = b.toInt ∨ (b.toInt = 1 ∧ (sf (20 + v.toNatClampNeg)).toInt < 4) ∨ (b.toInt = 4 ∧ (sf (20 + v.toNatClampNeg)).toInt = 5)) ∧ r.toInt = (-1000013) ∧ u.toInt = 3) ∨ (¬ ((0 ≤ v.toInt ∧ v.toInt < (sf 2).toInt) ∧ (0 ≤ b.toInt ∧ b.toInt ≤ 5)) ∧ r.toInt = (-1000001) ∧ u.toInt = su.toInt))) (fun u => [(h, .inr (7, [.ref sl, .int na, .ref zs, .ref ln, .ref ir, .ref tk, .int u, .int le, .ref tb, .int fu, .int ap, .int pp, .ref tr, .int tc, .ref fz, .int nm])), (sl, .inl (cI, 1653, .inl sf))]) 0 0 := by
  refine wm_i (cc := cX8_as) (maxL := 3) (ret := (some .int)) (by decide) rfl (Nat.le_of_ble_eq_true rfl) ?_
  intro p e s m below meth c A ls hx hb hr hml hown hts hlocks hin hP hK hD hN hA hl hS
  have hown : s.vm.findClass RX8 = some m.cls := hown
  have hl : lv_has ls 3 [(0, .ref h), (1, .int v), (2, .int b)] := hl
  change W p l e ({ frames := 2, cells := 0, slots := 0, locals := 46 }) s m ([.ref h, .int v, .int b] : List Value).toArray below meth c s.heap [] 0 0 (MQ below (va_Qi (fun (r : Int32) (u : Int32) => ((((0 ≤ v.toInt ∧ v.toInt < (sf 2).toInt) ∧ (0 ≤ b.toInt ∧ b.toInt ≤ 5)) ∧ (b.toInt = 0 ∨ (sf (20 + v.toNatClampNeg)).toInt = b.toInt ∨ (b.toInt = 1 ∧ (sf (20 + v.toNatClampNeg)).toInt < 4) ∨ (b.toInt = 4 ∧ (sf (20 + v.toNatClampNeg)).toInt = 5)) ∧ r.toInt = v.toInt ∧ u.toInt = 0) ∨ (((0 ≤ v.toInt ∧ v.toInt < (sf 2).toInt) ∧ (0 ≤ b.toInt ∧ b.toInt ≤ 5)) ∧ ¬ (b.toInt = 0 ∨ (sf (20 + v.toNatClampNeg)).toInt = b.toInt ∨ (b.toInt = 1 ∧ (sf (20 + v.toNatClampNeg)).toInt < 4) ∨ (b.toInt = 4 ∧ (sf (20 + v.toNatClampNeg)).toInt = 5)) ∧ r.toInt = (-1000013) ∧ u.toInt = 3) ∨ (¬ ((0 ≤ v.toInt ∧ v.toInt < (sf 2).toInt) ∧ (0 ≤ b.toInt ∧ b.toInt ≤ 5)) ∧ r.toInt = (-1000001) ∧ u.toInt = su.toInt))) (fun u t => wb D A ((fun u => [(h, .inr (7, [.ref sl, .int na, .ref zs, .ref ln, .ref ir, .ref tk, .int u, .int le, .ref tb, .int fu, .int ap, .int pp, .ref tr, .int tc, .ref fz, .int nm])), (sl, .inl (cI, 1653, .inl sf))]) u) t) A) ([.ref h, .int v, .int b] : List Value).toArray s 0 0 A) (F0 m 0 ls [])
  refine lv_aload_n hx hb dX8_as_0 rfl (lv_at hl 0 rfl) ?_
  refine lv_iload_n hx hb dX8_as_1 rfl (lv_at hl 1 rfl) ?_
  have k_1 := (f_X8_isWalkerThere l D cI cB cQ s.heap.size h sl zs ln ir tk tb tr fz na su le fu ap pp tc nm v sf v0 hsi)
  refine wc_i (WC := [(h, .inr (7, [.ref sl, .int na, .ref zs, .ref ln, .ref ir, .ref tk, .int su, .int le, .ref tb, .int fu, .int ap, .int pp, .ref tr, .int tc, .ref fz, .int nm])), (sl, .inl (cI, 1653, .inl sf))]) (WR := []) (va_runV (As := [.int v]) (rest := []) ⟨hx, hb, hml, hown, hts⟩ k_1 (cwV 1 hts gX8_as_X8_isWalkerThere rfl rfl rfl (by decide +kernel) ⟨Nat.le_of_ble_eq_true rfl, Nat.le_of_ble_eq_true rfl⟩) (wp_V hP hK hD hN [0, 1] (by decide) rfl (ci := 7) rfl rfl) rfl rfl hl.1 rfl (lv_room (Nat.le_of_ble_eq_true rfl)) dX8_as_2 ⟨Nat.le_of_ble_eq_true rfl, Nat.le_of_ble_eq_true rfl⟩) hP hD hS hA [0, 1] [] rfl rfl (by decide) (by decide) (fun r_1 u_1 H locs hw_1 hP hD hS => ?_)
  clear k_1
  have hP : va_P D kl [(h, .inr (7, [.ref sl, .int na, .ref zs, .ref ln, .ref ir, .ref tk, .int su, .int le, .ref tb, .int fu, .int ap, .int pp, .ref tr, .int tc, .ref fz, .int nm])), (sl, .inl (cI, 1653, .inl sf))] H := hP
  have hD : va_D A [(h, .inr (7, [.ref sl, .int na, .ref zs, .ref ln, .ref ir, .ref tk, .int su, .int le, .ref tb, .int fu, .int ap, .int pp, .ref tr, .int tc, .ref fz, .int nm])), (sl, .inl (cI, 1653, .inl sf))] := hD
  have c1_0 := hw_1
  rcases c1_0 with ⟨e_1, f_1⟩ | ⟨e_1, f_1⟩
  · subst e_1
    have f_1 : 0 ≤ v.toInt ∧ v.toInt ≤ 2 ∧ v.toInt < (sf 2).toInt := f_1
    refine lv_if_eq (tgt := 20) hx hb dX8_as_5 (by decide) (fun c9 => absurd c9 (by decide)) (fun _ => ?_)
    refine lv_iload_n hx hb dX8_as_8 rfl (lv_at hl 2 rfl) ?_
    refine lv_i2l (v := (b.toInt64)) hx hb dX8_as_9 rfl ?_
    refine lv_lconst (v := 0) hx hb dX8_as_10 (by decide) ?_
    refine lv_ldc2 (v := 5) hx hb hown (hts (.constantLong RX8 155 (5)) (List.mem_of_getElem? (i := 1) rfl)) dX8_as_11 ?_
    have k_2 := (g_X8_in l D cI cB cQ H.size (b.toInt64) 0 5)
    refine wc_i (WC := []) (WR := [(h, .inr (7, [.ref sl, .int na, .ref zs, .ref ln, .ref ir, .ref tk, .int su, .int le, .ref tb, .int fu, .int ap, .int pp, .ref tr, .int tc, .ref fz, .int nm])), (sl, .inl (cI, 1653, .inl sf))]) (va_runS (As := [.long (b.toInt64), .long 0, .long 5]) (rest := []) ⟨hx, hb, hml, hown, hts⟩ k_2 (va_cwS 3 hts gX8_as_X8_in rfl rfl rfl (by decide +kernel) ⟨Nat.le_of_ble_eq_true rfl, Nat.le_of_ble_eq_true rfl⟩) (wp_S hP hK hD hN [] (by decide) rfl) rfl rfl hl.1 rfl (lv_room (Nat.le_of_ble_eq_true rfl)) dX8_as_14 ⟨Nat.le_of_ble_eq_true rfl, Nat.le_of_ble_eq_true rfl⟩) hP hD hS hA [] [0, 1] rfl rfl (by decide) (by decide) (fun r_2 u_2 H locs hw_2 hP hD hS => ?_)
    clear k_2
    have hP : va_P D kl [(h, .inr (7, [.ref sl, .int na, .ref zs, .ref ln, .ref ir, .ref tk, .int su, .int le, .ref tb, .int fu, .int ap, .int pp, .ref tr, .int tc, .ref fz, .int nm])), (sl, .inl (cI, 1653, .inl sf))] H := hP
    have hD : va_D A [(h, .inr (7, [.ref sl, .int na, .ref zs, .ref ln, .ref ir, .ref tk, .int su, .int le, .ref tb, .int fu, .int ap, .int pp, .ref tr, .int tc, .ref fz, .int nm])), (sl, .inl (cI, 1653, .inl sf))] := hD
    have c2_0 := hw_2
    rcases c2_0 with ⟨e_2, f_2⟩ | ⟨e_2, f_2⟩
    · subst e_2
      have f_2 : (0 : Int) ≤ b.toInt ∧ b.toInt ≤ (5 : Int) := by
        have h8 := f_2
        try simp only [zl_of] at h8
        exact h8
      refine lv_if_ne (tgt := 23) hx hb dX8_as_17 (by decide) (fun _ => ?_) (fun c9 => absurd c9 (by decide))
      refine lv_aload_n hx hb dX8_as_23 rfl (lv_at hl 0 rfl) ?_
      refine va_get (D := D) (ci := 7) (v := .ref sl) (C := RX8) (T := TX8) (N := 16) hx hb hts (fun _ h => List.mem_cons_of_mem _ (List.mem_append_right _ h)) hown hK hP 0 rfl rfl 0 (by decide) (hts (.fieldLink RX8 7 "WinterWalkModel" "slot" "[I") (List.mem_of_getElem? (i := 3) rfl)) (fun _ h9 => h9) rfl dX8_as_24 ?_
      refine lv_bipush (v := 20) hx hb dX8_as_27 (by decide) ?_
      refine lv_iload_n hx hb dX8_as_29 rfl (lv_at hl 1 rfl) ?_
      refine lv_iadd hx hb dX8_as_30 ?_
      refine lv_topi (fun x_3 ex_3 => ?_)
      have e_3 : x_3.toInt = 20 + v.toInt := by rw [ex_3]; exact zi_add (by decide) (rfl) (by omega) (by omega)
      clear ex_3
      refine va_iald hx hb hK hP 1 0 rfl rfl (zi_in (by omega) (by omega)) dX8_as_31 ?_
      refine lv_topi (fun x_4 ex_4 => ?_)
      refine lv_iload_n hx hb dX8_as_32 rfl (lv_at hl 2 rfl) ?_
      have hs : x_4.toInt = (sf (20 + v.toNatClampNeg)).toInt := by rw [ex_4]; exact congrArg (fun q => (sf q).toInt) (by have h9 := zi_cn (x := x_3) (by omega); have h8 := zi_cn (x := v) (by omega); omega)
      have k_5 := (s_X8_isKind l D cI cB cQ H.size x_4 b)
      refine wc_i (WC := []) (WR := [(h, .inr (7, [.ref sl, .int na, .ref zs, .ref ln, .ref ir, .ref tk, .int su, .int le, .ref tb, .int fu, .int ap, .int pp, .ref tr, .int tc, .ref fz, .int nm])), (sl, .inl (cI, 1653, .inl sf))]) (va_runS (As := [.int x_4, .int b]) (rest := []) ⟨hx, hb, hml, hown, hts⟩ k_5 (va_cwS 2 hts gX8_as_X8_isKind rfl rfl rfl (by decide +kernel) ⟨Nat.le_of_ble_eq_true rfl, Nat.le_of_ble_eq_true rfl⟩) (wp_S hP hK hD hN [] (by decide) rfl) rfl rfl hl.1 rfl (lv_room (Nat.le_of_ble_eq_true rfl)) dX8_as_33 ⟨Nat.le_of_ble_eq_true rfl, Nat.le_of_ble_eq_true rfl⟩) hP hD hS hA [] [0, 1] rfl rfl (by decide) (by decide) (fun r_5 u_5 H locs hw_5 hP hD hS => ?_)
      clear k_5
      have hP : va_P D kl [(h, .inr (7, [.ref sl, .int na, .ref zs, .ref ln, .ref ir, .ref tk, .int su, .int le, .ref tb, .int fu, .int ap, .int pp, .ref tr, .int tc, .ref fz, .int nm])), (sl, .inl (cI, 1653, .inl sf))] H := hP
      have hD : va_D A [(h, .inr (7, [.ref sl, .int na, .ref zs, .ref ln, .ref ir, .ref tk, .int su, .int le, .ref tb, .int fu, .int ap, .int pp, .ref tr, .int tc, .ref fz, .int nm])), (sl, .inl (cI, 1653, .inl sf))] := hD
      have c5_0 := hw_5
      rcases c5_0 with ⟨e_5, f_5⟩ | ⟨e_5, f_5⟩
      · subst e_5
        have f_5 : (b.toInt = 0 ∨ x_4.toInt = b.toInt ∨ (b.toInt = 1 ∧ x_4.toInt < 4) ∨ (b.toInt = 4 ∧ x_4.toInt = 5)) := f_5
        refine lv_if_eq (tgt := 47) hx hb dX8_as_36 (by decide) (fun c9 => absurd c9 (by decide)) (fun _ => ?_)
        refine lv_aload_n hx hb dX8_as_39 rfl (lv_at hl 0 rfl) ?_
        refine lv_iload_n hx hb dX8_as_40 rfl (lv_at hl 1 rfl) ?_
        have k_6 := (s_X8_told l D cI cB cQ H.size h sl zs ln ir tk tb tr fz na su le fu ap pp tc nm v)
        refine wc_i (WC := [(h, .inr (7, [.ref sl, .int na, .ref zs, .ref ln, .ref ir, .ref tk, .int su, .int le, .ref tb, .int fu, .int ap, .int pp, .ref tr, .int tc, .ref fz, .int nm]))]) (WR := [(sl, .inl (cI, 1653, .inl sf))]) (va_runV (As := [.int v]) (rest := []) ⟨hx, hb, hml, hown, hts⟩ k_6 (cwV 1 hts gX8_as_X8_told rfl rfl rfl (by decide +kernel) ⟨Nat.le_of_ble_eq_true rfl, Nat.le_of_ble_eq_true rfl⟩) (wp_V hP hK hD hN [0] (by decide) rfl (ci := 7) rfl rfl) rfl rfl hl.1 rfl (lv_room (Nat.le_of_ble_eq_true rfl)) dX8_as_41 ⟨Nat.le_of_ble_eq_true rfl, Nat.le_of_ble_eq_true rfl⟩) hP hD hS hA [0] [1] rfl rfl (by decide) (by decide) (fun r_6 u_6 H locs hw_6 hP hD hS => ?_)
        clear k_6
        have hP : va_P D kl [(sl, .inl (cI, 1653, .inl sf)), (h, .inr (7, [.ref sl, .int na, .ref zs, .ref ln, .ref ir, .ref tk, .int u_6, .int le, .ref tb, .int fu, .int ap, .int pp, .ref tr, .int tc, .ref fz, .int nm]))] H := hP
        have hD : va_D A [(sl, .inl (cI, 1653, .inl sf)), (h, .inr (7, [.ref sl, .int na, .ref zs, .ref ln, .ref ir, .ref tk, .int u_6, .int le, .ref tb, .int fu, .int ap, .int pp, .ref tr, .int tc, .ref fz, .int nm]))] := hD
        obtain ⟨c6_0, c6_1⟩ := hw_6
        have c6_1 : u_6.toInt = 0 := c6_1
        rw [c6_0]
        refine lv_goto (tgt := 52) hx hb dX8_as_44 (by decide) ?_
        exact wr_i (v := v) hx hb hr hlocks hS u_6 (by exact show (((0 ≤ v.toInt ∧ v.toInt < (sf 2).toInt) ∧ (0 ≤ b.toInt ∧ b.toInt ≤ 5)) ∧ (b.toInt = 0 ∨ (sf (20 + v.toNatClampNeg)).toInt = b.toInt ∨ (b.toInt = 1 ∧ (sf (20 + v.toNatClampNeg)).toInt < 4) ∨ (b.toInt = 4 ∧ (sf (20 + v.toNatClampNeg)).toInt = 5)) ∧ v.toInt = v.toInt ∧ u_6.toInt = 0) ∨ (((0 ≤ v.toInt ∧ v.toInt < (sf 2).toInt) ∧ (0 ≤ b.toInt ∧ b.toInt ≤ 5)) ∧ ¬ (b.toInt = 0 ∨ (sf (20 + v.toNatClampNeg)).toInt = b.toInt ∨ (b.toInt = 1 ∧ (sf (20 + v.toNatClampNeg)).toInt < 4) ∨ (b.toInt = 4 ∧ (sf (20 + v.toNatClampNeg)).toInt = 5)) ∧ v.toInt = (-1000013) ∧ u_6.toInt = 3) ∨ (¬ ((0 ≤ v.toInt ∧ v.toInt < (sf 2).toInt) ∧ (0 ≤ b.toInt ∧ b.toInt ≤ 5)) ∧ v.toInt = (-1000001) ∧ u_6.toInt = su.toInt) from by omega) (hP.sub [1, 0] rfl) (hD.sub [1, 0] (by decide) rfl) dX8_as_52
      · subst e_5
        have f_5 : ¬ (b.toInt = 0 ∨ x_4.toInt = b.toInt ∨ (b.toInt = 1 ∧ x_4.toInt < 4) ∨ (b.toInt = 4 ∧ x_4.toInt = 5)) := f_5
        refine lv_if_eq (tgt := 47) hx hb dX8_as_36 (by decide) (fun _ => ?_) (fun c9 => absurd (by decide) c9)
        refine lv_aload_n hx hb dX8_as_47 rfl (lv_at hl 0 rfl) ?_
        refine lv_iconst (v := 3) hx hb dX8_as_48 (by decide) ?_
        have k_7 := (s_X8_finds l D cI cB cQ H.size h sl zs ln ir tk tb tr fz na su le fu ap pp tc nm 3)
        refine wc_i (WC := [(h, .inr (7, [.ref sl, .int na, .ref zs, .ref ln, .ref ir, .ref tk, .int su, .int le, .ref tb, .int fu, .int ap, .int pp, .ref tr, .int tc, .ref fz, .int nm]))]) (WR := [(sl, .inl (cI, 1653, .inl sf))]) (va_runV (As := [.int 3]) (rest := []) ⟨hx, hb, hml, hown, hts⟩ k_7 (cwV 1 hts gX8_as_X8_finds rfl rfl rfl (by decide +kernel) ⟨Nat.le_of_ble_eq_true rfl, Nat.le_of_ble_eq_true rfl⟩) (wp_V hP hK hD hN [0] (by decide) rfl (ci := 7) rfl rfl) rfl rfl hl.1 rfl (lv_room (Nat.le_of_ble_eq_true rfl)) dX8_as_49 ⟨Nat.le_of_ble_eq_true rfl, Nat.le_of_ble_eq_true rfl⟩) hP hD hS hA [0] [1] rfl rfl (by decide) (by decide) (fun r_7 u_7 H locs hw_7 hP hD hS => ?_)
        clear k_7
        have hP : va_P D kl [(sl, .inl (cI, 1653, .inl sf)), (h, .inr (7, [.ref sl, .int na, .ref zs, .ref ln, .ref ir, .ref tk, .int u_7, .int le, .ref tb, .int fu, .int ap, .int pp, .ref tr, .int tc, .ref fz, .int nm]))] H := hP
        have hD : va_D A [(sl, .inl (cI, 1653, .inl sf)), (h, .inr (7, [.ref sl, .int na, .ref zs, .ref ln, .ref ir, .ref tk, .int u_7, .int le, .ref tb, .int fu, .int ap, .int pp, .ref tr, .int tc, .ref fz, .int nm]))] := hD
        obtain ⟨c7_0, c7_1⟩ := hw_7
        have c7_1 : u_7.toInt = (3 : Int) := c7_1
        obtain rfl : r_7 = (-1000013) := by first | exact c7_0 | exact c7_0.trans (by decide)
        exact wr_i (v := (-1000013)) hx hb hr hlocks hS u_7 (by exact show (((0 ≤ v.toInt ∧ v.toInt < (sf 2).toInt) ∧ (0 ≤ b.toInt ∧ b.toInt ≤ 5)) ∧ (b.toInt = 0 ∨ (sf (20 + v.toNatClampNeg)).toInt = b.toInt ∨ (b.toInt = 1 ∧ (sf (20 + v.toNatClampNeg)).toInt < 4) ∨ (b.toInt = 4 ∧ (sf (20 + v.toNatClampNeg)).toInt = 5)) ∧ (-1000013) = v.toInt ∧ u_7.toInt = 0) ∨ (((0 ≤ v.toInt ∧ v.toInt < (sf 2).toInt) ∧ (0 ≤ b.toInt ∧ b.toInt ≤ 5)) ∧ ¬ (b.toInt = 0 ∨ (sf (20 + v.toNatClampNeg)).toInt = b.toInt ∨ (b.toInt = 1 ∧ (sf (20 + v.toNatClampNeg)).toInt < 4) ∨ (b.toInt = 4 ∧ (sf (20 + v.toNatClampNeg)).toInt = 5)) ∧ (-1000013) = (-1000013) ∧ u_7.toInt = 3) ∨ (¬ ((0 ≤ v.toInt ∧ v.toInt < (sf 2).toInt) ∧ (0 ≤ b.toInt ∧ b.toInt ≤ 5)) ∧ (-1000013) = (-1000001) ∧ u_7.toInt = su.toInt) from by omega) (hP.sub [1, 0] rfl) (hD.sub [1, 0] (by decide) rfl) dX8_as_52
    · subst e_2
      have f_2 : ¬ ((0 : Int) ≤ b.toInt ∧ b.toInt ≤ (5 : Int)) := by
        have h8 := f_2
        try simp only [zl_of] at h8
        exact h8
      refine lv_if_ne (tgt := 23) hx hb dX8_as_17 (by decide) (fun c9 => absurd (by decide) c9) (fun _ => ?_)
      refine lv_ldc (v := (-1000001)) hx hb hown (hts (.constant RX8 48 (-1000001)) (List.mem_of_getElem? (i := 2) rfl)) dX8_as_20 ?_
      exact wr_i (v := (-1000001)) hx hb hr hlocks hS su (by exact show (((0 ≤ v.toInt ∧ v.toInt < (sf 2).toInt) ∧ (0 ≤ b.toInt ∧ b.toInt ≤ 5)) ∧ (b.toInt = 0 ∨ (sf (20 + v.toNatClampNeg)).toInt = b.toInt ∨ (b.toInt = 1 ∧ (sf (20 + v.toNatClampNeg)).toInt < 4) ∨ (b.toInt = 4 ∧ (sf (20 + v.toNatClampNeg)).toInt = 5)) ∧ (-1000001) = v.toInt ∧ su.toInt = 0) ∨ (((0 ≤ v.toInt ∧ v.toInt < (sf 2).toInt) ∧ (0 ≤ b.toInt ∧ b.toInt ≤ 5)) ∧ ¬ (b.toInt = 0 ∨ (sf (20 + v.toNatClampNeg)).toInt = b.toInt ∨ (b.toInt = 1 ∧ (sf (20 + v.toNatClampNeg)).toInt < 4) ∨ (b.toInt = 4 ∧ (sf (20 + v.toNatClampNeg)).toInt = 5)) ∧ (-1000001) = (-1000013) ∧ su.toInt = 3) ∨ (¬ ((0 ≤ v.toInt ∧ v.toInt < (sf 2).toInt) ∧ (0 ≤ b.toInt ∧ b.toInt ≤ 5)) ∧ (-1000001) = (-1000001) ∧ su.toInt = su.toInt) from by omega) (hP.sub [0, 1] rfl) (hD.sub [0, 1] (by decide) rfl) dX8_as_22
  · subst e_1
    have f_1 : ¬ (0 ≤ v.toInt ∧ v.toInt < (sf 2).toInt) := f_1
    refine lv_if_eq (tgt := 20) hx hb dX8_as_5 (by decide) (fun _ => ?_) (fun c9 => absurd (by decide) c9)
    refine lv_ldc (v := (-1000001)) hx hb hown (hts (.constant RX8 48 (-1000001)) (List.mem_of_getElem? (i := 2) rfl)) dX8_as_20 ?_
    exact wr_i (v := (-1000001)) hx hb hr hlocks hS su (by exact show (((0 ≤ v.toInt ∧ v.toInt < (sf 2).toInt) ∧ (0 ≤ b.toInt ∧ b.toInt ≤ 5)) ∧ (b.toInt = 0 ∨ (sf (20 + v.toNatClampNeg)).toInt = b.toInt ∨ (b.toInt = 1 ∧ (sf (20 + v.toNatClampNeg)).toInt < 4) ∨ (b.toInt = 4 ∧ (sf (20 + v.toNatClampNeg)).toInt = 5)) ∧ (-1000001) = v.toInt ∧ su.toInt = 0) ∨ (((0 ≤ v.toInt ∧ v.toInt < (sf 2).toInt) ∧ (0 ≤ b.toInt ∧ b.toInt ≤ 5)) ∧ ¬ (b.toInt = 0 ∨ (sf (20 + v.toNatClampNeg)).toInt = b.toInt ∨ (b.toInt = 1 ∧ (sf (20 + v.toNatClampNeg)).toInt < 4) ∨ (b.toInt = 4 ∧ (sf (20 + v.toNatClampNeg)).toInt = 5)) ∧ (-1000001) = (-1000013) ∧ su.toInt = 3) ∨ (¬ ((0 ≤ v.toInt ∧ v.toInt < (sf 2).toInt) ∧ (0 ≤ b.toInt ∧ b.toInt ≤ 5)) ∧ (-1000001) = (-1000001) ∧ su.toInt = su.toInt) from by omega) (hP.sub [0, 1] rfl) (hD.sub [0, 1] (by decide) rfl) dX8_as_22
