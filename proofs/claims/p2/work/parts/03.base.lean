/-! the base of these rows: one shape of contract for every method, one row a call, one row an end -/
abbrev kl : List vw_C := [(RX0, TX0, 3), (RX1, TX1, 3), (RX2, TX2, 2), (RX4, TX4, 16), (RX5, TX5, 3), (RX6, TX6, 7), (RX7, TX7, 8), (RX8, TX8, 16)]
abbrev ty_s (cI cB cQ : ClassId) : List (ClassId × FieldType) := [(cI, .int), (cB, .byte), (cQ, .object "WinterWalk$Land")]
/-- what no word list can carry: links between nest mates, the class of arrays of lands -/
def ww_N (U : State) : Prop :=
  va_Nw (.methodLinkNest RX7 18 yX6_init "WinterWalk") U ∧ va_Nw (.methodLinkNest RX6 17 yX4_init "WinterWalk") U ∧ va_Nw (.methodLinkNest RX7 25 yX4_init "WinterWalk") U ∧ va_Nw (.methodLinkNest RX7 32 yX0_init "WinterWalk") U ∧ va_Nw (.methodLinkNest RX2 11 yX4_init "WinterWalk") U ∧
  va_Nw (.methodLinkNest RX5 27 yX7_isFrom "WinterWalk") U ∧ va_Nw (.methodLinkNest RX6 126 yX7_isFrom "WinterWalk") U ∧ va_Nw (.methodLinkNest RX0 22 yX4_init "WinterWalk") U ∧ va_Nw (.methodLinkNest RX3 9 yX7_isFrom "WinterWalk") U ∧ va_Nw (.methodLinkNest RX1 39 yX7_isFrom "WinterWalk") U ∧ va_AO "WinterWalk$Land" U
theorem ww_N.warm {s U : State} (hW : s.WarmedH U.vm) (h : ww_N s) : ww_N U := by
  obtain ⟨h1, h2, h3, h4, h5, h6, h7, h8, h9, h10, h11⟩ := h
  exact ⟨h1.warmM hW, h2.warmM hW, h3.warmM hW, h4.warmM hW, h5.warmM hW, h6.warmM hW, h7.warmM hW, h8.warmM hW, h9.warmM hW, h10.warmM hW, va_AO.moved hW.alike h11⟩
theorem ww_N.same {s U : State} (hv : s.vm = U.vm) (h : ww_N s) : ww_N U := by
  obtain ⟨h1, h2, h3, h4, h5, h6, h7, h8, h9, h10, h11⟩ := h
  exact ⟨va_Nw.same rfl hv h1, va_Nw.same rfl hv h2, va_Nw.same rfl hv h3, va_Nw.same rfl hv h4, va_Nw.same rfl hv h5, va_Nw.same rfl hv h6, va_Nw.same rfl hv h7, va_Nw.same rfl hv h8, va_Nw.same rfl hv h9, va_Nw.same rfl hv h10, va_AO.moved (hv ▸ Vm.Alike.refl s.vm) h11⟩
/-- a contract's start: the heap holds these cells -/
def wv (D : va_G) (cI cB cQ : ClassId) (sz : Nat) (WS : va_W) (U : State) : Prop := U.heap.size = sz ∧ va_P D kl WS U.heap ∧ va_K D kl (ty_s cI cB cQ) U ∧ va_D (fun _ => True) WS ∧ ww_N U
/-- a contract's end -/
def wb (D : va_G) (A : Nat → Prop) (WS : va_W) (t : State) : Prop := va_P D kl WS t.heap ∧ va_D A WS
abbrev mi (l : Launch) (y : MethodName) (ws : List Cond) (rm : Room) (D : va_G) (cI cB cQ : ClassId) (As : List Value) (sz : Nat) (WS : va_W) {S : Type} (post : Int32 → S → Prop) (W' : S → va_W) (mc ms : Nat) : Prop :=
  Met l y ws rm (va_Pc As (wv D cI cB cQ sz WS)) (va_Qi post (fun u t => wb D (va_A WS sz) (W' u) t) (va_A WS sz)) mc ms (va_A WS sz)
abbrev ml (l : Launch) (y : MethodName) (ws : List Cond) (rm : Room) (D : va_G) (cI cB cQ : ClassId) (As : List Value) (sz : Nat) (WS : va_W) {S : Type} (post : Int64 → S → Prop) (W' : S → va_W) (mc ms : Nat) : Prop :=
  Met l y ws rm (va_Pc As (wv D cI cB cQ sz WS)) (va_Ql post (fun u t => wb D (va_A WS sz) (W' u) t) (va_A WS sz)) mc ms (va_A WS sz)
abbrev mv (l : Launch) (y : MethodName) (ws : List Cond) (rm : Room) (D : va_G) (cI cB cQ : ClassId) (As : List Value) (sz : Nat) (WS : va_W) {S : Type} (post : S → Prop) (W' : S → va_W) (mc ms : Nat) : Prop :=
  Met l y ws rm (va_Pc As (wv D cI cB cQ sz WS)) (va_Qv post (fun u t => wb D (va_A WS sz) (W' u) t) (va_A WS sz)) mc ms (va_A WS sz)
theorem wv_blind {D : va_G} {cI cB cQ : ClassId} {sz : Nat} {WS : va_W} {As : List Value} : FrameBlind (va_Pc As (wv D cI cB cQ sz WS)) := by
  intro a U g mk q
  obtain ⟨q0, q1, q2, q3, q4, q5⟩ := q
  exact ⟨q0, q1, q2, va_K.moved (u := U) (U := U.calling g mk a) (Vm.Alike.refl U.vm) q3, q4, ww_N.same rfl q5⟩
theorem wf_map {α : Type} {ws wc : List α} {is : List Nat} (h : is.map (fun i => ws[i]?) = wc.map some) : is.filterMap (fun i => ws[i]?) = wc := by
  induction is generalizing wc with
  | nil => cases wc with
    | nil => rfl
    | cons a t => simp at h
  | cons i t ih => cases wc with
    | nil => simp at h
    | cons a t2 =>
      rw [List.map_cons, List.map_cons] at h
      injection h with h1 h2
      rw [List.filterMap_cons, h1, ih h2]
theorem wp_S {s : State} {H : Heap} {D : va_G} {cI cB cQ : ClassId} {A : Nat → Prop} {WS WC : va_W} {As : List Value} (hP : va_P D kl WS H) (hK : va_K D kl (ty_s cI cB cQ) s) (hD : va_D A WS) (hN : ww_N s) (isC : List Nat) (hn : va_nd isC = true) (hC : isC.map (fun i => WS[i]?) = WC.map some) : PreS s H (va_Pc As (wv D cI cB cQ H.size WC)) As :=
  ⟨wv_blind, fun U hU hW => ⟨rfl, by rw [hU], by rw [hU]; exact hP.sub isC (wf_map hC), va_K.moved hW.alike hK, (hD.sub isC hn hC).weaken (fun _ _ _ _ => trivial), hN.warm hW⟩⟩
theorem wp_V {s : State} {H : Heap} {D : va_G} {cI cB cQ : ClassId} {A : Nat → Prop} {WS WC : va_W} {As : List Value} {b ci : Nat} {q : vw_C} {fs : List Value} (hP : va_P D kl WS H) (hK : va_K D kl (ty_s cI cB cQ) s) (hD : va_D A WS) (hN : ww_N s) (isC : List Nat) (hn : va_nd isC = true) (hC : isC.map (fun i => WS[i]?) = WC.map some) (hc : kl[ci]? = some q) (he : WC[0]? = some (b, .inr (ci, fs))) : PreV s H q.1 b (va_Pc (.ref b :: As) (wv D cI cB cQ H.size WC)) As :=
  ⟨wv_blind, va_recv hK (hP.sub isC (wf_map hC)) hc he, (wp_S hP hK hD hN isC hn hC).2⟩
section WBASE
variable {p : Program} {l : Launch} {e : Env} {R : Room} {s : State} {m : MethodId} {args : Array Value} {below : List Frame} {meth : Method} {c : Code} {H : Heap} {locs : List Loc} {cells slots : Nat} {Q : State → Prop}
variable {pc : Nat} {ls : Array Slot} {rest st0 : List Value} {a : Array Value} {A : Nat → Prop} {mc ms : Nat} {D : va_G} {cI cB cQ : ClassId} {WS WC WR : va_W} {cc : ByteArray}
theorem wc_i {S : Type} {post : Int32 → S → Prop} {W' : S → va_W} (hr : va_Run p l e R s m args below meth c H locs cells slots mc ms (F0 m pc ls st0) rest (va_Qi post (fun u t => wb D (va_A WC H.size) (W' u) t) (va_A WC H.size) a) (va_A WC H.size)) (hP : va_P D kl WS H) (hD : va_D A WS) (hS : va_S A s.heap H locs) (hA : ∀ q : Nat, s.heap.size ≤ q → A q)
    (isC isR : List Nat) (hC : isC.map (fun i => WS[i]?) = WC.map some) (hR : isR.map (fun i => WS[i]?) = WR.map some) (hn : va_nd isR = true) (hdis : ∀ i ∈ isR, i ∉ isC)
    (kk : ∀ (r : Int32) (u : S) (H1 : Heap) (locs1 : List Loc), post r u → va_P D kl (WR ++ W' u) H1 → va_D A (WR ++ W' u) → va_S A s.heap H1 locs1 → W p l e R s m args below meth c H1 locs1 (cells + mc) (slots + ms) Q (F0 m (pc + 3) ls (.int r :: rest))) : W p l e R s m args below meth c H locs cells slots Q (F0 m pc ls st0) := by
  have hF := va_free (wc := WC) hD hS hA isC hC
  refine va_calli hr hS (fun q _ h => hF q h) hF (fun r u t H1 locs1 ht hvm hw hB hz1 hk1 hS1 => ?_)
  obtain ⟨hP1, hD1⟩ := hB
  rw [ht] at hP1
  obtain ⟨hP2, hD2⟩ := va_join (wr := WR) (w1 := W' u) hP hD isC isR hC hR hn hdis hk1 hF hP1 hD1
  exact kk r u H1 locs1 hw hP2 hD2 hS1
theorem wc_l {S : Type} {post : Int64 → S → Prop} {W' : S → va_W} (hr : va_Run p l e R s m args below meth c H locs cells slots mc ms (F0 m pc ls st0) rest (va_Ql post (fun u t => wb D (va_A WC H.size) (W' u) t) (va_A WC H.size) a) (va_A WC H.size)) (hP : va_P D kl WS H) (hD : va_D A WS) (hS : va_S A s.heap H locs) (hA : ∀ q : Nat, s.heap.size ≤ q → A q)
    (isC isR : List Nat) (hC : isC.map (fun i => WS[i]?) = WC.map some) (hR : isR.map (fun i => WS[i]?) = WR.map some) (hn : va_nd isR = true) (hdis : ∀ i ∈ isR, i ∉ isC)
    (kk : ∀ (r : Int64) (u : S) (H1 : Heap) (locs1 : List Loc), post r u → va_P D kl (WR ++ W' u) H1 → va_D A (WR ++ W' u) → va_S A s.heap H1 locs1 → W p l e R s m args below meth c H1 locs1 (cells + mc) (slots + ms) Q (F0 m (pc + 3) ls (.long r :: rest))) : W p l e R s m args below meth c H locs cells slots Q (F0 m pc ls st0) := by
  have hF := va_free (wc := WC) hD hS hA isC hC
  refine va_calll hr hS (fun q _ h => hF q h) hF (fun r u t H1 locs1 ht hvm hw hB hz1 hk1 hS1 => ?_)
  obtain ⟨hP1, hD1⟩ := hB
  rw [ht] at hP1
  obtain ⟨hP2, hD2⟩ := va_join (wr := WR) (w1 := W' u) hP hD isC isR hC hR hn hdis hk1 hF hP1 hD1
  exact kk r u H1 locs1 hw hP2 hD2 hS1
theorem wc_v {S : Type} {post : S → Prop} {W' : S → va_W} (hr : va_Run p l e R s m args below meth c H locs cells slots mc ms (F0 m pc ls st0) rest (va_Qv post (fun u t => wb D (va_A WC H.size) (W' u) t) (va_A WC H.size) a) (va_A WC H.size)) (hP : va_P D kl WS H) (hD : va_D A WS) (hS : va_S A s.heap H locs) (hA : ∀ q : Nat, s.heap.size ≤ q → A q)
    (isC isR : List Nat) (hC : isC.map (fun i => WS[i]?) = WC.map some) (hR : isR.map (fun i => WS[i]?) = WR.map some) (hn : va_nd isR = true) (hdis : ∀ i ∈ isR, i ∉ isC)
    (kk : ∀ (u : S) (H1 : Heap) (locs1 : List Loc), post u → va_P D kl (WR ++ W' u) H1 → va_D A (WR ++ W' u) → va_S A s.heap H1 locs1 → W p l e R s m args below meth c H1 locs1 (cells + mc) (slots + ms) Q (F0 m (pc + 3) ls rest)) : W p l e R s m args below meth c H locs cells slots Q (F0 m pc ls st0) := by
  have hF := va_free (wc := WC) hD hS hA isC hC
  refine va_callv hr hS (fun q _ h => hF q h) hF (fun u t H1 locs1 ht hvm hw hB hz1 hk1 hS1 => ?_)
  obtain ⟨hP1, hD1⟩ := hB
  rw [ht] at hP1
  obtain ⟨hP2, hD2⟩ := va_join (wr := WR) (w1 := W' u) hP hD isC isR hC hR hn hdis hk1 hF hP1 hD1
  exact kk u H1 locs1 hw hP2 hD2 hS1
theorem wr_i {S : Type} {post : Int32 → S → Prop} {W' : S → va_W} {v : Int32} (hx : p.tables.exec = Jvm.exec) (hb : c.code = cc) (hr : meth.sig.returnType = some .int) (hlocks : meth.locks = false) (hS : va_S A s.heap H locs) (u : S) (hp : post v u) (hP : va_P D kl (W' u) H) (hD : va_D A (W' u)) (hdg : decode cc pc = .ok (.ireturn, 1)) :
    W p l e R s m args below meth c H locs cells slots (MQ below (va_Qi post (fun u t => wb D A (W' u) t) A) args s cells slots A) (F0 m pc ls [.int v]) :=
  W.iret (v := v) hx hb hr (fun t ht hW => ⟨⟨v, u, rfl, hp, by rw [ht]; exact hP, hD⟩, hS.F ht⟩) hS.2.2 hdg
theorem wr_z {S : Type} {post : Int32 → S → Prop} {W' : S → va_W} {v : Int32} (hx : p.tables.exec = Jvm.exec) (hb : c.code = cc) (hr : meth.sig.returnType = some .boolean) (hlocks : meth.locks = false) (hS : va_S A s.heap H locs) (u : S) (hp : post v u) (hP : va_P D kl (W' u) H) (hD : va_D A (W' u)) (hdg : decode cc pc = .ok (.ireturn, 1)) (hn : narrow .boolean (.int v) = .int v) :
    W p l e R s m args below meth c H locs cells slots (MQ below (va_Qi post (fun u t => wb D A (W' u) t) A) args s cells slots A) (F0 m pc ls [.int v]) :=
  W.zret (v := v) hx hb hr hn (fun t ht hW => ⟨⟨v, u, rfl, hp, by rw [ht]; exact hP, hD⟩, hS.F ht⟩) hS.2.2 hdg
theorem wr_l {S : Type} {post : Int64 → S → Prop} {W' : S → va_W} {v : Int64} (hx : p.tables.exec = Jvm.exec) (hb : c.code = cc) (hr : meth.sig.returnType = some .long) (hlocks : meth.locks = false) (hS : va_S A s.heap H locs) (u : S) (hp : post v u) (hP : va_P D kl (W' u) H) (hD : va_D A (W' u)) (hdg : decode cc pc = .ok (.lreturn, 1)) :
    W p l e R s m args below meth c H locs cells slots (MQ below (va_Ql post (fun u t => wb D A (W' u) t) A) args s cells slots A) (F0 m pc ls [.long v]) :=
  W.lret (v := v) hx hb hr (fun t ht hW => ⟨⟨v, u, rfl, hp, by rw [ht]; exact hP, hD⟩, hS.F ht⟩) hS.2.2 hdg
theorem wr_v {S : Type} {post : S → Prop} {W' : S → va_W} (hx : p.tables.exec = Jvm.exec) (hb : c.code = cc) (hr : meth.sig.returnType = none) (hlocks : meth.locks = false) (hS : va_S A s.heap H locs) (u : S) (hp : post u) (hP : va_P D kl (W' u) H) (hD : va_D A (W' u)) (hdg : decode cc pc = .ok (.return_, 1)) :
    W p l e R s m args below meth c H locs cells slots (MQ below (va_Qv post (fun u t => wb D A (W' u) t) A) args s cells slots A) (F0 m pc ls []) :=
  W.vret hx hb hr (fun t ht hW => ⟨⟨u, rfl, hp, by rw [ht]; exact hP, hD⟩, hS.F ht⟩) hS.2.2 hdg
theorem wn_i (hx : p.tables.exec = Jvm.exec) (hb : c.code = cc) (harr : (Cond.arrayClass .int).before args s = true) (hK : va_K D kl (ty_s cI cB cQ) s) (hP : va_P D kl WS H) (hD : va_D A WS) (hS : va_S A s.heap H locs) (hA : ∀ q : Nat, s.heap.size ≤ q → A q) {n : Int32} {N' : Nat} (hn : ¬ n < 0) (hN : n.toNatClampNeg = N') (hbytes : N' * componentBytes .int ≤ 536870912) (hcells : cells + 1 ≤ R.cells) (hslots : slots + N' ≤ R.slots) (hdg : decode cc pc = .ok (.newarray .int, 2))
    (kk : ∀ (q : Nat) (H1 : Heap), va_P D kl (WS ++ [(q, .inl (cI, N', .inl (fun _ => 0)))]) H1 → va_D A (WS ++ [(q, .inl (cI, N', .inl (fun _ => 0)))]) → va_S A s.heap H1 locs → W p l e R s m args below meth c H1 locs (cells + 1) (slots + N') Q (F0 m (pc + 2) ls (.ref q :: rest))) : W p l e R s m args below meth c H locs cells slots Q (F0 m pc ls (.int n :: rest)) := by
  refine va_newa (atype := .int) (ty := .int) (a0 := (N', .inl (fun _ => 0))) hx hb harr rfl hK hP hD hS hA (fun cA => rfl) hn hN hbytes hcells hslots hdg (fun q cA H1 hK1 hP1 hD1 hS1 => ?_)
  have e1 : cA = cI := Option.some.inj ((va_nm_int (hK1.2 3 (cA, .int) rfl).2).symm.trans (va_nm_int (hK1.2 0 (cI, .int) rfl).2))
  subst e1
  exact kk q H1 hP1 hD1 hS1
theorem wn_b (hx : p.tables.exec = Jvm.exec) (hb : c.code = cc) (harr : (Cond.arrayClass .byte).before args s = true) (hK : va_K D kl (ty_s cI cB cQ) s) (hP : va_P D kl WS H) (hD : va_D A WS) (hS : va_S A s.heap H locs) (hA : ∀ q : Nat, s.heap.size ≤ q → A q) {n : Int32} {N' : Nat} (hn : ¬ n < 0) (hN : n.toNatClampNeg = N') (hbytes : N' * componentBytes .byte ≤ 536870912) (hcells : cells + 1 ≤ R.cells) (hslots : slots + N' ≤ R.slots) (hdg : decode cc pc = .ok (.newarray .byte, 2))
    (kk : ∀ (q : Nat) (H1 : Heap), va_P D kl (WS ++ [(q, .inl (cB, N', .inl (fun _ => 0)))]) H1 → va_D A (WS ++ [(q, .inl (cB, N', .inl (fun _ => 0)))]) → va_S A s.heap H1 locs → W p l e R s m args below meth c H1 locs (cells + 1) (slots + N') Q (F0 m (pc + 2) ls (.ref q :: rest))) : W p l e R s m args below meth c H locs cells slots Q (F0 m pc ls (.int n :: rest)) := by
  refine va_newa (atype := .byte) (ty := .byte) (a0 := (N', .inl (fun _ => 0))) hx hb harr rfl hK hP hD hS hA (fun cA => rfl) hn hN hbytes hcells hslots hdg (fun q cA H1 hK1 hP1 hD1 hS1 => ?_)
  have e1 : cA = cB := Option.some.inj ((va_nm_byte (hK1.2 3 (cA, .byte) rfl).2).symm.trans (va_nm_byte (hK1.2 1 (cB, .byte) rfl).2))
  subst e1
  exact kk q H1 hP1 hD1 hS1
theorem wn_q (hx : p.tables.exec = Jvm.exec) (hb : c.code = cc) {own : String} {index : Nat} (hown : s.vm.findClass own = some m.cls) (hcl : (Cond.classLink own index "WinterWalk$Land").before args s = true) (hN : ww_N s) (hK : va_K D kl (ty_s cI cB cQ) s) (hP : va_P D kl WS H) (hD : va_D A WS) (hS : va_S A s.heap H locs) (hA : ∀ q : Nat, s.heap.size ≤ q → A q) {n : Int32} {N' : Nat} (hn : ¬ n < 0) (hNn : n.toNatClampNeg = N') (hbytes : N' * 4 ≤ 536870912) (hcells : cells + 1 ≤ R.cells) (hslots : slots + N' ≤ R.slots) (hdg : decode cc pc = .ok (.anewarray index, 3))
    (kk : ∀ (q : Nat) (H1 : Heap), va_P D kl (WS ++ [(q, .inl (cQ, N', .inr (.inr (.inr (.inr (fun _ => none))))))]) H1 → va_D A (WS ++ [(q, .inl (cQ, N', .inr (.inr (.inr (.inr (fun _ => none))))))]) → va_S A s.heap H1 locs → W p l e R s m args below meth c H1 locs (cells + 1) (slots + N') Q (F0 m (pc + 3) ls (.ref q :: rest))) : W p l e R s m args below meth c H locs cells slots Q (F0 m pc ls (.int n :: rest)) := by
  refine va_newq hx hb hown hcl hN.2.2.2.2.2.2.2.2.2.2 hK hP hD hS hA hn hNn hbytes hcells hslots hdg (fun q cA H1 hK1 hP1 hD1 hS1 => ?_)
  obtain ⟨k1, c1, -, -, -, f1⟩ := (hK1.2 3 (cA, .object "WinterWalk$Land") rfl).2
  obtain ⟨k2, c2, -, -, -, f2⟩ := (hK1.2 2 (cQ, .object "WinterWalk$Land") rfl).2
  have e1 : cA = cQ := Option.some.inj (f1.symm.trans f2)
  subst e1
  exact kk q H1 hP1 hD1 hS1
end WBASE
/-- an array's cells by what they hold below its length -/
theorem wx_P {D : va_G} {WS : va_W} {H : Heap} {A : Nat → Prop} {k a n : Nat} {cA : ClassId} {f g : Nat → Int32} (hP : va_P D kl WS H) (hD : va_D A WS) (hk : WS[k]? = some (a, .inl (cA, n, .inl f))) (h : ∀ j, j < n → f j = g j) : va_P D kl (WS.set k (a, .inl (cA, n, .inl g))) H := by
  refine hP.set hD hk ?_ (fun _ _ => rfl)
  have h1 : H[a]? = some (arrV cA n (fun j => .int (f j))) := hP k _ hk
  show H[a]? = some (arrV cA n (fun j => .int (g j)))
  rw [h1]
  have e1 : arrV cA n (fun j => .int (f j)) = arrV cA n (fun j => .int (g j)) := by
    unfold arrV
    congr 1
    congr 1
    funext j
    show Value.int (f j.val) = Value.int (g j.val)
    rw [h j.val j.isLt]
  rw [e1]
theorem wx_D {WS : va_W} {A : Nat → Prop} {k a n : Nat} {cA : ClassId} {f g : Nat → Int32} (hD : va_D A WS) (hk : WS[k]? = some (a, .inl (cA, n, .inl f))) : va_D A (WS.set k (a, .inl (cA, n, .inl g))) := hD.set hk
section WMET
variable {l : Launch} {y : MethodName} {ws ws' : List Cond} {rm : Room} {D : va_G} {cI cB cQ : ClassId} {As : List Value} {sz : Nat} {WS : va_W} {mc ms : Nat} {cc : ByteArray} {maxL : Nat} {ret : Option FieldType}
/-- a method's body, from its entry -/
def wbody (l : Launch) (y : MethodName) (ws : List Cond) (rm : Room) (D : va_G) (cI cB cQ : ClassId) (As : List Value) (sz : Nat) (WS : va_W) (Qc : (Nat → Prop) → Array Value → State → Outcome → State → Prop) (mc ms : Nat) (cc : ByteArray) (maxL : Nat) (ret : Option FieldType) : Prop :=
  ∀ (p : Program) (e : Env) (s : State) (m : MethodId) (below : List Frame) (meth : Method) (c : Code) (A : Nat → Prop) (ls : Array Slot), p.tables.exec = Jvm.exec → c.code = cc → meth.sig.returnType = ret → c.maxLocals = maxL → s.vm.findClass y.cls = some m.cls → (∀ w ∈ ws, w.before As.toArray s = true) → meth.locks = false → meth.name = y.name →
    va_P D kl WS s.heap → va_K D kl (ty_s cI cB cQ) s → va_D A WS → ww_N s → (∀ q : Nat, s.heap.size ≤ q → A q) → lv_has ls maxL (lv_args 0 As) → va_S A s.heap s.heap [] →
    W p l e rm s m As.toArray below meth c s.heap [] 0 0 (MQ below (Qc A) As.toArray s mc ms A) (F0 m 0 ls [])
theorem wm_of {Qc : (Nat → Prop) → Array Value → State → Outcome → State → Prop} (hy : plainName y.cls = true) (hw : ws = Cond.code y cc maxL ret :: ws') (hl : (lg_sl As).length ≤ maxL) (body : wbody l y ws rm D cI cB cQ As sz WS Qc mc ms cc maxL ret) : Met l y ws rm (va_Pc As (wv D cI cB cQ sz WS)) (Qc (va_A WS sz)) mc ms (va_A WS sz) := by
  refine Met.ofW (cc := cc) (maxL := maxL) (ret := ret) hy hw ?_
  intro p e s m args below meth c s₁ B hml hv
  obtain ⟨rfl, hsz, hP, hK, hD0, hN⟩ := hv
  subst hsz
  have hown : s.vm.findClass y.cls = some m.cls := findClass_of_methodNamed B.named
  have hl0 := lv_entry As (n := maxL) hl
  rw [lg_entry_eq]
  exact body p e s m below meth c (va_A WS s.heap.size) _ B.exec B.bytes B.returns hml hown (atoms_spec (ws := ws) B.pre) B.notSynchronized (name_of_methodNamed B.named B.method).1 hP hK hD0.self hN (fun q h => Or.inr h) hl0 va_S.rf
theorem wm_i {S : Type} {post : Int32 → S → Prop} {W' : S → va_W} (hy : plainName y.cls = true) (hw : ws = Cond.code y cc maxL ret :: ws') (hl : (lg_sl As).length ≤ maxL) (body : wbody l y ws rm D cI cB cQ As sz WS (fun A => va_Qi post (fun u t => wb D A (W' u) t) A) mc ms cc maxL ret) : mi l y ws rm D cI cB cQ As sz WS post W' mc ms := wm_of (Qc := fun A => va_Qi post (fun u t => wb D A (W' u) t) A) hy hw hl body
theorem wm_l {S : Type} {post : Int64 → S → Prop} {W' : S → va_W} (hy : plainName y.cls = true) (hw : ws = Cond.code y cc maxL ret :: ws') (hl : (lg_sl As).length ≤ maxL) (body : wbody l y ws rm D cI cB cQ As sz WS (fun A => va_Ql post (fun u t => wb D A (W' u) t) A) mc ms cc maxL ret) : ml l y ws rm D cI cB cQ As sz WS post W' mc ms := wm_of (Qc := fun A => va_Ql post (fun u t => wb D A (W' u) t) A) hy hw hl body
theorem wm_v {S : Type} {post : S → Prop} {W' : S → va_W} (hy : plainName y.cls = true) (hw : ws = Cond.code y cc maxL ret :: ws') (hl : (lg_sl As).length ≤ maxL) (body : wbody l y ws rm D cI cB cQ As sz WS (fun A => va_Qv post (fun u t => wb D A (W' u) t) A) mc ms cc maxL ret) : mv l y ws rm D cI cB cQ As sz WS post W' mc ms := wm_of (Qc := fun A => va_Qv post (fun u t => wb D A (W' u) t) A) hy hw hl body
end WMET
/-! numbers -/
theorem zi_le {x y : Int32} (h : x ≤ y) : x.toInt ≤ y.toInt := Int32.le_iff_toInt_le.mp h
theorem zi_nle {x y : Int32} (h : ¬ x ≤ y) : ¬ x.toInt ≤ y.toInt := fun z => h (Int32.le_iff_toInt_le.mpr z)
theorem zi_lt {x y : Int32} (h : x < y) : x.toInt < y.toInt := Int32.lt_iff_toInt_lt.mp h
theorem zi_nlt {x y : Int32} (h : ¬ x < y) : ¬ x.toInt < y.toInt := fun z => h (Int32.lt_iff_toInt_lt.mpr z)
theorem zi_eq {x y : Int32} (h : x = y) : x.toInt = y.toInt := by rw [h]
theorem zi_ne {x y : Int32} (h : ¬ x = y) : ¬ x.toInt = y.toInt := fun z => h (Int32.toInt_inj.mp z)
theorem zl_of (x : Int32) : x.toInt64.toInt = x.toInt := Int32.toInt_toInt64 x
theorem zl_le {x y : Int64} (h : x ≤ y) : x.toInt ≤ y.toInt := Int64.le_iff_toInt_le.mp h
theorem zl_lt {x y : Int64} (h : x < y) : x.toInt < y.toInt := Int64.lt_iff_toInt_lt.mp h
theorem zl_nlt {x y : Int64} (h : ¬ x < y) : ¬ x.toInt < y.toInt := fun z => h (Int64.lt_iff_toInt_lt.mpr z)
theorem zi_lo (x : Int32) : -2147483648 ≤ x.toInt := Int32.le_toInt x
theorem zi_hi (x : Int32) : x.toInt < 2147483648 := Int32.toInt_lt x
theorem zi_bm {z : Int} (h1 : -2147483648 ≤ z) (h2 : z < 2147483648) : z.bmod (2 ^ 32) = z := Int.bmod_eq_of_le (by omega) (by omega)
theorem zi_add {x y : Int32} {a b : Int} (hx : x.toInt = a) (hy : y.toInt = b) (h1 : -2147483648 ≤ a + b) (h2 : a + b < 2147483648) : (x + y).toInt = a + b := by rw [Int32.toInt_add, hx, hy]; exact zi_bm h1 h2
theorem zi_sub {x y : Int32} {a b : Int} (hx : x.toInt = a) (hy : y.toInt = b) (h1 : -2147483648 ≤ a - b) (h2 : a - b < 2147483648) : (x - y).toInt = a - b := by rw [Int32.toInt_sub, hx, hy]; exact zi_bm h1 h2
theorem zi_mul {x y : Int32} {a b : Int} (hx : x.toInt = a) (hy : y.toInt = b) (h1 : -2147483648 ≤ a * b) (h2 : a * b < 2147483648) : (x * y).toInt = a * b := by rw [Int32.toInt_mul, hx, hy]; exact zi_bm h1 h2
theorem zi_in {x : Int32} {n : Nat} (h0 : 0 ≤ x.toInt) (h1 : x.toInt < n) : vp_in x n := vp_in_iff.mpr ⟨h0, h1⟩
/-- lcmp's answer, by cases -/
theorem zc_cases (x y : Int64) : (lg_cmp x y = 1 ∧ y.toInt < x.toInt) ∨ (lg_cmp x y = 0 ∧ x.toInt = y.toInt) ∨ (lg_cmp x y = -1 ∧ x.toInt < y.toInt) := by
  by_cases h1 : y < x
  · exact Or.inl ⟨by simp [lg_cmp, h1], zl_lt h1⟩
  · by_cases h2 : x = y
    · exact Or.inr (Or.inl ⟨by simp [lg_cmp, h1, h2], by rw [h2]⟩)
    · refine Or.inr (Or.inr ⟨by simp [lg_cmp, h1, h2], ?_⟩)
      have h3 := zl_nlt h1
      have h4 : ¬ x.toInt = y.toInt := fun z => h2 (Int64.toInt_inj.mp z)
      omega
theorem zi_nat {x : Int32} {M : Nat} (h0 : 0 ≤ x.toInt) (h1 : x.toInt ≤ M) : ∃ k : Nat, k ≤ M ∧ x = nI k := by
  obtain ⟨j, hj, e⟩ := nI_of (x := x) (fun z => by have := Int32.lt_iff_toInt_lt.mp z; have e0 : (0 : Int32).toInt = 0 := by decide
                                                   omega)
  refine ⟨j, ?_, e⟩
  rw [e, nI_toInt hj] at h1
  omega
/-! numbers and arrays, for any state -/
theorem zi_cl {x : Int32} {n : Nat} (h0 : 0 ≤ x.toInt) (h1 : x.toInt < n) : x.toNatClampNeg < n := by
  have h := vp_in_iff.mpr ⟨h0, h1⟩
  unfold vp_in at h
  omega
theorem zi_cn {x : Int32} (h0 : 0 ≤ x.toInt) : (x.toNatClampNeg : Int) = x.toInt := by
  obtain ⟨j, hj, e⟩ := nI_of (x := x) (fun z => by have h7 := zi_lt z; have e0 : (0 : Int32).toInt = 0 := by decide
                                                   omega)
  rw [e, nI_clamp hj, nI_toInt hj]
theorem zu_upd {f : Nat → Int32} {n i : Nat} {lo hi : Int} {x : Int32} (h : ∀ j, j < n → lo ≤ (f j).toInt ∧ (f j).toInt ≤ hi) (hx : lo ≤ x.toInt ∧ x.toInt ≤ hi) : ∀ j, j < n → lo ≤ (upd f i x j).toInt ∧ (upd f i x j).toInt ≤ hi := by
  intro j hj
  by_cases e : j = i
  · rw [e, pk_us]; exact hx
  · rw [pk_un e]; exact h j hj
theorem zcp {f g : Nat → Int32} {n j : Nat} (h : j < n) : va_cpy f g 0 0 n j = f j := by simp [va_cpy, h]
theorem zi_nneg {x : Int32} (h : 0 ≤ x.toInt) : ¬ x < 0 := fun z => by
  have h7 := zi_lt z
  have h6 : (0 : Int32).toInt = 0 := by decide
  omega
theorem zi_nz {x : Int32} (h : ¬ x.toInt = 0) : ¬ x = 0 := fun z => h (by rw [z]; decide)
theorem zl_nz {x : Int64} (h : ¬ x.toInt = 0) : ¬ x = 0 := fun z => h (by rw [z]; decide)
theorem zi_sh {v : Int32} (h : 0 ≤ v.toInt ∧ v.toInt ≤ 8) : 1 ≤ ((1 : Int32) <<< (v &&& 31)).toInt ∧ ((1 : Int32) <<< (v &&& 31)).toInt ≤ 256 := by
  obtain ⟨k, hk, rfl⟩ := zi_nat (M := 8) h.1 h.2
  rcases (show k = 0 ∨ k = 1 ∨ k = 2 ∨ k = 3 ∨ k = 4 ∨ k = 5 ∨ k = 6 ∨ k = 7 ∨ k = 8 by omega) with rfl | rfl | rfl | rfl | rfl | rfl | rfl | rfl | rfl <;> decide
/-! answers that are references: the address is known -/
abbrev mr (l : Launch) (y : MethodName) (ws : List Cond) (rm : Room) (D : va_G) (cI cB cQ : ClassId) (As : List Value) (sz : Nat) (WS : va_W) (ad : Nat) {S : Type} (post : S → Prop) (W' : S → va_W) (mc ms : Nat) : Prop :=
  Met l y ws rm (va_Pc As (wv D cI cB cQ sz WS)) (va_Qr post (fun u a t => a = ad ∧ wb D (va_A WS sz) (W' u) t) (va_A WS sz)) mc ms (va_A WS sz)
theorem wm_r {l : Launch} {y : MethodName} {ws ws' : List Cond} {rm : Room} {D : va_G} {cI cB cQ : ClassId} {As : List Value} {sz : Nat} {WS : va_W} {mc ms : Nat} {cc : ByteArray} {maxL : Nat} {ret : Option FieldType} {ad : Nat} {S : Type} {post : S → Prop} {W' : S → va_W} (hy : plainName y.cls = true) (hw : ws = Cond.code y cc maxL ret :: ws') (hl : (lg_sl As).length ≤ maxL) (body : wbody l y ws rm D cI cB cQ As sz WS (fun A => va_Qr post (fun u a t => a = ad ∧ wb D A (W' u) t) A) mc ms cc maxL ret) : mr l y ws rm D cI cB cQ As sz WS ad post W' mc ms := wm_of (Qc := fun A => va_Qr post (fun u a t => a = ad ∧ wb D A (W' u) t) A) hy hw hl body
theorem wc_r {p : Program} {l : Launch} {e : Env} {R : Room} {s : State} {m : MethodId} {args : Array Value} {below : List Frame} {meth : Method} {c : Code} {H : Heap} {locs : List Loc} {cells slots : Nat} {Q : State → Prop} {pc : Nat} {ls : Array Slot} {rest st0 : List Value} {a : Array Value} {A : Nat → Prop} {mc ms : Nat} {D : va_G} {WS WC WR : va_W} {ad : Nat} {S : Type} {post : S → Prop} {W' : S → va_W} (hr : va_Run p l e R s m args below meth c H locs cells slots mc ms (F0 m pc ls st0) rest (va_Qr post (fun u a t => a = ad ∧ wb D (va_A WC H.size) (W' u) t) (va_A WC H.size) a) (va_A WC H.size)) (hP : va_P D kl WS H) (hD : va_D A WS) (hS : va_S A s.heap H locs) (hA : ∀ q : Nat, s.heap.size ≤ q → A q)
    (isC isR : List Nat) (hC : isC.map (fun i => WS[i]?) = WC.map some) (hR : isR.map (fun i => WS[i]?) = WR.map some) (hn : va_nd isR = true) (hdis : ∀ i ∈ isR, i ∉ isC)
    (kk : ∀ (u : S) (H1 : Heap) (locs1 : List Loc), post u → va_P D kl (WR ++ W' u) H1 → va_D A (WR ++ W' u) → va_S A s.heap H1 locs1 → W p l e R s m args below meth c H1 locs1 (cells + mc) (slots + ms) Q (F0 m (pc + 3) ls (.ref ad :: rest))) : W p l e R s m args below meth c H locs cells slots Q (F0 m pc ls st0) := by
  have hF := va_free (wc := WC) hD hS hA isC hC
  refine va_callr hr hS (fun q _ h => hF q h) hF (fun u a1 t H1 locs1 ht hvm hw hB hz1 hk1 hS1 => ?_)
  obtain ⟨rfl, hP1, hD1⟩ := hB
  rw [ht] at hP1
  obtain ⟨hP2, hD2⟩ := va_join (wr := WR) (w1 := W' u) hP hD isC isR hC hR hn hdis hk1 hF hP1 hD1
  exact kk u H1 locs1 hw hP2 hD2 hS1
theorem wr_r {p : Program} {l : Launch} {e : Env} {R : Room} {s : State} {m : MethodId} {args : Array Value} {below : List Frame} {meth : Method} {c : Code} {H : Heap} {locs : List Loc} {cells slots : Nat} {pc : Nat} {ls : Array Slot} {A : Nat → Prop} {D : va_G} {cc : ByteArray} {S : Type} {post : S → Prop} {W' : S → va_W} {ad : Nat} {C : String} (hx : p.tables.exec = Jvm.exec) (hb : c.code = cc) (hr : meth.sig.returnType = some (.object C)) (hlocks : meth.locks = false) (hS : va_S A s.heap H locs) (u : S) (hp : post u) (hP : va_P D kl (W' u) H) (hD : va_D A (W' u)) (hdg : decode cc pc = .ok (.areturn, 1)) :
    W p l e R s m args below meth c H locs cells slots (MQ below (va_Qr post (fun u a t => a = ad ∧ wb D A (W' u) t) A) args s cells slots A) (F0 m pc ls [.ref ad]) :=
  W.aret hx hb hr (Or.inl ⟨_, rfl⟩) (Or.inr ⟨ad, rfl⟩) (fun t ht hW => ⟨⟨u, ad, rfl, hp, rfl, by rw [ht]; exact hP, hD⟩, hS.F ht⟩) hS.2.2 hdg
