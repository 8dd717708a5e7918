/-! static rows: where they are, what they hold; they lie below all cells that may change -/
abbrev ZT : Type := Nat × Nat × Nat × Nat × (Nat → Int32) × (Nat → Int32) × (Nat → Int32)
def wz1 (C n : String) (base b : Nat) (x : Nat → Int32) (U : State) (H : Heap) : Prop := va_Z C n "[I" (.ref b) (fun q => base ≤ q) U H ∧ va_X b 6 x U H ∧ b < base
def wz (z : ZT) (U : State) : Prop := z.1 ≤ U.heap.size ∧ wz1 "WinterWalk$Kinds" "ABOVE" z.1 z.2.1 z.2.2.2.2.1 U U.heap ∧ wz1 "WinterWalk$Asks" "SIZE_TOLD" z.1 z.2.2.1 z.2.2.2.2.2.1 U U.heap ∧ wz1 "WinterWalk$Asks" "MARK_TOLD" z.1 z.2.2.2.1 z.2.2.2.2.2.2 U U.heap
theorem wz1.go {C n : String} {base b : Nat} {x : Nat → Int32} {s U : State} {H1 : Heap} (h : wz1 C n base b x s s.heap) (hb : base ≤ s.heap.size) (hv : s.vm.Alike U.vm) (hk : ∀ a : Nat, a < s.heap.size → ¬ base ≤ a → H1[a]? = s.heap[a]?) : wz1 C n base b x U H1 :=
  ⟨va_Z.kept (va_Z.moved hv h.1) hk, va_X.kept (va_X.moved hv h.2.1) (hk b (Nat.lt_of_lt_of_le h.2.2 hb) (Nat.not_le.mpr h.2.2)), h.2.2⟩
theorem wz.go {z : ZT} {s U : State} {A : Nat → Prop} {H : Heap} {locs : List Loc} (h : wz z s) (hS : va_S A s.heap H locs) (hAb : ∀ q, A q → z.1 ≤ q) (hU : U.heap = H) (hv : s.vm.Alike U.vm) : wz z U := by
  have hk : ∀ a : Nat, a < s.heap.size → ¬ z.1 ≤ a → U.heap[a]? = s.heap[a]? := fun a h1 h2 => by rw [hU]; exact hS.2.1 a h1 (fun q => h2 (hAb a q))
  exact ⟨by rw [hU]; exact Nat.le_trans h.1 hS.1, h.2.1.go h.1 hv hk, h.2.2.1.go h.1 hv hk, h.2.2.2.go h.1 hv hk⟩
def wvz (z : ZT) (D : va_G) (cI cB cQ : ClassId) (sz : Nat) (WS : va_W) (U : State) : Prop := wv D cI cB cQ sz WS U ∧ wz z U ∧ ∀ q ∈ WS, z.1 ≤ q.1
theorem wvz_blind {z : ZT} {D : va_G} {cI cB cQ : ClassId} {sz : Nat} {WS : va_W} {As : List Value} : FrameBlind (va_Pc As (wvz z D cI cB cQ sz WS)) := by
  intro a U g mk q
  obtain ⟨q0, q1, q2, q3⟩ := q
  obtain ⟨-, q1⟩ := wv_blind (As := As) a U g mk ⟨q0, q1⟩
  exact ⟨q0, q1, wz.go (A := fun _ => False) (locs := []) q2 ⟨Nat.le_refl _, fun _ _ _ => rfl, fun _ h => by cases h⟩ (fun _ h => absurd h id) rfl (Vm.Alike.refl U.vm), q3⟩
abbrev miz (l : Launch) (y : MethodName) (ws : List Cond) (rm : Room) (z : ZT) (D : va_G) (cI cB cQ : ClassId) (As : List Value) (sz : Nat) (WS : va_W) {S : Type} (post : Int32 → S → Prop) (W' : S → va_W) (mc ms : Nat) : Prop :=
  Met l y ws rm (va_Pc As (wvz z D cI cB cQ sz WS)) (va_Qi post (fun u t => wb D (va_A WS sz) (W' u) t) (va_A WS sz)) mc ms (va_A WS sz)
theorem wpz_S {z : ZT} {s : State} {H : Heap} {locs : List Loc} {D : va_G} {cI cB cQ : ClassId} {A : Nat → Prop} {WS WC : va_W} {As : List Value} (hZ : wz z s) (hS : va_S A s.heap H locs) (hAb : ∀ q, A q → z.1 ≤ q) (hP : va_P D kl WS H) (hK : va_K D kl (ty_s cI cB cQ) s) (hD : va_D A WS) (hN : ww_N s) (isC : List Nat) (hn : va_nd isC = true) (hC : isC.map (fun i => WS[i]?) = WC.map some) : PreS s H (va_Pc As (wvz z D cI cB cQ H.size WC)) As :=
  ⟨wvz_blind, fun U hU hW => ⟨rfl, ((wp_S (As := As) hP hK hD hN isC hn hC).2 U hU hW).2, hZ.go hS hAb hU hW.alike, fun q hq => by
    obtain ⟨i, hi, e⟩ := List.mem_iff_getElem.mp hq
    exact hAb _ ((hD.sub isC hn hC).2 i q (by rw [List.getElem?_eq_getElem hi, e]))⟩⟩
theorem wpz_V {z : ZT} {s : State} {H : Heap} {locs : List Loc} {D : va_G} {cI cB cQ : ClassId} {A : Nat → Prop} {WS WC : va_W} {As : List Value} {b ci : Nat} {q : vw_C} {fs : List Value} (hZ : wz z s) (hS : va_S A s.heap H locs) (hAb : ∀ q, A q → z.1 ≤ q) (hP : va_P D kl WS H) (hK : va_K D kl (ty_s cI cB cQ) s) (hD : va_D A WS) (hN : ww_N s) (isC : List Nat) (hn : va_nd isC = true) (hC : isC.map (fun i => WS[i]?) = WC.map some) (hc : kl[ci]? = some q) (he : WC[0]? = some (b, .inr (ci, fs))) : PreV s H q.1 b (va_Pc (.ref b :: As) (wvz z D cI cB cQ H.size WC)) As :=
  ⟨wvz_blind, va_recv hK (hP.sub isC (wf_map hC)) hc he, (wpz_S hZ hS hAb hP hK hD hN isC hn hC).2⟩
theorem wm_z {l : Launch} {y : MethodName} {ws ws' : List Cond} {rm : Room} {z : ZT} {D : va_G} {cI cB cQ : ClassId} {As : List Value} {sz : Nat} {WS : va_W} {mc ms : Nat} {cc : ByteArray} {maxL : Nat} {ret : Option FieldType} {S : Type} {post : Int32 → S → Prop} {W' : S → va_W} (hy : plainName y.cls = true) (hw : ws = Cond.code y cc maxL ret :: ws') (hl : (lg_sl As).length ≤ maxL)
    (body : ∀ (p : Program) (e : Env) (s : State) (m : MethodId) (below : List Frame) (meth : Method) (c : Code) (A : Nat → Prop) (ls : Array Slot), wz z s → (∀ q, A q → z.1 ≤ q) → p.tables.exec = Jvm.exec → c.code = cc → meth.sig.returnType = ret → c.maxLocals = maxL → s.vm.findClass y.cls = some m.cls → (∀ w ∈ ws, w.before As.toArray s = true) → meth.locks = false → meth.name = y.name →
      va_P D kl WS s.heap → va_K D kl (ty_s cI cB cQ) s → va_D A WS → ww_N s → (∀ q : Nat, s.heap.size ≤ q → A q) → lv_has ls maxL (lv_args 0 As) → va_S A s.heap s.heap [] →
      W p l e rm s m As.toArray below meth c s.heap [] 0 0 (MQ below (va_Qi post (fun u t => wb D A (W' u) t) A) As.toArray s mc ms A) (F0 m 0 ls [])) : miz l y ws rm z D cI cB cQ As sz WS post W' mc ms := by
  refine Met.ofW (cc := cc) (maxL := maxL) (ret := ret) hy hw ?_
  intro p e s m args below meth c s₁ B hml hv
  obtain ⟨rfl, ⟨hsz, hP, hK, hD0, hN⟩, hZ, hb⟩ := hv
  subst hsz
  have hown : s.vm.findClass y.cls = some m.cls := findClass_of_methodNamed B.named
  have hl0 := lv_entry As (n := maxL) hl
  rw [lg_entry_eq]
  refine body p e s m below meth c (va_A WS s.heap.size) _ hZ (fun q hq => ?_) B.exec B.bytes B.returns hml hown (atoms_spec (ws := ws) B.pre) B.notSynchronized (name_of_methodNamed B.named B.method).1 hP hK hD0.self hN (fun q h => Or.inr h) hl0 va_S.rf
  rcases hq with ⟨k, ee, hk⟩ | h
  · exact hb _ (List.mem_of_getElem? hk)
  · exact Nat.le_trans hZ.1 h
