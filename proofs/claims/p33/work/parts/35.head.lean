set_option maxHeartbeats 4000000 in
set_option maxRecDepth 100000 in
theorem law_head {p : Program} {l : Launch} {e : Env} {s : State} {m : MethodId} {below : List Frame} {meth : Method} {c : Code} {D : va_G} {cI cB cQ : ClassId} {A : Nat → Prop} {z : ZT} {b L : Nat} {xs : Nat → Int32} {qx rw tp nw ac im fo ak la sq ir tb dr dw0 dw1 dw2 dw3 dw4 dw5 dw6 dw7 nw0 nw1 nw2 nw3 nw4 nw5 nw6 nw7 rg th tw0 tw1 tw2 tw3 tw4 tw5 tw6 tw7 bo qm msl mzs mln mir mtk mtb mtr mfz : Nat} (hx : p.tables.exec = Jvm.exec) (hb : c.code = code) (hr : meth.sig.returnType = ret) (hlocks : meth.locks = false) (hml : c.maxLocals = 4) (hown : s.vm.findClass RL = some m.cls) (hX : va_X b L xs s s.heap) (hbl : b < s.heap.size) (hbA : ¬ A b) (hA : ∀ q : Nat, s.heap.size ≤ q → A q) (hAs : ∀ q, A q → s.heap.size ≤ q) (hAb : ∀ q, A q → z.1 ≤ q) (hZ : wz z s) (hts : ∀ w ∈ wsL_law, w.before #[Value.ref b] s = true) (hK : va_K D kl (ty_s cI cB cQ) s) (hN : ww_N s) (hL : L ≤ 384) (hZV : ZV z) : ∀ (n k : Nat) (i : Int32) (H : Heap) (locs : List Loc) (ls : Array Slot), i.toInt = 6 * (k : Int) → k ≤ 64 → 65 - k < n → LWS D cI cB cQ A s b qx rw tp nw ac im fo ak la sq ir tb dr dw0 dw1 dw2 dw3 dw4 dw5 dw6 dw7 nw0 nw1 nw2 nw3 nw4 nw5 nw6 nw7 rg th tw0 tw1 tw2 tw3 tw4 tw5 tw6 tw7 bo qm msl mzs mln mir mtk mtb mtr mfz i H locs ls → W p l e room_1 s m #[Value.ref b] below meth c H locs (49 + 216 * k) (2908 + 1560 * k) (lw_Z below #[Value.ref b] s) (F0 m 18 ls []) := by
  intro n
  induction n with
  | zero =>
    intro k i H locs ls _ _ hm
    exact absurd hm (Nat.not_lt_zero _)
  | succ n ih =>
    intro k i H locs ls hik hk64 hm h
    refine LWS.elim h (fun fg fl fs fi le lf fp pq fy tf dvi dro dwa dlz dds ddy dga dpa dfw dfo dfr dfn dft dfk dfa dfb nvi nro nwa nlz nds ndy nga npa nfw nfo nfr nfn nft nfk nfa nfb ns kp rf mf tvi tro twa tlz tds tdy tga tpa tfw tfo tfr tfn tft tfk tfa tfb tc bf mna msu mle mfu map mpp mtc mnm msf mzf mlnf mirf mtkf mtbf mtrf mfzf Bs i_ns i_kp i_le i_pq i_dvi i_dwa i_nvi i_nwa i_tvi i_twa i_tc i_mna i_mle i_map i_mtc i_fp i_mpp i_dro hs dha nha hR hI tha mhsi mhz hB hRR hle hTR hlf hfp hKV hKK hST hP hD hS hl => ?_)
    refine lv_iload_n hx hb dL_law_18 rfl (lv_at hl 0 rfl) ?_
    refine lv_aload_n hx hb dL_law_19 rfl (lv_at hl 3 rfl) ?_
    refine va_slen hx hb hX hbl hbA hS dL_law_20 ?_
    refine lv_bipush (v := 6) hx hb dL_law_21 (by decide) ?_
    refine lv_isub hx hb dL_law_23 ?_
    refine lv_topi (fun x1 ex1 => ?_)
    have e1 : x1.toInt = (L : Int) - 6 := by rw [ex1]; exact zi_sub (nI_toInt (n := L) (by omega)) (by decide) (by omega) (by omega)
    refine lv_icmp_gt (tgt := 1366) hx hb dL_law_24 (by decide) (fun c1 => ?_) (fun c1 => ?_)
    · refine lv_iconst (v := 1) hx hb dL_law_1366 (by decide) ?_
      refine va_forget (fun q hq => hAs _ (hS.2.2 q hq)) ?_
      refine W.widen (k := 600000) (n := 7302250) (by omega) (by omega) ?_
      exact lw_ret hx hb hr hlocks dL_law_1367
    · have f1 := zi_nlt c1
      refine lv_aload_n hx hb dL_law_27 rfl (lv_at hl 3 rfl) ?_
      refine lv_iload_n hx hb dL_law_28 rfl (lv_at hl 0 rfl) ?_
      refine va_sld hx hb hX hbl hbA hS (zi_in (by omega) (by omega)) dL_law_29 ?_
      refine lv_topi (fun x2 ex2 => ?_)
      refine lv_bipush (v := 63) hx hb dL_law_30 (by decide) ?_
      refine lv_iand hx hb dL_law_32 ?_
      refine lv_topi (fun x3 ex3 => ?_)
      obtain ⟨j, hj, e3⟩ := pk_andE x2 (m := 63) 6 (by decide)
      obtain rfl : x3 = nI j := ex3.trans e3
      have hk : ∀ (H : Heap) (locs : List Loc) (ls : Array Slot), LWS D cI cB cQ A s b qx rw tp nw ac im fo ak la sq ir tb dr dw0 dw1 dw2 dw3 dw4 dw5 dw6 dw7 nw0 nw1 nw2 nw3 nw4 nw5 nw6 nw7 rg th tw0 tw1 tw2 tw3 tw4 tw5 tw6 tw7 bo qm msl mzs mln mir mtk mtb mtr mfz i H locs ls → W p l e room_1 s m #[Value.ref b] below meth c H locs (49 + 216 * k + 216) (2908 + 1560 * k + 1560) (lw_Z below #[Value.ref b] s) (F0 m 1360 ls []) := by
        intro H locs ls h
        refine LWS.elim h (fun fg fl fs fi le lf fp pq fy tf dvi dro dwa dlz dds ddy dga dpa dfw dfo dfr dfn dft dfk dfa dfb nvi nro nwa nlz nds ndy nga npa nfw nfo nfr nfn nft nfk nfa nfb ns kp rf mf tvi tro twa tlz tds tdy tga tpa tfw tfo tfr tfn tft tfk tfa tfb tc bf mna msu mle mfu map mpp mtc mnm msf mzf mlnf mirf mtkf mtbf mtrf mfzf Bs i_ns i_kp i_le i_pq i_dvi i_dwa i_nvi i_nwa i_tvi i_twa i_tc i_mna i_mle i_map i_mtc i_fp i_mpp i_dro hs dha nha hR hI tha mhsi mhz hB hRR hle hTR hlf hfp hKV hKK hST hP hD hS hl => ?_)
        obtain ⟨x4, ex4⟩ : ∃ y : Int32, y = i + Int32.ofInt 6 := ⟨_, rfl⟩
        refine lv_iinc (v := x4) (lv' := [(3, .int x4), (2, .ref qm), (1, .ref qx), (0, .ref b)]) hx hb dL_law_1360 hl (k := 0) rfl ex4.symm (by decide) rfl (fun ls hl => ?_)
        refine lv_goto (tgt := 18) hx hb dL_law_1363 (by decide) ?_
        have e4 : x4.toInt = i.toInt + 6 := by rw [ex4]; exact zi_add rfl (by decide) (by omega) (by omega)
        refine W.widen (k := 49 + 216 * (k + 1)) (n := 2908 + 1560 * (k + 1)) (by omega) (by omega) ?_
        exact ih (k + 1) x4 _ _ _ (by omega) (by omega) (by omega) (LWS.make fg fl fs fi le lf fp pq fy tf dvi dro dwa dlz dds ddy dga dpa dfw dfo dfr dfn dft dfk dfa dfb nvi nro nwa nlz nds ndy nga npa nfw nfo nfr nfn nft nfk nfa nfb ns kp rf mf tvi tro twa tlz tds tdy tga tpa tfw tfo tfr tfn tft tfk tfa tfb tc bf mna msu mle mfu map mpp mtc mnm msf mzf mlnf mirf mtkf mtbf mtrf mfzf Bs i_ns i_kp i_le i_pq i_dvi i_dwa i_nvi i_nwa i_tvi i_twa i_tc i_mna i_mle i_map i_mtc i_fp i_mpp i_dro hs dha nha hR hI tha mhsi mhz hB hRR hle hTR hlf hfp hKV hKK hST hP hD hS hl)
      by_cases h36 : 36 ≤ j
      · refine lv_tableOut (tgt := 1360) hx hb dL_law_33 (Or.inr (by rw [nI_toInt (by omega)]; omega)) (by decide) ?_
        refine W.widen (k := 49 + 216 * k + 216) (n := 2908 + 1560 * k + 1560) (by omega) (by omega) ?_
        exact hk _ _ _ h
      · rcases (show j = 0 ∨ j = 1 ∨ j = 2 ∨ j = 3 ∨ j = 4 ∨ j = 5 ∨ j = 6 ∨ j = 7 ∨ j = 8 ∨ j = 9 ∨ j = 10 ∨ j = 11 ∨ j = 12 ∨ j = 13 ∨ j = 14 ∨ j = 15 ∨ j = 16 ∨ j = 17 ∨ j = 18 ∨ j = 19 ∨ j = 20 ∨ j = 21 ∨ j = 22 ∨ j = 23 ∨ j = 24 ∨ j = 25 ∨ j = 26 ∨ j = 27 ∨ j = 28 ∨ j = 29 ∨ j = 30 ∨ j = 31 ∨ j = 32 ∨ j = 33 ∨ j = 34 ∨ j = 35 by omega) with rfl | rfl | rfl | rfl | rfl | rfl | rfl | rfl | rfl | rfl | rfl | rfl | rfl | rfl | rfl | rfl | rfl | rfl | rfl | rfl | rfl | rfl | rfl | rfl | rfl | rfl | rfl | rfl | rfl | rfl | rfl | rfl | rfl | rfl | rfl | rfl
        · refine lv_tableIn (off := 159) (tgt := 192) hx hb dL_law_33 (by decide) (by decide) rfl (by decide) ?_
          exact law_c0 hx hb hml hown hX hbl hbA hA hAb hZ hts hK hN (by omega) hL (by omega) (by omega) hZV hk h
        · refine lv_tableIn (off := 202) (tgt := 235) hx hb dL_law_33 (by decide) (by decide) rfl (by decide) ?_
          exact law_c1 hx hb hml hown hX hbl hbA hA hAb hZ hts hK hN (by omega) hL (by omega) (by omega) hZV hk h
        · refine lv_tableIn (off := 245) (tgt := 278) hx hb dL_law_33 (by decide) (by decide) rfl (by decide) ?_
          exact law_c2 hx hb hml hown hX hbl hbA hA hAb hZ hts hK hN (by omega) hL (by omega) (by omega) hZV hk h
        · refine lv_tableIn (off := 308) (tgt := 341) hx hb dL_law_33 (by decide) (by decide) rfl (by decide) ?_
          exact law_c3 hx hb hml hown hX hbl hbA hA hAb hZ hts hK hN (by omega) hL (by omega) (by omega) hZV hk h
        · refine lv_tableIn (off := 331) (tgt := 364) hx hb dL_law_33 (by decide) (by decide) rfl (by decide) ?_
          exact law_c4 hx hb hml hown hX hbl hbA hA hAb hZ hts hK hN (by omega) hL (by omega) (by omega) hZV hk h
        · refine lv_tableIn (off := 354) (tgt := 387) hx hb dL_law_33 (by decide) (by decide) rfl (by decide) ?_
          exact law_c5 hx hb hml hown hX hbl hbA hA hAb hZ hts hK hN (by omega) hL (by omega) (by omega) hZV hk h
        · refine lv_tableIn (off := 367) (tgt := 400) hx hb dL_law_33 (by decide) (by decide) rfl (by decide) ?_
          exact law_c6 hx hb hml hown hX hbl hbA hA hAb hZ hts hK hN (by omega) hL (by omega) (by omega) hZV hk h
        · refine lv_tableIn (off := 380) (tgt := 413) hx hb dL_law_33 (by decide) (by decide) rfl (by decide) ?_
          exact law_c7 hx hb hml hown hX hbl hbA hA hAb hZ hts hK hN (by omega) hL (by omega) (by omega) hZV hk h
        · refine lv_tableIn (off := 393) (tgt := 426) hx hb dL_law_33 (by decide) (by decide) rfl (by decide) ?_
          exact law_c8 hx hb hml hown hX hbl hbA hA hAb hZ hts hK hN (by omega) hL (by omega) (by omega) hZV hk h
        · refine lv_tableIn (off := 416) (tgt := 449) hx hb dL_law_33 (by decide) (by decide) rfl (by decide) ?_
          exact law_c9 hx hb hml hown hX hbl hbA hA hAb hZ hts hK hN (by omega) hL (by omega) (by omega) hZV hk h
        · refine lv_tableIn (off := 449) (tgt := 482) hx hb dL_law_33 (by decide) (by decide) rfl (by decide) ?_
          exact law_c10 hx hb hml hown hX hbl hbA hA hAb hZ hts hK hN (by omega) hL (by omega) (by omega) hZV hk h
        · refine lv_tableIn (off := 482) (tgt := 515) hx hb dL_law_33 (by decide) (by decide) rfl (by decide) ?_
          exact law_c11 hx hb hml hown hX hbl hbA hA hAb hZ hts hK hN (by omega) hL (by omega) (by omega) hZV hk h
        · refine lv_tableIn (off := 515) (tgt := 548) hx hb dL_law_33 (by decide) (by decide) rfl (by decide) ?_
          exact law_c12 hx hb hml hown hX hbl hbA hA hAb hZ hts hK hN (by omega) hL (by omega) (by omega) hZV hk h
        · refine lv_tableIn (off := 548) (tgt := 581) hx hb dL_law_33 (by decide) (by decide) rfl (by decide) ?_
          exact law_c13 hx hb hml hown hX hbl hbA hA hAb hZ hts hK hN (by omega) hL (by omega) (by omega) hZV hk h
        · refine lv_tableIn (off := 591) (tgt := 624) hx hb dL_law_33 (by decide) (by decide) rfl (by decide) ?_
          exact law_c14 hx hb hml hown hX hbl hbA hA hAb hZ hts hK hN (by omega) hL (by omega) (by omega) hZV hk h
        · refine lv_tableIn (off := 624) (tgt := 657) hx hb dL_law_33 (by decide) (by decide) rfl (by decide) ?_
          exact law_c15 hx hb hml hown hX hbl hbA hA hAb hZ hts hK hN (by omega) hL (by omega) (by omega) hZV hk h
        · refine lv_tableIn (off := 657) (tgt := 690) hx hb dL_law_33 (by decide) (by decide) rfl (by decide) ?_
          exact law_c16 hx hb hml hown hX hbl hbA hA hAb hZ hts hK hN (by omega) hL (by omega) (by omega) hZV hk h
        · refine lv_tableIn (off := 690) (tgt := 723) hx hb dL_law_33 (by decide) (by decide) rfl (by decide) ?_
          exact law_c17 hx hb hml hown hX hbl hbA hA hAb hZ hts hK hN (by omega) hL (by omega) (by omega) hZV hk h
        · refine lv_tableIn (off := 713) (tgt := 746) hx hb dL_law_33 (by decide) (by decide) rfl (by decide) ?_
          exact law_c18 hx hb hml hown hX hbl hbA hA hAb hZ hts hK hN (by omega) hL (by omega) (by omega) hZV hk h
        · refine lv_tableIn (off := 746) (tgt := 779) hx hb dL_law_33 (by decide) (by decide) rfl (by decide) ?_
          exact law_c19 hx hb hml hown hX hbl hbA hA hAb hZ hts hK hN (by omega) hL (by omega) (by omega) hZV hk h
        · refine lv_tableIn (off := 789) (tgt := 822) hx hb dL_law_33 (by decide) (by decide) rfl (by decide) ?_
          exact law_c20 hx hb hml hown hX hbl hbA hA hAb hZ hts hK hN (by omega) hL (by omega) (by omega) hZV hk h
        · refine lv_tableIn (off := 832) (tgt := 865) hx hb dL_law_33 (by decide) (by decide) rfl (by decide) ?_
          exact law_c21 hx hb hml hown hX hbl hbA hA hAb hZ hts hK hN (by omega) hL (by omega) (by omega) hZV hk h
        · refine lv_tableIn (off := 855) (tgt := 888) hx hb dL_law_33 (by decide) (by decide) rfl (by decide) ?_
          exact law_c22 hx hb hml hown hX hbl hbA hA hAb hZ hts hK hN (by omega) hL (by omega) (by omega) hZV hk h
        · refine lv_tableIn (off := 908) (tgt := 941) hx hb dL_law_33 (by decide) (by decide) rfl (by decide) ?_
          exact law_c23 hx hb hml hown hX hbl hbA hA hAb hZ hts hK hN (by omega) hL (by omega) (by omega) hZV hk h
        · refine lv_tableIn (off := 931) (tgt := 964) hx hb dL_law_33 (by decide) (by decide) rfl (by decide) ?_
          exact law_c24 hx hb hml hown hX hbl hbA hA hAb hZ hts hK hN (by omega) hL (by omega) (by omega) hZV hk h
        · refine lv_tableIn (off := 964) (tgt := 997) hx hb dL_law_33 (by decide) (by decide) rfl (by decide) ?_
          exact law_c25 hx hb hml hown hX hbl hbA hA hAb hZ hts hK hN (by omega) hL (by omega) (by omega) hZV hk h
        · refine lv_tableIn (off := 1027) (tgt := 1060) hx hb dL_law_33 (by decide) (by decide) rfl (by decide) ?_
          exact law_c26 hx hb hml hown hX hbl hbA hA hAb hZ hts hK hN (by omega) hL (by omega) (by omega) hZV hk h
        · refine lv_tableIn (off := 1090) (tgt := 1123) hx hb dL_law_33 (by decide) (by decide) rfl (by decide) ?_
          exact law_c27 hx hb hml hown hX hbl hbA hA hAb hZ hts hK hN (by omega) hL (by omega) (by omega) hZV hk h
        · refine lv_tableIn (off := 1133) (tgt := 1166) hx hb dL_law_33 (by decide) (by decide) rfl (by decide) ?_
          exact law_c28 hx hb hml hown hX hbl hbA hA hAb hZ hts hK hN (by omega) hL (by omega) (by omega) hZV hk h
        · refine lv_tableIn (off := 1156) (tgt := 1189) hx hb dL_law_33 (by decide) (by decide) rfl (by decide) ?_
          exact law_c29 hx hb hml hown hX hbl hbA hA hAb hZ hts hK hN (by omega) hL (by omega) (by omega) hZV hk h
        · refine lv_tableIn (off := 1179) (tgt := 1212) hx hb dL_law_33 (by decide) (by decide) rfl (by decide) ?_
          exact law_c30 hx hb hml hown hX hbl hbA hA hAb hZ hts hK hN (by omega) hL (by omega) (by omega) hZV hk h
        · refine lv_tableIn (off := 1202) (tgt := 1235) hx hb dL_law_33 (by decide) (by decide) rfl (by decide) ?_
          exact law_c31 hx hb hml hown hX hbl hbA hA hAb hZ hts hK hN (by omega) hL (by omega) (by omega) hZV hk h
        · refine lv_tableIn (off := 1235) (tgt := 1268) hx hb dL_law_33 (by decide) (by decide) rfl (by decide) ?_
          exact law_c32 hx hb hml hown hX hbl hbA hA hAb hZ hts hK hN (by omega) hL (by omega) (by omega) hZV hk h
        · refine lv_tableIn (off := 1268) (tgt := 1301) hx hb dL_law_33 (by decide) (by decide) rfl (by decide) ?_
          exact law_c33 hx hb hml hown hX hbl hbA hA hAb hZ hts hK hN (by omega) hL (by omega) (by omega) hZV hk h
        · refine lv_tableIn (off := 1291) (tgt := 1324) hx hb dL_law_33 (by decide) (by decide) rfl (by decide) ?_
          exact law_c34 hx hb hml hown hX hbl hbA hA hAb hZ hts hK hN (by omega) hL (by omega) (by omega) hZV hk h
        · refine lv_tableIn (off := 1314) (tgt := 1347) hx hb dL_law_33 (by decide) (by decide) rfl (by decide) ?_
          exact law_c35 hx hb hml hown hX hbl hbA hA hAb hZ hts hK hN (by omega) hL (by omega) (by omega) hZV hk h
