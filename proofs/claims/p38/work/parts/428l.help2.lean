theorem xm_bitCount {l : Launch} (x : Int32) : Met l yJ_bitCount (Cond.code yJ_bitCount cJ_bitCount 1 (some .int) :: sa_Ts) { frames := 2, cells := 0, slots := 0, locals := 120 } (fun v _ => v = [Value.int x].toArray) (fun _ st oc t => oc = .returned (some (.int (hs_bc x))) ∧ t.heap = st.heap) 0 0 (fun _ => False) := by
  refine Met.ofW (cc := cJ_bitCount) (maxL := 1) (ret := some .int) (by decide) rfl ?_
  intro p e s m args below meth c s₁ B hml hv
  subst hv
  have hl := lv_entry [Value.int x] (n := 1) (Nat.le_refl 1)
  rw [lg_entry_eq]
  have hts0 := atoms_spec (ws := Cond.code yJ_bitCount cJ_bitCount 1 (some .int) :: sa_Ts) B.pre
  have hown : s.vm.findClass "java/lang/Integer" = some m.cls := findClass_of_methodNamed B.named
  generalize (lg_sl [Value.int x] ++ List.replicate (1 - (lg_sl [Value.int x]).length) Slot.unset).toArray = ls at hl ⊢
  have hl : lv_has ls 1 [(0, .int x)] := hl
  refine lv_iload_n B.exec B.bytes dJ_bitCount_0 rfl (hl.2.2 (0, .int (x)) List.mem_cons_self) ?_
  refine lv_iload_n B.exec B.bytes dJ_bitCount_1 rfl (hl.2.2 (0, .int (x)) List.mem_cons_self) ?_
  refine lv_iconst (v := 1) B.exec B.bytes dJ_bitCount_2 rfl ?_
  refine lv_iushr (v := ((x : Int32).toUInt32 >>> ((1 : Int32).toUInt32 &&& Int32.toUInt32 31)).toInt32) B.exec B.bytes dJ_bitCount_3 rfl ?_
  refine lv_ldcw (v := 1431655765) B.exec B.bytes hown (hts0 _ (List.mem_cons_of_mem _ tv_836)) dJ_bitCount_4 ?_
  refine lv_iand B.exec B.bytes dJ_bitCount_7 ?_
  refine lv_isub B.exec B.bytes dJ_bitCount_8 ?_
  refine lv_istore_n (lv' := [(0, .int (hs_b1 (x)))]) B.exec B.bytes dJ_bitCount_9 rfl hl (by decide) rfl (fun ls1 hl1 => ?_)
  refine lv_iload_n B.exec B.bytes dJ_bitCount_10 rfl (hl1.2.2 (0, .int (hs_b1 (x))) List.mem_cons_self) ?_
  refine lv_ldcw (v := 858993459) B.exec B.bytes hown (hts0 _ (List.mem_cons_of_mem _ tv_837)) dJ_bitCount_11 ?_
  refine lv_iand B.exec B.bytes dJ_bitCount_14 ?_
  refine lv_iload_n B.exec B.bytes dJ_bitCount_15 rfl (hl1.2.2 (0, .int (hs_b1 (x))) List.mem_cons_self) ?_
  refine lv_iconst (v := 2) B.exec B.bytes dJ_bitCount_16 rfl ?_
  refine lv_iushr (v := ((hs_b1 (x) : Int32).toUInt32 >>> ((2 : Int32).toUInt32 &&& Int32.toUInt32 31)).toInt32) B.exec B.bytes dJ_bitCount_17 rfl ?_
  refine lv_ldcw (v := 858993459) B.exec B.bytes hown (hts0 _ (List.mem_cons_of_mem _ tv_837)) dJ_bitCount_18 ?_
  refine lv_iand B.exec B.bytes dJ_bitCount_21 ?_
  refine lv_iadd B.exec B.bytes dJ_bitCount_22 ?_
  refine lv_istore_n (lv' := [(0, .int (hs_b2 (hs_b1 (x))))]) B.exec B.bytes dJ_bitCount_23 rfl hl1 (by decide) rfl (fun ls2 hl2 => ?_)
  refine lv_iload_n B.exec B.bytes dJ_bitCount_24 rfl (hl2.2.2 (0, .int (hs_b2 (hs_b1 (x)))) List.mem_cons_self) ?_
  refine lv_iload_n B.exec B.bytes dJ_bitCount_25 rfl (hl2.2.2 (0, .int (hs_b2 (hs_b1 (x)))) List.mem_cons_self) ?_
  refine lv_iconst (v := 4) B.exec B.bytes dJ_bitCount_26 rfl ?_
  refine lv_iushr (v := ((hs_b2 (hs_b1 (x)) : Int32).toUInt32 >>> ((4 : Int32).toUInt32 &&& Int32.toUInt32 31)).toInt32) B.exec B.bytes dJ_bitCount_27 rfl ?_
  refine lv_iadd B.exec B.bytes dJ_bitCount_28 ?_
  refine lv_ldcw (v := 252645135) B.exec B.bytes hown (hts0 _ (List.mem_cons_of_mem _ tv_838)) dJ_bitCount_29 ?_
  refine lv_iand B.exec B.bytes dJ_bitCount_32 ?_
  refine lv_istore_n (lv' := [(0, .int (hs_b3 (hs_b2 (hs_b1 (x)))))]) B.exec B.bytes dJ_bitCount_33 rfl hl2 (by decide) rfl (fun ls3 hl3 => ?_)
  refine lv_iload_n B.exec B.bytes dJ_bitCount_34 rfl (hl3.2.2 (0, .int (hs_b3 (hs_b2 (hs_b1 (x))))) List.mem_cons_self) ?_
  refine lv_iload_n B.exec B.bytes dJ_bitCount_35 rfl (hl3.2.2 (0, .int (hs_b3 (hs_b2 (hs_b1 (x))))) List.mem_cons_self) ?_
  refine lv_bipush (v := 8) B.exec B.bytes dJ_bitCount_36 (by decide) ?_
  refine lv_iushr (v := ((hs_b3 (hs_b2 (hs_b1 (x))) : Int32).toUInt32 >>> ((8 : Int32).toUInt32 &&& Int32.toUInt32 31)).toInt32) B.exec B.bytes dJ_bitCount_38 rfl ?_
  refine lv_iadd B.exec B.bytes dJ_bitCount_39 ?_
  refine lv_istore_n (lv' := [(0, .int (hs_b4 (hs_b3 (hs_b2 (hs_b1 (x))))))]) B.exec B.bytes dJ_bitCount_40 rfl hl3 (by decide) rfl (fun ls4 hl4 => ?_)
  refine lv_iload_n B.exec B.bytes dJ_bitCount_41 rfl (hl4.2.2 (0, .int (hs_b4 (hs_b3 (hs_b2 (hs_b1 (x)))))) List.mem_cons_self) ?_
  refine lv_iload_n B.exec B.bytes dJ_bitCount_42 rfl (hl4.2.2 (0, .int (hs_b4 (hs_b3 (hs_b2 (hs_b1 (x)))))) List.mem_cons_self) ?_
  refine lv_bipush (v := 16) B.exec B.bytes dJ_bitCount_43 (by decide) ?_
  refine lv_iushr (v := ((hs_b4 (hs_b3 (hs_b2 (hs_b1 (x)))) : Int32).toUInt32 >>> ((16 : Int32).toUInt32 &&& Int32.toUInt32 31)).toInt32) B.exec B.bytes dJ_bitCount_45 rfl ?_
  refine lv_iadd B.exec B.bytes dJ_bitCount_46 ?_
  refine lv_istore_n (lv' := [(0, .int (hs_b5 (hs_b4 (hs_b3 (hs_b2 (hs_b1 (x)))))))]) B.exec B.bytes dJ_bitCount_47 rfl hl4 (by decide) rfl (fun ls5 hl5 => ?_)
  refine lv_iload_n B.exec B.bytes dJ_bitCount_48 rfl (hl5.2.2 (0, .int (hs_b5 (hs_b4 (hs_b3 (hs_b2 (hs_b1 (x))))))) List.mem_cons_self) ?_
  refine lv_bipush (v := 63) B.exec B.bytes dJ_bitCount_49 (by decide) ?_
  refine lv_iand B.exec B.bytes dJ_bitCount_51 ?_
  exact W.zret (v := hs_bc x) B.exec B.bytes B.returns rfl (fun t ht _ => ⟨rfl, ht⟩) (fun q hq => by cases hq) dJ_bitCount_52
set_option maxRecDepth 20000 in
set_option maxHeartbeats 1000000 in
theorem xm_mwL {l : Launch} {p : Program} {e : Env} {s : State} {m : MethodId} {args : Array Value} {below : List Frame} {meth : Method} {c : Code} {Q : State → Prop} {D : va_G} {dA : Nat → ClassId} {A : Nat → Prop} {al : List (Nat × Nat)} (C0 : sa_C p s m args c D dA A 5 vwCl sa_Ts cX11_minutesOfWay yX11_minutesOfWay.cls) (hU : sa_U D vwCl dA s) (hO : tb_Ou A s s.heap) (hKL : al.map Prod.snd = tc_KL) {μ : xw_M} {w ev : Nat} (hG : xw_G xw_GL μ) (hw : w < 1024) (hev : ev ≤ 10) (hn : 2 * (ev : Int) ≤ μ 1 1) (kx : xw_W p l e { frames := 3, cells := 0, slots := 0, locals := 146 } s m args below meth c Q D dA A 5 vwCl tb_KT0 al 0 0 μ 43 [(3, .int (Int32.ofInt (hs_M (fun i => μ 2 i % 256) w ev)))] []) : ∀ (fu9 : Nat) (i : Nat), (ev : Int) - (i : Int) < (fu9 : Int) → i ≤ ev → xw_W p l e { frames := 3, cells := 0, slots := 0, locals := 146 } s m args below meth c Q D dA A 5 vwCl tb_KT0 al 0 0 μ 5 [(3, .int (Int32.ofInt (hs_M (fun i => μ 2 i % 256) w i))), (4, .int (Int32.ofInt (i : Int))), (0, .ref (xw_ad al 0)), (1, .int (Int32.ofInt (w : Int))), (2, .int (Int32.ofInt (ev : Int)))] [] := by
  intro fu9
  induction fu9 with
  | zero => intro i hm hi; exfalso; omega
  | succ fu9 ih =>
    intro i hm hi
    have hb := hs_Mb (fun i => μ 2 i % 256) (fun i => xb_255 _) w i
    refine xw_iload (pc := 5) C0 1 dX11_minutesOfWay_5 rfl ?_
    refine xw_iload_n (pc := 7) C0 4 dX11_minutesOfWay_7 rfl rfl ?_
    refine xw_icmp_ge (pc := 8) (tgt := 43) C0 (by omega) (by omega) dX11_minutesOfWay_8 rfl (fun b1 => ?_) (fun b1 => ?_)
    · have e9 : i = ev := by omega
      subst e9
      refine xw_pk [0] (L' := [(3, .int (Int32.ofInt (hs_M (fun i => μ 2 i % 256) w i)))]) rfl ?_
      exact kx
    · refine xw_iload_n (pc := 11) C0 3 dX11_minutesOfWay_11 rfl rfl ?_
      refine xw_iload (pc := 12) C0 1 dX11_minutesOfWay_12 rfl ?_
      refine xw_bitS (pc := 14) (rest := []) (r := ((w / 2 ^ i % 2 : Nat) : Int)) C0 sa_Tg (pu_X11_bit (l := l)) tv_589 dX11_minutesOfWay_14 tv_853 tv_588 tv_1 yb_X11_bit (by decide) (by decide) (Nat.le_of_ble_eq_true rfl) (hs_bit (by omega) (by omega)) ?_
      refine xw_iconst (pc := 17) C0 dX11_minutesOfWay_17 ?_
      refine xw_icmp_ne (pc := 18) (tgt := 37) C0 (by omega) (by omega) dX11_minutesOfWay_18 rfl (fun b2 => ?_) (fun b2 => ?_)
      · refine xw_iinc (pc := 37) (L' := [(4, .int (Int32.ofInt ((i : Int) + 1))), (3, .int (Int32.ofInt (hs_M (fun i => μ 2 i % 256) w i))), (0, .ref (xw_ad al 0)), (1, .int (Int32.ofInt (w : Int))), (2, .int (Int32.ofInt (ev : Int)))]) C0 1 dX11_minutesOfWay_37 rfl (by decide) rfl ?_
        refine xw_goto (pc := 40) (tgt := 5) C0 dX11_minutesOfWay_40 rfl ?_
        have e1 : (i : Int) + 1 = ((i + 1 : Nat) : Int) := by omega
        have e3 : hs_M (fun i => μ 2 i % 256) w i = hs_M (fun i => μ 2 i % 256) w (i + 1) := (hs_M0 (by omega)).symm
        rw [e1, e3]
        refine xw_pk [1, 0, 2, 3, 4] (L' := [(3, .int (Int32.ofInt (hs_M (fun i => μ 2 i % 256) w (i + 1)))), (4, .int (Int32.ofInt ((i + 1 : Nat) : Int))), (0, .ref (xw_ad al 0)), (1, .int (Int32.ofInt (w : Int))), (2, .int (Int32.ofInt (ev : Int)))]) rfl ?_
        exact ih (i + 1) (by omega) (by omega)
      · refine xw_iload_n (pc := 21) C0 0 dX11_minutesOfWay_21 rfl rfl ?_
        refine xw_aload_n (pc := 22) C0 2 dX11_minutesOfWay_22 rfl rfl ?_
        refine xw_getR (pc := 23) (f := 0) C0 1 kcX11 dX11_minutesOfWay_23 (by decide) tv_422 (xj_0 hKL) xk_27 rfl ((rfl).trans (xe_0_0 hG)) ?_
        refine xw_iconst (pc := 26) C0 dX11_minutesOfWay_26 ?_
        refine xw_iload (pc := 27) C0 1 dX11_minutesOfWay_27 rfl ?_
        refine xw_imul (pc := 29) C0 dX11_minutesOfWay_29 ?_
        refine xw_iconst (pc := 30) C0 dX11_minutesOfWay_30 ?_
        refine xw_iadd (pc := 31) C0 dX11_minutesOfWay_31 ?_
        refine xw_callVI (pc := 32) (ci := 0) (rest := [.int (Int32.ofInt (hs_M (fun i => μ 2 i % 256) w i))]) (As := [.int (Int32.ofInt ((2 * (i : Int)) + 1))]) C0 hU hO sa_Tg hKL (xm_at (l := l) (i := (2 * (i : Int)) + 1) (by omega) hG) tv_513 dX11_minutesOfWay_32 tv_783 tv_511 tv_512 tv_2 rfl yb_X0_at (by decide) rfl rfl rfl (by decide) (Nat.le_of_ble_eq_true rfl) (xj_1 hKL) xk_19 (fun r3 m3 w3 => ?_)
        obtain ⟨rfl, w3⟩ := w3
        have v3 : r3 = μ 2 ((2 * (i : Int)) + 1).toNat % 256 := w3.elim (fun q => q.2.2) (fun q => absurd ⟨(by omega), (by omega)⟩ q.1)
        have u3 : 0 ≤ r3 ∧ r3 ≤ 255 := by omega
        refine xw_iadd (pc := 35) C0 dX11_minutesOfWay_35 ?_
        refine xw_istore_n (pc := 36) (L' := [(3, .int (Int32.ofInt ((hs_M (fun i => μ 2 i % 256) w i) + r3))), (4, .int (Int32.ofInt (i : Int))), (0, .ref (xw_ad al 0)), (1, .int (Int32.ofInt (w : Int))), (2, .int (Int32.ofInt (ev : Int)))]) C0 dX11_minutesOfWay_36 rfl (by decide) rfl ?_
        refine xw_iinc (pc := 37) (L' := [(4, .int (Int32.ofInt ((i : Int) + 1))), (3, .int (Int32.ofInt ((hs_M (fun i => μ 2 i % 256) w i) + r3))), (0, .ref (xw_ad al 0)), (1, .int (Int32.ofInt (w : Int))), (2, .int (Int32.ofInt (ev : Int)))]) C0 1 dX11_minutesOfWay_37 rfl (by decide) rfl ?_
        refine xw_goto (pc := 40) (tgt := 5) C0 dX11_minutesOfWay_40 rfl ?_
        have e1 : (i : Int) + 1 = ((i + 1 : Nat) : Int) := by omega
        have e2 : (2 * (i : Int) + 1).toNat = 2 * i + 1 := by omega
        rw [e2] at v3
        have e3 : hs_M (fun i => μ 2 i % 256) w i + r3 = hs_M (fun i => μ 2 i % 256) w (i + 1) := by rw [v3]; exact (hs_M1 (by omega)).symm
        rw [e1, e3]
        refine xw_pk [1, 0, 2, 3, 4] (L' := [(3, .int (Int32.ofInt (hs_M (fun i => μ 2 i % 256) w (i + 1)))), (4, .int (Int32.ofInt ((i + 1 : Nat) : Int))), (0, .ref (xw_ad al 0)), (1, .int (Int32.ofInt (w : Int))), (2, .int (Int32.ofInt (ev : Int)))]) rfl ?_
        exact ih (i + 1) (by omega) (by omega)
set_option maxRecDepth 20000 in
set_option maxHeartbeats 1000000 in
theorem xm_mw {l : Launch} {μ : xw_M} {w ev : Nat} (hG : xw_G xw_GL μ) (hw : w < 1024) (hev : ev ≤ 10) (hn : 2 * (ev : Int) ≤ μ 1 1) : xw_MetI l vwCl sa_Ts tb_KT0 tc_KL yX11_minutesOfWay cX11_minutesOfWay 5 (some .int) 3 146 (fun ad => [.ref (ad 0), .int (Int32.ofInt (w : Int)), .int (Int32.ofInt (ev : Int))]) μ (fun r μ' => μ = μ' ∧ r = hs_M (fun i => μ 2 i % 256) w ev) :=
  xw_of (by decide) (fun _ => Nat.le_of_ble_eq_true rfl) (fun p e s m args below meth c D dA A al w0 sz C0 hU hO hKL hr hlk hA => by
    refine xw_iconst (pc := 0) C0 dX11_minutesOfWay_0 ?_
    refine xw_istore_n (pc := 1) (L' := [(3, .int (Int32.ofInt 0)), (0, .ref (xw_ad al 0)), (1, .int (Int32.ofInt (w : Int))), (2, .int (Int32.ofInt (ev : Int)))]) C0 dX11_minutesOfWay_1 rfl (by decide) rfl ?_
    refine xw_iconst (pc := 2) C0 dX11_minutesOfWay_2 ?_
    refine xw_istore (pc := 3) (L' := [(4, .int (Int32.ofInt 0)), (3, .int (Int32.ofInt 0)), (0, .ref (xw_ad al 0)), (1, .int (Int32.ofInt (w : Int))), (2, .int (Int32.ofInt (ev : Int)))]) C0 dX11_minutesOfWay_3 (by decide) rfl ?_
    refine xw_pk [1, 0, 2, 3, 4] (L' := [(3, .int (Int32.ofInt (hs_M (fun i => μ 2 i % 256) w 0))), (4, .int (Int32.ofInt ((0 : Nat) : Int))), (0, .ref (xw_ad al 0)), (1, .int (Int32.ofInt (w : Int))), (2, .int (Int32.ofInt (ev : Int)))]) rfl ?_
    refine xm_mwL C0 hU hO hKL hG hw hev hn ?_ 100 0 (by omega) (by omega)
    refine xw_iload_n (pc := 43) C0 0 dX11_minutesOfWay_43 rfl rfl ?_
    refine xw_iret C0 hA hr hlk rfl dX11_minutesOfWay_44 ?_
    exact ⟨_, rfl, rfl, rfl⟩)
set_option maxRecDepth 20000 in
set_option maxHeartbeats 1000000 in
theorem xm_cwA {l : Launch} {p : Program} {e : Env} {s : State} {m : MethodId} {args : Array Value} {below : List Frame} {meth : Method} {c : Code} {Q : State → Prop} {D : va_G} {dA : Nat → ClassId} {A : Nat → Prop} {al : List (Nat × Nat)} (C0 : sa_C p s m args c D dA A 7 vwCl sa_Ts cX11_countWays yX11_countWays.cls) (hU : sa_U D vwCl dA s) (hO : tb_Ou A s s.heap) (hKL : al.map Prod.snd = tc_KL) {μ : xw_M} {ev : Nat} {d : Int} (hG : xw_G xw_GL μ) (hev : ev ≤ 10) (hn : 2 * (ev : Int) = μ 1 1) (hd : 0 ≤ d ∧ d ≤ 3000) (h1 : ∀ q : Nat, q < ev → μ 2 (2 * q) % 256 ≤ 1) (kx : xw_W p l e { frames := 4, cells := 0, slots := 0, locals := 173 } s m args below meth c Q D dA A 7 vwCl tb_KT0 al 0 0 μ 34 [(3, .int (Int32.ofInt (hs_A (fun i => μ 2 i % 256) ev : Int))), (0, .ref (xw_ad al 0)), (1, .int (Int32.ofInt (ev : Int))), (2, .int (Int32.ofInt d))] []) : ∀ (fu9 : Nat) (i : Nat), (ev : Int) - (i : Int) < (fu9 : Int) → i ≤ ev → xw_W p l e { frames := 4, cells := 0, slots := 0, locals := 173 } s m args below meth c Q D dA A 7 vwCl tb_KT0 al 0 0 μ 5 [(3, .int (Int32.ofInt (hs_A (fun i => μ 2 i % 256) i : Int))), (4, .int (Int32.ofInt (i : Int))), (0, .ref (xw_ad al 0)), (1, .int (Int32.ofInt (ev : Int))), (2, .int (Int32.ofInt d))] [] := by
  intro fu9
  induction fu9 with
  | zero => intro i hm hi; exfalso; omega
  | succ fu9 ih =>
    intro i hm hi
    refine xw_iload (pc := 5) C0 1 dX11_countWays_5 rfl ?_
    refine xw_iload_n (pc := 7) C0 3 dX11_countWays_7 rfl rfl ?_
    refine xw_icmp_ge (pc := 8) (tgt := 34) C0 (by omega) (by omega) dX11_countWays_8 rfl (fun b1 => ?_) (fun b1 => ?_)
    · have e9 : i = ev := by omega
      subst e9
      refine xw_pk [0, 2, 3, 4] (L' := [(3, .int (Int32.ofInt (hs_A (fun i => μ 2 i % 256) i : Int))), (0, .ref (xw_ad al 0)), (1, .int (Int32.ofInt (i : Int))), (2, .int (Int32.ofInt d))]) rfl ?_
      exact kx
    · refine xw_iload_n (pc := 11) C0 0 dX11_countWays_11 rfl rfl ?_
      refine xw_aload_n (pc := 12) C0 2 dX11_countWays_12 rfl rfl ?_
      refine xw_getR (pc := 13) (f := 0) C0 1 kcX11 dX11_countWays_13 (by decide) tv_422 (xj_0 hKL) xk_27 rfl ((rfl).trans (xe_0_0 hG)) ?_
      refine xw_iconst (pc := 16) C0 dX11_countWays_16 ?_
      refine xw_iload (pc := 17) C0 1 dX11_countWays_17 rfl ?_
      refine xw_imul (pc := 19) C0 dX11_countWays_19 ?_
      refine xw_callVI (pc := 20) (ci := 0) (rest := [.int (Int32.ofInt (hs_A (fun i => μ 2 i % 256) i : Int))]) (As := [.int (Int32.ofInt (2 * (i : Int)))]) C0 hU hO sa_Tg hKL (xm_at (l := l) (i := 2 * (i : Int)) (by omega) hG) tv_513 dX11_countWays_20 tv_783 tv_511 tv_512 tv_2 rfl yb_X0_at (by decide) rfl rfl rfl (by decide) (Nat.le_of_ble_eq_true rfl) (xj_1 hKL) xk_19 (fun r2 m2 w2 => ?_)
      obtain ⟨rfl, w2⟩ := w2
      have v2 : r2 = μ 2 (2 * (i : Int)).toNat % 256 := w2.elim (fun q => q.2.2) (fun q => absurd ⟨(by omega), (by omega)⟩ q.1)
      have u2 : 0 ≤ r2 ∧ r2 ≤ 255 := by omega
      have e2 : (2 * (i : Int)).toNat = 2 * i := by omega
      rw [e2] at v2
      have o2 := h1 i (by omega)
      obtain ⟨b2, rfl⟩ : ∃ b9 : Nat, r2 = (b9 : Int) := ⟨r2.toNat, by omega⟩
      have hb2 := hs_Ab (fun i => μ 2 i % 256) i (fun q hq => h1 q (by omega))
      refine xw_iload (pc := 23) C0 1 dX11_countWays_23 rfl ?_
      refine xw_ishl (pc := 25) C0 dX11_countWays_25 (hs_shb (i := i) (b := b2) (by omega) (by omega)) ?_
      refine xw_ior (pc := 26) C0 dX11_countWays_26 (hs_or (i := i) (b := b2) (by omega) (by omega) hb2) ?_
      refine xw_istore_n (pc := 27) (L' := [(3, .int (Int32.ofInt ((hs_A (fun i => μ 2 i % 256) i + b2 * 2 ^ i : Nat) : Int))), (4, .int (Int32.ofInt (i : Int))), (0, .ref (xw_ad al 0)), (1, .int (Int32.ofInt (ev : Int))), (2, .int (Int32.ofInt d))]) C0 dX11_countWays_27 rfl (by decide) rfl ?_
      refine xw_iinc (pc := 28) (L' := [(4, .int (Int32.ofInt ((i : Int) + 1))), (3, .int (Int32.ofInt ((hs_A (fun i => μ 2 i % 256) i + b2 * 2 ^ i : Nat) : Int))), (0, .ref (xw_ad al 0)), (1, .int (Int32.ofInt (ev : Int))), (2, .int (Int32.ofInt d))]) C0 1 dX11_countWays_28 rfl (by decide) rfl ?_
      refine xw_goto (pc := 31) (tgt := 5) C0 dX11_countWays_31 rfl ?_
      have e1 : (i : Int) + 1 = ((i + 1 : Nat) : Int) := by omega
      have e3 : hs_A (fun i => μ 2 i % 256) i + b2 * 2 ^ i = hs_A (fun i => μ 2 i % 256) (i + 1) := by show _ = hs_A (fun i => μ 2 i % 256) i + (μ 2 (2 * i) % 256).toNat * 2 ^ i; rw [← v2]; rfl
      rw [e1, e3]
      refine xw_pk [1, 0, 2, 3, 4] (L' := [(3, .int (Int32.ofInt (hs_A (fun i => μ 2 i % 256) (i + 1) : Int))), (4, .int (Int32.ofInt ((i + 1 : Nat) : Int))), (0, .ref (xw_ad al 0)), (1, .int (Int32.ofInt (ev : Int))), (2, .int (Int32.ofInt d))]) rfl ?_
      exact ih (i + 1) (by omega) (by omega)
set_option maxRecDepth 20000 in
set_option maxHeartbeats 1000000 in
theorem xm_cwW {l : Launch} {p : Program} {e : Env} {s : State} {m : MethodId} {args : Array Value} {below : List Frame} {meth : Method} {c : Code} {Q : State → Prop} {D : va_G} {dA : Nat → ClassId} {A : Nat → Prop} {al : List (Nat × Nat)} (C0 : sa_C p s m args c D dA A 7 vwCl sa_Ts cX11_countWays yX11_countWays.cls) (hU : sa_U D vwCl dA s) (hO : tb_Ou A s s.heap) (hKL : al.map Prod.snd = tc_KL) {μ : xw_M} {ev : Nat} {d : Int} (hG : xw_G xw_GL μ) (hev : ev ≤ 10) (hn : 2 * (ev : Int) = μ 1 1) (hd : 0 ≤ d ∧ d ≤ 3000) (h1 : ∀ q : Nat, q < ev → μ 2 (2 * q) % 256 ≤ 1) (kx : xw_W p l e { frames := 4, cells := 0, slots := 0, locals := 173 } s m args below meth c Q D dA A 7 vwCl tb_KT0 al 0 0 (xw_u μ 0 14 (hs_cnt d (2 ^ ev))) 101 [(5, .int (Int32.ofInt (hs_few (fun i => μ 2 i % 256) ev d (hs_M (fun i => μ 2 i % 256) (hs_A (fun i => μ 2 i % 256) ev) ev) (2 ^ ev))))] []) : ∀ (fu9 : Nat) (k : Nat), ((2 ^ ev : Nat) : Int) - (k : Int) < (fu9 : Int) → k ≤ 2 ^ ev → xw_W p l e { frames := 4, cells := 0, slots := 0, locals := 173 } s m args below meth c Q D dA A 7 vwCl tb_KT0 al 0 0 (xw_u μ 0 14 (hs_cnt d k)) 53 [(6, .int (Int32.ofInt (k : Int))), (5, .int (Int32.ofInt (hs_few (fun i => μ 2 i % 256) ev d (hs_M (fun i => μ 2 i % 256) (hs_A (fun i => μ 2 i % 256) ev) ev) k))), (4, .int (Int32.ofInt (hs_M (fun i => μ 2 i % 256) (hs_A (fun i => μ 2 i % 256) ev) ev))), (0, .ref (xw_ad al 0)), (1, .int (Int32.ofInt (ev : Int))), (2, .int (Int32.ofInt d))] [] := by
  intro fu9
  induction fu9 with
  | zero => intro k hm hi; exfalso; omega
  | succ fu9 ih =>
    intro k hm hi
    have hp := hs_p2 hev
    have hc := hs_cntb d k
    have hf := hs_fewb (fun i => μ 2 i % 256) ev d (hs_M (fun i => μ 2 i % 256) (hs_A (fun i => μ 2 i % 256) ev) ev) k
    have hpc := hs_pcb k
    have hB := hs_Mb (fun i => μ 2 i % 256) (fun i => xb_255 _) (hs_A (fun i => μ 2 i % 256) ev) ev
    have hGu : ∀ x9 : Int, xw_G xw_GL (xw_u μ 0 14 x9) := fun x9 => xw_GF hG (xw_F.rf.u (ML := [(0, 14, 14)]) List.mem_cons_self ⟨Nat.le_refl _, Nat.le_refl _⟩) (by decide)
    refine xw_iload (pc := 53) C0 0 dX11_countWays_53 rfl ?_
    refine xw_iconst (pc := 55) C0 dX11_countWays_55 ?_
    refine xw_iload_n (pc := 56) C0 4 dX11_countWays_56 rfl rfl ?_
    refine xw_ishl (pc := 57) C0 dX11_countWays_57 (hs_shl (i := ev) (by omega)) ?_
    refine xw_icmp_ge (pc := 58) (tgt := 101) C0 (by omega) (by omega) dX11_countWays_58 rfl (fun b1 => ?_) (fun b1 => ?_)
    · have e9 : k = 2 ^ ev := by omega
      subst e9
      refine xw_pk [1] (L' := [(5, .int (Int32.ofInt (hs_few (fun i => μ 2 i % 256) ev d (hs_M (fun i => μ 2 i % 256) (hs_A (fun i => μ 2 i % 256) ev) ev) (2 ^ ev))))]) rfl ?_
      exact kx
    · refine xw_iload (pc := 61) C0 0 dX11_countWays_61 rfl ?_
      refine xw_callP1 (pc := 63) (rest := []) (r := ((hs_pc k : Nat) : Int)) C0 sa_Tg (fun x => xm_bitCount x) tv_835 dX11_countWays_63 tv_1095 tv_834 tv_20 yb_J_bitCount (by decide) (by decide) (Nat.le_of_ble_eq_true rfl) (hs_bc1 (by omega)) ?_
      refine xw_iload_n (pc := 66) C0 5 dX11_countWays_66 rfl rfl ?_
      refine xw_icmp_ne (pc := 67) (tgt := 95) C0 (by omega) (by omega) dX11_countWays_67 rfl (fun b2 => ?_) (fun b2 => ?_)
      · refine xw_iinc (pc := 95) (L' := [(6, .int (Int32.ofInt ((k : Int) + 1))), (5, .int (Int32.ofInt (hs_few (fun i => μ 2 i % 256) ev d (hs_M (fun i => μ 2 i % 256) (hs_A (fun i => μ 2 i % 256) ev) ev) k))), (4, .int (Int32.ofInt (hs_M (fun i => μ 2 i % 256) (hs_A (fun i => μ 2 i % 256) ev) ev))), (0, .ref (xw_ad al 0)), (1, .int (Int32.ofInt (ev : Int))), (2, .int (Int32.ofInt d))]) C0 0 dX11_countWays_95 rfl (by decide) rfl ?_
        refine xw_goto (pc := 98) (tgt := 53) C0 dX11_countWays_98 rfl ?_
        have e1 : (k : Int) + 1 = ((k + 1 : Nat) : Int) := by omega
        have e3 := hs_cn0 (d := d) (m := k) (by omega)
        have e4 := hs_fw0 (t := (fun i => μ 2 i % 256)) (ev := ev) (d := d) (b := (hs_M (fun i => μ 2 i % 256) (hs_A (fun i => μ 2 i % 256) ev) ev)) (m := k) (by omega)
        rw [e1, e3, e4]
        refine xw_pk [0, 1, 2, 3, 4, 5] (L' := [(6, .int (Int32.ofInt ((k + 1 : Nat) : Int))), (5, .int (Int32.ofInt (hs_few (fun i => μ 2 i % 256) ev d (hs_M (fun i => μ 2 i % 256) (hs_A (fun i => μ 2 i % 256) ev) ev) (k + 1)))), (4, .int (Int32.ofInt (hs_M (fun i => μ 2 i % 256) (hs_A (fun i => μ 2 i % 256) ev) ev))), (0, .ref (xw_ad al 0)), (1, .int (Int32.ofInt (ev : Int))), (2, .int (Int32.ofInt d))]) rfl ?_
        exact ih (k + 1) (by omega) (by omega)
      · refine xw_aload_n (pc := 70) C0 3 dX11_countWays_70 rfl rfl ?_
        refine xw_dup (pc := 71) C0 dX11_countWays_71 rfl ?_
        refine xw_getI (pc := 72) (f := 14) (z := hs_cnt d k) C0 kcX11 dX11_countWays_72 (by decide) tv_436 (xj_0 hKL) xk_27 rfl (xw_ug) (fun g3 k3 => ?_)
        refine xw_iconst (pc := 75) C0 dX11_countWays_75 ?_
        refine xw_iadd (pc := 76) C0 dX11_countWays_76 ?_
        refine xw_putI (pc := 77) (f := 14) C0 kcX11 dX11_countWays_77 (by decide) tv_436 rfl rfl (xj_0 hKL) xk_27 rfl (by omega) (by omega) ?_
        rw [xw_uu]
        refine xw_aload_n (pc := 80) C0 3 dX11_countWays_80 rfl rfl ?_
        refine xw_iload (pc := 81) C0 0 dX11_countWays_81 rfl ?_
        refine xw_iload_n (pc := 83) C0 4 dX11_countWays_83 rfl rfl ?_
        refine xw_callVI (pc := 84) (ci := 11) (rest := []) (As := [.int (Int32.ofInt (k : Int)), .int (Int32.ofInt (ev : Int))]) C0 hU hO sa_Tg hKL (xm_mw (l := l) (μ := (xw_u μ 0 14 ((hs_cnt d k) + 1))) (w := k) (ev := ev) (hGu _) (by omega) (by omega) (by have q9 : (xw_u μ 0 14 ((hs_cnt d k) + 1)) 1 1 = μ 1 1 := xw_un (by decide); omega)) tv_1254 dX11_countWays_84 tv_1251 tv_1253 tq_X11_minutesOfWay tv_1 rfl yb_X11_minutesOfWay (by decide) rfl rfl rfl (by decide) (Nat.le_of_ble_eq_true rfl) (xj_0 hKL) xk_27 (fun r4 m4 w4 => ?_)
        obtain ⟨e4, v4⟩ := w4
        subst e4
        have t4 : (fun i => (xw_u μ 0 14 ((hs_cnt d k) + 1)) 2 i % 256) = (fun i => μ 2 i % 256) := funext (fun i => by rw [show (xw_u μ 0 14 ((hs_cnt d k) + 1)) 2 i = μ 2 i from xw_un (fun q => absurd q.1 (by decide))])
        rw [t4] at v4
        have u4 := hs_Mb (fun i => μ 2 i % 256) (fun i => xb_255 _) k ev
        refine xw_iload (pc := 87) C0 2 dX11_countWays_87 rfl ?_
        refine xw_icmp_gt (pc := 89) (tgt := 95) C0 (by omega) (by omega) dX11_countWays_89 rfl (fun b6 => ?_) (fun b6 => ?_)
        · refine xw_iinc (pc := 95) (L' := [(6, .int (Int32.ofInt ((k : Int) + 1))), (5, .int (Int32.ofInt (hs_few (fun i => μ 2 i % 256) ev d (hs_M (fun i => μ 2 i % 256) (hs_A (fun i => μ 2 i % 256) ev) ev) k))), (4, .int (Int32.ofInt (hs_M (fun i => μ 2 i % 256) (hs_A (fun i => μ 2 i % 256) ev) ev))), (0, .ref (xw_ad al 0)), (1, .int (Int32.ofInt (ev : Int))), (2, .int (Int32.ofInt d))]) C0 0 dX11_countWays_95 rfl (by decide) rfl ?_
          refine xw_goto (pc := 98) (tgt := 53) C0 dX11_countWays_98 rfl ?_
          have e1 : (k : Int) + 1 = ((k + 1 : Nat) : Int) := by omega
          have e3 := hs_cn1 (d := d) (m := k) (by omega)
          have e4 := hs_fw2 (t := (fun i => μ 2 i % 256)) (ev := ev) (d := d) (b := (hs_M (fun i => μ 2 i % 256) (hs_A (fun i => μ 2 i % 256) ev) ev)) (m := k) (by omega)
          rw [e1, e3, e4]
          refine xw_pk [0, 1, 2, 3, 4, 5] (L' := [(6, .int (Int32.ofInt ((k + 1 : Nat) : Int))), (5, .int (Int32.ofInt (hs_few (fun i => μ 2 i % 256) ev d (hs_M (fun i => μ 2 i % 256) (hs_A (fun i => μ 2 i % 256) ev) ev) (k + 1)))), (4, .int (Int32.ofInt (hs_M (fun i => μ 2 i % 256) (hs_A (fun i => μ 2 i % 256) ev) ev))), (0, .ref (xw_ad al 0)), (1, .int (Int32.ofInt (ev : Int))), (2, .int (Int32.ofInt d))]) rfl ?_
          exact ih (k + 1) (by omega) (by omega)
        · refine xw_iinc (pc := 92) (L' := [(5, .int (Int32.ofInt ((hs_few (fun i => μ 2 i % 256) ev d (hs_M (fun i => μ 2 i % 256) (hs_A (fun i => μ 2 i % 256) ev) ev) k) + 1))), (6, .int (Int32.ofInt (k : Int))), (4, .int (Int32.ofInt (hs_M (fun i => μ 2 i % 256) (hs_A (fun i => μ 2 i % 256) ev) ev))), (0, .ref (xw_ad al 0)), (1, .int (Int32.ofInt (ev : Int))), (2, .int (Int32.ofInt d))]) C0 1 dX11_countWays_92 rfl (by decide) rfl ?_
          refine xw_iinc (pc := 95) (L' := [(6, .int (Int32.ofInt ((k : Int) + 1))), (5, .int (Int32.ofInt ((hs_few (fun i => μ 2 i % 256) ev d (hs_M (fun i => μ 2 i % 256) (hs_A (fun i => μ 2 i % 256) ev) ev) k) + 1))), (4, .int (Int32.ofInt (hs_M (fun i => μ 2 i % 256) (hs_A (fun i => μ 2 i % 256) ev) ev))), (0, .ref (xw_ad al 0)), (1, .int (Int32.ofInt (ev : Int))), (2, .int (Int32.ofInt d))]) C0 1 dX11_countWays_95 rfl (by decide) rfl ?_
          refine xw_goto (pc := 98) (tgt := 53) C0 dX11_countWays_98 rfl ?_
          have e1 : (k : Int) + 1 = ((k + 1 : Nat) : Int) := by omega
          have e3 := hs_cn1 (d := d) (m := k) (by omega)
          have e4 := hs_fw1 (t := (fun i => μ 2 i % 256)) (ev := ev) (d := d) (b := (hs_M (fun i => μ 2 i % 256) (hs_A (fun i => μ 2 i % 256) ev) ev)) (m := k) (by omega) (by omega)
          rw [e1, e3, e4]
          refine xw_pk [0, 1, 2, 3, 4, 5] (L' := [(6, .int (Int32.ofInt ((k + 1 : Nat) : Int))), (5, .int (Int32.ofInt (hs_few (fun i => μ 2 i % 256) ev d (hs_M (fun i => μ 2 i % 256) (hs_A (fun i => μ 2 i % 256) ev) ev) (k + 1)))), (4, .int (Int32.ofInt (hs_M (fun i => μ 2 i % 256) (hs_A (fun i => μ 2 i % 256) ev) ev))), (0, .ref (xw_ad al 0)), (1, .int (Int32.ofInt (ev : Int))), (2, .int (Int32.ofInt d))]) rfl ?_
          exact ih (k + 1) (by omega) (by omega)
set_option maxRecDepth 20000 in
set_option maxHeartbeats 1000000 in
theorem xm_cw {l : Launch} {μ : xw_M} {ev : Nat} {d : Int} (hG : xw_G xw_GL μ) (hev : ev ≤ 10) (hn : 2 * (ev : Int) = μ 1 1) (hd : 0 ≤ d ∧ d ≤ 3000) (h1 : ∀ q : Nat, q < ev → μ 2 (2 * q) % 256 ≤ 1) : xw_MetI l vwCl sa_Ts tb_KT0 tc_KL yX11_countWays cX11_countWays 7 (some .int) 4 173 (fun ad => [.ref (ad 0), .int (Int32.ofInt (ev : Int)), .int (Int32.ofInt d)]) μ (fun r μ' => (xw_u μ 0 14 (hs_cnt d (2 ^ ev))) = μ' ∧ r = hs_few (fun i => μ 2 i % 256) ev d (hs_M (fun i => μ 2 i % 256) (hs_A (fun i => μ 2 i % 256) ev) ev) (2 ^ ev)) :=
  xw_of (by decide) (fun _ => Nat.le_of_ble_eq_true rfl) (fun p e s m args below meth c D dA A al w0 sz C0 hU hO hKL hr hlk hA => by
    refine xw_iconst (pc := 0) C0 dX11_countWays_0 ?_
    refine xw_istore_n (pc := 1) (L' := [(3, .int (Int32.ofInt 0)), (0, .ref (xw_ad al 0)), (1, .int (Int32.ofInt (ev : Int))), (2, .int (Int32.ofInt d))]) C0 dX11_countWays_1 rfl (by decide) rfl ?_
    refine xw_iconst (pc := 2) C0 dX11_countWays_2 ?_
    refine xw_istore (pc := 3) (L' := [(4, .int (Int32.ofInt 0)), (3, .int (Int32.ofInt 0)), (0, .ref (xw_ad al 0)), (1, .int (Int32.ofInt (ev : Int))), (2, .int (Int32.ofInt d))]) C0 dX11_countWays_3 (by decide) rfl ?_
    refine xw_pk [1, 0, 2, 3, 4] (L' := [(3, .int (Int32.ofInt (hs_A (fun i => μ 2 i % 256) 0 : Int))), (4, .int (Int32.ofInt ((0 : Nat) : Int))), (0, .ref (xw_ad al 0)), (1, .int (Int32.ofInt (ev : Int))), (2, .int (Int32.ofInt d))]) rfl ?_
    refine xm_cwA C0 hU hO hKL hG hev hn hd h1 ?_ 100 0 (by omega) (Nat.zero_le _)
    have hA9 := hs_Ab (fun i => μ 2 i % 256) ev h1
    have hp := hs_p2 hev
    refine xw_aload_n (pc := 34) C0 1 dX11_countWays_34 rfl rfl ?_
    refine xw_iload_n (pc := 35) C0 0 dX11_countWays_35 rfl rfl ?_
    refine xw_iload_n (pc := 36) C0 2 dX11_countWays_36 rfl rfl ?_
    refine xw_callVI (pc := 37) (ci := 11) (rest := []) (As := [.int (Int32.ofInt (hs_A (fun i => μ 2 i % 256) ev : Int)), .int (Int32.ofInt (ev : Int))]) C0 hU hO sa_Tg hKL (xm_mw (l := l) (w := hs_A (fun i => μ 2 i % 256) ev) (ev := ev) hG (by omega) (by omega) (by omega)) tv_1254 dX11_countWays_37 tv_1251 tv_1253 tq_X11_minutesOfWay tv_1 rfl yb_X11_minutesOfWay (by decide) rfl rfl rfl (by decide) (Nat.le_of_ble_eq_true rfl) (xj_0 hKL) xk_27 (fun r301 m301 w301 => ?_)
    obtain ⟨rfl, v301⟩ := w301
    have u301 := hs_Mb (fun i => μ 2 i % 256) (fun i => xb_255 _) (hs_A (fun i => μ 2 i % 256) ev) ev
    refine xw_istore (pc := 40) (L' := [(4, .int (Int32.ofInt r301)), (3, .int (Int32.ofInt (hs_A (fun i => μ 2 i % 256) ev : Int))), (0, .ref (xw_ad al 0)), (1, .int (Int32.ofInt (ev : Int))), (2, .int (Int32.ofInt d))]) C0 dX11_countWays_40 (by decide) rfl ?_
    refine xw_iconst (pc := 42) C0 dX11_countWays_42 ?_
    refine xw_istore (pc := 43) (L' := [(5, .int (Int32.ofInt 0)), (4, .int (Int32.ofInt r301)), (3, .int (Int32.ofInt (hs_A (fun i => μ 2 i % 256) ev : Int))), (0, .ref (xw_ad al 0)), (1, .int (Int32.ofInt (ev : Int))), (2, .int (Int32.ofInt d))]) C0 dX11_countWays_43 (by decide) rfl ?_
    refine xw_aload_n (pc := 45) C0 3 dX11_countWays_45 rfl rfl ?_
    refine xw_iconst (pc := 46) C0 dX11_countWays_46 ?_
    refine xw_putI (pc := 47) (f := 14) C0 kcX11 dX11_countWays_47 (by decide) tv_436 rfl rfl (xj_0 hKL) xk_27 rfl (by omega) (by omega) ?_
    refine xw_iconst (pc := 50) C0 dX11_countWays_50 ?_
    refine xw_istore (pc := 51) (L' := [(6, .int (Int32.ofInt 0)), (5, .int (Int32.ofInt 0)), (4, .int (Int32.ofInt r301)), (3, .int (Int32.ofInt (hs_A (fun i => μ 2 i % 256) ev : Int))), (0, .ref (xw_ad al 0)), (1, .int (Int32.ofInt (ev : Int))), (2, .int (Int32.ofInt d))]) C0 dX11_countWays_51 (by decide) rfl ?_
    subst v301
    refine xw_pk [0, 1, 2, 4, 5, 6] (L' := [(6, .int (Int32.ofInt ((0 : Nat) : Int))), (5, .int (Int32.ofInt (hs_few (fun i => μ 2 i % 256) ev d (hs_M (fun i => μ 2 i % 256) (hs_A (fun i => μ 2 i % 256) ev) ev) 0))), (4, .int (Int32.ofInt (hs_M (fun i => μ 2 i % 256) (hs_A (fun i => μ 2 i % 256) ev) ev))), (0, .ref (xw_ad al 0)), (1, .int (Int32.ofInt (ev : Int))), (2, .int (Int32.ofInt d))]) rfl ?_
    refine xm_cwW C0 hU hO hKL hG hev hn hd h1 ?_ 2000 0 (by omega) (Nat.zero_le _)
    refine xw_iload (pc := 101) C0 0 dX11_countWays_101 rfl ?_
    refine xw_iret C0 hA hr hlk rfl dX11_countWays_103 ?_
    exact ⟨_, rfl, rfl, rfl⟩)
