set_option maxRecDepth 20000 in
set_option maxHeartbeats 1000000 in
theorem xm_add {l : Launch} {μ : xw_M} {z : Int} (hG : xw_G xw_GL μ) (h0 : 0 ≤ μ 1 1 ∧ μ 1 1 < 940) : xw_MetV l vwCl sa_Ts tb_KT0 tc_KL yX0_add cX0_add 2 none 2 120 (fun ad => [.ref (ad 1), .int (Int32.ofInt z)]) μ (fun μ' => xb_W 2 1 1 (μ 1 1) 1 [z % 256] μ μ') :=
  xw_of (by decide) (fun _ => Nat.le_of_ble_eq_true rfl) (fun p e s m args below meth c D dA A al w0 sz C0 hU hO hKL hr hlk hA => by
    refine xw_aload_n (pc := 0) C0 0 dX0_add_0 rfl rfl ?_
    refine xw_getI (pc := 1) (f := 1) (z := μ 1 1) C0 kcX0 dX0_add_1 (by decide) tv_41 (xj_1 hKL) xk_19 rfl (rfl) (fun g1 k1 => ?_)
    refine xw_aload_n (pc := 4) C0 0 dX0_add_4 rfl rfl ?_
    refine xw_getR (pc := 5) (f := 0) C0 2 kcX0 dX0_add_5 (by decide) tv_39 (xj_1 hKL) xk_19 rfl ((rfl).trans (xe_1_0 hG)) ?_
    refine xw_alen (pc := 8) C0 dX0_add_8 (xj_2 hKL) xk_22 (by decide) ?_
    refine xw_icmp_ge (pc := 9) (tgt := 33) C0 (by omega) (by omega) dX0_add_9 rfl (fun b2 => ?_) (fun b2 => ?_)
    · exfalso
      omega
    · refine xw_aload_n (pc := 12) C0 0 dX0_add_12 rfl rfl ?_
      refine xw_getR (pc := 13) (f := 0) C0 2 kcX0 dX0_add_13 (by decide) tv_39 (xj_1 hKL) xk_19 rfl ((rfl).trans (xe_1_0 hG)) ?_
      refine xw_aload_n (pc := 16) C0 0 dX0_add_16 rfl rfl ?_
      refine xw_getI (pc := 17) (f := 1) (z := μ 1 1) C0 kcX0 dX0_add_17 (by decide) tv_41 (xj_1 hKL) xk_19 rfl (rfl) (fun g3 k3 => ?_)
      refine xw_iload_n (pc := 20) C0 1 dX0_add_20 rfl rfl ?_
      obtain ⟨y4, e4, f4, i4⟩ := xb_i2b z
      refine xw_i2b (pc := 21) C0 dX0_add_21 i4 ?_
      refine xw_bast (pc := 22) C0 dX0_add_22 (xj_2 hKL) xk_22 (by omega) (by decide) (xw_rl (by omega)) (by omega) (by omega) ?_
      refine xw_aload_n (pc := 23) C0 0 dX0_add_23 rfl rfl ?_
      refine xw_dup (pc := 24) C0 dX0_add_24 rfl ?_
      refine xw_getI (pc := 25) (f := 1) (z := μ 1 1) C0 kcX0 dX0_add_25 (by decide) tv_41 (xj_1 hKL) xk_19 rfl ((xw_un (fun q => absurd q.1 (by decide))).trans rfl) (fun g5 k5 => ?_)
      refine xw_iconst (pc := 28) C0 dX0_add_28 ?_
      refine xw_iadd (pc := 29) C0 dX0_add_29 ?_
      refine xw_putI (pc := 30) (f := 1) C0 kcX0 dX0_add_30 (by decide) tv_41 rfl rfl (xj_1 hKL) xk_19 rfl (by omega) (by omega) ?_
      refine xw_vret C0 hA hr hlk dX0_add_33 ?_
      exact ⟨rfl, xb_W1 (by decide) f4⟩)
set_option maxRecDepth 20000 in
set_option maxHeartbeats 1000000 in
theorem xm_addInt {l : Launch} {μ : xw_M} {z : Int} (hG : xw_G xw_GL μ) (h0 : 0 ≤ μ 1 1 ∧ μ 1 1 < 937) : xw_MetV l vwCl sa_Ts tb_KT0 tc_KL yX0_addInt cX0_addInt 2 none 3 141 (fun ad => [.ref (ad 1), .int (Int32.ofInt z)]) μ (fun μ' => xb_W 2 1 1 (μ 1 1) 4 (xb_B z) μ μ') :=
  xw_of (by decide) (fun _ => Nat.le_of_ble_eq_true rfl) (fun p e s m args below meth c D dA A al w0 sz C0 hU hO hKL hr hlk hA => by
    refine xw_aload_n (pc := 0) C0 0 dX0_addInt_0 rfl rfl ?_
    refine xw_iload_n (pc := 1) C0 1 dX0_addInt_1 rfl rfl ?_
    refine xw_bipush (pc := 2) C0 dX0_addInt_2 (by decide) ?_
    refine xw_iushr (pc := 4) C0 dX0_addInt_4 (xb_ush24 _) ?_
    refine xw_callVV (pc := 5) (ci := 0) (rest := []) (As := [.int (Int32.ofInt (z % 4294967296 / 16777216))]) C0 hU hO sa_Tg hKL (xm_add (l := l) hG (by omega)) tv_485 dX0_addInt_5 tv_482 tv_483 tv_484 tv_2 rfl yb_X0_add (by decide) rfl rfl rfl (by decide) (Nat.le_of_ble_eq_true rfl) (xj_1 hKL) xk_19 (fun m1 w1 => ?_)
    have z1 := w1.2.1
    have F1 := w1.F (by omega) (by omega)
    have hG_m1 := xw_GF hG F1 (by decide)
    refine xw_aload_n (pc := 8) C0 0 dX0_addInt_8 rfl rfl ?_
    refine xw_iload_n (pc := 9) C0 1 dX0_addInt_9 rfl rfl ?_
    refine xw_bipush (pc := 10) C0 dX0_addInt_10 (by decide) ?_
    refine xw_iushr (pc := 12) C0 dX0_addInt_12 (xb_ush16 _) ?_
    refine xw_callVV (pc := 13) (ci := 0) (rest := []) (As := [.int (Int32.ofInt (z % 4294967296 / 65536))]) C0 hU hO sa_Tg hKL (xm_add (l := l) hG_m1 (by omega)) tv_485 dX0_addInt_13 tv_482 tv_483 tv_484 tv_2 rfl yb_X0_add (by decide) rfl rfl rfl (by decide) (Nat.le_of_ble_eq_true rfl) (xj_1 hKL) xk_19 (fun m3 w3 => ?_)
    have z3 := w3.2.1
    have F3 := w3.F (by omega) (by omega)
    have hG_m3 := xw_GF hG_m1 F3 (by decide)
    refine xw_aload_n (pc := 16) C0 0 dX0_addInt_16 rfl rfl ?_
    refine xw_iload_n (pc := 17) C0 1 dX0_addInt_17 rfl rfl ?_
    refine xw_bipush (pc := 18) C0 dX0_addInt_18 (by decide) ?_
    refine xw_iushr (pc := 20) C0 dX0_addInt_20 (xb_ush8 _) ?_
    refine xw_callVV (pc := 21) (ci := 0) (rest := []) (As := [.int (Int32.ofInt (z % 4294967296 / 256))]) C0 hU hO sa_Tg hKL (xm_add (l := l) hG_m3 (by omega)) tv_485 dX0_addInt_21 tv_482 tv_483 tv_484 tv_2 rfl yb_X0_add (by decide) rfl rfl rfl (by decide) (Nat.le_of_ble_eq_true rfl) (xj_1 hKL) xk_19 (fun m5 w5 => ?_)
    have z5 := w5.2.1
    have F5 := w5.F (by omega) (by omega)
    have hG_m5 := xw_GF hG_m3 F5 (by decide)
    refine xw_aload_n (pc := 24) C0 0 dX0_addInt_24 rfl rfl ?_
    refine xw_iload_n (pc := 25) C0 1 dX0_addInt_25 rfl rfl ?_
    refine xw_callVV (pc := 26) (ci := 0) (rest := []) (As := [.int (Int32.ofInt z)]) C0 hU hO sa_Tg hKL (xm_add (l := l) hG_m5 (by omega)) tv_485 dX0_addInt_26 tv_482 tv_483 tv_484 tv_2 rfl yb_X0_add (by decide) rfl rfl rfl (by decide) (Nat.le_of_ble_eq_true rfl) (xj_1 hKL) xk_19 (fun m7 w7 => ?_)
    have z7 := w7.2.1
    have F7 := w7.F (by omega) (by omega)
    have hG_m7 := xw_GF hG_m5 F7 (by decide)
    refine xw_vret C0 hA hr hlk dX0_addInt_29 ?_
    rw [xb_e24] at w1
    rw [xb_e16] at w3
    rw [xb_e8] at w5
    exact ⟨rfl, xb_W.tr (len := 1) (len' := 3) (by decide) (by omega) w1 (by omega) (xb_W.tr (len := 1) (len' := 2) (by decide) (by omega) w3 (by omega) (xb_W.tr (len := 1) (len' := 1) (by decide) (by omega) w5 (by omega) w7))⟩)
set_option maxRecDepth 20000 in
set_option maxHeartbeats 1000000 in
theorem xm_feedC {l : Launch} {μ : xw_M} {a b c9 d e9 : Int} (hG : xw_G xw_GL μ) : xw_MetI l vwCl sa_Ts tb_KT0 tc_KL yX11_feed cX11_feed 6 (some .int) 4 170 (fun ad => [.ref (ad 0), .int (Int32.ofInt a), .int (Int32.ofInt b), .int (Int32.ofInt c9), .int (Int32.ofInt d), .int (Int32.ofInt e9)]) μ (fun r μ' => (940 < μ 1 1 + 20 ∧ μ' = μ ∧ r = -1) ∨ (μ 1 1 + 20 ≤ 940 ∧ xb_W 2 1 1 (μ 1 1) 20 (xb_B a ++ (xb_B b ++ (xb_B c9 ++ (xb_B d ++ xb_B e9)))) μ μ' ∧ r = μ 1 1 + 20)) :=
  xw_of (by decide) (fun _ => Nat.le_of_ble_eq_true rfl) (fun p e s m args below meth c D dA A al w0 sz C0 hU hO hKL hr hlk hA => by
    refine xw_aload_n (pc := 0) C0 0 dX11_feed_0 rfl rfl ?_
    refine xw_getR (pc := 1) (f := 0) C0 1 kcX11 dX11_feed_1 (by decide) tv_422 (xj_0 hKL) xk_27 rfl ((rfl).trans (xe_0_0 hG)) ?_
    refine xw_getI (pc := 4) (f := 1) (z := μ 1 1) C0 kcX0 dX11_feed_4 (by decide) tv_40 (xj_1 hKL) xk_19 rfl (rfl) (fun g1 k1 => ?_)
    refine xw_bipush (pc := 7) C0 dX11_feed_7 (by decide) ?_
    refine xw_iadd (pc := 9) C0 dX11_feed_9 ?_
    refine xw_sipush (pc := 10) C0 dX11_feed_10 (by decide) ?_
    refine xw_icmp_le (pc := 13) (tgt := 18) C0 (by omega) (by omega) dX11_feed_13 rfl (fun b2 => ?_) (fun b2 => ?_)
    · refine xw_aload_n (pc := 18) C0 0 dX11_feed_18 rfl rfl ?_
      refine xw_getR (pc := 19) (f := 0) C0 1 kcX11 dX11_feed_19 (by decide) tv_422 (xj_0 hKL) xk_27 rfl ((rfl).trans (xe_0_0 hG)) ?_
      refine xw_iload_n (pc := 22) C0 1 dX11_feed_22 rfl rfl ?_
      refine xw_callVV (pc := 23) (ci := 0) (rest := []) (As := [.int (Int32.ofInt a)]) C0 hU hO sa_Tg hKL (xm_addInt (l := l) hG (by omega)) tv_481 dX11_feed_23 tv_478 tv_479 tv_480 tv_2 rfl yb_X0_addInt (by decide) rfl rfl rfl (by decide) (Nat.le_of_ble_eq_true rfl) (xj_1 hKL) xk_19 (fun m3 w3 => ?_)
      have z3 := w3.2.1
      have F3 := w3.F (by omega) (by omega)
      have hG_m3 := xw_GF hG F3 (by decide)
      refine xw_aload_n (pc := 26) C0 0 dX11_feed_26 rfl rfl ?_
      refine xw_getR (pc := 27) (f := 0) C0 1 kcX11 dX11_feed_27 (by decide) tv_422 (xj_0 hKL) xk_27 rfl (((F3 0 0 rfl).trans rfl).trans (xe_0_0 hG)) ?_
      refine xw_iload_n (pc := 30) C0 2 dX11_feed_30 rfl rfl ?_
      refine xw_callVV (pc := 31) (ci := 0) (rest := []) (As := [.int (Int32.ofInt b)]) C0 hU hO sa_Tg hKL (xm_addInt (l := l) hG_m3 (by omega)) tv_481 dX11_feed_31 tv_478 tv_479 tv_480 tv_2 rfl yb_X0_addInt (by decide) rfl rfl rfl (by decide) (Nat.le_of_ble_eq_true rfl) (xj_1 hKL) xk_19 (fun m5 w5 => ?_)
      have z5 := w5.2.1
      have F5 := w5.F (by omega) (by omega)
      have hG_m5 := xw_GF hG_m3 F5 (by decide)
      refine xw_aload_n (pc := 34) C0 0 dX11_feed_34 rfl rfl ?_
      refine xw_getR (pc := 35) (f := 0) C0 1 kcX11 dX11_feed_35 (by decide) tv_422 (xj_0 hKL) xk_27 rfl (((F5 0 0 rfl).trans ((F3 0 0 rfl).trans rfl)).trans (xe_0_0 hG)) ?_
      refine xw_iload_n (pc := 38) C0 3 dX11_feed_38 rfl rfl ?_
      refine xw_callVV (pc := 39) (ci := 0) (rest := []) (As := [.int (Int32.ofInt c9)]) C0 hU hO sa_Tg hKL (xm_addInt (l := l) hG_m5 (by omega)) tv_481 dX11_feed_39 tv_478 tv_479 tv_480 tv_2 rfl yb_X0_addInt (by decide) rfl rfl rfl (by decide) (Nat.le_of_ble_eq_true rfl) (xj_1 hKL) xk_19 (fun m7 w7 => ?_)
      have z7 := w7.2.1
      have F7 := w7.F (by omega) (by omega)
      have hG_m7 := xw_GF hG_m5 F7 (by decide)
      refine xw_aload_n (pc := 42) C0 0 dX11_feed_42 rfl rfl ?_
      refine xw_getR (pc := 43) (f := 0) C0 1 kcX11 dX11_feed_43 (by decide) tv_422 (xj_0 hKL) xk_27 rfl (((F7 0 0 rfl).trans ((F5 0 0 rfl).trans ((F3 0 0 rfl).trans rfl))).trans (xe_0_0 hG)) ?_
      refine xw_iload (pc := 46) C0 4 dX11_feed_46 rfl ?_
      refine xw_callVV (pc := 48) (ci := 0) (rest := []) (As := [.int (Int32.ofInt d)]) C0 hU hO sa_Tg hKL (xm_addInt (l := l) hG_m7 (by omega)) tv_481 dX11_feed_48 tv_478 tv_479 tv_480 tv_2 rfl yb_X0_addInt (by decide) rfl rfl rfl (by decide) (Nat.le_of_ble_eq_true rfl) (xj_1 hKL) xk_19 (fun m10 w10 => ?_)
      have z10 := w10.2.1
      have F10 := w10.F (by omega) (by omega)
      have hG_m10 := xw_GF hG_m7 F10 (by decide)
      refine xw_aload_n (pc := 51) C0 0 dX11_feed_51 rfl rfl ?_
      refine xw_getR (pc := 52) (f := 0) C0 1 kcX11 dX11_feed_52 (by decide) tv_422 (xj_0 hKL) xk_27 rfl (((F10 0 0 rfl).trans ((F7 0 0 rfl).trans ((F5 0 0 rfl).trans ((F3 0 0 rfl).trans rfl)))).trans (xe_0_0 hG)) ?_
      refine xw_iload (pc := 55) C0 5 dX11_feed_55 rfl ?_
      refine xw_callVV (pc := 57) (ci := 0) (rest := []) (As := [.int (Int32.ofInt e9)]) C0 hU hO sa_Tg hKL (xm_addInt (l := l) hG_m10 (by omega)) tv_481 dX11_feed_57 tv_478 tv_479 tv_480 tv_2 rfl yb_X0_addInt (by decide) rfl rfl rfl (by decide) (Nat.le_of_ble_eq_true rfl) (xj_1 hKL) xk_19 (fun m12 w12 => ?_)
      have z12 := w12.2.1
      have F12 := w12.F (by omega) (by omega)
      have hG_m12 := xw_GF hG_m10 F12 (by decide)
      refine xw_aload_n (pc := 60) C0 0 dX11_feed_60 rfl rfl ?_
      refine xw_getR (pc := 61) (f := 0) C0 1 kcX11 dX11_feed_61 (by decide) tv_422 (xj_0 hKL) xk_27 rfl (((F12 0 0 rfl).trans ((F10 0 0 rfl).trans ((F7 0 0 rfl).trans ((F5 0 0 rfl).trans ((F3 0 0 rfl).trans rfl))))).trans (xe_0_0 hG)) ?_
      refine xw_getI (pc := 64) (f := 1) (z := m12 1 1) C0 kcX0 dX11_feed_64 (by decide) tv_40 (xj_1 hKL) xk_19 rfl (rfl) (fun g14 k14 => ?_)
      refine xw_iret C0 hA hr hlk rfl dX11_feed_67 ?_
      exact ⟨_, rfl, Or.inr ⟨(by omega), (xb_W.tr (len := 4) (len' := 16) (by decide) (by omega) w3 (by omega) (xb_W.tr (len := 4) (len' := 12) (by decide) (by omega) w5 (by omega) (xb_W.tr (len := 4) (len' := 8) (by decide) (by omega) w7 (by omega) (xb_W.tr (len := 4) (len' := 4) (by decide) (by omega) w10 (by omega) w12)))), (by omega)⟩⟩
    · refine xw_iconst (pc := 16) C0 dX11_feed_16 ?_
      refine xw_iret C0 hA hr hlk rfl dX11_feed_17 ?_
      exact ⟨_, rfl, Or.inl ⟨(by omega), rfl, rfl⟩⟩)
set_option maxRecDepth 20000 in
set_option maxHeartbeats 1000000 in
theorem xm_come {l : Launch} {μ : xw_M} {z : Int} (hG : xw_G xw_GL μ) (h0 : 0 ≤ μ 200 2 ∧ μ 200 2 < 937) : xw_MetV l vwCl sa_Ts tb_KT0 tc_KL yX12_come cX12_come 3 none 2 120 (fun ad => [.ref (ad 200), .int (Int32.ofInt z)]) μ (fun μ' => xb_W 201 200 2 (μ 200 2) 4 (xb_B z) μ μ') :=
  xw_of (by decide) (fun _ => Nat.le_of_ble_eq_true rfl) (fun p e s m args below meth c D dA A al w0 sz C0 hU hO hKL hr hlk hA => by
    refine xw_bipush (pc := 0) C0 dX12_come_0 (by decide) ?_
    refine xw_istore_n (pc := 2) (L' := [(2, .int (Int32.ofInt 24)), (0, .ref (xw_ad al 200)), (1, .int (Int32.ofInt z))]) C0 dX12_come_2 rfl (by decide) rfl ?_
    refine xw_iload_n (pc := 3) C0 0 dX12_come_3 rfl rfl ?_
    refine xw_if_lt (pc := 4) (tgt := 39) C0 (by omega) dX12_come_4 rfl (fun b1 => ?_) (fun b1 => ?_)
    · exfalso
      omega
    · refine xw_aload_n (pc := 7) C0 1 dX12_come_7 rfl rfl ?_
      refine xw_getR (pc := 8) (f := 1) C0 201 kcX12 dX12_come_8 (by decide) tv_1262 (xj_200 hKL) xk_0 rfl ((rfl).trans (xe_200_1 hG)) ?_
      refine xw_aload_n (pc := 11) C0 1 dX12_come_11 rfl rfl ?_
      refine xw_getI (pc := 12) (f := 2) (z := μ 200 2) C0 kcX12 dX12_come_12 (by decide) tv_1263 (xj_200 hKL) xk_0 rfl (rfl) (fun g2 k2 => ?_)
      refine xw_iload_n (pc := 15) C0 2 dX12_come_15 rfl rfl ?_
      refine xw_iload_n (pc := 16) C0 0 dX12_come_16 rfl rfl ?_
      refine xw_iushr (pc := 17) C0 dX12_come_17 (xb_ush24 _) ?_
      refine xw_sipush (pc := 18) C0 dX12_come_18 (by decide) ?_
      refine xw_iand (pc := 21) C0 dX12_come_21 (xb_and255 _) ?_
      refine xw_iast (pc := 22) C0 dX12_come_22 (xj_201 hKL) xk_2 (by omega) (by decide) (xw_rl (by omega)) (by omega) (by omega) ?_
      refine xw_aload_n (pc := 23) C0 1 dX12_come_23 rfl rfl ?_
      refine xw_dup (pc := 24) C0 dX12_come_24 rfl ?_
      refine xw_getI (pc := 25) (f := 2) (z := μ 200 2) C0 kcX12 dX12_come_25 (by decide) tv_1263 (xj_200 hKL) xk_0 rfl ((xw_un (fun q => absurd q.1 (by decide))).trans rfl) (fun g3 k3 => ?_)
      refine xw_iconst (pc := 28) C0 dX12_come_28 ?_
      refine xw_iadd (pc := 29) C0 dX12_come_29 ?_
      refine xw_putI (pc := 30) (f := 2) C0 kcX12 dX12_come_30 (by decide) tv_1263 rfl rfl (xj_200 hKL) xk_0 rfl (by omega) (by omega) ?_
      refine xw_iinc (pc := 33) (L' := [(2, .int (Int32.ofInt 16)), (0, .ref (xw_ad al 200)), (1, .int (Int32.ofInt z))]) C0 0 dX12_come_33 rfl (by decide) rfl ?_
      refine xw_goto (pc := 36) (tgt := 3) C0 dX12_come_36 rfl ?_
      refine xw_iload_n (pc := 3) C0 0 dX12_come_3 rfl rfl ?_
      refine xw_if_lt (pc := 4) (tgt := 39) C0 (by omega) dX12_come_4 rfl (fun b4 => ?_) (fun b4 => ?_)
      · exfalso
        omega
      · refine xw_aload_n (pc := 7) C0 1 dX12_come_7 rfl rfl ?_
        refine xw_getR (pc := 8) (f := 1) C0 201 kcX12 dX12_come_8 (by decide) tv_1262 (xj_200 hKL) xk_0 rfl (((xw_un (by decide)).trans ((xw_un (fun q => absurd q.1 (by decide))).trans rfl)).trans (xe_200_1 hG)) ?_
        refine xw_aload_n (pc := 11) C0 1 dX12_come_11 rfl rfl ?_
        refine xw_getI (pc := 12) (f := 2) (z := (μ 200 2) + 1) C0 kcX12 dX12_come_12 (by decide) tv_1263 (xj_200 hKL) xk_0 rfl (xw_ug) (fun g5 k5 => ?_)
        refine xw_iload_n (pc := 15) C0 2 dX12_come_15 rfl rfl ?_
        refine xw_iload_n (pc := 16) C0 0 dX12_come_16 rfl rfl ?_
        refine xw_iushr (pc := 17) C0 dX12_come_17 (xb_ush16 _) ?_
        refine xw_sipush (pc := 18) C0 dX12_come_18 (by decide) ?_
        refine xw_iand (pc := 21) C0 dX12_come_21 (xb_and255 _) ?_
        refine xw_iast (pc := 22) C0 dX12_come_22 (xj_201 hKL) xk_2 (by omega) (by decide) (xw_rl (by omega)) (by omega) (by omega) ?_
        refine xw_aload_n (pc := 23) C0 1 dX12_come_23 rfl rfl ?_
        refine xw_dup (pc := 24) C0 dX12_come_24 rfl ?_
        refine xw_getI (pc := 25) (f := 2) (z := (μ 200 2) + 1) C0 kcX12 dX12_come_25 (by decide) tv_1263 (xj_200 hKL) xk_0 rfl ((xw_un (fun q => absurd q.1 (by decide))).trans xw_ug) (fun g6 k6 => ?_)
        refine xw_iconst (pc := 28) C0 dX12_come_28 ?_
        refine xw_iadd (pc := 29) C0 dX12_come_29 ?_
        refine xw_putI (pc := 30) (f := 2) C0 kcX12 dX12_come_30 (by decide) tv_1263 rfl rfl (xj_200 hKL) xk_0 rfl (by omega) (by omega) ?_
        refine xw_iinc (pc := 33) (L' := [(2, .int (Int32.ofInt 8)), (0, .ref (xw_ad al 200)), (1, .int (Int32.ofInt z))]) C0 0 dX12_come_33 rfl (by decide) rfl ?_
        refine xw_goto (pc := 36) (tgt := 3) C0 dX12_come_36 rfl ?_
        refine xw_iload_n (pc := 3) C0 0 dX12_come_3 rfl rfl ?_
        refine xw_if_lt (pc := 4) (tgt := 39) C0 (by omega) dX12_come_4 rfl (fun b7 => ?_) (fun b7 => ?_)
        · exfalso
          omega
        · refine xw_aload_n (pc := 7) C0 1 dX12_come_7 rfl rfl ?_
          refine xw_getR (pc := 8) (f := 1) C0 201 kcX12 dX12_come_8 (by decide) tv_1262 (xj_200 hKL) xk_0 rfl (((xw_un (by decide)).trans ((xw_un (fun q => absurd q.1 (by decide))).trans ((xw_un (by decide)).trans ((xw_un (fun q => absurd q.1 (by decide))).trans rfl)))).trans (xe_200_1 hG)) ?_
          refine xw_aload_n (pc := 11) C0 1 dX12_come_11 rfl rfl ?_
          refine xw_getI (pc := 12) (f := 2) (z := ((μ 200 2) + 1) + 1) C0 kcX12 dX12_come_12 (by decide) tv_1263 (xj_200 hKL) xk_0 rfl (xw_ug) (fun g8 k8 => ?_)
          refine xw_iload_n (pc := 15) C0 2 dX12_come_15 rfl rfl ?_
          refine xw_iload_n (pc := 16) C0 0 dX12_come_16 rfl rfl ?_
          refine xw_iushr (pc := 17) C0 dX12_come_17 (xb_ush8 _) ?_
          refine xw_sipush (pc := 18) C0 dX12_come_18 (by decide) ?_
          refine xw_iand (pc := 21) C0 dX12_come_21 (xb_and255 _) ?_
          refine xw_iast (pc := 22) C0 dX12_come_22 (xj_201 hKL) xk_2 (by omega) (by decide) (xw_rl (by omega)) (by omega) (by omega) ?_
          refine xw_aload_n (pc := 23) C0 1 dX12_come_23 rfl rfl ?_
          refine xw_dup (pc := 24) C0 dX12_come_24 rfl ?_
          refine xw_getI (pc := 25) (f := 2) (z := ((μ 200 2) + 1) + 1) C0 kcX12 dX12_come_25 (by decide) tv_1263 (xj_200 hKL) xk_0 rfl ((xw_un (fun q => absurd q.1 (by decide))).trans xw_ug) (fun g10 k10 => ?_)
          refine xw_iconst (pc := 28) C0 dX12_come_28 ?_
          refine xw_iadd (pc := 29) C0 dX12_come_29 ?_
          refine xw_putI (pc := 30) (f := 2) C0 kcX12 dX12_come_30 (by decide) tv_1263 rfl rfl (xj_200 hKL) xk_0 rfl (by omega) (by omega) ?_
          refine xw_iinc (pc := 33) (L' := [(2, .int (Int32.ofInt 0)), (0, .ref (xw_ad al 200)), (1, .int (Int32.ofInt z))]) C0 0 dX12_come_33 rfl (by decide) rfl ?_
          refine xw_goto (pc := 36) (tgt := 3) C0 dX12_come_36 rfl ?_
          refine xw_iload_n (pc := 3) C0 0 dX12_come_3 rfl rfl ?_
          refine xw_if_lt (pc := 4) (tgt := 39) C0 (by omega) dX12_come_4 rfl (fun b11 => ?_) (fun b11 => ?_)
          · exfalso
            omega
          · refine xw_aload_n (pc := 7) C0 1 dX12_come_7 rfl rfl ?_
            refine xw_getR (pc := 8) (f := 1) C0 201 kcX12 dX12_come_8 (by decide) tv_1262 (xj_200 hKL) xk_0 rfl (((xw_un (by decide)).trans ((xw_un (fun q => absurd q.1 (by decide))).trans ((xw_un (by decide)).trans ((xw_un (fun q => absurd q.1 (by decide))).trans ((xw_un (by decide)).trans ((xw_un (fun q => absurd q.1 (by decide))).trans rfl)))))).trans (xe_200_1 hG)) ?_
            refine xw_aload_n (pc := 11) C0 1 dX12_come_11 rfl rfl ?_
            refine xw_getI (pc := 12) (f := 2) (z := (((μ 200 2) + 1) + 1) + 1) C0 kcX12 dX12_come_12 (by decide) tv_1263 (xj_200 hKL) xk_0 rfl (xw_ug) (fun g12 k12 => ?_)
            refine xw_iload_n (pc := 15) C0 2 dX12_come_15 rfl rfl ?_
            refine xw_iload_n (pc := 16) C0 0 dX12_come_16 rfl rfl ?_
            refine xw_iushr (pc := 17) C0 dX12_come_17 (xb_ush0 _) ?_
            refine xw_sipush (pc := 18) C0 dX12_come_18 (by decide) ?_
            refine xw_iand (pc := 21) C0 dX12_come_21 (xb_and255 _) ?_
            refine xw_iast (pc := 22) C0 dX12_come_22 (xj_201 hKL) xk_2 (by omega) (by decide) (xw_rl (by omega)) (by omega) (by omega) ?_
            refine xw_aload_n (pc := 23) C0 1 dX12_come_23 rfl rfl ?_
            refine xw_dup (pc := 24) C0 dX12_come_24 rfl ?_
            refine xw_getI (pc := 25) (f := 2) (z := (((μ 200 2) + 1) + 1) + 1) C0 kcX12 dX12_come_25 (by decide) tv_1263 (xj_200 hKL) xk_0 rfl ((xw_un (fun q => absurd q.1 (by decide))).trans xw_ug) (fun g13 k13 => ?_)
            refine xw_iconst (pc := 28) C0 dX12_come_28 ?_
            refine xw_iadd (pc := 29) C0 dX12_come_29 ?_
            refine xw_putI (pc := 30) (f := 2) C0 kcX12 dX12_come_30 (by decide) tv_1263 rfl rfl (xj_200 hKL) xk_0 rfl (by omega) (by omega) ?_
            refine xw_iinc (pc := 33) (L' := [(2, .int (Int32.ofInt (-8))), (0, .ref (xw_ad al 200)), (1, .int (Int32.ofInt z))]) C0 0 dX12_come_33 rfl (by decide) rfl ?_
            refine xw_goto (pc := 36) (tgt := 3) C0 dX12_come_36 rfl ?_
            refine xw_iload_n (pc := 3) C0 0 dX12_come_3 rfl rfl ?_
            refine xw_if_lt (pc := 4) (tgt := 39) C0 (by omega) dX12_come_4 rfl (fun b14 => ?_) (fun b14 => ?_)
            · refine xw_vret C0 hA hr hlk dX12_come_39 ?_
              exact ⟨rfl, xb_W.tr (len := 1) (len' := 3) (by decide) (by omega) (xb_W1 (by decide) (by omega)) (by omega) (xb_W.tr (len := 1) (len' := 2) (by decide) (by omega) (xb_W1 (by decide) (by omega)) (by omega) (xb_W.tr (len := 1) (len' := 1) (by decide) (by omega) (xb_W1 (by decide) (by omega)) (by omega) (xb_W1 (by decide) (by omega))))⟩
            · exfalso
              omega)
set_option maxRecDepth 20000 in
set_option maxHeartbeats 1000000 in
theorem xm_feedR {l : Launch} {μ : xw_M} {a b c9 d e9 : Int} (hG : xw_G xw_GL μ) : xw_MetI l vwCl sa_Ts tb_KT0 tc_KL yX12_feed cX12_feed 6 (some .int) 4 170 (fun ad => [.ref (ad 200), .int (Int32.ofInt a), .int (Int32.ofInt b), .int (Int32.ofInt c9), .int (Int32.ofInt d), .int (Int32.ofInt e9)]) μ (fun r μ' => (940 < μ 200 2 + 20 ∧ μ' = (xw_u μ 200 0 0) ∧ r = -1) ∨ (μ 200 2 + 20 ≤ 940 ∧ xb_W 201 200 2 (μ 200 2) 20 (xb_B a ++ (xb_B b ++ (xb_B c9 ++ (xb_B d ++ xb_B e9)))) (xw_u μ 200 0 0) μ' ∧ r = μ 200 2 + 20)) :=
  xw_of (by decide) (fun _ => Nat.le_of_ble_eq_true rfl) (fun p e s m args below meth c D dA A al w0 sz C0 hU hO hKL hr hlk hA => by
    refine xw_aload_n (pc := 0) C0 0 dX12_feed_0 rfl rfl ?_
    refine xw_iconst (pc := 1) C0 dX12_feed_1 ?_
    refine xw_putI (pc := 2) (f := 0) C0 kcX12 dX12_feed_2 (by decide) tv_1261 rfl rfl (xj_200 hKL) xk_0 rfl (by omega) (by omega) ?_
    have FT : xw_F [(200, 0, 0)] μ (xw_u μ 200 0 0) := xw_F.rf.u List.mem_cons_self ⟨Nat.le_refl _, Nat.le_refl _⟩
    generalize (xw_u μ 200 0 0) = t0 at FT ⊢
    have hG_t0 := xw_GF hG FT (by decide)
    have n_t0 : t0 200 2 = μ 200 2 := FT 200 2 rfl
    refine xw_aload_n (pc := 5) C0 0 dX12_feed_5 rfl rfl ?_
    refine xw_getI (pc := 6) (f := 2) (z := μ 200 2) C0 kcX12 dX12_feed_6 (by decide) tv_1263 (xj_200 hKL) xk_0 rfl ((FT 200 2 rfl).trans rfl) (fun g1 k1 => ?_)
    refine xw_bipush (pc := 9) C0 dX12_feed_9 (by decide) ?_
    refine xw_iadd (pc := 11) C0 dX12_feed_11 ?_
    refine xw_sipush (pc := 12) C0 dX12_feed_12 (by decide) ?_
    refine xw_icmp_le (pc := 15) (tgt := 20) C0 (by omega) (by omega) dX12_feed_15 rfl (fun b2 => ?_) (fun b2 => ?_)
    · refine xw_aload_n (pc := 20) C0 0 dX12_feed_20 rfl rfl ?_
      refine xw_iload_n (pc := 21) C0 1 dX12_feed_21 rfl rfl ?_
      refine xw_callVV (pc := 22) (ci := 12) (rest := []) (As := [.int (Int32.ofInt a)]) C0 hU hO sa_Tg hKL (xm_come (l := l) hG_t0 (by omega)) tv_1405 dX12_feed_22 tv_1402 tv_1404 tq_X12_come tv_13 rfl yb_X12_come (by decide) rfl rfl rfl (by decide) (Nat.le_of_ble_eq_true rfl) (xj_200 hKL) xk_0 (fun m3 w3 => ?_)
      have z3 := w3.2.1
      have F3 := w3.F (by omega) (by omega)
      have hG_m3 := xw_GF hG_t0 F3 (by decide)
      refine xw_aload_n (pc := 25) C0 0 dX12_feed_25 rfl rfl ?_
      refine xw_iload_n (pc := 26) C0 2 dX12_feed_26 rfl rfl ?_
      refine xw_callVV (pc := 27) (ci := 12) (rest := []) (As := [.int (Int32.ofInt b)]) C0 hU hO sa_Tg hKL (xm_come (l := l) hG_m3 (by omega)) tv_1405 dX12_feed_27 tv_1402 tv_1404 tq_X12_come tv_13 rfl yb_X12_come (by decide) rfl rfl rfl (by decide) (Nat.le_of_ble_eq_true rfl) (xj_200 hKL) xk_0 (fun m5 w5 => ?_)
      have z5 := w5.2.1
      have F5 := w5.F (by omega) (by omega)
      have hG_m5 := xw_GF hG_m3 F5 (by decide)
      refine xw_aload_n (pc := 30) C0 0 dX12_feed_30 rfl rfl ?_
      refine xw_iload_n (pc := 31) C0 3 dX12_feed_31 rfl rfl ?_
      refine xw_callVV (pc := 32) (ci := 12) (rest := []) (As := [.int (Int32.ofInt c9)]) C0 hU hO sa_Tg hKL (xm_come (l := l) hG_m5 (by omega)) tv_1405 dX12_feed_32 tv_1402 tv_1404 tq_X12_come tv_13 rfl yb_X12_come (by decide) rfl rfl rfl (by decide) (Nat.le_of_ble_eq_true rfl) (xj_200 hKL) xk_0 (fun m7 w7 => ?_)
      have z7 := w7.2.1
      have F7 := w7.F (by omega) (by omega)
      have hG_m7 := xw_GF hG_m5 F7 (by decide)
      refine xw_aload_n (pc := 35) C0 0 dX12_feed_35 rfl rfl ?_
      refine xw_iload (pc := 36) C0 4 dX12_feed_36 rfl ?_
      refine xw_callVV (pc := 38) (ci := 12) (rest := []) (As := [.int (Int32.ofInt d)]) C0 hU hO sa_Tg hKL (xm_come (l := l) hG_m7 (by omega)) tv_1405 dX12_feed_38 tv_1402 tv_1404 tq_X12_come tv_13 rfl yb_X12_come (by decide) rfl rfl rfl (by decide) (Nat.le_of_ble_eq_true rfl) (xj_200 hKL) xk_0 (fun m10 w10 => ?_)
      have z10 := w10.2.1
      have F10 := w10.F (by omega) (by omega)
      have hG_m10 := xw_GF hG_m7 F10 (by decide)
      refine xw_aload_n (pc := 41) C0 0 dX12_feed_41 rfl rfl ?_
      refine xw_iload (pc := 42) C0 5 dX12_feed_42 rfl ?_
      refine xw_callVV (pc := 44) (ci := 12) (rest := []) (As := [.int (Int32.ofInt e9)]) C0 hU hO sa_Tg hKL (xm_come (l := l) hG_m10 (by omega)) tv_1405 dX12_feed_44 tv_1402 tv_1404 tq_X12_come tv_13 rfl yb_X12_come (by decide) rfl rfl rfl (by decide) (Nat.le_of_ble_eq_true rfl) (xj_200 hKL) xk_0 (fun m12 w12 => ?_)
      have z12 := w12.2.1
      have F12 := w12.F (by omega) (by omega)
      have hG_m12 := xw_GF hG_m10 F12 (by decide)
      refine xw_aload_n (pc := 47) C0 0 dX12_feed_47 rfl rfl ?_
      refine xw_getI (pc := 48) (f := 2) (z := m12 200 2) C0 kcX12 dX12_feed_48 (by decide) tv_1263 (xj_200 hKL) xk_0 rfl (rfl) (fun g14 k14 => ?_)
      refine xw_iret C0 hA hr hlk rfl dX12_feed_51 ?_
      rw [n_t0] at w3
      exact ⟨_, rfl, Or.inr ⟨(by omega), (xb_W.tr (len := 4) (len' := 16) (by decide) (by omega) w3 (by omega) (xb_W.tr (len := 4) (len' := 12) (by decide) (by omega) w5 (by omega) (xb_W.tr (len := 4) (len' := 8) (by decide) (by omega) w7 (by omega) (xb_W.tr (len := 4) (len' := 4) (by decide) (by omega) w10 (by omega) w12)))), (by omega)⟩⟩
    · refine xw_iconst (pc := 18) C0 dX12_feed_18 ?_
      refine xw_iret C0 hA hr hlk rfl dX12_feed_19 ?_
      exact ⟨_, rfl, Or.inl ⟨(by omega), rfl, rfl⟩⟩)
