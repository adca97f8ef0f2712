set_option maxRecDepth 20000 in
set_option maxHeartbeats 20000000 in
theorem xh_rst0 {l : Launch} {μ : xw_M} (hG : xw_G xw_GL μ) : xw_MetI l vwCl sa_Ts tb_KT0 tc_KL yX11_restore cX11_restore 2 (some .boolean) 4 162 (fun ad => [.ref (ad 0), .int (Int32.ofInt 0)]) μ (fun r μ' => (μ 146 3 = 0 ∧ r = 0 ∧ μ = μ') ∨ (μ 146 3 = 1 ∧ r = 1 ∧ hx_C 4 147 μ μ' ∧ ((∀ i : Nat, i < 40 → μ' 26 i = μ 169 i) ∧ (∀ i : Nat, i < 40 → μ' 28 i = μ 171 i)) ∧ xw_F [(4, 13, 15), (5, 0, 5), (6, 0, 5), (7, 0, 5), (8, 0, 5), (9, 0, 5), (10, 0, 5), (11, 0, 5), (12, 0, 7), (13, 0, 7), (14, 0, 7), (15, 0, 7), (16, 0, 7), (17, 0, 23), (18, 6, 11), (19, 0, 5), (20, 0, 5), (21, 0, 5), (22, 0, 7), (23, 0, 7), (24, 0, 7), (25, 4, 5), (26, 0, 39), (27, 0, 39), (28, 0, 39), (31, 1, 2)] μ μ')) :=
  xw_of (by decide +kernel) (fun _ => Nat.le_of_ble_eq_true rfl) (fun p e s m args below meth c D dA A al w0 sz C0 hU hO hKL hr hlk hA => by
    refine xw_iload_n (pc := 0) C0 1 dX11_restore_0 rfl rfl ?_
    refine xw_if_lt (pc := 1) (tgt := 21) C0 (by omega) dX11_restore_1 rfl (fun b1 => ?_) (fun b1 => ?_)
    · exfalso
      omega
    · refine xw_iload_n (pc := 4) C0 1 dX11_restore_4 rfl rfl ?_
      refine xw_iconst (pc := 5) C0 dX11_restore_5 ?_
      refine xw_icmp_ge (pc := 6) (tgt := 21) C0 (by omega) (by omega) dX11_restore_6 rfl (fun b2 => ?_) (fun b2 => ?_)
      · exfalso
        omega
      · refine xw_aload_n (pc := 9) C0 0 dX11_restore_9 rfl rfl ?_
        refine xw_getR (pc := 10) (f := 2) C0 30 kcX11 dX11_restore_10 (by decide +kernel) tv_424 (xj_0 hKL) xk_27 rfl ((rfl).trans (xe_0_2 hG)) ?_
        refine xw_iload_n (pc := 13) C0 1 dX11_restore_13 rfl rfl ?_
        refine xw_aald (pc := 14) (i := 0) C0 146 dX11_restore_14 (xj_30 hKL) xk_54 (by decide +kernel) (by decide +kernel) rfl ((rfl).trans (xe_30_0 hG)) ?_
        refine xw_getI (pc := 15) (f := 3) (z := μ 146 3) C0 kcX10 dX11_restore_15 (by decide +kernel) tv_239 (xj_146 hKL) xk_25 rfl (rfl) (fun g3 k3 => ?_)
        refine xw_if_ne (pc := 18) (tgt := 23) C0 (by omega) dX11_restore_18 rfl (fun b4 => ?_) (fun b4 => ?_)
        · refine xw_aload_n (pc := 23) C0 0 dX11_restore_23 rfl rfl ?_
          refine xw_getR (pc := 24) (f := 1) C0 3 kcX11 dX11_restore_24 (by decide +kernel) tv_423 (xj_0 hKL) xk_27 rfl ((rfl).trans (xe_0_1 hG)) ?_
          refine xw_aload_n (pc := 27) C0 0 dX11_restore_27 rfl rfl ?_
          refine xw_getR (pc := 28) (f := 2) C0 30 kcX11 dX11_restore_28 (by decide +kernel) tv_424 (xj_0 hKL) xk_27 rfl ((rfl).trans (xe_0_2 hG)) ?_
          refine xw_iload_n (pc := 31) C0 1 dX11_restore_31 rfl rfl ?_
          refine xw_aald (pc := 32) (i := 0) C0 146 dX11_restore_32 (xj_30 hKL) xk_54 (by decide +kernel) (by decide +kernel) rfl ((rfl).trans (xe_30_0 hG)) ?_
          refine xw_callVV (pc := 33) (μ := μ) (ci := 10) (rest := []) (As := [.ref (xw_ad al 146)]) C0 hU hO sa_Tg hKL (xq_cpW_0_1 (l := l) hG) tv_1103 dX11_restore_33 tv_1100 tv_1101 tv_1102 tv_3 rfl yb_X10_copyFrom (by decide +kernel) rfl rfl rfl (by decide +kernel) (Nat.le_of_ble_eq_true rfl) (xj_3 hKL) xk_24 (fun m5 F5 => ?_)
          obtain ⟨c9, d9, F5⟩ := F5
          have hG_m5 := xw_GF hG F5 (by decide +kernel)
          refine xw_aload_n (pc := 36) C0 0 dX11_restore_36 rfl rfl ?_
          refine xw_getR (pc := 37) (f := 3) C0 31 kcX11 dX11_restore_37 (by decide +kernel) tv_425 (xj_0 hKL) xk_27 rfl (((F5 0 3 rfl).trans rfl).trans (xe_0_3 hG)) ?_
          refine xw_callVV (pc := 40) (μ := m5) (ci := 1) (rest := []) (As := []) C0 hU hO sa_Tg hKL (xh_clearY (l := l) hG_m5) tv_641 dX11_restore_40 tv_638 tv_639 tv_640 tv_7 rfl yb_X1_clear (by decide +kernel) rfl rfl rfl (by decide +kernel) (Nat.le_of_ble_eq_true rfl) (xj_31 hKL) xk_65 (fun m6 F6 => ?_)
          have hG_m6 := xw_GF hG_m5 F6 (by decide +kernel)
          refine xw_iconst (pc := 43) C0 dX11_restore_43 ?_
          refine xw_iret C0 hA hr hlk rfl dX11_restore_44 ?_
          exact ⟨_, rfl, Or.inr ⟨by omega, rfl, hx_CF c9 (xw_Frg (a := 4) (b := 17) F6 (by decide +kernel)), ⟨fun i hi => (F6 26 i (xw_oj (by decide +kernel) i)).trans (d9.1 i hi), fun i hi => (F6 28 i (xw_oj (by decide +kernel) i)).trans (d9.2 i hi)⟩, (((xw_F.rf (ML := [(4, 13, 15), (5, 0, 5), (6, 0, 5), (7, 0, 5), (8, 0, 5), (9, 0, 5), (10, 0, 5), (11, 0, 5), (12, 0, 7), (13, 0, 7), (14, 0, 7), (15, 0, 7), (16, 0, 7), (17, 0, 23), (18, 6, 11), (19, 0, 5), (20, 0, 5), (21, 0, 5), (22, 0, 7), (23, 0, 7), (24, 0, 7), (25, 4, 5), (26, 0, 39), (27, 0, 39), (28, 0, 39), (31, 1, 2)])).tr F5 (fun j i h => xw_o_sub (by decide +kernel) j i h)).tr F6 (fun j i h => xw_o_sub (by decide +kernel) j i h))⟩⟩
        · refine xw_iconst (pc := 21) C0 dX11_restore_21 ?_
          refine xw_iret C0 hA hr hlk rfl dX11_restore_22 ?_
          exact ⟨_, rfl, Or.inl ⟨by omega, rfl, rfl⟩⟩)
set_option maxRecDepth 20000 in
set_option maxHeartbeats 20000000 in
theorem xh_img1 {l : Launch} {μ : xw_M} (hG : xw_G xw_GL μ) : xw_MetI l vwCl sa_Ts tb_KT0 tc_KL yX11_image cX11_image 2 (some .boolean) 4 162 (fun ad => [.ref (ad 0), .int (Int32.ofInt 1)]) μ (fun r μ' => r = 1 ∧ hx_C 174 4 μ μ' ∧ ((∀ i : Nat, i < 40 → μ' 196 i = μ 26 i) ∧ (∀ i : Nat, i < 40 → μ' 198 i = μ 28 i)) ∧ μ' 173 3 = 1 ∧ xw_F [(174, 13, 15), (175, 0, 5), (176, 0, 5), (177, 0, 5), (178, 0, 5), (179, 0, 5), (180, 0, 5), (181, 0, 5), (182, 0, 7), (183, 0, 7), (184, 0, 7), (185, 0, 7), (186, 0, 7), (187, 0, 23), (188, 6, 11), (189, 0, 5), (190, 0, 5), (191, 0, 5), (192, 0, 7), (193, 0, 7), (194, 0, 7), (195, 4, 5), (196, 0, 39), (197, 0, 39), (198, 0, 39), (173, 3, 3)] μ μ') :=
  xw_of (by decide +kernel) (fun _ => Nat.le_of_ble_eq_true rfl) (fun p e s m args below meth c D dA A al w0 sz C0 hU hO hKL hr hlk hA => by
    refine xw_iload_n (pc := 0) C0 1 dX11_image_0 rfl rfl ?_
    refine xw_if_lt (pc := 1) (tgt := 9) C0 (by omega) dX11_image_1 rfl (fun b1 => ?_) (fun b1 => ?_)
    · exfalso
      omega
    · refine xw_iload_n (pc := 4) C0 1 dX11_image_4 rfl rfl ?_
      refine xw_iconst (pc := 5) C0 dX11_image_5 ?_
      refine xw_icmp_lt (pc := 6) (tgt := 11) C0 (by omega) (by omega) dX11_image_6 rfl (fun b2 => ?_) (fun b2 => ?_)
      · refine xw_aload_n (pc := 11) C0 0 dX11_image_11 rfl rfl ?_
        refine xw_getR (pc := 12) (f := 2) C0 30 kcX11 dX11_image_12 (by decide +kernel) tv_424 (xj_0 hKL) xk_27 rfl ((rfl).trans (xe_0_2 hG)) ?_
        refine xw_iload_n (pc := 15) C0 1 dX11_image_15 rfl rfl ?_
        refine xw_aald (pc := 16) (i := 1) C0 173 dX11_image_16 (xj_30 hKL) xk_54 (by decide +kernel) (by decide +kernel) rfl ((rfl).trans (xe_30_1 hG)) ?_
        refine xw_aload_n (pc := 17) C0 0 dX11_image_17 rfl rfl ?_
        refine xw_getR (pc := 18) (f := 1) C0 3 kcX11 dX11_image_18 (by decide +kernel) tv_423 (xj_0 hKL) xk_27 rfl ((rfl).trans (xe_0_1 hG)) ?_
        refine xw_callVV (pc := 21) (μ := μ) (ci := 10) (rest := []) (As := [.ref (xw_ad al 3)]) C0 hU hO sa_Tg hKL (xq_cpW_2_0 (l := l) hG) tv_1103 dX11_image_21 tv_1100 tv_1101 tv_1102 tv_3 rfl yb_X10_copyFrom (by decide +kernel) rfl rfl rfl (by decide +kernel) (Nat.le_of_ble_eq_true rfl) (xj_173 hKL) xk_26 (fun m3 F3 => ?_)
        obtain ⟨c9, d9, F3⟩ := F3
        have hG_m3 := xw_GF hG F3 (by decide +kernel)
        refine xw_aload_n (pc := 24) C0 0 dX11_image_24 rfl rfl ?_
        refine xw_getR (pc := 25) (f := 2) C0 30 kcX11 dX11_image_25 (by decide +kernel) tv_424 (xj_0 hKL) xk_27 rfl (((F3 0 2 rfl).trans rfl).trans (xe_0_2 hG)) ?_
        refine xw_iload_n (pc := 28) C0 1 dX11_image_28 rfl rfl ?_
        refine xw_aald (pc := 29) (i := 1) C0 173 dX11_image_29 (xj_30 hKL) xk_54 (by decide +kernel) (by decide +kernel) rfl (((F3 30 1 rfl).trans rfl).trans (xe_30_1 hG)) ?_
        refine xw_iconst (pc := 30) C0 dX11_image_30 ?_
        refine xw_putZ (pc := 31) (f := 3) C0 kcX10 dX11_image_31 (by decide +kernel) tv_239 rfl rfl (xj_173 hKL) xk_26 rfl (by omega) (by omega) ?_
        refine xw_iconst (pc := 34) C0 dX11_image_34 ?_
        refine xw_iret C0 hA hr hlk rfl dX11_image_35 ?_
        have Ft1 : xw_F [(173, 3, 3)] m3 (xw_u m3 173 3 1) := ((xw_F.rf (ML := [(173, 3, 3)])).u (show (173, 3, 3) ∈ _ by decide) ⟨by decide, by decide⟩)
        have vt1_173_3 : (xw_u m3 173 3 1) 173 3 = 1 := xw_ug
        generalize (xw_u m3 173 3 1) = t1 at Ft1 vt1_173_3 ⊢
        exact ⟨_, rfl, rfl, hx_CF c9 (xw_Frg (a := 174) (b := 187) Ft1 (by decide +kernel)), ⟨fun i hi => (Ft1 196 i (xw_oj (by decide +kernel) i)).trans (d9.1 i hi), fun i hi => (Ft1 198 i (xw_oj (by decide +kernel) i)).trans (d9.2 i hi)⟩, vt1_173_3, (((xw_F.rf (ML := [(174, 13, 15), (175, 0, 5), (176, 0, 5), (177, 0, 5), (178, 0, 5), (179, 0, 5), (180, 0, 5), (181, 0, 5), (182, 0, 7), (183, 0, 7), (184, 0, 7), (185, 0, 7), (186, 0, 7), (187, 0, 23), (188, 6, 11), (189, 0, 5), (190, 0, 5), (191, 0, 5), (192, 0, 7), (193, 0, 7), (194, 0, 7), (195, 4, 5), (196, 0, 39), (197, 0, 39), (198, 0, 39), (173, 3, 3)])).tr F3 (fun j i h => xw_o_sub (by decide +kernel) j i h)).tr Ft1 (fun j i h => xw_o_sub (by decide +kernel) j i h))⟩
      · exfalso
        omega)
set_option maxRecDepth 20000 in
set_option maxHeartbeats 20000000 in
theorem xh_rst1 {l : Launch} {μ : xw_M} (hG : xw_G xw_GL μ) : xw_MetI l vwCl sa_Ts tb_KT0 tc_KL yX11_restore cX11_restore 2 (some .boolean) 4 162 (fun ad => [.ref (ad 0), .int (Int32.ofInt 1)]) μ (fun r μ' => (μ 173 3 = 0 ∧ r = 0 ∧ μ = μ') ∨ (μ 173 3 = 1 ∧ r = 1 ∧ hx_C 4 174 μ μ' ∧ ((∀ i : Nat, i < 40 → μ' 26 i = μ 196 i) ∧ (∀ i : Nat, i < 40 → μ' 28 i = μ 198 i)) ∧ xw_F [(4, 13, 15), (5, 0, 5), (6, 0, 5), (7, 0, 5), (8, 0, 5), (9, 0, 5), (10, 0, 5), (11, 0, 5), (12, 0, 7), (13, 0, 7), (14, 0, 7), (15, 0, 7), (16, 0, 7), (17, 0, 23), (18, 6, 11), (19, 0, 5), (20, 0, 5), (21, 0, 5), (22, 0, 7), (23, 0, 7), (24, 0, 7), (25, 4, 5), (26, 0, 39), (27, 0, 39), (28, 0, 39), (31, 1, 2)] μ μ')) :=
  xw_of (by decide +kernel) (fun _ => Nat.le_of_ble_eq_true rfl) (fun p e s m args below meth c D dA A al w0 sz C0 hU hO hKL hr hlk hA => by
    refine xw_iload_n (pc := 0) C0 1 dX11_restore_0 rfl rfl ?_
    refine xw_if_lt (pc := 1) (tgt := 21) C0 (by omega) dX11_restore_1 rfl (fun b1 => ?_) (fun b1 => ?_)
    · exfalso
      omega
    · refine xw_iload_n (pc := 4) C0 1 dX11_restore_4 rfl rfl ?_
      refine xw_iconst (pc := 5) C0 dX11_restore_5 ?_
      refine xw_icmp_ge (pc := 6) (tgt := 21) C0 (by omega) (by omega) dX11_restore_6 rfl (fun b2 => ?_) (fun b2 => ?_)
      · exfalso
        omega
      · refine xw_aload_n (pc := 9) C0 0 dX11_restore_9 rfl rfl ?_
        refine xw_getR (pc := 10) (f := 2) C0 30 kcX11 dX11_restore_10 (by decide +kernel) tv_424 (xj_0 hKL) xk_27 rfl ((rfl).trans (xe_0_2 hG)) ?_
        refine xw_iload_n (pc := 13) C0 1 dX11_restore_13 rfl rfl ?_
        refine xw_aald (pc := 14) (i := 1) C0 173 dX11_restore_14 (xj_30 hKL) xk_54 (by decide +kernel) (by decide +kernel) rfl ((rfl).trans (xe_30_1 hG)) ?_
        refine xw_getI (pc := 15) (f := 3) (z := μ 173 3) C0 kcX10 dX11_restore_15 (by decide +kernel) tv_239 (xj_173 hKL) xk_26 rfl (rfl) (fun g3 k3 => ?_)
        refine xw_if_ne (pc := 18) (tgt := 23) C0 (by omega) dX11_restore_18 rfl (fun b4 => ?_) (fun b4 => ?_)
        · refine xw_aload_n (pc := 23) C0 0 dX11_restore_23 rfl rfl ?_
          refine xw_getR (pc := 24) (f := 1) C0 3 kcX11 dX11_restore_24 (by decide +kernel) tv_423 (xj_0 hKL) xk_27 rfl ((rfl).trans (xe_0_1 hG)) ?_
          refine xw_aload_n (pc := 27) C0 0 dX11_restore_27 rfl rfl ?_
          refine xw_getR (pc := 28) (f := 2) C0 30 kcX11 dX11_restore_28 (by decide +kernel) tv_424 (xj_0 hKL) xk_27 rfl ((rfl).trans (xe_0_2 hG)) ?_
          refine xw_iload_n (pc := 31) C0 1 dX11_restore_31 rfl rfl ?_
          refine xw_aald (pc := 32) (i := 1) C0 173 dX11_restore_32 (xj_30 hKL) xk_54 (by decide +kernel) (by decide +kernel) rfl ((rfl).trans (xe_30_1 hG)) ?_
          refine xw_callVV (pc := 33) (μ := μ) (ci := 10) (rest := []) (As := [.ref (xw_ad al 173)]) C0 hU hO sa_Tg hKL (xq_cpW_0_2 (l := l) hG) tv_1103 dX11_restore_33 tv_1100 tv_1101 tv_1102 tv_3 rfl yb_X10_copyFrom (by decide +kernel) rfl rfl rfl (by decide +kernel) (Nat.le_of_ble_eq_true rfl) (xj_3 hKL) xk_24 (fun m5 F5 => ?_)
          obtain ⟨c9, d9, F5⟩ := F5
          have hG_m5 := xw_GF hG F5 (by decide +kernel)
          refine xw_aload_n (pc := 36) C0 0 dX11_restore_36 rfl rfl ?_
          refine xw_getR (pc := 37) (f := 3) C0 31 kcX11 dX11_restore_37 (by decide +kernel) tv_425 (xj_0 hKL) xk_27 rfl (((F5 0 3 rfl).trans rfl).trans (xe_0_3 hG)) ?_
          refine xw_callVV (pc := 40) (μ := m5) (ci := 1) (rest := []) (As := []) C0 hU hO sa_Tg hKL (xh_clearY (l := l) hG_m5) tv_641 dX11_restore_40 tv_638 tv_639 tv_640 tv_7 rfl yb_X1_clear (by decide +kernel) rfl rfl rfl (by decide +kernel) (Nat.le_of_ble_eq_true rfl) (xj_31 hKL) xk_65 (fun m6 F6 => ?_)
          have hG_m6 := xw_GF hG_m5 F6 (by decide +kernel)
          refine xw_iconst (pc := 43) C0 dX11_restore_43 ?_
          refine xw_iret C0 hA hr hlk rfl dX11_restore_44 ?_
          exact ⟨_, rfl, Or.inr ⟨by omega, rfl, hx_CF c9 (xw_Frg (a := 4) (b := 17) F6 (by decide +kernel)), ⟨fun i hi => (F6 26 i (xw_oj (by decide +kernel) i)).trans (d9.1 i hi), fun i hi => (F6 28 i (xw_oj (by decide +kernel) i)).trans (d9.2 i hi)⟩, (((xw_F.rf (ML := [(4, 13, 15), (5, 0, 5), (6, 0, 5), (7, 0, 5), (8, 0, 5), (9, 0, 5), (10, 0, 5), (11, 0, 5), (12, 0, 7), (13, 0, 7), (14, 0, 7), (15, 0, 7), (16, 0, 7), (17, 0, 23), (18, 6, 11), (19, 0, 5), (20, 0, 5), (21, 0, 5), (22, 0, 7), (23, 0, 7), (24, 0, 7), (25, 4, 5), (26, 0, 39), (27, 0, 39), (28, 0, 39), (31, 1, 2)])).tr F5 (fun j i h => xw_o_sub (by decide +kernel) j i h)).tr F6 (fun j i h => xw_o_sub (by decide +kernel) j i h))⟩⟩
        · refine xw_iconst (pc := 21) C0 dX11_restore_21 ?_
          refine xw_iret C0 hA hr hlk rfl dX11_restore_22 ?_
          exact ⟨_, rfl, Or.inl ⟨by omega, rfl, rfl⟩⟩)
set_option maxRecDepth 20000 in
set_option maxHeartbeats 20000000 in
theorem xh_houseX {l : Launch} {t : Nat → Int} {n : Nat} {μ : xw_M} (hG : xw_G xw_GL μ) (ht : ∀ i : Nat, μ 2 i % 256 = t i) (hn : μ 1 1 = (n : Int)) (hn9 : n ≤ 940) : xw_MetI l vwCl sa_Ts tb_KT0 tc_KL yX11_house cX11_house 2 (some .int) 9 278 (fun ad => [.ref (ad 0)]) μ (fun r μ' => ((∃ q : Int × (Nat → Int) × (Nat → Int), hp_res t n = .inr q ∧ r = q.1 ∧ hp_ok q.2.1 q.2.2 ∧ hx_E q.2.1 4 μ' ∧ hx_N q.2.1 q.2.2 4 μ') ∨ (∃ e9 : hp_E, hp_res t n = .inl e9 ∧ r = -1 - e9.2 ∧ ∀ j i : Nat, 4 ≤ j → j ≤ 17 → μ' j i = μ j i)) ∧ μ' 1 1 = 0 ∧ xw_F [(0, 13, 13), (1, 1, 1), (4, 13, 15), (5, 0, 5), (6, 0, 5), (7, 0, 5), (8, 0, 5), (9, 0, 5), (10, 0, 5), (11, 0, 5), (12, 0, 7), (13, 0, 7), (14, 0, 7), (15, 0, 7), (16, 0, 7), (17, 0, 23), (18, 6, 11), (19, 0, 5), (20, 0, 5), (21, 0, 5), (22, 0, 7), (23, 0, 7), (24, 0, 7), (25, 4, 5), (31, 1, 2), (103, 2, 2), (104, 0, 9), (107, 13, 15), (108, 0, 5), (109, 0, 5), (110, 0, 5), (111, 0, 5), (112, 0, 5), (113, 0, 5), (114, 0, 5), (115, 0, 7), (116, 0, 7), (117, 0, 7), (118, 0, 7), (119, 0, 7), (120, 0, 23)] μ μ') :=
  xw_of (by decide +kernel) (fun _ => Nat.le_of_ble_eq_true rfl) (fun p e s m args below meth c D dA A al w0 sz C0 hU hO hKL hr hlk hA => by
    refine xw_aload_n (pc := 0) C0 0 dX11_house_0 rfl rfl ?_
    refine xw_getR (pc := 1) (f := 5) C0 103 kcX11 dX11_house_1 (by decide +kernel) tv_427 (xj_0 hKL) xk_27 rfl ((rfl).trans (xe_0_5 hG)) ?_
    refine xw_aload_n (pc := 4) C0 0 dX11_house_4 rfl rfl ?_
    refine xw_getR (pc := 5) (f := 0) C0 1 kcX11 dX11_house_5 (by decide +kernel) tv_422 (xj_0 hKL) xk_27 rfl ((rfl).trans (xe_0_0 hG)) ?_
    refine xw_callVI (pc := 8) (μ := μ) (ci := 3) (rest := []) (As := [.ref (xw_ad al 1)]) C0 hU hO sa_Tg hKL (xh_readHouse (l := l) (t := t) (n := n) hG ht hn hn9) tv_497 dX11_house_8 tv_494 tv_495 tv_496 tv_8 rfl yb_X3_readHouse (by decide +kernel) rfl rfl rfl (by decide +kernel) (Nat.le_of_ble_eq_true rfl) (xj_103 hKL) xk_67 (fun r1 m1 w1 => ?_)
    obtain ⟨w1, F1⟩ := w1
    have hG_m1 := xw_GF hG F1 (by decide +kernel)
    rcases w1 with ⟨q1, eo1, rfl, H1, K1, L1, x1⟩ | ⟨e1, eo1, rfl, W1⟩
    · have k0 := K1.1
      have k1 := K1.2.1
      have k2 := K1.2.2.1
      refine xw_istore_n (pc := 11) (L' := [(1, .int (Int32.ofInt 1)), (0, .ref (xw_ad al 0))]) C0 dX11_house_11 rfl (by decide +kernel) rfl ?_
      refine xw_aload_n (pc := 12) C0 1 dX11_house_12 rfl rfl ?_
      refine xw_aload_n (pc := 13) C0 1 dX11_house_13 rfl rfl ?_
      refine xw_getR (pc := 14) (f := 5) C0 103 kcX11 dX11_house_14 (by decide +kernel) tv_427 (xj_0 hKL) xk_27 rfl (((F1 0 5 rfl).trans rfl).trans (xe_0_5 hG)) ?_
      refine xw_getR (pc := 17) (f := 0) C0 104 kcX3 dX11_house_17 (by decide +kernel) tv_330 (xj_103 hKL) xk_67 rfl (((F1 103 0 rfl).trans rfl).trans (xe_103_0 hG)) ?_
      refine xw_callVV (pc := 20) (μ := m1) (ci := 11) (rest := []) (As := [.ref (xw_ad al 104)]) C0 hU hO sa_Tg hKL (xh_takeText (l := l) hG_m1) tv_622 dX11_house_20 tv_619 tv_621 tq_X11_takeText tv_1 rfl yb_X11_takeText (by decide +kernel) rfl rfl rfl (by decide +kernel) (Nat.le_of_ble_eq_true rfl) (xj_0 hKL) xk_27 (fun m2 F2 => ?_)
      obtain ⟨z2, F2⟩ := F2
      have hG_m2 := xw_GF hG_m1 F2 (by decide +kernel)
      refine xw_iload_n (pc := 23) C0 0 dX11_house_23 rfl rfl ?_
      refine xw_if_ne (pc := 24) (tgt := 40) C0 (by omega) dX11_house_24 rfl (fun b3 => ?_) (fun b3 => ?_)
      · refine xw_aload_n (pc := 40) C0 1 dX11_house_40 rfl rfl ?_
        refine xw_getR (pc := 41) (f := 1) C0 3 kcX11 dX11_house_41 (by decide +kernel) tv_423 (xj_0 hKL) xk_27 rfl (((F2 0 1 rfl).trans ((F1 0 1 rfl).trans rfl)).trans (xe_0_1 hG)) ?_
        refine xw_getR (pc := 44) (f := 0) C0 4 kcX10 dX11_house_44 (by decide +kernel) tv_234 (xj_3 hKL) xk_24 rfl (((F2 3 0 rfl).trans ((F1 3 0 rfl).trans rfl)).trans (xe_3_0 hG)) ?_
        refine xw_aload_n (pc := 47) C0 1 dX11_house_47 rfl rfl ?_
        refine xw_getR (pc := 48) (f := 5) C0 103 kcX11 dX11_house_48 (by decide +kernel) tv_427 (xj_0 hKL) xk_27 rfl (((F2 0 5 rfl).trans ((F1 0 5 rfl).trans rfl)).trans (xe_0_5 hG)) ?_
        refine xw_getR (pc := 51) (f := 1) C0 107 kcX3 dX11_house_51 (by decide +kernel) tv_332 (xj_103 hKL) xk_67 rfl (((F2 103 1 rfl).trans ((F1 103 1 rfl).trans rfl)).trans (xe_103_1 hG)) ?_
        refine xw_callVV (pc := 54) (μ := m2) (ci := 2) (rest := []) (As := [.ref (xw_ad al 107)]) C0 hU hO sa_Tg hKL (xq_cpH_4_107 (l := l) hG_m2) tv_626 dX11_house_54 tv_623 tv_624 tv_625 tv_4 rfl yb_X2_copyFrom (by decide +kernel) rfl rfl rfl (by decide +kernel) (Nat.le_of_ble_eq_true rfl) (xj_4 hKL) xk_28 (fun m4 F4 => ?_)
        obtain ⟨c9, F4⟩ := F4
        have hG_m4 := xw_GF hG_m2 F4 (by decide +kernel)
        refine xw_aload_n (pc := 57) C0 1 dX11_house_57 rfl rfl ?_
        refine xw_getR (pc := 58) (f := 1) C0 3 kcX11 dX11_house_58 (by decide +kernel) tv_423 (xj_0 hKL) xk_27 rfl (((F4 0 1 rfl).trans ((F2 0 1 rfl).trans ((F1 0 1 rfl).trans rfl))).trans (xe_0_1 hG)) ?_
        refine xw_getR (pc := 61) (f := 1) C0 18 kcX10 dX11_house_61 (by decide +kernel) tv_236 (xj_3 hKL) xk_24 rfl (((F4 3 1 rfl).trans ((F2 3 1 rfl).trans ((F1 3 1 rfl).trans rfl))).trans (xe_3_1 hG)) ?_
        refine xw_callVV (pc := 64) (μ := m4) (ci := 9) (rest := []) (As := []) C0 hU hO sa_Tg hKL (xh_makeNew (l := l) hG_m4) tv_633 dX11_house_64 tv_630 tv_631 tv_632 tv_5 rfl yb_X9_makeNew (by decide +kernel) rfl rfl rfl (by decide +kernel) (Nat.le_of_ble_eq_true rfl) (xj_18 hKL) xk_42 (fun m5 F5 => ?_)
        have hG_m5 := xw_GF hG_m4 F5 (by decide +kernel)
        refine xw_aload_n (pc := 67) C0 1 dX11_house_67 rfl rfl ?_
        refine xw_getR (pc := 68) (f := 1) C0 3 kcX11 dX11_house_68 (by decide +kernel) tv_423 (xj_0 hKL) xk_27 rfl (((F5 0 1 rfl).trans ((F4 0 1 rfl).trans ((F2 0 1 rfl).trans ((F1 0 1 rfl).trans rfl)))).trans (xe_0_1 hG)) ?_
        refine xw_getR (pc := 71) (f := 2) C0 25 kcX10 dX11_house_71 (by decide +kernel) tv_238 (xj_3 hKL) xk_24 rfl (((F5 3 2 rfl).trans ((F4 3 2 rfl).trans ((F2 3 2 rfl).trans ((F1 3 2 rfl).trans rfl)))).trans (xe_3_2 hG)) ?_
        refine xw_callVV (pc := 74) (μ := m5) (ci := 7) (rest := []) (As := []) C0 hU hO sa_Tg hKL (xh_clearS (l := l) hG_m5) tv_637 dX11_house_74 tv_634 tv_635 tv_636 tv_6 rfl yb_X7_clear (by decide +kernel) rfl rfl rfl (by decide +kernel) (Nat.le_of_ble_eq_true rfl) (xj_25 hKL) xk_49 (fun m6 F6 => ?_)
        have hG_m6 := xw_GF hG_m5 F6 (by decide +kernel)
        refine xw_aload_n (pc := 77) C0 1 dX11_house_77 rfl rfl ?_
        refine xw_getR (pc := 78) (f := 3) C0 31 kcX11 dX11_house_78 (by decide +kernel) tv_425 (xj_0 hKL) xk_27 rfl (((F6 0 3 rfl).trans ((F5 0 3 rfl).trans ((F4 0 3 rfl).trans ((F2 0 3 rfl).trans ((F1 0 3 rfl).trans rfl))))).trans (xe_0_3 hG)) ?_
        refine xw_callVV (pc := 81) (μ := m6) (ci := 1) (rest := []) (As := []) C0 hU hO sa_Tg hKL (xh_clearY (l := l) hG_m6) tv_641 dX11_house_81 tv_638 tv_639 tv_640 tv_7 rfl yb_X1_clear (by decide +kernel) rfl rfl rfl (by decide +kernel) (Nat.le_of_ble_eq_true rfl) (xj_31 hKL) xk_65 (fun m7 F7 => ?_)
        have hG_m7 := xw_GF hG_m6 F7 (by decide +kernel)
        refine xw_aload_n (pc := 84) C0 1 dX11_house_84 rfl rfl ?_
        refine xw_getR (pc := 85) (f := 5) C0 103 kcX11 dX11_house_85 (by decide +kernel) tv_427 (xj_0 hKL) xk_27 rfl (((F7 0 5 rfl).trans ((F6 0 5 rfl).trans ((F5 0 5 rfl).trans ((F4 0 5 rfl).trans ((F2 0 5 rfl).trans ((F1 0 5 rfl).trans rfl)))))).trans (xe_0_5 hG)) ?_
        refine xw_getI (pc := 88) (f := 2) (z := m1 103 2) C0 kcX3 dX11_house_88 (by decide +kernel) tv_334 (xj_103 hKL) xk_67 rfl ((F7 103 2 rfl).trans ((F6 103 2 rfl).trans ((F5 103 2 rfl).trans ((F4 103 2 rfl).trans ((F2 103 2 rfl).trans rfl))))) (fun g8 k8 => ?_)
        refine xw_iret C0 hA hr hlk rfl dX11_house_91 ?_
        have fb : ∀ j i : Nat, 107 ≤ j → j ≤ 120 → m2 j i = m1 j i := fun j i h1 h2 => (xw_Frg (a := 107) (b := 120) F2 (by decide +kernel) j i h1 h2)
        have fa : ∀ j i : Nat, 4 ≤ j → j ≤ 17 → m7 j i = m4 j i := fun j i h1 h2 => ((xw_Frg (a := 4) (b := 17) F7 (by decide +kernel) j i h1 h2)).trans (((xw_Frg (a := 4) (b := 17) F6 (by decide +kernel) j i h1 h2)).trans ((xw_Frg (a := 4) (b := 17) F5 (by decide +kernel) j i h1 h2)))
        have hE9 := hx_EF (hx_EC (hx_EF (hx_EH H1) fb) c9) fa
        have hN9 := hx_NF (hx_NC (hx_NF (hx_NH H1) fb) c9) fa
        exact ⟨_, rfl, Or.inl ⟨q1, eo1, L1, K1, hE9, hN9⟩, ((F7 1 1 rfl).trans ((F6 1 1 rfl).trans ((F5 1 1 rfl).trans (F4 1 1 rfl)))).trans z2, (((((((xw_F.rf (ML := [(0, 13, 13), (1, 1, 1), (4, 13, 15), (5, 0, 5), (6, 0, 5), (7, 0, 5), (8, 0, 5), (9, 0, 5), (10, 0, 5), (11, 0, 5), (12, 0, 7), (13, 0, 7), (14, 0, 7), (15, 0, 7), (16, 0, 7), (17, 0, 23), (18, 6, 11), (19, 0, 5), (20, 0, 5), (21, 0, 5), (22, 0, 7), (23, 0, 7), (24, 0, 7), (25, 4, 5), (31, 1, 2), (103, 2, 2), (104, 0, 9), (107, 13, 15), (108, 0, 5), (109, 0, 5), (110, 0, 5), (111, 0, 5), (112, 0, 5), (113, 0, 5), (114, 0, 5), (115, 0, 7), (116, 0, 7), (117, 0, 7), (118, 0, 7), (119, 0, 7), (120, 0, 23)])).tr F1 (fun j i h => xw_o_sub (by decide +kernel) j i h)).tr F2 (fun j i h => xw_o_sub (by decide +kernel) j i h)).tr F4 (fun j i h => xw_o_sub (by decide +kernel) j i h)).tr F5 (fun j i h => xw_o_sub (by decide +kernel) j i h)).tr F6 (fun j i h => xw_o_sub (by decide +kernel) j i h)).tr F7 (fun j i h => xw_o_sub (by decide +kernel) j i h))⟩
      · exfalso
        omega
    · refine xw_istore_n (pc := 11) (L' := [(1, .int (Int32.ofInt 0)), (0, .ref (xw_ad al 0))]) C0 dX11_house_11 rfl (by decide +kernel) rfl ?_
      refine xw_aload_n (pc := 12) C0 1 dX11_house_12 rfl rfl ?_
      refine xw_aload_n (pc := 13) C0 1 dX11_house_13 rfl rfl ?_
      refine xw_getR (pc := 14) (f := 5) C0 103 kcX11 dX11_house_14 (by decide +kernel) tv_427 (xj_0 hKL) xk_27 rfl (((F1 0 5 rfl).trans rfl).trans (xe_0_5 hG)) ?_
      refine xw_getR (pc := 17) (f := 0) C0 104 kcX3 dX11_house_17 (by decide +kernel) tv_330 (xj_103 hKL) xk_67 rfl (((F1 103 0 rfl).trans rfl).trans (xe_103_0 hG)) ?_
      refine xw_callVV (pc := 20) (μ := m1) (ci := 11) (rest := []) (As := [.ref (xw_ad al 104)]) C0 hU hO sa_Tg hKL (xh_takeText (l := l) hG_m1) tv_622 dX11_house_20 tv_619 tv_621 tq_X11_takeText tv_1 rfl yb_X11_takeText (by decide +kernel) rfl rfl rfl (by decide +kernel) (Nat.le_of_ble_eq_true rfl) (xj_0 hKL) xk_27 (fun m10 F10 => ?_)
      obtain ⟨z10, F10⟩ := F10
      have hG_m10 := xw_GF hG_m1 F10 (by decide +kernel)
      refine xw_iload_n (pc := 23) C0 0 dX11_house_23 rfl rfl ?_
      refine xw_if_ne (pc := 24) (tgt := 40) C0 (by omega) dX11_house_24 rfl (fun b11 => ?_) (fun b11 => ?_)
      · exfalso
        omega
      · refine xw_iconst (pc := 27) C0 dX11_house_27 ?_
        refine xw_aload_n (pc := 28) C0 1 dX11_house_28 rfl rfl ?_
        refine xw_getR (pc := 29) (f := 5) C0 103 kcX11 dX11_house_29 (by decide +kernel) tv_427 (xj_0 hKL) xk_27 rfl (((F10 0 5 rfl).trans ((F1 0 5 rfl).trans rfl)).trans (xe_0_5 hG)) ?_
        refine xw_getR (pc := 32) (f := 0) C0 104 kcX3 dX11_house_32 (by decide +kernel) tv_330 (xj_103 hKL) xk_67 rfl (((F10 103 0 rfl).trans ((F1 103 0 rfl).trans rfl)).trans (xe_103_0 hG)) ?_
        refine xw_getI (pc := 35) (f := 9) (z := m1 104 9) C0 kcX6 dX11_house_35 (by decide +kernel) tv_305 (xj_104 hKL) xk_17 rfl ((F10 104 9 rfl).trans rfl) (fun g12 k12 => ?_)
        refine xw_isub (pc := 38) C0 dX11_house_38 ?_
        refine xw_iret C0 hA hr hlk rfl dX11_house_39 ?_
        have e9 : m1 104 9 = e1.2 := W1.2.2
        have fa : ∀ j i : Nat, 4 ≤ j → j ≤ 17 → m10 j i = μ j i := fun j i h1 h2 => ((xw_Frg (a := 4) (b := 17) F10 (by decide +kernel) j i h1 h2)).trans ((xw_Frg (a := 4) (b := 17) F1 (by decide +kernel) j i h1 h2))
        exact ⟨_, rfl, Or.inr ⟨e1, eo1, by omega, fa⟩, z10, (((xw_F.rf (ML := [(0, 13, 13), (1, 1, 1), (4, 13, 15), (5, 0, 5), (6, 0, 5), (7, 0, 5), (8, 0, 5), (9, 0, 5), (10, 0, 5), (11, 0, 5), (12, 0, 7), (13, 0, 7), (14, 0, 7), (15, 0, 7), (16, 0, 7), (17, 0, 23), (18, 6, 11), (19, 0, 5), (20, 0, 5), (21, 0, 5), (22, 0, 7), (23, 0, 7), (24, 0, 7), (25, 4, 5), (31, 1, 2), (103, 2, 2), (104, 0, 9), (107, 13, 15), (108, 0, 5), (109, 0, 5), (110, 0, 5), (111, 0, 5), (112, 0, 5), (113, 0, 5), (114, 0, 5), (115, 0, 7), (116, 0, 7), (117, 0, 7), (118, 0, 7), (119, 0, 7), (120, 0, 23)])).tr F1 (fun j i h => xw_o_sub (by decide +kernel) j i h)).tr F10 (fun j i h => xw_o_sub (by decide +kernel) j i h))⟩)
