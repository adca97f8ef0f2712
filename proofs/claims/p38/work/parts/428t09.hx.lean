set_option maxRecDepth 20000 in
set_option maxHeartbeats 20000000 in
theorem xq_cpH_4_107 {l : Launch} {μ : xw_M} (hG : xw_G xw_GL μ) : xw_MetV l vwCl sa_Ts tb_KT0 tc_KL yX2_copyFrom cX2_copyFrom 2 none 2 120 (fun ad => [.ref (ad 4), .ref (ad 107)]) μ (fun μ' => hx_C 4 107 μ μ' ∧ xw_F [(4, 13, 15), (5, 0, 5), (6, 0, 5), (7, 0, 5), (8, 0, 5), (9, 0, 5), (10, 0, 5), (11, 0, 5), (12, 0, 7), (13, 0, 7), (14, 0, 7), (15, 0, 7), (16, 0, 7), (17, 0, 23)] μ μ') :=
  xw_of (by decide +kernel) (fun _ => Nat.le_of_ble_eq_true rfl) (fun p e s m args below meth c D dA A al w0 sz C0 hU hO hKL hr hlk hA => by
    refine xw_aload_n (pc := 0) C0 1 dX2_copyFrom_0 rfl rfl ?_
    refine xw_getR (pc := 1) (f := 0) C0 108 kcX2 dX2_copyFrom_1 (by decide +kernel) tv_61 (xj_107 hKL) xk_28 rfl ((rfl).trans (xe_107_0 hG)) ?_
    refine xw_iconst (pc := 4) C0 dX2_copyFrom_4 ?_
    refine xw_aload_n (pc := 5) C0 0 dX2_copyFrom_5 rfl rfl ?_
    refine xw_getR (pc := 6) (f := 0) C0 5 kcX2 dX2_copyFrom_6 (by decide +kernel) tv_61 (xj_4 hKL) xk_28 rfl ((rfl).trans (xe_4_0 hG)) ?_
    refine xw_iconst (pc := 9) C0 dX2_copyFrom_9 ?_
    refine xw_bipush (pc := 10) C0 dX2_copyFrom_10 (by decide +kernel) ?_
    refine xw_acL (pc := 12) (μ := μ) (n := 6) C0 dX2_copyFrom_12 tv_627 tv_629 tv_628 tv_14 (by decide +kernel) (by decide +kernel) (Nat.le_of_ble_eq_true rfl) (xj_108 hKL) (xj_5 hKL) xk_29 xk_29 (by decide +kernel) (fun _ _ _ h9 => h9) ?_
    have G1 : xw_F [(5, 0, 5)] μ (fun j i => if j = 5 ∧ i < 6 then μ 108 i else μ j i) := fun j i h9 => if_neg (fun q => by obtain ⟨q1, q2⟩ := q; subst q1; exact xw_o_in h9 List.mem_cons_self ⟨Nat.zero_le _, by omega⟩)
    have P1 : ∀ i : Nat, i < 6 → (fun j i => if j = 5 ∧ i < 6 then μ 108 i else μ j i) 5 i = μ 108 i := fun i hi => if_pos ⟨rfl, hi⟩
    generalize (fun j i => if j = 5 ∧ i < 6 then μ 108 i else μ j i) = c1 at G1 P1 ⊢
    have hG_c1 := xw_GF hG G1 (by decide +kernel)
    refine xw_aload_n (pc := 15) C0 1 dX2_copyFrom_15 rfl rfl ?_
    refine xw_getR (pc := 16) (f := 1) C0 109 kcX2 dX2_copyFrom_16 (by decide +kernel) tv_63 (xj_107 hKL) xk_28 rfl (((G1 107 1 rfl).trans rfl).trans (xe_107_1 hG)) ?_
    refine xw_iconst (pc := 19) C0 dX2_copyFrom_19 ?_
    refine xw_aload_n (pc := 20) C0 0 dX2_copyFrom_20 rfl rfl ?_
    refine xw_getR (pc := 21) (f := 1) C0 6 kcX2 dX2_copyFrom_21 (by decide +kernel) tv_63 (xj_4 hKL) xk_28 rfl (((G1 4 1 rfl).trans rfl).trans (xe_4_1 hG)) ?_
    refine xw_iconst (pc := 24) C0 dX2_copyFrom_24 ?_
    refine xw_bipush (pc := 25) C0 dX2_copyFrom_25 (by decide +kernel) ?_
    refine xw_acI (pc := 27) (μ := c1) (n := 6) C0 dX2_copyFrom_27 tv_627 tv_629 tv_628 tv_14 (by decide +kernel) (by decide +kernel) (Nat.le_of_ble_eq_true rfl) (xj_109 hKL) (xj_6 hKL) xk_30 xk_30 (by decide +kernel) (fun _ _ _ h9 => h9) ?_
    have G2 : xw_F [(6, 0, 5)] c1 (fun j i => if j = 6 ∧ i < 6 then c1 109 i else c1 j i) := fun j i h9 => if_neg (fun q => by obtain ⟨q1, q2⟩ := q; subst q1; exact xw_o_in h9 List.mem_cons_self ⟨Nat.zero_le _, by omega⟩)
    have P2 : ∀ i : Nat, i < 6 → (fun j i => if j = 6 ∧ i < 6 then c1 109 i else c1 j i) 6 i = c1 109 i := fun i hi => if_pos ⟨rfl, hi⟩
    generalize (fun j i => if j = 6 ∧ i < 6 then c1 109 i else c1 j i) = c2 at G2 P2 ⊢
    have hG_c2 := xw_GF hG_c1 G2 (by decide +kernel)
    refine xw_aload_n (pc := 30) C0 1 dX2_copyFrom_30 rfl rfl ?_
    refine xw_getR (pc := 31) (f := 2) C0 110 kcX2 dX2_copyFrom_31 (by decide +kernel) tv_67 (xj_107 hKL) xk_28 rfl (((G2 107 2 rfl).trans ((G1 107 2 rfl).trans rfl)).trans (xe_107_2 hG)) ?_
    refine xw_iconst (pc := 34) C0 dX2_copyFrom_34 ?_
    refine xw_aload_n (pc := 35) C0 0 dX2_copyFrom_35 rfl rfl ?_
    refine xw_getR (pc := 36) (f := 2) C0 7 kcX2 dX2_copyFrom_36 (by decide +kernel) tv_67 (xj_4 hKL) xk_28 rfl (((G2 4 2 rfl).trans ((G1 4 2 rfl).trans rfl)).trans (xe_4_2 hG)) ?_
    refine xw_iconst (pc := 39) C0 dX2_copyFrom_39 ?_
    refine xw_bipush (pc := 40) C0 dX2_copyFrom_40 (by decide +kernel) ?_
    refine xw_acI (pc := 42) (μ := c2) (n := 6) C0 dX2_copyFrom_42 tv_627 tv_629 tv_628 tv_14 (by decide +kernel) (by decide +kernel) (Nat.le_of_ble_eq_true rfl) (xj_110 hKL) (xj_7 hKL) xk_31 xk_31 (by decide +kernel) (fun _ _ _ h9 => h9) ?_
    have G3 : xw_F [(7, 0, 5)] c2 (fun j i => if j = 7 ∧ i < 6 then c2 110 i else c2 j i) := fun j i h9 => if_neg (fun q => by obtain ⟨q1, q2⟩ := q; subst q1; exact xw_o_in h9 List.mem_cons_self ⟨Nat.zero_le _, by omega⟩)
    have P3 : ∀ i : Nat, i < 6 → (fun j i => if j = 7 ∧ i < 6 then c2 110 i else c2 j i) 7 i = c2 110 i := fun i hi => if_pos ⟨rfl, hi⟩
    generalize (fun j i => if j = 7 ∧ i < 6 then c2 110 i else c2 j i) = c3 at G3 P3 ⊢
    have hG_c3 := xw_GF hG_c2 G3 (by decide +kernel)
    refine xw_aload_n (pc := 45) C0 1 dX2_copyFrom_45 rfl rfl ?_
    refine xw_getR (pc := 46) (f := 3) C0 111 kcX2 dX2_copyFrom_46 (by decide +kernel) tv_71 (xj_107 hKL) xk_28 rfl (((G3 107 3 rfl).trans ((G2 107 3 rfl).trans ((G1 107 3 rfl).trans rfl))).trans (xe_107_3 hG)) ?_
    refine xw_iconst (pc := 49) C0 dX2_copyFrom_49 ?_
    refine xw_aload_n (pc := 50) C0 0 dX2_copyFrom_50 rfl rfl ?_
    refine xw_getR (pc := 51) (f := 3) C0 8 kcX2 dX2_copyFrom_51 (by decide +kernel) tv_71 (xj_4 hKL) xk_28 rfl (((G3 4 3 rfl).trans ((G2 4 3 rfl).trans ((G1 4 3 rfl).trans rfl))).trans (xe_4_3 hG)) ?_
    refine xw_iconst (pc := 54) C0 dX2_copyFrom_54 ?_
    refine xw_bipush (pc := 55) C0 dX2_copyFrom_55 (by decide +kernel) ?_
    refine xw_acI (pc := 57) (μ := c3) (n := 6) C0 dX2_copyFrom_57 tv_627 tv_629 tv_628 tv_14 (by decide +kernel) (by decide +kernel) (Nat.le_of_ble_eq_true rfl) (xj_111 hKL) (xj_8 hKL) xk_32 xk_32 (by decide +kernel) (fun _ _ _ h9 => h9) ?_
    have G4 : xw_F [(8, 0, 5)] c3 (fun j i => if j = 8 ∧ i < 6 then c3 111 i else c3 j i) := fun j i h9 => if_neg (fun q => by obtain ⟨q1, q2⟩ := q; subst q1; exact xw_o_in h9 List.mem_cons_self ⟨Nat.zero_le _, by omega⟩)
    have P4 : ∀ i : Nat, i < 6 → (fun j i => if j = 8 ∧ i < 6 then c3 111 i else c3 j i) 8 i = c3 111 i := fun i hi => if_pos ⟨rfl, hi⟩
    generalize (fun j i => if j = 8 ∧ i < 6 then c3 111 i else c3 j i) = c4 at G4 P4 ⊢
    have hG_c4 := xw_GF hG_c3 G4 (by decide +kernel)
    refine xw_aload_n (pc := 60) C0 1 dX2_copyFrom_60 rfl rfl ?_
    refine xw_getR (pc := 61) (f := 4) C0 112 kcX2 dX2_copyFrom_61 (by decide +kernel) tv_74 (xj_107 hKL) xk_28 rfl (((G4 107 4 rfl).trans ((G3 107 4 rfl).trans ((G2 107 4 rfl).trans ((G1 107 4 rfl).trans rfl)))).trans (xe_107_4 hG)) ?_
    refine xw_iconst (pc := 64) C0 dX2_copyFrom_64 ?_
    refine xw_aload_n (pc := 65) C0 0 dX2_copyFrom_65 rfl rfl ?_
    refine xw_getR (pc := 66) (f := 4) C0 9 kcX2 dX2_copyFrom_66 (by decide +kernel) tv_74 (xj_4 hKL) xk_28 rfl (((G4 4 4 rfl).trans ((G3 4 4 rfl).trans ((G2 4 4 rfl).trans ((G1 4 4 rfl).trans rfl)))).trans (xe_4_4 hG)) ?_
    refine xw_iconst (pc := 69) C0 dX2_copyFrom_69 ?_
    refine xw_bipush (pc := 70) C0 dX2_copyFrom_70 (by decide +kernel) ?_
    refine xw_acI (pc := 72) (μ := c4) (n := 6) C0 dX2_copyFrom_72 tv_627 tv_629 tv_628 tv_14 (by decide +kernel) (by decide +kernel) (Nat.le_of_ble_eq_true rfl) (xj_112 hKL) (xj_9 hKL) xk_33 xk_33 (by decide +kernel) (fun _ _ _ h9 => h9) ?_
    have G5 : xw_F [(9, 0, 5)] c4 (fun j i => if j = 9 ∧ i < 6 then c4 112 i else c4 j i) := fun j i h9 => if_neg (fun q => by obtain ⟨q1, q2⟩ := q; subst q1; exact xw_o_in h9 List.mem_cons_self ⟨Nat.zero_le _, by omega⟩)
    have P5 : ∀ i : Nat, i < 6 → (fun j i => if j = 9 ∧ i < 6 then c4 112 i else c4 j i) 9 i = c4 112 i := fun i hi => if_pos ⟨rfl, hi⟩
    generalize (fun j i => if j = 9 ∧ i < 6 then c4 112 i else c4 j i) = c5 at G5 P5 ⊢
    have hG_c5 := xw_GF hG_c4 G5 (by decide +kernel)
    refine xw_aload_n (pc := 75) C0 1 dX2_copyFrom_75 rfl rfl ?_
    refine xw_getR (pc := 76) (f := 5) C0 113 kcX2 dX2_copyFrom_76 (by decide +kernel) tv_75 (xj_107 hKL) xk_28 rfl (((G5 107 5 rfl).trans ((G4 107 5 rfl).trans ((G3 107 5 rfl).trans ((G2 107 5 rfl).trans ((G1 107 5 rfl).trans rfl))))).trans (xe_107_5 hG)) ?_
    refine xw_iconst (pc := 79) C0 dX2_copyFrom_79 ?_
    refine xw_aload_n (pc := 80) C0 0 dX2_copyFrom_80 rfl rfl ?_
    refine xw_getR (pc := 81) (f := 5) C0 10 kcX2 dX2_copyFrom_81 (by decide +kernel) tv_75 (xj_4 hKL) xk_28 rfl (((G5 4 5 rfl).trans ((G4 4 5 rfl).trans ((G3 4 5 rfl).trans ((G2 4 5 rfl).trans ((G1 4 5 rfl).trans rfl))))).trans (xe_4_5 hG)) ?_
    refine xw_iconst (pc := 84) C0 dX2_copyFrom_84 ?_
    refine xw_bipush (pc := 85) C0 dX2_copyFrom_85 (by decide +kernel) ?_
    refine xw_acI (pc := 87) (μ := c5) (n := 6) C0 dX2_copyFrom_87 tv_627 tv_629 tv_628 tv_14 (by decide +kernel) (by decide +kernel) (Nat.le_of_ble_eq_true rfl) (xj_113 hKL) (xj_10 hKL) xk_34 xk_34 (by decide +kernel) (fun _ _ _ h9 => h9) ?_
    have G6 : xw_F [(10, 0, 5)] c5 (fun j i => if j = 10 ∧ i < 6 then c5 113 i else c5 j i) := fun j i h9 => if_neg (fun q => by obtain ⟨q1, q2⟩ := q; subst q1; exact xw_o_in h9 List.mem_cons_self ⟨Nat.zero_le _, by omega⟩)
    have P6 : ∀ i : Nat, i < 6 → (fun j i => if j = 10 ∧ i < 6 then c5 113 i else c5 j i) 10 i = c5 113 i := fun i hi => if_pos ⟨rfl, hi⟩
    generalize (fun j i => if j = 10 ∧ i < 6 then c5 113 i else c5 j i) = c6 at G6 P6 ⊢
    have hG_c6 := xw_GF hG_c5 G6 (by decide +kernel)
    refine xw_aload_n (pc := 90) C0 1 dX2_copyFrom_90 rfl rfl ?_
    refine xw_getR (pc := 91) (f := 6) C0 114 kcX2 dX2_copyFrom_91 (by decide +kernel) tv_78 (xj_107 hKL) xk_28 rfl (((G6 107 6 rfl).trans ((G5 107 6 rfl).trans ((G4 107 6 rfl).trans ((G3 107 6 rfl).trans ((G2 107 6 rfl).trans ((G1 107 6 rfl).trans rfl)))))).trans (xe_107_6 hG)) ?_
    refine xw_iconst (pc := 94) C0 dX2_copyFrom_94 ?_
    refine xw_aload_n (pc := 95) C0 0 dX2_copyFrom_95 rfl rfl ?_
    refine xw_getR (pc := 96) (f := 6) C0 11 kcX2 dX2_copyFrom_96 (by decide +kernel) tv_78 (xj_4 hKL) xk_28 rfl (((G6 4 6 rfl).trans ((G5 4 6 rfl).trans ((G4 4 6 rfl).trans ((G3 4 6 rfl).trans ((G2 4 6 rfl).trans ((G1 4 6 rfl).trans rfl)))))).trans (xe_4_6 hG)) ?_
    refine xw_iconst (pc := 99) C0 dX2_copyFrom_99 ?_
    refine xw_bipush (pc := 100) C0 dX2_copyFrom_100 (by decide +kernel) ?_
    refine xw_acI (pc := 102) (μ := c6) (n := 6) C0 dX2_copyFrom_102 tv_627 tv_629 tv_628 tv_14 (by decide +kernel) (by decide +kernel) (Nat.le_of_ble_eq_true rfl) (xj_114 hKL) (xj_11 hKL) xk_35 xk_35 (by decide +kernel) (fun _ _ _ h9 => h9) ?_
    have G7 : xw_F [(11, 0, 5)] c6 (fun j i => if j = 11 ∧ i < 6 then c6 114 i else c6 j i) := fun j i h9 => if_neg (fun q => by obtain ⟨q1, q2⟩ := q; subst q1; exact xw_o_in h9 List.mem_cons_self ⟨Nat.zero_le _, by omega⟩)
    have P7 : ∀ i : Nat, i < 6 → (fun j i => if j = 11 ∧ i < 6 then c6 114 i else c6 j i) 11 i = c6 114 i := fun i hi => if_pos ⟨rfl, hi⟩
    generalize (fun j i => if j = 11 ∧ i < 6 then c6 114 i else c6 j i) = c7 at G7 P7 ⊢
    have hG_c7 := xw_GF hG_c6 G7 (by decide +kernel)
    refine xw_aload_n (pc := 105) C0 1 dX2_copyFrom_105 rfl rfl ?_
    refine xw_getR (pc := 106) (f := 7) C0 115 kcX2 dX2_copyFrom_106 (by decide +kernel) tv_81 (xj_107 hKL) xk_28 rfl (((G7 107 7 rfl).trans ((G6 107 7 rfl).trans ((G5 107 7 rfl).trans ((G4 107 7 rfl).trans ((G3 107 7 rfl).trans ((G2 107 7 rfl).trans ((G1 107 7 rfl).trans rfl))))))).trans (xe_107_7 hG)) ?_
    refine xw_iconst (pc := 109) C0 dX2_copyFrom_109 ?_
    refine xw_aload_n (pc := 110) C0 0 dX2_copyFrom_110 rfl rfl ?_
    refine xw_getR (pc := 111) (f := 7) C0 12 kcX2 dX2_copyFrom_111 (by decide +kernel) tv_81 (xj_4 hKL) xk_28 rfl (((G7 4 7 rfl).trans ((G6 4 7 rfl).trans ((G5 4 7 rfl).trans ((G4 4 7 rfl).trans ((G3 4 7 rfl).trans ((G2 4 7 rfl).trans ((G1 4 7 rfl).trans rfl))))))).trans (xe_4_7 hG)) ?_
    refine xw_iconst (pc := 114) C0 dX2_copyFrom_114 ?_
    refine xw_bipush (pc := 115) C0 dX2_copyFrom_115 (by decide +kernel) ?_
    refine xw_acL (pc := 117) (μ := c7) (n := 8) C0 dX2_copyFrom_117 tv_627 tv_629 tv_628 tv_14 (by decide +kernel) (by decide +kernel) (Nat.le_of_ble_eq_true rfl) (xj_115 hKL) (xj_12 hKL) xk_36 xk_36 (by decide +kernel) (fun _ _ _ h9 => h9) ?_
    have G8 : xw_F [(12, 0, 7)] c7 (fun j i => if j = 12 ∧ i < 8 then c7 115 i else c7 j i) := fun j i h9 => if_neg (fun q => by obtain ⟨q1, q2⟩ := q; subst q1; exact xw_o_in h9 List.mem_cons_self ⟨Nat.zero_le _, by omega⟩)
    have P8 : ∀ i : Nat, i < 8 → (fun j i => if j = 12 ∧ i < 8 then c7 115 i else c7 j i) 12 i = c7 115 i := fun i hi => if_pos ⟨rfl, hi⟩
    generalize (fun j i => if j = 12 ∧ i < 8 then c7 115 i else c7 j i) = c8 at G8 P8 ⊢
    have hG_c8 := xw_GF hG_c7 G8 (by decide +kernel)
    refine xw_aload_n (pc := 120) C0 1 dX2_copyFrom_120 rfl rfl ?_
    refine xw_getR (pc := 121) (f := 8) C0 116 kcX2 dX2_copyFrom_121 (by decide +kernel) tv_83 (xj_107 hKL) xk_28 rfl (((G8 107 8 rfl).trans ((G7 107 8 rfl).trans ((G6 107 8 rfl).trans ((G5 107 8 rfl).trans ((G4 107 8 rfl).trans ((G3 107 8 rfl).trans ((G2 107 8 rfl).trans ((G1 107 8 rfl).trans rfl)))))))).trans (xe_107_8 hG)) ?_
    refine xw_iconst (pc := 124) C0 dX2_copyFrom_124 ?_
    refine xw_aload_n (pc := 125) C0 0 dX2_copyFrom_125 rfl rfl ?_
    refine xw_getR (pc := 126) (f := 8) C0 13 kcX2 dX2_copyFrom_126 (by decide +kernel) tv_83 (xj_4 hKL) xk_28 rfl (((G8 4 8 rfl).trans ((G7 4 8 rfl).trans ((G6 4 8 rfl).trans ((G5 4 8 rfl).trans ((G4 4 8 rfl).trans ((G3 4 8 rfl).trans ((G2 4 8 rfl).trans ((G1 4 8 rfl).trans rfl)))))))).trans (xe_4_8 hG)) ?_
    refine xw_iconst (pc := 129) C0 dX2_copyFrom_129 ?_
    refine xw_bipush (pc := 130) C0 dX2_copyFrom_130 (by decide +kernel) ?_
    refine xw_acI (pc := 132) (μ := c8) (n := 8) C0 dX2_copyFrom_132 tv_627 tv_629 tv_628 tv_14 (by decide +kernel) (by decide +kernel) (Nat.le_of_ble_eq_true rfl) (xj_116 hKL) (xj_13 hKL) xk_37 xk_37 (by decide +kernel) (fun _ _ _ h9 => h9) ?_
    have G10 : xw_F [(13, 0, 7)] c8 (fun j i => if j = 13 ∧ i < 8 then c8 116 i else c8 j i) := fun j i h9 => if_neg (fun q => by obtain ⟨q1, q2⟩ := q; subst q1; exact xw_o_in h9 List.mem_cons_self ⟨Nat.zero_le _, by omega⟩)
    have P10 : ∀ i : Nat, i < 8 → (fun j i => if j = 13 ∧ i < 8 then c8 116 i else c8 j i) 13 i = c8 116 i := fun i hi => if_pos ⟨rfl, hi⟩
    generalize (fun j i => if j = 13 ∧ i < 8 then c8 116 i else c8 j i) = c10 at G10 P10 ⊢
    have hG_c10 := xw_GF hG_c8 G10 (by decide +kernel)
    refine xw_aload_n (pc := 135) C0 1 dX2_copyFrom_135 rfl rfl ?_
    refine xw_getR (pc := 136) (f := 9) C0 117 kcX2 dX2_copyFrom_136 (by decide +kernel) tv_86 (xj_107 hKL) xk_28 rfl (((G10 107 9 rfl).trans ((G8 107 9 rfl).trans ((G7 107 9 rfl).trans ((G6 107 9 rfl).trans ((G5 107 9 rfl).trans ((G4 107 9 rfl).trans ((G3 107 9 rfl).trans ((G2 107 9 rfl).trans ((G1 107 9 rfl).trans rfl))))))))).trans (xe_107_9 hG)) ?_
    refine xw_iconst (pc := 139) C0 dX2_copyFrom_139 ?_
    refine xw_aload_n (pc := 140) C0 0 dX2_copyFrom_140 rfl rfl ?_
    refine xw_getR (pc := 141) (f := 9) C0 14 kcX2 dX2_copyFrom_141 (by decide +kernel) tv_86 (xj_4 hKL) xk_28 rfl (((G10 4 9 rfl).trans ((G8 4 9 rfl).trans ((G7 4 9 rfl).trans ((G6 4 9 rfl).trans ((G5 4 9 rfl).trans ((G4 4 9 rfl).trans ((G3 4 9 rfl).trans ((G2 4 9 rfl).trans ((G1 4 9 rfl).trans rfl))))))))).trans (xe_4_9 hG)) ?_
    refine xw_iconst (pc := 144) C0 dX2_copyFrom_144 ?_
    refine xw_bipush (pc := 145) C0 dX2_copyFrom_145 (by decide +kernel) ?_
    refine xw_acI (pc := 147) (μ := c10) (n := 8) C0 dX2_copyFrom_147 tv_627 tv_629 tv_628 tv_14 (by decide +kernel) (by decide +kernel) (Nat.le_of_ble_eq_true rfl) (xj_117 hKL) (xj_14 hKL) xk_38 xk_38 (by decide +kernel) (fun _ _ _ h9 => h9) ?_
    have G11 : xw_F [(14, 0, 7)] c10 (fun j i => if j = 14 ∧ i < 8 then c10 117 i else c10 j i) := fun j i h9 => if_neg (fun q => by obtain ⟨q1, q2⟩ := q; subst q1; exact xw_o_in h9 List.mem_cons_self ⟨Nat.zero_le _, by omega⟩)
    have P11 : ∀ i : Nat, i < 8 → (fun j i => if j = 14 ∧ i < 8 then c10 117 i else c10 j i) 14 i = c10 117 i := fun i hi => if_pos ⟨rfl, hi⟩
    generalize (fun j i => if j = 14 ∧ i < 8 then c10 117 i else c10 j i) = c11 at G11 P11 ⊢
    have hG_c11 := xw_GF hG_c10 G11 (by decide +kernel)
    refine xw_aload_n (pc := 150) C0 1 dX2_copyFrom_150 rfl rfl ?_
    refine xw_getR (pc := 151) (f := 10) C0 118 kcX2 dX2_copyFrom_151 (by decide +kernel) tv_89 (xj_107 hKL) xk_28 rfl (((G11 107 10 rfl).trans ((G10 107 10 rfl).trans ((G8 107 10 rfl).trans ((G7 107 10 rfl).trans ((G6 107 10 rfl).trans ((G5 107 10 rfl).trans ((G4 107 10 rfl).trans ((G3 107 10 rfl).trans ((G2 107 10 rfl).trans ((G1 107 10 rfl).trans rfl)))))))))).trans (xe_107_10 hG)) ?_
    refine xw_iconst (pc := 154) C0 dX2_copyFrom_154 ?_
    refine xw_aload_n (pc := 155) C0 0 dX2_copyFrom_155 rfl rfl ?_
    refine xw_getR (pc := 156) (f := 10) C0 15 kcX2 dX2_copyFrom_156 (by decide +kernel) tv_89 (xj_4 hKL) xk_28 rfl (((G11 4 10 rfl).trans ((G10 4 10 rfl).trans ((G8 4 10 rfl).trans ((G7 4 10 rfl).trans ((G6 4 10 rfl).trans ((G5 4 10 rfl).trans ((G4 4 10 rfl).trans ((G3 4 10 rfl).trans ((G2 4 10 rfl).trans ((G1 4 10 rfl).trans rfl)))))))))).trans (xe_4_10 hG)) ?_
    refine xw_iconst (pc := 159) C0 dX2_copyFrom_159 ?_
    refine xw_bipush (pc := 160) C0 dX2_copyFrom_160 (by decide +kernel) ?_
    refine xw_acI (pc := 162) (μ := c11) (n := 8) C0 dX2_copyFrom_162 tv_627 tv_629 tv_628 tv_14 (by decide +kernel) (by decide +kernel) (Nat.le_of_ble_eq_true rfl) (xj_118 hKL) (xj_15 hKL) xk_39 xk_39 (by decide +kernel) (fun _ _ _ h9 => h9) ?_
    have G12 : xw_F [(15, 0, 7)] c11 (fun j i => if j = 15 ∧ i < 8 then c11 118 i else c11 j i) := fun j i h9 => if_neg (fun q => by obtain ⟨q1, q2⟩ := q; subst q1; exact xw_o_in h9 List.mem_cons_self ⟨Nat.zero_le _, by omega⟩)
    have P12 : ∀ i : Nat, i < 8 → (fun j i => if j = 15 ∧ i < 8 then c11 118 i else c11 j i) 15 i = c11 118 i := fun i hi => if_pos ⟨rfl, hi⟩
    generalize (fun j i => if j = 15 ∧ i < 8 then c11 118 i else c11 j i) = c12 at G12 P12 ⊢
    have hG_c12 := xw_GF hG_c11 G12 (by decide +kernel)
    refine xw_aload_n (pc := 165) C0 1 dX2_copyFrom_165 rfl rfl ?_
    refine xw_getR (pc := 166) (f := 11) C0 119 kcX2 dX2_copyFrom_166 (by decide +kernel) tv_92 (xj_107 hKL) xk_28 rfl (((G12 107 11 rfl).trans ((G11 107 11 rfl).trans ((G10 107 11 rfl).trans ((G8 107 11 rfl).trans ((G7 107 11 rfl).trans ((G6 107 11 rfl).trans ((G5 107 11 rfl).trans ((G4 107 11 rfl).trans ((G3 107 11 rfl).trans ((G2 107 11 rfl).trans ((G1 107 11 rfl).trans rfl))))))))))).trans (xe_107_11 hG)) ?_
    refine xw_iconst (pc := 169) C0 dX2_copyFrom_169 ?_
    refine xw_aload_n (pc := 170) C0 0 dX2_copyFrom_170 rfl rfl ?_
    refine xw_getR (pc := 171) (f := 11) C0 16 kcX2 dX2_copyFrom_171 (by decide +kernel) tv_92 (xj_4 hKL) xk_28 rfl (((G12 4 11 rfl).trans ((G11 4 11 rfl).trans ((G10 4 11 rfl).trans ((G8 4 11 rfl).trans ((G7 4 11 rfl).trans ((G6 4 11 rfl).trans ((G5 4 11 rfl).trans ((G4 4 11 rfl).trans ((G3 4 11 rfl).trans ((G2 4 11 rfl).trans ((G1 4 11 rfl).trans rfl))))))))))).trans (xe_4_11 hG)) ?_
    refine xw_iconst (pc := 174) C0 dX2_copyFrom_174 ?_
    refine xw_bipush (pc := 175) C0 dX2_copyFrom_175 (by decide +kernel) ?_
    refine xw_acI (pc := 177) (μ := c12) (n := 8) C0 dX2_copyFrom_177 tv_627 tv_629 tv_628 tv_14 (by decide +kernel) (by decide +kernel) (Nat.le_of_ble_eq_true rfl) (xj_119 hKL) (xj_16 hKL) xk_40 xk_40 (by decide +kernel) (fun _ _ _ h9 => h9) ?_
    have G13 : xw_F [(16, 0, 7)] c12 (fun j i => if j = 16 ∧ i < 8 then c12 119 i else c12 j i) := fun j i h9 => if_neg (fun q => by obtain ⟨q1, q2⟩ := q; subst q1; exact xw_o_in h9 List.mem_cons_self ⟨Nat.zero_le _, by omega⟩)
    have P13 : ∀ i : Nat, i < 8 → (fun j i => if j = 16 ∧ i < 8 then c12 119 i else c12 j i) 16 i = c12 119 i := fun i hi => if_pos ⟨rfl, hi⟩
    generalize (fun j i => if j = 16 ∧ i < 8 then c12 119 i else c12 j i) = c13 at G13 P13 ⊢
    have hG_c13 := xw_GF hG_c12 G13 (by decide +kernel)
    refine xw_aload_n (pc := 180) C0 1 dX2_copyFrom_180 rfl rfl ?_
    refine xw_getR (pc := 181) (f := 12) C0 120 kcX2 dX2_copyFrom_181 (by decide +kernel) tv_95 (xj_107 hKL) xk_28 rfl (((G13 107 12 rfl).trans ((G12 107 12 rfl).trans ((G11 107 12 rfl).trans ((G10 107 12 rfl).trans ((G8 107 12 rfl).trans ((G7 107 12 rfl).trans ((G6 107 12 rfl).trans ((G5 107 12 rfl).trans ((G4 107 12 rfl).trans ((G3 107 12 rfl).trans ((G2 107 12 rfl).trans ((G1 107 12 rfl).trans rfl)))))))))))).trans (xe_107_12 hG)) ?_
    refine xw_iconst (pc := 184) C0 dX2_copyFrom_184 ?_
    refine xw_aload_n (pc := 185) C0 0 dX2_copyFrom_185 rfl rfl ?_
    refine xw_getR (pc := 186) (f := 12) C0 17 kcX2 dX2_copyFrom_186 (by decide +kernel) tv_95 (xj_4 hKL) xk_28 rfl (((G13 4 12 rfl).trans ((G12 4 12 rfl).trans ((G11 4 12 rfl).trans ((G10 4 12 rfl).trans ((G8 4 12 rfl).trans ((G7 4 12 rfl).trans ((G6 4 12 rfl).trans ((G5 4 12 rfl).trans ((G4 4 12 rfl).trans ((G3 4 12 rfl).trans ((G2 4 12 rfl).trans ((G1 4 12 rfl).trans rfl)))))))))))).trans (xe_4_12 hG)) ?_
    refine xw_iconst (pc := 189) C0 dX2_copyFrom_189 ?_
    refine xw_bipush (pc := 190) C0 dX2_copyFrom_190 (by decide +kernel) ?_
    refine xw_acI (pc := 192) (μ := c13) (n := 24) C0 dX2_copyFrom_192 tv_627 tv_629 tv_628 tv_14 (by decide +kernel) (by decide +kernel) (Nat.le_of_ble_eq_true rfl) (xj_120 hKL) (xj_17 hKL) xk_41 xk_41 (by decide +kernel) (fun _ _ _ h9 => h9) ?_
    have G14 : xw_F [(17, 0, 23)] c13 (fun j i => if j = 17 ∧ i < 24 then c13 120 i else c13 j i) := fun j i h9 => if_neg (fun q => by obtain ⟨q1, q2⟩ := q; subst q1; exact xw_o_in h9 List.mem_cons_self ⟨Nat.zero_le _, by omega⟩)
    have P14 : ∀ i : Nat, i < 24 → (fun j i => if j = 17 ∧ i < 24 then c13 120 i else c13 j i) 17 i = c13 120 i := fun i hi => if_pos ⟨rfl, hi⟩
    generalize (fun j i => if j = 17 ∧ i < 24 then c13 120 i else c13 j i) = c14 at G14 P14 ⊢
    have hG_c14 := xw_GF hG_c13 G14 (by decide +kernel)
    refine xw_aload_n (pc := 195) C0 0 dX2_copyFrom_195 rfl rfl ?_
    refine xw_aload_n (pc := 196) C0 1 dX2_copyFrom_196 rfl rfl ?_
    refine xw_getI (pc := 197) (f := 13) (z := μ 107 13) C0 kcX2 dX2_copyFrom_197 (by decide +kernel) tv_96 (xj_107 hKL) xk_28 rfl ((G14 107 13 rfl).trans ((G13 107 13 rfl).trans ((G12 107 13 rfl).trans ((G11 107 13 rfl).trans ((G10 107 13 rfl).trans ((G8 107 13 rfl).trans ((G7 107 13 rfl).trans ((G6 107 13 rfl).trans ((G5 107 13 rfl).trans ((G4 107 13 rfl).trans ((G3 107 13 rfl).trans ((G2 107 13 rfl).trans ((G1 107 13 rfl).trans rfl))))))))))))) (fun g15 k15 => ?_)
    refine xw_putI (pc := 200) (f := 13) C0 kcX2 dX2_copyFrom_200 (by decide +kernel) tv_96 rfl rfl (xj_4 hKL) xk_28 rfl (by omega) (by omega) ?_
    refine xw_aload_n (pc := 203) C0 0 dX2_copyFrom_203 rfl rfl ?_
    refine xw_aload_n (pc := 204) C0 1 dX2_copyFrom_204 rfl rfl ?_
    refine xw_getI (pc := 205) (f := 14) (z := μ 107 14) C0 kcX2 dX2_copyFrom_205 (by decide +kernel) tv_101 (xj_107 hKL) xk_28 rfl ((xw_un (fun q => absurd q.1 (by decide +kernel))).trans ((G14 107 14 rfl).trans ((G13 107 14 rfl).trans ((G12 107 14 rfl).trans ((G11 107 14 rfl).trans ((G10 107 14 rfl).trans ((G8 107 14 rfl).trans ((G7 107 14 rfl).trans ((G6 107 14 rfl).trans ((G5 107 14 rfl).trans ((G4 107 14 rfl).trans ((G3 107 14 rfl).trans ((G2 107 14 rfl).trans ((G1 107 14 rfl).trans rfl)))))))))))))) (fun g16 k16 => ?_)
    refine xw_putI (pc := 208) (f := 14) C0 kcX2 dX2_copyFrom_208 (by decide +kernel) tv_101 rfl rfl (xj_4 hKL) xk_28 rfl (by omega) (by omega) ?_
    refine xw_aload_n (pc := 211) C0 0 dX2_copyFrom_211 rfl rfl ?_
    refine xw_aload_n (pc := 212) C0 1 dX2_copyFrom_212 rfl rfl ?_
    refine xw_getI (pc := 213) (f := 15) (z := μ 107 15) C0 kcX2 dX2_copyFrom_213 (by decide +kernel) tv_105 (xj_107 hKL) xk_28 rfl ((xw_un (fun q => absurd q.1 (by decide +kernel))).trans ((xw_un (fun q => absurd q.1 (by decide +kernel))).trans ((G14 107 15 rfl).trans ((G13 107 15 rfl).trans ((G12 107 15 rfl).trans ((G11 107 15 rfl).trans ((G10 107 15 rfl).trans ((G8 107 15 rfl).trans ((G7 107 15 rfl).trans ((G6 107 15 rfl).trans ((G5 107 15 rfl).trans ((G4 107 15 rfl).trans ((G3 107 15 rfl).trans ((G2 107 15 rfl).trans ((G1 107 15 rfl).trans rfl))))))))))))))) (fun g17 k17 => ?_)
    refine xw_putI (pc := 216) (f := 15) C0 kcX2 dX2_copyFrom_216 (by decide +kernel) tv_105 rfl rfl (xj_4 hKL) xk_28 rfl (by omega) (by omega) ?_
    refine xw_vret C0 hA hr hlk dX2_copyFrom_219 ?_
    have Ft1 : xw_F [(4, 13, 13), (4, 14, 14), (4, 15, 15)] c14 (xw_u (xw_u (xw_u c14 4 13 (μ 107 13)) 4 14 (μ 107 14)) 4 15 (μ 107 15)) := ((((xw_F.rf (ML := [(4, 13, 13), (4, 14, 14), (4, 15, 15)])).u (show (4, 13, 13) ∈ _ by decide) ⟨by decide, by decide⟩).u (show (4, 14, 14) ∈ _ by decide) ⟨by decide, by decide⟩).u (show (4, 15, 15) ∈ _ by decide) ⟨by decide, by decide⟩)
    have vt1_4_15 : (xw_u (xw_u (xw_u c14 4 13 (μ 107 13)) 4 14 (μ 107 14)) 4 15 (μ 107 15)) 4 15 = μ 107 15 := xw_ug
    have vt1_4_14 : (xw_u (xw_u (xw_u c14 4 13 (μ 107 13)) 4 14 (μ 107 14)) 4 15 (μ 107 15)) 4 14 = μ 107 14 := (xw_un (by decide +kernel)).trans xw_ug
    have vt1_4_13 : (xw_u (xw_u (xw_u c14 4 13 (μ 107 13)) 4 14 (μ 107 14)) 4 15 (μ 107 15)) 4 13 = μ 107 13 := (xw_un (by decide +kernel)).trans ((xw_un (by decide +kernel)).trans xw_ug)
    generalize (xw_u (xw_u (xw_u c14 4 13 (μ 107 13)) 4 14 (μ 107 14)) 4 15 (μ 107 15)) = t1 at Ft1 vt1_4_15 vt1_4_14 vt1_4_13 ⊢
    have e13 : t1 4 13 = μ 107 13 := vt1_4_13
    have e14 : t1 4 14 = μ 107 14 := vt1_4_14
    have e15 : t1 4 15 = μ 107 15 := vt1_4_15
    have a0 : ∀ i : Nat, i < 6 → t1 5 i = μ 108 i := fun i hi => (Ft1 5 i (xw_oj (by decide +kernel) i)).trans ((G14 5 i (xw_oj (by decide +kernel) i)).trans ((G13 5 i (xw_oj (by decide +kernel) i)).trans ((G12 5 i (xw_oj (by decide +kernel) i)).trans ((G11 5 i (xw_oj (by decide +kernel) i)).trans ((G10 5 i (xw_oj (by decide +kernel) i)).trans ((G8 5 i (xw_oj (by decide +kernel) i)).trans ((G7 5 i (xw_oj (by decide +kernel) i)).trans ((G6 5 i (xw_oj (by decide +kernel) i)).trans ((G5 5 i (xw_oj (by decide +kernel) i)).trans ((G4 5 i (xw_oj (by decide +kernel) i)).trans ((G3 5 i (xw_oj (by decide +kernel) i)).trans ((G2 5 i (xw_oj (by decide +kernel) i)).trans (P1 i hi)))))))))))))
    have a1 : ∀ i : Nat, i < 6 → t1 6 i = μ 109 i := fun i hi => (Ft1 6 i (xw_oj (by decide +kernel) i)).trans ((G14 6 i (xw_oj (by decide +kernel) i)).trans ((G13 6 i (xw_oj (by decide +kernel) i)).trans ((G12 6 i (xw_oj (by decide +kernel) i)).trans ((G11 6 i (xw_oj (by decide +kernel) i)).trans ((G10 6 i (xw_oj (by decide +kernel) i)).trans ((G8 6 i (xw_oj (by decide +kernel) i)).trans ((G7 6 i (xw_oj (by decide +kernel) i)).trans ((G6 6 i (xw_oj (by decide +kernel) i)).trans ((G5 6 i (xw_oj (by decide +kernel) i)).trans ((G4 6 i (xw_oj (by decide +kernel) i)).trans ((G3 6 i (xw_oj (by decide +kernel) i)).trans ((P2 i hi).trans (G1 109 i (xw_oj (by decide +kernel) i))))))))))))))
    have a2 : ∀ i : Nat, i < 6 → t1 7 i = μ 110 i := fun i hi => (Ft1 7 i (xw_oj (by decide +kernel) i)).trans ((G14 7 i (xw_oj (by decide +kernel) i)).trans ((G13 7 i (xw_oj (by decide +kernel) i)).trans ((G12 7 i (xw_oj (by decide +kernel) i)).trans ((G11 7 i (xw_oj (by decide +kernel) i)).trans ((G10 7 i (xw_oj (by decide +kernel) i)).trans ((G8 7 i (xw_oj (by decide +kernel) i)).trans ((G7 7 i (xw_oj (by decide +kernel) i)).trans ((G6 7 i (xw_oj (by decide +kernel) i)).trans ((G5 7 i (xw_oj (by decide +kernel) i)).trans ((G4 7 i (xw_oj (by decide +kernel) i)).trans ((P3 i hi).trans ((G2 110 i (xw_oj (by decide +kernel) i)).trans (G1 110 i (xw_oj (by decide +kernel) i))))))))))))))
    have a3 : ∀ i : Nat, i < 6 → t1 8 i = μ 111 i := fun i hi => (Ft1 8 i (xw_oj (by decide +kernel) i)).trans ((G14 8 i (xw_oj (by decide +kernel) i)).trans ((G13 8 i (xw_oj (by decide +kernel) i)).trans ((G12 8 i (xw_oj (by decide +kernel) i)).trans ((G11 8 i (xw_oj (by decide +kernel) i)).trans ((G10 8 i (xw_oj (by decide +kernel) i)).trans ((G8 8 i (xw_oj (by decide +kernel) i)).trans ((G7 8 i (xw_oj (by decide +kernel) i)).trans ((G6 8 i (xw_oj (by decide +kernel) i)).trans ((G5 8 i (xw_oj (by decide +kernel) i)).trans ((P4 i hi).trans ((G3 111 i (xw_oj (by decide +kernel) i)).trans ((G2 111 i (xw_oj (by decide +kernel) i)).trans (G1 111 i (xw_oj (by decide +kernel) i))))))))))))))
    have a4 : ∀ i : Nat, i < 6 → t1 9 i = μ 112 i := fun i hi => (Ft1 9 i (xw_oj (by decide +kernel) i)).trans ((G14 9 i (xw_oj (by decide +kernel) i)).trans ((G13 9 i (xw_oj (by decide +kernel) i)).trans ((G12 9 i (xw_oj (by decide +kernel) i)).trans ((G11 9 i (xw_oj (by decide +kernel) i)).trans ((G10 9 i (xw_oj (by decide +kernel) i)).trans ((G8 9 i (xw_oj (by decide +kernel) i)).trans ((G7 9 i (xw_oj (by decide +kernel) i)).trans ((G6 9 i (xw_oj (by decide +kernel) i)).trans ((P5 i hi).trans ((G4 112 i (xw_oj (by decide +kernel) i)).trans ((G3 112 i (xw_oj (by decide +kernel) i)).trans ((G2 112 i (xw_oj (by decide +kernel) i)).trans (G1 112 i (xw_oj (by decide +kernel) i))))))))))))))
    have a5 : ∀ i : Nat, i < 6 → t1 10 i = μ 113 i := fun i hi => (Ft1 10 i (xw_oj (by decide +kernel) i)).trans ((G14 10 i (xw_oj (by decide +kernel) i)).trans ((G13 10 i (xw_oj (by decide +kernel) i)).trans ((G12 10 i (xw_oj (by decide +kernel) i)).trans ((G11 10 i (xw_oj (by decide +kernel) i)).trans ((G10 10 i (xw_oj (by decide +kernel) i)).trans ((G8 10 i (xw_oj (by decide +kernel) i)).trans ((G7 10 i (xw_oj (by decide +kernel) i)).trans ((P6 i hi).trans ((G5 113 i (xw_oj (by decide +kernel) i)).trans ((G4 113 i (xw_oj (by decide +kernel) i)).trans ((G3 113 i (xw_oj (by decide +kernel) i)).trans ((G2 113 i (xw_oj (by decide +kernel) i)).trans (G1 113 i (xw_oj (by decide +kernel) i))))))))))))))
    have a6 : ∀ i : Nat, i < 6 → t1 11 i = μ 114 i := fun i hi => (Ft1 11 i (xw_oj (by decide +kernel) i)).trans ((G14 11 i (xw_oj (by decide +kernel) i)).trans ((G13 11 i (xw_oj (by decide +kernel) i)).trans ((G12 11 i (xw_oj (by decide +kernel) i)).trans ((G11 11 i (xw_oj (by decide +kernel) i)).trans ((G10 11 i (xw_oj (by decide +kernel) i)).trans ((G8 11 i (xw_oj (by decide +kernel) i)).trans ((P7 i hi).trans ((G6 114 i (xw_oj (by decide +kernel) i)).trans ((G5 114 i (xw_oj (by decide +kernel) i)).trans ((G4 114 i (xw_oj (by decide +kernel) i)).trans ((G3 114 i (xw_oj (by decide +kernel) i)).trans ((G2 114 i (xw_oj (by decide +kernel) i)).trans (G1 114 i (xw_oj (by decide +kernel) i))))))))))))))
    have a7 : ∀ i : Nat, i < 8 → t1 12 i = μ 115 i := fun i hi => (Ft1 12 i (xw_oj (by decide +kernel) i)).trans ((G14 12 i (xw_oj (by decide +kernel) i)).trans ((G13 12 i (xw_oj (by decide +kernel) i)).trans ((G12 12 i (xw_oj (by decide +kernel) i)).trans ((G11 12 i (xw_oj (by decide +kernel) i)).trans ((G10 12 i (xw_oj (by decide +kernel) i)).trans ((P8 i hi).trans ((G7 115 i (xw_oj (by decide +kernel) i)).trans ((G6 115 i (xw_oj (by decide +kernel) i)).trans ((G5 115 i (xw_oj (by decide +kernel) i)).trans ((G4 115 i (xw_oj (by decide +kernel) i)).trans ((G3 115 i (xw_oj (by decide +kernel) i)).trans ((G2 115 i (xw_oj (by decide +kernel) i)).trans (G1 115 i (xw_oj (by decide +kernel) i))))))))))))))
    have a8 : ∀ i : Nat, i < 8 → t1 13 i = μ 116 i := fun i hi => (Ft1 13 i (xw_oj (by decide +kernel) i)).trans ((G14 13 i (xw_oj (by decide +kernel) i)).trans ((G13 13 i (xw_oj (by decide +kernel) i)).trans ((G12 13 i (xw_oj (by decide +kernel) i)).trans ((G11 13 i (xw_oj (by decide +kernel) i)).trans ((P10 i hi).trans ((G8 116 i (xw_oj (by decide +kernel) i)).trans ((G7 116 i (xw_oj (by decide +kernel) i)).trans ((G6 116 i (xw_oj (by decide +kernel) i)).trans ((G5 116 i (xw_oj (by decide +kernel) i)).trans ((G4 116 i (xw_oj (by decide +kernel) i)).trans ((G3 116 i (xw_oj (by decide +kernel) i)).trans ((G2 116 i (xw_oj (by decide +kernel) i)).trans (G1 116 i (xw_oj (by decide +kernel) i))))))))))))))
    have a9 : ∀ i : Nat, i < 8 → t1 14 i = μ 117 i := fun i hi => (Ft1 14 i (xw_oj (by decide +kernel) i)).trans ((G14 14 i (xw_oj (by decide +kernel) i)).trans ((G13 14 i (xw_oj (by decide +kernel) i)).trans ((G12 14 i (xw_oj (by decide +kernel) i)).trans ((P11 i hi).trans ((G10 117 i (xw_oj (by decide +kernel) i)).trans ((G8 117 i (xw_oj (by decide +kernel) i)).trans ((G7 117 i (xw_oj (by decide +kernel) i)).trans ((G6 117 i (xw_oj (by decide +kernel) i)).trans ((G5 117 i (xw_oj (by decide +kernel) i)).trans ((G4 117 i (xw_oj (by decide +kernel) i)).trans ((G3 117 i (xw_oj (by decide +kernel) i)).trans ((G2 117 i (xw_oj (by decide +kernel) i)).trans (G1 117 i (xw_oj (by decide +kernel) i))))))))))))))
    have a10 : ∀ i : Nat, i < 8 → t1 15 i = μ 118 i := fun i hi => (Ft1 15 i (xw_oj (by decide +kernel) i)).trans ((G14 15 i (xw_oj (by decide +kernel) i)).trans ((G13 15 i (xw_oj (by decide +kernel) i)).trans ((P12 i hi).trans ((G11 118 i (xw_oj (by decide +kernel) i)).trans ((G10 118 i (xw_oj (by decide +kernel) i)).trans ((G8 118 i (xw_oj (by decide +kernel) i)).trans ((G7 118 i (xw_oj (by decide +kernel) i)).trans ((G6 118 i (xw_oj (by decide +kernel) i)).trans ((G5 118 i (xw_oj (by decide +kernel) i)).trans ((G4 118 i (xw_oj (by decide +kernel) i)).trans ((G3 118 i (xw_oj (by decide +kernel) i)).trans ((G2 118 i (xw_oj (by decide +kernel) i)).trans (G1 118 i (xw_oj (by decide +kernel) i))))))))))))))
    have a11 : ∀ i : Nat, i < 8 → t1 16 i = μ 119 i := fun i hi => (Ft1 16 i (xw_oj (by decide +kernel) i)).trans ((G14 16 i (xw_oj (by decide +kernel) i)).trans ((P13 i hi).trans ((G12 119 i (xw_oj (by decide +kernel) i)).trans ((G11 119 i (xw_oj (by decide +kernel) i)).trans ((G10 119 i (xw_oj (by decide +kernel) i)).trans ((G8 119 i (xw_oj (by decide +kernel) i)).trans ((G7 119 i (xw_oj (by decide +kernel) i)).trans ((G6 119 i (xw_oj (by decide +kernel) i)).trans ((G5 119 i (xw_oj (by decide +kernel) i)).trans ((G4 119 i (xw_oj (by decide +kernel) i)).trans ((G3 119 i (xw_oj (by decide +kernel) i)).trans ((G2 119 i (xw_oj (by decide +kernel) i)).trans (G1 119 i (xw_oj (by decide +kernel) i))))))))))))))
    have a12 : ∀ i : Nat, i < 24 → t1 17 i = μ 120 i := fun i hi => (Ft1 17 i (xw_oj (by decide +kernel) i)).trans ((P14 i hi).trans ((G13 120 i (xw_oj (by decide +kernel) i)).trans ((G12 120 i (xw_oj (by decide +kernel) i)).trans ((G11 120 i (xw_oj (by decide +kernel) i)).trans ((G10 120 i (xw_oj (by decide +kernel) i)).trans ((G8 120 i (xw_oj (by decide +kernel) i)).trans ((G7 120 i (xw_oj (by decide +kernel) i)).trans ((G6 120 i (xw_oj (by decide +kernel) i)).trans ((G5 120 i (xw_oj (by decide +kernel) i)).trans ((G4 120 i (xw_oj (by decide +kernel) i)).trans ((G3 120 i (xw_oj (by decide +kernel) i)).trans ((G2 120 i (xw_oj (by decide +kernel) i)).trans (G1 120 i (xw_oj (by decide +kernel) i))))))))))))))
    exact ⟨rfl, ⟨⟨e13, e14, e15⟩, fun i hi => ⟨a0 i hi, a1 i hi, a2 i hi, a3 i hi, a4 i hi, a5 i hi, a6 i hi⟩, fun i hi => ⟨a7 i hi, a8 i hi, a9 i hi, a10 i hi, a11 i hi⟩, a12⟩, (((((((((((((((xw_F.rf (ML := [(4, 13, 15), (5, 0, 5), (6, 0, 5), (7, 0, 5), (8, 0, 5), (9, 0, 5), (10, 0, 5), (11, 0, 5), (12, 0, 7), (13, 0, 7), (14, 0, 7), (15, 0, 7), (16, 0, 7), (17, 0, 23)])).tr G1 (fun j i h => xw_o_sub (by decide +kernel) j i h)).tr G2 (fun j i h => xw_o_sub (by decide +kernel) j i h)).tr G3 (fun j i h => xw_o_sub (by decide +kernel) j i h)).tr G4 (fun j i h => xw_o_sub (by decide +kernel) j i h)).tr G5 (fun j i h => xw_o_sub (by decide +kernel) j i h)).tr G6 (fun j i h => xw_o_sub (by decide +kernel) j i h)).tr G7 (fun j i h => xw_o_sub (by decide +kernel) j i h)).tr G8 (fun j i h => xw_o_sub (by decide +kernel) j i h)).tr G10 (fun j i h => xw_o_sub (by decide +kernel) j i h)).tr G11 (fun j i h => xw_o_sub (by decide +kernel) j i h)).tr G12 (fun j i h => xw_o_sub (by decide +kernel) j i h)).tr G13 (fun j i h => xw_o_sub (by decide +kernel) j i h)).tr G14 (fun j i h => xw_o_sub (by decide +kernel) j i h)).tr Ft1 (fun j i h => xw_o_sub (by decide +kernel) j i h))⟩)
set_option maxRecDepth 20000 in
set_option maxHeartbeats 20000000 in
theorem xh_imgN {l : Launch} {μ : xw_M} (hG : xw_G xw_GL μ) {v : Int} (hv : v < 0 ∨ 2 ≤ v) (hr9 : -2147483648 ≤ v ∧ v ≤ 2147483647) : xw_MetI l vwCl sa_Ts tb_KT0 tc_KL yX11_image cX11_image 2 (some .boolean) 4 162 (fun ad => [.ref (ad 0), .int (Int32.ofInt v)]) μ (fun r μ' => r = 0 ∧ μ = μ') :=
  xw_of (by decide +kernel) (fun _ => Nat.le_of_ble_eq_true rfl) (fun p e s m args below meth c D dA A al w0 sz C0 hU hO hKL hr hlk hA => by
    refine xw_iload_n (pc := 0) C0 1 dX11_image_0 rfl rfl ?_
    refine xw_if_lt (pc := 1) (tgt := 9) C0 (by omega) dX11_image_1 rfl (fun b1 => ?_) (fun b1 => ?_)
    · refine xw_iconst (pc := 9) C0 dX11_image_9 ?_
      refine xw_iret C0 hA hr hlk rfl dX11_image_10 ?_
      exact ⟨_, rfl, rfl, rfl⟩
    · refine xw_iload_n (pc := 4) C0 1 dX11_image_4 rfl rfl ?_
      refine xw_iconst (pc := 5) C0 dX11_image_5 ?_
      refine xw_icmp_lt (pc := 6) (tgt := 11) C0 (by omega) (by omega) dX11_image_6 rfl (fun b2 => ?_) (fun b2 => ?_)
      · exfalso
        omega
      · refine xw_iconst (pc := 9) C0 dX11_image_9 ?_
        refine xw_iret C0 hA hr hlk rfl dX11_image_10 ?_
        exact ⟨_, rfl, rfl, rfl⟩)
set_option maxRecDepth 20000 in
set_option maxHeartbeats 20000000 in
theorem xh_rstN {l : Launch} {μ : xw_M} (hG : xw_G xw_GL μ) {v : Int} (hv : v < 0 ∨ 2 ≤ v) (hr9 : -2147483648 ≤ v ∧ v ≤ 2147483647) : xw_MetI l vwCl sa_Ts tb_KT0 tc_KL yX11_restore cX11_restore 2 (some .boolean) 4 162 (fun ad => [.ref (ad 0), .int (Int32.ofInt v)]) μ (fun r μ' => r = 0 ∧ μ = μ') :=
  xw_of (by decide +kernel) (fun _ => Nat.le_of_ble_eq_true rfl) (fun p e s m args below meth c D dA A al w0 sz C0 hU hO hKL hr hlk hA => by
    refine xw_iload_n (pc := 0) C0 1 dX11_restore_0 rfl rfl ?_
    refine xw_if_lt (pc := 1) (tgt := 21) C0 (by omega) dX11_restore_1 rfl (fun b1 => ?_) (fun b1 => ?_)
    · refine xw_iconst (pc := 21) C0 dX11_restore_21 ?_
      refine xw_iret C0 hA hr hlk rfl dX11_restore_22 ?_
      exact ⟨_, rfl, rfl, rfl⟩
    · refine xw_iload_n (pc := 4) C0 1 dX11_restore_4 rfl rfl ?_
      refine xw_iconst (pc := 5) C0 dX11_restore_5 ?_
      refine xw_icmp_ge (pc := 6) (tgt := 21) C0 (by omega) (by omega) dX11_restore_6 rfl (fun b2 => ?_) (fun b2 => ?_)
      · refine xw_iconst (pc := 21) C0 dX11_restore_21 ?_
        refine xw_iret C0 hA hr hlk rfl dX11_restore_22 ?_
        exact ⟨_, rfl, rfl, rfl⟩
      · exfalso
        omega)
set_option maxRecDepth 20000 in
set_option maxHeartbeats 20000000 in
theorem xh_img0 {l : Launch} {μ : xw_M} (hG : xw_G xw_GL μ) : xw_MetI l vwCl sa_Ts tb_KT0 tc_KL yX11_image cX11_image 2 (some .boolean) 4 162 (fun ad => [.ref (ad 0), .int (Int32.ofInt 0)]) μ (fun r μ' => r = 1 ∧ hx_C 147 4 μ μ' ∧ ((∀ i : Nat, i < 40 → μ' 169 i = μ 26 i) ∧ (∀ i : Nat, i < 40 → μ' 171 i = μ 28 i)) ∧ μ' 146 3 = 1 ∧ xw_F [(147, 13, 15), (148, 0, 5), (149, 0, 5), (150, 0, 5), (151, 0, 5), (152, 0, 5), (153, 0, 5), (154, 0, 5), (155, 0, 7), (156, 0, 7), (157, 0, 7), (158, 0, 7), (159, 0, 7), (160, 0, 23), (161, 6, 11), (162, 0, 5), (163, 0, 5), (164, 0, 5), (165, 0, 7), (166, 0, 7), (167, 0, 7), (168, 4, 5), (169, 0, 39), (170, 0, 39), (171, 0, 39), (146, 3, 3)] μ μ') :=
  xw_of (by decide +kernel) (fun _ => Nat.le_of_ble_eq_true rfl) (fun p e s m args below meth c D dA A al w0 sz C0 hU hO hKL hr hlk hA => by
    refine xw_iload_n (pc := 0) C0 1 dX11_image_0 rfl rfl ?_
    refine xw_if_lt (pc := 1) (tgt := 9) C0 (by omega) dX11_image_1 rfl (fun b1 => ?_) (fun b1 => ?_)
    · exfalso
      omega
    · refine xw_iload_n (pc := 4) C0 1 dX11_image_4 rfl rfl ?_
      refine xw_iconst (pc := 5) C0 dX11_image_5 ?_
      refine xw_icmp_lt (pc := 6) (tgt := 11) C0 (by omega) (by omega) dX11_image_6 rfl (fun b2 => ?_) (fun b2 => ?_)
      · refine xw_aload_n (pc := 11) C0 0 dX11_image_11 rfl rfl ?_
        refine xw_getR (pc := 12) (f := 2) C0 30 kcX11 dX11_image_12 (by decide +kernel) tv_424 (xj_0 hKL) xk_27 rfl ((rfl).trans (xe_0_2 hG)) ?_
        refine xw_iload_n (pc := 15) C0 1 dX11_image_15 rfl rfl ?_
        refine xw_aald (pc := 16) (i := 0) C0 146 dX11_image_16 (xj_30 hKL) xk_54 (by decide +kernel) (by decide +kernel) rfl ((rfl).trans (xe_30_0 hG)) ?_
        refine xw_aload_n (pc := 17) C0 0 dX11_image_17 rfl rfl ?_
        refine xw_getR (pc := 18) (f := 1) C0 3 kcX11 dX11_image_18 (by decide +kernel) tv_423 (xj_0 hKL) xk_27 rfl ((rfl).trans (xe_0_1 hG)) ?_
        refine xw_callVV (pc := 21) (μ := μ) (ci := 10) (rest := []) (As := [.ref (xw_ad al 3)]) C0 hU hO sa_Tg hKL (xq_cpW_1_0 (l := l) hG) tv_1103 dX11_image_21 tv_1100 tv_1101 tv_1102 tv_3 rfl yb_X10_copyFrom (by decide +kernel) rfl rfl rfl (by decide +kernel) (Nat.le_of_ble_eq_true rfl) (xj_146 hKL) xk_25 (fun m3 F3 => ?_)
        obtain ⟨c9, d9, F3⟩ := F3
        have hG_m3 := xw_GF hG F3 (by decide +kernel)
        refine xw_aload_n (pc := 24) C0 0 dX11_image_24 rfl rfl ?_
        refine xw_getR (pc := 25) (f := 2) C0 30 kcX11 dX11_image_25 (by decide +kernel) tv_424 (xj_0 hKL) xk_27 rfl (((F3 0 2 rfl).trans rfl).trans (xe_0_2 hG)) ?_
        refine xw_iload_n (pc := 28) C0 1 dX11_image_28 rfl rfl ?_
        refine xw_aald (pc := 29) (i := 0) C0 146 dX11_image_29 (xj_30 hKL) xk_54 (by decide +kernel) (by decide +kernel) rfl (((F3 30 0 rfl).trans rfl).trans (xe_30_0 hG)) ?_
        refine xw_iconst (pc := 30) C0 dX11_image_30 ?_
        refine xw_putZ (pc := 31) (f := 3) C0 kcX10 dX11_image_31 (by decide +kernel) tv_239 rfl rfl (xj_146 hKL) xk_25 rfl (by omega) (by omega) ?_
        refine xw_iconst (pc := 34) C0 dX11_image_34 ?_
        refine xw_iret C0 hA hr hlk rfl dX11_image_35 ?_
        have Ft1 : xw_F [(146, 3, 3)] m3 (xw_u m3 146 3 1) := ((xw_F.rf (ML := [(146, 3, 3)])).u (show (146, 3, 3) ∈ _ by decide) ⟨by decide, by decide⟩)
        have vt1_146_3 : (xw_u m3 146 3 1) 146 3 = 1 := xw_ug
        generalize (xw_u m3 146 3 1) = t1 at Ft1 vt1_146_3 ⊢
        exact ⟨_, rfl, rfl, hx_CF c9 (xw_Frg (a := 147) (b := 160) Ft1 (by decide +kernel)), ⟨fun i hi => (Ft1 169 i (xw_oj (by decide +kernel) i)).trans (d9.1 i hi), fun i hi => (Ft1 171 i (xw_oj (by decide +kernel) i)).trans (d9.2 i hi)⟩, vt1_146_3, (((xw_F.rf (ML := [(147, 13, 15), (148, 0, 5), (149, 0, 5), (150, 0, 5), (151, 0, 5), (152, 0, 5), (153, 0, 5), (154, 0, 5), (155, 0, 7), (156, 0, 7), (157, 0, 7), (158, 0, 7), (159, 0, 7), (160, 0, 23), (161, 6, 11), (162, 0, 5), (163, 0, 5), (164, 0, 5), (165, 0, 7), (166, 0, 7), (167, 0, 7), (168, 4, 5), (169, 0, 39), (170, 0, 39), (171, 0, 39), (146, 3, 3)])).tr F3 (fun j i h => xw_o_sub (by decide +kernel) j i h)).tr Ft1 (fun j i h => xw_o_sub (by decide +kernel) j i h))⟩
      · exfalso
        omega)
