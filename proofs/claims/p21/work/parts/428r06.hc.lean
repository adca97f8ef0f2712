set_option maxRecDepth 20000 in
set_option maxHeartbeats 20000000 in
theorem xh_addFault {l : Launch} {rd nm : Nat → Int} {v h a b c9 : Int} {T pz : Nat} {μ : xw_M} (hG : xw_G xw_GL μ) (hH : hc_H rd nm μ) (hK : hp_ok rd nm) (hh0 : h < rd 0) (hT : rd 1 = (T : Int)) (hT8 : T < 8) (hv : 0 ≤ v ∧ v < 10460353203) (hh : 0 ≤ h ∧ h ≤ 5) (ha : 0 ≤ a ∧ a ≤ 200) (hb : 1 ≤ b ∧ b ≤ 99) (hc : 1 ≤ c9 ∧ c9 ≤ 15) : xw_MetV l vwCl sa_Ts tb_KT0 tc_KL yX2_addFault cX2_addFault 8 none 2 120 (fun ad => [.ref (ad 107), .long (Int64.ofInt (hp_cv v)), .int (Int32.ofInt h), .int (Int32.ofInt a), .int (Int32.ofInt b), .int (Int32.ofInt c9)]) μ (fun μ' => hc_H (hp_F rd nm v h a b c9 pz).2.1 (hp_F rd nm v h a b c9 pz).2.2 μ' ∧ xw_F [(107, 14, 14), (114, 0, 5), (115, 0, 7), (116, 0, 7), (117, 0, 7), (118, 0, 7), (119, 0, 7)] μ μ') :=
  xw_of (by decide) (fun _ => Nat.le_of_ble_eq_true rfl) (fun p e s m args below meth c D dA A al w0 sz C0 hU hO hKL hr hlk hA => by
    have hvr := hp_cvr hv
    have e14 : μ 107 14 = (T : Int) := hH.1.2.1.trans hT
    refine xw_aload_n (pc := 0) C0 0 dX2_addFault_0 rfl rfl ?_
    refine xw_getI (pc := 1) (f := 14) (z := μ 107 14) C0 kcX2 dX2_addFault_1 (by decide) tv_101 (xj_107 hKL) xk_28 rfl (rfl) (fun g1 k1 => ?_)
    refine xw_nI (congrArg Int32.ofInt (hH.1.2.1.trans hT)) ?_
    refine xw_istore (pc := 4) (L' := [(7, .int (Int32.ofInt (T : Int))), (0, .ref (xw_ad al 107)), (1, .long (Int64.ofInt (hp_cv v))), (3, .int (Int32.ofInt h)), (4, .int (Int32.ofInt a)), (5, .int (Int32.ofInt b)), (6, .int (Int32.ofInt c9))]) C0 dX2_addFault_4 (by decide) rfl ?_
    refine xw_aload_n (pc := 6) C0 1 dX2_addFault_6 rfl rfl ?_
    refine xw_getR (pc := 7) (f := 7) C0 115 kcX2 dX2_addFault_7 (by decide) tv_81 (xj_107 hKL) xk_28 rfl ((rfl).trans (xe_107_7 hG)) ?_
    refine xw_iload (pc := 10) C0 0 dX2_addFault_10 rfl ?_
    refine xw_lload_n (pc := 12) C0 2 dX2_addFault_12 rfl rfl ?_
    refine xw_last (pc := 13) C0 dX2_addFault_13 (xj_115 hKL) xk_36 (by omega) (by decide) (xw_rl (by omega)) (by omega) (by omega) ?_
    refine xw_aload_n (pc := 14) C0 1 dX2_addFault_14 rfl rfl ?_
    refine xw_getR (pc := 15) (f := 8) C0 116 kcX2 dX2_addFault_15 (by decide) tv_83 (xj_107 hKL) xk_28 rfl (((xw_un (fun q => absurd q.1 (by decide))).trans rfl).trans (xe_107_8 hG)) ?_
    refine xw_iload (pc := 18) C0 0 dX2_addFault_18 rfl ?_
    refine xw_iload_n (pc := 20) C0 3 dX2_addFault_20 rfl rfl ?_
    refine xw_iast (pc := 21) C0 dX2_addFault_21 (xj_116 hKL) xk_37 (by omega) (by decide) (xw_rl (by omega)) (by omega) (by omega) ?_
    refine xw_aload_n (pc := 22) C0 1 dX2_addFault_22 rfl rfl ?_
    refine xw_getR (pc := 23) (f := 9) C0 117 kcX2 dX2_addFault_23 (by decide) tv_86 (xj_107 hKL) xk_28 rfl (((xw_un (fun q => absurd q.1 (by decide))).trans ((xw_un (fun q => absurd q.1 (by decide))).trans rfl)).trans (xe_107_9 hG)) ?_
    refine xw_iload (pc := 26) C0 0 dX2_addFault_26 rfl ?_
    refine xw_iload (pc := 28) C0 4 dX2_addFault_28 rfl ?_
    refine xw_iast (pc := 30) C0 dX2_addFault_30 (xj_117 hKL) xk_38 (by omega) (by decide) (xw_rl (by omega)) (by omega) (by omega) ?_
    refine xw_aload_n (pc := 31) C0 1 dX2_addFault_31 rfl rfl ?_
    refine xw_getR (pc := 32) (f := 10) C0 118 kcX2 dX2_addFault_32 (by decide) tv_89 (xj_107 hKL) xk_28 rfl (((xw_un (fun q => absurd q.1 (by decide))).trans ((xw_un (fun q => absurd q.1 (by decide))).trans ((xw_un (fun q => absurd q.1 (by decide))).trans rfl))).trans (xe_107_10 hG)) ?_
    refine xw_iload (pc := 35) C0 0 dX2_addFault_35 rfl ?_
    refine xw_iload (pc := 37) C0 5 dX2_addFault_37 rfl ?_
    refine xw_iast (pc := 39) C0 dX2_addFault_39 (xj_118 hKL) xk_39 (by omega) (by decide) (xw_rl (by omega)) (by omega) (by omega) ?_
    refine xw_aload_n (pc := 40) C0 1 dX2_addFault_40 rfl rfl ?_
    refine xw_getR (pc := 41) (f := 11) C0 119 kcX2 dX2_addFault_41 (by decide) tv_92 (xj_107 hKL) xk_28 rfl (((xw_un (fun q => absurd q.1 (by decide))).trans ((xw_un (fun q => absurd q.1 (by decide))).trans ((xw_un (fun q => absurd q.1 (by decide))).trans ((xw_un (fun q => absurd q.1 (by decide))).trans rfl)))).trans (xe_107_11 hG)) ?_
    refine xw_iload (pc := 44) C0 0 dX2_addFault_44 rfl ?_
    refine xw_iload (pc := 46) C0 6 dX2_addFault_46 rfl ?_
    refine xw_iast (pc := 48) C0 dX2_addFault_48 (xj_119 hKL) xk_40 (by omega) (by decide) (xw_rl (by omega)) (by omega) (by omega) ?_
    refine xw_aload_n (pc := 49) C0 1 dX2_addFault_49 rfl rfl ?_
    refine xw_getR (pc := 50) (f := 6) C0 114 kcX2 dX2_addFault_50 (by decide) tv_78 (xj_107 hKL) xk_28 rfl (((xw_un (fun q => absurd q.1 (by decide))).trans ((xw_un (fun q => absurd q.1 (by decide))).trans ((xw_un (fun q => absurd q.1 (by decide))).trans ((xw_un (fun q => absurd q.1 (by decide))).trans ((xw_un (fun q => absurd q.1 (by decide))).trans rfl))))).trans (xe_107_6 hG)) ?_
    refine xw_iload_n (pc := 53) C0 3 dX2_addFault_53 rfl rfl ?_
    refine xw_dup2 (pc := 54) C0 dX2_addFault_54 rfl rfl ?_
    refine xw_iald (pc := 55) (z := μ 114 (h).toNat) C0 dX2_addFault_55 (xj_114 hKL) xk_35 (by omega) (by decide) (xw_rl (by omega)) ((xw_un (fun q => absurd q.1 (by decide))).trans ((xw_un (fun q => absurd q.1 (by decide))).trans ((xw_un (fun q => absurd q.1 (by decide))).trans ((xw_un (fun q => absurd q.1 (by decide))).trans ((xw_un (fun q => absurd q.1 (by decide))).trans rfl))))) (fun g2 k2 => ?_)
    refine xw_iconst (pc := 56) C0 dX2_addFault_56 ?_
    refine xw_iload (pc := 57) C0 0 dX2_addFault_57 rfl ?_
    refine xw_ishl (pc := 59) C0 dX2_addFault_59 (xb_shN (f := T) (by omega)) ?_
    have k08 := hK.1
    have hB9 := (hH.2.2.2.2 h.toNat (by omega) (by omega)).2
    have hB8 := hx_foB (rd := rd) (k := h.toNat) (rd 1).toNat
    have hB7 : (rd 1).toNat = T := by omega
    rw [hB7] at hB8 hB9
    have hA7 := hx_p2 T 7 (by omega)
    have hA6 : (2 : Int) ^ 7 = 128 := by decide
    have hA5 : 0 ≤ μ 114 (h).toNat ∧ μ 114 (h).toNat < 2 ^ T := by rw [hB9]; exact hB8
    refine xw_ior (pc := 60) C0 dX2_addFault_60 (xb_orN (f := T) (by omega) hA5) ?_
    refine xw_iast (pc := 61) C0 dX2_addFault_61 (xj_114 hKL) xk_35 (by omega) (by decide) (xw_rl (by omega)) (by omega) (by omega) ?_
    refine xw_aload_n (pc := 62) C0 1 dX2_addFault_62 rfl rfl ?_
    refine xw_dup (pc := 63) C0 dX2_addFault_63 rfl ?_
    refine xw_getI (pc := 64) (f := 14) (z := μ 107 14) C0 kcX2 dX2_addFault_64 (by decide) tv_101 (xj_107 hKL) xk_28 rfl ((xw_un (fun q => absurd q.1 (by decide))).trans ((xw_un (fun q => absurd q.1 (by decide))).trans ((xw_un (fun q => absurd q.1 (by decide))).trans ((xw_un (fun q => absurd q.1 (by decide))).trans ((xw_un (fun q => absurd q.1 (by decide))).trans ((xw_un (fun q => absurd q.1 (by decide))).trans rfl)))))) (fun g3 k3 => ?_)
    refine xw_iconst (pc := 67) C0 dX2_addFault_67 ?_
    refine xw_iadd (pc := 68) C0 dX2_addFault_68 ?_
    refine xw_putI (pc := 69) (f := 14) C0 kcX2 dX2_addFault_69 (by decide) tv_101 rfl rfl (xj_107 hKL) xk_28 rfl (by omega) (by omega) ?_
    refine xw_vret C0 hA hr hlk dX2_addFault_72 ?_
    have A114 : ∀ i : Nat, (xw_u (xw_u (xw_u (xw_u (xw_u (xw_u (xw_u μ 115 ((T : Int)).toNat (hp_cv v)) 116 ((T : Int)).toNat h) 117 ((T : Int)).toNat a) 118 ((T : Int)).toNat b) 119 ((T : Int)).toNat c9) 114 (h).toNat (μ 114 (h).toNat + 2 ^ T)) 107 14 ((μ 107 14) + 1)) 114 i = if i = h.toNat then μ 114 (h).toNat + 2 ^ T else μ 114 i := fun i => (xw_un (fun q => absurd q.1 (by decide))).trans (xw_ui (fun i => (xw_un (fun q => absurd q.1 (by decide))).trans ((xw_un (fun q => absurd q.1 (by decide))).trans ((xw_un (fun q => absurd q.1 (by decide))).trans ((xw_un (fun q => absurd q.1 (by decide))).trans ((xw_un (fun q => absurd q.1 (by decide))).trans rfl))))))
    have A115 : ∀ i : Nat, (xw_u (xw_u (xw_u (xw_u (xw_u (xw_u (xw_u μ 115 ((T : Int)).toNat (hp_cv v)) 116 ((T : Int)).toNat h) 117 ((T : Int)).toNat a) 118 ((T : Int)).toNat b) 119 ((T : Int)).toNat c9) 114 (h).toNat (μ 114 (h).toNat + 2 ^ T)) 107 14 ((μ 107 14) + 1)) 115 i = if i = T then hp_cv v else μ 115 i := fun i => (xw_un (fun q => absurd q.1 (by decide))).trans ((xw_un (fun q => absurd q.1 (by decide))).trans ((xw_un (fun q => absurd q.1 (by decide))).trans ((xw_un (fun q => absurd q.1 (by decide))).trans ((xw_un (fun q => absurd q.1 (by decide))).trans ((xw_un (fun q => absurd q.1 (by decide))).trans (xw_ui (fun i => rfl)))))))
    have A116 : ∀ i : Nat, (xw_u (xw_u (xw_u (xw_u (xw_u (xw_u (xw_u μ 115 ((T : Int)).toNat (hp_cv v)) 116 ((T : Int)).toNat h) 117 ((T : Int)).toNat a) 118 ((T : Int)).toNat b) 119 ((T : Int)).toNat c9) 114 (h).toNat (μ 114 (h).toNat + 2 ^ T)) 107 14 ((μ 107 14) + 1)) 116 i = if i = T then h else μ 116 i := fun i => (xw_un (fun q => absurd q.1 (by decide))).trans ((xw_un (fun q => absurd q.1 (by decide))).trans ((xw_un (fun q => absurd q.1 (by decide))).trans ((xw_un (fun q => absurd q.1 (by decide))).trans ((xw_un (fun q => absurd q.1 (by decide))).trans (xw_ui (fun i => (xw_un (fun q => absurd q.1 (by decide))).trans rfl))))))
    have A117 : ∀ i : Nat, (xw_u (xw_u (xw_u (xw_u (xw_u (xw_u (xw_u μ 115 ((T : Int)).toNat (hp_cv v)) 116 ((T : Int)).toNat h) 117 ((T : Int)).toNat a) 118 ((T : Int)).toNat b) 119 ((T : Int)).toNat c9) 114 (h).toNat (μ 114 (h).toNat + 2 ^ T)) 107 14 ((μ 107 14) + 1)) 117 i = if i = T then a else μ 117 i := fun i => (xw_un (fun q => absurd q.1 (by decide))).trans ((xw_un (fun q => absurd q.1 (by decide))).trans ((xw_un (fun q => absurd q.1 (by decide))).trans ((xw_un (fun q => absurd q.1 (by decide))).trans (xw_ui (fun i => (xw_un (fun q => absurd q.1 (by decide))).trans ((xw_un (fun q => absurd q.1 (by decide))).trans rfl))))))
    have A118 : ∀ i : Nat, (xw_u (xw_u (xw_u (xw_u (xw_u (xw_u (xw_u μ 115 ((T : Int)).toNat (hp_cv v)) 116 ((T : Int)).toNat h) 117 ((T : Int)).toNat a) 118 ((T : Int)).toNat b) 119 ((T : Int)).toNat c9) 114 (h).toNat (μ 114 (h).toNat + 2 ^ T)) 107 14 ((μ 107 14) + 1)) 118 i = if i = T then b else μ 118 i := fun i => (xw_un (fun q => absurd q.1 (by decide))).trans ((xw_un (fun q => absurd q.1 (by decide))).trans ((xw_un (fun q => absurd q.1 (by decide))).trans (xw_ui (fun i => (xw_un (fun q => absurd q.1 (by decide))).trans ((xw_un (fun q => absurd q.1 (by decide))).trans ((xw_un (fun q => absurd q.1 (by decide))).trans rfl))))))
    have A119 : ∀ i : Nat, (xw_u (xw_u (xw_u (xw_u (xw_u (xw_u (xw_u μ 115 ((T : Int)).toNat (hp_cv v)) 116 ((T : Int)).toNat h) 117 ((T : Int)).toNat a) 118 ((T : Int)).toNat b) 119 ((T : Int)).toNat c9) 114 (h).toNat (μ 114 (h).toNat + 2 ^ T)) 107 14 ((μ 107 14) + 1)) 119 i = if i = T then c9 else μ 119 i := fun i => (xw_un (fun q => absurd q.1 (by decide))).trans ((xw_un (fun q => absurd q.1 (by decide))).trans (xw_ui (fun i => (xw_un (fun q => absurd q.1 (by decide))).trans ((xw_un (fun q => absurd q.1 (by decide))).trans ((xw_un (fun q => absurd q.1 (by decide))).trans ((xw_un (fun q => absurd q.1 (by decide))).trans rfl))))))
    have V14 : (xw_u (xw_u (xw_u (xw_u (xw_u (xw_u (xw_u μ 115 ((T : Int)).toNat (hp_cv v)) 116 ((T : Int)).toNat h) 117 ((T : Int)).toNat a) 118 ((T : Int)).toNat b) 119 ((T : Int)).toNat c9) 114 (h).toNat (μ 114 (h).toNat + 2 ^ T)) 107 14 ((μ 107 14) + 1)) 107 14 = (μ 107 14) + 1 := xw_ug
    have Fz1 : xw_F [(107, 14, 14), (114, 0, 5), (115, 0, 7), (116, 0, 7), (117, 0, 7), (118, 0, 7), (119, 0, 7)] μ (xw_u (xw_u (xw_u (xw_u (xw_u (xw_u (xw_u μ 115 ((T : Int)).toNat (hp_cv v)) 116 ((T : Int)).toNat h) 117 ((T : Int)).toNat a) 118 ((T : Int)).toNat b) 119 ((T : Int)).toNat c9) 114 (h).toNat (μ 114 (h).toNat + 2 ^ T)) 107 14 ((μ 107 14) + 1)) := ((((((((xw_F.rf (ML := [(107, 14, 14), (114, 0, 5), (115, 0, 7), (116, 0, 7), (117, 0, 7), (118, 0, 7), (119, 0, 7)])).u (show (115, 0, 7) ∈ _ by decide) ⟨by omega, by omega⟩).u (show (116, 0, 7) ∈ _ by decide) ⟨by omega, by omega⟩).u (show (117, 0, 7) ∈ _ by decide) ⟨by omega, by omega⟩).u (show (118, 0, 7) ∈ _ by decide) ⟨by omega, by omega⟩).u (show (119, 0, 7) ∈ _ by decide) ⟨by omega, by omega⟩).u (show (114, 0, 5) ∈ _ by decide) ⟨by omega, by omega⟩).u (show (107, 14, 14) ∈ _ by decide) ⟨by decide, by decide⟩)
    generalize (xw_u (xw_u (xw_u (xw_u (xw_u (xw_u (xw_u μ 115 ((T : Int)).toNat (hp_cv v)) 116 ((T : Int)).toNat h) 117 ((T : Int)).toNat a) 118 ((T : Int)).toNat b) 119 ((T : Int)).toNat c9) 114 (h).toNat (μ 114 (h).toNat + 2 ^ T)) 107 14 ((μ 107 14) + 1)) = z1 at Fz1 V14 A115 A116 A117 A118 A119 A114 ⊢
    have e14 : μ 107 14 = (T : Int) := hH.1.2.1.trans hT
    refine ⟨rfl, hc_HFa hH hT hT8 (Fz1 107 13 rfl) (by omega) (Fz1 107 15 rfl) A115 A116 A117 A118 A119 (fun j i h1 h2 => Fz1 j i ?_) (fun i => Fz1 120 i rfl) hK hh.1 (fun i => Fz1 112 i rfl) A114 rfl, Fz1⟩
    unfold xw_o
    rw [List.all_eq_true]
    intro q hq
    simp only [List.mem_cons, List.not_mem_nil, or_false] at hq
    have e8 : Nat.beq q.1 j = false := by
      cases hb : Nat.beq q.1 j with
      | false => rfl
      | true =>
        exfalso
        have e7 := Nat.eq_of_beq_eq_true hb
        rcases hq with rfl | rfl | rfl | rfl | rfl | rfl | rfl <;> simp only at e7 <;> omega
    rw [e8]
    rfl)
set_option maxRecDepth 20000 in
set_option maxHeartbeats 20000000 in
theorem xh_addCure {l : Launch} {rd nm : Nat → Int} {f9 d c9 : Int} {pz : Nat} {μ : xw_M} (hG : xw_G xw_GL μ) (hH : hc_H rd nm μ) (hK : hp_ok rd nm) (hf : 0 ≤ f9 ∧ f9 ≤ 7) (hd9 : 0 ≤ d ∧ d ≤ 2) (hc : 1 ≤ c9 ∧ c9 ≤ 12) (h16 : rd 2 < 16) : xw_MetV l vwCl sa_Ts tb_KT0 tc_KL yX2_addCure cX2_addCure 4 none 2 120 (fun ad => [.ref (ad 107), .int (Int32.ofInt f9), .int (Int32.ofInt d), .int (Int32.ofInt c9)]) μ (fun μ' => hc_H (hp_C rd nm f9 d c9 pz).2.1 (hp_C rd nm f9 d c9 pz).2.2 μ' ∧ xw_F [(107, 15, 15), (120, 0, 23)] μ μ') :=
  xw_of (by decide) (fun _ => Nat.le_of_ble_eq_true rfl) (fun p e s m args below meth c D dA A al w0 sz C0 hU hO hKL hr hlk hA => by
    have k2 := hK.2.2.1
    have e15 := hH.1.2.2
    refine xw_aload_n (pc := 0) C0 0 dX2_addCure_0 rfl rfl ?_
    refine xw_getR (pc := 1) (f := 12) C0 120 kcX2 dX2_addCure_1 (by decide) tv_95 (xj_107 hKL) xk_28 rfl ((rfl).trans (xe_107_12 hG)) ?_
    refine xw_iload_n (pc := 4) C0 1 dX2_addCure_4 rfl rfl ?_
    refine xw_iconst (pc := 5) C0 dX2_addCure_5 ?_
    refine xw_imul (pc := 6) C0 dX2_addCure_6 ?_
    refine xw_iload_n (pc := 7) C0 2 dX2_addCure_7 rfl rfl ?_
    refine xw_iadd (pc := 8) C0 dX2_addCure_8 ?_
    refine xw_iload_n (pc := 9) C0 3 dX2_addCure_9 rfl rfl ?_
    obtain ⟨J, hJ, hJ2⟩ : ∃ J : Nat, f9 * 3 + d = (J : Int) ∧ J < 24 := ⟨(f9 * 3 + d).toNat, by omega, by omega⟩
    rw [hJ]
    refine xw_iast (pc := 10) C0 dX2_addCure_10 (xj_120 hKL) xk_41 (by omega) (by decide) (xw_rl (by omega)) (by omega) (by omega) ?_
    refine xw_aload_n (pc := 11) C0 0 dX2_addCure_11 rfl rfl ?_
    refine xw_dup (pc := 12) C0 dX2_addCure_12 rfl ?_
    refine xw_getI (pc := 13) (f := 15) (z := μ 107 15) C0 kcX2 dX2_addCure_13 (by decide) tv_105 (xj_107 hKL) xk_28 rfl ((xw_un (fun q => absurd q.1 (by decide))).trans rfl) (fun g1 k1 => ?_)
    refine xw_iconst (pc := 16) C0 dX2_addCure_16 ?_
    refine xw_iadd (pc := 17) C0 dX2_addCure_17 ?_
    refine xw_putI (pc := 18) (f := 15) C0 kcX2 dX2_addCure_18 (by decide) tv_105 rfl rfl (xj_107 hKL) xk_28 rfl (by omega) (by omega) ?_
    refine xw_vret C0 hA hr hlk dX2_addCure_21 ?_
    have A120 : ∀ i : Nat, (xw_u (xw_u μ 120 ((J : Int)).toNat c9) 107 15 ((μ 107 15) + 1)) 120 i = if i = J then c9 else μ 120 i := fun i => (xw_un (fun q => absurd q.1 (by decide))).trans (xw_ui (fun i => rfl))
    have V15 : (xw_u (xw_u μ 120 ((J : Int)).toNat c9) 107 15 ((μ 107 15) + 1)) 107 15 = (μ 107 15) + 1 := xw_ug
    have Fz1 : xw_F [(107, 15, 15), (120, 0, 23)] μ (xw_u (xw_u μ 120 ((J : Int)).toNat c9) 107 15 ((μ 107 15) + 1)) := (((xw_F.rf (ML := [(107, 15, 15), (120, 0, 23)])).u (show (120, 0, 23) ∈ _ by decide) ⟨by omega, by omega⟩).u (show (107, 15, 15) ∈ _ by decide) ⟨by decide, by decide⟩)
    generalize (xw_u (xw_u μ 120 ((J : Int)).toNat c9) 107 15 ((μ 107 15) + 1)) = z1 at Fz1 V15 A120 ⊢
    have e15 : μ 107 15 = rd 2 := hH.1.2.2
    refine ⟨rfl, hc_HC (J := J) hH (by omega) hJ2 (Fz1 107 13 rfl) (Fz1 107 14 rfl) (by omega) A120 (fun j i h1 h2 => Fz1 j i ?_) hK, Fz1⟩
    unfold xw_o
    rw [List.all_eq_true]
    intro q hq
    simp only [List.mem_cons, List.not_mem_nil, or_false] at hq
    have e8 : Nat.beq q.1 j = false := by
      cases hb : Nat.beq q.1 j with
      | false => rfl
      | true =>
        exfalso
        have e7 := Nat.eq_of_beq_eq_true hb
        rcases hq with rfl | rfl <;> simp only at e7 <;> omega
    rw [e8]
    rfl)
/-- a LINE read: what is told then; or what is wrong -/
noncomputable def hc_L (t : Nat → Int) (n lim : Nat) (o : Sum hp_E hp_H) (r : Int) (μ : xw_M) : Prop := (∃ q : hp_H, o = .inr q ∧ r = 1 ∧ hc_T t n lim q.1 μ ∧ μ 104 8 = 0 ∧ hc_H q.2.1 q.2.2 μ ∧ hp_ok q.2.1 q.2.2) ∨ (∃ e : hp_E, o = .inl e ∧ r = 0 ∧ hc_W e μ)
theorem hc_kk {t : Nat → Int} {n lim pz : Nat} {μ : xw_M} (h : hc_T t n lim pz μ) : (hp_k t n lim pz = 2 ∧ μ 104 6 = hp_kw (hp_w t n pz)) ∨ (¬ hp_k t n lim pz = 2 ∧ μ 104 6 = -1) := by
  obtain ⟨-, -, -, h4, h5, -⟩ := h
  by_cases q : hp_k t n lim pz = 2
  · exact Or.inl ⟨q, (h4 q).2⟩
  · exact Or.inr ⟨q, h5 q⟩
