set_option maxRecDepth 20000 in
set_option maxHeartbeats 20000000 in
theorem xt_sent {l : Launch} {t rd nm : Nat → Int} {n : Nat} {μ : xw_M} (hG : xw_G xw_GL μ) (ht : ∀ i : Nat, μ 201 i = t i) (htb : ∀ i : Nat, i < 940 → 0 ≤ t i ∧ t i ≤ 255) (hn : μ 200 2 = (n : Int)) (hn9 : n ≤ 940) (hM : hr_M rd nm μ) (hK : hp_ok rd nm) (hR : hr_R μ) (hRn : hr_Rn μ) : xw_MetI l vwCl sa_Ts tb_KT0 tc_KL yX12_sentence cX12_sentence 2 (some .int) 42 977 (fun ad => [.ref (ad 200)]) μ (fun r μ' => ((∃ o : Nat, hq_se t n nm (rd 0).toNat (rd 1).toNat = .inr o ∧ r = (o : Int)) ∨ (∃ e9 : hp_E, hq_se t n nm (rd 0).toNat (rd 1).toNat = .inl e9 ∧ r = -1 - e9.2)) ∧ μ' 200 2 = 0 ∧ hr_R μ' ∧ hr_Rn μ' ∧ xw_F [(200, 0, 0), (200, 2, 13), (200, 41, 44), (218, 0, 239), (202, 137, 378)] μ μ') :=
  xw_of (by decide +kernel) (fun _ => Nat.le_of_ble_eq_true rfl) (fun p e s m args below meth c D dA A al w0 sz C0 hU hO hKL hr hlk hA => by
    refine xw_aload_n (pc := 0) C0 0 dX12_sentence_0 rfl rfl ?_
    refine xw_sipush (pc := 1) C0 dX12_sentence_1 (by decide +kernel) ?_
    refine xw_callVV (pc := 4) (μ := μ) (ci := 12) (rest := []) (As := [.int (Int32.ofInt ((200 : Nat) : Int))]) C0 hU hO sa_Tg hKL (xr_begin (l := l) (t := t) (n := n) (lim := 200) hG ht htb hn hn9 (by decide +kernel)) tv_1417 dX12_sentence_4 tv_1414 tv_1416 tq_X12_begin tv_13 rfl yb_X12_begin (by decide +kernel) rfl rfl rfl (by decide +kernel) (Nat.le_of_ble_eq_true rfl) (xj_200 hKL) xk_0 (fun m1 w1 => ?_)
    obtain ⟨hS_m1, hT_m1, z1, F1⟩ := w1
    have hM_m1 := hr_MF hM F1 (by decide +kernel)
    have hR_m1 := hr_RF hR F1 (by decide +kernel)
    refine xw_aload_n (pc := 7) C0 0 dX12_sentence_7 rfl rfl ?_
    refine xw_iconst (pc := 8) C0 dX12_sentence_8 ?_
    refine xw_putI (pc := 9) (f := 41) C0 kcX12 dX12_sentence_9 (by decide +kernel) tv_1302 rfl rfl (xj_200 hKL) xk_0 rfl (by omega) (by omega) ?_
    refine xw_aload_n (pc := 12) C0 0 dX12_sentence_12 rfl rfl ?_
    refine xw_iconst (pc := 13) C0 dX12_sentence_13 ?_
    refine xw_putI (pc := 14) (f := 42) C0 kcX12 dX12_sentence_14 (by decide +kernel) tv_1303 rfl rfl (xj_200 hKL) xk_0 rfl (by omega) (by omega) ?_
    refine xw_aload_n (pc := 17) C0 0 dX12_sentence_17 rfl rfl ?_
    refine xw_iconst (pc := 18) C0 dX12_sentence_18 ?_
    refine xw_putI (pc := 19) (f := 43) C0 kcX12 dX12_sentence_19 (by decide +kernel) tv_1304 rfl rfl (xj_200 hKL) xk_0 rfl (by omega) (by omega) ?_
    refine xw_aload_n (pc := 22) C0 0 dX12_sentence_22 rfl rfl ?_
    have Ft1 : xw_F [(200, 41, 41), (200, 42, 42), (200, 43, 43)] m1 (xw_u (xw_u (xw_u m1 200 41 0) 200 42 0) 200 43 0) := ((((xw_F.rf (ML := [(200, 41, 41), (200, 42, 42), (200, 43, 43)])).u (show (200, 41, 41) ∈ _ by decide) ⟨by decide, by decide⟩).u (show (200, 42, 42) ∈ _ by decide) ⟨by decide, by decide⟩).u (show (200, 43, 43) ∈ _ by decide) ⟨by decide, by decide⟩)
    have vt1_200_43 : (xw_u (xw_u (xw_u m1 200 41 0) 200 42 0) 200 43 0) 200 43 = 0 := xw_ug
    have vt1_200_42 : (xw_u (xw_u (xw_u m1 200 41 0) 200 42 0) 200 43 0) 200 42 = 0 := (xw_un (by decide +kernel)).trans xw_ug
    have vt1_200_41 : (xw_u (xw_u (xw_u m1 200 41 0) 200 42 0) 200 43 0) 200 41 = 0 := (xw_un (by decide +kernel)).trans ((xw_un (by decide +kernel)).trans xw_ug)
    generalize (xw_u (xw_u (xw_u m1 200 41 0) 200 42 0) 200 43 0) = t1 at Ft1 vt1_200_43 vt1_200_42 vt1_200_41 ⊢
    have hS_t1 := hr_SF hS_m1 Ft1 (by decide +kernel)
    have hT_t1 := hr_TF hT_m1 Ft1 (by decide +kernel)
    have hM_t1 := hr_MF hM_m1 Ft1 (by decide +kernel)
    have hR_t1 := hr_RF hR_m1 Ft1 (by decide +kernel)
    have hN_t1 : t1 200 42 = ((0 : Nat) : Int) := by
      rw [vt1_200_42]
      rfl
    have hI_t1 : t1 200 43 = 0 := by
      rw [vt1_200_43]
    have hC_t1 : t1 200 41 = ((0 : Nat) : Int) := by
      rw [vt1_200_41]
      rfl
    refine xw_callVI (pc := 23) (μ := t1) (ci := 12) (rest := []) (As := []) C0 hU hO sa_Tg hKL (xt_or8 (l := l) (rd := rd) (nm := nm) (pz := 0) (o := 0) (cn := 0) hS_t1 hT_t1 hM_t1 hK hN_t1 (by omega) hI_t1 hC_t1 (by omega) hR_t1) tv_1835 dX12_sentence_23 tv_1832 tv_1834 tq_X12_readOr tv_13 rfl yb_X12_readOr (by decide +kernel) rfl rfl rfl (by decide +kernel) (Nat.le_of_ble_eq_true rfl) (xj_200 hKL) xk_0 (fun r2 m2 w2 => ?_)
    obtain ⟨w2, hR_m2, F2⟩ := w2
    rcases w2 with ⟨p2, o2, c2, eo2, rfl, hT_m2, hN_m2, ho2, hC_m2, hc2, ht2, hI_m2⟩ | ⟨e2, eo2, rfl, W2, hI_m2⟩
    · have hS_m2 := hr_SF hS_t1 F2 (by decide +kernel)
      have hM_m2 := hr_MF hM_t1 F2 (by decide +kernel)
      have c2_m2 := hT_m2.2.1
      refine xw_if_ne (pc := 26) (tgt := 36) C0 (by omega) dX12_sentence_26 rfl (fun b3 => ?_) (fun b3 => ?_)
      · refine xw_aload_n (pc := 36) C0 0 dX12_sentence_36 rfl rfl ?_
        refine xw_getI (pc := 37) (f := 7) (z := m2 200 7) C0 kcX12 dX12_sentence_37 (by decide +kernel) tv_1268 (xj_200 hKL) xk_0 rfl (rfl) (fun g4 k4 => ?_)
        refine xw_if_eq (pc := 40) (tgt := 56) C0 (by omega) dX12_sentence_40 rfl (fun b5 => ?_) (fun b5 => ?_)
        · refine xw_aload_n (pc := 56) C0 0 dX12_sentence_56 rfl rfl ?_
          refine xw_getR (pc := 57) (f := 14) C0 202 kcX12 dX12_sentence_57 (by decide +kernel) tv_1275 (xj_200 hKL) xk_0 rfl (((F2 200 14 rfl).trans ((Ft1 200 14 rfl).trans ((F1 200 14 rfl).trans rfl))).trans (xe_200_14 hG)) ?_
          refine xw_sipush (pc := 60) C0 dX12_sentence_60 (by decide +kernel) ?_
          refine xw_iconst (pc := 63) C0 dX12_sentence_63 ?_
          refine xw_iast (pc := 64) C0 dX12_sentence_64 (xj_202 hKL) xk_1 (by omega) (by decide +kernel) rfl (by omega) (by omega) ?_
          refine xw_mu (μ' := (xw_u m2 202 137 1)) rfl ?_
          refine xw_aload_n (pc := 65) C0 0 dX12_sentence_65 rfl rfl ?_
          refine xw_getR (pc := 66) (f := 14) C0 202 kcX12 dX12_sentence_66 (by decide +kernel) tv_1275 (xj_200 hKL) xk_0 rfl (((xw_un (fun q => absurd q.1 (by decide +kernel))).trans ((F2 200 14 rfl).trans ((Ft1 200 14 rfl).trans ((F1 200 14 rfl).trans rfl)))).trans (xe_200_14 hG)) ?_
          refine xw_sipush (pc := 69) C0 dX12_sentence_69 (by decide +kernel) ?_
          refine xw_aload_n (pc := 72) C0 0 dX12_sentence_72 rfl rfl ?_
          refine xw_getI (pc := 73) (f := 44) (z := m2 200 44) C0 kcX12 dX12_sentence_73 (by decide +kernel) tv_1305 (xj_200 hKL) xk_0 rfl ((xw_un (fun q => absurd q.1 (by decide +kernel))).trans rfl) (fun g6 k6 => ?_)
          refine xw_iast (pc := 76) C0 dX12_sentence_76 (xj_202 hKL) xk_1 (by omega) (by decide +kernel) rfl (by omega) (by omega) ?_
          refine xw_mu (μ' := (xw_u (xw_u m2 202 137 1) 202 138 (m2 200 44))) rfl ?_
          refine xw_iconst (pc := 77) C0 dX12_sentence_77 ?_
          refine xw_istore_n (pc := 78) (L' := [(1, .int (Int32.ofInt 0)), (0, .ref (xw_ad al 200))]) C0 dX12_sentence_78 rfl (by decide +kernel) rfl ?_
          have Ft2 : xw_F [(202, 137, 137), (202, 138, 138)] m2 (xw_u (xw_u m2 202 137 1) 202 138 (m2 200 44)) := (((xw_F.rf (ML := [(202, 137, 137), (202, 138, 138)])).u (show (202, 137, 137) ∈ _ by decide) ⟨by decide, by decide⟩).u (show (202, 138, 138) ∈ _ by decide) ⟨by decide, by decide⟩)
          have vt2_202_138 : (xw_u (xw_u m2 202 137 1) 202 138 (m2 200 44)) 202 138 = m2 200 44 := xw_ug
          have vt2_202_137 : (xw_u (xw_u m2 202 137 1) 202 138 (m2 200 44)) 202 137 = 1 := (xw_un (by decide +kernel)).trans xw_ug
          generalize (xw_u (xw_u m2 202 137 1) 202 138 (m2 200 44)) = t2 at Ft2 vt2_202_138 vt2_202_137 ⊢
          have hG_t2 : xw_G xw_GL t2 := xw_GF hS_m2.1 Ft2 (by decide +kernel)
          refine xw_pk [0, 1] (L' := [(1, .int (Int32.ofInt ((0 : Nat) : Int))), (0, .ref (xw_ad al 200))]) rfl ?_
          refine xt_seL (μ := t2) C0 hU hO hKL (fun ν hz hF hG_ν => ?_) 241 0 t2 (by omega) (by omega) (fun i h => absurd h (Nat.not_lt_zero i)) xw_F.rf hG_t2
          refine xw_aload_n (pc := 108) C0 0 dX12_sentence_108 rfl rfl ?_
          refine xw_getI (pc := 109) (f := 42) (z := ν 200 42) C0 kcX12 dX12_sentence_109 (by decide +kernel) tv_1303 (xj_200 hKL) xk_0 rfl (rfl) (fun g51 k51 => ?_)
          refine xw_iret C0 hA hr hlk rfl dX12_sentence_112 ?_
          have eq : hq_se t n nm (rd 0).toNat (rd 1).toNat = .inr o2 := by
            unfold hq_se
            rw [eo2, hq_bdr, if_pos (by omega)]
          have z9 : ν 200 2 = 0 := (hF 200 2 rfl).trans ((Ft2 200 2 rfl).trans ((F2 200 2 rfl).trans ((Ft1 200 2 rfl).trans (z1))))
          have e8 : ν 200 42 = ((o2 : Nat) : Int) := (hF 200 42 rfl).trans ((Ft2 200 42 rfl).trans hN_m2)
          exact ⟨_, rfl, Or.inl ⟨_, eq, e8⟩, z9, hr_RF (hr_RF hR_m2 Ft2 (by decide +kernel)) hF (by decide +kernel), hr_RnC (hr_RF hR_m2 Ft2 (by decide +kernel)) hz, ((((((xw_F.rf (ML := [(200, 0, 0), (200, 2, 13), (200, 41, 44), (218, 0, 239), (202, 137, 378)])).tr F1 (fun j i h => xw_o_sub (by decide +kernel) j i h)).tr Ft1 (fun j i h => xw_o_sub (by decide +kernel) j i h)).tr F2 (fun j i h => xw_o_sub (by decide +kernel) j i h)).tr Ft2 (fun j i h => xw_o_sub (by decide +kernel) j i h))).tr hF (fun j i h => xw_o_sub (by decide +kernel) j i h)⟩
        · refine xw_aload_n (pc := 43) C0 0 dX12_sentence_43 rfl rfl ?_
          refine xw_iconst (pc := 44) C0 dX12_sentence_44 ?_
          refine xw_callVI (pc := 45) (μ := m2) (ci := 12) (rest := []) (As := [.int (Int32.ofInt 1)]) C0 hU hO sa_Tg hKL (xr_bad (l := l) (v := 1) hS_m2 hT_m2 (by decide +kernel) (by omega)) tv_1463 dX12_sentence_45 tv_1460 tv_1462 tq_X12_bad tv_13 rfl yb_X12_bad (by decide +kernel) rfl rfl rfl (by decide +kernel) (Nat.le_of_ble_eq_true rfl) (xj_200 hKL) xk_0 (fun r7 m7 w7 => ?_)
          obtain ⟨rfl, W7, F7⟩ := w7
          have hI_m7 : m7 200 43 = 0 := (F7 200 43 rfl).trans hI_m2
          have hR_m7 := hr_RF hR_m2 F7 (by decide +kernel)
          have e9 : m7 200 11 = (hp_bad t n 200 1 p2).2 := W7.2
          refine xw_pop (pc := 48) C0 dX12_sentence_48 rfl ?_
          refine xw_iconst (pc := 49) C0 dX12_sentence_49 ?_
          refine xw_aload_n (pc := 50) C0 0 dX12_sentence_50 rfl rfl ?_
          refine xw_getI (pc := 51) (f := 11) (z := m7 200 11) C0 kcX12 dX12_sentence_51 (by decide +kernel) tv_1272 (xj_200 hKL) xk_0 rfl (rfl) (fun g8 k8 => ?_)
          refine xw_isub (pc := 54) C0 dX12_sentence_54 ?_
          refine xw_iret C0 hA hr hlk rfl dX12_sentence_55 ?_
          have z9 : m7 200 2 = 0 := (F7 200 2 rfl).trans ((F2 200 2 rfl).trans ((Ft1 200 2 rfl).trans (z1)))
          have F9 : xw_F [(200, 0, 0), (200, 2, 13), (200, 41, 44), (218, 0, 239)] μ m7 := (((((xw_F.rf (ML := [(200, 0, 0), (200, 2, 13), (200, 41, 44), (218, 0, 239)])).tr F1 (fun j i h => xw_o_sub (by decide +kernel) j i h)).tr Ft1 (fun j i h => xw_o_sub (by decide +kernel) j i h)).tr F2 (fun j i h => xw_o_sub (by decide +kernel) j i h)).tr F7 (fun j i h => xw_o_sub (by decide +kernel) j i h))
          have eq : hq_se t n nm (rd 0).toNat (rd 1).toNat = .inl (hp_bad t n 200 1 p2) := by
            unfold hq_se
            rw [eo2, hq_bdr, if_neg (by omega)]
          exact ⟨_, rfl, Or.inr ⟨_, eq, by omega⟩, z9, hR_m7, hr_RnF hRn (fun i hi => F9 202 _ (xw_oj (by decide +kernel) _)), F9.mono (fun j i h => xw_o_sub (by decide +kernel) j i h)⟩
      · exfalso
        omega
    · have e9 : m2 200 11 = e2.2 := W2.2
      refine xw_if_ne (pc := 26) (tgt := 36) C0 (by omega) dX12_sentence_26 rfl (fun b10 => ?_) (fun b10 => ?_)
      · exfalso
        omega
      · refine xw_iconst (pc := 29) C0 dX12_sentence_29 ?_
        refine xw_aload_n (pc := 30) C0 0 dX12_sentence_30 rfl rfl ?_
        refine xw_getI (pc := 31) (f := 11) (z := m2 200 11) C0 kcX12 dX12_sentence_31 (by decide +kernel) tv_1272 (xj_200 hKL) xk_0 rfl (rfl) (fun g11 k11 => ?_)
        refine xw_isub (pc := 34) C0 dX12_sentence_34 ?_
        refine xw_iret C0 hA hr hlk rfl dX12_sentence_35 ?_
        have z9 : m2 200 2 = 0 := (F2 200 2 rfl).trans ((Ft1 200 2 rfl).trans (z1))
        have F9 : xw_F [(200, 0, 0), (200, 2, 13), (200, 41, 44), (218, 0, 239)] μ m2 := ((((xw_F.rf (ML := [(200, 0, 0), (200, 2, 13), (200, 41, 44), (218, 0, 239)])).tr F1 (fun j i h => xw_o_sub (by decide +kernel) j i h)).tr Ft1 (fun j i h => xw_o_sub (by decide +kernel) j i h)).tr F2 (fun j i h => xw_o_sub (by decide +kernel) j i h))
        have eq : hq_se t n nm (rd 0).toNat (rd 1).toNat = .inl e2 := by
          unfold hq_se
          rw [eo2]
          rfl
        exact ⟨_, rfl, Or.inr ⟨_, eq, by omega⟩, z9, hR_m2, hr_RnF hRn (fun i hi => F9 202 _ (xw_oj (by decide +kernel) _)), F9.mono (fun j i h => xw_o_sub (by decide +kernel) j i h)⟩)
