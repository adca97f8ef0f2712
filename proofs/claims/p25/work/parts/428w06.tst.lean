set_option maxRecDepth 20000 in
set_option maxHeartbeats 20000000 in
theorem xr_whatV {l : Launch} {v nm t : Nat → Int} {n : Int} {μ : xw_M} (hG : xw_G xw_GL μ) (hK : hp_ok v nm) (hN : ∀ k : Nat, k < 77 → μ 202 k = v k) (hT : ∀ i : Nat, i < 940 → μ 201 i = t i) (hn : μ 200 2 = n) (hn8 : 0 ≤ n ∧ n ≤ 940) : xw_MetI l vwCl sa_Ts tb_KT0 tc_KL yX12_what cX12_what 4 (some .int) 4 163 (fun ad => [.ref (ad 200)]) μ (fun r μ' => ((hx_wa v t n ∧ r = ((hx_wr v t n : Nat) : Int)) ∨ (¬ hx_wa v t n ∧ r = -1)) ∧ μ' 200 2 = 0 ∧ (xw_F [(200, 0, 0), (200, 2, 2)] μ μ' ∨ (xw_F [(200, 0, 0), (200, 2, 2), (200, 25, 25), (211, 0, 7)] μ μ' ∧ (∀ f : Nat, f < 8 → (2 : Int) ^ f ≤ μ' 200 25 → 1 ≤ μ' 211 f ∧ μ' 211 f ≤ 99)))) :=
  xw_of (by decide +kernel) (fun _ => Nat.le_of_ble_eq_true rfl) (fun p e s m args below meth c D dA A al w0 sz C0 hU hO hKL hr hlk hA => by
    have k1 := hK.2.1
    refine xw_aload_n (pc := 0) C0 0 dX12_what_0 rfl rfl ?_
    refine xw_iconst (pc := 1) C0 dX12_what_1 ?_
    refine xw_putI (pc := 2) (f := 0) C0 kcX12 dX12_what_2 (by decide +kernel) tv_1261 rfl rfl (xj_200 hKL) xk_0 rfl (by omega) (by omega) ?_
    refine xw_aload_n (pc := 5) C0 0 dX12_what_5 rfl rfl ?_
    have Ft1 : xw_F [(200, 0, 0)] μ (xw_u μ 200 0 0) := ((xw_F.rf (ML := [(200, 0, 0)])).u (show (200, 0, 0) ∈ _ by decide) ⟨by decide, by decide⟩)
    have vt1_200_0 : (xw_u μ 200 0 0) 200 0 = 0 := xw_ug
    generalize (xw_u μ 200 0 0) = t1 at Ft1 vt1_200_0 ⊢
    have hG_t1 := xw_GF hG Ft1 (by decide +kernel)
    refine xw_callVI (pc := 6) (μ := t1) (ci := 12) (rest := []) (As := []) C0 hU hO sa_Tg hKL (xm_take (l := l) (μ := t1) hG_t1) tv_1421 dX12_what_6 tv_1418 tv_1420 tq_X12_take tv_13 rfl yb_X12_take (by decide +kernel) rfl rfl rfl (by decide +kernel) (Nat.le_of_ble_eq_true rfl) (xj_200 hKL) xk_0 (fun r1 m1 w1 => ?_)
    obtain ⟨q1, s1⟩ := w1
    subst q1
    have s1 : n = r1 := (s1.trans ((Ft1 200 2 (by decide +kernel)).trans hn)).symm
    subst s1
    have Ft2 : xw_F [(200, 2, 2)] t1 (xw_u t1 200 2 0) := ((xw_F.rf (ML := [(200, 2, 2)])).u (show (200, 2, 2) ∈ _ by decide) ⟨by decide, by decide⟩)
    have vt2_200_2 : (xw_u t1 200 2 0) 200 2 = 0 := xw_ug
    generalize (xw_u t1 200 2 0) = t2 at Ft2 vt2_200_2 ⊢
    have hG_t2 := xw_GF hG_t1 Ft2 (by decide +kernel)
    have y9 : t2 200 2 = 0 := vt2_200_2
    have hN9 : ∀ k : Nat, k < 77 → t2 202 k = v k := fun k hk => ((((xw_F.rf (ML := [(200, 0, 0), (200, 2, 2)])).tr Ft1 (fun j i h => xw_o_sub (by decide +kernel) j i h)).tr Ft2 (fun j i h => xw_o_sub (by decide +kernel) j i h)) 202 k (xw_oj (by decide +kernel) k)).trans (hN k hk)
    have hT9 : ∀ i : Nat, i < 940 → t2 201 i = t i := fun i hi => ((((xw_F.rf (ML := [(200, 0, 0), (200, 2, 2)])).tr Ft1 (fun j i h => xw_o_sub (by decide +kernel) j i h)).tr Ft2 (fun j i h => xw_o_sub (by decide +kernel) j i h)) 201 i (xw_oj (by decide +kernel) i)).trans (hT i hi)
    refine xw_istore_n (pc := 9) (L' := [(1, .int (Int32.ofInt n)), (0, .ref (xw_ad al 200))]) C0 dX12_what_9 rfl (by decide +kernel) rfl ?_
    refine xw_iload_n (pc := 10) C0 0 dX12_what_10 rfl rfl ?_
    refine xw_iconst (pc := 11) C0 dX12_what_11 ?_
    refine xw_irem (pc := 12) C0 (by omega) (by omega) dX12_what_12 ?_
    refine xw_if_ne (pc := 13) (tgt := 28) C0 (by omega) dX12_what_13 rfl (fun b2 => ?_) (fun b2 => ?_)
    · refine xw_iconst (pc := 28) C0 dX12_what_28 ?_
      refine xw_iret C0 hA hr hlk rfl dX12_what_29 ?_
      exact ⟨_, rfl, Or.inr ⟨fun q => by obtain ⟨q1, q2, q3, -⟩ := q; omega, rfl⟩, y9, Or.inl (((xw_F.rf (ML := [(200, 0, 0), (200, 2, 2)])).tr Ft1 (fun j i h => xw_o_sub (by decide +kernel) j i h)).tr Ft2 (fun j i h => xw_o_sub (by decide +kernel) j i h))⟩
    · refine xw_iload_n (pc := 16) C0 0 dX12_what_16 rfl rfl ?_
      refine xw_iconst (pc := 17) C0 dX12_what_17 ?_
      refine xw_idiv (pc := 18) C0 (by omega) (by omega) dX12_what_18 ?_
      refine xw_iconst (pc := 19) C0 dX12_what_19 ?_
      refine xw_bipush (pc := 20) C0 dX12_what_20 (by decide +kernel) ?_
      refine xw_callSI (pc := 22) (μ := t2) (rest := []) (As := [.int (Int32.ofInt (n / 2)), .int (Int32.ofInt 1), .int (Int32.ofInt 6)]) C0 hU hO sa_Tg hKL (xm_isIn (l := l) (v := n / 2) (a := 1) (b := 6) (by omega) (by omega) (by omega)) tv_1481 dX12_what_22 tv_1479 tv_1480 tv_13 yb_X12_isIn (by decide +kernel) rfl rfl rfl (by decide +kernel) (Nat.le_of_ble_eq_true rfl) (fun r3 m3 w3 => ?_)
      obtain ⟨rfl, w3⟩ := w3
      rcases w3 with ⟨w3, rfl⟩ | ⟨w3, rfl⟩
      · refine xw_if_ne (pc := 25) (tgt := 30) C0 (by omega) dX12_what_25 rfl (fun b4 => ?_) (fun b4 => ?_)
        · refine xw_iconst (pc := 30) C0 dX12_what_30 ?_
          refine xw_istore_n (pc := 31) (L' := [(2, .int (Int32.ofInt 0)), (1, .int (Int32.ofInt n)), (0, .ref (xw_ad al 200))]) C0 dX12_what_31 rfl (by decide +kernel) rfl ?_
          have hn9 : n % 2 = 0 ∧ 2 ≤ n ∧ n ≤ 12 := ⟨by omega, by omega, by omega⟩
          refine xw_pk [2, 1, 0] (L' := [(0, .ref (xw_ad al 200)), (1, .int (Int32.ofInt n)), (2, .int (Int32.ofInt (2 * ((0 : Nat) : Int))))]) rfl ?_
          refine xr_waL (v := v) (nm := nm) (t := t) (n := n) (μ := t2) C0 hU hO hKL hG_t2 hK hN9 hT9 hn9 (fun k hk ht => ?_) (fun k hk hw => ?_) 99 0 (by omega) (by omega) rfl
          · have ek : (n / 2).toNat = k := by omega
            have hacc : hx_wa v t n := ⟨hn9.1, hn9.2.1, hn9.2.2, by rw [ek]; exact ht⟩
            refine xw_iconst (pc := 58) C0 dX12_what_58 ?_
            refine xw_istore_n (pc := 59) (L' := [(2, .int (Int32.ofInt 0)), (0, .ref (xw_ad al 200)), (1, .int (Int32.ofInt n))]) C0 dX12_what_59 rfl (by decide +kernel) rfl ?_
            refine xw_iconst (pc := 60) C0 dX12_what_60 ?_
            refine xw_istore_n (pc := 61) (L' := [(3, .int (Int32.ofInt 0)), (2, .int (Int32.ofInt 0)), (0, .ref (xw_ad al 200)), (1, .int (Int32.ofInt n))]) C0 dX12_what_61 rfl (by decide +kernel) rfl ?_
            refine xw_pk [2, 3, 1, 0] (L' := [(0, .ref (xw_ad al 200)), (1, .int (Int32.ofInt n)), (2, .int (Int32.ofInt ((hx_bs (fun f => hx_wo v t f (n / 2).toNat) 0 : Nat) : Int))), (3, .int (Int32.ofInt ((0 : Nat) : Int)))]) rfl ?_
            refine xr_wbL (v := v) (nm := nm) (t := t) (n := n) (μ := t2) C0 hU hO hKL hG_t2 hK hN9 hT9 hn9 ?_ 9 0 (by omega) (Nat.zero_le _)
            have z8 := hx_b8 (p := (fun f => hx_wo v t f (n / 2).toNat)) (m := (v 1).toNat) (by omega)
            refine xw_iload_n (pc := 93) C0 1 dX12_what_93 rfl rfl ?_
            refine xw_if_ne (pc := 94) (tgt := 99) C0 (by omega) dX12_what_94 rfl (fun b201 => ?_) (fun b201 => ?_)
            · refine xw_aload_n (pc := 99) C0 0 dX12_what_99 rfl rfl ?_
              refine xw_iload_n (pc := 100) C0 1 dX12_what_100 rfl rfl ?_
              refine xw_putI (pc := 101) (f := 25) C0 kcX12 dX12_what_101 (by decide +kernel) tv_1286 rfl rfl (xj_200 hKL) xk_0 rfl (by omega) (by omega) ?_
              refine xw_iconst (pc := 104) C0 dX12_what_104 ?_
              refine xw_istore_n (pc := 105) (L' := [(3, .int (Int32.ofInt 0)), (0, .ref (xw_ad al 200)), (2, .int (Int32.ofInt ((hx_bs (fun f => hx_wo v t f (n / 2).toNat) (v 1).toNat : Nat) : Int)))]) C0 dX12_what_105 rfl (by decide +kernel) rfl ?_
              refine xw_iload_n (pc := 106) C0 0 dX12_what_106 rfl rfl ?_
              refine xw_bipush (pc := 107) C0 dX12_what_107 (by decide +kernel) ?_
              refine xw_icmp_ge (pc := 109) (tgt := 133) C0 (by omega) (by omega) dX12_what_109 rfl (fun b202 => ?_) (fun b202 => ?_)
              · exfalso
                omega
              · refine xw_aload_n (pc := 112) C0 1 dX12_what_112 rfl rfl ?_
                refine xw_getR (pc := 113) (f := 26) C0 211 kcX12 dX12_what_113 (by decide +kernel) tv_1287 (xj_200 hKL) xk_0 rfl (((xw_un (by decide +kernel)).trans ((Ft2 200 26 rfl).trans ((Ft1 200 26 rfl).trans rfl))).trans (xe_200_26 hG)) ?_
                refine xw_iload_n (pc := 116) C0 0 dX12_what_116 rfl rfl ?_
                refine xw_aload_n (pc := 117) C0 1 dX12_what_117 rfl rfl ?_
                refine xw_getR (pc := 118) (f := 14) C0 202 kcX12 dX12_what_118 (by decide +kernel) tv_1275 (xj_200 hKL) xk_0 rfl (((xw_un (by decide +kernel)).trans ((Ft2 200 14 rfl).trans ((Ft1 200 14 rfl).trans rfl))).trans (xe_200_14 hG)) ?_
                refine xw_bipush (pc := 121) C0 dX12_what_121 (by decide +kernel) ?_
                refine xw_iload_n (pc := 123) C0 0 dX12_what_123 rfl rfl ?_
                refine xw_iadd (pc := 124) C0 dX12_what_124 ?_
                refine xw_nI (pc := 125) (congrArg Int32.ofInt (show 37 + 0 = ((37 : Nat) : Int) by decide)) ?_
                refine xw_iald (pc := 125) (z := v 37) C0 dX12_what_125 (xj_202 hKL) xk_1 (by decide +kernel) (by decide +kernel) rfl ((xw_un (fun q => absurd q.1 (by decide +kernel))).trans (hN9 37 (by decide +kernel))) (fun g203 k203 => ?_)
                refine xw_iast (pc := 126) C0 dX12_what_126 (xj_211 hKL) xk_82 (by omega) (by decide +kernel) (xw_rl (by omega)) (by omega) (by omega) ?_
                refine xw_mu (μ' := (xw_u (xw_u t2 200 25 ((hx_bs (fun f => hx_wo v t f (n / 2).toNat) (v 1).toNat : Nat) : Int)) 211 0 (v 37))) rfl ?_
                refine xw_iinc (pc := 127) (L' := [(3, .int (Int32.ofInt 1)), (0, .ref (xw_ad al 200)), (2, .int (Int32.ofInt ((hx_bs (fun f => hx_wo v t f (n / 2).toNat) (v 1).toNat : Nat) : Int)))]) C0 0 dX12_what_127 rfl (by decide +kernel) rfl ?_
                refine xw_goto (pc := 130) (tgt := 106) C0 dX12_what_130 rfl ?_
                refine xw_iload_n (pc := 106) C0 0 dX12_what_106 rfl rfl ?_
                refine xw_bipush (pc := 107) C0 dX12_what_107 (by decide +kernel) ?_
                refine xw_icmp_ge (pc := 109) (tgt := 133) C0 (by omega) (by omega) dX12_what_109 rfl (fun b204 => ?_) (fun b204 => ?_)
                · exfalso
                  omega
                · refine xw_aload_n (pc := 112) C0 1 dX12_what_112 rfl rfl ?_
                  refine xw_getR (pc := 113) (f := 26) C0 211 kcX12 dX12_what_113 (by decide +kernel) tv_1287 (xj_200 hKL) xk_0 rfl (((xw_un (fun q => absurd q.1 (by decide +kernel))).trans ((xw_un (by decide +kernel)).trans ((Ft2 200 26 rfl).trans ((Ft1 200 26 rfl).trans rfl)))).trans (xe_200_26 hG)) ?_
                  refine xw_iload_n (pc := 116) C0 0 dX12_what_116 rfl rfl ?_
                  refine xw_aload_n (pc := 117) C0 1 dX12_what_117 rfl rfl ?_
                  refine xw_getR (pc := 118) (f := 14) C0 202 kcX12 dX12_what_118 (by decide +kernel) tv_1275 (xj_200 hKL) xk_0 rfl (((xw_un (fun q => absurd q.1 (by decide +kernel))).trans ((xw_un (by decide +kernel)).trans ((Ft2 200 14 rfl).trans ((Ft1 200 14 rfl).trans rfl)))).trans (xe_200_14 hG)) ?_
                  refine xw_bipush (pc := 121) C0 dX12_what_121 (by decide +kernel) ?_
                  refine xw_iload_n (pc := 123) C0 0 dX12_what_123 rfl rfl ?_
                  refine xw_iadd (pc := 124) C0 dX12_what_124 ?_
                  refine xw_nI (pc := 125) (congrArg Int32.ofInt (show 37 + 1 = ((38 : Nat) : Int) by decide)) ?_
                  refine xw_iald (pc := 125) (z := v 38) C0 dX12_what_125 (xj_202 hKL) xk_1 (by decide +kernel) (by decide +kernel) rfl ((xw_un (fun q => absurd q.1 (by decide +kernel))).trans ((xw_un (fun q => absurd q.1 (by decide +kernel))).trans (hN9 38 (by decide +kernel)))) (fun g205 k205 => ?_)
                  refine xw_iast (pc := 126) C0 dX12_what_126 (xj_211 hKL) xk_82 (by omega) (by decide +kernel) (xw_rl (by omega)) (by omega) (by omega) ?_
                  refine xw_mu (μ' := (xw_u (xw_u (xw_u t2 200 25 ((hx_bs (fun f => hx_wo v t f (n / 2).toNat) (v 1).toNat : Nat) : Int)) 211 0 (v 37)) 211 1 (v 38))) rfl ?_
                  refine xw_iinc (pc := 127) (L' := [(3, .int (Int32.ofInt 2)), (0, .ref (xw_ad al 200)), (2, .int (Int32.ofInt ((hx_bs (fun f => hx_wo v t f (n / 2).toNat) (v 1).toNat : Nat) : Int)))]) C0 0 dX12_what_127 rfl (by decide +kernel) rfl ?_
                  refine xw_goto (pc := 130) (tgt := 106) C0 dX12_what_130 rfl ?_
                  refine xw_iload_n (pc := 106) C0 0 dX12_what_106 rfl rfl ?_
                  refine xw_bipush (pc := 107) C0 dX12_what_107 (by decide +kernel) ?_
                  refine xw_icmp_ge (pc := 109) (tgt := 133) C0 (by omega) (by omega) dX12_what_109 rfl (fun b206 => ?_) (fun b206 => ?_)
                  · exfalso
                    omega
                  · refine xw_aload_n (pc := 112) C0 1 dX12_what_112 rfl rfl ?_
                    refine xw_getR (pc := 113) (f := 26) C0 211 kcX12 dX12_what_113 (by decide +kernel) tv_1287 (xj_200 hKL) xk_0 rfl (((xw_un (fun q => absurd q.1 (by decide +kernel))).trans ((xw_un (fun q => absurd q.1 (by decide +kernel))).trans ((xw_un (by decide +kernel)).trans ((Ft2 200 26 rfl).trans ((Ft1 200 26 rfl).trans rfl))))).trans (xe_200_26 hG)) ?_
                    refine xw_iload_n (pc := 116) C0 0 dX12_what_116 rfl rfl ?_
                    refine xw_aload_n (pc := 117) C0 1 dX12_what_117 rfl rfl ?_
                    refine xw_getR (pc := 118) (f := 14) C0 202 kcX12 dX12_what_118 (by decide +kernel) tv_1275 (xj_200 hKL) xk_0 rfl (((xw_un (fun q => absurd q.1 (by decide +kernel))).trans ((xw_un (fun q => absurd q.1 (by decide +kernel))).trans ((xw_un (by decide +kernel)).trans ((Ft2 200 14 rfl).trans ((Ft1 200 14 rfl).trans rfl))))).trans (xe_200_14 hG)) ?_
                    refine xw_bipush (pc := 121) C0 dX12_what_121 (by decide +kernel) ?_
                    refine xw_iload_n (pc := 123) C0 0 dX12_what_123 rfl rfl ?_
                    refine xw_iadd (pc := 124) C0 dX12_what_124 ?_
                    refine xw_nI (pc := 125) (congrArg Int32.ofInt (show 37 + 2 = ((39 : Nat) : Int) by decide)) ?_
                    refine xw_iald (pc := 125) (z := v 39) C0 dX12_what_125 (xj_202 hKL) xk_1 (by decide +kernel) (by decide +kernel) rfl ((xw_un (fun q => absurd q.1 (by decide +kernel))).trans ((xw_un (fun q => absurd q.1 (by decide +kernel))).trans ((xw_un (fun q => absurd q.1 (by decide +kernel))).trans (hN9 39 (by decide +kernel))))) (fun g207 k207 => ?_)
                    refine xw_iast (pc := 126) C0 dX12_what_126 (xj_211 hKL) xk_82 (by omega) (by decide +kernel) (xw_rl (by omega)) (by omega) (by omega) ?_
                    refine xw_mu (μ' := (xw_u (xw_u (xw_u (xw_u t2 200 25 ((hx_bs (fun f => hx_wo v t f (n / 2).toNat) (v 1).toNat : Nat) : Int)) 211 0 (v 37)) 211 1 (v 38)) 211 2 (v 39))) rfl ?_
                    refine xw_iinc (pc := 127) (L' := [(3, .int (Int32.ofInt 3)), (0, .ref (xw_ad al 200)), (2, .int (Int32.ofInt ((hx_bs (fun f => hx_wo v t f (n / 2).toNat) (v 1).toNat : Nat) : Int)))]) C0 0 dX12_what_127 rfl (by decide +kernel) rfl ?_
                    refine xw_goto (pc := 130) (tgt := 106) C0 dX12_what_130 rfl ?_
                    refine xw_iload_n (pc := 106) C0 0 dX12_what_106 rfl rfl ?_
                    refine xw_bipush (pc := 107) C0 dX12_what_107 (by decide +kernel) ?_
                    refine xw_icmp_ge (pc := 109) (tgt := 133) C0 (by omega) (by omega) dX12_what_109 rfl (fun b208 => ?_) (fun b208 => ?_)
                    · exfalso
                      omega
                    · refine xw_aload_n (pc := 112) C0 1 dX12_what_112 rfl rfl ?_
                      refine xw_getR (pc := 113) (f := 26) C0 211 kcX12 dX12_what_113 (by decide +kernel) tv_1287 (xj_200 hKL) xk_0 rfl (((xw_un (fun q => absurd q.1 (by decide +kernel))).trans ((xw_un (fun q => absurd q.1 (by decide +kernel))).trans ((xw_un (fun q => absurd q.1 (by decide +kernel))).trans ((xw_un (by decide +kernel)).trans ((Ft2 200 26 rfl).trans ((Ft1 200 26 rfl).trans rfl)))))).trans (xe_200_26 hG)) ?_
                      refine xw_iload_n (pc := 116) C0 0 dX12_what_116 rfl rfl ?_
                      refine xw_aload_n (pc := 117) C0 1 dX12_what_117 rfl rfl ?_
                      refine xw_getR (pc := 118) (f := 14) C0 202 kcX12 dX12_what_118 (by decide +kernel) tv_1275 (xj_200 hKL) xk_0 rfl (((xw_un (fun q => absurd q.1 (by decide +kernel))).trans ((xw_un (fun q => absurd q.1 (by decide +kernel))).trans ((xw_un (fun q => absurd q.1 (by decide +kernel))).trans ((xw_un (by decide +kernel)).trans ((Ft2 200 14 rfl).trans ((Ft1 200 14 rfl).trans rfl)))))).trans (xe_200_14 hG)) ?_
                      refine xw_bipush (pc := 121) C0 dX12_what_121 (by decide +kernel) ?_
                      refine xw_iload_n (pc := 123) C0 0 dX12_what_123 rfl rfl ?_
                      refine xw_iadd (pc := 124) C0 dX12_what_124 ?_
                      refine xw_nI (pc := 125) (congrArg Int32.ofInt (show 37 + 3 = ((40 : Nat) : Int) by decide)) ?_
                      refine xw_iald (pc := 125) (z := v 40) C0 dX12_what_125 (xj_202 hKL) xk_1 (by decide +kernel) (by decide +kernel) rfl ((xw_un (fun q => absurd q.1 (by decide +kernel))).trans ((xw_un (fun q => absurd q.1 (by decide +kernel))).trans ((xw_un (fun q => absurd q.1 (by decide +kernel))).trans ((xw_un (fun q => absurd q.1 (by decide +kernel))).trans (hN9 40 (by decide +kernel)))))) (fun g209 k209 => ?_)
                      refine xw_iast (pc := 126) C0 dX12_what_126 (xj_211 hKL) xk_82 (by omega) (by decide +kernel) (xw_rl (by omega)) (by omega) (by omega) ?_
                      refine xw_mu (μ' := (xw_u (xw_u (xw_u (xw_u (xw_u t2 200 25 ((hx_bs (fun f => hx_wo v t f (n / 2).toNat) (v 1).toNat : Nat) : Int)) 211 0 (v 37)) 211 1 (v 38)) 211 2 (v 39)) 211 3 (v 40))) rfl ?_
                      refine xw_iinc (pc := 127) (L' := [(3, .int (Int32.ofInt 4)), (0, .ref (xw_ad al 200)), (2, .int (Int32.ofInt ((hx_bs (fun f => hx_wo v t f (n / 2).toNat) (v 1).toNat : Nat) : Int)))]) C0 0 dX12_what_127 rfl (by decide +kernel) rfl ?_
                      refine xw_goto (pc := 130) (tgt := 106) C0 dX12_what_130 rfl ?_
                      refine xw_iload_n (pc := 106) C0 0 dX12_what_106 rfl rfl ?_
                      refine xw_bipush (pc := 107) C0 dX12_what_107 (by decide +kernel) ?_
                      refine xw_icmp_ge (pc := 109) (tgt := 133) C0 (by omega) (by omega) dX12_what_109 rfl (fun b210 => ?_) (fun b210 => ?_)
                      · exfalso
                        omega
                      · refine xw_aload_n (pc := 112) C0 1 dX12_what_112 rfl rfl ?_
                        refine xw_getR (pc := 113) (f := 26) C0 211 kcX12 dX12_what_113 (by decide +kernel) tv_1287 (xj_200 hKL) xk_0 rfl (((xw_un (fun q => absurd q.1 (by decide +kernel))).trans ((xw_un (fun q => absurd q.1 (by decide +kernel))).trans ((xw_un (fun q => absurd q.1 (by decide +kernel))).trans ((xw_un (fun q => absurd q.1 (by decide +kernel))).trans ((xw_un (by decide +kernel)).trans ((Ft2 200 26 rfl).trans ((Ft1 200 26 rfl).trans rfl))))))).trans (xe_200_26 hG)) ?_
                        refine xw_iload_n (pc := 116) C0 0 dX12_what_116 rfl rfl ?_
                        refine xw_aload_n (pc := 117) C0 1 dX12_what_117 rfl rfl ?_
                        refine xw_getR (pc := 118) (f := 14) C0 202 kcX12 dX12_what_118 (by decide +kernel) tv_1275 (xj_200 hKL) xk_0 rfl (((xw_un (fun q => absurd q.1 (by decide +kernel))).trans ((xw_un (fun q => absurd q.1 (by decide +kernel))).trans ((xw_un (fun q => absurd q.1 (by decide +kernel))).trans ((xw_un (fun q => absurd q.1 (by decide +kernel))).trans ((xw_un (by decide +kernel)).trans ((Ft2 200 14 rfl).trans ((Ft1 200 14 rfl).trans rfl))))))).trans (xe_200_14 hG)) ?_
                        refine xw_bipush (pc := 121) C0 dX12_what_121 (by decide +kernel) ?_
                        refine xw_iload_n (pc := 123) C0 0 dX12_what_123 rfl rfl ?_
                        refine xw_iadd (pc := 124) C0 dX12_what_124 ?_
                        refine xw_nI (pc := 125) (congrArg Int32.ofInt (show 37 + 4 = ((41 : Nat) : Int) by decide)) ?_
                        refine xw_iald (pc := 125) (z := v 41) C0 dX12_what_125 (xj_202 hKL) xk_1 (by decide +kernel) (by decide +kernel) rfl ((xw_un (fun q => absurd q.1 (by decide +kernel))).trans ((xw_un (fun q => absurd q.1 (by decide +kernel))).trans ((xw_un (fun q => absurd q.1 (by decide +kernel))).trans ((xw_un (fun q => absurd q.1 (by decide +kernel))).trans ((xw_un (fun q => absurd q.1 (by decide +kernel))).trans (hN9 41 (by decide +kernel))))))) (fun g211 k211 => ?_)
                        refine xw_iast (pc := 126) C0 dX12_what_126 (xj_211 hKL) xk_82 (by omega) (by decide +kernel) (xw_rl (by omega)) (by omega) (by omega) ?_
                        refine xw_mu (μ' := (xw_u (xw_u (xw_u (xw_u (xw_u (xw_u t2 200 25 ((hx_bs (fun f => hx_wo v t f (n / 2).toNat) (v 1).toNat : Nat) : Int)) 211 0 (v 37)) 211 1 (v 38)) 211 2 (v 39)) 211 3 (v 40)) 211 4 (v 41))) rfl ?_
                        refine xw_iinc (pc := 127) (L' := [(3, .int (Int32.ofInt 5)), (0, .ref (xw_ad al 200)), (2, .int (Int32.ofInt ((hx_bs (fun f => hx_wo v t f (n / 2).toNat) (v 1).toNat : Nat) : Int)))]) C0 0 dX12_what_127 rfl (by decide +kernel) rfl ?_
                        refine xw_goto (pc := 130) (tgt := 106) C0 dX12_what_130 rfl ?_
                        refine xw_iload_n (pc := 106) C0 0 dX12_what_106 rfl rfl ?_
                        refine xw_bipush (pc := 107) C0 dX12_what_107 (by decide +kernel) ?_
                        refine xw_icmp_ge (pc := 109) (tgt := 133) C0 (by omega) (by omega) dX12_what_109 rfl (fun b212 => ?_) (fun b212 => ?_)
                        · exfalso
                          omega
                        · refine xw_aload_n (pc := 112) C0 1 dX12_what_112 rfl rfl ?_
                          refine xw_getR (pc := 113) (f := 26) C0 211 kcX12 dX12_what_113 (by decide +kernel) tv_1287 (xj_200 hKL) xk_0 rfl (((xw_un (fun q => absurd q.1 (by decide +kernel))).trans ((xw_un (fun q => absurd q.1 (by decide +kernel))).trans ((xw_un (fun q => absurd q.1 (by decide +kernel))).trans ((xw_un (fun q => absurd q.1 (by decide +kernel))).trans ((xw_un (fun q => absurd q.1 (by decide +kernel))).trans ((xw_un (by decide +kernel)).trans ((Ft2 200 26 rfl).trans ((Ft1 200 26 rfl).trans rfl)))))))).trans (xe_200_26 hG)) ?_
                          refine xw_iload_n (pc := 116) C0 0 dX12_what_116 rfl rfl ?_
                          refine xw_aload_n (pc := 117) C0 1 dX12_what_117 rfl rfl ?_
                          refine xw_getR (pc := 118) (f := 14) C0 202 kcX12 dX12_what_118 (by decide +kernel) tv_1275 (xj_200 hKL) xk_0 rfl (((xw_un (fun q => absurd q.1 (by decide +kernel))).trans ((xw_un (fun q => absurd q.1 (by decide +kernel))).trans ((xw_un (fun q => absurd q.1 (by decide +kernel))).trans ((xw_un (fun q => absurd q.1 (by decide +kernel))).trans ((xw_un (fun q => absurd q.1 (by decide +kernel))).trans ((xw_un (by decide +kernel)).trans ((Ft2 200 14 rfl).trans ((Ft1 200 14 rfl).trans rfl)))))))).trans (xe_200_14 hG)) ?_
                          refine xw_bipush (pc := 121) C0 dX12_what_121 (by decide +kernel) ?_
                          refine xw_iload_n (pc := 123) C0 0 dX12_what_123 rfl rfl ?_
                          refine xw_iadd (pc := 124) C0 dX12_what_124 ?_
                          refine xw_nI (pc := 125) (congrArg Int32.ofInt (show 37 + 5 = ((42 : Nat) : Int) by decide)) ?_
                          refine xw_iald (pc := 125) (z := v 42) C0 dX12_what_125 (xj_202 hKL) xk_1 (by decide +kernel) (by decide +kernel) rfl ((xw_un (fun q => absurd q.1 (by decide +kernel))).trans ((xw_un (fun q => absurd q.1 (by decide +kernel))).trans ((xw_un (fun q => absurd q.1 (by decide +kernel))).trans ((xw_un (fun q => absurd q.1 (by decide +kernel))).trans ((xw_un (fun q => absurd q.1 (by decide +kernel))).trans ((xw_un (fun q => absurd q.1 (by decide +kernel))).trans (hN9 42 (by decide +kernel)))))))) (fun g213 k213 => ?_)
                          refine xw_iast (pc := 126) C0 dX12_what_126 (xj_211 hKL) xk_82 (by omega) (by decide +kernel) (xw_rl (by omega)) (by omega) (by omega) ?_
                          refine xw_mu (μ' := (xw_u (xw_u (xw_u (xw_u (xw_u (xw_u (xw_u t2 200 25 ((hx_bs (fun f => hx_wo v t f (n / 2).toNat) (v 1).toNat : Nat) : Int)) 211 0 (v 37)) 211 1 (v 38)) 211 2 (v 39)) 211 3 (v 40)) 211 4 (v 41)) 211 5 (v 42))) rfl ?_
                          refine xw_iinc (pc := 127) (L' := [(3, .int (Int32.ofInt 6)), (0, .ref (xw_ad al 200)), (2, .int (Int32.ofInt ((hx_bs (fun f => hx_wo v t f (n / 2).toNat) (v 1).toNat : Nat) : Int)))]) C0 0 dX12_what_127 rfl (by decide +kernel) rfl ?_
                          refine xw_goto (pc := 130) (tgt := 106) C0 dX12_what_130 rfl ?_
                          refine xw_iload_n (pc := 106) C0 0 dX12_what_106 rfl rfl ?_
                          refine xw_bipush (pc := 107) C0 dX12_what_107 (by decide +kernel) ?_
                          refine xw_icmp_ge (pc := 109) (tgt := 133) C0 (by omega) (by omega) dX12_what_109 rfl (fun b214 => ?_) (fun b214 => ?_)
                          · exfalso
                            omega
                          · refine xw_aload_n (pc := 112) C0 1 dX12_what_112 rfl rfl ?_
                            refine xw_getR (pc := 113) (f := 26) C0 211 kcX12 dX12_what_113 (by decide +kernel) tv_1287 (xj_200 hKL) xk_0 rfl (((xw_un (fun q => absurd q.1 (by decide +kernel))).trans ((xw_un (fun q => absurd q.1 (by decide +kernel))).trans ((xw_un (fun q => absurd q.1 (by decide +kernel))).trans ((xw_un (fun q => absurd q.1 (by decide +kernel))).trans ((xw_un (fun q => absurd q.1 (by decide +kernel))).trans ((xw_un (fun q => absurd q.1 (by decide +kernel))).trans ((xw_un (by decide +kernel)).trans ((Ft2 200 26 rfl).trans ((Ft1 200 26 rfl).trans rfl))))))))).trans (xe_200_26 hG)) ?_
                            refine xw_iload_n (pc := 116) C0 0 dX12_what_116 rfl rfl ?_
                            refine xw_aload_n (pc := 117) C0 1 dX12_what_117 rfl rfl ?_
                            refine xw_getR (pc := 118) (f := 14) C0 202 kcX12 dX12_what_118 (by decide +kernel) tv_1275 (xj_200 hKL) xk_0 rfl (((xw_un (fun q => absurd q.1 (by decide +kernel))).trans ((xw_un (fun q => absurd q.1 (by decide +kernel))).trans ((xw_un (fun q => absurd q.1 (by decide +kernel))).trans ((xw_un (fun q => absurd q.1 (by decide +kernel))).trans ((xw_un (fun q => absurd q.1 (by decide +kernel))).trans ((xw_un (fun q => absurd q.1 (by decide +kernel))).trans ((xw_un (by decide +kernel)).trans ((Ft2 200 14 rfl).trans ((Ft1 200 14 rfl).trans rfl))))))))).trans (xe_200_14 hG)) ?_
                            refine xw_bipush (pc := 121) C0 dX12_what_121 (by decide +kernel) ?_
                            refine xw_iload_n (pc := 123) C0 0 dX12_what_123 rfl rfl ?_
                            refine xw_iadd (pc := 124) C0 dX12_what_124 ?_
                            refine xw_nI (pc := 125) (congrArg Int32.ofInt (show 37 + 6 = ((43 : Nat) : Int) by decide)) ?_
                            refine xw_iald (pc := 125) (z := v 43) C0 dX12_what_125 (xj_202 hKL) xk_1 (by decide +kernel) (by decide +kernel) rfl ((xw_un (fun q => absurd q.1 (by decide +kernel))).trans ((xw_un (fun q => absurd q.1 (by decide +kernel))).trans ((xw_un (fun q => absurd q.1 (by decide +kernel))).trans ((xw_un (fun q => absurd q.1 (by decide +kernel))).trans ((xw_un (fun q => absurd q.1 (by decide +kernel))).trans ((xw_un (fun q => absurd q.1 (by decide +kernel))).trans ((xw_un (fun q => absurd q.1 (by decide +kernel))).trans (hN9 43 (by decide +kernel))))))))) (fun g215 k215 => ?_)
                            refine xw_iast (pc := 126) C0 dX12_what_126 (xj_211 hKL) xk_82 (by omega) (by decide +kernel) (xw_rl (by omega)) (by omega) (by omega) ?_
                            refine xw_mu (μ' := (xw_u (xw_u (xw_u (xw_u (xw_u (xw_u (xw_u (xw_u t2 200 25 ((hx_bs (fun f => hx_wo v t f (n / 2).toNat) (v 1).toNat : Nat) : Int)) 211 0 (v 37)) 211 1 (v 38)) 211 2 (v 39)) 211 3 (v 40)) 211 4 (v 41)) 211 5 (v 42)) 211 6 (v 43))) rfl ?_
                            refine xw_iinc (pc := 127) (L' := [(3, .int (Int32.ofInt 7)), (0, .ref (xw_ad al 200)), (2, .int (Int32.ofInt ((hx_bs (fun f => hx_wo v t f (n / 2).toNat) (v 1).toNat : Nat) : Int)))]) C0 0 dX12_what_127 rfl (by decide +kernel) rfl ?_
                            refine xw_goto (pc := 130) (tgt := 106) C0 dX12_what_130 rfl ?_
                            refine xw_iload_n (pc := 106) C0 0 dX12_what_106 rfl rfl ?_
                            refine xw_bipush (pc := 107) C0 dX12_what_107 (by decide +kernel) ?_
                            refine xw_icmp_ge (pc := 109) (tgt := 133) C0 (by omega) (by omega) dX12_what_109 rfl (fun b216 => ?_) (fun b216 => ?_)
                            · exfalso
                              omega
                            · refine xw_aload_n (pc := 112) C0 1 dX12_what_112 rfl rfl ?_
                              refine xw_getR (pc := 113) (f := 26) C0 211 kcX12 dX12_what_113 (by decide +kernel) tv_1287 (xj_200 hKL) xk_0 rfl (((xw_un (fun q => absurd q.1 (by decide +kernel))).trans ((xw_un (fun q => absurd q.1 (by decide +kernel))).trans ((xw_un (fun q => absurd q.1 (by decide +kernel))).trans ((xw_un (fun q => absurd q.1 (by decide +kernel))).trans ((xw_un (fun q => absurd q.1 (by decide +kernel))).trans ((xw_un (fun q => absurd q.1 (by decide +kernel))).trans ((xw_un (fun q => absurd q.1 (by decide +kernel))).trans ((xw_un (by decide +kernel)).trans ((Ft2 200 26 rfl).trans ((Ft1 200 26 rfl).trans rfl)))))))))).trans (xe_200_26 hG)) ?_
                              refine xw_iload_n (pc := 116) C0 0 dX12_what_116 rfl rfl ?_
                              refine xw_aload_n (pc := 117) C0 1 dX12_what_117 rfl rfl ?_
                              refine xw_getR (pc := 118) (f := 14) C0 202 kcX12 dX12_what_118 (by decide +kernel) tv_1275 (xj_200 hKL) xk_0 rfl (((xw_un (fun q => absurd q.1 (by decide +kernel))).trans ((xw_un (fun q => absurd q.1 (by decide +kernel))).trans ((xw_un (fun q => absurd q.1 (by decide +kernel))).trans ((xw_un (fun q => absurd q.1 (by decide +kernel))).trans ((xw_un (fun q => absurd q.1 (by decide +kernel))).trans ((xw_un (fun q => absurd q.1 (by decide +kernel))).trans ((xw_un (fun q => absurd q.1 (by decide +kernel))).trans ((xw_un (by decide +kernel)).trans ((Ft2 200 14 rfl).trans ((Ft1 200 14 rfl).trans rfl)))))))))).trans (xe_200_14 hG)) ?_
                              refine xw_bipush (pc := 121) C0 dX12_what_121 (by decide +kernel) ?_
                              refine xw_iload_n (pc := 123) C0 0 dX12_what_123 rfl rfl ?_
                              refine xw_iadd (pc := 124) C0 dX12_what_124 ?_
                              refine xw_nI (pc := 125) (congrArg Int32.ofInt (show 37 + 7 = ((44 : Nat) : Int) by decide)) ?_
                              refine xw_iald (pc := 125) (z := v 44) C0 dX12_what_125 (xj_202 hKL) xk_1 (by decide +kernel) (by decide +kernel) rfl ((xw_un (fun q => absurd q.1 (by decide +kernel))).trans ((xw_un (fun q => absurd q.1 (by decide +kernel))).trans ((xw_un (fun q => absurd q.1 (by decide +kernel))).trans ((xw_un (fun q => absurd q.1 (by decide +kernel))).trans ((xw_un (fun q => absurd q.1 (by decide +kernel))).trans ((xw_un (fun q => absurd q.1 (by decide +kernel))).trans ((xw_un (fun q => absurd q.1 (by decide +kernel))).trans ((xw_un (fun q => absurd q.1 (by decide +kernel))).trans (hN9 44 (by decide +kernel)))))))))) (fun g217 k217 => ?_)
                              refine xw_iast (pc := 126) C0 dX12_what_126 (xj_211 hKL) xk_82 (by omega) (by decide +kernel) (xw_rl (by omega)) (by omega) (by omega) ?_
                              refine xw_mu (μ' := (xw_u (xw_u (xw_u (xw_u (xw_u (xw_u (xw_u (xw_u (xw_u t2 200 25 ((hx_bs (fun f => hx_wo v t f (n / 2).toNat) (v 1).toNat : Nat) : Int)) 211 0 (v 37)) 211 1 (v 38)) 211 2 (v 39)) 211 3 (v 40)) 211 4 (v 41)) 211 5 (v 42)) 211 6 (v 43)) 211 7 (v 44))) rfl ?_
                              refine xw_iinc (pc := 127) (L' := [(3, .int (Int32.ofInt 8)), (0, .ref (xw_ad al 200)), (2, .int (Int32.ofInt ((hx_bs (fun f => hx_wo v t f (n / 2).toNat) (v 1).toNat : Nat) : Int)))]) C0 0 dX12_what_127 rfl (by decide +kernel) rfl ?_
                              refine xw_goto (pc := 130) (tgt := 106) C0 dX12_what_130 rfl ?_
                              refine xw_iload_n (pc := 106) C0 0 dX12_what_106 rfl rfl ?_
                              refine xw_bipush (pc := 107) C0 dX12_what_107 (by decide +kernel) ?_
                              refine xw_icmp_ge (pc := 109) (tgt := 133) C0 (by omega) (by omega) dX12_what_109 rfl (fun b218 => ?_) (fun b218 => ?_)
                              · refine xw_iload_n (pc := 133) C0 2 dX12_what_133 rfl rfl ?_
                                refine xw_iret C0 hA hr hlk rfl dX12_what_134 ?_
                                have Ft11 : xw_F [(200, 25, 25), (211, 0, 0), (211, 1, 1), (211, 2, 2), (211, 3, 3), (211, 4, 4), (211, 5, 5), (211, 6, 6), (211, 7, 7)] t2 (xw_u (xw_u (xw_u (xw_u (xw_u (xw_u (xw_u (xw_u (xw_u t2 200 25 ((hx_bs (fun f => hx_wo v t f (n / 2).toNat) (v 1).toNat : Nat) : Int)) 211 0 (v 37)) 211 1 (v 38)) 211 2 (v 39)) 211 3 (v 40)) 211 4 (v 41)) 211 5 (v 42)) 211 6 (v 43)) 211 7 (v 44)) := ((((((((((xw_F.rf (ML := [(200, 25, 25), (211, 0, 0), (211, 1, 1), (211, 2, 2), (211, 3, 3), (211, 4, 4), (211, 5, 5), (211, 6, 6), (211, 7, 7)])).u (show (200, 25, 25) ∈ _ by decide) ⟨by decide, by decide⟩).u (show (211, 0, 0) ∈ _ by decide) ⟨by decide, by decide⟩).u (show (211, 1, 1) ∈ _ by decide) ⟨by decide, by decide⟩).u (show (211, 2, 2) ∈ _ by decide) ⟨by decide, by decide⟩).u (show (211, 3, 3) ∈ _ by decide) ⟨by decide, by decide⟩).u (show (211, 4, 4) ∈ _ by decide) ⟨by decide, by decide⟩).u (show (211, 5, 5) ∈ _ by decide) ⟨by decide, by decide⟩).u (show (211, 6, 6) ∈ _ by decide) ⟨by decide, by decide⟩).u (show (211, 7, 7) ∈ _ by decide) ⟨by decide, by decide⟩)
                                have vt11_211_7 : (xw_u (xw_u (xw_u (xw_u (xw_u (xw_u (xw_u (xw_u (xw_u t2 200 25 ((hx_bs (fun f => hx_wo v t f (n / 2).toNat) (v 1).toNat : Nat) : Int)) 211 0 (v 37)) 211 1 (v 38)) 211 2 (v 39)) 211 3 (v 40)) 211 4 (v 41)) 211 5 (v 42)) 211 6 (v 43)) 211 7 (v 44)) 211 7 = v 44 := xw_ug
                                have vt11_211_6 : (xw_u (xw_u (xw_u (xw_u (xw_u (xw_u (xw_u (xw_u (xw_u t2 200 25 ((hx_bs (fun f => hx_wo v t f (n / 2).toNat) (v 1).toNat : Nat) : Int)) 211 0 (v 37)) 211 1 (v 38)) 211 2 (v 39)) 211 3 (v 40)) 211 4 (v 41)) 211 5 (v 42)) 211 6 (v 43)) 211 7 (v 44)) 211 6 = v 43 := (xw_un (by decide +kernel)).trans xw_ug
                                have vt11_211_5 : (xw_u (xw_u (xw_u (xw_u (xw_u (xw_u (xw_u (xw_u (xw_u t2 200 25 ((hx_bs (fun f => hx_wo v t f (n / 2).toNat) (v 1).toNat : Nat) : Int)) 211 0 (v 37)) 211 1 (v 38)) 211 2 (v 39)) 211 3 (v 40)) 211 4 (v 41)) 211 5 (v 42)) 211 6 (v 43)) 211 7 (v 44)) 211 5 = v 42 := (xw_un (by decide +kernel)).trans ((xw_un (by decide +kernel)).trans xw_ug)
                                have vt11_211_4 : (xw_u (xw_u (xw_u (xw_u (xw_u (xw_u (xw_u (xw_u (xw_u t2 200 25 ((hx_bs (fun f => hx_wo v t f (n / 2).toNat) (v 1).toNat : Nat) : Int)) 211 0 (v 37)) 211 1 (v 38)) 211 2 (v 39)) 211 3 (v 40)) 211 4 (v 41)) 211 5 (v 42)) 211 6 (v 43)) 211 7 (v 44)) 211 4 = v 41 := (xw_un (by decide +kernel)).trans ((xw_un (by decide +kernel)).trans ((xw_un (by decide +kernel)).trans xw_ug))
                                have vt11_211_3 : (xw_u (xw_u (xw_u (xw_u (xw_u (xw_u (xw_u (xw_u (xw_u t2 200 25 ((hx_bs (fun f => hx_wo v t f (n / 2).toNat) (v 1).toNat : Nat) : Int)) 211 0 (v 37)) 211 1 (v 38)) 211 2 (v 39)) 211 3 (v 40)) 211 4 (v 41)) 211 5 (v 42)) 211 6 (v 43)) 211 7 (v 44)) 211 3 = v 40 := (xw_un (by decide +kernel)).trans ((xw_un (by decide +kernel)).trans ((xw_un (by decide +kernel)).trans ((xw_un (by decide +kernel)).trans xw_ug)))
                                have vt11_211_2 : (xw_u (xw_u (xw_u (xw_u (xw_u (xw_u (xw_u (xw_u (xw_u t2 200 25 ((hx_bs (fun f => hx_wo v t f (n / 2).toNat) (v 1).toNat : Nat) : Int)) 211 0 (v 37)) 211 1 (v 38)) 211 2 (v 39)) 211 3 (v 40)) 211 4 (v 41)) 211 5 (v 42)) 211 6 (v 43)) 211 7 (v 44)) 211 2 = v 39 := (xw_un (by decide +kernel)).trans ((xw_un (by decide +kernel)).trans ((xw_un (by decide +kernel)).trans ((xw_un (by decide +kernel)).trans ((xw_un (by decide +kernel)).trans xw_ug))))
                                have vt11_211_1 : (xw_u (xw_u (xw_u (xw_u (xw_u (xw_u (xw_u (xw_u (xw_u t2 200 25 ((hx_bs (fun f => hx_wo v t f (n / 2).toNat) (v 1).toNat : Nat) : Int)) 211 0 (v 37)) 211 1 (v 38)) 211 2 (v 39)) 211 3 (v 40)) 211 4 (v 41)) 211 5 (v 42)) 211 6 (v 43)) 211 7 (v 44)) 211 1 = v 38 := (xw_un (by decide +kernel)).trans ((xw_un (by decide +kernel)).trans ((xw_un (by decide +kernel)).trans ((xw_un (by decide +kernel)).trans ((xw_un (by decide +kernel)).trans ((xw_un (by decide +kernel)).trans xw_ug)))))
                                have vt11_211_0 : (xw_u (xw_u (xw_u (xw_u (xw_u (xw_u (xw_u (xw_u (xw_u t2 200 25 ((hx_bs (fun f => hx_wo v t f (n / 2).toNat) (v 1).toNat : Nat) : Int)) 211 0 (v 37)) 211 1 (v 38)) 211 2 (v 39)) 211 3 (v 40)) 211 4 (v 41)) 211 5 (v 42)) 211 6 (v 43)) 211 7 (v 44)) 211 0 = v 37 := (xw_un (by decide +kernel)).trans ((xw_un (by decide +kernel)).trans ((xw_un (by decide +kernel)).trans ((xw_un (by decide +kernel)).trans ((xw_un (by decide +kernel)).trans ((xw_un (by decide +kernel)).trans ((xw_un (by decide +kernel)).trans xw_ug))))))
                                have vt11_200_25 : (xw_u (xw_u (xw_u (xw_u (xw_u (xw_u (xw_u (xw_u (xw_u t2 200 25 ((hx_bs (fun f => hx_wo v t f (n / 2).toNat) (v 1).toNat : Nat) : Int)) 211 0 (v 37)) 211 1 (v 38)) 211 2 (v 39)) 211 3 (v 40)) 211 4 (v 41)) 211 5 (v 42)) 211 6 (v 43)) 211 7 (v 44)) 200 25 = ((hx_bs (fun f => hx_wo v t f (n / 2).toNat) (v 1).toNat : Nat) : Int) := (xw_un (fun q => absurd q.1 (by decide +kernel))).trans ((xw_un (fun q => absurd q.1 (by decide +kernel))).trans ((xw_un (fun q => absurd q.1 (by decide +kernel))).trans ((xw_un (fun q => absurd q.1 (by decide +kernel))).trans ((xw_un (fun q => absurd q.1 (by decide +kernel))).trans ((xw_un (fun q => absurd q.1 (by decide +kernel))).trans ((xw_un (fun q => absurd q.1 (by decide +kernel))).trans ((xw_un (fun q => absurd q.1 (by decide +kernel))).trans xw_ug)))))))
                                generalize (xw_u (xw_u (xw_u (xw_u (xw_u (xw_u (xw_u (xw_u (xw_u t2 200 25 ((hx_bs (fun f => hx_wo v t f (n / 2).toNat) (v 1).toNat : Nat) : Int)) 211 0 (v 37)) 211 1 (v 38)) 211 2 (v 39)) 211 3 (v 40)) 211 4 (v 41)) 211 5 (v 42)) 211 6 (v 43)) 211 7 (v 44)) = t11 at Ft11 vt11_211_7 vt11_211_6 vt11_211_5 vt11_211_4 vt11_211_3 vt11_211_2 vt11_211_1 vt11_211_0 vt11_200_25 ⊢
                                refine ⟨_, rfl, Or.inl ⟨hacc, rfl⟩, (Ft11 200 2 (by decide +kernel)).trans y9, Or.inr ⟨((((xw_F.rf (ML := [(200, 0, 0), (200, 2, 2), (200, 25, 25), (211, 0, 7)])).tr Ft1 (fun j i h => xw_o_sub (by decide +kernel) j i h)).tr Ft2 (fun j i h => xw_o_sub (by decide +kernel) j i h)).tr Ft11 (fun j i h => xw_o_sub (by decide +kernel) j i h)), fun f hf hp => ?_⟩⟩
                                rw [vt11_200_25] at hp
                                have q9 := hx_wq hK hf (hx_bsB (v 1).toNat) hp
                                rcases (show f = 0 ∨ f = 1 ∨ f = 2 ∨ f = 3 ∨ f = 4 ∨ f = 5 ∨ f = 6 ∨ f = 7 by omega) with rfl | rfl | rfl | rfl | rfl | rfl | rfl | rfl
                                · rw [vt11_211_0]; exact q9
                                · rw [vt11_211_1]; exact q9
                                · rw [vt11_211_2]; exact q9
                                · rw [vt11_211_3]; exact q9
                                · rw [vt11_211_4]; exact q9
                                · rw [vt11_211_5]; exact q9
                                · rw [vt11_211_6]; exact q9
                                · rw [vt11_211_7]; exact q9
                              · exfalso
                                omega
            · refine xw_iconst (pc := 97) C0 dX12_what_97 ?_
              refine xw_iret C0 hA hr hlk rfl dX12_what_98 ?_
              exact ⟨_, rfl, Or.inl ⟨hacc, by unfold hx_wr; omega⟩, y9, Or.inl (((xw_F.rf (ML := [(200, 0, 0), (200, 2, 2)])).tr Ft1 (fun j i h => xw_o_sub (by decide +kernel) j i h)).tr Ft2 (fun j i h => xw_o_sub (by decide +kernel) j i h))⟩
          · refine xw_iconst (pc := 50) C0 dX12_what_50 ?_
            refine xw_iret C0 hA hr hlk rfl dX12_what_51 ?_
            exact ⟨_, rfl, Or.inr ⟨fun q => absurd q.2.2.2 (by rw [hx_wtN (t := t) hw (n / 2).toNat (by omega)]; exact Bool.false_ne_true), rfl⟩, y9, Or.inl (((xw_F.rf (ML := [(200, 0, 0), (200, 2, 2)])).tr Ft1 (fun j i h => xw_o_sub (by decide +kernel) j i h)).tr Ft2 (fun j i h => xw_o_sub (by decide +kernel) j i h))⟩
        · exfalso
          omega
      · refine xw_if_ne (pc := 25) (tgt := 30) C0 (by omega) dX12_what_25 rfl (fun b5 => ?_) (fun b5 => ?_)
        · exfalso
          omega
        · refine xw_iconst (pc := 28) C0 dX12_what_28 ?_
          refine xw_iret C0 hA hr hlk rfl dX12_what_29 ?_
          exact ⟨_, rfl, Or.inr ⟨fun q => by obtain ⟨q1, q2, q3, -⟩ := q; omega, rfl⟩, y9, Or.inl (((xw_F.rf (ML := [(200, 0, 0), (200, 2, 2)])).tr Ft1 (fun j i h => xw_o_sub (by decide +kernel) j i h)).tr Ft2 (fun j i h => xw_o_sub (by decide +kernel) j i h))⟩)
