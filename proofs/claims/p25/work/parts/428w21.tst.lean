set_option maxRecDepth 20000 in
set_option maxHeartbeats 20000000 in
theorem xr_planV {l : Launch} {v nm : Nat → Int} {t9 s9 w9 : Int} {μ : xw_M} (hG : xw_G xw_GL μ) (ht9 : -2147483648 ≤ t9 ∧ t9 ≤ 2147483647) (hs9 : -2147483648 ≤ s9 ∧ s9 ≤ 2147483647) (hw9 : -2147483648 ≤ w9 ∧ w9 ≤ 2147483647) (hK : hp_ok v nm) (hN : ∀ k : Nat, k < 77 → μ 202 k = v k) : xw_MetI l vwCl sa_Ts tb_KT0 tc_KL yX12_plan cX12_plan 5 (some .int) 7 251 (fun ad => [.ref (ad 200), .int (Int32.ofInt t9), .int (Int32.ofInt s9), .int (Int32.ofInt w9)]) μ (fun r μ' => ((hx_plk v t9 s9 w9 ∧ r = hx_pr v t9 s9 w9 ∧ hx_bR (hx_pq v t9 s9) μ' ∧ μ' 200 0 = 0) ∨ (¬ hx_plk v t9 s9 w9 ∧ r = 0 ∧ μ' 200 0 = 1 ∧ xw_F [(200, 0, 0), (212, 0, 7)] μ μ')) ∧ xw_F [(200, 0, 0), (212, 0, 31), (213, 0, 3), (214, 0, 3), (200, 30, 31)] μ μ') :=
  xw_of (by decide +kernel) (fun _ => Nat.le_of_ble_eq_true rfl) (fun p e s m args below meth c D dA A al w0 sz C0 hU hO hKL hr hlk hA => by
    have k0 := hK.1
    have k1 := hK.2.1
    refine xw_aload_n (pc := 0) C0 0 dX12_plan_0 rfl rfl ?_
    refine xw_iconst (pc := 1) C0 dX12_plan_1 ?_
    refine xw_putI (pc := 2) (f := 0) C0 kcX12 dX12_plan_2 (by decide +kernel) tv_1261 rfl rfl (xj_200 hKL) xk_0 rfl (by omega) (by omega) ?_
    refine xw_aload_n (pc := 5) C0 0 dX12_plan_5 rfl rfl ?_
    refine xw_iload_n (pc := 6) C0 1 dX12_plan_6 rfl rfl ?_
    have Ft1 : xw_F [(200, 0, 0)] μ (xw_u μ 200 0 0) := ((xw_F.rf (ML := [(200, 0, 0)])).u (show (200, 0, 0) ∈ _ by decide) ⟨by decide, by decide⟩)
    have vt1_200_0 : (xw_u μ 200 0 0) 200 0 = 0 := xw_ug
    generalize (xw_u μ 200 0 0) = t1 at Ft1 vt1_200_0 ⊢
    have hG_t1 := xw_GF hG Ft1 (by decide +kernel)
    have hN9 : ∀ k : Nat, k < 77 → t1 202 k = v k := fun k hk => (Ft1 202 k (xw_oj (by decide +kernel) k)).trans (hN k hk)
    have y9 : t1 202 0 = v 0 := hN9 0 (by decide +kernel)
    refine xw_callVI (pc := 7) (μ := t1) (ci := 12) (rest := []) (As := [.int (Int32.ofInt t9)]) C0 hU hO sa_Tg hKL (xr_isThing (l := l) (v := t9) hG_t1 (by omega)) tv_1521 dX12_plan_7 tv_1518 tv_1520 tq_X12_isThing tv_13 rfl yb_X12_isThing (by decide +kernel) rfl rfl rfl (by decide +kernel) (Nat.le_of_ble_eq_true rfl) (xj_200 hKL) xk_0 (fun r1 m1 w1 => ?_)
    obtain ⟨rfl, w1⟩ := w1
    rcases w1 with ⟨w1, rfl⟩ | ⟨w1, rfl⟩
    · refine xw_if_eq (pc := 10) (tgt := 39) C0 (by omega) dX12_plan_10 rfl (fun b2 => ?_) (fun b2 => ?_)
      · exfalso
        omega
      · refine xw_iload_n (pc := 13) C0 2 dX12_plan_13 rfl rfl ?_
        refine xw_iconst (pc := 14) C0 dX12_plan_14 ?_
        refine xw_icmp_lt (pc := 15) (tgt := 39) C0 (by omega) (by omega) dX12_plan_15 rfl (fun b3 => ?_) (fun b3 => ?_)
        · refine xw_aload_n (pc := 39) C0 0 dX12_plan_39 rfl rfl ?_
          refine xw_callVI (pc := 40) (μ := t1) (ci := 12) (rest := []) (As := []) C0 hU hO sa_Tg hKL (xm_refuse (l := l) (μ := t1) hG_t1) tv_1525 dX12_plan_40 tv_1522 tv_1524 tq_X12_refuse tv_13 rfl yb_X12_refuse (by decide +kernel) rfl rfl rfl (by decide +kernel) (Nat.le_of_ble_eq_true rfl) (xj_200 hKL) xk_0 (fun r4 m4 w4 => ?_)
          obtain ⟨rfl, rfl⟩ := w4
          refine xw_iret C0 hA hr hlk rfl dX12_plan_43 ?_
          have Ft2 : xw_F [(200, 0, 0)] t1 (xw_u t1 200 0 1) := ((xw_F.rf (ML := [(200, 0, 0)])).u (show (200, 0, 0) ∈ _ by decide) ⟨by decide, by decide⟩)
          have vt2_200_0 : (xw_u t1 200 0 1) 200 0 = 1 := xw_ug
          generalize (xw_u t1 200 0 1) = t2 at Ft2 vt2_200_0 ⊢
          exact ⟨_, rfl, Or.inr ⟨fun q => by obtain ⟨q1, ⟨q2, -⟩, q4⟩ := q; omega, rfl, vt2_200_0, (((xw_F.rf (ML := [(200, 0, 0), (212, 0, 7)])).tr Ft1 (fun j i h => xw_o_sub (by decide +kernel) j i h)).tr Ft2 (fun j i h => xw_o_sub (by decide +kernel) j i h))⟩, (((xw_F.rf (ML := [(200, 0, 0), (212, 0, 31), (213, 0, 3), (214, 0, 3), (200, 30, 31)])).tr Ft1 (fun j i h => xw_o_sub (by decide +kernel) j i h)).tr Ft2 (fun j i h => xw_o_sub (by decide +kernel) j i h))⟩
        · refine xw_iload_n (pc := 18) C0 2 dX12_plan_18 rfl rfl ?_
          refine xw_iconst (pc := 19) C0 dX12_plan_19 ?_
          refine xw_aload_n (pc := 20) C0 0 dX12_plan_20 rfl rfl ?_
          refine xw_getR (pc := 21) (f := 14) C0 202 kcX12 dX12_plan_21 (by decide +kernel) tv_1275 (xj_200 hKL) xk_0 rfl (((Ft1 200 14 rfl).trans rfl).trans (xe_200_14 hG)) ?_
          refine xw_iconst (pc := 24) C0 dX12_plan_24 ?_
          refine xw_iald (pc := 25) (z := v 1) C0 dX12_plan_25 (xj_202 hKL) xk_1 (by omega) (by decide +kernel) rfl (hN9 1 (by decide +kernel)) (fun g5 k5 => ?_)
          refine xw_nI (pc := 26) (congrArg Int32.ofInt (show v 1 = (((v 1).toNat : Nat) : Int) by omega)) ?_
          refine xw_ishl (pc := 26) C0 dX12_plan_26 (xb_shM (f := (v 1).toNat) (by omega)) ?_
          have e2q : ((2 ^ (v 1).toNat : Nat) : Int) = (2 : Int) ^ (v 1).toNat := by push_cast; rfl
          have e2r : 2 ^ (v 1).toNat ≤ 2 ^ 8 := Nat.pow_le_pow_right (by decide +kernel) (by omega)
          have e2s : (2 : Nat) ^ 8 = 256 := by decide
          have e2t := hx_p2 (v 1).toNat 8 (by omega)
          refine xw_icmp_ge (pc := 27) (tgt := 39) C0 (by omega) (by omega) dX12_plan_27 rfl (fun b6 => ?_) (fun b6 => ?_)
          · refine xw_aload_n (pc := 39) C0 0 dX12_plan_39 rfl rfl ?_
            refine xw_callVI (pc := 40) (μ := t1) (ci := 12) (rest := []) (As := []) C0 hU hO sa_Tg hKL (xm_refuse (l := l) (μ := t1) hG_t1) tv_1525 dX12_plan_40 tv_1522 tv_1524 tq_X12_refuse tv_13 rfl yb_X12_refuse (by decide +kernel) rfl rfl rfl (by decide +kernel) (Nat.le_of_ble_eq_true rfl) (xj_200 hKL) xk_0 (fun r7 m7 w7 => ?_)
            obtain ⟨rfl, rfl⟩ := w7
            refine xw_iret C0 hA hr hlk rfl dX12_plan_43 ?_
            have Ft3 : xw_F [(200, 0, 0)] t1 (xw_u t1 200 0 1) := ((xw_F.rf (ML := [(200, 0, 0)])).u (show (200, 0, 0) ∈ _ by decide) ⟨by decide, by decide⟩)
            have vt3_200_0 : (xw_u t1 200 0 1) 200 0 = 1 := xw_ug
            generalize (xw_u t1 200 0 1) = t3 at Ft3 vt3_200_0 ⊢
            exact ⟨_, rfl, Or.inr ⟨fun q => by obtain ⟨q1, ⟨q2, -⟩, q4⟩ := q; omega, rfl, vt3_200_0, (((xw_F.rf (ML := [(200, 0, 0), (212, 0, 7)])).tr Ft1 (fun j i h => xw_o_sub (by decide +kernel) j i h)).tr Ft3 (fun j i h => xw_o_sub (by decide +kernel) j i h))⟩, (((xw_F.rf (ML := [(200, 0, 0), (212, 0, 31), (213, 0, 3), (214, 0, 3), (200, 30, 31)])).tr Ft1 (fun j i h => xw_o_sub (by decide +kernel) j i h)).tr Ft3 (fun j i h => xw_o_sub (by decide +kernel) j i h))⟩
          · refine xw_iload_n (pc := 30) C0 3 dX12_plan_30 rfl rfl ?_
            refine xw_iconst (pc := 31) C0 dX12_plan_31 ?_
            refine xw_iconst (pc := 32) C0 dX12_plan_32 ?_
            refine xw_callSI (pc := 33) (μ := t1) (rest := []) (As := [.int (Int32.ofInt w9), .int (Int32.ofInt 0), .int (Int32.ofInt 1)]) C0 hU hO sa_Tg hKL (xm_isIn (l := l) (v := w9) (a := 0) (b := 1) (by omega) (by omega) (by omega)) tv_1481 dX12_plan_33 tv_1479 tv_1480 tv_13 yb_X12_isIn (by decide +kernel) rfl rfl rfl (by decide +kernel) (Nat.le_of_ble_eq_true rfl) (fun r8 m8 w8 => ?_)
            obtain ⟨rfl, w8⟩ := w8
            rcases w8 with ⟨w8, rfl⟩ | ⟨w8, rfl⟩
            · refine xw_if_ne (pc := 36) (tgt := 44) C0 (by omega) dX12_plan_36 rfl (fun b10 => ?_) (fun b10 => ?_)
              · refine xw_iconst (pc := 44) C0 dX12_plan_44 ?_
                refine xw_istore (pc := 45) (L' := [(4, .int (Int32.ofInt 0)), (0, .ref (xw_ad al 200)), (1, .int (Int32.ofInt t9)), (2, .int (Int32.ofInt s9)), (3, .int (Int32.ofInt w9))]) C0 dX12_plan_45 (by decide +kernel) rfl ?_
                obtain ⟨T, hT9⟩ : ∃ T : Nat, t9 = (T : Int) := ⟨t9.toNat, by omega⟩
                have hT : (T : Int) < v 0 := by omega
                have eT : t9.toNat = T := by omega
                obtain ⟨eS, s8⟩ := hx_pN (s9 := s9) hK (by omega)
                have hlt : s9.toNat < 2 ^ (v 1).toNat := by omega
                have hb9 : ∀ i : Nat, s9.toNat.testBit i = true → i < (v 1).toNat := fun i hi => by
                  rcases Nat.lt_or_ge i (v 1).toNat with q | q
                  · exact q
                  · rw [Nat.testBit_lt_two_pow (Nat.lt_of_lt_of_le hlt (Nat.pow_le_pow_right (by decide +kernel) q))] at hi
                    cases hi
                subst hT9
                refine xw_pk [1, 2, 3, 4, 0] (L' := [(0, .ref (xw_ad al 200)), (1, .int (Int32.ofInt (T : Int))), (2, .int (Int32.ofInt s9)), (3, .int (Int32.ofInt w9)), (4, .int (Int32.ofInt ((0 : Nat) : Int)))]) rfl ?_
                refine xr_plL (v := v) (nm := nm) (T := T) (s9 := s9) (w9 := w9) (μ := t1) C0 hU hO hKL hG_t1 hK hN9 eS hb9 (by omega) hw9 (fun ν hz hq hF hG_ν => ?_) (fun ν hq hF hG_ν => ?_) 9 0 t1 (by omega) (Nat.zero_le _) (fun i h => absurd h (Nat.not_lt_zero i)) (fun i h => absurd h (Nat.not_lt_zero i)) xw_F.rf hG_t1
                · refine xw_aload_n (pc := 122) C0 0 dX12_plan_122 rfl rfl ?_
                  refine xw_iconst (pc := 123) C0 dX12_plan_123 ?_
                  have hP9 : ∀ f : Nat, f < 8 → ν 212 (8 * 0 + f) = (hx_w0 v (fun j => s9.toNat.testBit j) (v 1).toNat) f := fun f hf => by
                    rw [show 8 * 0 + f = f by omega]
                    exact hz f hf
                  refine xw_callVI (pc := 124) (μ := ν) (ci := 12) (rest := []) (As := [.int (Int32.ofInt 0)]) C0 hU hO sa_Tg hKL (xr_la (l := l) (W := (hx_w0 v (fun j => s9.toNat.testBit j) (v 1).toNat)) (k := 0) (μ := ν) hG_ν (by decide +kernel) hP9) tv_1671 dX12_plan_124 tv_1668 tv_1670 tq_X12_leftAt tv_13 rfl yb_X12_leftAt (by decide +kernel) rfl rfl rfl (by decide +kernel) (Nat.le_of_ble_eq_true rfl) (xj_200 hKL) xk_0 (fun r51 m51 w51 => ?_)
                  obtain ⟨rfl, rfl⟩ := w51
                  have s7 := hx_smB (W := (hx_w0 v (fun j => s9.toNat.testBit j) (v 1).toNat)) 8 (fun f hf => hx_w0B hK hf)
                  refine xw_istore (pc := 127) (L' := [(4, .int (Int32.ofInt (hx_sm (hx_w0 v (fun j => s9.toNat.testBit j) (v 1).toNat) 8))), (0, .ref (xw_ad al 200)), (1, .int (Int32.ofInt (T : Int))), (2, .int (Int32.ofInt s9)), (3, .int (Int32.ofInt w9))]) C0 dX12_plan_127 (by decide +kernel) rfl ?_
                  refine xw_aload_n (pc := 129) C0 1 dX12_plan_129 rfl rfl ?_
                  refine xw_ldcw (pc := 130) (z := 2000000000) C0 dX12_plan_130 tv_1672 ?_
                  refine xw_putI (pc := 133) (f := 31) C0 kcX12 dX12_plan_133 (by decide +kernel) tv_1292 rfl rfl (xj_200 hKL) xk_0 rfl (by omega) (by omega) ?_
                  refine xw_aload_n (pc := 136) C0 1 dX12_plan_136 rfl rfl ?_
                  refine xw_iload_n (pc := 137) C0 2 dX12_plan_137 rfl rfl ?_
                  refine xw_iconst (pc := 138) C0 dX12_plan_138 ?_
                  refine xw_iconst (pc := 139) C0 dX12_plan_139 ?_
                  refine xw_iconst (pc := 140) C0 dX12_plan_140 ?_
                  have Ft21 : xw_F [(200, 31, 31)] ν (xw_u ν 200 31 2000000000) := ((xw_F.rf (ML := [(200, 31, 31)])).u (show (200, 31, 31) ∈ _ by decide) ⟨by decide, by decide⟩)
                  have vt21_200_31 : (xw_u ν 200 31 2000000000) 200 31 = 2000000000 := xw_ug
                  generalize (xw_u ν 200 31 2000000000) = t21 at Ft21 vt21_200_31 ⊢
                  have hG_t21 := xw_GF hG_ν Ft21 (by decide +kernel)
                  have hN8 : ∀ k : Nat, k < 77 → t21 202 k = v k := fun k hk => (Ft21 202 k (xw_oj (by decide +kernel) k)).trans ((hF 202 k (xw_oj (by decide +kernel) k)).trans (hN9 k hk))
                  have hB9 : hx_bR (((2000000000 : Int), (0 : Int), (fun _ => 0 : Nat → Int)) : hx_pB) t21 := ⟨⟨by decide, by decide, vt21_200_31⟩, fun q => absurd q (by decide +kernel)⟩
                  refine xw_callVV (pc := 141) (μ := t21) (ci := 12) (rest := []) (As := [.int (Int32.ofInt (T : Int)), .int (Int32.ofInt 0), .int (Int32.ofInt 0), .int (Int32.ofInt 0)]) C0 hU hO sa_Tg hKL (xr_tr0 (l := l) (v := v) (nm := nm) (W := (hx_w0 v (fun j => s9.toNat.testBit j) (v 1).toNat)) (row := fun _ => 0) (T := T) (dn := 0) (B := (((2000000000 : Int), (0 : Int), (fun _ => 0 : Nat → Int)) : hx_pB)) (c9 := 0) (μ := t21) hG_t21 hK hN8 hT (fun f hf => hx_w0B hK hf) (fun f hf => (Ft21 212 (0 + f) (xw_oj (by decide +kernel) _)).trans (by rw [Nat.zero_add]; exact hz f hf)) (fun i hi => absurd hi (Nat.not_lt_zero i)) hB9 (by decide +kernel) rfl (by decide +kernel) (by omega)) tv_1676 dX12_plan_141 tv_1673 tv_1675 tq_X12_planFrom tv_13 rfl yb_X12_planFrom (by decide +kernel) rfl rfl rfl (by decide +kernel) (Nat.le_of_ble_eq_true rfl) (xj_200 hKL) xk_0 (fun m52 w52 => ?_)
                  obtain ⟨H52, F52⟩ := w52
                  have hG_m52 := xw_GF hG_t21 F52 (by decide +kernel)
                  have L9 := hx_pSL (v := v) (nm := nm) (p := (fun j => s9.toNat.testBit j)) (T := T) hK (by omega)
                  have A9 : m52 200 31 = (hx_pS v (fun j => s9.toNat.testBit j) T).1 ∧ 0 ≤ (hx_pS v (fun j => s9.toNat.testBit j) T).1 := ⟨H52.1.2.2, H52.1.1⟩
                  have g9 : 0 < Nat.gcd (hx_sm (hx_w0 v (fun j => s9.toNat.testBit j) (v 1).toNat) 8).toNat (hx_pS v (fun j => s9.toNat.testBit j) T).1.toNat := Nat.gcd_pos_of_pos_left _ (by omega)
                  have g8 : Nat.gcd (hx_sm (hx_w0 v (fun j => s9.toNat.testBit j) (v 1).toNat) 8).toNat (hx_pS v (fun j => s9.toNat.testBit j) T).1.toNat ≤ (hx_sm (hx_w0 v (fun j => s9.toNat.testBit j) (v 1).toNat) 8).toNat := Nat.gcd_le_left _ (by omega)
                  refine xw_iload_n (pc := 144) C0 4 dX12_plan_144 rfl rfl ?_
                  refine xw_if_ne (pc := 145) (tgt := 155) C0 (by omega) dX12_plan_145 rfl (fun b53 => ?_) (fun b53 => ?_)
                  · refine xw_iload (pc := 155) C0 0 dX12_plan_155 rfl ?_
                    refine xw_nI (congrArg Int32.ofInt (show hx_sm (hx_w0 v (fun j => s9.toNat.testBit j) (v 1).toNat) 8 = (((hx_sm (hx_w0 v (fun j => s9.toNat.testBit j) (v 1).toNat) 8).toNat : Nat) : Int) by omega)) ?_
                    refine xw_iload (pc := 157) C0 0 dX12_plan_157 rfl ?_
                    refine xw_nI (congrArg Int32.ofInt (show hx_sm (hx_w0 v (fun j => s9.toNat.testBit j) (v 1).toNat) 8 = (((hx_sm (hx_w0 v (fun j => s9.toNat.testBit j) (v 1).toNat) 8).toNat : Nat) : Int) by omega)) ?_
                    refine xw_aload_n (pc := 159) C0 1 dX12_plan_159 rfl rfl ?_
                    refine xw_getI (pc := 160) (f := 31) (z := m52 200 31) C0 kcX12 dX12_plan_160 (by decide +kernel) tv_1292 (xj_200 hKL) xk_0 rfl (rfl) (fun g54 k54 => ?_)
                    refine xw_nI (congrArg Int32.ofInt (show m52 200 31 = (((hx_pS v (fun j => s9.toNat.testBit j) T).1.toNat : Nat) : Int) by omega)) ?_
                    refine xw_callSI (pc := 163) (μ := m52) (rest := [.int (Int32.ofInt (((hx_sm (hx_w0 v (fun j => s9.toNat.testBit j) (v 1).toNat) 8).toNat : Nat) : Int))]) (As := [.int (Int32.ofInt (((hx_sm (hx_w0 v (fun j => s9.toNat.testBit j) (v 1).toNat) 8).toNat : Nat) : Int)), .int (Int32.ofInt (((hx_pS v (fun j => s9.toNat.testBit j) T).1.toNat : Nat) : Int))]) C0 hU hO sa_Tg hKL (xr_cm (l := l) (A9 := (hx_sm (hx_w0 v (fun j => s9.toNat.testBit j) (v 1).toNat) 8).toNat) (B9 := (hx_pS v (fun j => s9.toNat.testBit j) T).1.toNat) (μ := m52) hG_m52 (by omega) (by omega)) tv_1663 dX12_plan_163 tv_1661 tv_1662 tv_13 yb_X12_common (by decide +kernel) rfl rfl rfl (by decide +kernel) (Nat.le_of_ble_eq_true rfl) (fun r55 m55 w55 => ?_)
                    obtain ⟨rfl, rfl⟩ := w55
                    refine xw_idiv (pc := 166) C0 (by omega) (by omega) dX12_plan_166 ?_
                    refine xw_iret C0 hA hr hlk rfl dX12_plan_167 ?_
                    have r9 : (((hx_sm (hx_w0 v (fun j => s9.toNat.testBit j) (v 1).toNat) 8).toNat : Nat) : Int) / ((Nat.gcd (hx_sm (hx_w0 v (fun j => s9.toNat.testBit j) (v 1).toNat) 8).toNat (hx_pS v (fun j => s9.toNat.testBit j) T).1.toNat : Nat) : Int) = hx_pr v (T : Int) s9 w9 := by
                      unfold hx_pr hx_pq hx_pw hx_lt
                      rw [eT, Nat.gcd_comm, if_neg (by omega)]
                    refine ⟨_, rfl, Or.inl ⟨⟨by omega, ⟨by omega, fun f hf h => (hq f hf h)⟩, by omega⟩, r9, ?_, ((F52 200 0 rfl).trans ((Ft21 200 0 rfl).trans ((hF 200 0 rfl).trans rfl))).trans vt1_200_0⟩, (((((xw_F.rf (ML := [(200, 0, 0), (212, 0, 31), (213, 0, 3), (214, 0, 3), (200, 30, 31)])).tr Ft1 (fun j i h => xw_o_sub (by decide +kernel) j i h)).tr hF (fun j i h => xw_o_sub (by decide +kernel) j i h)).tr Ft21 (fun j i h => xw_o_sub (by decide +kernel) j i h)).tr F52 (fun j i h => xw_o_sub (by decide +kernel) j i h))⟩
                    unfold hx_pq
                    rw [eT]
                    exact H52
                  · refine xw_aload_n (pc := 148) C0 1 dX12_plan_148 rfl rfl ?_
                    refine xw_getI (pc := 149) (f := 31) (z := m52 200 31) C0 kcX12 dX12_plan_149 (by decide +kernel) tv_1292 (xj_200 hKL) xk_0 rfl (rfl) (fun g56 k56 => ?_)
                    refine xw_nI (congrArg Int32.ofInt (show m52 200 31 = (((hx_pS v (fun j => s9.toNat.testBit j) T).1.toNat : Nat) : Int) by omega)) ?_
                    refine xw_goto (pc := 152) (tgt := 157) C0 dX12_plan_152 rfl ?_
                    refine xw_iload (pc := 157) C0 0 dX12_plan_157 rfl ?_
                    refine xw_nI (congrArg Int32.ofInt (show hx_sm (hx_w0 v (fun j => s9.toNat.testBit j) (v 1).toNat) 8 = (((hx_sm (hx_w0 v (fun j => s9.toNat.testBit j) (v 1).toNat) 8).toNat : Nat) : Int) by omega)) ?_
                    refine xw_aload_n (pc := 159) C0 1 dX12_plan_159 rfl rfl ?_
                    refine xw_getI (pc := 160) (f := 31) (z := m52 200 31) C0 kcX12 dX12_plan_160 (by decide +kernel) tv_1292 (xj_200 hKL) xk_0 rfl (rfl) (fun g57 k57 => ?_)
                    refine xw_nI (congrArg Int32.ofInt (show m52 200 31 = (((hx_pS v (fun j => s9.toNat.testBit j) T).1.toNat : Nat) : Int) by omega)) ?_
                    refine xw_callSI (pc := 163) (μ := m52) (rest := [.int (Int32.ofInt (((hx_pS v (fun j => s9.toNat.testBit j) T).1.toNat : Nat) : Int))]) (As := [.int (Int32.ofInt (((hx_sm (hx_w0 v (fun j => s9.toNat.testBit j) (v 1).toNat) 8).toNat : Nat) : Int)), .int (Int32.ofInt (((hx_pS v (fun j => s9.toNat.testBit j) T).1.toNat : Nat) : Int))]) C0 hU hO sa_Tg hKL (xr_cm (l := l) (A9 := (hx_sm (hx_w0 v (fun j => s9.toNat.testBit j) (v 1).toNat) 8).toNat) (B9 := (hx_pS v (fun j => s9.toNat.testBit j) T).1.toNat) (μ := m52) hG_m52 (by omega) (by omega)) tv_1663 dX12_plan_163 tv_1661 tv_1662 tv_13 yb_X12_common (by decide +kernel) rfl rfl rfl (by decide +kernel) (Nat.le_of_ble_eq_true rfl) (fun r58 m58 w58 => ?_)
                    obtain ⟨rfl, rfl⟩ := w58
                    refine xw_idiv (pc := 166) C0 (by omega) (by omega) dX12_plan_166 ?_
                    refine xw_iret C0 hA hr hlk rfl dX12_plan_167 ?_
                    have r9 : (((hx_pS v (fun j => s9.toNat.testBit j) T).1.toNat : Nat) : Int) / ((Nat.gcd (hx_sm (hx_w0 v (fun j => s9.toNat.testBit j) (v 1).toNat) 8).toNat (hx_pS v (fun j => s9.toNat.testBit j) T).1.toNat : Nat) : Int) = hx_pr v (T : Int) s9 w9 := by
                      unfold hx_pr hx_pq hx_pw hx_lt
                      rw [eT, Nat.gcd_comm, if_pos (by omega)]
                    refine ⟨_, rfl, Or.inl ⟨⟨by omega, ⟨by omega, fun f hf h => (hq f hf h)⟩, by omega⟩, r9, ?_, ((F52 200 0 rfl).trans ((Ft21 200 0 rfl).trans ((hF 200 0 rfl).trans rfl))).trans vt1_200_0⟩, (((((xw_F.rf (ML := [(200, 0, 0), (212, 0, 31), (213, 0, 3), (214, 0, 3), (200, 30, 31)])).tr Ft1 (fun j i h => xw_o_sub (by decide +kernel) j i h)).tr hF (fun j i h => xw_o_sub (by decide +kernel) j i h)).tr Ft21 (fun j i h => xw_o_sub (by decide +kernel) j i h)).tr F52 (fun j i h => xw_o_sub (by decide +kernel) j i h))⟩
                    unfold hx_pq
                    rw [eT]
                    exact H52
                · refine xw_aload_n (pc := 77) C0 0 dX12_plan_77 rfl rfl ?_
                  refine xw_callVI (pc := 78) (μ := ν) (ci := 12) (rest := []) (As := []) C0 hU hO sa_Tg hKL (xm_refuse (l := l) (μ := ν) hG_ν) tv_1525 dX12_plan_78 tv_1522 tv_1524 tq_X12_refuse tv_13 rfl yb_X12_refuse (by decide +kernel) rfl rfl rfl (by decide +kernel) (Nat.le_of_ble_eq_true rfl) (xj_200 hKL) xk_0 (fun r71 m71 w71 => ?_)
                  obtain ⟨rfl, rfl⟩ := w71
                  refine xw_iret C0 hA hr hlk rfl dX12_plan_81 ?_
                  have Ft31 : xw_F [(200, 0, 0)] ν (xw_u ν 200 0 1) := ((xw_F.rf (ML := [(200, 0, 0)])).u (show (200, 0, 0) ∈ _ by decide) ⟨by decide, by decide⟩)
                  have vt31_200_0 : (xw_u ν 200 0 1) 200 0 = 1 := xw_ug
                  generalize (xw_u ν 200 0 1) = t31 at Ft31 vt31_200_0 ⊢
                  exact ⟨_, rfl, Or.inr ⟨fun q => by obtain ⟨i, hi, h1, h2⟩ := hq; exact h2 (q.2.1.2 i hi h1), rfl, vt31_200_0, ((((xw_F.rf (ML := [(200, 0, 0), (212, 0, 7)])).tr Ft1 (fun j i h => xw_o_sub (by decide +kernel) j i h)).tr hF (fun j i h => xw_o_sub (by decide +kernel) j i h)).tr Ft31 (fun j i h => xw_o_sub (by decide +kernel) j i h))⟩, ((((xw_F.rf (ML := [(200, 0, 0), (212, 0, 31), (213, 0, 3), (214, 0, 3), (200, 30, 31)])).tr Ft1 (fun j i h => xw_o_sub (by decide +kernel) j i h)).tr hF (fun j i h => xw_o_sub (by decide +kernel) j i h)).tr Ft31 (fun j i h => xw_o_sub (by decide +kernel) j i h))⟩
              · exfalso
                omega
            · refine xw_if_ne (pc := 36) (tgt := 44) C0 (by omega) dX12_plan_36 rfl (fun b11 => ?_) (fun b11 => ?_)
              · exfalso
                omega
              · refine xw_aload_n (pc := 39) C0 0 dX12_plan_39 rfl rfl ?_
                refine xw_callVI (pc := 40) (μ := t1) (ci := 12) (rest := []) (As := []) C0 hU hO sa_Tg hKL (xm_refuse (l := l) (μ := t1) hG_t1) tv_1525 dX12_plan_40 tv_1522 tv_1524 tq_X12_refuse tv_13 rfl yb_X12_refuse (by decide +kernel) rfl rfl rfl (by decide +kernel) (Nat.le_of_ble_eq_true rfl) (xj_200 hKL) xk_0 (fun r12 m12 w12 => ?_)
                obtain ⟨rfl, rfl⟩ := w12
                refine xw_iret C0 hA hr hlk rfl dX12_plan_43 ?_
                have Ft4 : xw_F [(200, 0, 0)] t1 (xw_u t1 200 0 1) := ((xw_F.rf (ML := [(200, 0, 0)])).u (show (200, 0, 0) ∈ _ by decide) ⟨by decide, by decide⟩)
                have vt4_200_0 : (xw_u t1 200 0 1) 200 0 = 1 := xw_ug
                generalize (xw_u t1 200 0 1) = t4 at Ft4 vt4_200_0 ⊢
                exact ⟨_, rfl, Or.inr ⟨fun q => by obtain ⟨q1, ⟨q2, -⟩, q4⟩ := q; omega, rfl, vt4_200_0, (((xw_F.rf (ML := [(200, 0, 0), (212, 0, 7)])).tr Ft1 (fun j i h => xw_o_sub (by decide +kernel) j i h)).tr Ft4 (fun j i h => xw_o_sub (by decide +kernel) j i h))⟩, (((xw_F.rf (ML := [(200, 0, 0), (212, 0, 31), (213, 0, 3), (214, 0, 3), (200, 30, 31)])).tr Ft1 (fun j i h => xw_o_sub (by decide +kernel) j i h)).tr Ft4 (fun j i h => xw_o_sub (by decide +kernel) j i h))⟩
    · refine xw_if_eq (pc := 10) (tgt := 39) C0 (by omega) dX12_plan_10 rfl (fun b13 => ?_) (fun b13 => ?_)
      · refine xw_aload_n (pc := 39) C0 0 dX12_plan_39 rfl rfl ?_
        refine xw_callVI (pc := 40) (μ := t1) (ci := 12) (rest := []) (As := []) C0 hU hO sa_Tg hKL (xm_refuse (l := l) (μ := t1) hG_t1) tv_1525 dX12_plan_40 tv_1522 tv_1524 tq_X12_refuse tv_13 rfl yb_X12_refuse (by decide +kernel) rfl rfl rfl (by decide +kernel) (Nat.le_of_ble_eq_true rfl) (xj_200 hKL) xk_0 (fun r14 m14 w14 => ?_)
        obtain ⟨rfl, rfl⟩ := w14
        refine xw_iret C0 hA hr hlk rfl dX12_plan_43 ?_
        have Ft5 : xw_F [(200, 0, 0)] t1 (xw_u t1 200 0 1) := ((xw_F.rf (ML := [(200, 0, 0)])).u (show (200, 0, 0) ∈ _ by decide) ⟨by decide, by decide⟩)
        have vt5_200_0 : (xw_u t1 200 0 1) 200 0 = 1 := xw_ug
        generalize (xw_u t1 200 0 1) = t5 at Ft5 vt5_200_0 ⊢
        exact ⟨_, rfl, Or.inr ⟨fun q => by obtain ⟨q1, ⟨q2, -⟩, q4⟩ := q; omega, rfl, vt5_200_0, (((xw_F.rf (ML := [(200, 0, 0), (212, 0, 7)])).tr Ft1 (fun j i h => xw_o_sub (by decide +kernel) j i h)).tr Ft5 (fun j i h => xw_o_sub (by decide +kernel) j i h))⟩, (((xw_F.rf (ML := [(200, 0, 0), (212, 0, 31), (213, 0, 3), (214, 0, 3), (200, 30, 31)])).tr Ft1 (fun j i h => xw_o_sub (by decide +kernel) j i h)).tr Ft5 (fun j i h => xw_o_sub (by decide +kernel) j i h))⟩
      · exfalso
        omega)
set_option maxRecDepth 20000 in
set_option maxHeartbeats 20000000 in
theorem xh_planAt {l : Launch} {μ : xw_M} {v : Int} (hG : xw_G xw_GL μ) (hr9 : -2147483648 ≤ v ∧ v ≤ 2147483647) : xw_MetI l vwCl sa_Ts tb_KT0 tc_KL yX11_planAt cX11_planAt 2 (some .int) 2 120 (fun ad => [.ref (ad 0), .int (Int32.ofInt v)]) μ (fun r μ' => μ = μ' ∧ ((((0 ≤ v ∧ v < μ 137 1) ∧ v < 4) ∧ r = μ 138 v.toNat) ∨ (¬ (0 ≤ v ∧ v < μ 137 1) ∧ r = -1))) :=
  xw_of (by decide +kernel) (fun _ => Nat.le_of_ble_eq_true rfl) (fun p e s m args below meth c D dA A al w0 sz C0 hU hO hKL hr hlk hA => by
    refine xw_iload_n (pc := 0) C0 1 dX11_planAt_0 rfl rfl ?_
    refine xw_if_lt (pc := 1) (tgt := 27) C0 (by omega) dX11_planAt_1 rfl (fun b1 => ?_) (fun b1 => ?_)
    · refine xw_iconst (pc := 27) C0 dX11_planAt_27 ?_
      refine xw_iret C0 hA hr hlk rfl dX11_planAt_28 ?_
      exact ⟨_, rfl, rfl, Or.inr ⟨by omega, rfl⟩⟩
    · refine xw_iload_n (pc := 4) C0 1 dX11_planAt_4 rfl rfl ?_
      refine xw_aload_n (pc := 5) C0 0 dX11_planAt_5 rfl rfl ?_
      refine xw_getR (pc := 6) (f := 8) C0 137 kcX11 dX11_planAt_6 (by decide +kernel) tv_430 (xj_0 hKL) xk_27 rfl ((rfl).trans (xe_0_8 hG)) ?_
      refine xw_getI (pc := 9) (f := 1) (z := μ 137 1) C0 kcX5 dX11_planAt_9 (by decide +kernel) tv_399 (xj_137 hKL) xk_69 rfl (rfl) (fun g2 k2 => ?_)
      refine xw_icmp_ge (pc := 12) (tgt := 27) C0 (by omega) (by omega) dX11_planAt_12 rfl (fun b3 => ?_) (fun b3 => ?_)
      · refine xw_iconst (pc := 27) C0 dX11_planAt_27 ?_
        refine xw_iret C0 hA hr hlk rfl dX11_planAt_28 ?_
        exact ⟨_, rfl, rfl, Or.inr ⟨by omega, rfl⟩⟩
      · refine xw_aload_n (pc := 15) C0 0 dX11_planAt_15 rfl rfl ?_
        refine xw_getR (pc := 16) (f := 8) C0 137 kcX11 dX11_planAt_16 (by decide +kernel) tv_430 (xj_0 hKL) xk_27 rfl ((rfl).trans (xe_0_8 hG)) ?_
        refine xw_getR (pc := 19) (f := 0) C0 138 kcX5 dX11_planAt_19 (by decide +kernel) tv_397 (xj_137 hKL) xk_69 rfl ((rfl).trans (xe_137_0 hG)) ?_
        refine xw_iload_n (pc := 22) C0 1 dX11_planAt_22 rfl rfl ?_
        refine xw_iald (pc := 23) (z := μ 138 (v).toNat) C0 dX11_planAt_23 (xj_138 hKL) xk_70 (by omega) (by decide +kernel) (xw_rl (by omega)) (rfl) (fun g4 k4 => ?_)
        refine xw_goto (pc := 24) (tgt := 28) C0 dX11_planAt_24 rfl ?_
        refine xw_iret C0 hA hr hlk rfl dX11_planAt_28 ?_
        exact ⟨_, rfl, rfl, Or.inl ⟨⟨by omega, by omega⟩, rfl⟩⟩)
set_option maxRecDepth 20000 in
set_option maxHeartbeats 20000000 in
theorem xr_planAt {l : Launch} {μ : xw_M} {v : Int} (hG : xw_G xw_GL μ) (hr9 : -2147483648 ≤ v ∧ v ≤ 2147483647) : xw_MetI l vwCl sa_Ts tb_KT0 tc_KL yX12_planAt cX12_planAt 2 (some .int) 3 142 (fun ad => [.ref (ad 200), .int (Int32.ofInt v)]) μ (fun r μ' => ((((0 ≤ v ∧ v < μ 200 30) ∧ v < 4) ∧ r = μ 214 v.toNat) ∨ (¬ (0 ≤ v ∧ v < μ 200 30) ∧ r = -1)) ∧ xw_F [(200, 0, 0)] μ μ') :=
  xw_of (by decide +kernel) (fun _ => Nat.le_of_ble_eq_true rfl) (fun p e s m args below meth c D dA A al w0 sz C0 hU hO hKL hr hlk hA => by
    refine xw_aload_n (pc := 0) C0 0 dX12_planAt_0 rfl rfl ?_
    refine xw_iconst (pc := 1) C0 dX12_planAt_1 ?_
    refine xw_putI (pc := 2) (f := 0) C0 kcX12 dX12_planAt_2 (by decide +kernel) tv_1261 rfl rfl (xj_200 hKL) xk_0 rfl (by omega) (by omega) ?_
    refine xw_iload_n (pc := 5) C0 1 dX12_planAt_5 rfl rfl ?_
    refine xw_iconst (pc := 6) C0 dX12_planAt_6 ?_
    refine xw_aload_n (pc := 7) C0 0 dX12_planAt_7 rfl rfl ?_
    refine xw_getI (pc := 8) (f := 30) (z := μ 200 30) C0 kcX12 dX12_planAt_8 (by decide +kernel) tv_1291 (xj_200 hKL) xk_0 rfl ((xw_un (by decide +kernel)).trans rfl) (fun g1 k1 => ?_)
    refine xw_iconst (pc := 11) C0 dX12_planAt_11 ?_
    refine xw_isub (pc := 12) C0 dX12_planAt_12 ?_
    refine xw_callSI (pc := 13) (μ := (xw_u μ 200 0 0)) (rest := []) (As := [.int (Int32.ofInt v), .int (Int32.ofInt 0), .int (Int32.ofInt ((μ 200 30) - 1))]) C0 hU hO sa_Tg hKL (xm_isIn (l := l) (v := v) (a := 0) (b := (μ 200 30) - 1) (by omega) (by omega) (by omega)) tv_1481 dX12_planAt_13 tv_1479 tv_1480 tv_13 yb_X12_isIn (by decide +kernel) rfl rfl rfl (by decide +kernel) (Nat.le_of_ble_eq_true rfl) (fun r2 m2 w2 => ?_)
    obtain ⟨rfl, w2⟩ := w2
    rcases w2 with ⟨w2, rfl⟩ | ⟨w2, rfl⟩
    · refine xw_if_eq (pc := 16) (tgt := 28) C0 (by omega) dX12_planAt_16 rfl (fun b3 => ?_) (fun b3 => ?_)
      · exfalso
        omega
      · refine xw_aload_n (pc := 19) C0 0 dX12_planAt_19 rfl rfl ?_
        refine xw_getR (pc := 20) (f := 29) C0 214 kcX12 dX12_planAt_20 (by decide +kernel) tv_1290 (xj_200 hKL) xk_0 rfl (((xw_un (by decide +kernel)).trans rfl).trans (xe_200_29 hG)) ?_
        refine xw_iload_n (pc := 23) C0 1 dX12_planAt_23 rfl rfl ?_
        refine xw_iald (pc := 24) (z := μ 214 (v).toNat) C0 dX12_planAt_24 (xj_214 hKL) xk_84 (by omega) (by decide +kernel) (xw_rl (by omega)) ((xw_un (fun q => absurd q.1 (by decide +kernel))).trans rfl) (fun g4 k4 => ?_)
        refine xw_goto (pc := 25) (tgt := 29) C0 dX12_planAt_25 rfl ?_
        refine xw_iret C0 hA hr hlk rfl dX12_planAt_29 ?_
        have Ft1 : xw_F [(200, 0, 0)] μ (xw_u μ 200 0 0) := ((xw_F.rf (ML := [(200, 0, 0)])).u (show (200, 0, 0) ∈ _ by decide) ⟨by decide, by decide⟩)
        have vt1_200_0 : (xw_u μ 200 0 0) 200 0 = 0 := xw_ug
        generalize (xw_u μ 200 0 0) = t1 at Ft1 vt1_200_0 ⊢
        exact ⟨_, rfl, Or.inl ⟨⟨by omega, by omega⟩, rfl⟩, ((xw_F.rf (ML := [(200, 0, 0)])).tr Ft1 (fun j i h => xw_o_sub (by decide +kernel) j i h))⟩
    · refine xw_if_eq (pc := 16) (tgt := 28) C0 (by omega) dX12_planAt_16 rfl (fun b5 => ?_) (fun b5 => ?_)
      · refine xw_iconst (pc := 28) C0 dX12_planAt_28 ?_
        refine xw_iret C0 hA hr hlk rfl dX12_planAt_29 ?_
        have Ft2 : xw_F [(200, 0, 0)] μ (xw_u μ 200 0 0) := ((xw_F.rf (ML := [(200, 0, 0)])).u (show (200, 0, 0) ∈ _ by decide) ⟨by decide, by decide⟩)
        have vt2_200_0 : (xw_u μ 200 0 0) 200 0 = 0 := xw_ug
        generalize (xw_u μ 200 0 0) = t2 at Ft2 vt2_200_0 ⊢
        exact ⟨_, rfl, Or.inr ⟨by omega, rfl⟩, ((xw_F.rf (ML := [(200, 0, 0)])).tr Ft2 (fun j i h => xw_o_sub (by decide +kernel) j i h))⟩
      · exfalso
        omega)
