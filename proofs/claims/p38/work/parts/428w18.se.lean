set_option maxRecDepth 20000 in
set_option maxHeartbeats 20000000 in
theorem xs_on7 {l : Launch} {t rd nm : Nat → Int} {n lim pz o : Nat} {μ : xw_M} (hS : hd_S t n lim μ) (hT : hd_T t n lim pz μ) (hw : μ 129 8 = 0) (hH : hd_H rd nm μ) (hK : hp_ok rd nm) (hN : μ 132 5 = (o : Int)) (ho : o ≤ 20) (hR : hd_R μ) : xw_MetI l vwCl sa_Ts tb_KT0 tc_KL yX8_readOne cX8_readOne 4 (some .boolean) 28 715 (fun ad => [.ref (ad 128), .ref (ad 4), .int (Int32.ofInt 1)]) μ (fun r μ' => hd_Q t n lim ((hq_on t n lim nm (rd 0).toNat (rd 1).toNat 7) pz o) r μ' ∧ hd_R μ' ∧ xw_F [(129, 2, 9), (132, 4, 5), (133, 0, 39), (134, 0, 39), (135, 0, 39)] μ μ') :=
  xw_of (by decide +kernel) (fun _ => Nat.le_of_ble_eq_true rfl) (fun p e s m args below meth c D dA A al w0 sz C0 hU hO hKL hr hlk hA => by
    have b_μ := hS.2.2.2.2.2.1
    have hp9_μ := hT.1
    have c2_μ := hT.2.1
    have c3_μ := hT.2.2.1
    have hpl_μ := hp_plb (t := t) (lim := lim) hp9_μ
    have hkb_μ := hp_kb t n lim pz
    have kk_μ := hd_kk hT
    have hkw_μ := hp_kwb (hp_w t n pz)
    have k0 := hK.1
    have k1 := hK.2.1
    refine xw_aload_n (pc := 0) C0 0 dX8_readOne_0 rfl rfl ?_
    refine xw_callVI (pc := 1) (μ := μ) (ci := 8) (rest := []) (As := []) C0 hU hO sa_Tg hKL (xs_is (l := l) hS hT) tv_1039 dX8_readOne_1 tv_1036 tv_1038 tq_X8_isOneHere tv_11 rfl yb_X8_isOneHere (by decide +kernel) rfl rfl rfl (by decide +kernel) (Nat.le_of_ble_eq_true rfl) (xj_128 hKL) xk_68 (fun r1 m1 w1 => ?_)
    obtain ⟨rfl, w1⟩ := w1
    rcases w1 with ⟨is9, rfl⟩ | ⟨is9, rfl⟩
    · refine xw_if_ne (pc := 4) (tgt := 16) C0 (by omega) dX8_readOne_4 rfl (fun b2 => ?_) (fun b2 => ?_)
      · refine xw_aload_n (pc := 16) C0 0 dX8_readOne_16 rfl rfl ?_
        refine xw_getR (pc := 17) (f := 1) C0 132 kcX8 dX8_readOne_17 (by decide +kernel) tv_383 (xj_128 hKL) xk_68 rfl ((rfl).trans (xe_128_1 hS.1)) ?_
        refine xw_getI (pc := 20) (f := 5) (z := μ 132 5) C0 kcX7 dX8_readOne_20 (by decide +kernel) tv_218 (xj_132 hKL) xk_3 rfl (rfl) (fun g3 k3 => ?_)
        refine xw_bipush (pc := 23) C0 dX8_readOne_23 (by decide +kernel) ?_
        refine xw_icmp_ge (pc := 25) (tgt := 34) C0 (by omega) (by omega) dX8_readOne_25 rfl (fun b4 => ?_) (fun b4 => ?_)
        · refine xw_aload_n (pc := 34) C0 0 dX8_readOne_34 rfl rfl ?_
          refine xw_getR (pc := 35) (f := 0) C0 129 kcX8 dX8_readOne_35 (by decide +kernel) tv_381 (xj_128 hKL) xk_68 rfl ((rfl).trans (xe_128_0 hS.1)) ?_
          refine xw_iconst (pc := 38) C0 dX8_readOne_38 ?_
          refine xw_callVI (pc := 39) (μ := μ) (ci := 6) (rest := []) (As := [.int (Int32.ofInt 4)]) C0 hU hO sa_Tg hKL (xd_refuse (l := l) (μ := μ) (v := 4) (by decide +kernel) (by have q3 := hT.2.2.1; have q1 := hp_plb (t := t) (lim := lim) hT.1; have q2 := hS.2.2.2.2.2.1; omega)) tv_546 dX8_readOne_39 tv_1041 tv_544 tv_545 tv_9 rfl yb_X6_refuse (by decide +kernel) rfl rfl rfl (by decide +kernel) (Nat.le_of_ble_eq_true rfl) (xj_129 hKL) xk_17 (fun r5 m5 w5 => ?_)
          obtain ⟨rfl, w5⟩ := w5
          rcases w5.symm with ⟨w5, -⟩ | ⟨-, x5, y5, F5⟩
          · exfalso
            omega
          have W5 : hd_W (hp_bad t n lim 4 pz) m5 := hd_Wb ⟨by decide, by decide⟩ x5 (y5.trans hT.2.2.1)
          have hR_m5 := hd_RF hR F5 (by decide +kernel)
          refine xw_iret C0 hA hr hlk rfl dX8_readOne_42 ?_
          exact ⟨_, rfl, Or.inr ⟨_, hq_onM is9 (by omega), rfl, W5⟩, hR_m5, ((xw_F.rf (ML := [(129, 2, 9), (132, 4, 5), (133, 0, 39), (134, 0, 39), (135, 0, 39)])).tr F5 (fun j i h => xw_o_sub (by decide +kernel) j i h))⟩
        · refine xw_iload_n (pc := 28) C0 2 dX8_readOne_28 rfl rfl ?_
          refine xw_bipush (pc := 29) C0 dX8_readOne_29 (by decide +kernel) ?_
          refine xw_icmp_lt (pc := 31) (tgt := 43) C0 (by omega) (by omega) dX8_readOne_31 rfl (fun b6 => ?_) (fun b6 => ?_)
          · refine xw_aload_n (pc := 43) C0 0 dX8_readOne_43 rfl rfl ?_
            refine xw_getR (pc := 44) (f := 1) C0 132 kcX8 dX8_readOne_44 (by decide +kernel) tv_383 (xj_128 hKL) xk_68 rfl ((rfl).trans (xe_128_1 hS.1)) ?_
            refine xw_dup (pc := 47) C0 dX8_readOne_47 rfl ?_
            refine xw_getI (pc := 48) (f := 5) (z := μ 132 5) C0 kcX7 dX8_readOne_48 (by decide +kernel) tv_218 (xj_132 hKL) xk_3 rfl (rfl) (fun g7 k7 => ?_)
            refine xw_iconst (pc := 51) C0 dX8_readOne_51 ?_
            refine xw_iadd (pc := 52) C0 dX8_readOne_52 ?_
            refine xw_putI (pc := 53) (f := 5) C0 kcX7 dX8_readOne_53 (by decide +kernel) tv_218 rfl rfl (xj_132 hKL) xk_3 rfl (by omega) (by omega) ?_
            refine xw_aload_n (pc := 56) C0 0 dX8_readOne_56 rfl rfl ?_
            refine xw_getR (pc := 57) (f := 0) C0 129 kcX8 dX8_readOne_57 (by decide +kernel) tv_381 (xj_128 hKL) xk_68 rfl (((xw_un (fun q => absurd q.1 (by decide +kernel))).trans rfl).trans (xe_128_0 hS.1)) ?_
            refine xw_getI (pc := 60) (f := 6) (z := μ 129 6) C0 kcX6 dX8_readOne_60 (by decide +kernel) tv_298 (xj_129 hKL) xk_17 rfl ((xw_un (fun q => absurd q.1 (by decide +kernel))).trans rfl) (fun g8 k8 => ?_)
            refine xw_istore_n (pc := 63) (L' := [(3, .int (Int32.ofInt (μ 129 6))), (0, .ref (xw_ad al 128)), (1, .ref (xw_ad al 4)), (2, .int (Int32.ofInt 1))]) C0 dX8_readOne_63 rfl (by decide +kernel) rfl ?_
            refine xw_aload_n (pc := 64) C0 1 dX8_readOne_64 rfl rfl ?_
            refine xw_getR (pc := 65) (f := 0) C0 129 kcX8 dX8_readOne_65 (by decide +kernel) tv_381 (xj_128 hKL) xk_68 rfl (((xw_un (fun q => absurd q.1 (by decide +kernel))).trans rfl).trans (xe_128_0 hS.1)) ?_
            have Ft1 : xw_F [(132, 5, 5)] μ (xw_u μ 132 5 ((μ 132 5) + 1)) := ((xw_F.rf (ML := [(132, 5, 5)])).u (show (132, 5, 5) ∈ _ by decide) ⟨by decide, by decide⟩)
            have vt1_132_5 : (xw_u μ 132 5 ((μ 132 5) + 1)) 132 5 = (μ 132 5) + 1 := xw_ug
            generalize (xw_u μ 132 5 ((μ 132 5) + 1)) = t1 at Ft1 vt1_132_5 ⊢
            have hS_t1 := hd_SF hS Ft1 (by decide +kernel)
            have hT_t1 := hd_TF hT Ft1 (by decide +kernel)
            have hw_t1 : t1 129 8 = 0 := (Ft1 129 8 rfl).trans hw
            have hH_t1 := hd_HF hH Ft1 (by decide +kernel)
            have hR_t1 := hd_RF hR Ft1 (by decide +kernel)
            have hN_t1 : t1 132 5 = ((o + 1 : Nat) : Int) := by
              rw [vt1_132_5]
              omega
            refine xw_callVV (pc := 68) (μ := t1) (ci := 6) (rest := []) (As := []) C0 hU hO sa_Tg hKL (xd_step (l := l) (t := t) (n := n) (lim := lim) (pz := hp_x t n pz) hS_t1 (hT_t1.2.2.2.2.2.2.2 (by omega)) (hp_xb (lim := lim) hT_t1.1 (by omega))) tv_509 dX8_readOne_68 tv_1042 tv_507 tv_508 tv_9 rfl yb_X6_step (by decide +kernel) rfl rfl rfl (by decide +kernel) (Nat.le_of_ble_eq_true rfl) (xj_129 hKL) xk_17 (fun m10 w10 => ?_)
            obtain ⟨hT_m10, F10⟩ := w10
            have hS_m10 := hd_SF hS_t1 F10 (by decide +kernel)
            have hw_m10 : m10 129 8 = 0 := (F10 129 8 rfl).trans hw_t1
            have hH_m10 := hd_HF hH_t1 F10 (by decide +kernel)
            have hN_m10 : m10 132 5 = (((o + 1) : Nat) : Int) := (F10 132 5 rfl).trans hN_t1
            have hR_m10 := hd_RF hR_t1 F10 (by decide +kernel)
            refine xw_iload_n (pc := 71) C0 0 dX8_readOne_71 rfl rfl ?_
            rcases (show μ 129 6 = -1 ∨ μ 129 6 = 1 ∨ μ 129 6 = 12 ∨ μ 129 6 = 13 ∨ μ 129 6 = 14 ∨ μ 129 6 = 15 ∨ μ 129 6 = 16 ∨ μ 129 6 = 17 ∨ μ 129 6 = 18 ∨ μ 129 6 = 19 by omega) with sw | sw | sw | sw | sw | sw | sw | sw | sw | sw
            · refine xw_tabI (pc := 72) (tgt := 172) (off := 100) C0 (by omega) dX8_readOne_72 (by omega) (by omega) (by rw [sw]; rfl) rfl ?_
              refine xw_aload_n (pc := 172) C0 1 dX8_readOne_172 rfl rfl ?_
              refine xw_aload_n (pc := 173) C0 2 dX8_readOne_173 rfl rfl ?_
              refine xw_iload_n (pc := 174) C0 3 dX8_readOne_174 rfl rfl ?_
              refine xw_iconst (pc := 175) C0 dX8_readOne_175 ?_
              refine xw_iadd (pc := 176) C0 dX8_readOne_176 ?_
              refine  xw_nI (congrArg Int32.ofInt (show 1 + 1 = (2 : Int) by decide)) ?_
              refine xw_callVI (pc := 177) (μ := m10) (ci := 8) (rest := []) (As := [.ref (xw_ad al 4), .int (Int32.ofInt 2)]) C0 hU hO sa_Tg hKL (xs_co6 (l := l) (rd := rd) (nm := nm) hS_m10 hT_m10 hw_m10 hH_m10 hK hN_m10 (by omega) hR_m10) tv_1027 dX8_readOne_177 tv_1024 tv_1026 tq_X8_readCond tv_11 rfl yb_X8_readCond (by decide +kernel) rfl rfl rfl (by decide +kernel) (Nat.le_of_ble_eq_true rfl) (xj_128 hKL) xk_68 (fun r11 m11 w11 => ?_)
              obtain ⟨w11, hR_m11, F11⟩ := w11
              rcases w11 with ⟨p11, o11, eo11, rfl, hT_m11, hw_m11, hN_m11, ho11⟩ | ⟨e11, eo11, rfl, W11⟩
              · have hS_m11 := hd_SF hS_m10 F11 (by decide +kernel)
                have hH_m11 := hd_HF hH_m10 F11 (by decide +kernel)
                refine xw_if_eq (pc := 180) (tgt := 199) C0 (by omega) dX8_readOne_180 rfl (fun b12 => ?_) (fun b12 => ?_)
                · exfalso
                  omega
                · refine xw_aload_n (pc := 183) C0 1 dX8_readOne_183 rfl rfl ?_
                  refine xw_getR (pc := 184) (f := 0) C0 129 kcX8 dX8_readOne_184 (by decide +kernel) tv_381 (xj_128 hKL) xk_68 rfl (((F11 128 0 rfl).trans ((F10 128 0 rfl).trans ((Ft1 128 0 rfl).trans rfl))).trans (xe_128_0 hS.1)) ?_
                  refine xw_bipush (pc := 187) C0 dX8_readOne_187 (by decide +kernel) ?_
                  refine xw_callVI (pc := 189) (μ := m11) (ci := 6) (rest := []) (As := [.int (Int32.ofInt 41)]) C0 hU hO sa_Tg hKL (xd_takeSign (l := l) hS_m11 hT_m11 hw_m11) tv_578 dX8_readOne_189 tv_1043 tv_576 tv_577 tv_9 rfl yb_X6_takeSign (by decide +kernel) rfl rfl rfl (by decide +kernel) (Nat.le_of_ble_eq_true rfl) (xj_129 hKL) xk_17 (fun r13 m13 w13 => ?_)
                  obtain ⟨w13, F13⟩ := w13
                  rcases w13 with ⟨v13, p13, eo13, rfl, hT_m13, hw_m13⟩ | ⟨e13, eo13, rfl, W13⟩
                  · have hN_m13 : m13 132 5 = ((o11 : Nat) : Int) := (F13 132 5 rfl).trans hN_m11
                    have hR_m13 := hd_RF hR_m11 F13 (by decide +kernel)
                    refine xw_if_eq (pc := 192) (tgt := 199) C0 (by omega) dX8_readOne_192 rfl (fun b14 => ?_) (fun b14 => ?_)
                    · exfalso
                      omega
                    · refine xw_iconst (pc := 195) C0 dX8_readOne_195 ?_
                      refine xw_goto (pc := 196) (tgt := 200) C0 dX8_readOne_196 rfl ?_
                      refine xw_iret C0 hA hr hlk rfl dX8_readOne_200 ?_
                      have e0 := hq_onO (t := t) (n := n) (lim := lim) (nm := nm) (m0 := (rd 0).toNat) (m1 := (rd 1).toNat) (d := 6) (p := pz) (o := o) is9 (by omega)
                      rw [hq_boP (by omega)] at e0
                      rw [hq_paR eo11, eo13, hq_nur] at e0
                      exact ⟨_, rfl, Or.inl ⟨p13, o11, e0, rfl, hT_m13, hw_m13, hN_m13, ho11⟩, hR_m13, (((((xw_F.rf (ML := [(129, 2, 9), (132, 4, 5), (133, 0, 39), (134, 0, 39), (135, 0, 39)])).tr Ft1 (fun j i h => xw_o_sub (by decide +kernel) j i h)).tr F10 (fun j i h => xw_o_sub (by decide +kernel) j i h)).tr F11 (fun j i h => xw_o_sub (by decide +kernel) j i h)).tr F13 (fun j i h => xw_o_sub (by decide +kernel) j i h))⟩
                  · have hR_m13 := hd_RF hR_m11 F13 (by decide +kernel)
                    refine xw_if_eq (pc := 192) (tgt := 199) C0 (by omega) dX8_readOne_192 rfl (fun b15 => ?_) (fun b15 => ?_)
                    · refine xw_iconst (pc := 199) C0 dX8_readOne_199 ?_
                      refine xw_iret C0 hA hr hlk rfl dX8_readOne_200 ?_
                      have e0 := hq_onO (t := t) (n := n) (lim := lim) (nm := nm) (m0 := (rd 0).toNat) (m1 := (rd 1).toNat) (d := 6) (p := pz) (o := o) is9 (by omega)
                      rw [hq_boP (by omega)] at e0
                      rw [hq_paR eo11, eo13, hq_nul] at e0
                      exact ⟨_, rfl, Or.inr ⟨_, e0, rfl, W13⟩, hR_m13, (((((xw_F.rf (ML := [(129, 2, 9), (132, 4, 5), (133, 0, 39), (134, 0, 39), (135, 0, 39)])).tr Ft1 (fun j i h => xw_o_sub (by decide +kernel) j i h)).tr F10 (fun j i h => xw_o_sub (by decide +kernel) j i h)).tr F11 (fun j i h => xw_o_sub (by decide +kernel) j i h)).tr F13 (fun j i h => xw_o_sub (by decide +kernel) j i h))⟩
                    · exfalso
                      omega
              · refine xw_if_eq (pc := 180) (tgt := 199) C0 (by omega) dX8_readOne_180 rfl (fun b16 => ?_) (fun b16 => ?_)
                · refine xw_iconst (pc := 199) C0 dX8_readOne_199 ?_
                  refine xw_iret C0 hA hr hlk rfl dX8_readOne_200 ?_
                  have e0 := hq_onO (t := t) (n := n) (lim := lim) (nm := nm) (m0 := (rd 0).toNat) (m1 := (rd 1).toNat) (d := 6) (p := pz) (o := o) is9 (by omega)
                  rw [hq_boP (by omega)] at e0
                  rw [hq_paL eo11] at e0
                  exact ⟨_, rfl, Or.inr ⟨_, e0, rfl, W11⟩, hR_m11, ((((xw_F.rf (ML := [(129, 2, 9), (132, 4, 5), (133, 0, 39), (134, 0, 39), (135, 0, 39)])).tr Ft1 (fun j i h => xw_o_sub (by decide +kernel) j i h)).tr F10 (fun j i h => xw_o_sub (by decide +kernel) j i h)).tr F11 (fun j i h => xw_o_sub (by decide +kernel) j i h))⟩
                · exfalso
                  omega
            · refine xw_tabI (pc := 72) (tgt := 223) (off := 151) C0 (by omega) dX8_readOne_72 (by omega) (by omega) (by rw [sw]; rfl) rfl ?_
              refine xw_aload_n (pc := 223) C0 1 dX8_readOne_223 rfl rfl ?_
              refine xw_iload_n (pc := 224) C0 0 dX8_readOne_224 rfl rfl ?_
              refine xw_iconst (pc := 225) C0 dX8_readOne_225 ?_
              refine xw_aload_n (pc := 226) C0 1 dX8_readOne_226 rfl rfl ?_
              refine xw_getR (pc := 227) (f := 0) C0 129 kcX8 dX8_readOne_227 (by decide +kernel) tv_381 (xj_128 hKL) xk_68 rfl (((F10 128 0 rfl).trans ((Ft1 128 0 rfl).trans rfl)).trans (xe_128_0 hS.1)) ?_
              refine xw_aload_n (pc := 230) C0 2 dX8_readOne_230 rfl rfl ?_
              refine xw_callVI (pc := 231) (μ := m10) (ci := 6) (rest := [.int (Int32.ofInt 0), .int (Int32.ofInt (μ 129 6)), .ref (xw_ad al 128)]) (As := [.ref (xw_ad al 4)]) C0 hU hO sa_Tg hKL (xd_takeThing (l := l) (rd := rd) (nm := nm) hS_m10 hT_m10 hw_m10 hH_m10 hK) tv_572 dX8_readOne_231 tv_1057 tv_570 tv_571 tv_9 rfl yb_X6_takeThing (by decide +kernel) rfl rfl rfl (by decide +kernel) (Nat.le_of_ble_eq_true rfl) (xj_129 hKL) xk_17 (fun r17 m17 w17 => ?_)
              obtain ⟨w17, F17⟩ := w17
              rcases w17 with ⟨v17, p17, eo17, rfl, u17, hT_m17, hw_m17⟩ | ⟨e17, eo17, rfl, W17⟩
              · have nb17 := hp_oneR eo17
                have hS_m17 := hd_SF hS_m10 F17 (by decide +kernel)
                have hH_m17 := hd_HF hH_m10 F17 (by decide +kernel)
                have hN_m17 : m17 132 5 = (((o + 1) : Nat) : Int) := (F17 132 5 rfl).trans hN_m10
                have hR_m17 := hd_RF hR_m10 F17 (by decide +kernel)
                refine xw_callVI (pc := 234) (μ := m17) (ci := 8) (rest := []) (As := [.int (Int32.ofInt (μ 129 6)), .int (Int32.ofInt 0), .int (Int32.ofInt r17)]) C0 hU hO sa_Tg hKL (xs_num (l := l) (w9 := μ 129 6) (g9 := 0) (v9 := r17) (μ := m17) hS_m17.1 hR_m17 (by omega) (by omega) (by omega) (fun _ q => by omega) (fun _ q => by omega)) tv_1056 dX8_readOne_234 tv_1053 tv_1055 tq_X8_addNumbered tv_11 rfl yb_X8_addNumbered (by decide +kernel) rfl rfl rfl (by decide +kernel) (Nat.le_of_ble_eq_true rfl) (xj_128 hKL) xk_68 (fun r18 m18 w18 => ?_)
                rcases w18.symm with ⟨-, rfl, hR_m18, F18⟩ | ⟨w18, -, -⟩
                rotate_left
                · exfalso
                  omega
                have hS_m18 := hd_SF hS_m17 F18 (by decide +kernel)
                have hT_m18 := hd_TF hT_m17 F18 (by decide +kernel)
                have hw_m18 : m18 129 8 = 0 := (F18 129 8 rfl).trans hw_m17
                have hH_m18 := hd_HF hH_m17 F18 (by decide +kernel)
                have hN_m18 : m18 132 5 = (((o + 1) : Nat) : Int) := (F18 132 5 rfl).trans hN_m17
                refine xw_iret C0 hA hr hlk rfl dX8_readOne_237 ?_
                have e0 := hq_onO (t := t) (n := n) (lim := lim) (nm := nm) (m0 := (rd 0).toNat) (m1 := (rd 1).toNat) (d := 6) (p := pz) (o := o) is9 (by omega)
                rw [hq_boB (by omega) (by omega)] at e0
                rw [eo17, hq_nur] at e0
                exact ⟨_, rfl, Or.inl ⟨p17, (o + 1), e0, rfl, hT_m18, hw_m18, hN_m18, (by omega)⟩, hR_m18, (((((xw_F.rf (ML := [(129, 2, 9), (132, 4, 5), (133, 0, 39), (134, 0, 39), (135, 0, 39)])).tr Ft1 (fun j i h => xw_o_sub (by decide +kernel) j i h)).tr F10 (fun j i h => xw_o_sub (by decide +kernel) j i h)).tr F17 (fun j i h => xw_o_sub (by decide +kernel) j i h)).tr F18 (fun j i h => xw_o_sub (by decide +kernel) j i h))⟩
              · have hS_m17 := hd_SF hS_m10 F17 (by decide +kernel)
                have hH_m17 := hd_HF hH_m10 F17 (by decide +kernel)
                have hN_m17 : m17 132 5 = (((o + 1) : Nat) : Int) := (F17 132 5 rfl).trans hN_m10
                have hR_m17 := hd_RF hR_m10 F17 (by decide +kernel)
                refine xw_callVI (pc := 234) (μ := m17) (ci := 8) (rest := []) (As := [.int (Int32.ofInt (μ 129 6)), .int (Int32.ofInt 0), .int (Int32.ofInt (-1))]) C0 hU hO sa_Tg hKL (xs_num (l := l) (w9 := μ 129 6) (g9 := 0) (v9 := -1) (μ := m17) hS_m17.1 hR_m17 (by omega) (by omega) (by omega) (fun _ q => by omega) (fun _ q => by omega)) tv_1056 dX8_readOne_234 tv_1053 tv_1055 tq_X8_addNumbered tv_11 rfl yb_X8_addNumbered (by decide +kernel) rfl rfl rfl (by decide +kernel) (Nat.le_of_ble_eq_true rfl) (xj_128 hKL) xk_68 (fun r19 m19 w19 => ?_)
                rcases w19 with ⟨-, rfl, rfl⟩ | ⟨w19, -, -, -⟩
                rotate_left
                · exfalso
                  omega
                refine xw_iret C0 hA hr hlk rfl dX8_readOne_237 ?_
                have e0 := hq_onO (t := t) (n := n) (lim := lim) (nm := nm) (m0 := (rd 0).toNat) (m1 := (rd 1).toNat) (d := 6) (p := pz) (o := o) is9 (by omega)
                rw [hq_boB (by omega) (by omega)] at e0
                rw [eo17, hq_nul] at e0
                exact ⟨_, rfl, Or.inr ⟨_, e0, rfl, W17⟩, hR_m17, ((((xw_F.rf (ML := [(129, 2, 9), (132, 4, 5), (133, 0, 39), (134, 0, 39), (135, 0, 39)])).tr Ft1 (fun j i h => xw_o_sub (by decide +kernel) j i h)).tr F10 (fun j i h => xw_o_sub (by decide +kernel) j i h)).tr F17 (fun j i h => xw_o_sub (by decide +kernel) j i h))⟩
            · refine xw_tabI (pc := 72) (tgt := 201) (off := 129) C0 (by omega) dX8_readOne_72 (by omega) (by omega) (by rw [sw]; rfl) rfl ?_
              refine xw_aload_n (pc := 201) C0 1 dX8_readOne_201 rfl rfl ?_
              refine xw_aload_n (pc := 202) C0 2 dX8_readOne_202 rfl rfl ?_
              refine xw_iload_n (pc := 203) C0 3 dX8_readOne_203 rfl rfl ?_
              refine xw_callVI (pc := 204) (μ := m10) (ci := 8) (rest := []) (As := [.ref (xw_ad al 4), .int (Int32.ofInt 1)]) C0 hU hO sa_Tg hKL (xs_no7 (l := l) (rd := rd) (nm := nm) hS_m10 hT_m10 hw_m10 hH_m10 hK hN_m10 (by omega) hR_m10) tv_1047 dX8_readOne_204 tv_1044 tv_1046 tq_X8_readNot tv_11 rfl yb_X8_readNot (by decide +kernel) rfl rfl rfl (by decide +kernel) (Nat.le_of_ble_eq_true rfl) (xj_128 hKL) xk_68 (fun r20 m20 w20 => ?_)
              obtain ⟨w20, hR_m20, F20⟩ := w20
              refine xw_iret C0 hA hr hlk (hd_Qn w20) dX8_readOne_207 ?_
              have e0 := hq_onO (t := t) (n := n) (lim := lim) (nm := nm) (m0 := (rd 0).toNat) (m1 := (rd 1).toNat) (d := 6) (p := pz) (o := o) is9 (by omega)
              rw [hq_boT (by omega) (by omega)] at e0
              exact ⟨_, rfl, by rw [e0]; exact w20, hR_m20, ((((xw_F.rf (ML := [(129, 2, 9), (132, 4, 5), (133, 0, 39), (134, 0, 39), (135, 0, 39)])).tr Ft1 (fun j i h => xw_o_sub (by decide +kernel) j i h)).tr F10 (fun j i h => xw_o_sub (by decide +kernel) j i h)).tr F20 (fun j i h => xw_o_sub (by decide +kernel) j i h))⟩
            · refine xw_tabI (pc := 72) (tgt := 244) (off := 172) C0 (by omega) dX8_readOne_72 (by omega) (by omega) (by rw [sw]; rfl) rfl ?_
              refine xw_aload_n (pc := 244) C0 1 dX8_readOne_244 rfl rfl ?_
              refine xw_getR (pc := 245) (f := 1) C0 132 kcX8 dX8_readOne_245 (by decide +kernel) tv_383 (xj_128 hKL) xk_68 rfl (((F10 128 1 rfl).trans ((Ft1 128 1 rfl).trans rfl)).trans (xe_128_1 hS.1)) ?_
              refine xw_iload_n (pc := 248) C0 0 dX8_readOne_248 rfl rfl ?_
              refine xw_iconst (pc := 249) C0 dX8_readOne_249 ?_
              refine xw_iconst (pc := 250) C0 dX8_readOne_250 ?_
              refine xw_callVI (pc := 251) (μ := m10) (ci := 7) (rest := []) (As := [.int (Int32.ofInt (μ 129 6)), .int (Int32.ofInt 0), .int (Int32.ofInt 0)]) C0 hU hO sa_Tg hKL (xs_add (l := l) (w9 := μ 129 6) (g9 := 0) (v9 := 0) (μ := m10) hS_m10.1 hR_m10 (by omega) (by omega) (by omega) (by omega) (by omega)) tv_1051 dX8_readOne_251 tv_1048 tv_1049 tv_1050 tv_6 rfl yb_X7_addStep (by decide +kernel) rfl rfl rfl (by decide +kernel) (Nat.le_of_ble_eq_true rfl) (xj_132 hKL) xk_3 (fun r21 m21 w21 => ?_)
              obtain ⟨rfl, hR_m21, F21⟩ := w21
              have hS_m21 := hd_SF hS_m10 F21 (by decide +kernel)
              have hT_m21 := hd_TF hT_m10 F21 (by decide +kernel)
              have hw_m21 : m21 129 8 = 0 := (F21 129 8 rfl).trans hw_m10
              have hH_m21 := hd_HF hH_m10 F21 (by decide +kernel)
              have hN_m21 : m21 132 5 = (((o + 1) : Nat) : Int) := (F21 132 5 rfl).trans hN_m10
              refine xw_iret C0 hA hr hlk rfl dX8_readOne_254 ?_
              have e0 := hq_onO (t := t) (n := n) (lim := lim) (nm := nm) (m0 := (rd 0).toNat) (m1 := (rd 1).toNat) (d := 6) (p := pz) (o := o) is9 (by omega)
              rw [hq_boW (by omega) (by omega)] at e0
              exact ⟨_, rfl, Or.inl ⟨(hp_x t n pz), (o + 1), e0, rfl, hT_m21, hw_m21, hN_m21, (by omega)⟩, hR_m21, ((((xw_F.rf (ML := [(129, 2, 9), (132, 4, 5), (133, 0, 39), (134, 0, 39), (135, 0, 39)])).tr Ft1 (fun j i h => xw_o_sub (by decide +kernel) j i h)).tr F10 (fun j i h => xw_o_sub (by decide +kernel) j i h)).tr F21 (fun j i h => xw_o_sub (by decide +kernel) j i h))⟩
            · refine xw_tabI (pc := 72) (tgt := 244) (off := 172) C0 (by omega) dX8_readOne_72 (by omega) (by omega) (by rw [sw]; rfl) rfl ?_
              refine xw_aload_n (pc := 244) C0 1 dX8_readOne_244 rfl rfl ?_
              refine xw_getR (pc := 245) (f := 1) C0 132 kcX8 dX8_readOne_245 (by decide +kernel) tv_383 (xj_128 hKL) xk_68 rfl (((F10 128 1 rfl).trans ((Ft1 128 1 rfl).trans rfl)).trans (xe_128_1 hS.1)) ?_
              refine xw_iload_n (pc := 248) C0 0 dX8_readOne_248 rfl rfl ?_
              refine xw_iconst (pc := 249) C0 dX8_readOne_249 ?_
              refine xw_iconst (pc := 250) C0 dX8_readOne_250 ?_
              refine xw_callVI (pc := 251) (μ := m10) (ci := 7) (rest := []) (As := [.int (Int32.ofInt (μ 129 6)), .int (Int32.ofInt 0), .int (Int32.ofInt 0)]) C0 hU hO sa_Tg hKL (xs_add (l := l) (w9 := μ 129 6) (g9 := 0) (v9 := 0) (μ := m10) hS_m10.1 hR_m10 (by omega) (by omega) (by omega) (by omega) (by omega)) tv_1051 dX8_readOne_251 tv_1048 tv_1049 tv_1050 tv_6 rfl yb_X7_addStep (by decide +kernel) rfl rfl rfl (by decide +kernel) (Nat.le_of_ble_eq_true rfl) (xj_132 hKL) xk_3 (fun r22 m22 w22 => ?_)
              obtain ⟨rfl, hR_m22, F22⟩ := w22
              have hS_m22 := hd_SF hS_m10 F22 (by decide +kernel)
              have hT_m22 := hd_TF hT_m10 F22 (by decide +kernel)
              have hw_m22 : m22 129 8 = 0 := (F22 129 8 rfl).trans hw_m10
              have hH_m22 := hd_HF hH_m10 F22 (by decide +kernel)
              have hN_m22 : m22 132 5 = (((o + 1) : Nat) : Int) := (F22 132 5 rfl).trans hN_m10
              refine xw_iret C0 hA hr hlk rfl dX8_readOne_254 ?_
              have e0 := hq_onO (t := t) (n := n) (lim := lim) (nm := nm) (m0 := (rd 0).toNat) (m1 := (rd 1).toNat) (d := 6) (p := pz) (o := o) is9 (by omega)
              rw [hq_boW (by omega) (by omega)] at e0
              exact ⟨_, rfl, Or.inl ⟨(hp_x t n pz), (o + 1), e0, rfl, hT_m22, hw_m22, hN_m22, (by omega)⟩, hR_m22, ((((xw_F.rf (ML := [(129, 2, 9), (132, 4, 5), (133, 0, 39), (134, 0, 39), (135, 0, 39)])).tr Ft1 (fun j i h => xw_o_sub (by decide +kernel) j i h)).tr F10 (fun j i h => xw_o_sub (by decide +kernel) j i h)).tr F22 (fun j i h => xw_o_sub (by decide +kernel) j i h))⟩
            · refine xw_tabI (pc := 72) (tgt := 244) (off := 172) C0 (by omega) dX8_readOne_72 (by omega) (by omega) (by rw [sw]; rfl) rfl ?_
              refine xw_aload_n (pc := 244) C0 1 dX8_readOne_244 rfl rfl ?_
              refine xw_getR (pc := 245) (f := 1) C0 132 kcX8 dX8_readOne_245 (by decide +kernel) tv_383 (xj_128 hKL) xk_68 rfl (((F10 128 1 rfl).trans ((Ft1 128 1 rfl).trans rfl)).trans (xe_128_1 hS.1)) ?_
              refine xw_iload_n (pc := 248) C0 0 dX8_readOne_248 rfl rfl ?_
              refine xw_iconst (pc := 249) C0 dX8_readOne_249 ?_
              refine xw_iconst (pc := 250) C0 dX8_readOne_250 ?_
              refine xw_callVI (pc := 251) (μ := m10) (ci := 7) (rest := []) (As := [.int (Int32.ofInt (μ 129 6)), .int (Int32.ofInt 0), .int (Int32.ofInt 0)]) C0 hU hO sa_Tg hKL (xs_add (l := l) (w9 := μ 129 6) (g9 := 0) (v9 := 0) (μ := m10) hS_m10.1 hR_m10 (by omega) (by omega) (by omega) (by omega) (by omega)) tv_1051 dX8_readOne_251 tv_1048 tv_1049 tv_1050 tv_6 rfl yb_X7_addStep (by decide +kernel) rfl rfl rfl (by decide +kernel) (Nat.le_of_ble_eq_true rfl) (xj_132 hKL) xk_3 (fun r23 m23 w23 => ?_)
              obtain ⟨rfl, hR_m23, F23⟩ := w23
              have hS_m23 := hd_SF hS_m10 F23 (by decide +kernel)
              have hT_m23 := hd_TF hT_m10 F23 (by decide +kernel)
              have hw_m23 : m23 129 8 = 0 := (F23 129 8 rfl).trans hw_m10
              have hH_m23 := hd_HF hH_m10 F23 (by decide +kernel)
              have hN_m23 : m23 132 5 = (((o + 1) : Nat) : Int) := (F23 132 5 rfl).trans hN_m10
              refine xw_iret C0 hA hr hlk rfl dX8_readOne_254 ?_
              have e0 := hq_onO (t := t) (n := n) (lim := lim) (nm := nm) (m0 := (rd 0).toNat) (m1 := (rd 1).toNat) (d := 6) (p := pz) (o := o) is9 (by omega)
              rw [hq_boW (by omega) (by omega)] at e0
              exact ⟨_, rfl, Or.inl ⟨(hp_x t n pz), (o + 1), e0, rfl, hT_m23, hw_m23, hN_m23, (by omega)⟩, hR_m23, ((((xw_F.rf (ML := [(129, 2, 9), (132, 4, 5), (133, 0, 39), (134, 0, 39), (135, 0, 39)])).tr Ft1 (fun j i h => xw_o_sub (by decide +kernel) j i h)).tr F10 (fun j i h => xw_o_sub (by decide +kernel) j i h)).tr F23 (fun j i h => xw_o_sub (by decide +kernel) j i h))⟩
            · refine xw_tabI (pc := 72) (tgt := 208) (off := 136) C0 (by omega) dX8_readOne_72 (by omega) (by omega) (by rw [sw]; rfl) rfl ?_
              refine xw_aload_n (pc := 208) C0 1 dX8_readOne_208 rfl rfl ?_
              refine xw_iload_n (pc := 209) C0 0 dX8_readOne_209 rfl rfl ?_
              refine xw_iconst (pc := 210) C0 dX8_readOne_210 ?_
              refine xw_aload_n (pc := 211) C0 1 dX8_readOne_211 rfl rfl ?_
              refine xw_getR (pc := 212) (f := 0) C0 129 kcX8 dX8_readOne_212 (by decide +kernel) tv_381 (xj_128 hKL) xk_68 rfl (((F10 128 0 rfl).trans ((Ft1 128 0 rfl).trans rfl)).trans (xe_128_0 hS.1)) ?_
              refine xw_aload_n (pc := 215) C0 2 dX8_readOne_215 rfl rfl ?_
              refine xw_callVI (pc := 216) (μ := m10) (ci := 6) (rest := [.int (Int32.ofInt 0), .int (Int32.ofInt (μ 129 6)), .ref (xw_ad al 128)]) (As := [.ref (xw_ad al 4)]) C0 hU hO sa_Tg hKL (xd_takeFault (l := l) (rd := rd) (nm := nm) hS_m10 hT_m10 hw_m10 hH_m10 hK) tv_605 dX8_readOne_216 tv_1052 tv_603 tv_604 tv_9 rfl yb_X6_takeFault (by decide +kernel) rfl rfl rfl (by decide +kernel) (Nat.le_of_ble_eq_true rfl) (xj_129 hKL) xk_17 (fun r24 m24 w24 => ?_)
              obtain ⟨w24, F24⟩ := w24
              rcases w24 with ⟨v24, p24, eo24, rfl, u24, hT_m24, hw_m24⟩ | ⟨e24, eo24, rfl, W24⟩
              · have nb24 := hp_oneR eo24
                have hS_m24 := hd_SF hS_m10 F24 (by decide +kernel)
                have hH_m24 := hd_HF hH_m10 F24 (by decide +kernel)
                have hN_m24 : m24 132 5 = (((o + 1) : Nat) : Int) := (F24 132 5 rfl).trans hN_m10
                have hR_m24 := hd_RF hR_m10 F24 (by decide +kernel)
                refine xw_callVI (pc := 219) (μ := m24) (ci := 8) (rest := []) (As := [.int (Int32.ofInt (μ 129 6)), .int (Int32.ofInt 0), .int (Int32.ofInt r24)]) C0 hU hO sa_Tg hKL (xs_num (l := l) (w9 := μ 129 6) (g9 := 0) (v9 := r24) (μ := m24) hS_m24.1 hR_m24 (by omega) (by omega) (by omega) (fun _ q => by omega) (fun _ q => by omega)) tv_1056 dX8_readOne_219 tv_1053 tv_1055 tq_X8_addNumbered tv_11 rfl yb_X8_addNumbered (by decide +kernel) rfl rfl rfl (by decide +kernel) (Nat.le_of_ble_eq_true rfl) (xj_128 hKL) xk_68 (fun r25 m25 w25 => ?_)
                rcases w25.symm with ⟨-, rfl, hR_m25, F25⟩ | ⟨w25, -, -⟩
                rotate_left
                · exfalso
                  omega
                have hS_m25 := hd_SF hS_m24 F25 (by decide +kernel)
                have hT_m25 := hd_TF hT_m24 F25 (by decide +kernel)
                have hw_m25 : m25 129 8 = 0 := (F25 129 8 rfl).trans hw_m24
                have hH_m25 := hd_HF hH_m24 F25 (by decide +kernel)
                have hN_m25 : m25 132 5 = (((o + 1) : Nat) : Int) := (F25 132 5 rfl).trans hN_m24
                refine xw_iret C0 hA hr hlk rfl dX8_readOne_222 ?_
                have e0 := hq_onO (t := t) (n := n) (lim := lim) (nm := nm) (m0 := (rd 0).toNat) (m1 := (rd 1).toNat) (d := 6) (p := pz) (o := o) is9 (by omega)
                rw [hq_boH (by omega) (by omega)] at e0
                rw [eo24, hq_nur] at e0
                exact ⟨_, rfl, Or.inl ⟨p24, (o + 1), e0, rfl, hT_m25, hw_m25, hN_m25, (by omega)⟩, hR_m25, (((((xw_F.rf (ML := [(129, 2, 9), (132, 4, 5), (133, 0, 39), (134, 0, 39), (135, 0, 39)])).tr Ft1 (fun j i h => xw_o_sub (by decide +kernel) j i h)).tr F10 (fun j i h => xw_o_sub (by decide +kernel) j i h)).tr F24 (fun j i h => xw_o_sub (by decide +kernel) j i h)).tr F25 (fun j i h => xw_o_sub (by decide +kernel) j i h))⟩
              · have hS_m24 := hd_SF hS_m10 F24 (by decide +kernel)
                have hH_m24 := hd_HF hH_m10 F24 (by decide +kernel)
                have hN_m24 : m24 132 5 = (((o + 1) : Nat) : Int) := (F24 132 5 rfl).trans hN_m10
                have hR_m24 := hd_RF hR_m10 F24 (by decide +kernel)
                refine xw_callVI (pc := 219) (μ := m24) (ci := 8) (rest := []) (As := [.int (Int32.ofInt (μ 129 6)), .int (Int32.ofInt 0), .int (Int32.ofInt (-1))]) C0 hU hO sa_Tg hKL (xs_num (l := l) (w9 := μ 129 6) (g9 := 0) (v9 := -1) (μ := m24) hS_m24.1 hR_m24 (by omega) (by omega) (by omega) (fun _ q => by omega) (fun _ q => by omega)) tv_1056 dX8_readOne_219 tv_1053 tv_1055 tq_X8_addNumbered tv_11 rfl yb_X8_addNumbered (by decide +kernel) rfl rfl rfl (by decide +kernel) (Nat.le_of_ble_eq_true rfl) (xj_128 hKL) xk_68 (fun r26 m26 w26 => ?_)
                rcases w26 with ⟨-, rfl, rfl⟩ | ⟨w26, -, -, -⟩
                rotate_left
                · exfalso
                  omega
                refine xw_iret C0 hA hr hlk rfl dX8_readOne_222 ?_
                have e0 := hq_onO (t := t) (n := n) (lim := lim) (nm := nm) (m0 := (rd 0).toNat) (m1 := (rd 1).toNat) (d := 6) (p := pz) (o := o) is9 (by omega)
                rw [hq_boH (by omega) (by omega)] at e0
                rw [eo24, hq_nul] at e0
                exact ⟨_, rfl, Or.inr ⟨_, e0, rfl, W24⟩, hR_m24, ((((xw_F.rf (ML := [(129, 2, 9), (132, 4, 5), (133, 0, 39), (134, 0, 39), (135, 0, 39)])).tr Ft1 (fun j i h => xw_o_sub (by decide +kernel) j i h)).tr F10 (fun j i h => xw_o_sub (by decide +kernel) j i h)).tr F24 (fun j i h => xw_o_sub (by decide +kernel) j i h))⟩
            · refine xw_tabI (pc := 72) (tgt := 238) (off := 166) C0 (by omega) dX8_readOne_72 (by omega) (by omega) (by rw [sw]; rfl) rfl ?_
              refine xw_aload_n (pc := 238) C0 1 dX8_readOne_238 rfl rfl ?_
              refine xw_iload_n (pc := 239) C0 0 dX8_readOne_239 rfl rfl ?_
              refine xw_callVI (pc := 240) (μ := m10) (ci := 8) (rest := []) (As := [.int (Int32.ofInt (μ 129 6))]) C0 hU hO sa_Tg hKL (xs_cmp (l := l) (w9 := μ 129 6) (rd := rd) (nm := nm) hS_m10 hT_m10 hw_m10 hH_m10 hK hN_m10 (by omega) hR_m10 (by omega)) tv_1061 dX8_readOne_240 tv_1058 tv_1060 tq_X8_readCompared tv_11 rfl yb_X8_readCompared (by decide +kernel) rfl rfl rfl (by decide +kernel) (Nat.le_of_ble_eq_true rfl) (xj_128 hKL) xk_68 (fun r27 m27 w27 => ?_)
              obtain ⟨w27, hR_m27, F27⟩ := w27
              refine xw_iret C0 hA hr hlk (hd_Qn w27) dX8_readOne_243 ?_
              have e0 := hq_onO (t := t) (n := n) (lim := lim) (nm := nm) (m0 := (rd 0).toNat) (m1 := (rd 1).toNat) (d := 6) (p := pz) (o := o) is9 (by omega)
              rw [hq_boC (by omega) (by omega)] at e0
              exact ⟨_, rfl, by rw [e0]; exact w27, hR_m27, ((((xw_F.rf (ML := [(129, 2, 9), (132, 4, 5), (133, 0, 39), (134, 0, 39), (135, 0, 39)])).tr Ft1 (fun j i h => xw_o_sub (by decide +kernel) j i h)).tr F10 (fun j i h => xw_o_sub (by decide +kernel) j i h)).tr F27 (fun j i h => xw_o_sub (by decide +kernel) j i h))⟩
            · refine xw_tabI (pc := 72) (tgt := 238) (off := 166) C0 (by omega) dX8_readOne_72 (by omega) (by omega) (by rw [sw]; rfl) rfl ?_
              refine xw_aload_n (pc := 238) C0 1 dX8_readOne_238 rfl rfl ?_
              refine xw_iload_n (pc := 239) C0 0 dX8_readOne_239 rfl rfl ?_
              refine xw_callVI (pc := 240) (μ := m10) (ci := 8) (rest := []) (As := [.int (Int32.ofInt (μ 129 6))]) C0 hU hO sa_Tg hKL (xs_cmp (l := l) (w9 := μ 129 6) (rd := rd) (nm := nm) hS_m10 hT_m10 hw_m10 hH_m10 hK hN_m10 (by omega) hR_m10 (by omega)) tv_1061 dX8_readOne_240 tv_1058 tv_1060 tq_X8_readCompared tv_11 rfl yb_X8_readCompared (by decide +kernel) rfl rfl rfl (by decide +kernel) (Nat.le_of_ble_eq_true rfl) (xj_128 hKL) xk_68 (fun r28 m28 w28 => ?_)
              obtain ⟨w28, hR_m28, F28⟩ := w28
              refine xw_iret C0 hA hr hlk (hd_Qn w28) dX8_readOne_243 ?_
              have e0 := hq_onO (t := t) (n := n) (lim := lim) (nm := nm) (m0 := (rd 0).toNat) (m1 := (rd 1).toNat) (d := 6) (p := pz) (o := o) is9 (by omega)
              rw [hq_boC (by omega) (by omega)] at e0
              exact ⟨_, rfl, by rw [e0]; exact w28, hR_m28, ((((xw_F.rf (ML := [(129, 2, 9), (132, 4, 5), (133, 0, 39), (134, 0, 39), (135, 0, 39)])).tr Ft1 (fun j i h => xw_o_sub (by decide +kernel) j i h)).tr F10 (fun j i h => xw_o_sub (by decide +kernel) j i h)).tr F28 (fun j i h => xw_o_sub (by decide +kernel) j i h))⟩
            · refine xw_tabI (pc := 72) (tgt := 238) (off := 166) C0 (by omega) dX8_readOne_72 (by omega) (by omega) (by rw [sw]; rfl) rfl ?_
              refine xw_aload_n (pc := 238) C0 1 dX8_readOne_238 rfl rfl ?_
              refine xw_iload_n (pc := 239) C0 0 dX8_readOne_239 rfl rfl ?_
              refine xw_callVI (pc := 240) (μ := m10) (ci := 8) (rest := []) (As := [.int (Int32.ofInt (μ 129 6))]) C0 hU hO sa_Tg hKL (xs_cmp (l := l) (w9 := μ 129 6) (rd := rd) (nm := nm) hS_m10 hT_m10 hw_m10 hH_m10 hK hN_m10 (by omega) hR_m10 (by omega)) tv_1061 dX8_readOne_240 tv_1058 tv_1060 tq_X8_readCompared tv_11 rfl yb_X8_readCompared (by decide +kernel) rfl rfl rfl (by decide +kernel) (Nat.le_of_ble_eq_true rfl) (xj_128 hKL) xk_68 (fun r29 m29 w29 => ?_)
              obtain ⟨w29, hR_m29, F29⟩ := w29
              refine xw_iret C0 hA hr hlk (hd_Qn w29) dX8_readOne_243 ?_
              have e0 := hq_onO (t := t) (n := n) (lim := lim) (nm := nm) (m0 := (rd 0).toNat) (m1 := (rd 1).toNat) (d := 6) (p := pz) (o := o) is9 (by omega)
              rw [hq_boC (by omega) (by omega)] at e0
              exact ⟨_, rfl, by rw [e0]; exact w29, hR_m29, ((((xw_F.rf (ML := [(129, 2, 9), (132, 4, 5), (133, 0, 39), (134, 0, 39), (135, 0, 39)])).tr Ft1 (fun j i h => xw_o_sub (by decide +kernel) j i h)).tr F10 (fun j i h => xw_o_sub (by decide +kernel) j i h)).tr F29 (fun j i h => xw_o_sub (by decide +kernel) j i h))⟩
          · exfalso
            omega
      · exfalso
        omega
    · refine xw_if_ne (pc := 4) (tgt := 16) C0 (by omega) dX8_readOne_4 rfl (fun b30 => ?_) (fun b30 => ?_)
      · exfalso
        omega
      · refine xw_aload_n (pc := 7) C0 0 dX8_readOne_7 rfl rfl ?_
        refine xw_getR (pc := 8) (f := 0) C0 129 kcX8 dX8_readOne_8 (by decide +kernel) tv_381 (xj_128 hKL) xk_68 rfl ((rfl).trans (xe_128_0 hS.1)) ?_
        refine xw_iconst (pc := 11) C0 dX8_readOne_11 ?_
        refine xw_callVI (pc := 12) (μ := μ) (ci := 6) (rest := []) (As := [.int (Int32.ofInt 1)]) C0 hU hO sa_Tg hKL (xd_refuse (l := l) (μ := μ) (v := 1) (by decide +kernel) (by have q3 := hT.2.2.1; have q1 := hp_plb (t := t) (lim := lim) hT.1; have q2 := hS.2.2.2.2.2.1; omega)) tv_546 dX8_readOne_12 tv_1041 tv_544 tv_545 tv_9 rfl yb_X6_refuse (by decide +kernel) rfl rfl rfl (by decide +kernel) (Nat.le_of_ble_eq_true rfl) (xj_129 hKL) xk_17 (fun r31 m31 w31 => ?_)
        obtain ⟨rfl, w31⟩ := w31
        rcases w31.symm with ⟨w31, -⟩ | ⟨-, x31, y31, F31⟩
        · exfalso
          omega
        have W31 : hd_W (hp_bad t n lim 1 pz) m31 := hd_Wb ⟨by decide, by decide⟩ x31 (y31.trans hT.2.2.1)
        have hR_m31 := hd_RF hR F31 (by decide +kernel)
        refine xw_iret C0 hA hr hlk rfl dX8_readOne_15 ?_
        exact ⟨_, rfl, Or.inr ⟨_, hq_onN is9, rfl, W31⟩, hR_m31, ((xw_F.rf (ML := [(129, 2, 9), (132, 4, 5), (133, 0, 39), (134, 0, 39), (135, 0, 39)])).tr F31 (fun j i h => xw_o_sub (by decide +kernel) j i h))⟩)
