set_option maxRecDepth 20000 in
set_option maxHeartbeats 20000000 in
theorem xd_step {l : Launch} {t : Nat → Int} {n lim pz : Nat} {μ : xw_M} (hS : hd_S t n lim μ) (hpn : μ 129 4 = (pz : Int)) (hp9 : pz ≤ n) : xw_MetV l vwCl sa_Ts tb_KT0 tc_KL yX6_step cX6_step 2 none 4 166 (fun ad => [.ref (ad 129)]) μ (fun μ' => hd_T t n lim pz μ' ∧ xw_F [(129, 2, 7)] μ μ') :=
  xw_of (by decide +kernel) (fun _ => Nat.le_of_ble_eq_true rfl) (fun p e s m args below meth c D dA A al w0 sz C0 hU hO hKL hr hlk hA => by
    have n_μ := hS.2.2.1
    have l_μ := hS.2.2.2.2.1
    have b_μ := hS.2.2.2.2.2
    refine xw_aload_n (pc := 0) C0 0 dX6_step_0 rfl rfl ?_
    refine xw_getI (pc := 1) (f := 4) (z := μ 129 4) C0 kcX6 dX6_step_1 (by decide +kernel) tv_292 (xj_129 hKL) xk_17 rfl (rfl) (fun g1 k1 => ?_)
    refine xw_istore_n (pc := 4) (L' := [(1, .int (Int32.ofInt (μ 129 4))), (0, .ref (xw_ad al 129))]) C0 dX6_step_4 rfl (by decide +kernel) rfl ?_
    have hib := hp_ib (t := t) hp9
    rw [hpn]
    refine xw_pk [0, 1] (L' := [(1, .int (Int32.ofInt (pz : Int))), (0, .ref (xw_ad al 129))]) rfl ?_
    refine xd_stL C0 hU hO hKL hS (q := hp_i t n pz) ?_ 2000 pz (by omega) hp9 rfl
    refine xw_aload_n (pc := 36) C0 1 dX6_step_36 rfl rfl ?_
    refine xw_iload_n (pc := 37) C0 0 dX6_step_37 rfl rfl ?_
    refine xw_putI (pc := 38) (f := 3) C0 kcX6 dX6_step_38 (by decide +kernel) tv_291 rfl rfl (xj_129 hKL) xk_17 rfl (by omega) (by omega) ?_
    refine xw_aload_n (pc := 41) C0 1 dX6_step_41 rfl rfl ?_
    refine xw_iload_n (pc := 42) C0 0 dX6_step_42 rfl rfl ?_
    refine xw_iconst (pc := 43) C0 dX6_step_43 ?_
    refine xw_iadd (pc := 44) C0 dX6_step_44 ?_
    refine xw_putI (pc := 45) (f := 4) C0 kcX6 dX6_step_45 (by decide +kernel) tv_292 rfl rfl (xj_129 hKL) xk_17 rfl (by omega) (by omega) ?_
    refine xw_aload_n (pc := 48) C0 1 dX6_step_48 rfl rfl ?_
    refine xw_iconst (pc := 49) C0 dX6_step_49 ?_
    refine xw_putI (pc := 50) (f := 6) C0 kcX6 dX6_step_50 (by decide +kernel) tv_299 rfl rfl (xj_129 hKL) xk_17 rfl (by omega) (by omega) ?_
    refine xw_aload_n (pc := 53) C0 1 dX6_step_53 rfl rfl ?_
    refine xw_aload_n (pc := 54) C0 1 dX6_step_54 rfl rfl ?_
    refine xw_getR (pc := 55) (f := 0) C0 1 kcX6 dX6_step_55 (by decide +kernel) tv_285 (xj_129 hKL) xk_17 rfl (((xw_un (by decide +kernel)).trans ((xw_un (by decide +kernel)).trans ((xw_un (by decide +kernel)).trans rfl))).trans hS.2.2.2.1) ?_
    refine xw_iload_n (pc := 58) C0 0 dX6_step_58 rfl rfl ?_
    have Ft1 : xw_F [(129, 3, 3), (129, 4, 4), (129, 6, 6)] μ (xw_u (xw_u (xw_u μ 129 3 ((hp_i t n pz : Nat) : Int)) 129 4 (((hp_i t n pz : Nat) : Int) + 1)) 129 6 (-1)) := ((((xw_F.rf (ML := [(129, 3, 3), (129, 4, 4), (129, 6, 6)])).u (show (129, 3, 3) ∈ _ by decide) ⟨by decide, by decide⟩).u (show (129, 4, 4) ∈ _ by decide) ⟨by decide, by decide⟩).u (show (129, 6, 6) ∈ _ by decide) ⟨by decide, by decide⟩)
    have vt1_104_6 : (xw_u (xw_u (xw_u μ 129 3 ((hp_i t n pz : Nat) : Int)) 129 4 (((hp_i t n pz : Nat) : Int) + 1)) 129 6 (-1)) 129 6 = (-1) := xw_ug
    have vt1_104_4 : (xw_u (xw_u (xw_u μ 129 3 ((hp_i t n pz : Nat) : Int)) 129 4 (((hp_i t n pz : Nat) : Int) + 1)) 129 6 (-1)) 129 4 = ((hp_i t n pz : Nat) : Int) + 1 := (xw_un (by decide +kernel)).trans xw_ug
    have vt1_104_3 : (xw_u (xw_u (xw_u μ 129 3 ((hp_i t n pz : Nat) : Int)) 129 4 (((hp_i t n pz : Nat) : Int) + 1)) 129 6 (-1)) 129 3 = ((hp_i t n pz : Nat) : Int) := (xw_un (by decide +kernel)).trans ((xw_un (by decide +kernel)).trans xw_ug)
    generalize (xw_u (xw_u (xw_u μ 129 3 ((hp_i t n pz : Nat) : Int)) 129 4 (((hp_i t n pz : Nat) : Int) + 1)) 129 6 (-1)) = t1 at Ft1 vt1_104_6 vt1_104_4 vt1_104_3 ⊢
    have hS_t1 := hd_SF hS Ft1 (by decide +kernel)
    have n_t1 := hS_t1.2.2.1
    have l_t1 := hS_t1.2.2.2.2.1
    have b_t1 := hS_t1.2.2.2.2.2
    refine xw_callVI (pc := 59) (μ := t1) (ci := 0) (rest := [.ref (xw_ad al 129)]) (As := [.int (Int32.ofInt ((hp_i t n pz : Nat) : Int))]) C0 hU hO sa_Tg hKL (xm_at (l := l) (i := ((hp_i t n pz : Nat) : Int)) (by omega) hS_t1.1) tv_513 dX6_step_59 tv_510 tv_511 tv_512 tv_2 rfl yb_X0_at (by decide +kernel) rfl rfl rfl (by decide +kernel) (Nat.le_of_ble_eq_true rfl) (xj_1 hKL) xk_19 (fun r101 m101 w101 => ?_)
    obtain ⟨rfl, w101⟩ := w101
    have u101 : 0 ≤ t (hp_i t n pz) ∧ t (hp_i t n pz) ≤ 255 := by rw [← hS_t1.2.1 (hp_i t n pz)]; omega
    have v101 : (hp_i t n pz < n → r101 = t (hp_i t n pz)) ∧ -1 ≤ r101 ∧ r101 ≤ 255 := by
      rcases w101 with q | q
      · have q9 := q.2.2.trans (hS_t1.2.1 _)
        have q9 : r101 = t (hp_i t n pz) := q9
        exact ⟨fun _ => q9, by omega, by omega⟩
      · exact ⟨fun q8 => absurd ⟨by omega, by omega⟩ q.1, by omega, by omega⟩
    refine xw_putI (pc := 62) (f := 7) C0 kcX6 dX6_step_62 (by decide +kernel) tv_300 rfl rfl (xj_129 hKL) xk_17 rfl (by omega) (by omega) ?_
    refine xw_iload_n (pc := 65) C0 0 dX6_step_65 rfl rfl ?_
    refine xw_aload_n (pc := 66) C0 1 dX6_step_66 rfl rfl ?_
    refine xw_getI (pc := 67) (f := 1) (z := μ 129 1) C0 kcX6 dX6_step_67 (by decide +kernel) tv_286 (xj_129 hKL) xk_17 rfl ((xw_un (by decide +kernel)).trans ((Ft1 129 1 rfl).trans rfl)) (fun g102 k102 => ?_)
    refine xw_icmp_lt (pc := 70) (tgt := 103) C0 (by omega) (by omega) dX6_step_70 rfl (fun b103 => ?_) (fun b103 => ?_)
    · refine xw_iload_n (pc := 103) C0 0 dX6_step_103 rfl rfl ?_
      refine xw_aload_n (pc := 104) C0 1 dX6_step_104 rfl rfl ?_
      refine xw_getR (pc := 105) (f := 0) C0 1 kcX6 dX6_step_105 (by decide +kernel) tv_285 (xj_129 hKL) xk_17 rfl (((xw_un (by decide +kernel)).trans ((Ft1 129 0 rfl).trans rfl)).trans hS.2.2.2.1) ?_
      refine xw_getI (pc := 108) (f := 1) (z := μ 1 1) C0 kcX0 dX6_step_108 (by decide +kernel) tv_42 (xj_1 hKL) xk_19 rfl ((xw_un (fun q => absurd q.1 (by decide +kernel))).trans ((Ft1 1 1 rfl).trans rfl)) (fun g104 k104 => ?_)
      refine xw_icmp_lt (pc := 111) (tgt := 133) C0 (by omega) (by omega) dX6_step_111 rfl (fun b105 => ?_) (fun b105 => ?_)
      · have rv := v101.1 (by omega)
        refine xw_aload_n (pc := 133) C0 1 dX6_step_133 rfl rfl ?_
        refine xw_getI (pc := 134) (f := 7) (z := r101) C0 kcX6 dX6_step_134 (by decide +kernel) tv_300 (xj_129 hKL) xk_17 rfl (xw_ug) (fun g106 k106 => ?_)
        refine xw_callSI (pc := 137) (μ := (xw_u t1 129 7 r101)) (rest := []) (As := [.int (Int32.ofInt r101)]) C0 hU hO sa_Tg hKL (xh_isLetter (l := l) (v := r101) (by omega)) tv_519 dX6_step_137 tv_517 tv_518 tv_9 yb_X6_isLetter (by decide +kernel) rfl rfl rfl (by decide +kernel) (Nat.le_of_ble_eq_true rfl) (fun r107 m107 w107 => ?_)
        obtain ⟨rfl, w107⟩ := w107
        rcases w107 with ⟨w107, rfl⟩ | ⟨w107, rfl⟩
        · refine xw_if_ne (pc := 140) (tgt := 153) C0 (by omega) dX6_step_140 rfl (fun b108 => ?_) (fun b108 => ?_)
          · refine xw_aload_n (pc := 153) C0 1 dX6_step_153 rfl rfl ?_
            refine xw_iload_n (pc := 154) C0 0 dX6_step_154 rfl rfl ?_
            have Ft2 : xw_F [(129, 7, 7)] t1 (xw_u t1 129 7 r101) := ((xw_F.rf (ML := [(129, 7, 7)])).u (show (129, 7, 7) ∈ _ by decide) ⟨by decide, by decide⟩)
            have vt2_104_7 : (xw_u t1 129 7 r101) 129 7 = r101 := xw_ug
            generalize (xw_u t1 129 7 r101) = t2 at Ft2 vt2_104_7 ⊢
            have hS_t2 := hd_SF hS_t1 Ft2 (by decide +kernel)
            have n_t2 := hS_t2.2.2.1
            have l_t2 := hS_t2.2.2.2.2.1
            have b_t2 := hS_t2.2.2.2.2.2
            refine xw_callVV (pc := 155) (μ := t2) (ci := 6) (rest := []) (As := [.int (Int32.ofInt ((hp_i t n pz : Nat) : Int))]) C0 hU hO sa_Tg hKL (xd_readRun (l := l) (t := t) (n := n) (lim := lim) (f9 := hp_i t n pz) hS_t2 (by omega)) tv_526 dX6_step_155 tv_523 tv_525 tq_X6_readRun tv_9 rfl yb_X6_readRun (by decide +kernel) rfl rfl rfl (by decide +kernel) (Nat.le_of_ble_eq_true rfl) (xj_129 hKL) xk_17 (fun m109 w109 => ?_)
            obtain ⟨k9, w1091, w1092, w1093, w1094, w1095, w1096, F109⟩ := w109
            refine xw_goto (pc := 158) (tgt := 180) C0 dX6_step_158 rfl ?_
            refine xw_vret C0 hA hr hlk dX6_step_180 ?_
            have K := hp_kC (t := t) (n := n) (lim := lim) (p := pz) (by omega) (by omega) (by omega)
            have en : hp_n t n pz = k9 := by unfold hp_n; omega
            rw [en] at K
            have a3 : m109 129 3 = t1 129 3 := (F109 129 3 rfl).trans ((Ft2 129 3 rfl).trans rfl)
            have a66 : t2 129 6 = t1 129 6 := (Ft2 129 6 rfl).trans rfl
            refine ⟨rfl, ⟨hp9, by omega, by omega, fun q9 => ?_, fun q9 => ?_, fun q9 => ?_, fun q9 => ?_, fun q9 => by omega⟩, ((((xw_F.rf (ML := [(129, 2, 7)])).tr Ft1 (fun j i h => xw_o_sub (by decide +kernel) j i h)).tr Ft2 (fun j i h => xw_o_sub (by decide +kernel) j i h)).tr F109 (fun j i h => xw_o_sub (by decide +kernel) j i h))⟩
            · unfold hp_w; rw [en]; exact w1094 (by omega)
            · have a6 := w1096 (by omega); omega
            · unfold hp_u; rw [en]; exact w1095 (by omega)
            · have a7 := hp_rkb t (hp_i t n pz) k9; omega
          · exfalso
            omega
        · refine xw_if_ne (pc := 140) (tgt := 153) C0 (by omega) dX6_step_140 rfl (fun b110 => ?_) (fun b110 => ?_)
          · exfalso
            omega
          · refine xw_aload_n (pc := 143) C0 1 dX6_step_143 rfl rfl ?_
            refine xw_getI (pc := 144) (f := 7) (z := r101) C0 kcX6 dX6_step_144 (by decide +kernel) tv_300 (xj_129 hKL) xk_17 rfl (xw_ug) (fun g111 k111 => ?_)
            refine xw_callSI (pc := 147) (μ := (xw_u t1 129 7 r101)) (rest := []) (As := [.int (Int32.ofInt r101)]) C0 hU hO sa_Tg hKL (xh_isDigit (l := l) (v := r101) (by omega)) tv_522 dX6_step_147 tv_520 tv_521 tv_9 yb_X6_isDigit (by decide +kernel) rfl rfl rfl (by decide +kernel) (Nat.le_of_ble_eq_true rfl) (fun r112 m112 w112 => ?_)
            obtain ⟨rfl, w112⟩ := w112
            rcases w112 with ⟨w112, rfl⟩ | ⟨w112, rfl⟩
            · refine xw_if_eq (pc := 150) (tgt := 161) C0 (by omega) dX6_step_150 rfl (fun b113 => ?_) (fun b113 => ?_)
              · exfalso
                omega
              · refine xw_aload_n (pc := 153) C0 1 dX6_step_153 rfl rfl ?_
                refine xw_iload_n (pc := 154) C0 0 dX6_step_154 rfl rfl ?_
                have Ft3 : xw_F [(129, 7, 7)] t1 (xw_u t1 129 7 r101) := ((xw_F.rf (ML := [(129, 7, 7)])).u (show (129, 7, 7) ∈ _ by decide) ⟨by decide, by decide⟩)
                have vt3_104_7 : (xw_u t1 129 7 r101) 129 7 = r101 := xw_ug
                generalize (xw_u t1 129 7 r101) = t3 at Ft3 vt3_104_7 ⊢
                have hS_t3 := hd_SF hS_t1 Ft3 (by decide +kernel)
                have n_t3 := hS_t3.2.2.1
                have l_t3 := hS_t3.2.2.2.2.1
                have b_t3 := hS_t3.2.2.2.2.2
                refine xw_callVV (pc := 155) (μ := t3) (ci := 6) (rest := []) (As := [.int (Int32.ofInt ((hp_i t n pz : Nat) : Int))]) C0 hU hO sa_Tg hKL (xd_readRun (l := l) (t := t) (n := n) (lim := lim) (f9 := hp_i t n pz) hS_t3 (by omega)) tv_526 dX6_step_155 tv_523 tv_525 tq_X6_readRun tv_9 rfl yb_X6_readRun (by decide +kernel) rfl rfl rfl (by decide +kernel) (Nat.le_of_ble_eq_true rfl) (xj_129 hKL) xk_17 (fun m114 w114 => ?_)
                obtain ⟨k9, w1141, w1142, w1143, w1144, w1145, w1146, F114⟩ := w114
                refine xw_goto (pc := 158) (tgt := 180) C0 dX6_step_158 rfl ?_
                refine xw_vret C0 hA hr hlk dX6_step_180 ?_
                have K := hp_kC (t := t) (n := n) (lim := lim) (p := pz) (by omega) (by omega) (by omega)
                have en : hp_n t n pz = k9 := by unfold hp_n; omega
                rw [en] at K
                have a3 : m114 129 3 = t1 129 3 := (F114 129 3 rfl).trans ((Ft3 129 3 rfl).trans rfl)
                have a66 : t3 129 6 = t1 129 6 := (Ft3 129 6 rfl).trans rfl
                refine ⟨rfl, ⟨hp9, by omega, by omega, fun q9 => ?_, fun q9 => ?_, fun q9 => ?_, fun q9 => ?_, fun q9 => by omega⟩, ((((xw_F.rf (ML := [(129, 2, 7)])).tr Ft1 (fun j i h => xw_o_sub (by decide +kernel) j i h)).tr Ft3 (fun j i h => xw_o_sub (by decide +kernel) j i h)).tr F114 (fun j i h => xw_o_sub (by decide +kernel) j i h))⟩
                · unfold hp_w; rw [en]; exact w1144 (by omega)
                · have a6 := w1146 (by omega); omega
                · unfold hp_u; rw [en]; exact w1145 (by omega)
                · have a7 := hp_rkb t (hp_i t n pz) k9; omega
            · refine xw_if_eq (pc := 150) (tgt := 161) C0 (by omega) dX6_step_150 rfl (fun b115 => ?_) (fun b115 => ?_)
              · refine xw_aload_n (pc := 161) C0 1 dX6_step_161 rfl rfl ?_
                refine xw_aload_n (pc := 162) C0 1 dX6_step_162 rfl rfl ?_
                refine xw_getI (pc := 163) (f := 7) (z := r101) C0 kcX6 dX6_step_163 (by decide +kernel) tv_300 (xj_129 hKL) xk_17 rfl (xw_ug) (fun g116 k116 => ?_)
                refine xw_callSI (pc := 166) (μ := (xw_u t1 129 7 r101)) (rest := [.ref (xw_ad al 129)]) (As := [.int (Int32.ofInt r101)]) C0 hU hO sa_Tg hKL (xh_isSign (l := l) (v := r101) (by omega)) tv_534 dX6_step_166 tv_532 tv_533 tv_9 yb_X6_isSign (by decide +kernel) rfl rfl rfl (by decide +kernel) (Nat.le_of_ble_eq_true rfl) (fun r117 m117 w117 => ?_)
                obtain ⟨rfl, w117⟩ := w117
                rcases w117 with ⟨w117, rfl⟩ | ⟨w117, rfl⟩
                · refine xw_if_eq (pc := 169) (tgt := 176) C0 (by omega) dX6_step_169 rfl (fun b118 => ?_) (fun b118 => ?_)
                  · exfalso
                    omega
                  · refine xw_iconst (pc := 172) C0 dX6_step_172 ?_
                    refine xw_goto (pc := 173) (tgt := 177) C0 dX6_step_173 rfl ?_
                    refine xw_putI (pc := 177) (f := 2) C0 kcX6 dX6_step_177 (by decide +kernel) tv_290 rfl rfl (xj_129 hKL) xk_17 rfl (by omega) (by omega) ?_
                    refine xw_vret C0 hA hr hlk dX6_step_180 ?_
                    have Ft4 : xw_F [(129, 2, 2), (129, 7, 7)] t1 (xw_u (xw_u t1 129 7 r101) 129 2 4) := (((xw_F.rf (ML := [(129, 2, 2), (129, 7, 7)])).u (show (129, 7, 7) ∈ _ by decide) ⟨by decide, by decide⟩).u (show (129, 2, 2) ∈ _ by decide) ⟨by decide, by decide⟩)
                    have vt4_104_2 : (xw_u (xw_u t1 129 7 r101) 129 2 4) 129 2 = 4 := xw_ug
                    have vt4_104_7 : (xw_u (xw_u t1 129 7 r101) 129 2 4) 129 7 = r101 := (xw_un (by decide +kernel)).trans xw_ug
                    generalize (xw_u (xw_u t1 129 7 r101) 129 2 4) = t4 at Ft4 vt4_104_2 vt4_104_7 ⊢
                    have K := hp_kD (t := t) (n := n) (lim := lim) (p := pz) (by omega) (by omega) (by omega) (by omega)
                    have es : hp_s t n pz = t (hp_i t n pz) := rfl
                    have y2 : t4 129 2 = t4 129 2 := rfl
                    have y3 : t4 129 3 = t1 129 3 := (Ft4 129 3 rfl).trans rfl
                    have y4 : t4 129 4 = t1 129 4 := (Ft4 129 4 rfl).trans rfl
                    have y6 : t4 129 6 = t1 129 6 := (Ft4 129 6 rfl).trans rfl
                    have y7 : t4 129 7 = t4 129 7 := rfl
                    exact ⟨rfl, ⟨hp9, by omega, by omega, fun q9 => by omega, fun q9 => by omega, fun q9 => by omega, fun q9 => by omega, fun q9 => by omega⟩, (((xw_F.rf (ML := [(129, 2, 7)])).tr Ft1 (fun j i h => xw_o_sub (by decide +kernel) j i h)).tr Ft4 (fun j i h => xw_o_sub (by decide +kernel) j i h))⟩
                · refine xw_if_eq (pc := 169) (tgt := 176) C0 (by omega) dX6_step_169 rfl (fun b119 => ?_) (fun b119 => ?_)
                  · refine xw_iconst (pc := 176) C0 dX6_step_176 ?_
                    refine xw_putI (pc := 177) (f := 2) C0 kcX6 dX6_step_177 (by decide +kernel) tv_290 rfl rfl (xj_129 hKL) xk_17 rfl (by omega) (by omega) ?_
                    refine xw_vret C0 hA hr hlk dX6_step_180 ?_
                    have Ft5 : xw_F [(129, 2, 2), (129, 7, 7)] t1 (xw_u (xw_u t1 129 7 r101) 129 2 1) := (((xw_F.rf (ML := [(129, 2, 2), (129, 7, 7)])).u (show (129, 7, 7) ∈ _ by decide) ⟨by decide, by decide⟩).u (show (129, 2, 2) ∈ _ by decide) ⟨by decide, by decide⟩)
                    have vt5_104_2 : (xw_u (xw_u t1 129 7 r101) 129 2 1) 129 2 = 1 := xw_ug
                    have vt5_104_7 : (xw_u (xw_u t1 129 7 r101) 129 2 1) 129 7 = r101 := (xw_un (by decide +kernel)).trans xw_ug
                    generalize (xw_u (xw_u t1 129 7 r101) 129 2 1) = t5 at Ft5 vt5_104_2 vt5_104_7 ⊢
                    have K := hp_kE (t := t) (n := n) (lim := lim) (p := pz) (by omega) (by omega) (by omega) (by omega)
                    have es : hp_s t n pz = t (hp_i t n pz) := rfl
                    have y2 : t5 129 2 = t5 129 2 := rfl
                    have y3 : t5 129 3 = t1 129 3 := (Ft5 129 3 rfl).trans rfl
                    have y4 : t5 129 4 = t1 129 4 := (Ft5 129 4 rfl).trans rfl
                    have y6 : t5 129 6 = t1 129 6 := (Ft5 129 6 rfl).trans rfl
                    have y7 : t5 129 7 = t5 129 7 := rfl
                    exact ⟨rfl, ⟨hp9, by omega, by omega, fun q9 => by omega, fun q9 => by omega, fun q9 => by omega, fun q9 => by omega, fun q9 => by omega⟩, (((xw_F.rf (ML := [(129, 2, 7)])).tr Ft1 (fun j i h => xw_o_sub (by decide +kernel) j i h)).tr Ft5 (fun j i h => xw_o_sub (by decide +kernel) j i h))⟩
                  · exfalso
                    omega
              · exfalso
                omega
      · refine xw_aload_n (pc := 114) C0 1 dX6_step_114 rfl rfl ?_
        refine xw_aload_n (pc := 115) C0 1 dX6_step_115 rfl rfl ?_
        refine xw_getR (pc := 116) (f := 0) C0 1 kcX6 dX6_step_116 (by decide +kernel) tv_285 (xj_129 hKL) xk_17 rfl (((xw_un (by decide +kernel)).trans ((Ft1 129 0 rfl).trans rfl)).trans hS.2.2.2.1) ?_
        refine xw_getI (pc := 119) (f := 1) (z := μ 1 1) C0 kcX0 dX6_step_119 (by decide +kernel) tv_42 (xj_1 hKL) xk_19 rfl ((xw_un (fun q => absurd q.1 (by decide +kernel))).trans ((Ft1 1 1 rfl).trans rfl)) (fun g120 k120 => ?_)
        refine xw_putI (pc := 122) (f := 3) C0 kcX6 dX6_step_122 (by decide +kernel) tv_291 rfl rfl (xj_129 hKL) xk_17 rfl (by omega) (by omega) ?_
        refine xw_aload_n (pc := 125) C0 1 dX6_step_125 rfl rfl ?_
        refine xw_iconst (pc := 126) C0 dX6_step_126 ?_
        refine xw_putI (pc := 127) (f := 2) C0 kcX6 dX6_step_127 (by decide +kernel) tv_290 rfl rfl (xj_129 hKL) xk_17 rfl (by omega) (by omega) ?_
        refine xw_goto (pc := 130) (tgt := 180) C0 dX6_step_130 rfl ?_
        refine xw_vret C0 hA hr hlk dX6_step_180 ?_
        have Ft6 : xw_F [(129, 2, 2), (129, 3, 3), (129, 7, 7)] t1 (xw_u (xw_u (xw_u t1 129 7 r101) 129 3 (μ 1 1)) 129 2 0) := ((((xw_F.rf (ML := [(129, 2, 2), (129, 3, 3), (129, 7, 7)])).u (show (129, 7, 7) ∈ _ by decide) ⟨by decide, by decide⟩).u (show (129, 3, 3) ∈ _ by decide) ⟨by decide, by decide⟩).u (show (129, 2, 2) ∈ _ by decide) ⟨by decide, by decide⟩)
        have vt6_104_2 : (xw_u (xw_u (xw_u t1 129 7 r101) 129 3 (μ 1 1)) 129 2 0) 129 2 = 0 := xw_ug
        have vt6_104_3 : (xw_u (xw_u (xw_u t1 129 7 r101) 129 3 (μ 1 1)) 129 2 0) 129 3 = μ 1 1 := (xw_un (by decide +kernel)).trans xw_ug
        have vt6_104_7 : (xw_u (xw_u (xw_u t1 129 7 r101) 129 3 (μ 1 1)) 129 2 0) 129 7 = r101 := (xw_un (by decide +kernel)).trans ((xw_un (by decide +kernel)).trans xw_ug)
        generalize (xw_u (xw_u (xw_u t1 129 7 r101) 129 3 (μ 1 1)) 129 2 0) = t6 at Ft6 vt6_104_2 vt6_104_3 vt6_104_7 ⊢
        have K := hp_kB (t := t) (n := n) (lim := lim) (p := pz) (by omega) (by omega)
        have es : hp_s t n pz = t (hp_i t n pz) := rfl
        have y2 : t6 129 2 = t6 129 2 := rfl
        have y3 : t6 129 3 = t6 129 3 := rfl
        have y4 : t6 129 4 = t1 129 4 := (Ft6 129 4 rfl).trans rfl
        have y6 : t6 129 6 = t1 129 6 := (Ft6 129 6 rfl).trans rfl
        have y7 : t6 129 7 = t6 129 7 := rfl
        exact ⟨rfl, ⟨hp9, by omega, by omega, fun q9 => by omega, fun q9 => by omega, fun q9 => by omega, fun q9 => by omega, fun q9 => by omega⟩, (((xw_F.rf (ML := [(129, 2, 7)])).tr Ft1 (fun j i h => xw_o_sub (by decide +kernel) j i h)).tr Ft6 (fun j i h => xw_o_sub (by decide +kernel) j i h))⟩
    · refine xw_aload_n (pc := 73) C0 1 dX6_step_73 rfl rfl ?_
      refine xw_getR (pc := 74) (f := 0) C0 1 kcX6 dX6_step_74 (by decide +kernel) tv_285 (xj_129 hKL) xk_17 rfl (((xw_un (by decide +kernel)).trans ((Ft1 129 0 rfl).trans rfl)).trans hS.2.2.2.1) ?_
      refine xw_getI (pc := 77) (f := 1) (z := μ 1 1) C0 kcX0 dX6_step_77 (by decide +kernel) tv_42 (xj_1 hKL) xk_19 rfl ((xw_un (fun q => absurd q.1 (by decide +kernel))).trans ((Ft1 1 1 rfl).trans rfl)) (fun g121 k121 => ?_)
      refine xw_aload_n (pc := 80) C0 1 dX6_step_80 rfl rfl ?_
      refine xw_getI (pc := 81) (f := 1) (z := μ 129 1) C0 kcX6 dX6_step_81 (by decide +kernel) tv_286 (xj_129 hKL) xk_17 rfl ((xw_un (by decide +kernel)).trans ((Ft1 129 1 rfl).trans rfl)) (fun g122 k122 => ?_)
      refine xw_icmp_le (pc := 84) (tgt := 103) C0 (by omega) (by omega) dX6_step_84 rfl (fun b123 => ?_) (fun b123 => ?_)
      · refine xw_iload_n (pc := 103) C0 0 dX6_step_103 rfl rfl ?_
        refine xw_aload_n (pc := 104) C0 1 dX6_step_104 rfl rfl ?_
        refine xw_getR (pc := 105) (f := 0) C0 1 kcX6 dX6_step_105 (by decide +kernel) tv_285 (xj_129 hKL) xk_17 rfl (((xw_un (by decide +kernel)).trans ((Ft1 129 0 rfl).trans rfl)).trans hS.2.2.2.1) ?_
        refine xw_getI (pc := 108) (f := 1) (z := μ 1 1) C0 kcX0 dX6_step_108 (by decide +kernel) tv_42 (xj_1 hKL) xk_19 rfl ((xw_un (fun q => absurd q.1 (by decide +kernel))).trans ((Ft1 1 1 rfl).trans rfl)) (fun g124 k124 => ?_)
        refine xw_icmp_lt (pc := 111) (tgt := 133) C0 (by omega) (by omega) dX6_step_111 rfl (fun b125 => ?_) (fun b125 => ?_)
        · have rv := v101.1 (by omega)
          refine xw_aload_n (pc := 133) C0 1 dX6_step_133 rfl rfl ?_
          refine xw_getI (pc := 134) (f := 7) (z := r101) C0 kcX6 dX6_step_134 (by decide +kernel) tv_300 (xj_129 hKL) xk_17 rfl (xw_ug) (fun g126 k126 => ?_)
          refine xw_callSI (pc := 137) (μ := (xw_u t1 129 7 r101)) (rest := []) (As := [.int (Int32.ofInt r101)]) C0 hU hO sa_Tg hKL (xh_isLetter (l := l) (v := r101) (by omega)) tv_519 dX6_step_137 tv_517 tv_518 tv_9 yb_X6_isLetter (by decide +kernel) rfl rfl rfl (by decide +kernel) (Nat.le_of_ble_eq_true rfl) (fun r127 m127 w127 => ?_)
          obtain ⟨rfl, w127⟩ := w127
          rcases w127 with ⟨w127, rfl⟩ | ⟨w127, rfl⟩
          · refine xw_if_ne (pc := 140) (tgt := 153) C0 (by omega) dX6_step_140 rfl (fun b128 => ?_) (fun b128 => ?_)
            · refine xw_aload_n (pc := 153) C0 1 dX6_step_153 rfl rfl ?_
              refine xw_iload_n (pc := 154) C0 0 dX6_step_154 rfl rfl ?_
              have Ft7 : xw_F [(129, 7, 7)] t1 (xw_u t1 129 7 r101) := ((xw_F.rf (ML := [(129, 7, 7)])).u (show (129, 7, 7) ∈ _ by decide) ⟨by decide, by decide⟩)
              have vt7_104_7 : (xw_u t1 129 7 r101) 129 7 = r101 := xw_ug
              generalize (xw_u t1 129 7 r101) = t7 at Ft7 vt7_104_7 ⊢
              have hS_t7 := hd_SF hS_t1 Ft7 (by decide +kernel)
              have n_t7 := hS_t7.2.2.1
              have l_t7 := hS_t7.2.2.2.2.1
              have b_t7 := hS_t7.2.2.2.2.2
              refine xw_callVV (pc := 155) (μ := t7) (ci := 6) (rest := []) (As := [.int (Int32.ofInt ((hp_i t n pz : Nat) : Int))]) C0 hU hO sa_Tg hKL (xd_readRun (l := l) (t := t) (n := n) (lim := lim) (f9 := hp_i t n pz) hS_t7 (by omega)) tv_526 dX6_step_155 tv_523 tv_525 tq_X6_readRun tv_9 rfl yb_X6_readRun (by decide +kernel) rfl rfl rfl (by decide +kernel) (Nat.le_of_ble_eq_true rfl) (xj_129 hKL) xk_17 (fun m129 w129 => ?_)
              obtain ⟨k9, w1291, w1292, w1293, w1294, w1295, w1296, F129⟩ := w129
              refine xw_goto (pc := 158) (tgt := 180) C0 dX6_step_158 rfl ?_
              refine xw_vret C0 hA hr hlk dX6_step_180 ?_
              have K := hp_kC (t := t) (n := n) (lim := lim) (p := pz) (by omega) (by omega) (by omega)
              have en : hp_n t n pz = k9 := by unfold hp_n; omega
              rw [en] at K
              have a3 : m129 129 3 = t1 129 3 := (F129 129 3 rfl).trans ((Ft7 129 3 rfl).trans rfl)
              have a66 : t7 129 6 = t1 129 6 := (Ft7 129 6 rfl).trans rfl
              refine ⟨rfl, ⟨hp9, by omega, by omega, fun q9 => ?_, fun q9 => ?_, fun q9 => ?_, fun q9 => ?_, fun q9 => by omega⟩, ((((xw_F.rf (ML := [(129, 2, 7)])).tr Ft1 (fun j i h => xw_o_sub (by decide +kernel) j i h)).tr Ft7 (fun j i h => xw_o_sub (by decide +kernel) j i h)).tr F129 (fun j i h => xw_o_sub (by decide +kernel) j i h))⟩
              · unfold hp_w; rw [en]; exact w1294 (by omega)
              · have a6 := w1296 (by omega); omega
              · unfold hp_u; rw [en]; exact w1295 (by omega)
              · have a7 := hp_rkb t (hp_i t n pz) k9; omega
            · exfalso
              omega
          · refine xw_if_ne (pc := 140) (tgt := 153) C0 (by omega) dX6_step_140 rfl (fun b130 => ?_) (fun b130 => ?_)
            · exfalso
              omega
            · refine xw_aload_n (pc := 143) C0 1 dX6_step_143 rfl rfl ?_
              refine xw_getI (pc := 144) (f := 7) (z := r101) C0 kcX6 dX6_step_144 (by decide +kernel) tv_300 (xj_129 hKL) xk_17 rfl (xw_ug) (fun g131 k131 => ?_)
              refine xw_callSI (pc := 147) (μ := (xw_u t1 129 7 r101)) (rest := []) (As := [.int (Int32.ofInt r101)]) C0 hU hO sa_Tg hKL (xh_isDigit (l := l) (v := r101) (by omega)) tv_522 dX6_step_147 tv_520 tv_521 tv_9 yb_X6_isDigit (by decide +kernel) rfl rfl rfl (by decide +kernel) (Nat.le_of_ble_eq_true rfl) (fun r132 m132 w132 => ?_)
              obtain ⟨rfl, w132⟩ := w132
              rcases w132 with ⟨w132, rfl⟩ | ⟨w132, rfl⟩
              · refine xw_if_eq (pc := 150) (tgt := 161) C0 (by omega) dX6_step_150 rfl (fun b133 => ?_) (fun b133 => ?_)
                · exfalso
                  omega
                · refine xw_aload_n (pc := 153) C0 1 dX6_step_153 rfl rfl ?_
                  refine xw_iload_n (pc := 154) C0 0 dX6_step_154 rfl rfl ?_
                  have Ft8 : xw_F [(129, 7, 7)] t1 (xw_u t1 129 7 r101) := ((xw_F.rf (ML := [(129, 7, 7)])).u (show (129, 7, 7) ∈ _ by decide) ⟨by decide, by decide⟩)
                  have vt8_104_7 : (xw_u t1 129 7 r101) 129 7 = r101 := xw_ug
                  generalize (xw_u t1 129 7 r101) = t8 at Ft8 vt8_104_7 ⊢
                  have hS_t8 := hd_SF hS_t1 Ft8 (by decide +kernel)
                  have n_t8 := hS_t8.2.2.1
                  have l_t8 := hS_t8.2.2.2.2.1
                  have b_t8 := hS_t8.2.2.2.2.2
                  refine xw_callVV (pc := 155) (μ := t8) (ci := 6) (rest := []) (As := [.int (Int32.ofInt ((hp_i t n pz : Nat) : Int))]) C0 hU hO sa_Tg hKL (xd_readRun (l := l) (t := t) (n := n) (lim := lim) (f9 := hp_i t n pz) hS_t8 (by omega)) tv_526 dX6_step_155 tv_523 tv_525 tq_X6_readRun tv_9 rfl yb_X6_readRun (by decide +kernel) rfl rfl rfl (by decide +kernel) (Nat.le_of_ble_eq_true rfl) (xj_129 hKL) xk_17 (fun m134 w134 => ?_)
                  obtain ⟨k9, w1341, w1342, w1343, w1344, w1345, w1346, F134⟩ := w134
                  refine xw_goto (pc := 158) (tgt := 180) C0 dX6_step_158 rfl ?_
                  refine xw_vret C0 hA hr hlk dX6_step_180 ?_
                  have K := hp_kC (t := t) (n := n) (lim := lim) (p := pz) (by omega) (by omega) (by omega)
                  have en : hp_n t n pz = k9 := by unfold hp_n; omega
                  rw [en] at K
                  have a3 : m134 129 3 = t1 129 3 := (F134 129 3 rfl).trans ((Ft8 129 3 rfl).trans rfl)
                  have a66 : t8 129 6 = t1 129 6 := (Ft8 129 6 rfl).trans rfl
                  refine ⟨rfl, ⟨hp9, by omega, by omega, fun q9 => ?_, fun q9 => ?_, fun q9 => ?_, fun q9 => ?_, fun q9 => by omega⟩, ((((xw_F.rf (ML := [(129, 2, 7)])).tr Ft1 (fun j i h => xw_o_sub (by decide +kernel) j i h)).tr Ft8 (fun j i h => xw_o_sub (by decide +kernel) j i h)).tr F134 (fun j i h => xw_o_sub (by decide +kernel) j i h))⟩
                  · unfold hp_w; rw [en]; exact w1344 (by omega)
                  · have a6 := w1346 (by omega); omega
                  · unfold hp_u; rw [en]; exact w1345 (by omega)
                  · have a7 := hp_rkb t (hp_i t n pz) k9; omega
              · refine xw_if_eq (pc := 150) (tgt := 161) C0 (by omega) dX6_step_150 rfl (fun b135 => ?_) (fun b135 => ?_)
                · refine xw_aload_n (pc := 161) C0 1 dX6_step_161 rfl rfl ?_
                  refine xw_aload_n (pc := 162) C0 1 dX6_step_162 rfl rfl ?_
                  refine xw_getI (pc := 163) (f := 7) (z := r101) C0 kcX6 dX6_step_163 (by decide +kernel) tv_300 (xj_129 hKL) xk_17 rfl (xw_ug) (fun g136 k136 => ?_)
                  refine xw_callSI (pc := 166) (μ := (xw_u t1 129 7 r101)) (rest := [.ref (xw_ad al 129)]) (As := [.int (Int32.ofInt r101)]) C0 hU hO sa_Tg hKL (xh_isSign (l := l) (v := r101) (by omega)) tv_534 dX6_step_166 tv_532 tv_533 tv_9 yb_X6_isSign (by decide +kernel) rfl rfl rfl (by decide +kernel) (Nat.le_of_ble_eq_true rfl) (fun r137 m137 w137 => ?_)
                  obtain ⟨rfl, w137⟩ := w137
                  rcases w137 with ⟨w137, rfl⟩ | ⟨w137, rfl⟩
                  · refine xw_if_eq (pc := 169) (tgt := 176) C0 (by omega) dX6_step_169 rfl (fun b138 => ?_) (fun b138 => ?_)
                    · exfalso
                      omega
                    · refine xw_iconst (pc := 172) C0 dX6_step_172 ?_
                      refine xw_goto (pc := 173) (tgt := 177) C0 dX6_step_173 rfl ?_
                      refine xw_putI (pc := 177) (f := 2) C0 kcX6 dX6_step_177 (by decide +kernel) tv_290 rfl rfl (xj_129 hKL) xk_17 rfl (by omega) (by omega) ?_
                      refine xw_vret C0 hA hr hlk dX6_step_180 ?_
                      have Ft9 : xw_F [(129, 2, 2), (129, 7, 7)] t1 (xw_u (xw_u t1 129 7 r101) 129 2 4) := (((xw_F.rf (ML := [(129, 2, 2), (129, 7, 7)])).u (show (129, 7, 7) ∈ _ by decide) ⟨by decide, by decide⟩).u (show (129, 2, 2) ∈ _ by decide) ⟨by decide, by decide⟩)
                      have vt9_104_2 : (xw_u (xw_u t1 129 7 r101) 129 2 4) 129 2 = 4 := xw_ug
                      have vt9_104_7 : (xw_u (xw_u t1 129 7 r101) 129 2 4) 129 7 = r101 := (xw_un (by decide +kernel)).trans xw_ug
                      generalize (xw_u (xw_u t1 129 7 r101) 129 2 4) = t9 at Ft9 vt9_104_2 vt9_104_7 ⊢
                      have K := hp_kD (t := t) (n := n) (lim := lim) (p := pz) (by omega) (by omega) (by omega) (by omega)
                      have es : hp_s t n pz = t (hp_i t n pz) := rfl
                      have y2 : t9 129 2 = t9 129 2 := rfl
                      have y3 : t9 129 3 = t1 129 3 := (Ft9 129 3 rfl).trans rfl
                      have y4 : t9 129 4 = t1 129 4 := (Ft9 129 4 rfl).trans rfl
                      have y6 : t9 129 6 = t1 129 6 := (Ft9 129 6 rfl).trans rfl
                      have y7 : t9 129 7 = t9 129 7 := rfl
                      exact ⟨rfl, ⟨hp9, by omega, by omega, fun q9 => by omega, fun q9 => by omega, fun q9 => by omega, fun q9 => by omega, fun q9 => by omega⟩, (((xw_F.rf (ML := [(129, 2, 7)])).tr Ft1 (fun j i h => xw_o_sub (by decide +kernel) j i h)).tr Ft9 (fun j i h => xw_o_sub (by decide +kernel) j i h))⟩
                  · refine xw_if_eq (pc := 169) (tgt := 176) C0 (by omega) dX6_step_169 rfl (fun b139 => ?_) (fun b139 => ?_)
                    · refine xw_iconst (pc := 176) C0 dX6_step_176 ?_
                      refine xw_putI (pc := 177) (f := 2) C0 kcX6 dX6_step_177 (by decide +kernel) tv_290 rfl rfl (xj_129 hKL) xk_17 rfl (by omega) (by omega) ?_
                      refine xw_vret C0 hA hr hlk dX6_step_180 ?_
                      have Ft10 : xw_F [(129, 2, 2), (129, 7, 7)] t1 (xw_u (xw_u t1 129 7 r101) 129 2 1) := (((xw_F.rf (ML := [(129, 2, 2), (129, 7, 7)])).u (show (129, 7, 7) ∈ _ by decide) ⟨by decide, by decide⟩).u (show (129, 2, 2) ∈ _ by decide) ⟨by decide, by decide⟩)
                      have vt10_104_2 : (xw_u (xw_u t1 129 7 r101) 129 2 1) 129 2 = 1 := xw_ug
                      have vt10_104_7 : (xw_u (xw_u t1 129 7 r101) 129 2 1) 129 7 = r101 := (xw_un (by decide +kernel)).trans xw_ug
                      generalize (xw_u (xw_u t1 129 7 r101) 129 2 1) = t10 at Ft10 vt10_104_2 vt10_104_7 ⊢
                      have K := hp_kE (t := t) (n := n) (lim := lim) (p := pz) (by omega) (by omega) (by omega) (by omega)
                      have es : hp_s t n pz = t (hp_i t n pz) := rfl
                      have y2 : t10 129 2 = t10 129 2 := rfl
                      have y3 : t10 129 3 = t1 129 3 := (Ft10 129 3 rfl).trans rfl
                      have y4 : t10 129 4 = t1 129 4 := (Ft10 129 4 rfl).trans rfl
                      have y6 : t10 129 6 = t1 129 6 := (Ft10 129 6 rfl).trans rfl
                      have y7 : t10 129 7 = t10 129 7 := rfl
                      exact ⟨rfl, ⟨hp9, by omega, by omega, fun q9 => by omega, fun q9 => by omega, fun q9 => by omega, fun q9 => by omega, fun q9 => by omega⟩, (((xw_F.rf (ML := [(129, 2, 7)])).tr Ft1 (fun j i h => xw_o_sub (by decide +kernel) j i h)).tr Ft10 (fun j i h => xw_o_sub (by decide +kernel) j i h))⟩
                    · exfalso
                      omega
                · exfalso
                  omega
        · refine xw_aload_n (pc := 114) C0 1 dX6_step_114 rfl rfl ?_
          refine xw_aload_n (pc := 115) C0 1 dX6_step_115 rfl rfl ?_
          refine xw_getR (pc := 116) (f := 0) C0 1 kcX6 dX6_step_116 (by decide +kernel) tv_285 (xj_129 hKL) xk_17 rfl (((xw_un (by decide +kernel)).trans ((Ft1 129 0 rfl).trans rfl)).trans hS.2.2.2.1) ?_
          refine xw_getI (pc := 119) (f := 1) (z := μ 1 1) C0 kcX0 dX6_step_119 (by decide +kernel) tv_42 (xj_1 hKL) xk_19 rfl ((xw_un (fun q => absurd q.1 (by decide +kernel))).trans ((Ft1 1 1 rfl).trans rfl)) (fun g140 k140 => ?_)
          refine xw_putI (pc := 122) (f := 3) C0 kcX6 dX6_step_122 (by decide +kernel) tv_291 rfl rfl (xj_129 hKL) xk_17 rfl (by omega) (by omega) ?_
          refine xw_aload_n (pc := 125) C0 1 dX6_step_125 rfl rfl ?_
          refine xw_iconst (pc := 126) C0 dX6_step_126 ?_
          refine xw_putI (pc := 127) (f := 2) C0 kcX6 dX6_step_127 (by decide +kernel) tv_290 rfl rfl (xj_129 hKL) xk_17 rfl (by omega) (by omega) ?_
          refine xw_goto (pc := 130) (tgt := 180) C0 dX6_step_130 rfl ?_
          refine xw_vret C0 hA hr hlk dX6_step_180 ?_
          have Ft11 : xw_F [(129, 2, 2), (129, 3, 3), (129, 7, 7)] t1 (xw_u (xw_u (xw_u t1 129 7 r101) 129 3 (μ 1 1)) 129 2 0) := ((((xw_F.rf (ML := [(129, 2, 2), (129, 3, 3), (129, 7, 7)])).u (show (129, 7, 7) ∈ _ by decide) ⟨by decide, by decide⟩).u (show (129, 3, 3) ∈ _ by decide) ⟨by decide, by decide⟩).u (show (129, 2, 2) ∈ _ by decide) ⟨by decide, by decide⟩)
          have vt11_104_2 : (xw_u (xw_u (xw_u t1 129 7 r101) 129 3 (μ 1 1)) 129 2 0) 129 2 = 0 := xw_ug
          have vt11_104_3 : (xw_u (xw_u (xw_u t1 129 7 r101) 129 3 (μ 1 1)) 129 2 0) 129 3 = μ 1 1 := (xw_un (by decide +kernel)).trans xw_ug
          have vt11_104_7 : (xw_u (xw_u (xw_u t1 129 7 r101) 129 3 (μ 1 1)) 129 2 0) 129 7 = r101 := (xw_un (by decide +kernel)).trans ((xw_un (by decide +kernel)).trans xw_ug)
          generalize (xw_u (xw_u (xw_u t1 129 7 r101) 129 3 (μ 1 1)) 129 2 0) = t11 at Ft11 vt11_104_2 vt11_104_3 vt11_104_7 ⊢
          have K := hp_kB (t := t) (n := n) (lim := lim) (p := pz) (by omega) (by omega)
          have es : hp_s t n pz = t (hp_i t n pz) := rfl
          have y2 : t11 129 2 = t11 129 2 := rfl
          have y3 : t11 129 3 = t11 129 3 := rfl
          have y4 : t11 129 4 = t1 129 4 := (Ft11 129 4 rfl).trans rfl
          have y6 : t11 129 6 = t1 129 6 := (Ft11 129 6 rfl).trans rfl
          have y7 : t11 129 7 = t11 129 7 := rfl
          exact ⟨rfl, ⟨hp9, by omega, by omega, fun q9 => by omega, fun q9 => by omega, fun q9 => by omega, fun q9 => by omega, fun q9 => by omega⟩, (((xw_F.rf (ML := [(129, 2, 7)])).tr Ft1 (fun j i h => xw_o_sub (by decide +kernel) j i h)).tr Ft11 (fun j i h => xw_o_sub (by decide +kernel) j i h))⟩
      · refine xw_aload_n (pc := 87) C0 1 dX6_step_87 rfl rfl ?_
        refine xw_aload_n (pc := 88) C0 1 dX6_step_88 rfl rfl ?_
        refine xw_getI (pc := 89) (f := 1) (z := μ 129 1) C0 kcX6 dX6_step_89 (by decide +kernel) tv_286 (xj_129 hKL) xk_17 rfl ((xw_un (by decide +kernel)).trans ((Ft1 129 1 rfl).trans rfl)) (fun g141 k141 => ?_)
        refine xw_putI (pc := 92) (f := 3) C0 kcX6 dX6_step_92 (by decide +kernel) tv_291 rfl rfl (xj_129 hKL) xk_17 rfl (by omega) (by omega) ?_
        refine xw_aload_n (pc := 95) C0 1 dX6_step_95 rfl rfl ?_
        refine xw_iconst (pc := 96) C0 dX6_step_96 ?_
        refine xw_putI (pc := 97) (f := 2) C0 kcX6 dX6_step_97 (by decide +kernel) tv_290 rfl rfl (xj_129 hKL) xk_17 rfl (by omega) (by omega) ?_
        refine xw_goto (pc := 100) (tgt := 180) C0 dX6_step_100 rfl ?_
        refine xw_vret C0 hA hr hlk dX6_step_180 ?_
        have Ft12 : xw_F [(129, 2, 2), (129, 3, 3), (129, 7, 7)] t1 (xw_u (xw_u (xw_u t1 129 7 r101) 129 3 (μ 129 1)) 129 2 1) := ((((xw_F.rf (ML := [(129, 2, 2), (129, 3, 3), (129, 7, 7)])).u (show (129, 7, 7) ∈ _ by decide) ⟨by decide, by decide⟩).u (show (129, 3, 3) ∈ _ by decide) ⟨by decide, by decide⟩).u (show (129, 2, 2) ∈ _ by decide) ⟨by decide, by decide⟩)
        have vt12_104_2 : (xw_u (xw_u (xw_u t1 129 7 r101) 129 3 (μ 129 1)) 129 2 1) 129 2 = 1 := xw_ug
        have vt12_104_3 : (xw_u (xw_u (xw_u t1 129 7 r101) 129 3 (μ 129 1)) 129 2 1) 129 3 = μ 129 1 := (xw_un (by decide +kernel)).trans xw_ug
        have vt12_104_7 : (xw_u (xw_u (xw_u t1 129 7 r101) 129 3 (μ 129 1)) 129 2 1) 129 7 = r101 := (xw_un (by decide +kernel)).trans ((xw_un (by decide +kernel)).trans xw_ug)
        generalize (xw_u (xw_u (xw_u t1 129 7 r101) 129 3 (μ 129 1)) 129 2 1) = t12 at Ft12 vt12_104_2 vt12_104_3 vt12_104_7 ⊢
        have K := hp_kA (t := t) (n := n) (lim := lim) (p := pz) ⟨by omega, by omega⟩
        have es : hp_s t n pz = t (hp_i t n pz) := rfl
        have y2 : t12 129 2 = t12 129 2 := rfl
        have y3 : t12 129 3 = t12 129 3 := rfl
        have y4 : t12 129 4 = t1 129 4 := (Ft12 129 4 rfl).trans rfl
        have y6 : t12 129 6 = t1 129 6 := (Ft12 129 6 rfl).trans rfl
        have y7 : t12 129 7 = t12 129 7 := rfl
        exact ⟨rfl, ⟨hp9, by omega, by omega, fun q9 => by omega, fun q9 => by omega, fun q9 => by omega, fun q9 => by omega, fun q9 => by omega⟩, (((xw_F.rf (ML := [(129, 2, 7)])).tr Ft1 (fun j i h => xw_o_sub (by decide +kernel) j i h)).tr Ft12 (fun j i h => xw_o_sub (by decide +kernel) j i h))⟩)
set_option maxRecDepth 20000 in
set_option maxHeartbeats 20000000 in
theorem xd_refuse {l : Launch} {μ : xw_M} {v : Int} (hv : 0 ≤ v ∧ v ≤ 4) (hpl : 0 ≤ μ 129 3 ∧ μ 129 3 ≤ 940) : xw_MetI l vwCl sa_Ts tb_KT0 tc_KL yX6_refuse cX6_refuse 2 (some .boolean) 2 120 (fun ad => [.ref (ad 129), .int (Int32.ofInt v)]) μ (fun r μ' => r = 0 ∧ ((μ 129 8 = 0 ∧ μ' 129 8 = v ∧ μ' 129 9 = μ 129 3 ∧ xw_F [(129, 8, 9)] μ μ') ∨ (¬ μ 129 8 = 0 ∧ μ = μ'))) :=
  xw_of (by decide +kernel) (fun _ => Nat.le_of_ble_eq_true rfl) (fun p e s m args below meth c D dA A al w0 sz C0 hU hO hKL hr hlk hA => by
    refine xw_aload_n (pc := 0) C0 0 dX6_refuse_0 rfl rfl ?_
    refine xw_getI (pc := 1) (f := 8) (z := μ 129 8) C0 kcX6 dX6_refuse_1 (by decide +kernel) tv_302 (xj_129 hKL) xk_17 rfl (rfl) (fun g1 k1 => ?_)
    refine xw_if_ne (pc := 4) (tgt := 20) C0 (by omega) dX6_refuse_4 rfl (fun b2 => ?_) (fun b2 => ?_)
    · refine xw_iconst (pc := 20) C0 dX6_refuse_20 ?_
      refine xw_iret C0 hA hr hlk rfl dX6_refuse_21 ?_
      exact ⟨_, rfl, rfl, Or.inr ⟨by omega, rfl⟩⟩
    · refine xw_aload_n (pc := 7) C0 0 dX6_refuse_7 rfl rfl ?_
      refine xw_iload_n (pc := 8) C0 1 dX6_refuse_8 rfl rfl ?_
      refine xw_putI (pc := 9) (f := 8) C0 kcX6 dX6_refuse_9 (by decide +kernel) tv_302 rfl rfl (xj_129 hKL) xk_17 rfl (by omega) (by omega) ?_
      refine xw_aload_n (pc := 12) C0 0 dX6_refuse_12 rfl rfl ?_
      refine xw_aload_n (pc := 13) C0 0 dX6_refuse_13 rfl rfl ?_
      refine xw_getI (pc := 14) (f := 3) (z := μ 129 3) C0 kcX6 dX6_refuse_14 (by decide +kernel) tv_291 (xj_129 hKL) xk_17 rfl ((xw_un (by decide +kernel)).trans rfl) (fun g3 k3 => ?_)
      refine xw_putI (pc := 17) (f := 9) C0 kcX6 dX6_refuse_17 (by decide +kernel) tv_304 rfl rfl (xj_129 hKL) xk_17 rfl (by omega) (by omega) ?_
      refine xw_iconst (pc := 20) C0 dX6_refuse_20 ?_
      refine xw_iret C0 hA hr hlk rfl dX6_refuse_21 ?_
      have Ft1 : xw_F [(129, 8, 8), (129, 9, 9)] μ (xw_u (xw_u μ 129 8 v) 129 9 (μ 129 3)) := (((xw_F.rf (ML := [(129, 8, 8), (129, 9, 9)])).u (show (129, 8, 8) ∈ _ by decide) ⟨by decide, by decide⟩).u (show (129, 9, 9) ∈ _ by decide) ⟨by decide, by decide⟩)
      have vt1_104_9 : (xw_u (xw_u μ 129 8 v) 129 9 (μ 129 3)) 129 9 = μ 129 3 := xw_ug
      have vt1_104_8 : (xw_u (xw_u μ 129 8 v) 129 9 (μ 129 3)) 129 8 = v := (xw_un (by decide +kernel)).trans xw_ug
      generalize (xw_u (xw_u μ 129 8 v) 129 9 (μ 129 3)) = t1 at Ft1 vt1_104_9 vt1_104_8 ⊢
      exact ⟨_, rfl, rfl, Or.inl ⟨by omega, vt1_104_8, by omega, ((xw_F.rf (ML := [(129, 8, 9)])).tr Ft1 (fun j i h => xw_o_sub (by decide +kernel) j i h))⟩⟩)
/-- what is wrong, and where -/
noncomputable def hd_W (e : hp_E) (μ : xw_M) : Prop := (1 ≤ e.1 ∧ e.1 ≤ 4) ∧ μ 129 8 = e.1 ∧ μ 129 9 = e.2
