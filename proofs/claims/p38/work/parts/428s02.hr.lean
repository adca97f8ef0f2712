set_option maxRecDepth 20000 in
set_option maxHeartbeats 20000000 in
theorem xr_go {l : Launch} {t : Nat → Int} {n lim pz : Nat} {μ : xw_M} (hS : hr_S t n lim μ) (hpn : μ 200 5 = (pz : Int)) (hp9 : pz ≤ n) : xw_MetV l vwCl sa_Ts tb_KT0 tc_KL yX12_go cX12_go 5 none 3 141 (fun ad => [.ref (ad 200)]) μ (fun μ' => hr_T t n lim pz μ' ∧ xw_F [(200, 5, 9), (200, 12, 12)] μ μ') :=
  xw_of (by decide) (fun _ => Nat.le_of_ble_eq_true rfl) (fun p e s m args below meth c D dA A al w0 sz C0 hU hO hKL hr hlk hA => by
    have n_μ := hS.2.2.1
    have l_μ := hS.2.2.2.1
    have b_μ := hS.2.2.2.2
    have hib := hp_ib (t := t) hp9
    refine xr_goA (t := t) (n := n) (lim := lim) (q := hp_i t n pz) (μ := μ) C0 hU hO hKL (fun ν h5 hF hS_ν => ?_) 2000 pz μ (by omega) hp9 rfl hpn xw_F.rf hS
    have n_ν := hS_ν.2.2.1
    have l_ν := hS_ν.2.2.2.1
    have b_ν := hS_ν.2.2.2.2
    have T_ν := b_ν.2.2 (hp_i t n pz)
    refine xr_goF (t := t) (n := n) (lim := lim) (q := hp_i t n pz) (ν := ν) C0 hU hO hKL hS_ν h5 (fun c1 => ?_) (fun c2 => ?_)
    · refine xw_aload_n (pc := 82) C0 0 dX12_go_82 rfl rfl ?_
      refine xw_aload_n (pc := 83) C0 0 dX12_go_83 rfl rfl ?_
      refine xw_getI (pc := 84) (f := 4) (z := ν 200 4) C0 kcX12 dX12_go_84 (by decide) tv_1265 (xj_200 hKL) xk_0 rfl ((xw_un (by decide)).trans rfl) (fun g101 k101 => ?_)
      refine xw_putI (pc := 87) (f := 6) C0 kcX12 dX12_go_87 (by decide) tv_1267 rfl rfl (xj_200 hKL) xk_0 rfl (by omega) (by omega) ?_
      rw [xw_uu]
      refine xw_aload_n (pc := 90) C0 0 dX12_go_90 rfl rfl ?_
      refine xw_iconst (pc := 91) C0 dX12_go_91 ?_
      refine xw_putI (pc := 92) (f := 7) C0 kcX12 dX12_go_92 (by decide) tv_1268 rfl rfl (xj_200 hKL) xk_0 rfl (by omega) (by omega) ?_
      refine xw_vret C0 hA hr hlk dX12_go_95 ?_
      have Ft1 : xw_F [(200, 6, 6), (200, 7, 7)] ν (xw_u (xw_u ν 200 6 (ν 200 4)) 200 7 1) := (((xw_F.rf (ML := [(200, 6, 6), (200, 7, 7)])).u (show (200, 6, 6) ∈ _ by decide) ⟨by decide, by decide⟩).u (show (200, 7, 7) ∈ _ by decide) ⟨by decide, by decide⟩)
      have vt1_200_7 : (xw_u (xw_u ν 200 6 (ν 200 4)) 200 7 1) 200 7 = 1 := xw_ug
      have vt1_200_6 : (xw_u (xw_u ν 200 6 (ν 200 4)) 200 7 1) 200 6 = ν 200 4 := (xw_un (by decide)).trans xw_ug
      generalize (xw_u (xw_u ν 200 6 (ν 200 4)) 200 7 1) = t1 at Ft1 vt1_200_7 vt1_200_6 ⊢
      have y5 : t1 200 5 = ν 200 5 := (Ft1 200 5 rfl).trans rfl
      have y6 : t1 200 6 = t1 200 6 := rfl
      have y7 : t1 200 7 = t1 200 7 := rfl
      have y8 : t1 200 8 = ν 200 8 := (Ft1 200 8 rfl).trans rfl
      have y9 : t1 200 9 = ν 200 9 := (Ft1 200 9 rfl).trans rfl
      have y12 : t1 200 12 = ν 200 12 := (Ft1 200 12 rfl).trans rfl
      have K := hp_kA (t := t) (n := n) (lim := lim) (p := pz) ⟨by omega, by omega⟩
      have es : hp_s t n pz = t (hp_i t n pz) := rfl
      exact ⟨rfl, ⟨hp9, by omega, by omega, fun q9 => by omega, fun q9 => by omega, fun q9 => by omega, fun q9 => by omega⟩, ((hF.mono (fun j i h => xw_o_sub (by decide) j i h)).tr ((xw_F.rf (ML := [(200, 5, 9), (200, 12, 12)])).tr Ft1 (fun j i h => xw_o_sub (by decide) j i h)) (fun j i h => h))⟩
    · refine xw_aload_n (pc := 96) C0 0 dX12_go_96 rfl rfl ?_
      refine xw_getI (pc := 97) (f := 5) (z := ν 200 5) C0 kcX12 dX12_go_97 (by decide) tv_1266 (xj_200 hKL) xk_0 rfl ((xw_un (by decide)).trans rfl) (fun g151 k151 => ?_)
      refine xw_nI (congrArg Int32.ofInt h5) ?_
      refine xw_aload_n (pc := 100) C0 0 dX12_go_100 rfl rfl ?_
      refine xw_getI (pc := 101) (f := 3) (z := ν 200 3) C0 kcX12 dX12_go_101 (by decide) tv_1264 (xj_200 hKL) xk_0 rfl ((xw_un (by decide)).trans rfl) (fun g152 k152 => ?_)
      refine xw_icmp_lt (pc := 104) (tgt := 113) C0 (by omega) (by omega) dX12_go_104 rfl (fun b153 => ?_) (fun b153 => ?_)
      · refine xw_aload_n (pc := 113) C0 0 dX12_go_113 rfl rfl ?_
        refine xw_getR (pc := 114) (f := 1) C0 201 kcX12 dX12_go_114 (by decide) tv_1262 (xj_200 hKL) xk_0 rfl (((xw_un (by decide)).trans rfl).trans (xe_200_1 hS_ν.1)) ?_
        refine xw_aload_n (pc := 117) C0 0 dX12_go_117 rfl rfl ?_
        refine xw_getI (pc := 118) (f := 5) (z := ν 200 5) C0 kcX12 dX12_go_118 (by decide) tv_1266 (xj_200 hKL) xk_0 rfl ((xw_un (by decide)).trans rfl) (fun g154 k154 => ?_)
        refine xw_nI (congrArg Int32.ofInt h5) ?_
        refine xw_iald (pc := 121) (z := t (hp_i t n pz)) C0 dX12_go_121 (xj_201 hKL) xk_2 (by omega) (by decide) (xw_rl (by omega)) ((xw_un (fun q => absurd q.1 (by decide))).trans (hS_ν.2.1 _)) (fun g155 k155 => ?_)
        refine xw_istore_n (pc := 122) (L' := [(1, .int (Int32.ofInt (t (hp_i t n pz)))), (0, .ref (xw_ad al 200))]) C0 dX12_go_122 rfl (by decide) rfl ?_
        refine xw_iload_n (pc := 123) C0 0 dX12_go_123 rfl rfl ?_
        refine xw_callSI (pc := 124) (μ := (xw_u ν 200 6 ((hp_i t n pz : Nat) : Int))) (rest := []) (As := [.int (Int32.ofInt (t (hp_i t n pz)))]) C0 hU hO sa_Tg hKL (xr_isLetter (l := l) (v := t (hp_i t n pz)) (by omega)) tv_1428 dX12_go_124 tv_1426 tv_1427 tv_13 yb_X12_isLetter (by decide) rfl rfl rfl (by decide) (Nat.le_of_ble_eq_true rfl) (fun r156 m156 w156 => ?_)
        obtain ⟨rfl, w156⟩ := w156
        rcases w156 with ⟨w156, rfl⟩ | ⟨w156, rfl⟩
        · refine xw_if_ne (pc := 127) (tgt := 198) C0 (by omega) dX12_go_127 rfl (fun b157 => ?_) (fun b157 => ?_)
          · refine xw_iload_n (pc := 198) C0 0 dX12_go_198 rfl rfl ?_
            refine xw_callSI (pc := 199) (μ := (xw_u ν 200 6 ((hp_i t n pz : Nat) : Int))) (rest := []) (As := [.int (Int32.ofInt (t (hp_i t n pz)))]) C0 hU hO sa_Tg hKL (xr_isLetter (l := l) (v := t (hp_i t n pz)) (by omega)) tv_1428 dX12_go_199 tv_1426 tv_1427 tv_13 yb_X12_isLetter (by decide) rfl rfl rfl (by decide) (Nat.le_of_ble_eq_true rfl) (fun r158 m158 w158 => ?_)
            obtain ⟨rfl, w158⟩ := w158
            rcases w158.symm with ⟨w158, rfl⟩ | ⟨w158, rfl⟩
            · exfalso
              omega
            refine xw_istore_n (pc := 202) (L' := [(2, .int (Int32.ofInt 1)), (1, .int (Int32.ofInt (t (hp_i t n pz)))), (0, .ref (xw_ad al 200))]) C0 dX12_go_202 rfl (by decide) rfl ?_
            refine xw_iconst (pc := 203) C0 dX12_go_203 ?_
            refine xw_istore_n (pc := 204) (L' := [(3, .int (Int32.ofInt 1)), (2, .int (Int32.ofInt 1)), (1, .int (Int32.ofInt (t (hp_i t n pz)))), (0, .ref (xw_ad al 200))]) C0 dX12_go_204 rfl (by decide) rfl ?_
            refine xw_aload_n (pc := 205) C0 3 dX12_go_205 rfl rfl ?_
            refine xw_lconst (pc := 206) (z := 0) C0 dX12_go_206 (by decide) ?_
            refine xw_putL (pc := 207) (f := 12) C0 kcX12 dX12_go_207 (by decide) tv_1273 rfl rfl (xj_200 hKL) xk_0 rfl (by omega) (by omega) ?_
            refine xw_aload_n (pc := 210) C0 3 dX12_go_210 rfl rfl ?_
            refine xw_iconst (pc := 211) C0 dX12_go_211 ?_
            refine xw_putI (pc := 212) (f := 8) C0 kcX12 dX12_go_212 (by decide) tv_1269 rfl rfl (xj_200 hKL) xk_0 rfl (by omega) (by omega) ?_
            have Ft11 : xw_F [(200, 6, 6), (200, 8, 8), (200, 12, 12)] ν (xw_u (xw_u (xw_u ν 200 6 ((hp_i t n pz : Nat) : Int)) 200 12 0) 200 8 0) := ((((xw_F.rf (ML := [(200, 6, 6), (200, 8, 8), (200, 12, 12)])).u (show (200, 6, 6) ∈ _ by decide) ⟨by decide, by decide⟩).u (show (200, 12, 12) ∈ _ by decide) ⟨by decide, by decide⟩).u (show (200, 8, 8) ∈ _ by decide) ⟨by decide, by decide⟩)
            have vt11_200_8 : (xw_u (xw_u (xw_u ν 200 6 ((hp_i t n pz : Nat) : Int)) 200 12 0) 200 8 0) 200 8 = 0 := xw_ug
            have vt11_200_12 : (xw_u (xw_u (xw_u ν 200 6 ((hp_i t n pz : Nat) : Int)) 200 12 0) 200 8 0) 200 12 = 0 := (xw_un (by decide)).trans xw_ug
            have vt11_200_6 : (xw_u (xw_u (xw_u ν 200 6 ((hp_i t n pz : Nat) : Int)) 200 12 0) 200 8 0) 200 6 = ((hp_i t n pz : Nat) : Int) := (xw_un (by decide)).trans ((xw_un (by decide)).trans xw_ug)
            generalize (xw_u (xw_u (xw_u ν 200 6 ((hp_i t n pz : Nat) : Int)) 200 12 0) 200 8 0) = t11 at Ft11 vt11_200_8 vt11_200_12 vt11_200_6 ⊢
            have hS_t11 := hr_SF hS_ν Ft11 (by decide)
            have n_t11 := hS_t11.2.2.1
            have l_t11 := hS_t11.2.2.2.1
            have b_t11 := hS_t11.2.2.2.2
            have e0 : hp_i t n pz = hp_i t n pz + 0 := rfl
            refine xw_pk [1, 0, 3] (L' := [(2, .int (Int32.ofInt 1)), (3, .int (Int32.ofInt 1)), (0, .ref (xw_ad al 200))]) rfl ?_
            refine xr_goB (t := t) (n := n) (lim := lim) (q := hp_i t n pz) (lt := 1) (μ := t11) C0 hU hO hKL (by omega) (fun k gd ξ hk hkn h5 h6 hg h12 h8 hF2 hS_ξ => ?_) 2000 0 1 t11 (by omega) (by omega) rfl (by have q5 : t11 200 5 = ν 200 5 := (Ft11 200 5 rfl).trans rfl; omega) vt11_200_6 ⟨by omega, fun _ => ⟨fun _ => rfl, fun _ => rfl⟩, fun _ => ⟨fun _ => rfl, fun _ => rfl⟩⟩ (fun _ => vt11_200_12) (fun _ => vt11_200_8) xw_F.rf hS_t11
            have n_ξ := hS_ξ.2.2.1
            have hdl := hp_dgle (t := t) (i := hp_i t n pz) k
            have ke9 := hp_e1 (t := t) (n := n) (p := hp_i t n pz) (by omega) (by omega)
            have kb9 := (hp_eb (t := t) (n := n) (p := hp_i t n pz + 1) (by omega)).1
            have dA9 := hp_dgA (t := t) (i := hp_i t n pz) (by omega) (k - 1)
            rw [show k - 1 + 1 = k by omega] at dA9
            refine xw_aload_n (pc := 350) C0 2 dX12_go_350 rfl rfl ?_
            refine xw_iload_n (pc := 351) C0 1 dX12_go_351 rfl rfl ?_
            refine xw_if_eq (pc := 352) (tgt := 377) C0 (by omega) dX12_go_352 rfl (fun b759 => ?_) (fun b759 => ?_)
            · refine xw_iconst (pc := 377) C0 dX12_go_377 ?_
              refine xw_goto (pc := 378) (tgt := 390) C0 dX12_go_378 rfl ?_
              refine xw_putI (pc := 390) (f := 7) C0 kcX12 dX12_go_390 (by decide) tv_1268 rfl rfl (xj_200 hKL) xk_0 rfl (by omega) (by omega) ?_
              refine xw_vret C0 hA hr hlk dX12_go_393 ?_
              have Ft41 : xw_F [(200, 7, 7)] ξ (xw_u ξ 200 7 1) := ((xw_F.rf (ML := [(200, 7, 7)])).u (show (200, 7, 7) ∈ _ by decide) ⟨by decide, by decide⟩)
              have vt41_200_7 : (xw_u ξ 200 7 1) 200 7 = 1 := xw_ug
              generalize (xw_u ξ 200 7 1) = t41 at Ft41 vt41_200_7 ⊢
              have y5 : t41 200 5 = ξ 200 5 := (Ft41 200 5 rfl).trans rfl
              have y6 : t41 200 6 = t11 200 6 := (Ft41 200 6 rfl).trans ((hF2 200 6 rfl).trans rfl)
              have y7 : t41 200 7 = t41 200 7 := rfl
              have y8 : t41 200 8 = ξ 200 8 := (Ft41 200 8 rfl).trans rfl
              have y9 : t41 200 9 = ν 200 9 := (Ft41 200 9 rfl).trans ((hF2 200 9 rfl).trans ((Ft11 200 9 rfl).trans rfl))
              have y12 : t41 200 12 = ξ 200 12 := (Ft41 200 12 rfl).trans rfl
              have K := hp_kC (t := t) (n := n) (lim := lim) (p := pz) (by omega) (by omega) (by omega)
              have en : hp_n t n pz = k := by unfold hp_n; omega
              rw [en] at K
              have sK : hp_rk t (hp_i t n pz) k = 1 := by
                unfold hp_rk; rw [if_neg (by omega), if_neg (by omega)]
              refine ⟨rfl, ⟨hp9, by omega, by omega, fun q9 => ?_, fun q9 => ?_, fun q9 => by omega, fun q9 => by omega⟩, ((hF.mono (fun j i h => xw_o_sub (by decide) j i h)).tr ((((xw_F.rf (ML := [(200, 5, 9), (200, 12, 12)])).tr Ft11 (fun j i h => xw_o_sub (by decide) j i h)).tr hF2 (fun j i h => xw_o_sub (by decide) j i h)).tr Ft41 (fun j i h => xw_o_sub (by decide) j i h)) (fun j i h => h))⟩
              · exfalso; omega
              · exfalso; omega
            · refine xw_aload_n (pc := 355) C0 2 dX12_go_355 rfl rfl ?_
              refine xw_getI (pc := 356) (f := 5) (z := ξ 200 5) C0 kcX12 dX12_go_356 (by decide) tv_1266 (xj_200 hKL) xk_0 rfl (rfl) (fun g760 k760 => ?_)
              refine xw_nI (congrArg Int32.ofInt h5) ?_
              refine xw_aload_n (pc := 359) C0 2 dX12_go_359 rfl rfl ?_
              refine xw_getI (pc := 360) (f := 6) (z := t11 200 6) C0 kcX12 dX12_go_360 (by decide) tv_1267 (xj_200 hKL) xk_0 rfl ((hF2 200 6 rfl).trans rfl) (fun g761 k761 => ?_)
              refine xw_nI (congrArg Int32.ofInt (show t11 200 6 = ((hp_i t n pz : Nat) : Int) by omega)) ?_
              refine xw_isub (pc := 363) C0 dX12_go_363 ?_
              refine xw_iload_n (pc := 364) C0 0 dX12_go_364 rfl rfl ?_
              refine xw_if_eq (pc := 365) (tgt := 373) C0 (by omega) dX12_go_365 rfl (fun b762 => ?_) (fun b762 => ?_)
              · exfalso
                omega
              · refine xw_bipush (pc := 368) C0 dX12_go_368 (by decide) ?_
                refine xw_goto (pc := 370) (tgt := 374) C0 dX12_go_370 rfl ?_
                refine xw_icmp_le (pc := 374) (tgt := 381) C0 (by omega) (by omega) dX12_go_374 rfl (fun b763 => ?_) (fun b763 => ?_)
                · refine xw_iload_n (pc := 381) C0 0 dX12_go_381 rfl rfl ?_
                  refine xw_if_eq (pc := 382) (tgt := 389) C0 (by omega) dX12_go_382 rfl (fun b764 => ?_) (fun b764 => ?_)
                  · exfalso
                    omega
                  · refine xw_iconst (pc := 385) C0 dX12_go_385 ?_
                    refine xw_goto (pc := 386) (tgt := 390) C0 dX12_go_386 rfl ?_
                    refine xw_putI (pc := 390) (f := 7) C0 kcX12 dX12_go_390 (by decide) tv_1268 rfl rfl (xj_200 hKL) xk_0 rfl (by omega) (by omega) ?_
                    refine xw_vret C0 hA hr hlk dX12_go_393 ?_
                    have Ft42 : xw_F [(200, 7, 7)] ξ (xw_u ξ 200 7 2) := ((xw_F.rf (ML := [(200, 7, 7)])).u (show (200, 7, 7) ∈ _ by decide) ⟨by decide, by decide⟩)
                    have vt42_200_7 : (xw_u ξ 200 7 2) 200 7 = 2 := xw_ug
                    generalize (xw_u ξ 200 7 2) = t42 at Ft42 vt42_200_7 ⊢
                    have y5 : t42 200 5 = ξ 200 5 := (Ft42 200 5 rfl).trans rfl
                    have y6 : t42 200 6 = t11 200 6 := (Ft42 200 6 rfl).trans ((hF2 200 6 rfl).trans rfl)
                    have y7 : t42 200 7 = t42 200 7 := rfl
                    have y8 : t42 200 8 = ξ 200 8 := (Ft42 200 8 rfl).trans rfl
                    have y9 : t42 200 9 = ν 200 9 := (Ft42 200 9 rfl).trans ((hF2 200 9 rfl).trans ((Ft11 200 9 rfl).trans rfl))
                    have y12 : t42 200 12 = ξ 200 12 := (Ft42 200 12 rfl).trans rfl
                    have K := hp_kC (t := t) (n := n) (lim := lim) (p := pz) (by omega) (by omega) (by omega)
                    have en : hp_n t n pz = k := by unfold hp_n; omega
                    rw [en] at K
                    have sK : hp_rk t (hp_i t n pz) k = 2 := by
                      unfold hp_rk; rw [if_neg (by omega), if_pos ⟨by omega, by omega⟩]
                    refine ⟨rfl, ⟨hp9, by omega, by omega, fun q9 => ?_, fun q9 => ?_, fun q9 => by omega, fun q9 => by omega⟩, ((hF.mono (fun j i h => xw_o_sub (by decide) j i h)).tr ((((xw_F.rf (ML := [(200, 5, 9), (200, 12, 12)])).tr Ft11 (fun j i h => xw_o_sub (by decide) j i h)).tr hF2 (fun j i h => xw_o_sub (by decide) j i h)).tr Ft42 (fun j i h => xw_o_sub (by decide) j i h)) (fun j i h => h))⟩
                    · unfold hp_w; rw [en]; have a1 := h12 (by omega); omega
                    · exfalso; omega
                · refine xw_iconst (pc := 377) C0 dX12_go_377 ?_
                  refine xw_goto (pc := 378) (tgt := 390) C0 dX12_go_378 rfl ?_
                  refine xw_putI (pc := 390) (f := 7) C0 kcX12 dX12_go_390 (by decide) tv_1268 rfl rfl (xj_200 hKL) xk_0 rfl (by omega) (by omega) ?_
                  refine xw_vret C0 hA hr hlk dX12_go_393 ?_
                  have Ft43 : xw_F [(200, 7, 7)] ξ (xw_u ξ 200 7 1) := ((xw_F.rf (ML := [(200, 7, 7)])).u (show (200, 7, 7) ∈ _ by decide) ⟨by decide, by decide⟩)
                  have vt43_200_7 : (xw_u ξ 200 7 1) 200 7 = 1 := xw_ug
                  generalize (xw_u ξ 200 7 1) = t43 at Ft43 vt43_200_7 ⊢
                  have y5 : t43 200 5 = ξ 200 5 := (Ft43 200 5 rfl).trans rfl
                  have y6 : t43 200 6 = t11 200 6 := (Ft43 200 6 rfl).trans ((hF2 200 6 rfl).trans rfl)
                  have y7 : t43 200 7 = t43 200 7 := rfl
                  have y8 : t43 200 8 = ξ 200 8 := (Ft43 200 8 rfl).trans rfl
                  have y9 : t43 200 9 = ν 200 9 := (Ft43 200 9 rfl).trans ((hF2 200 9 rfl).trans ((Ft11 200 9 rfl).trans rfl))
                  have y12 : t43 200 12 = ξ 200 12 := (Ft43 200 12 rfl).trans rfl
                  have K := hp_kC (t := t) (n := n) (lim := lim) (p := pz) (by omega) (by omega) (by omega)
                  have en : hp_n t n pz = k := by unfold hp_n; omega
                  rw [en] at K
                  have sK : hp_rk t (hp_i t n pz) k = 1 := by
                    unfold hp_rk; rw [if_neg (by omega), if_neg (by omega)]
                  refine ⟨rfl, ⟨hp9, by omega, by omega, fun q9 => ?_, fun q9 => ?_, fun q9 => by omega, fun q9 => by omega⟩, ((hF.mono (fun j i h => xw_o_sub (by decide) j i h)).tr ((((xw_F.rf (ML := [(200, 5, 9), (200, 12, 12)])).tr Ft11 (fun j i h => xw_o_sub (by decide) j i h)).tr hF2 (fun j i h => xw_o_sub (by decide) j i h)).tr Ft43 (fun j i h => xw_o_sub (by decide) j i h)) (fun j i h => h))⟩
                  · exfalso; omega
                  · exfalso; omega
          · exfalso
            omega
        · refine xw_if_ne (pc := 127) (tgt := 198) C0 (by omega) dX12_go_127 rfl (fun b159 => ?_) (fun b159 => ?_)
          · exfalso
            omega
          · refine xw_iload_n (pc := 130) C0 0 dX12_go_130 rfl rfl ?_
            refine xw_callSI (pc := 131) (μ := (xw_u ν 200 6 ((hp_i t n pz : Nat) : Int))) (rest := []) (As := [.int (Int32.ofInt (t (hp_i t n pz)))]) C0 hU hO sa_Tg hKL (xr_isDigit (l := l) (v := t (hp_i t n pz)) (by omega)) tv_1431 dX12_go_131 tv_1429 tv_1430 tv_13 yb_X12_isDigit (by decide) rfl rfl rfl (by decide) (Nat.le_of_ble_eq_true rfl) (fun r160 m160 w160 => ?_)
            obtain ⟨rfl, w160⟩ := w160
            rcases w160 with ⟨w160, rfl⟩ | ⟨w160, rfl⟩
            · refine xw_if_ne (pc := 134) (tgt := 198) C0 (by omega) dX12_go_134 rfl (fun b161 => ?_) (fun b161 => ?_)
              · refine xw_iload_n (pc := 198) C0 0 dX12_go_198 rfl rfl ?_
                refine xw_callSI (pc := 199) (μ := (xw_u ν 200 6 ((hp_i t n pz : Nat) : Int))) (rest := []) (As := [.int (Int32.ofInt (t (hp_i t n pz)))]) C0 hU hO sa_Tg hKL (xr_isLetter (l := l) (v := t (hp_i t n pz)) (by omega)) tv_1428 dX12_go_199 tv_1426 tv_1427 tv_13 yb_X12_isLetter (by decide) rfl rfl rfl (by decide) (Nat.le_of_ble_eq_true rfl) (fun r162 m162 w162 => ?_)
                obtain ⟨rfl, w162⟩ := w162
                rcases w162 with ⟨w162, rfl⟩ | ⟨w162, rfl⟩
                · exfalso
                  omega
                refine xw_istore_n (pc := 202) (L' := [(2, .int (Int32.ofInt 0)), (1, .int (Int32.ofInt (t (hp_i t n pz)))), (0, .ref (xw_ad al 200))]) C0 dX12_go_202 rfl (by decide) rfl ?_
                refine xw_iconst (pc := 203) C0 dX12_go_203 ?_
                refine xw_istore_n (pc := 204) (L' := [(3, .int (Int32.ofInt 1)), (2, .int (Int32.ofInt 0)), (1, .int (Int32.ofInt (t (hp_i t n pz)))), (0, .ref (xw_ad al 200))]) C0 dX12_go_204 rfl (by decide) rfl ?_
                refine xw_aload_n (pc := 205) C0 3 dX12_go_205 rfl rfl ?_
                refine xw_lconst (pc := 206) (z := 0) C0 dX12_go_206 (by decide) ?_
                refine xw_putL (pc := 207) (f := 12) C0 kcX12 dX12_go_207 (by decide) tv_1273 rfl rfl (xj_200 hKL) xk_0 rfl (by omega) (by omega) ?_
                refine xw_aload_n (pc := 210) C0 3 dX12_go_210 rfl rfl ?_
                refine xw_iconst (pc := 211) C0 dX12_go_211 ?_
                refine xw_putI (pc := 212) (f := 8) C0 kcX12 dX12_go_212 (by decide) tv_1269 rfl rfl (xj_200 hKL) xk_0 rfl (by omega) (by omega) ?_
                have Ft12 : xw_F [(200, 6, 6), (200, 8, 8), (200, 12, 12)] ν (xw_u (xw_u (xw_u ν 200 6 ((hp_i t n pz : Nat) : Int)) 200 12 0) 200 8 0) := ((((xw_F.rf (ML := [(200, 6, 6), (200, 8, 8), (200, 12, 12)])).u (show (200, 6, 6) ∈ _ by decide) ⟨by decide, by decide⟩).u (show (200, 12, 12) ∈ _ by decide) ⟨by decide, by decide⟩).u (show (200, 8, 8) ∈ _ by decide) ⟨by decide, by decide⟩)
                have vt12_200_8 : (xw_u (xw_u (xw_u ν 200 6 ((hp_i t n pz : Nat) : Int)) 200 12 0) 200 8 0) 200 8 = 0 := xw_ug
                have vt12_200_12 : (xw_u (xw_u (xw_u ν 200 6 ((hp_i t n pz : Nat) : Int)) 200 12 0) 200 8 0) 200 12 = 0 := (xw_un (by decide)).trans xw_ug
                have vt12_200_6 : (xw_u (xw_u (xw_u ν 200 6 ((hp_i t n pz : Nat) : Int)) 200 12 0) 200 8 0) 200 6 = ((hp_i t n pz : Nat) : Int) := (xw_un (by decide)).trans ((xw_un (by decide)).trans xw_ug)
                generalize (xw_u (xw_u (xw_u ν 200 6 ((hp_i t n pz : Nat) : Int)) 200 12 0) 200 8 0) = t12 at Ft12 vt12_200_8 vt12_200_12 vt12_200_6 ⊢
                have hS_t12 := hr_SF hS_ν Ft12 (by decide)
                have n_t12 := hS_t12.2.2.1
                have l_t12 := hS_t12.2.2.2.1
                have b_t12 := hS_t12.2.2.2.2
                have e0 : hp_i t n pz = hp_i t n pz + 0 := rfl
                refine xw_pk [1, 0, 3] (L' := [(2, .int (Int32.ofInt 0)), (3, .int (Int32.ofInt 1)), (0, .ref (xw_ad al 200))]) rfl ?_
                refine xr_goB (t := t) (n := n) (lim := lim) (q := hp_i t n pz) (lt := 0) (μ := t12) C0 hU hO hKL (by omega) (fun k gd ξ hk hkn h5 h6 hg h12 h8 hF2 hS_ξ => ?_) 2000 0 1 t12 (by omega) (by omega) rfl (by have q5 : t12 200 5 = ν 200 5 := (Ft12 200 5 rfl).trans rfl; omega) vt12_200_6 ⟨by omega, fun _ => ⟨fun _ => rfl, fun _ => rfl⟩, fun _ => ⟨fun _ => rfl, fun _ => rfl⟩⟩ (fun _ => vt12_200_12) (fun _ => vt12_200_8) xw_F.rf hS_t12
                have n_ξ := hS_ξ.2.2.1
                have hdl := hp_dgle (t := t) (i := hp_i t n pz) k
                have ke9 := hp_e1 (t := t) (n := n) (p := hp_i t n pz) (by omega) (by omega)
                have kb9 := (hp_eb (t := t) (n := n) (p := hp_i t n pz + 1) (by omega)).1
                have dA9 := hp_dgB (t := t) (i := hp_i t n pz) (by omega) (k - 1)
                rw [show k - 1 + 1 = k by omega] at dA9
                refine xw_aload_n (pc := 350) C0 2 dX12_go_350 rfl rfl ?_
                refine xw_iload_n (pc := 351) C0 1 dX12_go_351 rfl rfl ?_
                refine xw_if_eq (pc := 352) (tgt := 377) C0 (by omega) dX12_go_352 rfl (fun b763 => ?_) (fun b763 => ?_)
                · refine xw_iconst (pc := 377) C0 dX12_go_377 ?_
                  refine xw_goto (pc := 378) (tgt := 390) C0 dX12_go_378 rfl ?_
                  refine xw_putI (pc := 390) (f := 7) C0 kcX12 dX12_go_390 (by decide) tv_1268 rfl rfl (xj_200 hKL) xk_0 rfl (by omega) (by omega) ?_
                  refine xw_vret C0 hA hr hlk dX12_go_393 ?_
                  have Ft41 : xw_F [(200, 7, 7)] ξ (xw_u ξ 200 7 1) := ((xw_F.rf (ML := [(200, 7, 7)])).u (show (200, 7, 7) ∈ _ by decide) ⟨by decide, by decide⟩)
                  have vt41_200_7 : (xw_u ξ 200 7 1) 200 7 = 1 := xw_ug
                  generalize (xw_u ξ 200 7 1) = t41 at Ft41 vt41_200_7 ⊢
                  have y5 : t41 200 5 = ξ 200 5 := (Ft41 200 5 rfl).trans rfl
                  have y6 : t41 200 6 = t12 200 6 := (Ft41 200 6 rfl).trans ((hF2 200 6 rfl).trans rfl)
                  have y7 : t41 200 7 = t41 200 7 := rfl
                  have y8 : t41 200 8 = ξ 200 8 := (Ft41 200 8 rfl).trans rfl
                  have y9 : t41 200 9 = ν 200 9 := (Ft41 200 9 rfl).trans ((hF2 200 9 rfl).trans ((Ft12 200 9 rfl).trans rfl))
                  have y12 : t41 200 12 = ξ 200 12 := (Ft41 200 12 rfl).trans rfl
                  have K := hp_kC (t := t) (n := n) (lim := lim) (p := pz) (by omega) (by omega) (by omega)
                  have en : hp_n t n pz = k := by unfold hp_n; omega
                  rw [en] at K
                  have sK : hp_rk t (hp_i t n pz) k = 1 := by
                    unfold hp_rk; rw [if_neg (by omega), if_neg (by omega)]
                  refine ⟨rfl, ⟨hp9, by omega, by omega, fun q9 => ?_, fun q9 => ?_, fun q9 => by omega, fun q9 => by omega⟩, ((hF.mono (fun j i h => xw_o_sub (by decide) j i h)).tr ((((xw_F.rf (ML := [(200, 5, 9), (200, 12, 12)])).tr Ft12 (fun j i h => xw_o_sub (by decide) j i h)).tr hF2 (fun j i h => xw_o_sub (by decide) j i h)).tr Ft41 (fun j i h => xw_o_sub (by decide) j i h)) (fun j i h => h))⟩
                  · exfalso; omega
                  · exfalso; omega
                · refine xw_aload_n (pc := 355) C0 2 dX12_go_355 rfl rfl ?_
                  refine xw_getI (pc := 356) (f := 5) (z := ξ 200 5) C0 kcX12 dX12_go_356 (by decide) tv_1266 (xj_200 hKL) xk_0 rfl (rfl) (fun g764 k764 => ?_)
                  refine xw_nI (congrArg Int32.ofInt h5) ?_
                  refine xw_aload_n (pc := 359) C0 2 dX12_go_359 rfl rfl ?_
                  refine xw_getI (pc := 360) (f := 6) (z := t12 200 6) C0 kcX12 dX12_go_360 (by decide) tv_1267 (xj_200 hKL) xk_0 rfl ((hF2 200 6 rfl).trans rfl) (fun g765 k765 => ?_)
                  refine xw_nI (congrArg Int32.ofInt (show t12 200 6 = ((hp_i t n pz : Nat) : Int) by omega)) ?_
                  refine xw_isub (pc := 363) C0 dX12_go_363 ?_
                  refine xw_iload_n (pc := 364) C0 0 dX12_go_364 rfl rfl ?_
                  refine xw_if_eq (pc := 365) (tgt := 373) C0 (by omega) dX12_go_365 rfl (fun b766 => ?_) (fun b766 => ?_)
                  · refine xw_iconst (pc := 373) C0 dX12_go_373 ?_
                    refine xw_icmp_le (pc := 374) (tgt := 381) C0 (by omega) (by omega) dX12_go_374 rfl (fun b767 => ?_) (fun b767 => ?_)
                    · refine xw_iload_n (pc := 381) C0 0 dX12_go_381 rfl rfl ?_
                      refine xw_if_eq (pc := 382) (tgt := 389) C0 (by omega) dX12_go_382 rfl (fun b768 => ?_) (fun b768 => ?_)
                      · refine xw_iconst (pc := 389) C0 dX12_go_389 ?_
                        refine xw_putI (pc := 390) (f := 7) C0 kcX12 dX12_go_390 (by decide) tv_1268 rfl rfl (xj_200 hKL) xk_0 rfl (by omega) (by omega) ?_
                        refine xw_vret C0 hA hr hlk dX12_go_393 ?_
                        have Ft42 : xw_F [(200, 7, 7)] ξ (xw_u ξ 200 7 3) := ((xw_F.rf (ML := [(200, 7, 7)])).u (show (200, 7, 7) ∈ _ by decide) ⟨by decide, by decide⟩)
                        have vt42_200_7 : (xw_u ξ 200 7 3) 200 7 = 3 := xw_ug
                        generalize (xw_u ξ 200 7 3) = t42 at Ft42 vt42_200_7 ⊢
                        have y5 : t42 200 5 = ξ 200 5 := (Ft42 200 5 rfl).trans rfl
                        have y6 : t42 200 6 = t12 200 6 := (Ft42 200 6 rfl).trans ((hF2 200 6 rfl).trans rfl)
                        have y7 : t42 200 7 = t42 200 7 := rfl
                        have y8 : t42 200 8 = ξ 200 8 := (Ft42 200 8 rfl).trans rfl
                        have y9 : t42 200 9 = ν 200 9 := (Ft42 200 9 rfl).trans ((hF2 200 9 rfl).trans ((Ft12 200 9 rfl).trans rfl))
                        have y12 : t42 200 12 = ξ 200 12 := (Ft42 200 12 rfl).trans rfl
                        have K := hp_kC (t := t) (n := n) (lim := lim) (p := pz) (by omega) (by omega) (by omega)
                        have en : hp_n t n pz = k := by unfold hp_n; omega
                        rw [en] at K
                        have sK : hp_rk t (hp_i t n pz) k = 3 := by
                          exact if_pos ⟨by omega, by omega⟩
                        refine ⟨rfl, ⟨hp9, by omega, by omega, fun q9 => ?_, fun q9 => ?_, fun q9 => by omega, fun q9 => by omega⟩, ((hF.mono (fun j i h => xw_o_sub (by decide) j i h)).tr ((((xw_F.rf (ML := [(200, 5, 9), (200, 12, 12)])).tr Ft12 (fun j i h => xw_o_sub (by decide) j i h)).tr hF2 (fun j i h => xw_o_sub (by decide) j i h)).tr Ft42 (fun j i h => xw_o_sub (by decide) j i h)) (fun j i h => h))⟩
                        · exfalso; omega
                        · unfold hp_u; rw [en]; have a1 := h8 (by omega); omega
                      · exfalso
                        omega
                    · refine xw_iconst (pc := 377) C0 dX12_go_377 ?_
                      refine xw_goto (pc := 378) (tgt := 390) C0 dX12_go_378 rfl ?_
                      refine xw_putI (pc := 390) (f := 7) C0 kcX12 dX12_go_390 (by decide) tv_1268 rfl rfl (xj_200 hKL) xk_0 rfl (by omega) (by omega) ?_
                      refine xw_vret C0 hA hr hlk dX12_go_393 ?_
                      have Ft43 : xw_F [(200, 7, 7)] ξ (xw_u ξ 200 7 1) := ((xw_F.rf (ML := [(200, 7, 7)])).u (show (200, 7, 7) ∈ _ by decide) ⟨by decide, by decide⟩)
                      have vt43_200_7 : (xw_u ξ 200 7 1) 200 7 = 1 := xw_ug
                      generalize (xw_u ξ 200 7 1) = t43 at Ft43 vt43_200_7 ⊢
                      have y5 : t43 200 5 = ξ 200 5 := (Ft43 200 5 rfl).trans rfl
                      have y6 : t43 200 6 = t12 200 6 := (Ft43 200 6 rfl).trans ((hF2 200 6 rfl).trans rfl)
                      have y7 : t43 200 7 = t43 200 7 := rfl
                      have y8 : t43 200 8 = ξ 200 8 := (Ft43 200 8 rfl).trans rfl
                      have y9 : t43 200 9 = ν 200 9 := (Ft43 200 9 rfl).trans ((hF2 200 9 rfl).trans ((Ft12 200 9 rfl).trans rfl))
                      have y12 : t43 200 12 = ξ 200 12 := (Ft43 200 12 rfl).trans rfl
                      have K := hp_kC (t := t) (n := n) (lim := lim) (p := pz) (by omega) (by omega) (by omega)
                      have en : hp_n t n pz = k := by unfold hp_n; omega
                      rw [en] at K
                      have sK : hp_rk t (hp_i t n pz) k = 1 := by
                        unfold hp_rk; rw [if_neg (by omega), if_neg (by omega)]
                      refine ⟨rfl, ⟨hp9, by omega, by omega, fun q9 => ?_, fun q9 => ?_, fun q9 => by omega, fun q9 => by omega⟩, ((hF.mono (fun j i h => xw_o_sub (by decide) j i h)).tr ((((xw_F.rf (ML := [(200, 5, 9), (200, 12, 12)])).tr Ft12 (fun j i h => xw_o_sub (by decide) j i h)).tr hF2 (fun j i h => xw_o_sub (by decide) j i h)).tr Ft43 (fun j i h => xw_o_sub (by decide) j i h)) (fun j i h => h))⟩
                      · exfalso; omega
                      · exfalso; omega
                  · exfalso
                    omega
              · exfalso
                omega
            · refine xw_if_ne (pc := 134) (tgt := 198) C0 (by omega) dX12_go_134 rfl (fun b163 => ?_) (fun b163 => ?_)
              · exfalso
                omega
              · have Ft13 : xw_F [(200, 6, 6)] ν (xw_u ν 200 6 ((hp_i t n pz : Nat) : Int)) := ((xw_F.rf (ML := [(200, 6, 6)])).u (show (200, 6, 6) ∈ _ by decide) ⟨by decide, by decide⟩)
                have vt13_200_6 : (xw_u ν 200 6 ((hp_i t n pz : Nat) : Int)) 200 6 = ((hp_i t n pz : Nat) : Int) := xw_ug
                generalize (xw_u ν 200 6 ((hp_i t n pz : Nat) : Int)) = t13 at Ft13 vt13_200_6 ⊢
                have hS_t13 := hr_SF hS_ν Ft13 (by decide)
                have n_t13 := hS_t13.2.2.1
                have l_t13 := hS_t13.2.2.2.1
                have b_t13 := hS_t13.2.2.2.2
                refine xw_pk [0, 1] (L' := [(1, .int (Int32.ofInt (t (hp_i t n pz)))), (0, .ref (xw_ad al 200))]) rfl ?_
                refine xr_goD (ν := t13) (T9 := t (hp_i t n pz)) C0 hU hO hKL (by omega) (fun v9 hv9 => ?_)
                rcases hv9 with ⟨rfl, sg⟩ | ⟨rfl, sg⟩
                · refine xw_putI (pc := 179) (f := 7) C0 kcX12 dX12_go_179 (by decide) tv_1268 rfl rfl (xj_200 hKL) xk_0 rfl (by omega) (by omega) ?_
                  refine xw_aload_n (pc := 182) C0 1 dX12_go_182 rfl rfl ?_
                  refine xw_iload_n (pc := 183) C0 0 dX12_go_183 rfl rfl ?_
                  refine xw_putI (pc := 184) (f := 9) C0 kcX12 dX12_go_184 (by decide) tv_1270 rfl rfl (xj_200 hKL) xk_0 rfl (by omega) (by omega) ?_
                  refine xw_aload_n (pc := 187) C0 1 dX12_go_187 rfl rfl ?_
                  refine xw_dup (pc := 188) C0 dX12_go_188 rfl ?_
                  refine xw_getI (pc := 189) (f := 5) (z := ν 200 5) C0 kcX12 dX12_go_189 (by decide) tv_1266 (xj_200 hKL) xk_0 rfl ((xw_un (by decide)).trans ((xw_un (by decide)).trans ((Ft13 200 5 rfl).trans rfl))) (fun g701 k701 => ?_)
                  refine xw_nI (congrArg Int32.ofInt h5) ?_
                  refine xw_iconst (pc := 192) C0 dX12_go_192 ?_
                  refine xw_iadd (pc := 193) C0 dX12_go_193 ?_
                  refine xw_putI (pc := 194) (f := 5) C0 kcX12 dX12_go_194 (by decide) tv_1266 rfl rfl (xj_200 hKL) xk_0 rfl (by omega) (by omega) ?_
                  refine xw_vret C0 hA hr hlk dX12_go_197 ?_
                  have Ft61 : xw_F [(200, 5, 5), (200, 7, 7), (200, 9, 9)] t13 (xw_u (xw_u (xw_u t13 200 7 4) 200 9 (t (hp_i t n pz))) 200 5 (((hp_i t n pz : Nat) : Int) + 1)) := ((((xw_F.rf (ML := [(200, 5, 5), (200, 7, 7), (200, 9, 9)])).u (show (200, 7, 7) ∈ _ by decide) ⟨by decide, by decide⟩).u (show (200, 9, 9) ∈ _ by decide) ⟨by decide, by decide⟩).u (show (200, 5, 5) ∈ _ by decide) ⟨by decide, by decide⟩)
                  have vt61_200_5 : (xw_u (xw_u (xw_u t13 200 7 4) 200 9 (t (hp_i t n pz))) 200 5 (((hp_i t n pz : Nat) : Int) + 1)) 200 5 = ((hp_i t n pz : Nat) : Int) + 1 := xw_ug
                  have vt61_200_9 : (xw_u (xw_u (xw_u t13 200 7 4) 200 9 (t (hp_i t n pz))) 200 5 (((hp_i t n pz : Nat) : Int) + 1)) 200 9 = t (hp_i t n pz) := (xw_un (by decide)).trans xw_ug
                  have vt61_200_7 : (xw_u (xw_u (xw_u t13 200 7 4) 200 9 (t (hp_i t n pz))) 200 5 (((hp_i t n pz : Nat) : Int) + 1)) 200 7 = 4 := (xw_un (by decide)).trans ((xw_un (by decide)).trans xw_ug)
                  generalize (xw_u (xw_u (xw_u t13 200 7 4) 200 9 (t (hp_i t n pz))) 200 5 (((hp_i t n pz : Nat) : Int) + 1)) = t61 at Ft61 vt61_200_5 vt61_200_9 vt61_200_7 ⊢
                  have y5 : t61 200 5 = t61 200 5 := rfl
                  have y6 : t61 200 6 = t13 200 6 := (Ft61 200 6 rfl).trans rfl
                  have y7 : t61 200 7 = t61 200 7 := rfl
                  have y8 : t61 200 8 = ν 200 8 := (Ft61 200 8 rfl).trans ((Ft13 200 8 rfl).trans rfl)
                  have y9 : t61 200 9 = t61 200 9 := rfl
                  have y12 : t61 200 12 = ν 200 12 := (Ft61 200 12 rfl).trans ((Ft13 200 12 rfl).trans rfl)
                  have K := hp_kD (t := t) (n := n) (lim := lim) (p := pz) (by omega) (by omega) (by omega) (by omega)
                  have es : hp_s t n pz = t (hp_i t n pz) := rfl
                  exact ⟨rfl, ⟨hp9, by omega, by omega, fun q9 => by omega, fun q9 => by omega, fun q9 => by omega, fun q9 => by omega⟩, ((hF.mono (fun j i h => xw_o_sub (by decide) j i h)).tr (((xw_F.rf (ML := [(200, 5, 9), (200, 12, 12)])).tr Ft13 (fun j i h => xw_o_sub (by decide) j i h)).tr Ft61 (fun j i h => xw_o_sub (by decide) j i h)) (fun j i h => h))⟩
                · refine xw_putI (pc := 179) (f := 7) C0 kcX12 dX12_go_179 (by decide) tv_1268 rfl rfl (xj_200 hKL) xk_0 rfl (by omega) (by omega) ?_
                  refine xw_aload_n (pc := 182) C0 1 dX12_go_182 rfl rfl ?_
                  refine xw_iload_n (pc := 183) C0 0 dX12_go_183 rfl rfl ?_
                  refine xw_putI (pc := 184) (f := 9) C0 kcX12 dX12_go_184 (by decide) tv_1270 rfl rfl (xj_200 hKL) xk_0 rfl (by omega) (by omega) ?_
                  refine xw_aload_n (pc := 187) C0 1 dX12_go_187 rfl rfl ?_
                  refine xw_dup (pc := 188) C0 dX12_go_188 rfl ?_
                  refine xw_getI (pc := 189) (f := 5) (z := ν 200 5) C0 kcX12 dX12_go_189 (by decide) tv_1266 (xj_200 hKL) xk_0 rfl ((xw_un (by decide)).trans ((xw_un (by decide)).trans ((Ft13 200 5 rfl).trans rfl))) (fun g401 k401 => ?_)
                  refine xw_nI (congrArg Int32.ofInt h5) ?_
                  refine xw_iconst (pc := 192) C0 dX12_go_192 ?_
                  refine xw_iadd (pc := 193) C0 dX12_go_193 ?_
                  refine xw_putI (pc := 194) (f := 5) C0 kcX12 dX12_go_194 (by decide) tv_1266 rfl rfl (xj_200 hKL) xk_0 rfl (by omega) (by omega) ?_
                  refine xw_vret C0 hA hr hlk dX12_go_197 ?_
                  have Ft61 : xw_F [(200, 5, 5), (200, 7, 7), (200, 9, 9)] t13 (xw_u (xw_u (xw_u t13 200 7 1) 200 9 (t (hp_i t n pz))) 200 5 (((hp_i t n pz : Nat) : Int) + 1)) := ((((xw_F.rf (ML := [(200, 5, 5), (200, 7, 7), (200, 9, 9)])).u (show (200, 7, 7) ∈ _ by decide) ⟨by decide, by decide⟩).u (show (200, 9, 9) ∈ _ by decide) ⟨by decide, by decide⟩).u (show (200, 5, 5) ∈ _ by decide) ⟨by decide, by decide⟩)
                  have vt61_200_5 : (xw_u (xw_u (xw_u t13 200 7 1) 200 9 (t (hp_i t n pz))) 200 5 (((hp_i t n pz : Nat) : Int) + 1)) 200 5 = ((hp_i t n pz : Nat) : Int) + 1 := xw_ug
                  have vt61_200_9 : (xw_u (xw_u (xw_u t13 200 7 1) 200 9 (t (hp_i t n pz))) 200 5 (((hp_i t n pz : Nat) : Int) + 1)) 200 9 = t (hp_i t n pz) := (xw_un (by decide)).trans xw_ug
                  have vt61_200_7 : (xw_u (xw_u (xw_u t13 200 7 1) 200 9 (t (hp_i t n pz))) 200 5 (((hp_i t n pz : Nat) : Int) + 1)) 200 7 = 1 := (xw_un (by decide)).trans ((xw_un (by decide)).trans xw_ug)
                  generalize (xw_u (xw_u (xw_u t13 200 7 1) 200 9 (t (hp_i t n pz))) 200 5 (((hp_i t n pz : Nat) : Int) + 1)) = t61 at Ft61 vt61_200_5 vt61_200_9 vt61_200_7 ⊢
                  have y5 : t61 200 5 = t61 200 5 := rfl
                  have y6 : t61 200 6 = t13 200 6 := (Ft61 200 6 rfl).trans rfl
                  have y7 : t61 200 7 = t61 200 7 := rfl
                  have y8 : t61 200 8 = ν 200 8 := (Ft61 200 8 rfl).trans ((Ft13 200 8 rfl).trans rfl)
                  have y9 : t61 200 9 = t61 200 9 := rfl
                  have y12 : t61 200 12 = ν 200 12 := (Ft61 200 12 rfl).trans ((Ft13 200 12 rfl).trans rfl)
                  have K := hp_kE (t := t) (n := n) (lim := lim) (p := pz) (by omega) (by omega) (by omega) (by omega)
                  have es : hp_s t n pz = t (hp_i t n pz) := rfl
                  exact ⟨rfl, ⟨hp9, by omega, by omega, fun q9 => by omega, fun q9 => by omega, fun q9 => by omega, fun q9 => by omega⟩, ((hF.mono (fun j i h => xw_o_sub (by decide) j i h)).tr (((xw_F.rf (ML := [(200, 5, 9), (200, 12, 12)])).tr Ft13 (fun j i h => xw_o_sub (by decide) j i h)).tr Ft61 (fun j i h => xw_o_sub (by decide) j i h)) (fun j i h => h))⟩
      · refine xw_aload_n (pc := 107) C0 0 dX12_go_107 rfl rfl ?_
        refine xw_iconst (pc := 108) C0 dX12_go_108 ?_
        refine xw_putI (pc := 109) (f := 7) C0 kcX12 dX12_go_109 (by decide) tv_1268 rfl rfl (xj_200 hKL) xk_0 rfl (by omega) (by omega) ?_
        refine xw_vret C0 hA hr hlk dX12_go_112 ?_
        have Ft14 : xw_F [(200, 6, 6), (200, 7, 7)] ν (xw_u (xw_u ν 200 6 ((hp_i t n pz : Nat) : Int)) 200 7 0) := (((xw_F.rf (ML := [(200, 6, 6), (200, 7, 7)])).u (show (200, 6, 6) ∈ _ by decide) ⟨by decide, by decide⟩).u (show (200, 7, 7) ∈ _ by decide) ⟨by decide, by decide⟩)
        have vt14_200_7 : (xw_u (xw_u ν 200 6 ((hp_i t n pz : Nat) : Int)) 200 7 0) 200 7 = 0 := xw_ug
        have vt14_200_6 : (xw_u (xw_u ν 200 6 ((hp_i t n pz : Nat) : Int)) 200 7 0) 200 6 = ((hp_i t n pz : Nat) : Int) := (xw_un (by decide)).trans xw_ug
        generalize (xw_u (xw_u ν 200 6 ((hp_i t n pz : Nat) : Int)) 200 7 0) = t14 at Ft14 vt14_200_7 vt14_200_6 ⊢
        have y5 : t14 200 5 = ν 200 5 := (Ft14 200 5 rfl).trans rfl
        have y6 : t14 200 6 = t14 200 6 := rfl
        have y7 : t14 200 7 = t14 200 7 := rfl
        have y8 : t14 200 8 = ν 200 8 := (Ft14 200 8 rfl).trans rfl
        have y9 : t14 200 9 = ν 200 9 := (Ft14 200 9 rfl).trans rfl
        have y12 : t14 200 12 = ν 200 12 := (Ft14 200 12 rfl).trans rfl
        have K := hp_kB (t := t) (n := n) (lim := lim) (p := pz) (by omega) (by omega)
        have es : hp_s t n pz = t (hp_i t n pz) := rfl
        exact ⟨rfl, ⟨hp9, by omega, by omega, fun q9 => by omega, fun q9 => by omega, fun q9 => by omega, fun q9 => by omega⟩, ((hF.mono (fun j i h => xw_o_sub (by decide) j i h)).tr ((xw_F.rf (ML := [(200, 5, 9), (200, 12, 12)])).tr Ft14 (fun j i h => xw_o_sub (by decide) j i h)) (fun j i h => h))⟩)
