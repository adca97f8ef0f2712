set_option maxRecDepth 20000 in
set_option maxHeartbeats 20000000 in
theorem xr_readNew {l : Launch} {t rd nm : Nat → Int} {n lim pz s9 : Nat} {μ : xw_M} (hS : hr_S t n lim μ) (hT : hr_T t n lim pz μ) (hH : hr_H rd nm μ) (hK : hp_ok rd nm) (hs : s9 < 14) : xw_MetI l vwCl sa_Ts tb_KT0 tc_KL yX12_readNew cX12_readNew 2 (some .boolean) 5 189 (fun ad => [.ref (ad 200), .int (Int32.ofInt ((s9 : Nat) : Int))]) μ (fun r μ' => ((hp_new t n lim rd nm pz = .inr (hp_w t n pz, hp_x t n pz) ∧ r = 1 ∧ hr_T t n lim (hp_x t n pz) μ' ∧ ∀ i : Nat, μ' 208 i = if i = s9 then hp_w t n pz else μ 208 i) ∨ (∃ e9 : hp_E, hp_new t n lim rd nm pz = .inl e9 ∧ r = 0 ∧ hr_W e9 μ' ∧ ∀ i : Nat, μ' 208 i = μ 208 i)) ∧ xw_F [(200, 5, 12), (208, 0, 13)] μ μ') :=
  xw_of (by decide) (fun _ => Nat.le_of_ble_eq_true rfl) (fun p e s m args below meth c D dA A al w0 sz C0 hU hO hKL hr hlk hA => by
    have n_μ := hS.2.2.1
    have l_μ := hS.2.2.2.1
    have b_μ := hS.2.2.2.2
    obtain ⟨hp9, c2, c3, c4, c5, c6, c7⟩ := id hT
    have hpl := hp_plb (t := t) (lim := lim) hp9
    have hkb := hp_kb t n lim pz
    have k0 := hK.1
    have k1 := hK.2.1
    have k2 := hK.2.2.1
    have h0 := hH.1 0 (by decide)
    have h1 := hH.1 1 (by decide)
    have h2 := hH.1 2 (by decide)
    refine xw_aload_n (pc := 0) C0 0 dX12_readNew_0 rfl rfl ?_
    refine xw_callVI (pc := 1) (μ := μ) (ci := 12) (rest := []) (As := []) C0 hU hO sa_Tg hKL (xr_isName (l := l) hS hT) tv_1471 dX12_readNew_1 tv_1468 tv_1470 tq_X12_isName tv_13 rfl yb_X12_isName (by decide) rfl rfl rfl (by decide) (Nat.le_of_ble_eq_true rfl) (xj_200 hKL) xk_0 (fun r1 m1 w1 => ?_)
    obtain ⟨rfl, w1⟩ := w1
    rcases w1 with ⟨w1, rfl⟩ | ⟨w1, rfl⟩
    · refine xw_if_ne (pc := 4) (tgt := 13) C0 (by omega) dX12_readNew_4 rfl (fun b2 => ?_) (fun b2 => ?_)
      · refine xw_aload_n (pc := 13) C0 0 dX12_readNew_13 rfl rfl ?_
        refine xw_getR (pc := 14) (f := 20) C0 208 kcX12 dX12_readNew_14 (by decide) tv_1281 (xj_200 hKL) xk_0 rfl ((rfl).trans (xe_200_20 hS.1)) ?_
        refine xw_iconst (pc := 17) C0 dX12_readNew_17 ?_
        refine xw_aload_n (pc := 18) C0 0 dX12_readNew_18 rfl rfl ?_
        refine xw_getR (pc := 19) (f := 15) C0 203 kcX12 dX12_readNew_19 (by decide) tv_1276 (xj_200 hKL) xk_0 rfl ((rfl).trans (xe_200_15 hS.1)) ?_
        refine xw_iconst (pc := 22) C0 dX12_readNew_22 ?_
        refine xw_iald (pc := 23) (z := rd 0) C0 dX12_readNew_23 (xj_203 hKL) xk_8 (by omega) (by decide) rfl (hH.1 0 (by decide)) (fun g3 k3 => ?_)
        refine xw_nI (congrArg Int32.ofInt (show rd 0 = (((rd 0).toNat : Nat) : Int) by omega)) ?_
        refine xw_aload_n (pc := 24) C0 0 dX12_readNew_24 rfl rfl ?_
        refine xw_getL (pc := 25) (f := 12) (z := μ 200 12) C0 kcX12 dX12_readNew_25 (by decide) tv_1273 (xj_200 hKL) xk_0 rfl (rfl) (fun g4 k4 => ?_)
        have hw9 := hp_wb (t := t) (n := n) (lim := lim) (p := pz) (by omega)
        refine xw_nL (congrArg Int64.ofInt (c4 (by omega))) ?_
        refine xw_callSI (pc := 28) (μ := μ) (rest := []) (As := [.ref (xw_ad al 208), .int (Int32.ofInt ((0 : Nat) : Int)), .int (Int32.ofInt (((rd 0).toNat : Nat) : Int)), .long (Int64.ofInt (hp_w t n pz))]) C0 hU hO sa_Tg hKL (xr_findIn (l := l) (nm := nm) (base := 0) (m9 := (rd 0).toNat) (v := hp_w t n pz) (fun i hi => by rw [Nat.zero_add]; exact hH.2.1 i (by omega) (by omega)) (by omega) (by omega)) tv_1474 dX12_readNew_28 tv_1472 tv_1473 tv_13 yb_X12_findIn (by decide) rfl rfl rfl (by decide) (Nat.le_of_ble_eq_true rfl) (fun r5 m5 w5 => ?_)
        obtain ⟨rfl, w5⟩ := w5
        have u5 := hp_fb nm 0 (rd 0).toNat (hp_w t n pz)
        refine xw_iconst (pc := 31) C0 dX12_readNew_31 ?_
        refine xw_icmp_ne (pc := 32) (tgt := 58) C0 (by omega) (by omega) dX12_readNew_32 rfl (fun b6 => ?_) (fun b6 => ?_)
        · refine xw_aload_n (pc := 58) C0 0 dX12_readNew_58 rfl rfl ?_
          refine xw_iconst (pc := 59) C0 dX12_readNew_59 ?_
          refine xw_callVI (pc := 60) (μ := μ) (ci := 12) (rest := []) (As := [.int (Int32.ofInt 3)]) C0 hU hO sa_Tg hKL (xr_bad (l := l) (v := 3) hS hT (by omega) (by omega)) tv_1463 dX12_readNew_60 tv_1460 tv_1462 tq_X12_bad tv_13 rfl yb_X12_bad (by decide) rfl rfl rfl (by decide) (Nat.le_of_ble_eq_true rfl) (xj_200 hKL) xk_0 (fun r7 m7 w7 => ?_)
          obtain ⟨rfl, W7, F7⟩ := w7
          refine xw_iret C0 hA hr hlk rfl dX12_readNew_63 ?_
          have eo : hp_new t n lim rd nm pz = .inl (hp_bad t n lim 3 pz) := by
            unfold hp_new
            rw [if_pos (by omega), if_neg (by omega)]
          exact ⟨_, rfl, Or.inr ⟨_, eo, rfl, W7, fun i => F7 208 i rfl⟩, ((xw_F.rf (ML := [(200, 5, 12), (208, 0, 13)])).tr F7 (fun j i h => xw_o_sub (by decide) j i h))⟩
        · refine xw_aload_n (pc := 35) C0 0 dX12_readNew_35 rfl rfl ?_
          refine xw_getR (pc := 36) (f := 20) C0 208 kcX12 dX12_readNew_36 (by decide) tv_1281 (xj_200 hKL) xk_0 rfl ((rfl).trans (xe_200_20 hS.1)) ?_
          refine xw_bipush (pc := 39) C0 dX12_readNew_39 (by decide) ?_
          refine xw_aload_n (pc := 41) C0 0 dX12_readNew_41 rfl rfl ?_
          refine xw_getR (pc := 42) (f := 15) C0 203 kcX12 dX12_readNew_42 (by decide) tv_1276 (xj_200 hKL) xk_0 rfl ((rfl).trans (xe_200_15 hS.1)) ?_
          refine xw_iconst (pc := 45) C0 dX12_readNew_45 ?_
          refine xw_iald (pc := 46) (z := rd 1) C0 dX12_readNew_46 (xj_203 hKL) xk_8 (by omega) (by decide) rfl (hH.1 1 (by decide)) (fun g8 k8 => ?_)
          refine xw_nI (congrArg Int32.ofInt (show rd 1 = (((rd 1).toNat : Nat) : Int) by omega)) ?_
          refine xw_aload_n (pc := 47) C0 0 dX12_readNew_47 rfl rfl ?_
          refine xw_getL (pc := 48) (f := 12) (z := μ 200 12) C0 kcX12 dX12_readNew_48 (by decide) tv_1273 (xj_200 hKL) xk_0 rfl (rfl) (fun g10 k10 => ?_)
          have hw9 := hp_wb (t := t) (n := n) (lim := lim) (p := pz) (by omega)
          refine xw_nL (congrArg Int64.ofInt (c4 (by omega))) ?_
          refine xw_callSI (pc := 51) (μ := μ) (rest := []) (As := [.ref (xw_ad al 208), .int (Int32.ofInt ((6 : Nat) : Int)), .int (Int32.ofInt (((rd 1).toNat : Nat) : Int)), .long (Int64.ofInt (hp_w t n pz))]) C0 hU hO sa_Tg hKL (xr_findIn (l := l) (nm := nm) (base := 6) (m9 := (rd 1).toNat) (v := hp_w t n pz) (fun i hi => hH.2.2 i (by omega) (by omega)) (by omega) (by omega)) tv_1474 dX12_readNew_51 tv_1472 tv_1473 tv_13 yb_X12_findIn (by decide) rfl rfl rfl (by decide) (Nat.le_of_ble_eq_true rfl) (fun r11 m11 w11 => ?_)
          obtain ⟨rfl, w11⟩ := w11
          have u11 := hp_fb nm 6 (rd 1).toNat (hp_w t n pz)
          refine xw_iconst (pc := 54) C0 dX12_readNew_54 ?_
          refine xw_icmp_eq (pc := 55) (tgt := 64) C0 (by omega) (by omega) dX12_readNew_55 rfl (fun b12 => ?_) (fun b12 => ?_)
          · refine xw_aload_n (pc := 64) C0 0 dX12_readNew_64 rfl rfl ?_
            refine xw_getR (pc := 65) (f := 20) C0 208 kcX12 dX12_readNew_65 (by decide) tv_1281 (xj_200 hKL) xk_0 rfl ((rfl).trans (xe_200_20 hS.1)) ?_
            refine xw_iload_n (pc := 68) C0 1 dX12_readNew_68 rfl rfl ?_
            refine xw_aload_n (pc := 69) C0 0 dX12_readNew_69 rfl rfl ?_
            refine xw_getL (pc := 70) (f := 12) (z := μ 200 12) C0 kcX12 dX12_readNew_70 (by decide) tv_1273 (xj_200 hKL) xk_0 rfl (rfl) (fun g13 k13 => ?_)
            refine xw_nL (congrArg Int64.ofInt (c4 (by omega))) ?_
            refine xw_last (pc := 73) C0 dX12_readNew_73 (xj_208 hKL) xk_79 (by omega) (by decide) (xw_rl (by omega)) (by omega) (by omega) ?_
            refine xw_aload_n (pc := 74) C0 0 dX12_readNew_74 rfl rfl ?_
            have A208 : ∀ i : Nat, (xw_u μ 208 (((s9 : Nat) : Int)).toNat (hp_w t n pz)) 208 i = if i = s9 then hp_w t n pz else μ 208 i := fun i => xw_ui (fun i => rfl)
            have Ft1 : xw_F [(208, 0, 13)] μ (xw_u μ 208 (((s9 : Nat) : Int)).toNat (hp_w t n pz)) := ((xw_F.rf (ML := [(208, 0, 13)])).u (show (208, 0, 13) ∈ _ by decide) ⟨by omega, by omega⟩)
            generalize (xw_u μ 208 (((s9 : Nat) : Int)).toNat (hp_w t n pz)) = t1 at A208 Ft1  ⊢
            have hS_t1 := hr_SF hS Ft1 (by decide)
            have n_t1 := hS_t1.2.2.1
            have l_t1 := hS_t1.2.2.2.1
            have b_t1 := hS_t1.2.2.2.2
            refine xw_callVV (pc := 75) (μ := t1) (ci := 12) (rest := []) (As := []) C0 hU hO sa_Tg hKL (xr_go (l := l) (pz := hp_x t n pz) hS_t1 (by have q9 := c7 (by omega); have q8 : t1 200 5 = μ 200 5 := Ft1 200 5 rfl; omega) (hp_xb (lim := lim) hp9 (by omega))) tv_1425 dX12_readNew_75 tv_1422 tv_1424 tq_X12_go tv_13 rfl yb_X12_go (by decide) rfl rfl rfl (by decide) (Nat.le_of_ble_eq_true rfl) (xj_200 hKL) xk_0 (fun m14 w14 => ?_)
            obtain ⟨T14, F14⟩ := w14
            refine xw_iconst (pc := 78) C0 dX12_readNew_78 ?_
            refine xw_iret C0 hA hr hlk rfl dX12_readNew_79 ?_
            have eo : hp_new t n lim rd nm pz = .inr (hp_w t n pz, hp_x t n pz) := by
              unfold hp_new
              rw [if_pos (by omega), if_pos ⟨by omega, by omega⟩]
            exact ⟨_, rfl, Or.inl ⟨eo, rfl, T14, fun i => (F14 208 i rfl).trans (A208 i)⟩, (((xw_F.rf (ML := [(200, 5, 12), (208, 0, 13)])).tr Ft1 (fun j i h => xw_o_sub (by decide) j i h)).tr F14 (fun j i h => xw_o_sub (by decide) j i h))⟩
          · refine xw_aload_n (pc := 58) C0 0 dX12_readNew_58 rfl rfl ?_
            refine xw_iconst (pc := 59) C0 dX12_readNew_59 ?_
            refine xw_callVI (pc := 60) (μ := μ) (ci := 12) (rest := []) (As := [.int (Int32.ofInt 3)]) C0 hU hO sa_Tg hKL (xr_bad (l := l) (v := 3) hS hT (by omega) (by omega)) tv_1463 dX12_readNew_60 tv_1460 tv_1462 tq_X12_bad tv_13 rfl yb_X12_bad (by decide) rfl rfl rfl (by decide) (Nat.le_of_ble_eq_true rfl) (xj_200 hKL) xk_0 (fun r15 m15 w15 => ?_)
            obtain ⟨rfl, W15, F15⟩ := w15
            refine xw_iret C0 hA hr hlk rfl dX12_readNew_63 ?_
            have eo : hp_new t n lim rd nm pz = .inl (hp_bad t n lim 3 pz) := by
              unfold hp_new
              rw [if_pos (by omega), if_neg (by omega)]
            exact ⟨_, rfl, Or.inr ⟨_, eo, rfl, W15, fun i => F15 208 i rfl⟩, ((xw_F.rf (ML := [(200, 5, 12), (208, 0, 13)])).tr F15 (fun j i h => xw_o_sub (by decide) j i h))⟩
      · exfalso
        omega
    · refine xw_if_ne (pc := 4) (tgt := 13) C0 (by omega) dX12_readNew_4 rfl (fun b16 => ?_) (fun b16 => ?_)
      · exfalso
        omega
      · refine xw_aload_n (pc := 7) C0 0 dX12_readNew_7 rfl rfl ?_
        refine xw_iconst (pc := 8) C0 dX12_readNew_8 ?_
        refine xw_callVI (pc := 9) (μ := μ) (ci := 12) (rest := []) (As := [.int (Int32.ofInt 1)]) C0 hU hO sa_Tg hKL (xr_bad (l := l) (v := 1) hS hT (by omega) (by omega)) tv_1463 dX12_readNew_9 tv_1460 tv_1462 tq_X12_bad tv_13 rfl yb_X12_bad (by decide) rfl rfl rfl (by decide) (Nat.le_of_ble_eq_true rfl) (xj_200 hKL) xk_0 (fun r17 m17 w17 => ?_)
        obtain ⟨rfl, W17, F17⟩ := w17
        refine xw_iret C0 hA hr hlk rfl dX12_readNew_12 ?_
        have eo : hp_new t n lim rd nm pz = .inl (hp_bad t n lim 1 pz) := if_neg (by omega)
        exact ⟨_, rfl, Or.inr ⟨_, eo, rfl, W17, fun i => F17 208 i rfl⟩, ((xw_F.rf (ML := [(200, 5, 12), (208, 0, 13)])).tr F17 (fun j i h => xw_o_sub (by decide) j i h))⟩)
set_option maxRecDepth 20000 in
set_option maxHeartbeats 20000000 in
theorem xr_readFirst0 {l : Launch} {t rd nm : Nat → Int} {n lim pz : Nat} {μ : xw_M} (hS : hr_S t n lim μ) (hT : hr_T t n lim pz μ) (hH : hr_H rd nm μ) (hK : hp_ok rd nm) (hk : hp_k t n lim pz = 2) : xw_MetI l vwCl sa_Ts tb_KT0 tc_KL yX12_readFirst cX12_readFirst 3 (some .boolean) 4 165 (fun ad => [.ref (ad 200), .int (Int32.ofInt 0), .int (Int32.ofInt 6)]) μ (fun r μ' => ((¬ 6 ≤ rd 0 ∧ r = 1 ∧ hr_T t n lim (hp_x t n pz) μ') ∨ (6 ≤ rd 0 ∧ r = 0 ∧ hr_W (hp_bad t n lim 4 pz) μ')) ∧ xw_F [(200, 5, 13)] μ μ') :=
  xw_of (by decide) (fun _ => Nat.le_of_ble_eq_true rfl) (fun p e s m args below meth c D dA A al w0 sz C0 hU hO hKL hr hlk hA => by
    have n_μ := hS.2.2.1
    have l_μ := hS.2.2.2.1
    have b_μ := hS.2.2.2.2
    obtain ⟨hp9, c2, c3, c4, c5, c6, c7⟩ := id hT
    have hpl := hp_plb (t := t) (lim := lim) hp9
    have hkb := hp_kb t n lim pz
    have k0 := hK.1
    have k1 := hK.2.1
    have k2 := hK.2.2.1
    have h0 := hH.1 0 (by decide)
    have h1 := hH.1 1 (by decide)
    have h2 := hH.1 2 (by decide)
    refine xw_aload_n (pc := 0) C0 0 dX12_readFirst_0 rfl rfl ?_
    refine xw_getR (pc := 1) (f := 15) C0 203 kcX12 dX12_readFirst_1 (by decide) tv_1276 (xj_200 hKL) xk_0 rfl ((rfl).trans (xe_200_15 hS.1)) ?_
    refine xw_iload_n (pc := 4) C0 1 dX12_readFirst_4 rfl rfl ?_
    refine xw_iald (pc := 5) (z := rd 0) C0 dX12_readFirst_5 (xj_203 hKL) xk_8 (by omega) (by decide) rfl (hH.1 0 (by decide)) (fun g1 k1 => ?_)
    refine xw_iload_n (pc := 6) C0 2 dX12_readFirst_6 rfl rfl ?_
    refine xw_icmp_ne (pc := 7) (tgt := 16) C0 (by omega) (by omega) dX12_readFirst_7 rfl (fun b2 => ?_) (fun b2 => ?_)
    · refine xw_aload_n (pc := 16) C0 0 dX12_readFirst_16 rfl rfl ?_
      refine xw_callVV (pc := 17) (μ := μ) (ci := 12) (rest := []) (As := []) C0 hU hO sa_Tg hKL (xr_go (l := l) (pz := hp_x t n pz) hS (c7 (by omega)) (hp_xb (lim := lim) hp9 (by omega))) tv_1425 dX12_readFirst_17 tv_1422 tv_1424 tq_X12_go tv_13 rfl yb_X12_go (by decide) rfl rfl rfl (by decide) (Nat.le_of_ble_eq_true rfl) (xj_200 hKL) xk_0 (fun m3 w3 => ?_)
      obtain ⟨T3, F3⟩ := w3
      have hS_m3 := hr_SF hS F3 (by decide)
      have n_m3 := hS_m3.2.2.1
      have l_m3 := hS_m3.2.2.2.1
      have b_m3 := hS_m3.2.2.2.2
      refine xw_iconst (pc := 20) C0 dX12_readFirst_20 ?_
      refine xw_iret C0 hA hr hlk rfl dX12_readFirst_21 ?_
      exact ⟨_, rfl, Or.inl ⟨by omega, rfl, T3⟩, ((xw_F.rf (ML := [(200, 5, 13)])).tr F3 (fun j i h => xw_o_sub (by decide) j i h))⟩
    · refine xw_aload_n (pc := 10) C0 0 dX12_readFirst_10 rfl rfl ?_
      refine xw_iconst (pc := 11) C0 dX12_readFirst_11 ?_
      refine xw_callVI (pc := 12) (μ := μ) (ci := 12) (rest := []) (As := [.int (Int32.ofInt 4)]) C0 hU hO sa_Tg hKL (xr_bad (l := l) (v := 4) hS hT (by omega) (by omega)) tv_1463 dX12_readFirst_12 tv_1460 tv_1462 tq_X12_bad tv_13 rfl yb_X12_bad (by decide) rfl rfl rfl (by decide) (Nat.le_of_ble_eq_true rfl) (xj_200 hKL) xk_0 (fun r4 m4 w4 => ?_)
      obtain ⟨rfl, W4, F4⟩ := w4
      refine xw_iret C0 hA hr hlk rfl dX12_readFirst_15 ?_
      exact ⟨_, rfl, Or.inr ⟨by omega, rfl, W4⟩, ((xw_F.rf (ML := [(200, 5, 13)])).tr F4 (fun j i h => xw_o_sub (by decide) j i h))⟩)
set_option maxRecDepth 20000 in
set_option maxHeartbeats 20000000 in
theorem xr_readFirst1 {l : Launch} {t rd nm : Nat → Int} {n lim pz : Nat} {μ : xw_M} (hS : hr_S t n lim μ) (hT : hr_T t n lim pz μ) (hH : hr_H rd nm μ) (hK : hp_ok rd nm) (hk : hp_k t n lim pz = 2) : xw_MetI l vwCl sa_Ts tb_KT0 tc_KL yX12_readFirst cX12_readFirst 3 (some .boolean) 4 165 (fun ad => [.ref (ad 200), .int (Int32.ofInt 1), .int (Int32.ofInt 8)]) μ (fun r μ' => ((¬ 8 ≤ rd 1 ∧ r = 1 ∧ hr_T t n lim (hp_x t n pz) μ') ∨ (8 ≤ rd 1 ∧ r = 0 ∧ hr_W (hp_bad t n lim 4 pz) μ')) ∧ xw_F [(200, 5, 13)] μ μ') :=
  xw_of (by decide) (fun _ => Nat.le_of_ble_eq_true rfl) (fun p e s m args below meth c D dA A al w0 sz C0 hU hO hKL hr hlk hA => by
    have n_μ := hS.2.2.1
    have l_μ := hS.2.2.2.1
    have b_μ := hS.2.2.2.2
    obtain ⟨hp9, c2, c3, c4, c5, c6, c7⟩ := id hT
    have hpl := hp_plb (t := t) (lim := lim) hp9
    have hkb := hp_kb t n lim pz
    have k0 := hK.1
    have k1 := hK.2.1
    have k2 := hK.2.2.1
    have h0 := hH.1 0 (by decide)
    have h1 := hH.1 1 (by decide)
    have h2 := hH.1 2 (by decide)
    refine xw_aload_n (pc := 0) C0 0 dX12_readFirst_0 rfl rfl ?_
    refine xw_getR (pc := 1) (f := 15) C0 203 kcX12 dX12_readFirst_1 (by decide) tv_1276 (xj_200 hKL) xk_0 rfl ((rfl).trans (xe_200_15 hS.1)) ?_
    refine xw_iload_n (pc := 4) C0 1 dX12_readFirst_4 rfl rfl ?_
    refine xw_iald (pc := 5) (z := rd 1) C0 dX12_readFirst_5 (xj_203 hKL) xk_8 (by omega) (by decide) rfl (hH.1 1 (by decide)) (fun g1 k1 => ?_)
    refine xw_iload_n (pc := 6) C0 2 dX12_readFirst_6 rfl rfl ?_
    refine xw_icmp_ne (pc := 7) (tgt := 16) C0 (by omega) (by omega) dX12_readFirst_7 rfl (fun b2 => ?_) (fun b2 => ?_)
    · refine xw_aload_n (pc := 16) C0 0 dX12_readFirst_16 rfl rfl ?_
      refine xw_callVV (pc := 17) (μ := μ) (ci := 12) (rest := []) (As := []) C0 hU hO sa_Tg hKL (xr_go (l := l) (pz := hp_x t n pz) hS (c7 (by omega)) (hp_xb (lim := lim) hp9 (by omega))) tv_1425 dX12_readFirst_17 tv_1422 tv_1424 tq_X12_go tv_13 rfl yb_X12_go (by decide) rfl rfl rfl (by decide) (Nat.le_of_ble_eq_true rfl) (xj_200 hKL) xk_0 (fun m3 w3 => ?_)
      obtain ⟨T3, F3⟩ := w3
      have hS_m3 := hr_SF hS F3 (by decide)
      have n_m3 := hS_m3.2.2.1
      have l_m3 := hS_m3.2.2.2.1
      have b_m3 := hS_m3.2.2.2.2
      refine xw_iconst (pc := 20) C0 dX12_readFirst_20 ?_
      refine xw_iret C0 hA hr hlk rfl dX12_readFirst_21 ?_
      exact ⟨_, rfl, Or.inl ⟨by omega, rfl, T3⟩, ((xw_F.rf (ML := [(200, 5, 13)])).tr F3 (fun j i h => xw_o_sub (by decide) j i h))⟩
    · refine xw_aload_n (pc := 10) C0 0 dX12_readFirst_10 rfl rfl ?_
      refine xw_iconst (pc := 11) C0 dX12_readFirst_11 ?_
      refine xw_callVI (pc := 12) (μ := μ) (ci := 12) (rest := []) (As := [.int (Int32.ofInt 4)]) C0 hU hO sa_Tg hKL (xr_bad (l := l) (v := 4) hS hT (by omega) (by omega)) tv_1463 dX12_readFirst_12 tv_1460 tv_1462 tq_X12_bad tv_13 rfl yb_X12_bad (by decide) rfl rfl rfl (by decide) (Nat.le_of_ble_eq_true rfl) (xj_200 hKL) xk_0 (fun r4 m4 w4 => ?_)
      obtain ⟨rfl, W4, F4⟩ := w4
      refine xw_iret C0 hA hr hlk rfl dX12_readFirst_15 ?_
      exact ⟨_, rfl, Or.inr ⟨by omega, rfl, W4⟩, ((xw_F.rf (ML := [(200, 5, 13)])).tr F4 (fun j i h => xw_o_sub (by decide) j i h))⟩)
set_option maxRecDepth 20000 in
set_option maxHeartbeats 20000000 in
theorem xr_readFirst2 {l : Launch} {t rd nm : Nat → Int} {n lim pz : Nat} {μ : xw_M} (hS : hr_S t n lim μ) (hT : hr_T t n lim pz μ) (hH : hr_H rd nm μ) (hK : hp_ok rd nm) (hk : hp_k t n lim pz = 2) : xw_MetI l vwCl sa_Ts tb_KT0 tc_KL yX12_readFirst cX12_readFirst 3 (some .boolean) 4 165 (fun ad => [.ref (ad 200), .int (Int32.ofInt 2), .int (Int32.ofInt 16)]) μ (fun r μ' => ((¬ 16 ≤ rd 2 ∧ r = 1 ∧ hr_T t n lim (hp_x t n pz) μ') ∨ (16 ≤ rd 2 ∧ r = 0 ∧ hr_W (hp_bad t n lim 4 pz) μ')) ∧ xw_F [(200, 5, 13)] μ μ') :=
  xw_of (by decide) (fun _ => Nat.le_of_ble_eq_true rfl) (fun p e s m args below meth c D dA A al w0 sz C0 hU hO hKL hr hlk hA => by
    have n_μ := hS.2.2.1
    have l_μ := hS.2.2.2.1
    have b_μ := hS.2.2.2.2
    obtain ⟨hp9, c2, c3, c4, c5, c6, c7⟩ := id hT
    have hpl := hp_plb (t := t) (lim := lim) hp9
    have hkb := hp_kb t n lim pz
    have k0 := hK.1
    have k1 := hK.2.1
    have k2 := hK.2.2.1
    have h0 := hH.1 0 (by decide)
    have h1 := hH.1 1 (by decide)
    have h2 := hH.1 2 (by decide)
    refine xw_aload_n (pc := 0) C0 0 dX12_readFirst_0 rfl rfl ?_
    refine xw_getR (pc := 1) (f := 15) C0 203 kcX12 dX12_readFirst_1 (by decide) tv_1276 (xj_200 hKL) xk_0 rfl ((rfl).trans (xe_200_15 hS.1)) ?_
    refine xw_iload_n (pc := 4) C0 1 dX12_readFirst_4 rfl rfl ?_
    refine xw_iald (pc := 5) (z := rd 2) C0 dX12_readFirst_5 (xj_203 hKL) xk_8 (by omega) (by decide) rfl (hH.1 2 (by decide)) (fun g1 k1 => ?_)
    refine xw_iload_n (pc := 6) C0 2 dX12_readFirst_6 rfl rfl ?_
    refine xw_icmp_ne (pc := 7) (tgt := 16) C0 (by omega) (by omega) dX12_readFirst_7 rfl (fun b2 => ?_) (fun b2 => ?_)
    · refine xw_aload_n (pc := 16) C0 0 dX12_readFirst_16 rfl rfl ?_
      refine xw_callVV (pc := 17) (μ := μ) (ci := 12) (rest := []) (As := []) C0 hU hO sa_Tg hKL (xr_go (l := l) (pz := hp_x t n pz) hS (c7 (by omega)) (hp_xb (lim := lim) hp9 (by omega))) tv_1425 dX12_readFirst_17 tv_1422 tv_1424 tq_X12_go tv_13 rfl yb_X12_go (by decide) rfl rfl rfl (by decide) (Nat.le_of_ble_eq_true rfl) (xj_200 hKL) xk_0 (fun m3 w3 => ?_)
      obtain ⟨T3, F3⟩ := w3
      have hS_m3 := hr_SF hS F3 (by decide)
      have n_m3 := hS_m3.2.2.1
      have l_m3 := hS_m3.2.2.2.1
      have b_m3 := hS_m3.2.2.2.2
      refine xw_iconst (pc := 20) C0 dX12_readFirst_20 ?_
      refine xw_iret C0 hA hr hlk rfl dX12_readFirst_21 ?_
      exact ⟨_, rfl, Or.inl ⟨by omega, rfl, T3⟩, ((xw_F.rf (ML := [(200, 5, 13)])).tr F3 (fun j i h => xw_o_sub (by decide) j i h))⟩
    · refine xw_aload_n (pc := 10) C0 0 dX12_readFirst_10 rfl rfl ?_
      refine xw_iconst (pc := 11) C0 dX12_readFirst_11 ?_
      refine xw_callVI (pc := 12) (μ := μ) (ci := 12) (rest := []) (As := [.int (Int32.ofInt 4)]) C0 hU hO sa_Tg hKL (xr_bad (l := l) (v := 4) hS hT (by omega) (by omega)) tv_1463 dX12_readFirst_12 tv_1460 tv_1462 tq_X12_bad tv_13 rfl yb_X12_bad (by decide) rfl rfl rfl (by decide) (Nat.le_of_ble_eq_true rfl) (xj_200 hKL) xk_0 (fun r4 m4 w4 => ?_)
      obtain ⟨rfl, W4, F4⟩ := w4
      refine xw_iret C0 hA hr hlk rfl dX12_readFirst_15 ?_
      exact ⟨_, rfl, Or.inr ⟨by omega, rfl, W4⟩, ((xw_F.rf (ML := [(200, 5, 13)])).tr F4 (fun j i h => xw_o_sub (by decide) j i h))⟩)
def hr_RT : List (Nat × tb_t) := [(1, (0, 0, 6)), (1, (0, 0, 8)), (1, (0, 0, 16)), (6, (0, 0, 30)), (6, (0, 0, 20)), (2, (0, (-1), 0)), (1, (0, (-1), 1)), (1, (0, (-1), 2)), (1, (0, (-1), 3)), (1, (0, (-1), 4)), (16, (0, (-2147483648), 2147483647)), (8, (0, 0, 99)), (8, (0, (-2147483648), 2147483647)), (24, (0, 0, 12))]
theorem hr_r3 : ∀ T : Fin 6, tb_rl hr_RT (3 + (T : Nat)) = some (0, 0, 30) := by decide +kernel
theorem hr_r9 : ∀ T : Fin 6, tb_rl hr_RT (9 + (T : Nat)) = some (0, 0, 20) := by decide +kernel
theorem hr_r15 : ∀ T : Fin 6, tb_rl hr_RT (15 + (T : Nat)) = some (0, -1, (((T : Nat) - 1 : Nat) : Int)) := by decide +kernel
theorem hr_r21 : ∀ T : Fin 8, tb_rl hr_RT (21 + (T : Nat)) = some (0, -2147483648, 2147483647) := by decide +kernel
theorem hr_r29 : ∀ T : Fin 8, tb_rl hr_RT (29 + (T : Nat)) = some (0, -2147483648, 2147483647) := by decide +kernel
theorem hr_r37 : ∀ T : Fin 8, tb_rl hr_RT (37 + (T : Nat)) = some (0, 0, 99) := by decide +kernel
theorem hr_r45 : ∀ T : Fin 8, tb_rl hr_RT (45 + (T : Nat)) = some (0, -2147483648, 2147483647) := by decide +kernel
theorem hr_r53 : ∀ T : Fin 24, tb_rl hr_RT (53 + (T : Nat)) = some (0, 0, 12) := by decide +kernel
theorem hr_p15 {T : Nat} (h : T < 6) : tb_rl hr_RT (15 + T) = some (0, -1, ((T - 1 : Nat) : Int)) := hr_r15 ⟨T, h⟩
set_option maxRecDepth 20000 in
set_option maxHeartbeats 20000000 in
theorem xr_put {l : Launch} {μ : xw_M} {a9 : Nat} {g9 lo9 hi9 : Int} (hG : xw_G xw_GL μ) (ha : a9 < 77) (hg9 : g9 = 0 ∨ g9 = 1) (hrl : tb_rl hr_RT a9 = some (0, lo9, hi9)) (htd : g9 = 1 → lo9 ≤ μ 200 13 ∧ μ 200 13 ≤ hi9) : xw_MetI l vwCl sa_Ts tb_KT0 tc_KL yX12_put cX12_put 3 (some .boolean) 2 120 (fun ad => [.ref (ad 200), .int (Int32.ofInt ((a9 : Nat) : Int)), .int (Int32.ofInt g9)]) μ (fun r μ' => (g9 = 1 ∧ r = 1 ∧ (∀ i : Nat, μ' 203 i = if i = a9 then μ 200 13 else μ 203 i) ∧ xw_F [(203, 0, 76)] μ μ') ∨ (g9 = 0 ∧ r = 0 ∧ μ = μ')) :=
  xw_of (by decide) (fun _ => Nat.le_of_ble_eq_true rfl) (fun p e s m args below meth c D dA A al w0 sz C0 hU hO hKL hr hlk hA => by
    refine xw_iload_n (pc := 0) C0 2 dX12_put_0 rfl rfl ?_
    refine xw_if_eq (pc := 1) (tgt := 14) C0 (by omega) dX12_put_1 rfl (fun b1 => ?_) (fun b1 => ?_)
    · refine xw_iload_n (pc := 14) C0 2 dX12_put_14 rfl rfl ?_
      refine xw_iret C0 hA hr hlk (by rcases hg9 with rfl | rfl <;> rfl) dX12_put_15 ?_
      exact ⟨_, rfl, Or.inr ⟨by omega, by omega, rfl⟩⟩
    · refine xw_aload_n (pc := 4) C0 0 dX12_put_4 rfl rfl ?_
      refine xw_getR (pc := 5) (f := 15) C0 203 kcX12 dX12_put_5 (by decide) tv_1276 (xj_200 hKL) xk_0 rfl ((rfl).trans (xe_200_15 hG)) ?_
      refine xw_iload_n (pc := 8) C0 1 dX12_put_8 rfl rfl ?_
      refine xw_aload_n (pc := 9) C0 0 dX12_put_9 rfl rfl ?_
      refine xw_getI (pc := 10) (f := 13) (z := μ 200 13) C0 kcX12 dX12_put_10 (by decide) tv_1274 (xj_200 hKL) xk_0 rfl (rfl) (fun g2 k2 => ?_)
      refine xw_iast (pc := 13) C0 dX12_put_13 (xj_203 hKL) xk_8 (by omega) (by decide) hrl (by omega) (by omega) ?_
      refine xw_iload_n (pc := 14) C0 2 dX12_put_14 rfl rfl ?_
      refine xw_iret C0 hA hr hlk (by rcases hg9 with rfl | rfl <;> rfl) dX12_put_15 ?_
      have A203 : ∀ i : Nat, (xw_u μ 203 (((a9 : Nat) : Int)).toNat (μ 200 13)) 203 i = if i = a9 then μ 200 13 else μ 203 i := fun i => xw_ui (fun i => rfl)
      exact ⟨_, rfl, Or.inl ⟨by omega, by omega, A203, xw_F.rf.u (ML := [(203, 0, 76)]) List.mem_cons_self ⟨by omega, by omega⟩⟩⟩)
noncomputable def hr_L (t : Nat → Int) (n lim : Nat) (o : Sum hp_E hp_H) (r : Int) (μ : xw_M) : Prop := (∃ q : hp_H, o = hp_bd (hp_end t n lim q.1) (fun _ p5 => .inr (p5, q.2.1, q.2.2)) ∧ r = 1 ∧ hr_T t n lim q.1 μ ∧ hr_H q.2.1 q.2.2 μ ∧ hp_ok q.2.1 q.2.2) ∨ (∃ e : hp_E, o = .inl e ∧ r = 0 ∧ hr_W e μ ∧ hr_Z μ)
theorem hp_upup {rd : Nat → Int} {i : Nat} {x y : Int} : hp_up (hp_up rd i x) i y = hp_up rd i y := by
  funext k
  by_cases e : k = i
  · rw [e, hp_upg, hp_upg]
  · rw [hp_upn e, hp_upn e, hp_upn e]
/-- a NAME laid beyond what is told -/
theorem hr_HN {rd nm : Nat → Int} {μ μ' : xw_M} {s9 : Nat} {w : Int} (h : hr_H rd nm μ) (hs : ∀ k : Nat, (k < 6 → (k : Int) < rd 0 → ¬ k = s9) ∧ (k < 8 → (k : Int) < rd 1 → ¬ 6 + k = s9)) (hu : ∀ i : Nat, μ' 208 i = if i = s9 then w else μ 208 i) (hn : ∀ k : Nat, μ' 203 k = μ 203 k) : hr_H rd nm μ' := by
  obtain ⟨h1, h2, h3⟩ := h
  refine ⟨fun k hk => (hn k).trans (h1 k hk), fun k a b => ?_, fun k a b => ?_⟩
  · rw [hu, if_neg ((hs k).1 a b)]
    exact h2 k a b
  · rw [hu, if_neg ((hs k).2 a b)]
    exact h3 k a b
theorem hr_HT {rd nm : Nat → Int} {v b w h : Int} {T pz : Nat} {m μ' : xw_M} (hH : hr_H (hp_up (hp_up (hp_up rd (3 + T) b) (9 + T) w) (15 + T) h) nm m) (hT : rd 0 = (T : Int)) (h6 : T < 6) (e : m 208 T = v) (hu : ∀ k : Nat, μ' 203 k = if k = 0 then rd 0 + 1 else m 203 k) (hn : ∀ k : Nat, μ' 208 k = m 208 k) : hr_H (hp_T rd nm v b w h pz).2.1 (hp_T rd nm v b w h pz).2.2 μ' := by
  obtain ⟨h1, h2, h3⟩ := hH
  unfold hp_T hr_H
  simp only [hT, Int.toNat_natCast]
  have e0 : hp_up (hp_up (hp_up rd (3 + T) b) (9 + T) w) (15 + T) h 0 = rd 0 := by rw [hp_upn (by omega), hp_upn (by omega), hp_upn (by omega)]
  have e1 : hp_up (hp_up (hp_up rd (3 + T) b) (9 + T) w) (15 + T) h 1 = rd 1 := by rw [hp_upn (by omega), hp_upn (by omega), hp_upn (by omega)]
  refine ⟨fun k hk => ?_, fun k a b9 => ?_, fun k a b9 => ?_⟩
  · rw [hu]
    by_cases z : k = 0
    · rw [if_pos z, z, hp_upg, hT]
    · rw [if_neg z, hp_upn z]
      exact h1 k hk
  · rw [hn]
    rw [hp_upg] at b9
    by_cases z : k = T
    · rw [z, hp_upg]
      exact e
    · rw [hp_upn z]
      exact h2 k a (by rw [e0]; omega)
  · rw [hn, hp_upn (by omega)]
    rw [hp_upn (by omega), e1] at b9
    exact h3 k a (by rw [e1]; exact b9)
theorem hr_HFa {rd nm : Nat → Int} {v h a b c : Int} {T pz : Nat} {m μ' : xw_M} (hH : hr_H (hp_up (hp_up (hp_up (hp_up rd (21 + T) h) (29 + T) a) (37 + T) b) (45 + T) c) nm m) (hT : rd 1 = (T : Int)) (h8 : T < 8) (e : m 208 (6 + T) = v) (hu : ∀ k : Nat, μ' 203 k = if k = 1 then rd 1 + 1 else m 203 k) (hn : ∀ k : Nat, μ' 208 k = m 208 k) : hr_H (hp_F rd nm v h a b c pz).2.1 (hp_F rd nm v h a b c pz).2.2 μ' := by
  obtain ⟨h1, h2, h3⟩ := hH
  unfold hp_F hr_H
  simp only [hT, Int.toNat_natCast]
  have e0 : hp_up (hp_up (hp_up (hp_up rd (21 + T) h) (29 + T) a) (37 + T) b) (45 + T) c 0 = rd 0 := by rw [hp_upn (by omega), hp_upn (by omega), hp_upn (by omega), hp_upn (by omega)]
  have e1 : hp_up (hp_up (hp_up (hp_up rd (21 + T) h) (29 + T) a) (37 + T) b) (45 + T) c 1 = rd 1 := by rw [hp_upn (by omega), hp_upn (by omega), hp_upn (by omega), hp_upn (by omega)]
  refine ⟨fun k hk => ?_, fun k a9 b9 => ?_, fun k a9 b9 => ?_⟩
  · rw [hu]
    by_cases z : k = 1
    · rw [if_pos z, z, hp_upg, hT]
    · rw [if_neg z, hp_upn z]
      exact h1 k hk
  · rw [hn, hp_upn (by omega)]
    rw [hp_upn (by omega), e0] at b9
    exact h2 k a9 (by rw [e0]; exact b9)
  · rw [hn]
    rw [hp_upg] at b9
    by_cases z : k = T
    · rw [z, hp_upg]
      exact e
    · rw [hp_upn (by omega)]
      exact h3 k a9 (by rw [e1]; omega)
theorem hr_HC {rd nm : Nat → Int} {f9 d c : Int} {J pz : Nat} {m μ' : xw_M} (hH : hr_H (hp_up rd (53 + J) c) nm m) (hJ : (53 + 3 * f9 + d).toNat = 53 + J) (hu : ∀ k : Nat, μ' 203 k = if k = 2 then rd 2 + 1 else m 203 k) (hn : ∀ k : Nat, μ' 208 k = m 208 k) : hr_H (hp_C rd nm f9 d c pz).2.1 (hp_C rd nm f9 d c pz).2.2 μ' := by
  obtain ⟨h1, h2, h3⟩ := hH
  unfold hp_C hr_H
  simp only [hJ]
  refine ⟨fun k hk => ?_, fun k a b9 => ?_, fun k a b9 => ?_⟩
  · rw [hu]
    by_cases z : k = 2
    · rw [if_pos z, z, hp_upg]
    · rw [if_neg z, hp_upn z]
      exact h1 k hk
  · rw [hn]
    rw [hp_upn (by omega)] at b9
    exact h2 k a b9
  · rw [hn]
    rw [hp_upn (by omega)] at b9
    exact h3 k a b9
set_option maxRecDepth 20000 in
set_option maxHeartbeats 20000000 in
theorem xr_rtF {l : Launch} {p : Program} {e : Env} {s : State} {m : MethodId} {args : Array Value} {below : List Frame} {meth : Method} {c : Code} {Q : State → Prop} {D : va_G} {dA : Nat → ClassId} {A : Nat → Prop} {al : List (Nat × Nat)} (C0 : sa_C p s m args c D dA A 2 vwCl sa_Ts cX12_readThing yX12_readThing.cls) (hU : sa_U D vwCl dA s) (hO : tb_Ou A s s.heap) (hKL : al.map Prod.snd = tc_KL) {μ : xw_M} {z9 : Int} (hG : xw_G xw_GL μ) (hz : μ 203 0 = z9) (hz6 : 0 ≤ z9 ∧ z9 < 6) (kx : ∀ ν : xw_M, (∀ i : Nat, ν 203 i = if i = 0 then z9 + 1 else μ 203 i) → xw_F [(203, 0, 0)] μ ν → xw_W p l e { frames := 6, cells := 0, slots := 0, locals := 211 } s m args below meth c Q D dA A 2 vwCl tb_KT0 al 0 0 ν 116 [(0, .ref (xw_ad al 200))] []) : xw_W p l e { frames := 6, cells := 0, slots := 0, locals := 211 } s m args below meth c Q D dA A 2 vwCl tb_KT0 al 0 0 μ 106 [(0, .ref (xw_ad al 200))] [] := by
  refine xw_aload_n (pc := 106) C0 0 dX12_readThing_106 rfl rfl ?_
  refine xw_getR (pc := 107) (f := 15) C0 203 kcX12 dX12_readThing_107 (by decide) tv_1276 (xj_200 hKL) xk_0 rfl ((rfl).trans (xe_200_15 hG)) ?_
  refine xw_iconst (pc := 110) C0 dX12_readThing_110 ?_
  refine xw_dup2 (pc := 111) C0 dX12_readThing_111 rfl rfl ?_
  refine xw_iald (pc := 112) (z := z9) C0 dX12_readThing_112 (xj_203 hKL) xk_8 (by omega) (by decide) rfl hz (fun g1 k1 => ?_)
  refine xw_iconst (pc := 113) C0 dX12_readThing_113 ?_
  refine xw_iadd (pc := 114) C0 dX12_readThing_114 ?_
  refine xw_iast (pc := 115) C0 dX12_readThing_115 (xj_203 hKL) xk_8 (by omega) (by decide) rfl (by omega) (by omega) ?_
  refine xw_mu (μ' := (xw_u μ 203 0 (z9 + 1))) rfl ?_
  have A203 : ∀ i : Nat, (xw_u μ 203 0 (z9 + 1)) 203 i = if i = 0 then z9 + 1 else μ 203 i := fun i => xw_ui (fun i => rfl)
  have Fz9 : xw_F [(203, 0, 0)] μ (xw_u μ 203 0 (z9 + 1)) := ((xw_F.rf (ML := [(203, 0, 0)])).u (show (203, 0, 0) ∈ _ by decide) ⟨by decide, by decide⟩)
  generalize (xw_u μ 203 0 (z9 + 1)) = z8 at A203 Fz9 ⊢
  refine xw_pk [0] (L' := [(0, .ref (xw_ad al 200))]) rfl ?_
  exact kx z8 A203 Fz9
