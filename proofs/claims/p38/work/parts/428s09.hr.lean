set_option maxRecDepth 20000 in
set_option maxHeartbeats 20000000 in
theorem xr_rtB {l : Launch} {p : Program} {e : Env} {s : State} {m : MethodId} {args : Array Value} {below : List Frame} {meth : Method} {c : Code} {Q : State → Prop} {D : va_G} {dA : Nat → ClassId} {A : Nat → Prop} {al : List (Nat × Nat)} (C0 : sa_C p s m args c D dA A 2 vwCl sa_Ts cX12_readThing yX12_readThing.cls) (hU : sa_U D vwCl dA s) (hO : tb_Ou A s s.heap) (hKL : al.map Prod.snd = tc_KL) {t rd rd2 nm : Nat → Int} {n lim pz T : Nat} {w9 : Int} {μ : xw_M} (hS : hr_S t n lim μ) (hT : hr_T t n lim pz μ) (hH : hr_H (hp_up rd2 (15 + T) (-1)) nm μ) (hK : hp_ok (hp_up rd2 (15 + T) (-1)) nm) (hT0 : rd 0 = (T : Int)) (hT6 : T < 6) (hr3 : (hp_up rd2 (15 + T) (-1)) 0 = rd 0) (z : μ 203 0 = rd 0) (n9 : μ 208 T = w9) (k0 : ∀ (χ : xw_M) (e9 : hp_E), hp_beh t n lim rd nm pz = .inl e9 → hr_W e9 χ → hr_Z χ → xw_F [(200, 5, 13), (203, 0, 76), (208, 0, 13)] μ χ → xw_W p l e { frames := 6, cells := 0, slots := 0, locals := 211 } s m args below meth c Q D dA A 2 vwCl tb_KT0 al 0 0 χ 104 [(0, .ref (xw_ad al 200))] []) (k1 : ∀ (χ : xw_M) (h9 : Int) (q9 : Nat), hp_beh t n lim rd nm pz = .inr (h9, q9) → (-1 ≤ h9 ∧ h9 < (T : Int)) → hr_S t n lim χ → hr_T t n lim q9 χ → hr_H (hp_up rd2 (15 + T) h9) nm χ → χ 203 0 = rd 0 → χ 208 T = w9 → xw_F [(200, 5, 13), (203, 0, 76), (208, 0, 13)] μ χ → xw_W p l e { frames := 6, cells := 0, slots := 0, locals := 211 } s m args below meth c Q D dA A 2 vwCl tb_KT0 al 0 0 χ 106 [(0, .ref (xw_ad al 200))] []) : xw_W p l e { frames := 6, cells := 0, slots := 0, locals := 211 } s m args below meth c Q D dA A 2 vwCl tb_KT0 al 0 0 μ 74 [(0, .ref (xw_ad al 200)), (1, .int (Int32.ofInt (T : Int)))] [] := by
  have n_μ := hS.2.2.1
  have l_μ := hS.2.2.2.1
  have b_μ := hS.2.2.2.2
  have hp9 := hT.1
  have c2 := hT.2.1
  have c3 := hT.2.2.1
  have hkb := hp_kb t n lim pz
  have hpl := hp_plb (t := t) (lim := lim) hp9
  refine xw_aload_n (pc := 74) C0 0 dX12_readThing_74 rfl rfl ?_
  refine xw_bipush (pc := 75) C0 dX12_readThing_75 (by decide +kernel) ?_
  refine xw_callVI (pc := 77) (μ := μ) (ci := 12) (rest := []) (As := [.int (Int32.ofInt 16)]) C0 hU hO sa_Tg hKL (xr_isWord (l := l) (c9 := 16) hS hT (by omega)) tv_1445 dX12_readThing_77 tv_1442 tv_1444 tq_X12_isWord tv_13 rfl yb_X12_isWord (by decide +kernel) rfl rfl rfl (by decide +kernel) (Nat.le_of_ble_eq_true rfl) (xj_200 hKL) xk_0 (fun r1 m1 w1 => ?_)
  obtain ⟨rfl, w1⟩ := w1
  rw [show hp_pm 16 = 1 from rfl] at w1
  rcases w1 with ⟨w1, rfl⟩ | ⟨w1, rfl⟩
  · refine xw_if_eq (pc := 80) (tgt := 106) C0 (by omega) dX12_readThing_80 rfl (fun b2 => ?_) (fun b2 => ?_)
    · exfalso
      omega
    · refine xw_aload_n (pc := 83) C0 0 dX12_readThing_83 rfl rfl ?_
      refine xw_callVV (pc := 84) (μ := μ) (ci := 12) (rest := []) (As := []) C0 hU hO sa_Tg hKL (xr_go (l := l) (pz := hp_x t n pz) hS (hT.2.2.2.2.2.2 (by omega)) (hp_xb (lim := lim) hp9 (by omega))) tv_1425 dX12_readThing_84 tv_1422 tv_1424 tq_X12_go tv_13 rfl yb_X12_go (by decide +kernel) rfl rfl rfl (by decide +kernel) (Nat.le_of_ble_eq_true rfl) (xj_200 hKL) xk_0 (fun m3 w3 => ?_)
      obtain ⟨hT_m3, F3⟩ := w3
      generalize hq3 : hp_x t n pz = p3 at hT_m3
      have hp9_m3 := hT_m3.1
      have c2_m3 := hT_m3.2.1
      have c3_m3 := hT_m3.2.2.1
      have hkb_m3 := hp_kb t n lim p3
      have hpl_m3 := hp_plb (t := t) (lim := lim) hp9_m3
      have hS_m3 := hr_SF hS F3 (by decide +kernel)
      have n_m3 := hS_m3.2.2.1
      have l_m3 := hS_m3.2.2.2.1
      have b_m3 := hS_m3.2.2.2.2
      have hH_m3 := hr_HF hH F3 (by decide +kernel)
      have hK_m3 := hK
      have z_m3 : m3 203 0 = rd 0 := (F3 203 0 rfl).trans z
      have n9_m3 : m3 208 T = w9 := (F3 208 _ (xw_oj (by decide +kernel) _)).trans n9
      have FF_m3 : xw_F [(200, 5, 13), (203, 0, 76), (208, 0, 13)] μ m3 := ((xw_F.rf (ML := [(200, 5, 13), (203, 0, 76), (208, 0, 13)])).tr F3 (fun j i h => xw_o_sub (by decide +kernel) j i h))
      try clear hp9 c2 c3 hkb hpl
      try clear n_μ l_μ b_μ
      refine xw_aload_n (pc := 87) C0 0 dX12_readThing_87 rfl rfl ?_
      refine xw_bipush (pc := 88) C0 dX12_readThing_88 (by decide +kernel) ?_
      refine xw_iload_n (pc := 90) C0 1 dX12_readThing_90 rfl rfl ?_
      refine xw_iadd (pc := 91) C0 dX12_readThing_91 ?_
      refine xw_nI (congrArg Int32.ofInt (show (15 : Int) + (T : Int) = ((15 + T : Nat) : Int) by omega)) ?_
      refine xw_aload_n (pc := 92) C0 0 dX12_readThing_92 rfl rfl ?_
      refine xw_iconst (pc := 93) C0 dX12_readThing_93 ?_
      refine xw_iload_n (pc := 94) C0 1 dX12_readThing_94 rfl rfl ?_
      refine xw_callVI (pc := 95) (μ := m3) (ci := 12) (rest := [.int (Int32.ofInt ((15 + T : Nat) : Int)), .ref (xw_ad al 200)]) (As := [.int (Int32.ofInt 0), .int (Int32.ofInt (T : Int))]) C0 hU hO sa_Tg hKL (xr_readOne (l := l) (nm := nm) (base := 0) (m9 := T) hS_m3 hT_m3 (fun i hi => by rw [Nat.zero_add]; exact hH_m3.2.1 i (by omega) (by rw [hr3]; omega)) (by omega)) tv_1489 dX12_readThing_95 tv_1486 tv_1488 tq_X12_readOne tv_13 rfl yb_X12_readOne (by decide +kernel) rfl rfl rfl (by decide +kernel) (Nat.le_of_ble_eq_true rfl) (xj_200 hKL) xk_0 (fun r4 m4 w4 => ?_)
      obtain ⟨w4, F4⟩ := w4
      rcases w4 with ⟨v4, p4, eo4, rfl, hT_m4, td4⟩ | ⟨er4, eo4, rfl, W4⟩
      · specialize td4 rfl
        have vb4 := (hp_oneR eo4).1
        have hp9_m4 := hT_m4.1
        have c2_m4 := hT_m4.2.1
        have c3_m4 := hT_m4.2.2.1
        have hkb_m4 := hp_kb t n lim p4
        have hpl_m4 := hp_plb (t := t) (lim := lim) hp9_m4
        have hS_m4 := hr_SF hS_m3 F4 (by decide +kernel)
        have n_m4 := hS_m4.2.2.1
        have l_m4 := hS_m4.2.2.2.1
        have b_m4 := hS_m4.2.2.2.2
        have hH_m4 := hr_HF hH_m3 F4 (by decide +kernel)
        have hK_m4 := hK_m3
        have z_m4 : m4 203 0 = rd 0 := (F4 203 0 rfl).trans z_m3
        have n9_m4 : m4 208 T = w9 := (F4 208 _ (xw_oj (by decide +kernel) _)).trans n9_m3
        have FF_m4 : xw_F [(200, 5, 13), (203, 0, 76), (208, 0, 13)] μ m4 := (FF_m3.tr F4 (fun j i h => xw_o_sub (by decide +kernel) j i h))
        try clear hp9_m3 c2_m3 c3_m3 hkb_m3 hpl_m3
        try clear n_m3 l_m3 b_m3
        refine xw_callVI (pc := 98) (μ := m4) (ci := 12) (rest := []) (As := [.int (Int32.ofInt ((15 + T : Nat) : Int)), .int (Int32.ofInt 1)]) C0 hU hO sa_Tg hKL (xr_put (l := l) (a9 := 15 + T) (g9 := 1) hS_m4.1 (by omega) (by omega) (hr_p15 (T := T) (by omega)) (fun _ => by omega)) tv_1485 dX12_readThing_98 tv_1482 tv_1484 tq_X12_put tv_13 rfl yb_X12_put (by decide +kernel) rfl rfl rfl (by decide +kernel) (Nat.le_of_ble_eq_true rfl) (xj_200 hKL) xk_0 (fun r5 m5 w5 => ?_)
        obtain ⟨-, rfl, A5, F5⟩ := w5.resolve_right (fun q9 => absurd q9.1 (by decide +kernel))
        rw [td4] at A5
        have hS_m5 := hr_SF hS_m4 F5 (by decide +kernel)
        have n_m5 := hS_m5.2.2.1
        have l_m5 := hS_m5.2.2.2.1
        have b_m5 := hS_m5.2.2.2.2
        have hH_m5 := hr_HU hH_m4 (i := 15 + T) (x := v4) (by omega) A5 (fun i => F5 208 i (xw_oj (by decide +kernel) i))
        have hK_m5 : hp_ok (hp_up (hp_up rd2 (15 + T) (-1)) (15 + T) v4) nm := hp_okU hK_m4 (by omega) (by omega) (fun k => ⟨fun a b => by rw [hr3] at b; omega, fun a b => by omega⟩)
        have z_m5 : m5 203 0 = rd 0 := (A5 0).trans ((if_neg (by omega)).trans z_m4)
        have n9_m5 : m5 208 T = w9 := (F5 208 _ (xw_oj (by decide +kernel) _)).trans n9_m4
        have hT_m5 := hr_TF hT_m4 F5 (by decide +kernel)
        have hp9_m5 := hT_m5.1
        have c2_m5 := hT_m5.2.1
        have c3_m5 := hT_m5.2.2.1
        have hkb_m5 := hp_kb t n lim p4
        have hpl_m5 := hp_plb (t := t) (lim := lim) hp9_m5
        have FF_m5 : xw_F [(200, 5, 13), (203, 0, 76), (208, 0, 13)] μ m5 := (FF_m4.tr F5 (fun j i h => xw_o_sub (by decide +kernel) j i h))
        try clear hp9_m4 c2_m4 c3_m4 hkb_m4 hpl_m4
        try clear n_m4 l_m4 b_m4
        refine xw_if_ne (pc := 101) (tgt := 106) C0 (by omega) dX12_readThing_101 rfl (fun b6 => ?_) (fun b6 => ?_)
        · have eT : (rd 0).toNat = T := by omega
          have eb9 : hp_beh t n lim rd nm pz = .inr (v4, p4) := by
            unfold hp_beh
            rw [if_pos ⟨by omega, by omega⟩, hq3, eT, eo4]
          have hH9 : hr_H (hp_up rd2 (15 + T) v4) nm m5 := by
            have q9 := hH_m5
            rw [hp_upup] at q9
            exact q9
          refine xw_pk [0] (L' := [(0, .ref (xw_ad al 200))]) rfl ?_
          exact k1 m5 v4 p4 eb9 ⟨by omega, by omega⟩ hS_m5 hT_m5 hH9 z_m5 n9_m5 FF_m5
        · exfalso
          omega
      · have Z4 := hr_ZF (hr_HZ hK_m3 hH_m3) F4 (by decide +kernel)
        have hS_m4 := hr_SF hS_m3 F4 (by decide +kernel)
        have n_m4 := hS_m4.2.2.1
        have l_m4 := hS_m4.2.2.2.1
        have b_m4 := hS_m4.2.2.2.2
        have FF_m4 : xw_F [(200, 5, 13), (203, 0, 76), (208, 0, 13)] μ m4 := (FF_m3.tr F4 (fun j i h => xw_o_sub (by decide +kernel) j i h))
        try clear hp9_m3 c2_m3 c3_m3 hkb_m3 hpl_m3
        try clear n_m3 l_m3 b_m3
        refine xw_callVI (pc := 98) (μ := m4) (ci := 12) (rest := []) (As := [.int (Int32.ofInt ((15 + T : Nat) : Int)), .int (Int32.ofInt 0)]) C0 hU hO sa_Tg hKL (xr_put (l := l) (a9 := 15 + T) (g9 := 0) hS_m4.1 (by omega) (by omega) (hr_p15 (T := T) (by omega)) (fun q9 => absurd q9 (by decide +kernel))) tv_1485 dX12_readThing_98 tv_1482 tv_1484 tq_X12_put tv_13 rfl yb_X12_put (by decide +kernel) rfl rfl rfl (by decide +kernel) (Nat.le_of_ble_eq_true rfl) (xj_200 hKL) xk_0 (fun r7 m7 w7 => ?_)
        obtain ⟨-, rfl, rfl⟩ := w7.resolve_left (fun q9 => absurd q9.1 (by decide +kernel))
        refine xw_if_ne (pc := 101) (tgt := 106) C0 (by omega) dX12_readThing_101 rfl (fun b8 => ?_) (fun b8 => ?_)
        · exfalso
          omega
        · have eT : (rd 0).toNat = T := by omega
          have eb9 : hp_beh t n lim rd nm pz = .inl er4 := by
            unfold hp_beh
            rw [if_pos ⟨by omega, by omega⟩, hq3, eT, eo4]
          refine xw_pk [0] (L' := [(0, .ref (xw_ad al 200))]) rfl ?_
          exact k0 m4 er4 eb9 W4 Z4 FF_m4
  · refine xw_if_eq (pc := 80) (tgt := 106) C0 (by omega) dX12_readThing_80 rfl (fun b10 => ?_) (fun b10 => ?_)
    · have eb9 : hp_beh t n lim rd nm pz = .inr (-1, pz) := if_neg (by omega)
      refine xw_pk [0] (L' := [(0, .ref (xw_ad al 200))]) rfl ?_
      exact k1 μ (-1) pz eb9 ⟨by omega, by omega⟩ hS hT hH z n9 xw_F.rf
    · exfalso
      omega
set_option maxRecDepth 20000 in
set_option maxHeartbeats 20000000 in
theorem xr_readThing {l : Launch} {t rd nm : Nat → Int} {n lim pz : Nat} {μ : xw_M} (hS : hr_S t n lim μ) (hT : hr_T t n lim pz μ) (hH : hr_H rd nm μ) (hK : hp_ok rd nm) (hk : hp_k t n lim pz = 2) : xw_MetI l vwCl sa_Ts tb_KT0 tc_KL yX12_readThing cX12_readThing 2 (some .boolean) 6 211 (fun ad => [.ref (ad 200)]) μ (fun r μ' => hr_L t n lim (hp_thing t n lim rd nm pz) r μ' ∧ xw_F [(200, 5, 13), (203, 0, 76), (208, 0, 13)] μ μ') :=
  xw_of (by decide +kernel) (fun _ => Nat.le_of_ble_eq_true rfl) (fun p e s m args below meth c D dA A al w0 sz C0 hU hO hKL hr hlk hA => by
    have n_μ := hS.2.2.1
    have l_μ := hS.2.2.2.1
    have b_μ := hS.2.2.2.2
    have hp9 := hT.1
    have c2 := hT.2.1
    have c3 := hT.2.2.1
    have hpl := hp_plb (t := t) (lim := lim) hp9
    have hkb := hp_kb t n lim pz
    have k0 := hK.1
    have k1 := hK.2.1
    have k2 := hK.2.2.1
    have h0 := hH.1 0 (by decide +kernel)
    have h1 := hH.1 1 (by decide +kernel)
    have h2 := hH.1 2 (by decide +kernel)
    have z := h0
    obtain ⟨T, hT0⟩ : ∃ T : Nat, rd 0 = (T : Int) := ⟨(rd 0).toNat, by omega⟩
    refine xw_aload_n (pc := 0) C0 0 dX12_readThing_0 rfl rfl ?_
    refine xw_iconst (pc := 1) C0 dX12_readThing_1 ?_
    refine xw_bipush (pc := 2) C0 dX12_readThing_2 (by decide +kernel) ?_
    refine xw_callVI (pc := 4) (μ := μ) (ci := 12) (rest := []) (As := [.int (Int32.ofInt 0), .int (Int32.ofInt 6)]) C0 hU hO sa_Tg hKL (xr_readFirst0 (l := l) (rd := rd) (nm := nm) hS hT hH hK hk) tv_1459 dX12_readThing_4 tv_1456 tv_1458 tq_X12_readFirst tv_13 rfl yb_X12_readFirst (by decide +kernel) rfl rfl rfl (by decide +kernel) (Nat.le_of_ble_eq_true rfl) (xj_200 hKL) xk_0 (fun r1 m1 w1 => ?_)
    obtain ⟨w1, F1⟩ := w1
    rcases w1 with ⟨w1, rfl, hT_m1⟩ | ⟨w1, rfl, W1⟩
    · generalize hq1 : hp_x t n pz = p1 at hT_m1
      have hp9_m1 := hT_m1.1
      have c2_m1 := hT_m1.2.1
      have c3_m1 := hT_m1.2.2.1
      have hkb_m1 := hp_kb t n lim p1
      have hpl_m1 := hp_plb (t := t) (lim := lim) hp9_m1
      have hS_m1 := hr_SF hS F1 (by decide +kernel)
      have n_m1 := hS_m1.2.2.1
      have l_m1 := hS_m1.2.2.2.1
      have b_m1 := hS_m1.2.2.2.2
      have hH_m1 := hr_HF hH F1 (by decide +kernel)
      have hK_m1 := hK
      have z_m1 : m1 203 0 = rd 0 := (F1 203 0 rfl).trans z
      have FF_m1 : xw_F [(200, 5, 13), (203, 0, 76), (208, 0, 13)] μ m1 := ((xw_F.rf (ML := [(200, 5, 13), (203, 0, 76), (208, 0, 13)])).tr F1 (fun j i h => xw_o_sub (by decide +kernel) j i h))
      try clear hp9 c2 c3 hkb hpl
      try clear n_μ l_μ b_μ
      refine xw_if_ne (pc := 7) (tgt := 12) C0 (by omega) dX12_readThing_7 rfl (fun b2 => ?_) (fun b2 => ?_)
      · refine xw_aload_n (pc := 12) C0 0 dX12_readThing_12 rfl rfl ?_
        refine xw_getR (pc := 13) (f := 15) C0 203 kcX12 dX12_readThing_13 (by decide +kernel) tv_1276 (xj_200 hKL) xk_0 rfl (((F1 200 15 rfl).trans rfl).trans (xe_200_15 hS.1)) ?_
        refine xw_iconst (pc := 16) C0 dX12_readThing_16 ?_
        refine xw_iald (pc := 17) (z := rd 0) C0 dX12_readThing_17 (xj_203 hKL) xk_8 (by omega) (by decide +kernel) rfl z_m1 (fun g3 k3 => ?_)
        refine xw_nI (congrArg Int32.ofInt hT0) ?_
        refine xw_istore_n (pc := 18) (L' := [(1, .int (Int32.ofInt (T : Int))), (0, .ref (xw_ad al 200))]) C0 dX12_readThing_18 rfl (by decide +kernel) rfl ?_
        refine xw_aload_n (pc := 19) C0 1 dX12_readThing_19 rfl rfl ?_
        refine xw_iload_n (pc := 20) C0 0 dX12_readThing_20 rfl rfl ?_
        refine xw_callVI (pc := 21) (μ := m1) (ci := 12) (rest := []) (As := [.int (Int32.ofInt (T : Int))]) C0 hU hO sa_Tg hKL (xr_readNew (l := l) (rd := rd) (nm := nm) (s9 := T) hS_m1 hT_m1 hH_m1 hK_m1 (by omega)) tv_1467 dX12_readThing_21 tv_1464 tv_1466 tq_X12_readNew tv_13 rfl yb_X12_readNew (by decide +kernel) rfl rfl rfl (by decide +kernel) (Nat.le_of_ble_eq_true rfl) (xj_200 hKL) xk_0 (fun r4 m4 w4 => ?_)
        obtain ⟨w4, F4⟩ := w4
        rcases w4 with ⟨eo4, rfl, hT_m4, A4⟩ | ⟨er4, eo4, rfl, W4, A4⟩
        · obtain ⟨hv4, -, hk4⟩ := hp_newR eo4
          generalize hq4 : hp_x t n p1 = p4 at hT_m4 eo4
          have hp9_m4 := hT_m4.1
          have c2_m4 := hT_m4.2.1
          have c3_m4 := hT_m4.2.2.1
          have hkb_m4 := hp_kb t n lim p4
          have hpl_m4 := hp_plb (t := t) (lim := lim) hp9_m4
          have hS_m4 := hr_SF hS_m1 F4 (by decide +kernel)
          have n_m4 := hS_m4.2.2.1
          have l_m4 := hS_m4.2.2.2.1
          have b_m4 := hS_m4.2.2.2.2
          have hH_m4 := hr_HN hH_m1 (s9 := T) (fun k => ⟨fun a b => by omega, fun a b => by omega⟩) A4 (fun i => F4 203 i (xw_oj (by decide +kernel) i))
          have hK_m4 := hK_m1
          have z_m4 : m4 203 0 = rd 0 := (F4 203 0 rfl).trans z_m1
          have n9_m4 : m4 208 T = hp_w t n p1 := (A4 _).trans (if_pos rfl)
          have FF_m4 : xw_F [(200, 5, 13), (203, 0, 76), (208, 0, 13)] μ m4 := (FF_m1.tr F4 (fun j i h => xw_o_sub (by decide +kernel) j i h))
          try clear hp9_m1 c2_m1 c3_m1 hkb_m1 hpl_m1
          try clear n_m1 l_m1 b_m1
          refine xw_if_eq (pc := 24) (tgt := 62) C0 (by omega) dX12_readThing_24 rfl (fun b5 => ?_) (fun b5 => ?_)
          · exfalso
            omega
          · refine xw_aload_n (pc := 27) C0 1 dX12_readThing_27 rfl rfl ?_
            refine xw_iconst (pc := 28) C0 dX12_readThing_28 ?_
            refine xw_iload_n (pc := 29) C0 0 dX12_readThing_29 rfl rfl ?_
            refine xw_iadd (pc := 30) C0 dX12_readThing_30 ?_
            refine xw_nI (congrArg Int32.ofInt (show (3 : Int) + (T : Int) = ((3 + T : Nat) : Int) by omega)) ?_
            refine xw_aload_n (pc := 31) C0 1 dX12_readThing_31 rfl rfl ?_
            refine xw_iconst (pc := 32) C0 dX12_readThing_32 ?_
            refine xw_bipush (pc := 33) C0 dX12_readThing_33 (by decide +kernel) ?_
            refine xw_callVI (pc := 35) (μ := m4) (ci := 12) (rest := [.int (Int32.ofInt ((3 + T : Nat) : Int)), .ref (xw_ad al 200)]) (As := [.int (Int32.ofInt 1), .int (Int32.ofInt 30)]) C0 hU hO sa_Tg hKL (xr_readNumber (l := l) (a := 1) (b := 30) hS_m4 hT_m4 (by omega) (by omega)) tv_1478 dX12_readThing_35 tv_1475 tv_1477 tq_X12_readNumber tv_13 rfl yb_X12_readNumber (by decide +kernel) rfl rfl rfl (by decide +kernel) (Nat.le_of_ble_eq_true rfl) (xj_200 hKL) xk_0 (fun r6 m6 w6 => ?_)
            obtain ⟨w6, F6⟩ := w6
            rcases w6 with ⟨v6, p6, eo6, rfl, hT_m6, td6⟩ | ⟨er6, eo6, rfl, W6⟩
            · specialize td6 rfl
              have vb6 := (hp_numR eo6).1
              have hp9_m6 := hT_m6.1
              have c2_m6 := hT_m6.2.1
              have c3_m6 := hT_m6.2.2.1
              have hkb_m6 := hp_kb t n lim p6
              have hpl_m6 := hp_plb (t := t) (lim := lim) hp9_m6
              have hS_m6 := hr_SF hS_m4 F6 (by decide +kernel)
              have n_m6 := hS_m6.2.2.1
              have l_m6 := hS_m6.2.2.2.1
              have b_m6 := hS_m6.2.2.2.2
              have hH_m6 := hr_HF hH_m4 F6 (by decide +kernel)
              have hK_m6 := hK_m4
              have z_m6 : m6 203 0 = rd 0 := (F6 203 0 rfl).trans z_m4
              have n9_m6 : m6 208 T = hp_w t n p1 := (F6 208 _ (xw_oj (by decide +kernel) _)).trans n9_m4
              have FF_m6 : xw_F [(200, 5, 13), (203, 0, 76), (208, 0, 13)] μ m6 := (FF_m4.tr F6 (fun j i h => xw_o_sub (by decide +kernel) j i h))
              try clear hp9_m4 c2_m4 c3_m4 hkb_m4 hpl_m4
              try clear n_m4 l_m4 b_m4
              refine xw_callVI (pc := 38) (μ := m6) (ci := 12) (rest := []) (As := [.int (Int32.ofInt ((3 + T : Nat) : Int)), .int (Int32.ofInt 1)]) C0 hU hO sa_Tg hKL (xr_put (l := l) (a9 := 3 + T) (g9 := 1) hS_m6.1 (by omega) (by omega) (hr_r3 ⟨T, by omega⟩) (fun _ => by omega)) tv_1485 dX12_readThing_38 tv_1482 tv_1484 tq_X12_put tv_13 rfl yb_X12_put (by decide +kernel) rfl rfl rfl (by decide +kernel) (Nat.le_of_ble_eq_true rfl) (xj_200 hKL) xk_0 (fun r7 m7 w7 => ?_)
              obtain ⟨-, rfl, A7, F7⟩ := w7.resolve_right (fun q9 => absurd q9.1 (by decide +kernel))
              rw [td6] at A7
              have hS_m7 := hr_SF hS_m6 F7 (by decide +kernel)
              have n_m7 := hS_m7.2.2.1
              have l_m7 := hS_m7.2.2.2.1
              have b_m7 := hS_m7.2.2.2.2
              have hH_m7 := hr_HU hH_m6 (i := 3 + T) (x := v6) (by omega) A7 (fun i => F7 208 i (xw_oj (by decide +kernel) i))
              have hK_m7 : hp_ok (hp_up rd (3 + T) v6) nm := hp_okU hK_m6 (by omega) (by omega) (fun k => ⟨fun a b => by omega, fun a b => by omega⟩)
              have z_m7 : m7 203 0 = rd 0 := (A7 0).trans ((if_neg (by omega)).trans z_m6)
              have n9_m7 : m7 208 T = hp_w t n p1 := (F7 208 _ (xw_oj (by decide +kernel) _)).trans n9_m6
              have hT_m7 := hr_TF hT_m6 F7 (by decide +kernel)
              have hp9_m7 := hT_m7.1
              have c2_m7 := hT_m7.2.1
              have c3_m7 := hT_m7.2.2.1
              have hkb_m7 := hp_kb t n lim p6
              have hpl_m7 := hp_plb (t := t) (lim := lim) hp9_m7
              have FF_m7 : xw_F [(200, 5, 13), (203, 0, 76), (208, 0, 13)] μ m7 := (FF_m6.tr F7 (fun j i h => xw_o_sub (by decide +kernel) j i h))
              try clear hp9_m6 c2_m6 c3_m6 hkb_m6 hpl_m6
              try clear n_m6 l_m6 b_m6
              refine xw_if_eq (pc := 41) (tgt := 62) C0 (by omega) dX12_readThing_41 rfl (fun b8 => ?_) (fun b8 => ?_)
              · exfalso
                omega
              · refine xw_aload_n (pc := 44) C0 1 dX12_readThing_44 rfl rfl ?_
                refine xw_bipush (pc := 45) C0 dX12_readThing_45 (by decide +kernel) ?_
                refine xw_iload_n (pc := 47) C0 0 dX12_readThing_47 rfl rfl ?_
                refine xw_iadd (pc := 48) C0 dX12_readThing_48 ?_
                refine xw_nI (congrArg Int32.ofInt (show (9 : Int) + (T : Int) = ((9 + T : Nat) : Int) by omega)) ?_
                refine xw_aload_n (pc := 49) C0 1 dX12_readThing_49 rfl rfl ?_
                refine xw_iconst (pc := 50) C0 dX12_readThing_50 ?_
                refine xw_bipush (pc := 51) C0 dX12_readThing_51 (by decide +kernel) ?_
                refine xw_callVI (pc := 53) (μ := m7) (ci := 12) (rest := [.int (Int32.ofInt ((9 + T : Nat) : Int)), .ref (xw_ad al 200)]) (As := [.int (Int32.ofInt 0), .int (Int32.ofInt 20)]) C0 hU hO sa_Tg hKL (xr_readNumber (l := l) (a := 0) (b := 20) hS_m7 hT_m7 (by omega) (by omega)) tv_1478 dX12_readThing_53 tv_1475 tv_1477 tq_X12_readNumber tv_13 rfl yb_X12_readNumber (by decide +kernel) rfl rfl rfl (by decide +kernel) (Nat.le_of_ble_eq_true rfl) (xj_200 hKL) xk_0 (fun r10 m10 w10 => ?_)
                obtain ⟨w10, F10⟩ := w10
                rcases w10 with ⟨v10, p10, eo10, rfl, hT_m10, td10⟩ | ⟨er10, eo10, rfl, W10⟩
                · specialize td10 rfl
                  have vb10 := (hp_numR eo10).1
                  have hp9_m10 := hT_m10.1
                  have c2_m10 := hT_m10.2.1
                  have c3_m10 := hT_m10.2.2.1
                  have hkb_m10 := hp_kb t n lim p10
                  have hpl_m10 := hp_plb (t := t) (lim := lim) hp9_m10
                  have hS_m10 := hr_SF hS_m7 F10 (by decide +kernel)
                  have n_m10 := hS_m10.2.2.1
                  have l_m10 := hS_m10.2.2.2.1
                  have b_m10 := hS_m10.2.2.2.2
                  have hH_m10 := hr_HF hH_m7 F10 (by decide +kernel)
                  have hK_m10 := hK_m7
                  have z_m10 : m10 203 0 = rd 0 := (F10 203 0 rfl).trans z_m7
                  have n9_m10 : m10 208 T = hp_w t n p1 := (F10 208 _ (xw_oj (by decide +kernel) _)).trans n9_m7
                  have FF_m10 : xw_F [(200, 5, 13), (203, 0, 76), (208, 0, 13)] μ m10 := (FF_m7.tr F10 (fun j i h => xw_o_sub (by decide +kernel) j i h))
                  try clear hp9_m7 c2_m7 c3_m7 hkb_m7 hpl_m7
                  try clear n_m7 l_m7 b_m7
                  refine xw_callVI (pc := 56) (μ := m10) (ci := 12) (rest := []) (As := [.int (Int32.ofInt ((9 + T : Nat) : Int)), .int (Int32.ofInt 1)]) C0 hU hO sa_Tg hKL (xr_put (l := l) (a9 := 9 + T) (g9 := 1) hS_m10.1 (by omega) (by omega) (hr_r9 ⟨T, by omega⟩) (fun _ => by omega)) tv_1485 dX12_readThing_56 tv_1482 tv_1484 tq_X12_put tv_13 rfl yb_X12_put (by decide +kernel) rfl rfl rfl (by decide +kernel) (Nat.le_of_ble_eq_true rfl) (xj_200 hKL) xk_0 (fun r11 m11 w11 => ?_)
                  obtain ⟨-, rfl, A11, F11⟩ := w11.resolve_right (fun q9 => absurd q9.1 (by decide +kernel))
                  rw [td10] at A11
                  have hS_m11 := hr_SF hS_m10 F11 (by decide +kernel)
                  have n_m11 := hS_m11.2.2.1
                  have l_m11 := hS_m11.2.2.2.1
                  have b_m11 := hS_m11.2.2.2.2
                  have hH_m11 := hr_HU hH_m10 (i := 9 + T) (x := v10) (by omega) A11 (fun i => F11 208 i (xw_oj (by decide +kernel) i))
                  have hK_m11 : hp_ok (hp_up (hp_up rd (3 + T) v6) (9 + T) v10) nm := hp_okU hK_m10 (by omega) (by omega) (fun k => ⟨fun a b => by rw [show (hp_up rd (3 + T) v6) 0 = rd 0 from by rw [hp_upn (by omega)]] at b; omega, fun a b => by omega⟩)
                  have z_m11 : m11 203 0 = rd 0 := (A11 0).trans ((if_neg (by omega)).trans z_m10)
                  have n9_m11 : m11 208 T = hp_w t n p1 := (F11 208 _ (xw_oj (by decide +kernel) _)).trans n9_m10
                  have hT_m11 := hr_TF hT_m10 F11 (by decide +kernel)
                  have hp9_m11 := hT_m11.1
                  have c2_m11 := hT_m11.2.1
                  have c3_m11 := hT_m11.2.2.1
                  have hkb_m11 := hp_kb t n lim p10
                  have hpl_m11 := hp_plb (t := t) (lim := lim) hp9_m11
                  have FF_m11 : xw_F [(200, 5, 13), (203, 0, 76), (208, 0, 13)] μ m11 := (FF_m10.tr F11 (fun j i h => xw_o_sub (by decide +kernel) j i h))
                  try clear hp9_m10 c2_m10 c3_m10 hkb_m10 hpl_m10
                  try clear n_m10 l_m10 b_m10
                  refine xw_if_ne (pc := 59) (tgt := 64) C0 (by omega) dX12_readThing_59 rfl (fun b12 => ?_) (fun b12 => ?_)
                  · refine xw_aload_n (pc := 64) C0 1 dX12_readThing_64 rfl rfl ?_
                    refine xw_getR (pc := 65) (f := 15) C0 203 kcX12 dX12_readThing_65 (by decide +kernel) tv_1276 (xj_200 hKL) xk_0 rfl (((F11 200 15 rfl).trans ((F10 200 15 rfl).trans ((F7 200 15 rfl).trans ((F6 200 15 rfl).trans ((F4 200 15 rfl).trans ((F1 200 15 rfl).trans rfl)))))).trans (xe_200_15 hS.1)) ?_
                    refine xw_bipush (pc := 68) C0 dX12_readThing_68 (by decide +kernel) ?_
                    refine xw_iload_n (pc := 70) C0 0 dX12_readThing_70 rfl rfl ?_
                    refine xw_iadd (pc := 71) C0 dX12_readThing_71 ?_
                    refine xw_nI (congrArg Int32.ofInt (show (15 : Int) + (T : Int) = ((15 + T : Nat) : Int) by omega)) ?_
                    refine xw_iconst (pc := 72) C0 dX12_readThing_72 ?_
                    refine xw_iast (pc := 73) C0 dX12_readThing_73 (xj_203 hKL) xk_8 (by omega) (by decide +kernel) (hr_p15 (T := T) (by omega)) (by omega) (by omega) ?_
                    have A203 : ∀ i : Nat, (xw_u m11 203 (((15 + T : Nat) : Int)).toNat (-1)) 203 i = if i = 15 + T then (-1) else m11 203 i := fun i => xw_ui (fun i => rfl)
                    have Ft1 : xw_F [(203, 0, 76)] m11 (xw_u m11 203 (((15 + T : Nat) : Int)).toNat (-1)) := ((xw_F.rf (ML := [(203, 0, 76)])).u (show (203, 0, 76) ∈ _ by decide) ⟨by omega, by omega⟩)
                    generalize (xw_u m11 203 (((15 + T : Nat) : Int)).toNat (-1)) = t1 at A203 Ft1  ⊢
                    have hS_t1 := hr_SF hS_m11 Ft1 (by decide +kernel)
                    have n_t1 := hS_t1.2.2.1
                    have l_t1 := hS_t1.2.2.2.1
                    have b_t1 := hS_t1.2.2.2.2
                    have hH_t1 := hr_HU hH_m11 (i := 15 + T) (x := -1) (by omega) A203 (fun i => Ft1 208 i (xw_oj (by decide +kernel) i))
                    have hK_t1 : hp_ok (hp_up (hp_up (hp_up rd (3 + T) v6) (9 + T) v10) (15 + T) (-1)) nm := hp_okU hK_m11 (by omega) (by omega) (fun k => ⟨fun a b => by rw [show (hp_up (hp_up rd (3 + T) v6) (9 + T) v10) 0 = rd 0 from by rw [hp_upn (by omega), hp_upn (by omega)]] at b; omega, fun a b => by omega⟩)
                    have z_t1 : t1 203 0 = rd 0 := (A203 0).trans ((if_neg (by omega)).trans z_m11)
                    have n9_t1 : t1 208 T = hp_w t n p1 := (Ft1 208 _ (xw_oj (by decide +kernel) _)).trans n9_m11
                    have hT_t1 := hr_TF hT_m11 Ft1 (by decide +kernel)
                    have hp9_t1 := hT_t1.1
                    have c2_t1 := hT_t1.2.1
                    have c3_t1 := hT_t1.2.2.1
                    have hkb_t1 := hp_kb t n lim p10
                    have hpl_t1 := hp_plb (t := t) (lim := lim) hp9_t1
                    have hr3 : (hp_up (hp_up (hp_up rd (3 + T) v6) (9 + T) v10) (15 + T) (-1)) 0 = rd 0 := by rw [hp_upn (by omega), hp_upn (by omega), hp_upn (by omega)]
                    have FF9 : xw_F [(200, 5, 13), (203, 0, 76), (208, 0, 13)] μ t1 := (FF_m11.tr Ft1 (fun j i h => xw_o_sub (by decide +kernel) j i h))
                    refine xw_pk [1, 0] (L' := [(0, .ref (xw_ad al 200)), (1, .int (Int32.ofInt (T : Int)))]) rfl ?_
                    refine xr_rtB (rd := rd) (rd2 := (hp_up (hp_up rd (3 + T) v6) (9 + T) v10)) (nm := nm) (pz := p10) (T := T) (w9 := hp_w t n p1) (μ := t1) C0 hU hO hKL hS_t1 hT_t1 hH_t1 hK_t1 hT0 (by omega) hr3 z_t1 n9_t1 (fun χ e9 eb9 W9 Z9 F9 => ?_) (fun χ h9 q9 eb9 hb9 hS9 hT9 hH9 z9 n9 F9 => ?_)
                    · refine xw_iconst (pc := 104) C0 dX12_readThing_104 ?_
                      refine xw_iret C0 hA hr hlk rfl dX12_readThing_105 ?_
                      have eo : hp_thing t n lim rd nm pz = .inl e9 := by
                        unfold hp_thing
                        rw [if_neg (by omega), hq1, eo4, hp_bdr, eo6, hp_bdr, eo10, hp_bdr, eb9, hp_bdl]
                      exact ⟨_, rfl, Or.inr ⟨_, eo, rfl, W9, Z9⟩, (FF9.tr F9 (fun j i h => h))⟩
                    · refine xr_rtF (μ := χ) (z9 := rd 0) C0 hU hO hKL hS9.1 z9 ⟨by omega, by omega⟩ (fun ξ A203 F8 => ?_)
                      refine xw_iconst (pc := 116) C0 dX12_readThing_116 ?_
                      refine xw_iret C0 hA hr hlk rfl dX12_readThing_117 ?_
                      have eo : hp_thing t n lim rd nm pz = hp_bd (hp_end t n lim q9) (fun _ p5 => .inr (p5, (hp_T rd nm (hp_w t n p1) v6 v10 h9 q9).2.1, (hp_T rd nm (hp_w t n p1) v6 v10 h9 q9).2.2)) := by
                        unfold hp_thing
                        rw [if_neg (by omega), hq1, eo4, hp_bdr, eo6, hp_bdr, eo10, hp_bdr, eb9, hp_bdr]
                        rfl
                      refine ⟨_, rfl, Or.inl ⟨hp_T rd nm (hp_w t n p1) v6 v10 h9 q9, eo, rfl, hr_TF hT9 F8 (by decide +kernel), hr_HT hH9 hT0 (by omega) n9 A203 (fun i => F8 208 i (xw_oj (by decide +kernel) i)), hp_okT hK (by omega) (by omega) (by omega) (by omega) (by omega)⟩, ((FF9.tr F9 (fun j i h => h)).tr F8 (fun j i h => xw_o_sub (by decide +kernel) j i h))⟩
                  · exfalso
                    omega
                · have Z10 := hr_ZF (hr_HZ hK_m7 hH_m7) F10 (by decide +kernel)
                  have hS_m10 := hr_SF hS_m7 F10 (by decide +kernel)
                  have n_m10 := hS_m10.2.2.1
                  have l_m10 := hS_m10.2.2.2.1
                  have b_m10 := hS_m10.2.2.2.2
                  have FF_m10 : xw_F [(200, 5, 13), (203, 0, 76), (208, 0, 13)] μ m10 := (FF_m7.tr F10 (fun j i h => xw_o_sub (by decide +kernel) j i h))
                  try clear hp9_m7 c2_m7 c3_m7 hkb_m7 hpl_m7
                  try clear n_m7 l_m7 b_m7
                  refine xw_callVI (pc := 56) (μ := m10) (ci := 12) (rest := []) (As := [.int (Int32.ofInt ((9 + T : Nat) : Int)), .int (Int32.ofInt 0)]) C0 hU hO sa_Tg hKL (xr_put (l := l) (a9 := 9 + T) (g9 := 0) hS_m10.1 (by omega) (by omega) (hr_r9 ⟨T, by omega⟩) (fun q9 => absurd q9 (by decide +kernel))) tv_1485 dX12_readThing_56 tv_1482 tv_1484 tq_X12_put tv_13 rfl yb_X12_put (by decide +kernel) rfl rfl rfl (by decide +kernel) (Nat.le_of_ble_eq_true rfl) (xj_200 hKL) xk_0 (fun r13 m13 w13 => ?_)
                  obtain ⟨-, rfl, rfl⟩ := w13.resolve_left (fun q9 => absurd q9.1 (by decide +kernel))
                  refine xw_if_ne (pc := 59) (tgt := 64) C0 (by omega) dX12_readThing_59 rfl (fun b14 => ?_) (fun b14 => ?_)
                  · exfalso
                    omega
                  · refine xw_iconst (pc := 62) C0 dX12_readThing_62 ?_
                    refine xw_iret C0 hA hr hlk rfl dX12_readThing_63 ?_
                    have eo : hp_thing t n lim rd nm pz = .inl er10 := by
                      unfold hp_thing
                      rw [if_neg (by omega), hq1, eo4, hp_bdr, eo6, hp_bdr, eo10, hp_bdl]
                    exact ⟨_, rfl, Or.inr ⟨_, eo, rfl, W10, Z10⟩, FF_m10⟩
            · have Z6 := hr_ZF (hr_HZ hK_m4 hH_m4) F6 (by decide +kernel)
              have hS_m6 := hr_SF hS_m4 F6 (by decide +kernel)
              have n_m6 := hS_m6.2.2.1
              have l_m6 := hS_m6.2.2.2.1
              have b_m6 := hS_m6.2.2.2.2
              have FF_m6 : xw_F [(200, 5, 13), (203, 0, 76), (208, 0, 13)] μ m6 := (FF_m4.tr F6 (fun j i h => xw_o_sub (by decide +kernel) j i h))
              try clear hp9_m4 c2_m4 c3_m4 hkb_m4 hpl_m4
              try clear n_m4 l_m4 b_m4
              refine xw_callVI (pc := 38) (μ := m6) (ci := 12) (rest := []) (As := [.int (Int32.ofInt ((3 + T : Nat) : Int)), .int (Int32.ofInt 0)]) C0 hU hO sa_Tg hKL (xr_put (l := l) (a9 := 3 + T) (g9 := 0) hS_m6.1 (by omega) (by omega) (hr_r3 ⟨T, by omega⟩) (fun q9 => absurd q9 (by decide +kernel))) tv_1485 dX12_readThing_38 tv_1482 tv_1484 tq_X12_put tv_13 rfl yb_X12_put (by decide +kernel) rfl rfl rfl (by decide +kernel) (Nat.le_of_ble_eq_true rfl) (xj_200 hKL) xk_0 (fun r15 m15 w15 => ?_)
              obtain ⟨-, rfl, rfl⟩ := w15.resolve_left (fun q9 => absurd q9.1 (by decide +kernel))
              refine xw_if_eq (pc := 41) (tgt := 62) C0 (by omega) dX12_readThing_41 rfl (fun b16 => ?_) (fun b16 => ?_)
              · refine xw_iconst (pc := 62) C0 dX12_readThing_62 ?_
                refine xw_iret C0 hA hr hlk rfl dX12_readThing_63 ?_
                have eo : hp_thing t n lim rd nm pz = .inl er6 := by
                  unfold hp_thing
                  rw [if_neg (by omega), hq1, eo4, hp_bdr, eo6, hp_bdl]
                exact ⟨_, rfl, Or.inr ⟨_, eo, rfl, W6, Z6⟩, FF_m6⟩
              · exfalso
                omega
        · have Z4 := hr_ZF (hr_HZ hK_m1 hH_m1) F4 (by decide +kernel)
          have FF_m4 : xw_F [(200, 5, 13), (203, 0, 76), (208, 0, 13)] μ m4 := (FF_m1.tr F4 (fun j i h => xw_o_sub (by decide +kernel) j i h))
          try clear hp9_m1 c2_m1 c3_m1 hkb_m1 hpl_m1
          try clear n_m1 l_m1 b_m1
          refine xw_if_eq (pc := 24) (tgt := 62) C0 (by omega) dX12_readThing_24 rfl (fun b17 => ?_) (fun b17 => ?_)
          · refine xw_iconst (pc := 62) C0 dX12_readThing_62 ?_
            refine xw_iret C0 hA hr hlk rfl dX12_readThing_63 ?_
            have eo : hp_thing t n lim rd nm pz = .inl er4 := by
              unfold hp_thing
              rw [if_neg (by omega), hq1, eo4, hp_bdl]
            exact ⟨_, rfl, Or.inr ⟨_, eo, rfl, W4, Z4⟩, FF_m4⟩
          · exfalso
            omega
      · exfalso
        omega
    · have FF_m1 : xw_F [(200, 5, 13), (203, 0, 76), (208, 0, 13)] μ m1 := ((xw_F.rf (ML := [(200, 5, 13), (203, 0, 76), (208, 0, 13)])).tr F1 (fun j i h => xw_o_sub (by decide +kernel) j i h))
      try clear hp9 c2 c3 hkb hpl
      try clear n_μ l_μ b_μ
      refine xw_if_ne (pc := 7) (tgt := 12) C0 (by omega) dX12_readThing_7 rfl (fun b18 => ?_) (fun b18 => ?_)
      · exfalso
        omega
      · refine xw_iconst (pc := 10) C0 dX12_readThing_10 ?_
        refine xw_iret C0 hA hr hlk rfl dX12_readThing_11 ?_
        have eo : hp_thing t n lim rd nm pz = .inl (hp_bad t n lim 4 pz) := if_pos (by omega)
        exact ⟨_, rfl, Or.inr ⟨_, eo, rfl, W1, hr_ZF (hr_HZ hK hH) F1 (by decide +kernel)⟩, FF_m1⟩)
