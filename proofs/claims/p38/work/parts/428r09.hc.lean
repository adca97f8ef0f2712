set_option maxRecDepth 20000 in
set_option maxHeartbeats 20000000 in
theorem xh_rhL {l : Launch} {p : Program} {e : Env} {s : State} {m : MethodId} {args : Array Value} {below : List Frame} {meth : Method} {c : Code} {Q : State → Prop} {D : va_G} {dA : Nat → ClassId} {A : Nat → Prop} {al : List (Nat × Nat)} (C0 : sa_C p s m args c D dA A 3 vwCl sa_Ts cX3_readHouse yX3_readHouse.cls) (hU : sa_U D vwCl dA s) (hO : tb_Ou A s s.heap) (hKL : al.map Prod.snd = tc_KL) {t : Nat → Int} {n lim : Nat} {res : Sum hp_E (Int × (Nat → Int) × (Nat → Int))} {μ : xw_M} (kx : ∀ (ν : xw_M) (rd nm : Nat → Int), hc_S t n lim ν → ν 104 8 = 0 → hc_H rd nm ν → hp_ok rd nm → ν 103 2 = rd 0 + rd 1 + rd 2 → res = .inr (rd 0 + rd 1 + rd 2, rd, nm) → xw_F [(103, 2, 2), (104, 0, 9), (107, 13, 15), (108, 0, 5), (109, 0, 5), (110, 0, 5), (111, 0, 5), (112, 0, 5), (113, 0, 5), (114, 0, 5), (115, 0, 7), (116, 0, 7), (117, 0, 7), (118, 0, 7), (119, 0, 7), (120, 0, 23)] μ ν → xw_W p l e { frames := 8, cells := 0, slots := 0, locals := 256 } s m args below meth c Q D dA A 3 vwCl tb_KT0 al 0 0 ν 66 [(0, .ref (xw_ad al 103))] []) (kw : ∀ (ν : xw_M) (e9 : hp_E), hc_W e9 ν → res = .inl e9 → xw_F [(103, 2, 2), (104, 0, 9), (107, 13, 15), (108, 0, 5), (109, 0, 5), (110, 0, 5), (111, 0, 5), (112, 0, 5), (113, 0, 5), (114, 0, 5), (115, 0, 7), (116, 0, 7), (117, 0, 7), (118, 0, 7), (119, 0, 7), (120, 0, 23)] μ ν → xw_W p l e { frames := 8, cells := 0, slots := 0, locals := 256 } s m args below meth c Q D dA A 3 vwCl tb_KT0 al 0 0 ν 51 [(0, .ref (xw_ad al 103))] []) : ∀ (fu9 : Nat) (k : Nat) (ν : xw_M) (rd nm : Nat → Int) (p9 : Nat), (k : Int) < (fu9 : Int) → rd 0 + rd 1 + rd 2 + (k : Int) = 32 → hc_S t n lim ν → hc_T t n lim p9 ν → ν 104 8 = 0 → hc_H rd nm ν → hp_ok rd nm → ν 103 2 = rd 0 + rd 1 + rd 2 → hp_all t n lim k (rd 0 + rd 1 + rd 2) rd nm p9 = res → xw_F [(103, 2, 2), (104, 0, 9), (107, 13, 15), (108, 0, 5), (109, 0, 5), (110, 0, 5), (111, 0, 5), (112, 0, 5), (113, 0, 5), (114, 0, 5), (115, 0, 7), (116, 0, 7), (117, 0, 7), (118, 0, 7), (119, 0, 7), (120, 0, 23)] μ ν → xw_W p l e { frames := 8, cells := 0, slots := 0, locals := 256 } s m args below meth c Q D dA A 3 vwCl tb_KT0 al 0 0 ν 26 [(2, .int (Int32.ofInt 31)), (0, .ref (xw_ad al 103))] [] := by
  intro fu9
  induction fu9 with
  | zero => intro k ν rd nm p9 hm hk0 hS_ν hT_ν hw_ν hH_ν hK hln hres hF; exfalso; omega
  | succ fu9 ih =>
    intro k ν rd nm p9 hm hk0 hS_ν hT_ν hw_ν hH_ν hK hln hres hF
    have n_ν := hS_ν.2.2.1
    have l_ν := hS_ν.2.2.2.2.1
    have b_ν := hS_ν.2.2.2.2.2
    obtain ⟨hp9_ν, c2_ν, c3_ν, c4_ν, c5_ν, c6_ν, c7_ν, c8_ν⟩ := id hT_ν
    have hkb := hp_kb t n lim p9
    have k0 := hK.1
    have k1 := hK.2.1
    have k2 := hK.2.2.1
    refine xw_aload_n (pc := 26) C0 1 dX3_readHouse_26 rfl rfl ?_
    refine xw_getI (pc := 27) (f := 2) (z := ν 103 2) C0 kcX3 dX3_readHouse_27 (by decide) tv_333 (xj_103 hKL) xk_67 rfl (rfl) (fun g1 k1 => ?_)
    refine xw_iload_n (pc := 30) C0 0 dX3_readHouse_30 rfl rfl ?_
    refine xw_icmp_ge (pc := 31) (tgt := 66) C0 (by omega) (by omega) dX3_readHouse_31 rfl (fun b2 => ?_) (fun b2 => ?_)
    · exfalso
      omega
    · refine xw_aload_n (pc := 34) C0 1 dX3_readHouse_34 rfl rfl ?_
      refine xw_getR (pc := 35) (f := 0) C0 104 kcX3 dX3_readHouse_35 (by decide) tv_329 (xj_103 hKL) xk_67 rfl ((rfl).trans (xe_103_0 hS_ν.1)) ?_
      refine xw_getI (pc := 38) (f := 2) (z := ν 104 2) C0 kcX6 dX3_readHouse_38 (by decide) tv_289 (xj_104 hKL) xk_17 rfl (rfl) (fun g3 k3 => ?_)
      refine xw_if_eq (pc := 41) (tgt := 66) C0 (by omega) dX3_readHouse_41 rfl (fun b4 => ?_) (fun b4 => ?_)
      · have e7 : k = (k - 1) + 1 := by omega
        rw [e7, hp_allE (by omega)] at hres
        refine xw_pk [1] (L' := [(0, .ref (xw_ad al 103))]) rfl ?_
        exact kx ν rd nm hS_ν hw_ν hH_ν hK hln hres.symm hF
      · refine xw_aload_n (pc := 44) C0 1 dX3_readHouse_44 rfl rfl ?_
        refine xw_callVI (pc := 45) (μ := ν) (ci := 3) (rest := []) (As := []) C0 hU hO sa_Tg hKL (xh_readLine (l := l) (rd := rd) (nm := nm) (pz := p9) hS_ν hT_ν hw_ν hH_ν hK) tv_538 dX3_readHouse_45 tv_535 tv_537 tq_X3_readLine tv_8 rfl yb_X3_readLine (by decide) rfl rfl rfl (by decide) (Nat.le_of_ble_eq_true rfl) (xj_103 hKL) xk_67 (fun r5 m5 w5 => ?_)
        obtain ⟨w5, F5⟩ := w5
        rcases w5 with ⟨q5, eo5, rfl, T5, x5, H5, K5⟩ | ⟨er5, eo5, rfl, W5⟩
        · have es5 := hp_lineS hK eo5
          have hS_m5 := hc_SF hS_ν F5 (by decide)
          have n_m5 := hS_m5.2.2.1
          have l_m5 := hS_m5.2.2.2.2.1
          have b_m5 := hS_m5.2.2.2.2.2
          refine xw_if_ne (pc := 48) (tgt := 53) C0 (by omega) dX3_readHouse_48 rfl (fun b6 => ?_) (fun b6 => ?_)
          · refine xw_aload_n (pc := 53) C0 1 dX3_readHouse_53 rfl rfl ?_
            refine xw_dup (pc := 54) C0 dX3_readHouse_54 rfl ?_
            refine xw_getI (pc := 55) (f := 2) (z := ν 103 2) C0 kcX3 dX3_readHouse_55 (by decide) tv_333 (xj_103 hKL) xk_67 rfl ((F5 103 2 rfl).trans rfl) (fun g7 k7 => ?_)
            refine xw_iconst (pc := 58) C0 dX3_readHouse_58 ?_
            refine xw_iadd (pc := 59) C0 dX3_readHouse_59 ?_
            refine xw_putI (pc := 60) (f := 2) C0 kcX3 dX3_readHouse_60 (by decide) tv_333 rfl rfl (xj_103 hKL) xk_67 rfl (by omega) (by omega) ?_
            refine xw_goto (pc := 63) (tgt := 26) C0 dX3_readHouse_63 rfl ?_
            have Ft1 : xw_F [(103, 2, 2)] m5 (xw_u m5 103 2 ((ν 103 2) + 1)) := ((xw_F.rf (ML := [(103, 2, 2)])).u (show (103, 2, 2) ∈ _ by decide) ⟨by decide, by decide⟩)
            have vt1_103_2 : (xw_u m5 103 2 ((ν 103 2) + 1)) 103 2 = (ν 103 2) + 1 := xw_ug
            generalize (xw_u m5 103 2 ((ν 103 2) + 1)) = t1 at Ft1 vt1_103_2 ⊢
            have hS_t1 := hc_SF hS_m5 Ft1 (by decide)
            have n_t1 := hS_t1.2.2.1
            have l_t1 := hS_t1.2.2.2.2.1
            have b_t1 := hS_t1.2.2.2.2.2
            refine xw_pk [0, 1] (L' := [(2, .int (Int32.ofInt 31)), (0, .ref (xw_ad al 103))]) rfl ?_
            refine ih (k - 1) t1 q5.2.1 q5.2.2 q5.1 (by omega) (by have q0 := K5.1; have q1 := K5.2.1; have q2 := K5.2.2.1; omega) hS_t1 (hc_TF T5 Ft1 (by decide)) ((Ft1 104 8 rfl).trans x5) (hc_HF H5 Ft1 (by decide)) K5 (by omega) ?_ ((hF.tr F5 (fun j i h => xw_o_sub (by decide) j i h)).tr Ft1 (fun j i h => xw_o_sub (by decide) j i h))
            have e7 : k = (k - 1) + 1 := by omega
            rw [e7, hp_allR (by omega) (show hp_line t n lim rd nm p9 = .inr (q5.1, q5.2.1, q5.2.2) from eo5)] at hres
            rw [show q5.2.1 0 + q5.2.1 1 + q5.2.1 2 = rd 0 + rd 1 + rd 2 + 1 from es5]
            exact hres
          · exfalso
            omega
        · refine xw_if_ne (pc := 48) (tgt := 53) C0 (by omega) dX3_readHouse_48 rfl (fun b8 => ?_) (fun b8 => ?_)
          · exfalso
            omega
          · have e7 : k = (k - 1) + 1 := by omega
            rw [e7, hp_allL (by omega) eo5] at hres
            refine xw_pk [1] (L' := [(0, .ref (xw_ad al 103))]) rfl ?_
            exact kw m5 er5 W5 hres.symm (hF.tr F5 (fun j i h => xw_o_sub (by decide) j i h))
set_option maxRecDepth 20000 in
set_option maxHeartbeats 20000000 in
theorem xh_readHouse {l : Launch} {t : Nat → Int} {n : Nat} {μ : xw_M} (hG : xw_G xw_GL μ) (ht : ∀ i : Nat, μ 2 i % 256 = t i) (hn : μ 1 1 = (n : Int)) (hn9 : n ≤ 940) : xw_MetI l vwCl sa_Ts tb_KT0 tc_KL yX3_readHouse cX3_readHouse 3 (some .boolean) 8 256 (fun ad => [.ref (ad 103), .ref (ad 1)]) μ (fun r μ' => hc_R (hp_res t n) r μ' ∧ xw_F [(103, 2, 2), (104, 0, 9), (107, 13, 15), (108, 0, 5), (109, 0, 5), (110, 0, 5), (111, 0, 5), (112, 0, 5), (113, 0, 5), (114, 0, 5), (115, 0, 7), (116, 0, 7), (117, 0, 7), (118, 0, 7), (119, 0, 7), (120, 0, 23)] μ μ') :=
  xw_of (by decide) (fun _ => Nat.le_of_ble_eq_true rfl) (fun p e s m args below meth c D dA A al w0 sz C0 hU hO hKL hr hlk hA => by
    refine xw_aload_n (pc := 0) C0 0 dX3_readHouse_0 rfl rfl ?_
    refine xw_getR (pc := 1) (f := 1) C0 107 kcX3 dX3_readHouse_1 (by decide) tv_331 (xj_103 hKL) xk_67 rfl ((rfl).trans (xe_103_1 hG)) ?_
    refine xw_callVV (pc := 4) (μ := μ) (ci := 2) (rest := []) (As := []) C0 hU hO sa_Tg hKL (xh_clear (l := l) hG) tv_501 dX3_readHouse_4 tv_498 tv_499 tv_500 tv_4 rfl yb_X2_clear (by decide) rfl rfl rfl (by decide) (Nat.le_of_ble_eq_true rfl) (xj_107 hKL) xk_28 (fun m1 w1 => ?_)
    obtain ⟨H1, F1⟩ := w1
    have hG_m1 := xw_GF hG F1 (by decide)
    refine xw_aload_n (pc := 7) C0 0 dX3_readHouse_7 rfl rfl ?_
    refine xw_getR (pc := 8) (f := 0) C0 104 kcX3 dX3_readHouse_8 (by decide) tv_329 (xj_103 hKL) xk_67 rfl (((F1 103 0 rfl).trans rfl).trans (xe_103_0 hG)) ?_
    refine xw_aload_n (pc := 11) C0 1 dX3_readHouse_11 rfl rfl ?_
    refine xw_sipush (pc := 12) C0 dX3_readHouse_12 (by decide) ?_
    refine xw_callVV (pc := 15) (μ := m1) (ci := 6) (rest := []) (As := [.ref (xw_ad al 1), .int (Int32.ofInt ((900 : Nat) : Int))]) C0 hU hO sa_Tg hKL (xh_start (l := l) (t := t) (n := n) (lim := 900) hG_m1 (fun i => by rw [F1 2 i (xw_oj (by decide) i)]; exact ht i) ((F1 1 1 rfl).trans hn) hn9 (by decide)) tv_505 dX3_readHouse_15 tv_502 tv_503 tv_504 tv_9 rfl yb_X6_start (by decide) rfl rfl rfl (by decide) (Nat.le_of_ble_eq_true rfl) (xj_104 hKL) xk_17 (fun m2 w2 => ?_)
    obtain ⟨hS_m2, hT_m2, hw_m2, F2⟩ := w2
    have hH_m2 := hc_HF H1 F2 (by decide)
    refine xw_aload_n (pc := 18) C0 0 dX3_readHouse_18 rfl rfl ?_
    refine xw_iconst (pc := 19) C0 dX3_readHouse_19 ?_
    refine xw_putI (pc := 20) (f := 2) C0 kcX3 dX3_readHouse_20 (by decide) tv_333 rfl rfl (xj_103 hKL) xk_67 rfl (by omega) (by omega) ?_
    refine xw_bipush (pc := 23) C0 dX3_readHouse_23 (by decide) ?_
    refine xw_istore_n (pc := 25) (L' := [(2, .int (Int32.ofInt 31)), (0, .ref (xw_ad al 103)), (1, .ref (xw_ad al 1))]) C0 dX3_readHouse_25 rfl (by decide) rfl ?_
    have Ft1 : xw_F [(103, 2, 2)] m2 (xw_u m2 103 2 0) := ((xw_F.rf (ML := [(103, 2, 2)])).u (show (103, 2, 2) ∈ _ by decide) ⟨by decide, by decide⟩)
    have vt1_103_2 : (xw_u m2 103 2 0) 103 2 = 0 := xw_ug
    generalize (xw_u m2 103 2 0) = t1 at Ft1 vt1_103_2 ⊢
    have hS_t1 := hc_SF hS_m2 Ft1 (by decide)
    refine xw_pk [0, 1] (L' := [(2, .int (Int32.ofInt 31)), (0, .ref (xw_ad al 103))]) rfl ?_
    refine xh_rhL (μ := μ) (res := hp_res t n) C0 hU hO hKL (fun ν rd nm hS_ν hw_ν hH_ν hK hln hres hF => ?_) (fun ν e9 hW hres hF => ?_) 33 32 t1 (fun _ => 0) (fun _ => 0) 0 (by omega) (by decide) hS_t1 (hc_TF hT_m2 Ft1 (by decide)) ((Ft1 104 8 rfl).trans hw_m2) (hc_HF hH_m2 Ft1 (by decide)) hp_ok0 vt1_103_2 rfl ((((xw_F.rf (ML := [(103, 2, 2), (104, 0, 9), (107, 13, 15), (108, 0, 5), (109, 0, 5), (110, 0, 5), (111, 0, 5), (112, 0, 5), (113, 0, 5), (114, 0, 5), (115, 0, 7), (116, 0, 7), (117, 0, 7), (118, 0, 7), (119, 0, 7), (120, 0, 23)])).tr F1 (fun j i h => xw_o_sub (by decide) j i h)).tr F2 (fun j i h => xw_o_sub (by decide) j i h)).tr Ft1 (fun j i h => xw_o_sub (by decide) j i h))
    · refine xw_iconst (pc := 66) C0 dX3_readHouse_66 ?_
      refine xw_iret C0 hA hr hlk rfl dX3_readHouse_67 ?_
      exact ⟨_, rfl, Or.inl ⟨_, hres, rfl, hH_ν, hK, hln, hw_ν⟩, hF⟩
    · refine xw_iconst (pc := 51) C0 dX3_readHouse_51 ?_
      refine xw_iret C0 hA hr hlk rfl dX3_readHouse_52 ?_
      exact ⟨_, rfl, Or.inr ⟨_, hres, rfl, hW⟩, hF⟩)
set_option maxRecDepth 20000 in
set_option maxHeartbeats 20000000 in
theorem xh_takeText {l : Launch} {μ : xw_M} (hG : xw_G xw_GL μ) : xw_MetV l vwCl sa_Ts tb_KT0 tc_KL yX11_takeText cX11_takeText 2 none 2 120 (fun ad => [.ref (ad 0), .ref (ad 104)]) μ (fun μ' => μ' 1 1 = 0 ∧ xw_F [(0, 13, 13), (1, 1, 1)] μ μ') :=
  xw_of (by decide) (fun _ => Nat.le_of_ble_eq_true rfl) (fun p e s m args below meth c D dA A al w0 sz C0 hU hO hKL hr hlk hA => by
    refine xw_aload_n (pc := 0) C0 0 dX11_takeText_0 rfl rfl ?_
    refine xw_getR (pc := 1) (f := 0) C0 1 kcX11 dX11_takeText_1 (by decide) tv_422 (xj_0 hKL) xk_27 rfl ((rfl).trans (xe_0_0 hG)) ?_
    refine xw_iconst (pc := 4) C0 dX11_takeText_4 ?_
    refine xw_putI (pc := 5) (f := 1) C0 kcX0 dX11_takeText_5 (by decide) tv_40 rfl rfl (xj_1 hKL) xk_19 rfl (by omega) (by omega) ?_
    refine xw_aload_n (pc := 8) C0 0 dX11_takeText_8 rfl rfl ?_
    refine xw_aload_n (pc := 9) C0 1 dX11_takeText_9 rfl rfl ?_
    refine xw_getI (pc := 10) (f := 8) (z := μ 104 8) C0 kcX6 dX11_takeText_10 (by decide) tv_303 (xj_104 hKL) xk_17 rfl ((xw_un (fun q => absurd q.1 (by decide))).trans rfl) (fun g1 k1 => ?_)
    refine xw_putI (pc := 13) (f := 13) C0 kcX11 dX11_takeText_13 (by decide) tv_435 rfl rfl (xj_0 hKL) xk_27 rfl (by omega) (by omega) ?_
    refine xw_vret C0 hA hr hlk dX11_takeText_16 ?_
    have Ft1 : xw_F [(0, 13, 13), (1, 1, 1)] μ (xw_u (xw_u μ 1 1 0) 0 13 (μ 104 8)) := (((xw_F.rf (ML := [(0, 13, 13), (1, 1, 1)])).u (show (1, 1, 1) ∈ _ by decide) ⟨by decide, by decide⟩).u (show (0, 13, 13) ∈ _ by decide) ⟨by decide, by decide⟩)
    have vt1_0_13 : (xw_u (xw_u μ 1 1 0) 0 13 (μ 104 8)) 0 13 = μ 104 8 := xw_ug
    have vt1_1_1 : (xw_u (xw_u μ 1 1 0) 0 13 (μ 104 8)) 1 1 = 0 := (xw_un (fun q => absurd q.1 (by decide))).trans xw_ug
    generalize (xw_u (xw_u μ 1 1 0) 0 13 (μ 104 8)) = t1 at Ft1 vt1_0_13 vt1_1_1 ⊢
    exact ⟨rfl, vt1_1_1, ((xw_F.rf (ML := [(0, 13, 13), (1, 1, 1)])).tr Ft1 (fun j i h => xw_o_sub (by decide) j i h))⟩)
set_option maxRecDepth 20000 in
set_option maxHeartbeats 20000000 in
theorem xh_copyFrom {l : Launch} {μ : xw_M} (hG : xw_G xw_GL μ) : xw_MetV l vwCl sa_Ts tb_KT0 tc_KL yX2_copyFrom cX2_copyFrom 2 none 2 120 (fun ad => [.ref (ad 4), .ref (ad 107)]) μ (fun μ' => xw_F [(4, 13, 15), (5, 0, 5), (6, 0, 5), (7, 0, 5), (8, 0, 5), (9, 0, 5), (10, 0, 5), (11, 0, 5), (12, 0, 7), (13, 0, 7), (14, 0, 7), (15, 0, 7), (16, 0, 7), (17, 0, 23)] μ μ') :=
  xw_of (by decide) (fun _ => Nat.le_of_ble_eq_true rfl) (fun p e s m args below meth c D dA A al w0 sz C0 hU hO hKL hr hlk hA => by
    refine xw_aload_n (pc := 0) C0 1 dX2_copyFrom_0 rfl rfl ?_
    refine xw_getR (pc := 1) (f := 0) C0 108 kcX2 dX2_copyFrom_1 (by decide) tv_61 (xj_107 hKL) xk_28 rfl ((rfl).trans (xe_107_0 hG)) ?_
    refine xw_iconst (pc := 4) C0 dX2_copyFrom_4 ?_
    refine xw_aload_n (pc := 5) C0 0 dX2_copyFrom_5 rfl rfl ?_
    refine xw_getR (pc := 6) (f := 0) C0 5 kcX2 dX2_copyFrom_6 (by decide) tv_61 (xj_4 hKL) xk_28 rfl ((rfl).trans (xe_4_0 hG)) ?_
    refine xw_iconst (pc := 9) C0 dX2_copyFrom_9 ?_
    refine xw_bipush (pc := 10) C0 dX2_copyFrom_10 (by decide) ?_
    refine xw_acL (pc := 12) (μ := μ) (n := 6) C0 dX2_copyFrom_12 tv_627 tv_629 tv_628 tv_14 (by decide) (by decide) (Nat.le_of_ble_eq_true rfl) (xj_108 hKL) (xj_5 hKL) xk_29 xk_29 (by decide) (fun _ _ _ h9 => h9) ?_
    have G1 : xw_F [(5, 0, 5)] μ (fun j i => if j = 5 ∧ i < 6 then μ 108 i else μ j i) := fun j i h9 => if_neg (fun q => by obtain ⟨q1, q2⟩ := q; subst q1; exact xw_o_in h9 List.mem_cons_self ⟨Nat.zero_le _, by omega⟩)
    have P1 : ∀ i : Nat, i < 6 → (fun j i => if j = 5 ∧ i < 6 then μ 108 i else μ j i) 5 i = μ 108 i := fun i hi => if_pos ⟨rfl, hi⟩
    generalize (fun j i => if j = 5 ∧ i < 6 then μ 108 i else μ j i) = c1 at G1 P1 ⊢
    have hG_c1 := xw_GF hG G1 (by decide)
    refine xw_aload_n (pc := 15) C0 1 dX2_copyFrom_15 rfl rfl ?_
    refine xw_getR (pc := 16) (f := 1) C0 109 kcX2 dX2_copyFrom_16 (by decide) tv_63 (xj_107 hKL) xk_28 rfl (((G1 107 1 rfl).trans rfl).trans (xe_107_1 hG)) ?_
    refine xw_iconst (pc := 19) C0 dX2_copyFrom_19 ?_
    refine xw_aload_n (pc := 20) C0 0 dX2_copyFrom_20 rfl rfl ?_
    refine xw_getR (pc := 21) (f := 1) C0 6 kcX2 dX2_copyFrom_21 (by decide) tv_63 (xj_4 hKL) xk_28 rfl (((G1 4 1 rfl).trans rfl).trans (xe_4_1 hG)) ?_
    refine xw_iconst (pc := 24) C0 dX2_copyFrom_24 ?_
    refine xw_bipush (pc := 25) C0 dX2_copyFrom_25 (by decide) ?_
    refine xw_acI (pc := 27) (μ := c1) (n := 6) C0 dX2_copyFrom_27 tv_627 tv_629 tv_628 tv_14 (by decide) (by decide) (Nat.le_of_ble_eq_true rfl) (xj_109 hKL) (xj_6 hKL) xk_30 xk_30 (by decide) (fun _ _ _ h9 => h9) ?_
    have G2 : xw_F [(6, 0, 5)] c1 (fun j i => if j = 6 ∧ i < 6 then c1 109 i else c1 j i) := fun j i h9 => if_neg (fun q => by obtain ⟨q1, q2⟩ := q; subst q1; exact xw_o_in h9 List.mem_cons_self ⟨Nat.zero_le _, by omega⟩)
    have P2 : ∀ i : Nat, i < 6 → (fun j i => if j = 6 ∧ i < 6 then c1 109 i else c1 j i) 6 i = c1 109 i := fun i hi => if_pos ⟨rfl, hi⟩
    generalize (fun j i => if j = 6 ∧ i < 6 then c1 109 i else c1 j i) = c2 at G2 P2 ⊢
    have hG_c2 := xw_GF hG_c1 G2 (by decide)
    refine xw_aload_n (pc := 30) C0 1 dX2_copyFrom_30 rfl rfl ?_
    refine xw_getR (pc := 31) (f := 2) C0 110 kcX2 dX2_copyFrom_31 (by decide) tv_67 (xj_107 hKL) xk_28 rfl (((G2 107 2 rfl).trans ((G1 107 2 rfl).trans rfl)).trans (xe_107_2 hG)) ?_
    refine xw_iconst (pc := 34) C0 dX2_copyFrom_34 ?_
    refine xw_aload_n (pc := 35) C0 0 dX2_copyFrom_35 rfl rfl ?_
    refine xw_getR (pc := 36) (f := 2) C0 7 kcX2 dX2_copyFrom_36 (by decide) tv_67 (xj_4 hKL) xk_28 rfl (((G2 4 2 rfl).trans ((G1 4 2 rfl).trans rfl)).trans (xe_4_2 hG)) ?_
    refine xw_iconst (pc := 39) C0 dX2_copyFrom_39 ?_
    refine xw_bipush (pc := 40) C0 dX2_copyFrom_40 (by decide) ?_
    refine xw_acI (pc := 42) (μ := c2) (n := 6) C0 dX2_copyFrom_42 tv_627 tv_629 tv_628 tv_14 (by decide) (by decide) (Nat.le_of_ble_eq_true rfl) (xj_110 hKL) (xj_7 hKL) xk_31 xk_31 (by decide) (fun _ _ _ h9 => h9) ?_
    have G3 : xw_F [(7, 0, 5)] c2 (fun j i => if j = 7 ∧ i < 6 then c2 110 i else c2 j i) := fun j i h9 => if_neg (fun q => by obtain ⟨q1, q2⟩ := q; subst q1; exact xw_o_in h9 List.mem_cons_self ⟨Nat.zero_le _, by omega⟩)
    have P3 : ∀ i : Nat, i < 6 → (fun j i => if j = 7 ∧ i < 6 then c2 110 i else c2 j i) 7 i = c2 110 i := fun i hi => if_pos ⟨rfl, hi⟩
    generalize (fun j i => if j = 7 ∧ i < 6 then c2 110 i else c2 j i) = c3 at G3 P3 ⊢
    have hG_c3 := xw_GF hG_c2 G3 (by decide)
    refine xw_aload_n (pc := 45) C0 1 dX2_copyFrom_45 rfl rfl ?_
    refine xw_getR (pc := 46) (f := 3) C0 111 kcX2 dX2_copyFrom_46 (by decide) tv_71 (xj_107 hKL) xk_28 rfl (((G3 107 3 rfl).trans ((G2 107 3 rfl).trans ((G1 107 3 rfl).trans rfl))).trans (xe_107_3 hG)) ?_
    refine xw_iconst (pc := 49) C0 dX2_copyFrom_49 ?_
    refine xw_aload_n (pc := 50) C0 0 dX2_copyFrom_50 rfl rfl ?_
    refine xw_getR (pc := 51) (f := 3) C0 8 kcX2 dX2_copyFrom_51 (by decide) tv_71 (xj_4 hKL) xk_28 rfl (((G3 4 3 rfl).trans ((G2 4 3 rfl).trans ((G1 4 3 rfl).trans rfl))).trans (xe_4_3 hG)) ?_
    refine xw_iconst (pc := 54) C0 dX2_copyFrom_54 ?_
    refine xw_bipush (pc := 55) C0 dX2_copyFrom_55 (by decide) ?_
    refine xw_acI (pc := 57) (μ := c3) (n := 6) C0 dX2_copyFrom_57 tv_627 tv_629 tv_628 tv_14 (by decide) (by decide) (Nat.le_of_ble_eq_true rfl) (xj_111 hKL) (xj_8 hKL) xk_32 xk_32 (by decide) (fun _ _ _ h9 => h9) ?_
    have G4 : xw_F [(8, 0, 5)] c3 (fun j i => if j = 8 ∧ i < 6 then c3 111 i else c3 j i) := fun j i h9 => if_neg (fun q => by obtain ⟨q1, q2⟩ := q; subst q1; exact xw_o_in h9 List.mem_cons_self ⟨Nat.zero_le _, by omega⟩)
    have P4 : ∀ i : Nat, i < 6 → (fun j i => if j = 8 ∧ i < 6 then c3 111 i else c3 j i) 8 i = c3 111 i := fun i hi => if_pos ⟨rfl, hi⟩
    generalize (fun j i => if j = 8 ∧ i < 6 then c3 111 i else c3 j i) = c4 at G4 P4 ⊢
    have hG_c4 := xw_GF hG_c3 G4 (by decide)
    refine xw_aload_n (pc := 60) C0 1 dX2_copyFrom_60 rfl rfl ?_
    refine xw_getR (pc := 61) (f := 4) C0 112 kcX2 dX2_copyFrom_61 (by decide) tv_74 (xj_107 hKL) xk_28 rfl (((G4 107 4 rfl).trans ((G3 107 4 rfl).trans ((G2 107 4 rfl).trans ((G1 107 4 rfl).trans rfl)))).trans (xe_107_4 hG)) ?_
    refine xw_iconst (pc := 64) C0 dX2_copyFrom_64 ?_
    refine xw_aload_n (pc := 65) C0 0 dX2_copyFrom_65 rfl rfl ?_
    refine xw_getR (pc := 66) (f := 4) C0 9 kcX2 dX2_copyFrom_66 (by decide) tv_74 (xj_4 hKL) xk_28 rfl (((G4 4 4 rfl).trans ((G3 4 4 rfl).trans ((G2 4 4 rfl).trans ((G1 4 4 rfl).trans rfl)))).trans (xe_4_4 hG)) ?_
    refine xw_iconst (pc := 69) C0 dX2_copyFrom_69 ?_
    refine xw_bipush (pc := 70) C0 dX2_copyFrom_70 (by decide) ?_
    refine xw_acI (pc := 72) (μ := c4) (n := 6) C0 dX2_copyFrom_72 tv_627 tv_629 tv_628 tv_14 (by decide) (by decide) (Nat.le_of_ble_eq_true rfl) (xj_112 hKL) (xj_9 hKL) xk_33 xk_33 (by decide) (fun _ _ _ h9 => h9) ?_
    have G5 : xw_F [(9, 0, 5)] c4 (fun j i => if j = 9 ∧ i < 6 then c4 112 i else c4 j i) := fun j i h9 => if_neg (fun q => by obtain ⟨q1, q2⟩ := q; subst q1; exact xw_o_in h9 List.mem_cons_self ⟨Nat.zero_le _, by omega⟩)
    have P5 : ∀ i : Nat, i < 6 → (fun j i => if j = 9 ∧ i < 6 then c4 112 i else c4 j i) 9 i = c4 112 i := fun i hi => if_pos ⟨rfl, hi⟩
    generalize (fun j i => if j = 9 ∧ i < 6 then c4 112 i else c4 j i) = c5 at G5 P5 ⊢
    have hG_c5 := xw_GF hG_c4 G5 (by decide)
    refine xw_aload_n (pc := 75) C0 1 dX2_copyFrom_75 rfl rfl ?_
    refine xw_getR (pc := 76) (f := 5) C0 113 kcX2 dX2_copyFrom_76 (by decide) tv_75 (xj_107 hKL) xk_28 rfl (((G5 107 5 rfl).trans ((G4 107 5 rfl).trans ((G3 107 5 rfl).trans ((G2 107 5 rfl).trans ((G1 107 5 rfl).trans rfl))))).trans (xe_107_5 hG)) ?_
    refine xw_iconst (pc := 79) C0 dX2_copyFrom_79 ?_
    refine xw_aload_n (pc := 80) C0 0 dX2_copyFrom_80 rfl rfl ?_
    refine xw_getR (pc := 81) (f := 5) C0 10 kcX2 dX2_copyFrom_81 (by decide) tv_75 (xj_4 hKL) xk_28 rfl (((G5 4 5 rfl).trans ((G4 4 5 rfl).trans ((G3 4 5 rfl).trans ((G2 4 5 rfl).trans ((G1 4 5 rfl).trans rfl))))).trans (xe_4_5 hG)) ?_
    refine xw_iconst (pc := 84) C0 dX2_copyFrom_84 ?_
    refine xw_bipush (pc := 85) C0 dX2_copyFrom_85 (by decide) ?_
    refine xw_acI (pc := 87) (μ := c5) (n := 6) C0 dX2_copyFrom_87 tv_627 tv_629 tv_628 tv_14 (by decide) (by decide) (Nat.le_of_ble_eq_true rfl) (xj_113 hKL) (xj_10 hKL) xk_34 xk_34 (by decide) (fun _ _ _ h9 => h9) ?_
    have G6 : xw_F [(10, 0, 5)] c5 (fun j i => if j = 10 ∧ i < 6 then c5 113 i else c5 j i) := fun j i h9 => if_neg (fun q => by obtain ⟨q1, q2⟩ := q; subst q1; exact xw_o_in h9 List.mem_cons_self ⟨Nat.zero_le _, by omega⟩)
    have P6 : ∀ i : Nat, i < 6 → (fun j i => if j = 10 ∧ i < 6 then c5 113 i else c5 j i) 10 i = c5 113 i := fun i hi => if_pos ⟨rfl, hi⟩
    generalize (fun j i => if j = 10 ∧ i < 6 then c5 113 i else c5 j i) = c6 at G6 P6 ⊢
    have hG_c6 := xw_GF hG_c5 G6 (by decide)
    refine xw_aload_n (pc := 90) C0 1 dX2_copyFrom_90 rfl rfl ?_
    refine xw_getR (pc := 91) (f := 6) C0 114 kcX2 dX2_copyFrom_91 (by decide) tv_78 (xj_107 hKL) xk_28 rfl (((G6 107 6 rfl).trans ((G5 107 6 rfl).trans ((G4 107 6 rfl).trans ((G3 107 6 rfl).trans ((G2 107 6 rfl).trans ((G1 107 6 rfl).trans rfl)))))).trans (xe_107_6 hG)) ?_
    refine xw_iconst (pc := 94) C0 dX2_copyFrom_94 ?_
    refine xw_aload_n (pc := 95) C0 0 dX2_copyFrom_95 rfl rfl ?_
    refine xw_getR (pc := 96) (f := 6) C0 11 kcX2 dX2_copyFrom_96 (by decide) tv_78 (xj_4 hKL) xk_28 rfl (((G6 4 6 rfl).trans ((G5 4 6 rfl).trans ((G4 4 6 rfl).trans ((G3 4 6 rfl).trans ((G2 4 6 rfl).trans ((G1 4 6 rfl).trans rfl)))))).trans (xe_4_6 hG)) ?_
    refine xw_iconst (pc := 99) C0 dX2_copyFrom_99 ?_
    refine xw_bipush (pc := 100) C0 dX2_copyFrom_100 (by decide) ?_
    refine xw_acI (pc := 102) (μ := c6) (n := 6) C0 dX2_copyFrom_102 tv_627 tv_629 tv_628 tv_14 (by decide) (by decide) (Nat.le_of_ble_eq_true rfl) (xj_114 hKL) (xj_11 hKL) xk_35 xk_35 (by decide) (fun _ _ _ h9 => h9) ?_
    have G7 : xw_F [(11, 0, 5)] c6 (fun j i => if j = 11 ∧ i < 6 then c6 114 i else c6 j i) := fun j i h9 => if_neg (fun q => by obtain ⟨q1, q2⟩ := q; subst q1; exact xw_o_in h9 List.mem_cons_self ⟨Nat.zero_le _, by omega⟩)
    have P7 : ∀ i : Nat, i < 6 → (fun j i => if j = 11 ∧ i < 6 then c6 114 i else c6 j i) 11 i = c6 114 i := fun i hi => if_pos ⟨rfl, hi⟩
    generalize (fun j i => if j = 11 ∧ i < 6 then c6 114 i else c6 j i) = c7 at G7 P7 ⊢
    have hG_c7 := xw_GF hG_c6 G7 (by decide)
    refine xw_aload_n (pc := 105) C0 1 dX2_copyFrom_105 rfl rfl ?_
    refine xw_getR (pc := 106) (f := 7) C0 115 kcX2 dX2_copyFrom_106 (by decide) tv_81 (xj_107 hKL) xk_28 rfl (((G7 107 7 rfl).trans ((G6 107 7 rfl).trans ((G5 107 7 rfl).trans ((G4 107 7 rfl).trans ((G3 107 7 rfl).trans ((G2 107 7 rfl).trans ((G1 107 7 rfl).trans rfl))))))).trans (xe_107_7 hG)) ?_
    refine xw_iconst (pc := 109) C0 dX2_copyFrom_109 ?_
    refine xw_aload_n (pc := 110) C0 0 dX2_copyFrom_110 rfl rfl ?_
    refine xw_getR (pc := 111) (f := 7) C0 12 kcX2 dX2_copyFrom_111 (by decide) tv_81 (xj_4 hKL) xk_28 rfl (((G7 4 7 rfl).trans ((G6 4 7 rfl).trans ((G5 4 7 rfl).trans ((G4 4 7 rfl).trans ((G3 4 7 rfl).trans ((G2 4 7 rfl).trans ((G1 4 7 rfl).trans rfl))))))).trans (xe_4_7 hG)) ?_
    refine xw_iconst (pc := 114) C0 dX2_copyFrom_114 ?_
    refine xw_bipush (pc := 115) C0 dX2_copyFrom_115 (by decide) ?_
    refine xw_acL (pc := 117) (μ := c7) (n := 8) C0 dX2_copyFrom_117 tv_627 tv_629 tv_628 tv_14 (by decide) (by decide) (Nat.le_of_ble_eq_true rfl) (xj_115 hKL) (xj_12 hKL) xk_36 xk_36 (by decide) (fun _ _ _ h9 => h9) ?_
    have G8 : xw_F [(12, 0, 7)] c7 (fun j i => if j = 12 ∧ i < 8 then c7 115 i else c7 j i) := fun j i h9 => if_neg (fun q => by obtain ⟨q1, q2⟩ := q; subst q1; exact xw_o_in h9 List.mem_cons_self ⟨Nat.zero_le _, by omega⟩)
    have P8 : ∀ i : Nat, i < 8 → (fun j i => if j = 12 ∧ i < 8 then c7 115 i else c7 j i) 12 i = c7 115 i := fun i hi => if_pos ⟨rfl, hi⟩
    generalize (fun j i => if j = 12 ∧ i < 8 then c7 115 i else c7 j i) = c8 at G8 P8 ⊢
    have hG_c8 := xw_GF hG_c7 G8 (by decide)
    refine xw_aload_n (pc := 120) C0 1 dX2_copyFrom_120 rfl rfl ?_
    refine xw_getR (pc := 121) (f := 8) C0 116 kcX2 dX2_copyFrom_121 (by decide) tv_83 (xj_107 hKL) xk_28 rfl (((G8 107 8 rfl).trans ((G7 107 8 rfl).trans ((G6 107 8 rfl).trans ((G5 107 8 rfl).trans ((G4 107 8 rfl).trans ((G3 107 8 rfl).trans ((G2 107 8 rfl).trans ((G1 107 8 rfl).trans rfl)))))))).trans (xe_107_8 hG)) ?_
    refine xw_iconst (pc := 124) C0 dX2_copyFrom_124 ?_
    refine xw_aload_n (pc := 125) C0 0 dX2_copyFrom_125 rfl rfl ?_
    refine xw_getR (pc := 126) (f := 8) C0 13 kcX2 dX2_copyFrom_126 (by decide) tv_83 (xj_4 hKL) xk_28 rfl (((G8 4 8 rfl).trans ((G7 4 8 rfl).trans ((G6 4 8 rfl).trans ((G5 4 8 rfl).trans ((G4 4 8 rfl).trans ((G3 4 8 rfl).trans ((G2 4 8 rfl).trans ((G1 4 8 rfl).trans rfl)))))))).trans (xe_4_8 hG)) ?_
    refine xw_iconst (pc := 129) C0 dX2_copyFrom_129 ?_
    refine xw_bipush (pc := 130) C0 dX2_copyFrom_130 (by decide) ?_
    refine xw_acI (pc := 132) (μ := c8) (n := 8) C0 dX2_copyFrom_132 tv_627 tv_629 tv_628 tv_14 (by decide) (by decide) (Nat.le_of_ble_eq_true rfl) (xj_116 hKL) (xj_13 hKL) xk_37 xk_37 (by decide) (fun _ _ _ h9 => h9) ?_
    have G10 : xw_F [(13, 0, 7)] c8 (fun j i => if j = 13 ∧ i < 8 then c8 116 i else c8 j i) := fun j i h9 => if_neg (fun q => by obtain ⟨q1, q2⟩ := q; subst q1; exact xw_o_in h9 List.mem_cons_self ⟨Nat.zero_le _, by omega⟩)
    have P10 : ∀ i : Nat, i < 8 → (fun j i => if j = 13 ∧ i < 8 then c8 116 i else c8 j i) 13 i = c8 116 i := fun i hi => if_pos ⟨rfl, hi⟩
    generalize (fun j i => if j = 13 ∧ i < 8 then c8 116 i else c8 j i) = c10 at G10 P10 ⊢
    have hG_c10 := xw_GF hG_c8 G10 (by decide)
    refine xw_aload_n (pc := 135) C0 1 dX2_copyFrom_135 rfl rfl ?_
    refine xw_getR (pc := 136) (f := 9) C0 117 kcX2 dX2_copyFrom_136 (by decide) tv_86 (xj_107 hKL) xk_28 rfl (((G10 107 9 rfl).trans ((G8 107 9 rfl).trans ((G7 107 9 rfl).trans ((G6 107 9 rfl).trans ((G5 107 9 rfl).trans ((G4 107 9 rfl).trans ((G3 107 9 rfl).trans ((G2 107 9 rfl).trans ((G1 107 9 rfl).trans rfl))))))))).trans (xe_107_9 hG)) ?_
    refine xw_iconst (pc := 139) C0 dX2_copyFrom_139 ?_
    refine xw_aload_n (pc := 140) C0 0 dX2_copyFrom_140 rfl rfl ?_
    refine xw_getR (pc := 141) (f := 9) C0 14 kcX2 dX2_copyFrom_141 (by decide) tv_86 (xj_4 hKL) xk_28 rfl (((G10 4 9 rfl).trans ((G8 4 9 rfl).trans ((G7 4 9 rfl).trans ((G6 4 9 rfl).trans ((G5 4 9 rfl).trans ((G4 4 9 rfl).trans ((G3 4 9 rfl).trans ((G2 4 9 rfl).trans ((G1 4 9 rfl).trans rfl))))))))).trans (xe_4_9 hG)) ?_
    refine xw_iconst (pc := 144) C0 dX2_copyFrom_144 ?_
    refine xw_bipush (pc := 145) C0 dX2_copyFrom_145 (by decide) ?_
    refine xw_acI (pc := 147) (μ := c10) (n := 8) C0 dX2_copyFrom_147 tv_627 tv_629 tv_628 tv_14 (by decide) (by decide) (Nat.le_of_ble_eq_true rfl) (xj_117 hKL) (xj_14 hKL) xk_38 xk_38 (by decide) (fun _ _ _ h9 => h9) ?_
    have G11 : xw_F [(14, 0, 7)] c10 (fun j i => if j = 14 ∧ i < 8 then c10 117 i else c10 j i) := fun j i h9 => if_neg (fun q => by obtain ⟨q1, q2⟩ := q; subst q1; exact xw_o_in h9 List.mem_cons_self ⟨Nat.zero_le _, by omega⟩)
    have P11 : ∀ i : Nat, i < 8 → (fun j i => if j = 14 ∧ i < 8 then c10 117 i else c10 j i) 14 i = c10 117 i := fun i hi => if_pos ⟨rfl, hi⟩
    generalize (fun j i => if j = 14 ∧ i < 8 then c10 117 i else c10 j i) = c11 at G11 P11 ⊢
    have hG_c11 := xw_GF hG_c10 G11 (by decide)
    refine xw_aload_n (pc := 150) C0 1 dX2_copyFrom_150 rfl rfl ?_
    refine xw_getR (pc := 151) (f := 10) C0 118 kcX2 dX2_copyFrom_151 (by decide) tv_89 (xj_107 hKL) xk_28 rfl (((G11 107 10 rfl).trans ((G10 107 10 rfl).trans ((G8 107 10 rfl).trans ((G7 107 10 rfl).trans ((G6 107 10 rfl).trans ((G5 107 10 rfl).trans ((G4 107 10 rfl).trans ((G3 107 10 rfl).trans ((G2 107 10 rfl).trans ((G1 107 10 rfl).trans rfl)))))))))).trans (xe_107_10 hG)) ?_
    refine xw_iconst (pc := 154) C0 dX2_copyFrom_154 ?_
    refine xw_aload_n (pc := 155) C0 0 dX2_copyFrom_155 rfl rfl ?_
    refine xw_getR (pc := 156) (f := 10) C0 15 kcX2 dX2_copyFrom_156 (by decide) tv_89 (xj_4 hKL) xk_28 rfl (((G11 4 10 rfl).trans ((G10 4 10 rfl).trans ((G8 4 10 rfl).trans ((G7 4 10 rfl).trans ((G6 4 10 rfl).trans ((G5 4 10 rfl).trans ((G4 4 10 rfl).trans ((G3 4 10 rfl).trans ((G2 4 10 rfl).trans ((G1 4 10 rfl).trans rfl)))))))))).trans (xe_4_10 hG)) ?_
    refine xw_iconst (pc := 159) C0 dX2_copyFrom_159 ?_
    refine xw_bipush (pc := 160) C0 dX2_copyFrom_160 (by decide) ?_
    refine xw_acI (pc := 162) (μ := c11) (n := 8) C0 dX2_copyFrom_162 tv_627 tv_629 tv_628 tv_14 (by decide) (by decide) (Nat.le_of_ble_eq_true rfl) (xj_118 hKL) (xj_15 hKL) xk_39 xk_39 (by decide) (fun _ _ _ h9 => h9) ?_
    have G12 : xw_F [(15, 0, 7)] c11 (fun j i => if j = 15 ∧ i < 8 then c11 118 i else c11 j i) := fun j i h9 => if_neg (fun q => by obtain ⟨q1, q2⟩ := q; subst q1; exact xw_o_in h9 List.mem_cons_self ⟨Nat.zero_le _, by omega⟩)
    have P12 : ∀ i : Nat, i < 8 → (fun j i => if j = 15 ∧ i < 8 then c11 118 i else c11 j i) 15 i = c11 118 i := fun i hi => if_pos ⟨rfl, hi⟩
    generalize (fun j i => if j = 15 ∧ i < 8 then c11 118 i else c11 j i) = c12 at G12 P12 ⊢
    have hG_c12 := xw_GF hG_c11 G12 (by decide)
    refine xw_aload_n (pc := 165) C0 1 dX2_copyFrom_165 rfl rfl ?_
    refine xw_getR (pc := 166) (f := 11) C0 119 kcX2 dX2_copyFrom_166 (by decide) tv_92 (xj_107 hKL) xk_28 rfl (((G12 107 11 rfl).trans ((G11 107 11 rfl).trans ((G10 107 11 rfl).trans ((G8 107 11 rfl).trans ((G7 107 11 rfl).trans ((G6 107 11 rfl).trans ((G5 107 11 rfl).trans ((G4 107 11 rfl).trans ((G3 107 11 rfl).trans ((G2 107 11 rfl).trans ((G1 107 11 rfl).trans rfl))))))))))).trans (xe_107_11 hG)) ?_
    refine xw_iconst (pc := 169) C0 dX2_copyFrom_169 ?_
    refine xw_aload_n (pc := 170) C0 0 dX2_copyFrom_170 rfl rfl ?_
    refine xw_getR (pc := 171) (f := 11) C0 16 kcX2 dX2_copyFrom_171 (by decide) tv_92 (xj_4 hKL) xk_28 rfl (((G12 4 11 rfl).trans ((G11 4 11 rfl).trans ((G10 4 11 rfl).trans ((G8 4 11 rfl).trans ((G7 4 11 rfl).trans ((G6 4 11 rfl).trans ((G5 4 11 rfl).trans ((G4 4 11 rfl).trans ((G3 4 11 rfl).trans ((G2 4 11 rfl).trans ((G1 4 11 rfl).trans rfl))))))))))).trans (xe_4_11 hG)) ?_
    refine xw_iconst (pc := 174) C0 dX2_copyFrom_174 ?_
    refine xw_bipush (pc := 175) C0 dX2_copyFrom_175 (by decide) ?_
    refine xw_acI (pc := 177) (μ := c12) (n := 8) C0 dX2_copyFrom_177 tv_627 tv_629 tv_628 tv_14 (by decide) (by decide) (Nat.le_of_ble_eq_true rfl) (xj_119 hKL) (xj_16 hKL) xk_40 xk_40 (by decide) (fun _ _ _ h9 => h9) ?_
    have G13 : xw_F [(16, 0, 7)] c12 (fun j i => if j = 16 ∧ i < 8 then c12 119 i else c12 j i) := fun j i h9 => if_neg (fun q => by obtain ⟨q1, q2⟩ := q; subst q1; exact xw_o_in h9 List.mem_cons_self ⟨Nat.zero_le _, by omega⟩)
    have P13 : ∀ i : Nat, i < 8 → (fun j i => if j = 16 ∧ i < 8 then c12 119 i else c12 j i) 16 i = c12 119 i := fun i hi => if_pos ⟨rfl, hi⟩
    generalize (fun j i => if j = 16 ∧ i < 8 then c12 119 i else c12 j i) = c13 at G13 P13 ⊢
    have hG_c13 := xw_GF hG_c12 G13 (by decide)
    refine xw_aload_n (pc := 180) C0 1 dX2_copyFrom_180 rfl rfl ?_
    refine xw_getR (pc := 181) (f := 12) C0 120 kcX2 dX2_copyFrom_181 (by decide) tv_95 (xj_107 hKL) xk_28 rfl (((G13 107 12 rfl).trans ((G12 107 12 rfl).trans ((G11 107 12 rfl).trans ((G10 107 12 rfl).trans ((G8 107 12 rfl).trans ((G7 107 12 rfl).trans ((G6 107 12 rfl).trans ((G5 107 12 rfl).trans ((G4 107 12 rfl).trans ((G3 107 12 rfl).trans ((G2 107 12 rfl).trans ((G1 107 12 rfl).trans rfl)))))))))))).trans (xe_107_12 hG)) ?_
    refine xw_iconst (pc := 184) C0 dX2_copyFrom_184 ?_
    refine xw_aload_n (pc := 185) C0 0 dX2_copyFrom_185 rfl rfl ?_
    refine xw_getR (pc := 186) (f := 12) C0 17 kcX2 dX2_copyFrom_186 (by decide) tv_95 (xj_4 hKL) xk_28 rfl (((G13 4 12 rfl).trans ((G12 4 12 rfl).trans ((G11 4 12 rfl).trans ((G10 4 12 rfl).trans ((G8 4 12 rfl).trans ((G7 4 12 rfl).trans ((G6 4 12 rfl).trans ((G5 4 12 rfl).trans ((G4 4 12 rfl).trans ((G3 4 12 rfl).trans ((G2 4 12 rfl).trans ((G1 4 12 rfl).trans rfl)))))))))))).trans (xe_4_12 hG)) ?_
    refine xw_iconst (pc := 189) C0 dX2_copyFrom_189 ?_
    refine xw_bipush (pc := 190) C0 dX2_copyFrom_190 (by decide) ?_
    refine xw_acI (pc := 192) (μ := c13) (n := 24) C0 dX2_copyFrom_192 tv_627 tv_629 tv_628 tv_14 (by decide) (by decide) (Nat.le_of_ble_eq_true rfl) (xj_120 hKL) (xj_17 hKL) xk_41 xk_41 (by decide) (fun _ _ _ h9 => h9) ?_
    have G14 : xw_F [(17, 0, 23)] c13 (fun j i => if j = 17 ∧ i < 24 then c13 120 i else c13 j i) := fun j i h9 => if_neg (fun q => by obtain ⟨q1, q2⟩ := q; subst q1; exact xw_o_in h9 List.mem_cons_self ⟨Nat.zero_le _, by omega⟩)
    have P14 : ∀ i : Nat, i < 24 → (fun j i => if j = 17 ∧ i < 24 then c13 120 i else c13 j i) 17 i = c13 120 i := fun i hi => if_pos ⟨rfl, hi⟩
    generalize (fun j i => if j = 17 ∧ i < 24 then c13 120 i else c13 j i) = c14 at G14 P14 ⊢
    have hG_c14 := xw_GF hG_c13 G14 (by decide)
    refine xw_aload_n (pc := 195) C0 0 dX2_copyFrom_195 rfl rfl ?_
    refine xw_aload_n (pc := 196) C0 1 dX2_copyFrom_196 rfl rfl ?_
    refine xw_getI (pc := 197) (f := 13) (z := μ 107 13) C0 kcX2 dX2_copyFrom_197 (by decide) tv_96 (xj_107 hKL) xk_28 rfl ((G14 107 13 rfl).trans ((G13 107 13 rfl).trans ((G12 107 13 rfl).trans ((G11 107 13 rfl).trans ((G10 107 13 rfl).trans ((G8 107 13 rfl).trans ((G7 107 13 rfl).trans ((G6 107 13 rfl).trans ((G5 107 13 rfl).trans ((G4 107 13 rfl).trans ((G3 107 13 rfl).trans ((G2 107 13 rfl).trans ((G1 107 13 rfl).trans rfl))))))))))))) (fun g15 k15 => ?_)
    refine xw_putI (pc := 200) (f := 13) C0 kcX2 dX2_copyFrom_200 (by decide) tv_96 rfl rfl (xj_4 hKL) xk_28 rfl (by omega) (by omega) ?_
    refine xw_aload_n (pc := 203) C0 0 dX2_copyFrom_203 rfl rfl ?_
    refine xw_aload_n (pc := 204) C0 1 dX2_copyFrom_204 rfl rfl ?_
    refine xw_getI (pc := 205) (f := 14) (z := μ 107 14) C0 kcX2 dX2_copyFrom_205 (by decide) tv_101 (xj_107 hKL) xk_28 rfl ((xw_un (fun q => absurd q.1 (by decide))).trans ((G14 107 14 rfl).trans ((G13 107 14 rfl).trans ((G12 107 14 rfl).trans ((G11 107 14 rfl).trans ((G10 107 14 rfl).trans ((G8 107 14 rfl).trans ((G7 107 14 rfl).trans ((G6 107 14 rfl).trans ((G5 107 14 rfl).trans ((G4 107 14 rfl).trans ((G3 107 14 rfl).trans ((G2 107 14 rfl).trans ((G1 107 14 rfl).trans rfl)))))))))))))) (fun g16 k16 => ?_)
    refine xw_putI (pc := 208) (f := 14) C0 kcX2 dX2_copyFrom_208 (by decide) tv_101 rfl rfl (xj_4 hKL) xk_28 rfl (by omega) (by omega) ?_
    refine xw_aload_n (pc := 211) C0 0 dX2_copyFrom_211 rfl rfl ?_
    refine xw_aload_n (pc := 212) C0 1 dX2_copyFrom_212 rfl rfl ?_
    refine xw_getI (pc := 213) (f := 15) (z := μ 107 15) C0 kcX2 dX2_copyFrom_213 (by decide) tv_105 (xj_107 hKL) xk_28 rfl ((xw_un (fun q => absurd q.1 (by decide))).trans ((xw_un (fun q => absurd q.1 (by decide))).trans ((G14 107 15 rfl).trans ((G13 107 15 rfl).trans ((G12 107 15 rfl).trans ((G11 107 15 rfl).trans ((G10 107 15 rfl).trans ((G8 107 15 rfl).trans ((G7 107 15 rfl).trans ((G6 107 15 rfl).trans ((G5 107 15 rfl).trans ((G4 107 15 rfl).trans ((G3 107 15 rfl).trans ((G2 107 15 rfl).trans ((G1 107 15 rfl).trans rfl))))))))))))))) (fun g17 k17 => ?_)
    refine xw_putI (pc := 216) (f := 15) C0 kcX2 dX2_copyFrom_216 (by decide) tv_105 rfl rfl (xj_4 hKL) xk_28 rfl (by omega) (by omega) ?_
    refine xw_vret C0 hA hr hlk dX2_copyFrom_219 ?_
    exact ⟨rfl, (((((((((((((((((xw_F.rf (ML := [(4, 13, 15), (5, 0, 5), (6, 0, 5), (7, 0, 5), (8, 0, 5), (9, 0, 5), (10, 0, 5), (11, 0, 5), (12, 0, 7), (13, 0, 7), (14, 0, 7), (15, 0, 7), (16, 0, 7), (17, 0, 23)])).tr G1 (fun j i h => xw_o_sub (by decide) j i h)).tr G2 (fun j i h => xw_o_sub (by decide) j i h)).tr G3 (fun j i h => xw_o_sub (by decide) j i h)).tr G4 (fun j i h => xw_o_sub (by decide) j i h)).tr G5 (fun j i h => xw_o_sub (by decide) j i h)).tr G6 (fun j i h => xw_o_sub (by decide) j i h)).tr G7 (fun j i h => xw_o_sub (by decide) j i h)).tr G8 (fun j i h => xw_o_sub (by decide) j i h)).tr G10 (fun j i h => xw_o_sub (by decide) j i h)).tr G11 (fun j i h => xw_o_sub (by decide) j i h)).tr G12 (fun j i h => xw_o_sub (by decide) j i h)).tr G13 (fun j i h => xw_o_sub (by decide) j i h)).tr G14 (fun j i h => xw_o_sub (by decide) j i h)).u (show (4, 13, 15) ∈ _ by decide) ⟨by decide, by decide⟩).u (show (4, 13, 15) ∈ _ by decide) ⟨by decide, by decide⟩).u (show (4, 13, 15) ∈ _ by decide) ⟨by decide, by decide⟩)⟩)
