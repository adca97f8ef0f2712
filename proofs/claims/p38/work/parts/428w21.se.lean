set_option maxRecDepth 20000 in
set_option maxHeartbeats 20000000 in
theorem xs_alL8 {l : Launch} {p : Program} {e : Env} {s : State} {m : MethodId} {args : Array Value} {below : List Frame} {meth : Method} {c : Code} {Q : State → Prop} {D : va_G} {dA : Nat → ClassId} {A : Nat → Prop} {al : List (Nat × Nat)} (C0 : sa_C p s m args c D dA A 4 vwCl sa_Ts cX8_readAll yX8_readAll.cls) (hU : sa_U D vwCl dA s) (hO : tb_Ou A s s.heap) (hKL : al.map Prod.snd = tc_KL) {t rd nm : Nat → Int} {n lim : Nat} {res : hq_R} {μ : xw_M} (hK : hp_ok rd nm) (kx : ∀ (ν : xw_M) (p9 o9 : Nat), hd_S t n lim ν → hd_T t n lim p9 ν → ν 129 8 = 0 → ν 132 5 = (o9 : Int) → o9 ≤ 20 → hd_R ν → res = .inr (p9, o9) → xw_F [(129, 2, 9), (132, 4, 5), (133, 0, 39), (134, 0, 39), (135, 0, 39)] μ ν → xw_W p l e { frames := 32, cells := 0, slots := 0, locals := 807 } s m args below meth c Q D dA A 4 vwCl tb_KT0 al 0 0 ν 67 [] []) (kw : ∀ (ν : xw_M) (e9 : hp_E), hd_W e9 ν → hd_R ν → res = .inl e9 → xw_F [(129, 2, 9), (132, 4, 5), (133, 0, 39), (134, 0, 39), (135, 0, 39)] μ ν → xw_W p l e { frames := 32, cells := 0, slots := 0, locals := 807 } s m args below meth c Q D dA A 4 vwCl tb_KT0 al 0 0 ν 47 [] []) : ∀ (fu9 : Nat) (i : Nat) (ν : xw_M) (pz o : Nat), 20 - (i : Int) < (fu9 : Int) → i ≤ 20 → hd_S t n lim ν → hd_T t n lim pz ν → ν 129 8 = 0 → hd_H rd nm ν → ν 132 5 = (o : Int) → o ≤ 20 → hd_R ν → hq_lp t n lim 11 (hq_on t n lim nm (rd 0).toNat (rd 1).toNat 8) (20 - i) pz o = res → xw_F [(129, 2, 9), (132, 4, 5), (133, 0, 39), (134, 0, 39), (135, 0, 39)] μ ν → xw_W p l e { frames := 32, cells := 0, slots := 0, locals := 807 } s m args below meth c Q D dA A 4 vwCl tb_KT0 al 0 0 ν 13 [(0, .ref (xw_ad al 128)), (1, .ref (xw_ad al 4)), (2, .int (Int32.ofInt 0)), (3, .int (Int32.ofInt (i : Int)))] [] := by
  intro fu9
  induction fu9 with
  | zero => intro i ν pz o hm hi hS_ν hT_ν hw_ν hH_ν hN_ν ho hR_ν hq hF; exfalso; omega
  | succ fu9 ih =>
    intro i ν pz o hm hi hS_ν hT_ν hw_ν hH_ν hN_ν ho hR_ν hq hF
    have b_ν := hS_ν.2.2.2.2.2.1
    have hp9_ν := hT_ν.1
    have c2_ν := hT_ν.2.1
    have c3_ν := hT_ν.2.2.1
    have hpl_ν := hp_plb (t := t) (lim := lim) hp9_ν
    have hkb_ν := hp_kb t n lim pz
    have kk_ν := hd_kk hT_ν
    have hkw_ν := hp_kwb (hp_w t n pz)
    have k0 := hK.1
    have k1 := hK.2.1
    refine xw_iload_n (pc := 13) C0 3 dX8_readAll_13 rfl rfl ?_
    refine xw_bipush (pc := 14) C0 dX8_readAll_14 (by decide +kernel) ?_
    refine xw_icmp_ge (pc := 16) (tgt := 67) C0 (by omega) (by omega) dX8_readAll_16 rfl (fun b1 => ?_) (fun b1 => ?_)
    · refine xw_pk [] (L' := []) rfl ?_
      exact kx ν pz o hS_ν hT_ν hw_ν hN_ν ho hR_ν (by first | (rw [show 20 - i = 0 by omega, hq_lp0] at hq; exact hq.symm) | (rw [hq_lpN (by omega)] at hq; exact hq.symm)) hF
    · refine xw_aload_n (pc := 19) C0 0 dX8_readAll_19 rfl rfl ?_
      refine xw_getR (pc := 20) (f := 0) C0 129 kcX8 dX8_readAll_20 (by decide +kernel) tv_381 (xj_128 hKL) xk_68 rfl ((rfl).trans (xe_128_0 hS_ν.1)) ?_
      refine xw_getI (pc := 23) (f := 6) (z := ν 129 6) C0 kcX6 dX8_readAll_23 (by decide +kernel) tv_298 (xj_129 hKL) xk_17 rfl (rfl) (fun g2 k2 => ?_)
      refine xw_bipush (pc := 26) C0 dX8_readAll_26 (by decide +kernel) ?_
      refine xw_icmp_ne (pc := 28) (tgt := 67) C0 (by omega) (by omega) dX8_readAll_28 rfl (fun b3 => ?_) (fun b3 => ?_)
      · refine xw_pk [] (L' := []) rfl ?_
        exact kx ν pz o hS_ν hT_ν hw_ν hN_ν ho hR_ν (by first | (rw [show 20 - i = 0 by omega, hq_lp0] at hq; exact hq.symm) | (rw [hq_lpN (by omega)] at hq; exact hq.symm)) hF
      · refine xw_aload_n (pc := 31) C0 0 dX8_readAll_31 rfl rfl ?_
        refine xw_getR (pc := 32) (f := 0) C0 129 kcX8 dX8_readAll_32 (by decide +kernel) tv_381 (xj_128 hKL) xk_68 rfl ((rfl).trans (xe_128_0 hS_ν.1)) ?_
        refine xw_callVV (pc := 35) (μ := ν) (ci := 6) (rest := []) (As := []) C0 hU hO sa_Tg hKL (xd_step (l := l) (t := t) (n := n) (lim := lim) (pz := hp_x t n pz) hS_ν (hT_ν.2.2.2.2.2.2.2 (by omega)) (hp_xb (lim := lim) hT_ν.1 (by omega))) tv_509 dX8_readAll_35 tv_1042 tv_507 tv_508 tv_9 rfl yb_X6_step (by decide +kernel) rfl rfl rfl (by decide +kernel) (Nat.le_of_ble_eq_true rfl) (xj_129 hKL) xk_17 (fun m4 w4 => ?_)
        obtain ⟨hT_m4, F4⟩ := w4
        have hS_m4 := hd_SF hS_ν F4 (by decide +kernel)
        have hw_m4 : m4 129 8 = 0 := (F4 129 8 rfl).trans hw_ν
        have hH_m4 := hd_HF hH_ν F4 (by decide +kernel)
        have hN_m4 : m4 132 5 = ((o : Nat) : Int) := (F4 132 5 rfl).trans hN_ν
        have hR_m4 := hd_RF hR_ν F4 (by decide +kernel)
        refine xw_aload_n (pc := 38) C0 0 dX8_readAll_38 rfl rfl ?_
        refine xw_aload_n (pc := 39) C0 1 dX8_readAll_39 rfl rfl ?_
        refine xw_iload_n (pc := 40) C0 2 dX8_readAll_40 rfl rfl ?_
        refine xw_callVI (pc := 41) (μ := m4) (ci := 8) (rest := []) (As := [.ref (xw_ad al 4), .int (Int32.ofInt 0)]) C0 hU hO sa_Tg hKL (xs_on8 (l := l) (rd := rd) (nm := nm) hS_m4 hT_m4 hw_m4 hH_m4 hK hN_m4 ho hR_m4) tv_1035 dX8_readAll_41 tv_1032 tv_1034 tq_X8_readOne tv_11 rfl yb_X8_readOne (by decide +kernel) rfl rfl rfl (by decide +kernel) (Nat.le_of_ble_eq_true rfl) (xj_128 hKL) xk_68 (fun r5 m5 w5 => ?_)
        obtain ⟨w5, hR_m5, F5⟩ := w5
        rcases w5 with ⟨p5, o5, eo5, rfl, hT_m5, hw_m5, hN_m5, ho5⟩ | ⟨e5, eo5, rfl, W5⟩
        · have hS_m5 := hd_SF hS_m4 F5 (by decide +kernel)
          have hH_m5 := hd_HF hH_m4 F5 (by decide +kernel)
          refine xw_if_ne (pc := 44) (tgt := 49) C0 (by omega) dX8_readAll_44 rfl (fun b6 => ?_) (fun b6 => ?_)
          · refine xw_aload_n (pc := 49) C0 0 dX8_readAll_49 rfl rfl ?_
            refine xw_getR (pc := 50) (f := 1) C0 132 kcX8 dX8_readAll_50 (by decide +kernel) tv_383 (xj_128 hKL) xk_68 rfl (((F5 128 1 rfl).trans ((F4 128 1 rfl).trans rfl)).trans (xe_128_1 hS_ν.1)) ?_
            refine xw_bipush (pc := 53) C0 dX8_readAll_53 (by decide +kernel) ?_
            refine xw_iconst (pc := 55) C0 dX8_readAll_55 ?_
            refine xw_iconst (pc := 56) C0 dX8_readAll_56 ?_
            refine xw_callVI (pc := 57) (μ := m5) (ci := 7) (rest := []) (As := [.int (Int32.ofInt 11), .int (Int32.ofInt 0), .int (Int32.ofInt 0)]) C0 hU hO sa_Tg hKL (xs_add (l := l) (w9 := 11) (g9 := 0) (v9 := 0) (μ := m5) hS_m5.1 hR_m5 (by omega) (by omega) (by omega) (by omega) (by omega)) tv_1051 dX8_readAll_57 tv_1048 tv_1049 tv_1050 tv_6 rfl yb_X7_addStep (by decide +kernel) rfl rfl rfl (by decide +kernel) (Nat.le_of_ble_eq_true rfl) (xj_132 hKL) xk_3 (fun r7 m7 w7 => ?_)
            obtain ⟨rfl, hR_m7, F7⟩ := w7
            have hS_m7 := hd_SF hS_m5 F7 (by decide +kernel)
            have hT_m7 := hd_TF hT_m5 F7 (by decide +kernel)
            have hw_m7 : m7 129 8 = 0 := (F7 129 8 rfl).trans hw_m5
            have hH_m7 := hd_HF hH_m5 F7 (by decide +kernel)
            have hN_m7 : m7 132 5 = ((o5 : Nat) : Int) := (F7 132 5 rfl).trans hN_m5
            refine xw_pop (pc := 60) C0 dX8_readAll_60 rfl ?_
            refine xw_iinc (pc := 61) (L' := [(3, .int (Int32.ofInt ((i : Int) + 1))), (0, .ref (xw_ad al 128)), (1, .ref (xw_ad al 4)), (2, .int (Int32.ofInt 0))]) C0 3 dX8_readAll_61 rfl (by decide +kernel) rfl ?_
            refine xw_goto (pc := 64) (tgt := 13) C0 dX8_readAll_64 rfl ?_
            have e9 : 20 - i = (20 - (i + 1)) + 1 := by omega
            rw [e9, hq_lpR (by omega) eo5] at hq
            have e1 : (i : Int) + 1 = ((i + 1 : Nat) : Int) := by omega
            rw [e1]
            refine xw_pk [1, 2, 3, 0] (L' := [(0, .ref (xw_ad al 128)), (1, .ref (xw_ad al 4)), (2, .int (Int32.ofInt 0)), (3, .int (Int32.ofInt ((i + 1 : Nat) : Int)))]) rfl ?_
            exact ih (i + 1) m7 p5 o5 (by omega) (by omega) hS_m7 hT_m7 hw_m7 hH_m7 hN_m7 ho5 hR_m7 hq (hF.tr ((((xw_F.rf (ML := [(129, 2, 9), (132, 4, 5), (133, 0, 39), (134, 0, 39), (135, 0, 39)])).tr F4 (fun j i h => xw_o_sub (by decide +kernel) j i h)).tr F5 (fun j i h => xw_o_sub (by decide +kernel) j i h)).tr F7 (fun j i h => xw_o_sub (by decide +kernel) j i h)) (fun j i h => h))
          · exfalso
            omega
        · refine xw_if_ne (pc := 44) (tgt := 49) C0 (by omega) dX8_readAll_44 rfl (fun b8 => ?_) (fun b8 => ?_)
          · exfalso
            omega
          · refine xw_pk [] (L' := []) rfl ?_
            have e9 : 20 - i = (20 - (i + 1)) + 1 := by omega
            rw [e9, hq_lpL (by omega) eo5] at hq
            exact kw m5 e5 W5 hR_m5 hq.symm (hF.tr (((xw_F.rf (ML := [(129, 2, 9), (132, 4, 5), (133, 0, 39), (134, 0, 39), (135, 0, 39)])).tr F4 (fun j i h => xw_o_sub (by decide +kernel) j i h)).tr F5 (fun j i h => xw_o_sub (by decide +kernel) j i h)) (fun j i h => h))
set_option maxRecDepth 20000 in
set_option maxHeartbeats 20000000 in
theorem xs_al8 {l : Launch} {t rd nm : Nat → Int} {n lim pz o : Nat} {μ : xw_M} (hS : hd_S t n lim μ) (hT : hd_T t n lim pz μ) (hw : μ 129 8 = 0) (hH : hd_H rd nm μ) (hK : hp_ok rd nm) (hN : μ 132 5 = (o : Int)) (ho : o ≤ 20) (hR : hd_R μ) : xw_MetI l vwCl sa_Ts tb_KT0 tc_KL yX8_readAll cX8_readAll 4 (some .boolean) 32 807 (fun ad => [.ref (ad 128), .ref (ad 4), .int (Int32.ofInt 0)]) μ (fun r μ' => hd_Q t n lim (hq_jn t n lim 11 (hq_on t n lim nm (rd 0).toNat (rd 1).toNat 8) pz o) r μ' ∧ hd_R μ' ∧ xw_F [(129, 2, 9), (132, 4, 5), (133, 0, 39), (134, 0, 39), (135, 0, 39)] μ μ') :=
  xw_of (by decide +kernel) (fun _ => Nat.le_of_ble_eq_true rfl) (fun p e s m args below meth c D dA A al w0 sz C0 hU hO hKL hr hlk hA => by
    have b_μ := hS.2.2.2.2.2.1
    have hp9_μ := hT.1
    have c2_μ := hT.2.1
    have c3_μ := hT.2.2.1
    have hpl_μ := hp_plb (t := t) (lim := lim) hp9_μ
    have hkb_μ := hp_kb t n lim pz
    have kk_μ := hd_kk hT
    have hkw_μ := hp_kwb (hp_w t n pz)
    have k0 := hK.1
    have k1 := hK.2.1
    refine xw_aload_n (pc := 0) C0 0 dX8_readAll_0 rfl rfl ?_
    refine xw_aload_n (pc := 1) C0 1 dX8_readAll_1 rfl rfl ?_
    refine xw_iload_n (pc := 2) C0 2 dX8_readAll_2 rfl rfl ?_
    refine xw_callVI (pc := 3) (μ := μ) (ci := 8) (rest := []) (As := [.ref (xw_ad al 4), .int (Int32.ofInt 0)]) C0 hU hO sa_Tg hKL (xs_on8 (l := l) (rd := rd) (nm := nm) hS hT hw hH hK hN ho hR) tv_1035 dX8_readAll_3 tv_1032 tv_1034 tq_X8_readOne tv_11 rfl yb_X8_readOne (by decide +kernel) rfl rfl rfl (by decide +kernel) (Nat.le_of_ble_eq_true rfl) (xj_128 hKL) xk_68 (fun r1 m1 w1 => ?_)
    obtain ⟨w1, hR_m1, F1⟩ := w1
    rcases w1 with ⟨p1, o1, eo1, rfl, hT_m1, hw_m1, hN_m1, ho1⟩ | ⟨e1, eo1, rfl, W1⟩
    · have hS_m1 := hd_SF hS F1 (by decide +kernel)
      have hH_m1 := hd_HF hH F1 (by decide +kernel)
      refine xw_if_ne (pc := 6) (tgt := 11) C0 (by omega) dX8_readAll_6 rfl (fun b2 => ?_) (fun b2 => ?_)
      · refine xw_iconst (pc := 11) C0 dX8_readAll_11 ?_
        refine xw_istore_n (pc := 12) (L' := [(3, .int (Int32.ofInt 0)), (0, .ref (xw_ad al 128)), (1, .ref (xw_ad al 4)), (2, .int (Int32.ofInt 0))]) C0 dX8_readAll_12 rfl (by decide +kernel) rfl ?_
        refine xw_pk [1, 2, 3, 0] (L' := [(0, .ref (xw_ad al 128)), (1, .ref (xw_ad al 4)), (2, .int (Int32.ofInt 0)), (3, .int (Int32.ofInt ((0 : Nat) : Int)))]) rfl ?_
        refine xs_alL8 (rd := rd) (nm := nm) (res := hq_lp t n lim 11 (hq_on t n lim nm (rd 0).toNat (rd 1).toNat 8) 20 p1 o1) (μ := m1) C0 hU hO hKL hK (fun ξ p9 o9 q0 q1 q2 q3 q4 q5 q6 q7 => ?_) (fun ξ e9 q1 q2 q3 q4 => ?_) 21 0 m1 p1 o1 (by omega) (Nat.zero_le _) hS_m1 hT_m1 hw_m1 hH_m1 hN_m1 ho1 hR_m1 rfl xw_F.rf
        · refine xw_iconst (pc := 67) C0 dX8_readAll_67 ?_
          refine xw_iret C0 hA hr hlk rfl dX8_readAll_68 ?_
          exact ⟨_, rfl, Or.inl ⟨_, _, (hq_jnR eo1).trans q6, rfl, q1, q2, q3, q4⟩, q5, (((xw_F.rf (ML := [(129, 2, 9), (132, 4, 5), (133, 0, 39), (134, 0, 39), (135, 0, 39)])).tr F1 (fun j i h => xw_o_sub (by decide +kernel) j i h))).tr q7 (fun j i h => h)⟩
        · refine xw_iconst (pc := 47) C0 dX8_readAll_47 ?_
          refine xw_iret C0 hA hr hlk rfl dX8_readAll_48 ?_
          exact ⟨_, rfl, Or.inr ⟨_, (hq_jnR eo1).trans q3, rfl, q1⟩, q2, (((xw_F.rf (ML := [(129, 2, 9), (132, 4, 5), (133, 0, 39), (134, 0, 39), (135, 0, 39)])).tr F1 (fun j i h => xw_o_sub (by decide +kernel) j i h))).tr q4 (fun j i h => h)⟩
      · exfalso
        omega
    · refine xw_if_ne (pc := 6) (tgt := 11) C0 (by omega) dX8_readAll_6 rfl (fun b3 => ?_) (fun b3 => ?_)
      · exfalso
        omega
      · refine xw_iconst (pc := 9) C0 dX8_readAll_9 ?_
        refine xw_iret C0 hA hr hlk rfl dX8_readAll_10 ?_
        exact ⟨_, rfl, Or.inr ⟨_, hq_jnL eo1, rfl, W1⟩, hR_m1, ((xw_F.rf (ML := [(129, 2, 9), (132, 4, 5), (133, 0, 39), (134, 0, 39), (135, 0, 39)])).tr F1 (fun j i h => xw_o_sub (by decide +kernel) j i h))⟩)
set_option maxRecDepth 20000 in
set_option maxHeartbeats 20000000 in
theorem xs_coL8 {l : Launch} {p : Program} {e : Env} {s : State} {m : MethodId} {args : Array Value} {below : List Frame} {meth : Method} {c : Code} {Q : State → Prop} {D : va_G} {dA : Nat → ClassId} {A : Nat → Prop} {al : List (Nat × Nat)} (C0 : sa_C p s m args c D dA A 4 vwCl sa_Ts cX8_readCond yX8_readCond.cls) (hU : sa_U D vwCl dA s) (hO : tb_Ou A s s.heap) (hKL : al.map Prod.snd = tc_KL) {t rd nm : Nat → Int} {n lim : Nat} {res : hq_R} {μ : xw_M} (hK : hp_ok rd nm) (kx : ∀ (ν : xw_M) (p9 o9 : Nat), hd_S t n lim ν → hd_T t n lim p9 ν → ν 129 8 = 0 → ν 132 5 = (o9 : Int) → o9 ≤ 20 → hd_R ν → res = .inr (p9, o9) → xw_F [(129, 2, 9), (132, 4, 5), (133, 0, 39), (134, 0, 39), (135, 0, 39)] μ ν → xw_W p l e { frames := 33, cells := 0, slots := 0, locals := 830 } s m args below meth c Q D dA A 4 vwCl tb_KT0 al 0 0 ν 67 [] []) (kw : ∀ (ν : xw_M) (e9 : hp_E), hd_W e9 ν → hd_R ν → res = .inl e9 → xw_F [(129, 2, 9), (132, 4, 5), (133, 0, 39), (134, 0, 39), (135, 0, 39)] μ ν → xw_W p l e { frames := 33, cells := 0, slots := 0, locals := 830 } s m args below meth c Q D dA A 4 vwCl tb_KT0 al 0 0 ν 47 [] []) : ∀ (fu9 : Nat) (i : Nat) (ν : xw_M) (pz o : Nat), 20 - (i : Int) < (fu9 : Int) → i ≤ 20 → hd_S t n lim ν → hd_T t n lim pz ν → ν 129 8 = 0 → hd_H rd nm ν → ν 132 5 = (o : Int) → o ≤ 20 → hd_R ν → hq_lp t n lim 10 (hq_jn t n lim 11 (hq_on t n lim nm (rd 0).toNat (rd 1).toNat 8)) (20 - i) pz o = res → xw_F [(129, 2, 9), (132, 4, 5), (133, 0, 39), (134, 0, 39), (135, 0, 39)] μ ν → xw_W p l e { frames := 33, cells := 0, slots := 0, locals := 830 } s m args below meth c Q D dA A 4 vwCl tb_KT0 al 0 0 ν 13 [(0, .ref (xw_ad al 128)), (1, .ref (xw_ad al 4)), (2, .int (Int32.ofInt 0)), (3, .int (Int32.ofInt (i : Int)))] [] := by
  intro fu9
  induction fu9 with
  | zero => intro i ν pz o hm hi hS_ν hT_ν hw_ν hH_ν hN_ν ho hR_ν hq hF; exfalso; omega
  | succ fu9 ih =>
    intro i ν pz o hm hi hS_ν hT_ν hw_ν hH_ν hN_ν ho hR_ν hq hF
    have b_ν := hS_ν.2.2.2.2.2.1
    have hp9_ν := hT_ν.1
    have c2_ν := hT_ν.2.1
    have c3_ν := hT_ν.2.2.1
    have hpl_ν := hp_plb (t := t) (lim := lim) hp9_ν
    have hkb_ν := hp_kb t n lim pz
    have kk_ν := hd_kk hT_ν
    have hkw_ν := hp_kwb (hp_w t n pz)
    have k0 := hK.1
    have k1 := hK.2.1
    refine xw_iload_n (pc := 13) C0 3 dX8_readCond_13 rfl rfl ?_
    refine xw_bipush (pc := 14) C0 dX8_readCond_14 (by decide +kernel) ?_
    refine xw_icmp_ge (pc := 16) (tgt := 67) C0 (by omega) (by omega) dX8_readCond_16 rfl (fun b1 => ?_) (fun b1 => ?_)
    · refine xw_pk [] (L' := []) rfl ?_
      exact kx ν pz o hS_ν hT_ν hw_ν hN_ν ho hR_ν (by first | (rw [show 20 - i = 0 by omega, hq_lp0] at hq; exact hq.symm) | (rw [hq_lpN (by omega)] at hq; exact hq.symm)) hF
    · refine xw_aload_n (pc := 19) C0 0 dX8_readCond_19 rfl rfl ?_
      refine xw_getR (pc := 20) (f := 0) C0 129 kcX8 dX8_readCond_20 (by decide +kernel) tv_381 (xj_128 hKL) xk_68 rfl ((rfl).trans (xe_128_0 hS_ν.1)) ?_
      refine xw_getI (pc := 23) (f := 6) (z := ν 129 6) C0 kcX6 dX8_readCond_23 (by decide +kernel) tv_298 (xj_129 hKL) xk_17 rfl (rfl) (fun g2 k2 => ?_)
      refine xw_bipush (pc := 26) C0 dX8_readCond_26 (by decide +kernel) ?_
      refine xw_icmp_ne (pc := 28) (tgt := 67) C0 (by omega) (by omega) dX8_readCond_28 rfl (fun b3 => ?_) (fun b3 => ?_)
      · refine xw_pk [] (L' := []) rfl ?_
        exact kx ν pz o hS_ν hT_ν hw_ν hN_ν ho hR_ν (by first | (rw [show 20 - i = 0 by omega, hq_lp0] at hq; exact hq.symm) | (rw [hq_lpN (by omega)] at hq; exact hq.symm)) hF
      · refine xw_aload_n (pc := 31) C0 0 dX8_readCond_31 rfl rfl ?_
        refine xw_getR (pc := 32) (f := 0) C0 129 kcX8 dX8_readCond_32 (by decide +kernel) tv_381 (xj_128 hKL) xk_68 rfl ((rfl).trans (xe_128_0 hS_ν.1)) ?_
        refine xw_callVV (pc := 35) (μ := ν) (ci := 6) (rest := []) (As := []) C0 hU hO sa_Tg hKL (xd_step (l := l) (t := t) (n := n) (lim := lim) (pz := hp_x t n pz) hS_ν (hT_ν.2.2.2.2.2.2.2 (by omega)) (hp_xb (lim := lim) hT_ν.1 (by omega))) tv_509 dX8_readCond_35 tv_1042 tv_507 tv_508 tv_9 rfl yb_X6_step (by decide +kernel) rfl rfl rfl (by decide +kernel) (Nat.le_of_ble_eq_true rfl) (xj_129 hKL) xk_17 (fun m4 w4 => ?_)
        obtain ⟨hT_m4, F4⟩ := w4
        have hS_m4 := hd_SF hS_ν F4 (by decide +kernel)
        have hw_m4 : m4 129 8 = 0 := (F4 129 8 rfl).trans hw_ν
        have hH_m4 := hd_HF hH_ν F4 (by decide +kernel)
        have hN_m4 : m4 132 5 = ((o : Nat) : Int) := (F4 132 5 rfl).trans hN_ν
        have hR_m4 := hd_RF hR_ν F4 (by decide +kernel)
        refine xw_aload_n (pc := 38) C0 0 dX8_readCond_38 rfl rfl ?_
        refine xw_aload_n (pc := 39) C0 1 dX8_readCond_39 rfl rfl ?_
        refine xw_iload_n (pc := 40) C0 2 dX8_readCond_40 rfl rfl ?_
        refine xw_callVI (pc := 41) (μ := m4) (ci := 8) (rest := []) (As := [.ref (xw_ad al 4), .int (Int32.ofInt 0)]) C0 hU hO sa_Tg hKL (xs_al8 (l := l) (rd := rd) (nm := nm) hS_m4 hT_m4 hw_m4 hH_m4 hK hN_m4 ho hR_m4) tv_1031 dX8_readCond_41 tv_1028 tv_1030 tq_X8_readAll tv_11 rfl yb_X8_readAll (by decide +kernel) rfl rfl rfl (by decide +kernel) (Nat.le_of_ble_eq_true rfl) (xj_128 hKL) xk_68 (fun r5 m5 w5 => ?_)
        obtain ⟨w5, hR_m5, F5⟩ := w5
        rcases w5 with ⟨p5, o5, eo5, rfl, hT_m5, hw_m5, hN_m5, ho5⟩ | ⟨e5, eo5, rfl, W5⟩
        · have hS_m5 := hd_SF hS_m4 F5 (by decide +kernel)
          have hH_m5 := hd_HF hH_m4 F5 (by decide +kernel)
          refine xw_if_ne (pc := 44) (tgt := 49) C0 (by omega) dX8_readCond_44 rfl (fun b6 => ?_) (fun b6 => ?_)
          · refine xw_aload_n (pc := 49) C0 0 dX8_readCond_49 rfl rfl ?_
            refine xw_getR (pc := 50) (f := 1) C0 132 kcX8 dX8_readCond_50 (by decide +kernel) tv_383 (xj_128 hKL) xk_68 rfl (((F5 128 1 rfl).trans ((F4 128 1 rfl).trans rfl)).trans (xe_128_1 hS_ν.1)) ?_
            refine xw_bipush (pc := 53) C0 dX8_readCond_53 (by decide +kernel) ?_
            refine xw_iconst (pc := 55) C0 dX8_readCond_55 ?_
            refine xw_iconst (pc := 56) C0 dX8_readCond_56 ?_
            refine xw_callVI (pc := 57) (μ := m5) (ci := 7) (rest := []) (As := [.int (Int32.ofInt 10), .int (Int32.ofInt 0), .int (Int32.ofInt 0)]) C0 hU hO sa_Tg hKL (xs_add (l := l) (w9 := 10) (g9 := 0) (v9 := 0) (μ := m5) hS_m5.1 hR_m5 (by omega) (by omega) (by omega) (by omega) (by omega)) tv_1051 dX8_readCond_57 tv_1048 tv_1049 tv_1050 tv_6 rfl yb_X7_addStep (by decide +kernel) rfl rfl rfl (by decide +kernel) (Nat.le_of_ble_eq_true rfl) (xj_132 hKL) xk_3 (fun r7 m7 w7 => ?_)
            obtain ⟨rfl, hR_m7, F7⟩ := w7
            have hS_m7 := hd_SF hS_m5 F7 (by decide +kernel)
            have hT_m7 := hd_TF hT_m5 F7 (by decide +kernel)
            have hw_m7 : m7 129 8 = 0 := (F7 129 8 rfl).trans hw_m5
            have hH_m7 := hd_HF hH_m5 F7 (by decide +kernel)
            have hN_m7 : m7 132 5 = ((o5 : Nat) : Int) := (F7 132 5 rfl).trans hN_m5
            refine xw_pop (pc := 60) C0 dX8_readCond_60 rfl ?_
            refine xw_iinc (pc := 61) (L' := [(3, .int (Int32.ofInt ((i : Int) + 1))), (0, .ref (xw_ad al 128)), (1, .ref (xw_ad al 4)), (2, .int (Int32.ofInt 0))]) C0 3 dX8_readCond_61 rfl (by decide +kernel) rfl ?_
            refine xw_goto (pc := 64) (tgt := 13) C0 dX8_readCond_64 rfl ?_
            have e9 : 20 - i = (20 - (i + 1)) + 1 := by omega
            rw [e9, hq_lpR (by omega) eo5] at hq
            have e1 : (i : Int) + 1 = ((i + 1 : Nat) : Int) := by omega
            rw [e1]
            refine xw_pk [1, 2, 3, 0] (L' := [(0, .ref (xw_ad al 128)), (1, .ref (xw_ad al 4)), (2, .int (Int32.ofInt 0)), (3, .int (Int32.ofInt ((i + 1 : Nat) : Int)))]) rfl ?_
            exact ih (i + 1) m7 p5 o5 (by omega) (by omega) hS_m7 hT_m7 hw_m7 hH_m7 hN_m7 ho5 hR_m7 hq (hF.tr ((((xw_F.rf (ML := [(129, 2, 9), (132, 4, 5), (133, 0, 39), (134, 0, 39), (135, 0, 39)])).tr F4 (fun j i h => xw_o_sub (by decide +kernel) j i h)).tr F5 (fun j i h => xw_o_sub (by decide +kernel) j i h)).tr F7 (fun j i h => xw_o_sub (by decide +kernel) j i h)) (fun j i h => h))
          · exfalso
            omega
        · refine xw_if_ne (pc := 44) (tgt := 49) C0 (by omega) dX8_readCond_44 rfl (fun b8 => ?_) (fun b8 => ?_)
          · exfalso
            omega
          · refine xw_pk [] (L' := []) rfl ?_
            have e9 : 20 - i = (20 - (i + 1)) + 1 := by omega
            rw [e9, hq_lpL (by omega) eo5] at hq
            exact kw m5 e5 W5 hR_m5 hq.symm (hF.tr (((xw_F.rf (ML := [(129, 2, 9), (132, 4, 5), (133, 0, 39), (134, 0, 39), (135, 0, 39)])).tr F4 (fun j i h => xw_o_sub (by decide +kernel) j i h)).tr F5 (fun j i h => xw_o_sub (by decide +kernel) j i h)) (fun j i h => h))
set_option maxRecDepth 20000 in
set_option maxHeartbeats 20000000 in
theorem xs_co8 {l : Launch} {t rd nm : Nat → Int} {n lim pz o : Nat} {μ : xw_M} (hS : hd_S t n lim μ) (hT : hd_T t n lim pz μ) (hw : μ 129 8 = 0) (hH : hd_H rd nm μ) (hK : hp_ok rd nm) (hN : μ 132 5 = (o : Int)) (ho : o ≤ 20) (hR : hd_R μ) : xw_MetI l vwCl sa_Ts tb_KT0 tc_KL yX8_readCond cX8_readCond 4 (some .boolean) 33 830 (fun ad => [.ref (ad 128), .ref (ad 4), .int (Int32.ofInt 0)]) μ (fun r μ' => hd_Q t n lim (hq_jn t n lim 10 (hq_jn t n lim 11 (hq_on t n lim nm (rd 0).toNat (rd 1).toNat 8)) pz o) r μ' ∧ hd_R μ' ∧ xw_F [(129, 2, 9), (132, 4, 5), (133, 0, 39), (134, 0, 39), (135, 0, 39)] μ μ') :=
  xw_of (by decide +kernel) (fun _ => Nat.le_of_ble_eq_true rfl) (fun p e s m args below meth c D dA A al w0 sz C0 hU hO hKL hr hlk hA => by
    have b_μ := hS.2.2.2.2.2.1
    have hp9_μ := hT.1
    have c2_μ := hT.2.1
    have c3_μ := hT.2.2.1
    have hpl_μ := hp_plb (t := t) (lim := lim) hp9_μ
    have hkb_μ := hp_kb t n lim pz
    have kk_μ := hd_kk hT
    have hkw_μ := hp_kwb (hp_w t n pz)
    have k0 := hK.1
    have k1 := hK.2.1
    refine xw_aload_n (pc := 0) C0 0 dX8_readCond_0 rfl rfl ?_
    refine xw_aload_n (pc := 1) C0 1 dX8_readCond_1 rfl rfl ?_
    refine xw_iload_n (pc := 2) C0 2 dX8_readCond_2 rfl rfl ?_
    refine xw_callVI (pc := 3) (μ := μ) (ci := 8) (rest := []) (As := [.ref (xw_ad al 4), .int (Int32.ofInt 0)]) C0 hU hO sa_Tg hKL (xs_al8 (l := l) (rd := rd) (nm := nm) hS hT hw hH hK hN ho hR) tv_1031 dX8_readCond_3 tv_1028 tv_1030 tq_X8_readAll tv_11 rfl yb_X8_readAll (by decide +kernel) rfl rfl rfl (by decide +kernel) (Nat.le_of_ble_eq_true rfl) (xj_128 hKL) xk_68 (fun r1 m1 w1 => ?_)
    obtain ⟨w1, hR_m1, F1⟩ := w1
    rcases w1 with ⟨p1, o1, eo1, rfl, hT_m1, hw_m1, hN_m1, ho1⟩ | ⟨e1, eo1, rfl, W1⟩
    · have hS_m1 := hd_SF hS F1 (by decide +kernel)
      have hH_m1 := hd_HF hH F1 (by decide +kernel)
      refine xw_if_ne (pc := 6) (tgt := 11) C0 (by omega) dX8_readCond_6 rfl (fun b2 => ?_) (fun b2 => ?_)
      · refine xw_iconst (pc := 11) C0 dX8_readCond_11 ?_
        refine xw_istore_n (pc := 12) (L' := [(3, .int (Int32.ofInt 0)), (0, .ref (xw_ad al 128)), (1, .ref (xw_ad al 4)), (2, .int (Int32.ofInt 0))]) C0 dX8_readCond_12 rfl (by decide +kernel) rfl ?_
        refine xw_pk [1, 2, 3, 0] (L' := [(0, .ref (xw_ad al 128)), (1, .ref (xw_ad al 4)), (2, .int (Int32.ofInt 0)), (3, .int (Int32.ofInt ((0 : Nat) : Int)))]) rfl ?_
        refine xs_coL8 (rd := rd) (nm := nm) (res := hq_lp t n lim 10 (hq_jn t n lim 11 (hq_on t n lim nm (rd 0).toNat (rd 1).toNat 8)) 20 p1 o1) (μ := m1) C0 hU hO hKL hK (fun ξ p9 o9 q0 q1 q2 q3 q4 q5 q6 q7 => ?_) (fun ξ e9 q1 q2 q3 q4 => ?_) 21 0 m1 p1 o1 (by omega) (Nat.zero_le _) hS_m1 hT_m1 hw_m1 hH_m1 hN_m1 ho1 hR_m1 rfl xw_F.rf
        · refine xw_iconst (pc := 67) C0 dX8_readCond_67 ?_
          refine xw_iret C0 hA hr hlk rfl dX8_readCond_68 ?_
          exact ⟨_, rfl, Or.inl ⟨_, _, (hq_jnR eo1).trans q6, rfl, q1, q2, q3, q4⟩, q5, (((xw_F.rf (ML := [(129, 2, 9), (132, 4, 5), (133, 0, 39), (134, 0, 39), (135, 0, 39)])).tr F1 (fun j i h => xw_o_sub (by decide +kernel) j i h))).tr q7 (fun j i h => h)⟩
        · refine xw_iconst (pc := 47) C0 dX8_readCond_47 ?_
          refine xw_iret C0 hA hr hlk rfl dX8_readCond_48 ?_
          exact ⟨_, rfl, Or.inr ⟨_, (hq_jnR eo1).trans q3, rfl, q1⟩, q2, (((xw_F.rf (ML := [(129, 2, 9), (132, 4, 5), (133, 0, 39), (134, 0, 39), (135, 0, 39)])).tr F1 (fun j i h => xw_o_sub (by decide +kernel) j i h))).tr q4 (fun j i h => h)⟩
      · exfalso
        omega
    · refine xw_if_ne (pc := 6) (tgt := 11) C0 (by omega) dX8_readCond_6 rfl (fun b3 => ?_) (fun b3 => ?_)
      · exfalso
        omega
      · refine xw_iconst (pc := 9) C0 dX8_readCond_9 ?_
        refine xw_iret C0 hA hr hlk rfl dX8_readCond_10 ?_
        exact ⟨_, rfl, Or.inr ⟨_, hq_jnL eo1, rfl, W1⟩, hR_m1, ((xw_F.rf (ML := [(129, 2, 9), (132, 4, 5), (133, 0, 39), (134, 0, 39), (135, 0, 39)])).tr F1 (fun j i h => xw_o_sub (by decide +kernel) j i h))⟩)
set_option maxRecDepth 20000 in
set_option maxHeartbeats 20000000 in
theorem xs_clear {l : Launch} {μ : xw_M} (hG : xw_G xw_GL μ) : xw_MetV l vwCl sa_Ts tb_KT0 tc_KL yX7_clear cX7_clear 1 none 2 120 (fun ad => [.ref (ad 132)]) μ (fun μ' => μ' 132 5 = 0 ∧ xw_F [(132, 4, 5)] μ μ') :=
  xw_of (by decide +kernel) (fun _ => Nat.le_of_ble_eq_true rfl) (fun p e s m args below meth c D dA A al w0 sz C0 hU hO hKL hr hlk hA => by
    refine xw_aload_n (pc := 0) C0 0 dX7_clear_0 rfl rfl ?_
    refine xw_iconst (pc := 1) C0 dX7_clear_1 ?_
    refine xw_putI (pc := 2) (f := 4) C0 kcX7 dX7_clear_2 (by decide +kernel) tv_216 rfl rfl (xj_132 hKL) xk_3 rfl (by omega) (by omega) ?_
    refine xw_aload_n (pc := 5) C0 0 dX7_clear_5 rfl rfl ?_
    refine xw_iconst (pc := 6) C0 dX7_clear_6 ?_
    refine xw_putI (pc := 7) (f := 5) C0 kcX7 dX7_clear_7 (by decide +kernel) tv_217 rfl rfl (xj_132 hKL) xk_3 rfl (by omega) (by omega) ?_
    refine xw_vret C0 hA hr hlk dX7_clear_10 ?_
    have Ft1 : xw_F [(132, 4, 4), (132, 5, 5)] μ (xw_u (xw_u μ 132 4 0) 132 5 0) := (((xw_F.rf (ML := [(132, 4, 4), (132, 5, 5)])).u (show (132, 4, 4) ∈ _ by decide) ⟨by decide, by decide⟩).u (show (132, 5, 5) ∈ _ by decide) ⟨by decide, by decide⟩)
    have vt1_132_5 : (xw_u (xw_u μ 132 4 0) 132 5 0) 132 5 = 0 := xw_ug
    have vt1_132_4 : (xw_u (xw_u μ 132 4 0) 132 5 0) 132 4 = 0 := (xw_un (by decide +kernel)).trans xw_ug
    generalize (xw_u (xw_u μ 132 4 0) 132 5 0) = t1 at Ft1 vt1_132_5 vt1_132_4 ⊢
    exact ⟨rfl, vt1_132_5, ((xw_F.rf (ML := [(132, 4, 5)])).tr Ft1 (fun j i h => xw_o_sub (by decide +kernel) j i h))⟩)
set_option maxRecDepth 20000 in
set_option maxHeartbeats 20000000 in
theorem xs_rs {l : Launch} {t rd nm : Nat → Int} {n : Nat} {μ : xw_M} (hG : xw_G xw_GL μ) (ht : ∀ i : Nat, μ 2 i % 256 = t i) (hn : μ 1 1 = (n : Int)) (hn9 : n ≤ 940) (hH : hd_H rd nm μ) (hK : hp_ok rd nm) (hR : hd_R μ) : xw_MetI l vwCl sa_Ts tb_KT0 tc_KL yX8_readSentence cX8_readSentence 3 (some .boolean) 34 853 (fun ad => [.ref (ad 128), .ref (ad 1), .ref (ad 4)]) μ (fun r μ' => ((∃ o : Nat, hq_se t n nm (rd 0).toNat (rd 1).toNat = .inr o ∧ r = 1 ∧ μ' 132 5 = (o : Int) ∧ o ≤ 20) ∨ (∃ e9 : hp_E, hq_se t n nm (rd 0).toNat (rd 1).toNat = .inl e9 ∧ r = 0 ∧ hd_W e9 μ')) ∧ hd_R μ' ∧ xw_F [(129, 0, 9), (132, 4, 5), (133, 0, 39), (134, 0, 39), (135, 0, 39)] μ μ') :=
  xw_of (by decide +kernel) (fun _ => Nat.le_of_ble_eq_true rfl) (fun p e s m args below meth c D dA A al w0 sz C0 hU hO hKL hr hlk hA => by
    refine xw_aload_n (pc := 0) C0 0 dX8_readSentence_0 rfl rfl ?_
    refine xw_getR (pc := 1) (f := 1) C0 132 kcX8 dX8_readSentence_1 (by decide +kernel) tv_383 (xj_128 hKL) xk_68 rfl ((rfl).trans (xe_128_1 hG)) ?_
    refine xw_callVV (pc := 4) (μ := μ) (ci := 7) (rest := []) (As := []) C0 hU hO sa_Tg hKL (xs_clear (l := l) hG) tv_637 dX8_readSentence_4 tv_1022 tv_635 tv_636 tv_6 rfl yb_X7_clear (by decide +kernel) rfl rfl rfl (by decide +kernel) (Nat.le_of_ble_eq_true rfl) (xj_132 hKL) xk_3 (fun m1 w1 => ?_)
    obtain ⟨z1, F1⟩ := w1
    have hG_m1 := xw_GF hG F1 (by decide +kernel)
    refine xw_aload_n (pc := 7) C0 0 dX8_readSentence_7 rfl rfl ?_
    refine xw_getR (pc := 8) (f := 0) C0 129 kcX8 dX8_readSentence_8 (by decide +kernel) tv_381 (xj_128 hKL) xk_68 rfl (((F1 128 0 rfl).trans rfl).trans (xe_128_0 hG)) ?_
    refine xw_aload_n (pc := 11) C0 1 dX8_readSentence_11 rfl rfl ?_
    refine xw_sipush (pc := 12) C0 dX8_readSentence_12 (by decide +kernel) ?_
    refine xw_callVV (pc := 15) (μ := m1) (ci := 6) (rest := []) (As := [.ref (xw_ad al 1), .int (Int32.ofInt ((200 : Nat) : Int))]) C0 hU hO sa_Tg hKL (xd_start (l := l) (t := t) (n := n) (lim := 200) hG_m1 (fun i => by rw [F1 2 i (xw_oj (by decide +kernel) i)]; exact ht i) ((F1 1 1 rfl).trans hn) hn9 (by decide +kernel)) tv_505 dX8_readSentence_15 tv_1023 tv_503 tv_504 tv_9 rfl yb_X6_start (by decide +kernel) rfl rfl rfl (by decide +kernel) (Nat.le_of_ble_eq_true rfl) (xj_129 hKL) xk_17 (fun m2 w2 => ?_)
    obtain ⟨hS_m2, hT_m2, hw_m2, F2⟩ := w2
    have hH_m2 := hd_HF (hd_HF hH F1 (by decide +kernel)) F2 (by decide +kernel)
    have hN_m2 : m2 132 5 = ((0 : Nat) : Int) := (F2 132 5 rfl).trans z1
    have hR_m2 := hd_RF (hd_RF hR F1 (by decide +kernel)) F2 (by decide +kernel)
    refine xw_aload_n (pc := 18) C0 0 dX8_readSentence_18 rfl rfl ?_
    refine xw_aload_n (pc := 19) C0 2 dX8_readSentence_19 rfl rfl ?_
    refine xw_iconst (pc := 20) C0 dX8_readSentence_20 ?_
    refine xw_callVI (pc := 21) (μ := m2) (ci := 8) (rest := []) (As := [.ref (xw_ad al 4), .int (Int32.ofInt 0)]) C0 hU hO sa_Tg hKL (xs_co8 (l := l) (pz := 0) (o := 0) (rd := rd) (nm := nm) hS_m2 hT_m2 hw_m2 hH_m2 hK hN_m2 (by decide +kernel) hR_m2) tv_1027 dX8_readSentence_21 tv_1024 tv_1026 tq_X8_readCond tv_11 rfl yb_X8_readCond (by decide +kernel) rfl rfl rfl (by decide +kernel) (Nat.le_of_ble_eq_true rfl) (xj_128 hKL) xk_68 (fun r3 m3 w3 => ?_)
    obtain ⟨w3, hR_m3, F3⟩ := w3
    rcases w3 with ⟨p3, o3, eo3, rfl, hT_m3, hw_m3, hN_m3, ho3⟩ | ⟨e3, eo3, rfl, W3⟩
    · have hS_m3 := hd_SF hS_m2 F3 (by decide +kernel)
      have hH_m3 := hd_HF hH_m2 F3 (by decide +kernel)
      have c2_m3 := hT_m3.2.1
      refine xw_if_eq (pc := 24) (tgt := 52) C0 (by omega) dX8_readSentence_24 rfl (fun b4 => ?_) (fun b4 => ?_)
      · exfalso
        omega
      · refine xw_aload_n (pc := 27) C0 0 dX8_readSentence_27 rfl rfl ?_
        refine xw_getR (pc := 28) (f := 0) C0 129 kcX8 dX8_readSentence_28 (by decide +kernel) tv_381 (xj_128 hKL) xk_68 rfl (((F3 128 0 rfl).trans ((F2 128 0 rfl).trans ((F1 128 0 rfl).trans rfl))).trans (xe_128_0 hG)) ?_
        refine xw_getI (pc := 31) (f := 2) (z := m3 129 2) C0 kcX6 dX8_readSentence_31 (by decide +kernel) tv_288 (xj_129 hKL) xk_17 rfl (rfl) (fun g5 k5 => ?_)
        refine xw_if_eq (pc := 34) (tgt := 48) C0 (by omega) dX8_readSentence_34 rfl (fun b6 => ?_) (fun b6 => ?_)
        · refine xw_iconst (pc := 48) C0 dX8_readSentence_48 ?_
          refine xw_goto (pc := 49) (tgt := 53) C0 dX8_readSentence_49 rfl ?_
          refine xw_iret C0 hA hr hlk rfl dX8_readSentence_53 ?_
          have eq : hq_se t n nm (rd 0).toNat (rd 1).toNat = .inr o3 := by
            unfold hq_se
            rw [eo3, hq_bdr, if_pos (by omega)]
          exact ⟨_, rfl, Or.inl ⟨_, eq, rfl, hN_m3, ho3⟩, hR_m3, ((((xw_F.rf (ML := [(129, 0, 9), (132, 4, 5), (133, 0, 39), (134, 0, 39), (135, 0, 39)])).tr F1 (fun j i h => xw_o_sub (by decide +kernel) j i h)).tr F2 (fun j i h => xw_o_sub (by decide +kernel) j i h)).tr F3 (fun j i h => xw_o_sub (by decide +kernel) j i h))⟩
        · refine xw_aload_n (pc := 37) C0 0 dX8_readSentence_37 rfl rfl ?_
          refine xw_getR (pc := 38) (f := 0) C0 129 kcX8 dX8_readSentence_38 (by decide +kernel) tv_381 (xj_128 hKL) xk_68 rfl (((F3 128 0 rfl).trans ((F2 128 0 rfl).trans ((F1 128 0 rfl).trans rfl))).trans (xe_128_0 hG)) ?_
          refine xw_iconst (pc := 41) C0 dX8_readSentence_41 ?_
          refine xw_callVI (pc := 42) (μ := m3) (ci := 6) (rest := []) (As := [.int (Int32.ofInt 1)]) C0 hU hO sa_Tg hKL (xd_refuse (l := l) (μ := m3) (v := 1) (by decide +kernel) (by have q3 := hT_m3.2.2.1; have q1 := hp_plb (t := t) (lim := 200) hT_m3.1; have q2 := hS_m3.2.2.2.2.2.1; omega)) tv_546 dX8_readSentence_42 tv_1041 tv_544 tv_545 tv_9 rfl yb_X6_refuse (by decide +kernel) rfl rfl rfl (by decide +kernel) (Nat.le_of_ble_eq_true rfl) (xj_129 hKL) xk_17 (fun r7 m7 w7 => ?_)
          obtain ⟨rfl, w7⟩ := w7
          rcases w7.symm with ⟨w7, -⟩ | ⟨-, x7, y7, F7⟩
          · exfalso
            omega
          have W7 : hd_W (hp_bad t n 200 1 p3) m7 := hd_Wb ⟨by decide, by decide⟩ x7 (y7.trans hT_m3.2.2.1)
          have hR_m7 := hd_RF hR_m3 F7 (by decide +kernel)
          refine xw_if_eq (pc := 45) (tgt := 52) C0 (by omega) dX8_readSentence_45 rfl (fun b8 => ?_) (fun b8 => ?_)
          · refine xw_iconst (pc := 52) C0 dX8_readSentence_52 ?_
            refine xw_iret C0 hA hr hlk rfl dX8_readSentence_53 ?_
            have eq : hq_se t n nm (rd 0).toNat (rd 1).toNat = .inl (hp_bad t n 200 1 p3) := by
              unfold hq_se
              rw [eo3, hq_bdr, if_neg (by omega)]
            exact ⟨_, rfl, Or.inr ⟨_, eq, rfl, W7⟩, hR_m7, (((((xw_F.rf (ML := [(129, 0, 9), (132, 4, 5), (133, 0, 39), (134, 0, 39), (135, 0, 39)])).tr F1 (fun j i h => xw_o_sub (by decide +kernel) j i h)).tr F2 (fun j i h => xw_o_sub (by decide +kernel) j i h)).tr F3 (fun j i h => xw_o_sub (by decide +kernel) j i h)).tr F7 (fun j i h => xw_o_sub (by decide +kernel) j i h))⟩
          · exfalso
            omega
    · refine xw_if_eq (pc := 24) (tgt := 52) C0 (by omega) dX8_readSentence_24 rfl (fun b10 => ?_) (fun b10 => ?_)
      · refine xw_iconst (pc := 52) C0 dX8_readSentence_52 ?_
        refine xw_iret C0 hA hr hlk rfl dX8_readSentence_53 ?_
        have eq : hq_se t n nm (rd 0).toNat (rd 1).toNat = .inl e3 := by
          unfold hq_se
          rw [eo3]
          rfl
        exact ⟨_, rfl, Or.inr ⟨_, eq, rfl, W3⟩, hR_m3, ((((xw_F.rf (ML := [(129, 0, 9), (132, 4, 5), (133, 0, 39), (134, 0, 39), (135, 0, 39)])).tr F1 (fun j i h => xw_o_sub (by decide +kernel) j i h)).tr F2 (fun j i h => xw_o_sub (by decide +kernel) j i h)).tr F3 (fun j i h => xw_o_sub (by decide +kernel) j i h))⟩
      · exfalso
        omega)
