set_option maxRecDepth 20000 in
set_option maxHeartbeats 20000000 in
theorem xq_wd2L {l : Launch} {p : Program} {e : Env} {s : State} {m : MethodId} {args : Array Value} {below : List Frame} {meth : Method} {c : Code} {Q : State → Prop} {D : va_G} {dA : Nat → ClassId} {A : Nat → Prop} {al : List (Nat × Nat)} (C0 : sa_C p s m args c D dA A 6 vwCl sa_Ts cX5_weighDeed yX5_weighDeed.cls) (hU : sa_U D vwCl dA s) (hO : tb_Ou A s s.heap) (hKL : al.map Prod.snd = tc_KL) {v nm W : Nat → Int} {d : Nat} {μ : xw_M} (hG : xw_G xw_GL μ) (hK : hp_ok v nm) (hE : hx_E v 4 μ) (hW : ∀ f : Nat, f < 8 → 0 ≤ W f ∧ W f ≤ 171072) (hd : d ≤ 2) (hP : ∀ f : Nat, f < 8 → μ 140 (16 + f) = W f) (kx : ∀ ν : xw_M, (∀ i : Nat, i < 8 → ν 140 (24 + i) = hx_nw v W d i) → xw_F [(140, 24, 31)] μ ν → xw_G xw_GL ν → xw_W p l e { frames := 3, cells := 0, slots := 0, locals := 142 } s m args below meth c Q D dA A 6 vwCl tb_KT0 al 0 0 ν 56 [(0, .ref (xw_ad al 137))] []) : ∀ (fu9 : Nat) (f : Nat) (ν : xw_M), 8 - (f : Int) < (fu9 : Int) → f ≤ 8 → (∀ i : Nat, i < f → ν 140 (24 + i) = hx_nw v W d i) → xw_F [(140, 24, 31)] μ ν → xw_G xw_GL ν → xw_W p l e { frames := 3, cells := 0, slots := 0, locals := 142 } s m args below meth c Q D dA A 6 vwCl tb_KT0 al 0 0 ν 3 [(0, .ref (xw_ad al 137)), (1, .ref (xw_ad al 4)), (2, .int (Int32.ofInt 2)), (3, .int (Int32.ofInt (d : Int))), (4, .int (Int32.ofInt (f : Int)))] [] := by
  intro fu9
  induction fu9 with
  | zero => intro f ν hm hf hz hF hG_ν; exfalso; omega
  | succ fu9 ih =>
    intro f ν hm hf hz hF hG_ν
    have n8 : f < 8 → 0 ≤ hx_nw v W d f ∧ hx_nw v W d f ≤ 171072 := fun q => hx_nwB hK hd q (hW f q)
    refine xw_iload (pc := 3) C0 4 dX5_weighDeed_3 rfl ?_
    refine xw_bipush (pc := 5) C0 dX5_weighDeed_5 (by decide +kernel) ?_
    refine xw_icmp_ge (pc := 7) (tgt := 56) C0 (by omega) (by omega) dX5_weighDeed_7 rfl (fun b1 => ?_) (fun b1 => ?_)
    · have e9 : f = 8 := by omega
      subst e9
      refine xw_pk [0] (L' := [(0, .ref (xw_ad al 137))]) rfl ?_
      exact kx ν hz hF hG_ν
    · refine xw_iload_n (pc := 10) C0 2 dX5_weighDeed_10 rfl rfl ?_
      refine xw_bipush (pc := 11) C0 dX5_weighDeed_11 (by decide +kernel) ?_
      refine xw_imul (pc := 13) C0 dX5_weighDeed_13 ?_
      refine  xw_nI (congrArg Int32.ofInt (show 2 * 8 = (16 : Int) by decide)) ?_
      refine xw_iload (pc := 14) C0 4 dX5_weighDeed_14 rfl ?_
      refine xw_iadd (pc := 16) C0 dX5_weighDeed_16 ?_
      refine xw_istore (pc := 17) (L' := [(5, .int (Int32.ofInt (16 + (f : Int)))), (0, .ref (xw_ad al 137)), (1, .ref (xw_ad al 4)), (2, .int (Int32.ofInt 2)), (3, .int (Int32.ofInt (d : Int))), (4, .int (Int32.ofInt (f : Int)))]) C0 dX5_weighDeed_17 (by decide +kernel) rfl ?_
      refine xw_aload_n (pc := 19) C0 1 dX5_weighDeed_19 rfl rfl ?_
      refine xw_getR (pc := 20) (f := 5) C0 140 kcX5 dX5_weighDeed_20 (by decide +kernel) tv_405 (xj_137 hKL) xk_69 rfl ((rfl).trans (xe_137_5 hG_ν)) ?_
      refine xw_iload (pc := 23) C0 0 dX5_weighDeed_23 rfl ?_
      refine xw_bipush (pc := 25) C0 dX5_weighDeed_25 (by decide +kernel) ?_
      refine xw_iadd (pc := 27) C0 dX5_weighDeed_27 ?_
      refine xw_nI (congrArg Int32.ofInt (show (16 + (f : Int)) + 8 = ((24 + f : Nat) : Int) by omega)) ?_
      refine xw_aload_n (pc := 28) C0 1 dX5_weighDeed_28 rfl rfl ?_
      refine xw_getR (pc := 29) (f := 5) C0 140 kcX5 dX5_weighDeed_29 (by decide +kernel) tv_405 (xj_137 hKL) xk_69 rfl ((rfl).trans (xe_137_5 hG_ν)) ?_
      refine xw_iload (pc := 32) C0 0 dX5_weighDeed_32 rfl ?_
      refine xw_nI (congrArg Int32.ofInt (show 16 + (f : Int) = ((16 + f : Nat) : Int) by omega)) ?_
      refine xw_iald (pc := 34) (z := W f) C0 dX5_weighDeed_34 (xj_140 hKL) xk_72 (by omega) (by decide +kernel) (xw_rl (by omega)) ((hF 140 (16 + f) (xw_oB (a := 16) (b := 23) (by decide +kernel) (by omega) (by omega))).trans (hP f (by omega))) (fun g2 k2 => ?_)
      have n7 := hW f (by omega)
      refine xw_bipush (pc := 35) C0 dX5_weighDeed_35 (by decide +kernel) ?_
      refine xw_idiv (pc := 37) C0 (by omega) (by omega) dX5_weighDeed_37 ?_
      refine xw_bipush (pc := 38) C0 dX5_weighDeed_38 (by decide +kernel) ?_
      refine xw_aload_n (pc := 40) C0 2 dX5_weighDeed_40 rfl rfl ?_
      refine xw_iload (pc := 41) C0 5 dX5_weighDeed_41 rfl ?_
      refine xw_iload_n (pc := 43) C0 4 dX5_weighDeed_43 rfl rfl ?_
      refine xw_callVI (pc := 44) (μ := ν) (ci := 2) (rest := [.int (Int32.ofInt 12), .int (Int32.ofInt ((W f) / 12)), .int (Int32.ofInt ((24 + f : Nat) : Int)), .ref (xw_ad al 140)]) (As := [.int (Int32.ofInt (f : Int)), .int (Int32.ofInt (d : Int))]) C0 hU hO sa_Tg hKL (xq_cureOf (l := l) (μ := ν) (f9 := (f : Int)) (d := (d : Int)) hG_ν (by omega) (by omega)) tv_614 dX5_weighDeed_44 tv_1235 tv_612 tv_613 tv_4 rfl yb_X2_cureOf (by decide +kernel) rfl rfl rfl (by decide +kernel) (Nat.le_of_ble_eq_true rfl) (xj_4 hKL) xk_28 (fun r3 m3 w3 => ?_)
      obtain ⟨rfl, w3⟩ := w3
      have w3 : r3 = v (53 + (3 * f + d)) := by
        rw [w3, show (3 * (f : Int) + (d : Int)).toNat = 3 * f + d by omega]
        exact (hF 17 _ (xw_oj (by decide +kernel) _)).trans (hE.2.2.2.1 (3 * f + d) (by omega))
      subst w3
      refine xw_isub (pc := 47) C0 dX5_weighDeed_47 ?_
      refine xw_imul (pc := 48) C0 dX5_weighDeed_48 ?_
      refine xw_nI (congrArg Int32.ofInt (show ((W f) / 12) * (12 - (v (53 + (3 * f + d)))) = hx_nw v W d f from rfl)) ?_
      have n9 := n8 (by omega)
      refine xw_iast (pc := 49) C0 dX5_weighDeed_49 (xj_140 hKL) xk_72 (by omega) (by decide +kernel) (xw_rl (by omega)) (by omega) (by omega) ?_
      refine xw_iinc (pc := 50) (L' := [(4, .int (Int32.ofInt ((f : Int) + 1))), (5, .int (Int32.ofInt (16 + (f : Int)))), (0, .ref (xw_ad al 137)), (1, .ref (xw_ad al 4)), (2, .int (Int32.ofInt 2)), (3, .int (Int32.ofInt (d : Int)))]) C0 5 dX5_weighDeed_50 rfl (by decide +kernel) rfl ?_
      refine xw_goto (pc := 53) (tgt := 3) C0 dX5_weighDeed_53 rfl ?_
      have hz9 : ∀ i : Nat, i < f + 1 → (xw_u ν 140 (((24 + f : Nat) : Int)).toNat (hx_nw v W d f)) 140 (24 + i) = hx_nw v W d i := fun i h2 => by
        by_cases e9 : i = f
        · subst e9; exact xw_ug
        · exact (xw_un (fun q => e9 (by have q2 := q.2; omega))).trans (hz i (by omega))
      have Fz9 : xw_F [(140, 24, 31)] ν (xw_u ν 140 (((24 + f : Nat) : Int)).toNat (hx_nw v W d f)) := ((xw_F.rf (ML := [(140, 24, 31)])).u (show (140, 24, 31) ∈ _ by decide) ⟨by omega, by omega⟩)
      generalize (xw_u ν 140 (((24 + f : Nat) : Int)).toNat (hx_nw v W d f)) = z9 at Fz9 hz9 ⊢
      have e1 : (f : Int) + 1 = ((f + 1 : Nat) : Int) := by omega
      rw [e1]
      refine xw_pk [2, 3, 4, 5, 0] (L' := [(0, .ref (xw_ad al 137)), (1, .ref (xw_ad al 4)), (2, .int (Int32.ofInt 2)), (3, .int (Int32.ofInt (d : Int))), (4, .int (Int32.ofInt ((f + 1 : Nat) : Int)))]) rfl ?_
      exact ih (f + 1) z9 (by omega) (by omega) hz9 (hF.tr Fz9 (fun j i h => h)) (xw_GF hG_ν Fz9 (by decide +kernel))
set_option maxRecDepth 20000 in
set_option maxHeartbeats 20000000 in
theorem xq_wd2 {l : Launch} {v nm W : Nat → Int} {d : Nat} {μ : xw_M} (hG : xw_G xw_GL μ) (hK : hp_ok v nm) (hE : hx_E v 4 μ) (hW : ∀ f : Nat, f < 8 → 0 ≤ W f ∧ W f ≤ 171072) (hd : d ≤ 2) (hP : ∀ f : Nat, f < 8 → μ 140 (16 + f) = W f) : xw_MetV l vwCl sa_Ts tb_KT0 tc_KL yX5_weighDeed cX5_weighDeed 6 none 3 142 (fun ad => [.ref (ad 137), .ref (ad 4), .int (Int32.ofInt 2), .int (Int32.ofInt (d : Int))]) μ (fun μ' => (∀ i : Nat, i < 8 → μ' 140 (24 + i) = hx_nw v W d i) ∧ xw_F [(140, 24, 31)] μ μ') :=
  xw_of (by decide +kernel) (fun _ => Nat.le_of_ble_eq_true rfl) (fun p e s m args below meth c D dA A al w0 sz C0 hU hO hKL hr hlk hA => by
    refine xw_iconst (pc := 0) C0 dX5_weighDeed_0 ?_
    refine xw_istore (pc := 1) (L' := [(4, .int (Int32.ofInt 0)), (0, .ref (xw_ad al 137)), (1, .ref (xw_ad al 4)), (2, .int (Int32.ofInt 2)), (3, .int (Int32.ofInt (d : Int)))]) C0 dX5_weighDeed_1 (by decide +kernel) rfl ?_
    refine xw_pk [1, 2, 3, 4, 0] (L' := [(0, .ref (xw_ad al 137)), (1, .ref (xw_ad al 4)), (2, .int (Int32.ofInt 2)), (3, .int (Int32.ofInt (d : Int))), (4, .int (Int32.ofInt ((0 : Nat) : Int)))]) rfl ?_
    refine xq_wd2L (v := v) (nm := nm) (W := W) (d := d) (μ := μ) C0 hU hO hKL hG hK hE hW hd hP (fun ν hz hF hG_ν => ?_) 9 0 μ (by omega) (Nat.zero_le _) (fun i h => absurd h (Nat.not_lt_zero i)) xw_F.rf hG
    refine xw_vret C0 hA hr hlk dX5_weighDeed_56 ?_
    exact ⟨rfl, hz, hF⟩)
set_option maxRecDepth 20000 in
set_option maxHeartbeats 20000000 in
theorem xq_tr3_3 {l : Launch} {p : Program} {e : Env} {s : State} {m : MethodId} {args : Array Value} {below : List Frame} {meth : Method} {c : Code} {Q : State → Prop} {D : va_G} {dA : Nat → ClassId} {A : Nat → Prop} {al : List (Nat × Nat)} (C0 : sa_C p s m args c D dA A 7 vwCl sa_Ts cX5_tryRows yX5_tryRows.cls) (hU : sa_U D vwCl dA s) (hO : tb_Ou A s s.heap) (hKL : al.map Prod.snd = tc_KL) {v nm W row : Nat → Int} {T dn : Nat} {B : hx_pB} {c9 : Int} {μ : xw_M} (hG : xw_G xw_GL μ) (hK : hp_ok v nm) (hE : hx_E v 4 μ) (hT : (T : Int) < v 0) (hC : ∀ d : Nat, d < 4 → μ 141 d = hx_pm v T d) (hW : ∀ f : Nat, f < 8 → 0 ≤ W f ∧ W f ≤ 171072) (hP : ∀ f : Nat, f < 8 → μ 140 (24 + f) = W f) (hrw : ∀ i : Nat, i < 3 → μ 139 i = row i) (hB : hx_bC B μ) (hdn : dn < 8) (hpc : hs_pc dn = 3) (hc : 0 ≤ c9 ∧ c9 ≤ 492687360) (hs : ¬ hx_sm W 8 = 0) (kx : ∀ ν : xw_M, hx_bC (hx_kp B (3 + 1) (c9 + hx_sm W 8 * 120) (hx_ru row 3 3)) ν → xw_F [(139, 3, 3), (138, 0, 3), (137, 1, 2)] μ ν → xw_W p l e { frames := 3, cells := 0, slots := 0, locals := 143 } s m args below meth c Q D dA A 7 vwCl tb_KT0 al 0 0 ν 97 [] []) : xw_W p l e { frames := 3, cells := 0, slots := 0, locals := 143 } s m args below meth c Q D dA A 7 vwCl tb_KT0 al 0 0 μ 23 [(0, .ref (xw_ad al 137)), (1, .ref (xw_ad al 4)), (2, .int (Int32.ofInt 3)), (3, .int (Int32.ofInt (dn : Int))), (4, .int (Int32.ofInt c9)), (5, .int (Int32.ofInt (hx_sm W 8))), (6, .int (Int32.ofInt 0))] [] := by
  have k0 := hK.1
  have s9 := hx_smB (W := W) 8 hW
  have s9 : 0 ≤ hx_sm W 8 ∧ hx_sm W 8 ≤ 1368576 := ⟨s9.1, by have q := s9.2; omega⟩
  refine xw_iload (pc := 23) C0 6 dX5_tryRows_23 rfl ?_
  refine xw_iconst (pc := 25) C0 dX5_tryRows_25 ?_
  refine xw_icmp_ge (pc := 26) (tgt := 71) C0 (by omega) (by omega) dX5_tryRows_26 rfl (fun b1 => ?_) (fun b1 => ?_)
  · exfalso
    omega
  · refine xw_iload_n (pc := 29) C0 2 dX5_tryRows_29 rfl rfl ?_
    refine xw_iconst (pc := 30) C0 dX5_tryRows_30 ?_
    refine xw_icmp_ge (pc := 31) (tgt := 71) C0 (by omega) (by omega) dX5_tryRows_31 rfl (fun b2 => ?_) (fun b2 => ?_)
    · refine xw_aload_n (pc := 71) C0 0 dX5_tryRows_71 rfl rfl ?_
      refine xw_getR (pc := 72) (f := 4) C0 139 kcX5 dX5_tryRows_72 (by decide +kernel) tv_404 (xj_137 hKL) xk_69 rfl ((rfl).trans (xe_137_4 hG)) ?_
      refine xw_iload_n (pc := 75) C0 2 dX5_tryRows_75 rfl rfl ?_
      refine xw_iconst (pc := 76) C0 dX5_tryRows_76 ?_
      refine xw_iast (pc := 77) C0 dX5_tryRows_77 (xj_139 hKL) xk_71 (by omega) (by decide +kernel) (xw_rl (by omega)) (by omega) (by omega) ?_
      refine xw_mu (μ' := (xw_u μ 139 3 3)) rfl ?_
      refine xw_aload_n (pc := 78) C0 0 dX5_tryRows_78 rfl rfl ?_
      refine xw_iload_n (pc := 79) C0 2 dX5_tryRows_79 rfl rfl ?_
      refine xw_iconst (pc := 80) C0 dX5_tryRows_80 ?_
      refine xw_iadd (pc := 81) C0 dX5_tryRows_81 ?_
      refine  xw_nI (congrArg Int32.ofInt (show 3 + 1 = (4 : Int) by decide)) ?_
      refine xw_iload (pc := 82) C0 4 dX5_tryRows_82 rfl ?_
      refine xw_iload (pc := 84) C0 5 dX5_tryRows_84 rfl ?_
      refine xw_aload_n (pc := 86) C0 0 dX5_tryRows_86 rfl rfl ?_
      refine xw_getR (pc := 87) (f := 6) C0 141 kcX5 dX5_tryRows_87 (by decide +kernel) tv_406 (xj_137 hKL) xk_69 rfl (((xw_un (fun q => absurd q.1 (by decide +kernel))).trans rfl).trans (xe_137_6 hG)) ?_
      refine xw_iconst (pc := 90) C0 dX5_tryRows_90 ?_
      have p3 : (xw_u μ 139 3 3) 141 3 = 120 := (xw_un (fun q => absurd q.1 (by decide +kernel))).trans (hC 3 (by decide +kernel))
      refine xw_iald (pc := 91) (z := 120) C0 dX5_tryRows_91 (xj_141 hKL) xk_73 (by decide +kernel) (by decide +kernel) rfl p3 (fun g3 k3 => ?_)
      refine xw_imul (pc := 92) C0 dX5_tryRows_92 ?_
      refine xw_iadd (pc := 93) C0 dX5_tryRows_93 ?_
      have Ft1 : xw_F [(139, 3, 3)] μ (xw_u μ 139 3 3) := ((xw_F.rf (ML := [(139, 3, 3)])).u (show (139, 3, 3) ∈ _ by decide) ⟨by decide, by decide⟩)
      have vt1_139_3 : (xw_u μ 139 3 3) 139 3 = 3 := xw_ug
      generalize (xw_u μ 139 3 3) = t1 at Ft1 vt1_139_3 ⊢
      have hG_t1 := xw_GF hG Ft1 (by decide +kernel)
      have hr9 : ∀ i : Nat, i < 4 → t1 139 i = hx_ru row 3 3 i := fun i hi => by
        by_cases e9 : i = 3
        · subst e9; exact vt1_139_3.trans (if_pos rfl).symm
        · exact (Ft1 139 i (xw_oB (a := 0) (b := 2) (by decide +kernel) (Nat.zero_le _) (by omega))).trans ((hrw i (by omega)).trans (if_neg e9).symm)
      have hB9 : hx_bC B t1 := ⟨by rw [Ft1 137 2 (by decide +kernel)]; exact hB.1, fun q => ⟨(Ft1 137 1 (by decide +kernel)).trans (hB.2 q).1, fun i h4 hi => (Ft1 138 i (xw_oj (by decide +kernel) i)).trans ((hB.2 q).2 i h4 hi)⟩⟩
      refine xw_callVV (pc := 94) (μ := t1) (ci := 5) (rest := []) (As := [.int (Int32.ofInt 4), .int (Int32.ofInt (c9 + ((hx_sm W 8) * 120)))]) C0 hU hO sa_Tg hKL (xq_kb4 (l := l) (B := B) (c9 := c9 + hx_sm W 8 * 120) (row := hx_ru row 3 3) (μ := t1) hG_t1 (by omega) hr9 hB9) tv_1225 dX5_tryRows_94 tv_1222 tv_1224 tq_X5_keepBetter tv_12 rfl yb_X5_keepBetter (by decide +kernel) rfl rfl rfl (by decide +kernel) (Nat.le_of_ble_eq_true rfl) (xj_137 hKL) xk_69 (fun m4 w4 => ?_)
      obtain ⟨H4, F4⟩ := w4
      refine xw_pk [] (L' := []) rfl ?_
      exact kx m4 H4 (((xw_F.rf (ML := [(139, 3, 3), (138, 0, 3), (137, 1, 2)])).tr Ft1 (fun j i h => xw_o_sub (by decide +kernel) j i h)).tr F4 (fun j i h => xw_o_sub (by decide +kernel) j i h))
    · exfalso
      omega
set_option maxRecDepth 20000 in
set_option maxHeartbeats 20000000 in
theorem xq_tr3 {l : Launch} {v nm W row : Nat → Int} {T dn : Nat} {B : hx_pB} {c9 : Int} {μ : xw_M} (hG : xw_G xw_GL μ) (hK : hp_ok v nm) (hE : hx_E v 4 μ) (hT : (T : Int) < v 0) (hC : ∀ d : Nat, d < 4 → μ 141 d = hx_pm v T d) (hW : ∀ f : Nat, f < 8 → 0 ≤ W f ∧ W f ≤ 171072) (hP : ∀ f : Nat, f < 8 → μ 140 (24 + f) = W f) (hrw : ∀ i : Nat, i < 3 → μ 139 i = row i) (hB : hx_bC B μ) (hdn : dn < 8) (hpc : hs_pc dn = 3) (hc : 0 ≤ c9 ∧ c9 ≤ 492687360) : xw_MetV l vwCl sa_Ts tb_KT0 tc_KL yX5_tryRows cX5_tryRows 7 none 3 143 (fun ad => [.ref (ad 137), .ref (ad 4), .int (Int32.ofInt 3), .int (Int32.ofInt (dn : Int)), .int (Int32.ofInt c9)]) μ (fun μ' => hx_bC (hx_S v T 1 3 W dn c9 row B) μ' ∧ xw_F [(139, 3, 3), (138, 0, 3), (137, 1, 2)] μ μ') :=
  xw_of (by decide +kernel) (fun _ => Nat.le_of_ble_eq_true rfl) (fun p e s m args below meth c D dA A al w0 sz C0 hU hO hKL hr hlk hA => by
    have k0 := hK.1
    have s9 := hx_smB (W := W) 8 hW
    have s9 : 0 ≤ hx_sm W 8 ∧ hx_sm W 8 ≤ 1368576 := ⟨s9.1, by have q := s9.2; omega⟩
    refine xw_aload_n (pc := 0) C0 0 dX5_tryRows_0 rfl rfl ?_
    refine xw_iload_n (pc := 1) C0 2 dX5_tryRows_1 rfl rfl ?_
    refine xw_callVI (pc := 2) (μ := μ) (ci := 5) (rest := []) (As := [.int (Int32.ofInt 3)]) C0 hU hO sa_Tg hKL (xq_wb (l := l) (W := W) (k := 3) (μ := μ) hG (by decide +kernel) hP) tv_1217 dX5_tryRows_2 tv_1214 tv_1216 tq_X5_weightBehind tv_12 rfl yb_X5_weightBehind (by decide +kernel) rfl rfl rfl (by decide +kernel) (Nat.le_of_ble_eq_true rfl) (xj_137 hKL) xk_69 (fun r1 m1 w1 => ?_)
    obtain ⟨rfl, rfl⟩ := w1
    refine xw_istore (pc := 5) (L' := [(5, .int (Int32.ofInt (hx_sm W 8))), (0, .ref (xw_ad al 137)), (1, .ref (xw_ad al 4)), (2, .int (Int32.ofInt 3)), (3, .int (Int32.ofInt (dn : Int))), (4, .int (Int32.ofInt c9))]) C0 dX5_tryRows_5 (by decide +kernel) rfl ?_
    refine xw_iload (pc := 7) C0 0 dX5_tryRows_7 rfl ?_
    refine xw_if_ne (pc := 9) (tgt := 20) C0 (by omega) dX5_tryRows_9 rfl (fun b2 => ?_) (fun b2 => ?_)
    · refine xw_iconst (pc := 20) C0 dX5_tryRows_20 ?_
      refine xw_istore (pc := 21) (L' := [(6, .int (Int32.ofInt 0)), (5, .int (Int32.ofInt (hx_sm W 8))), (0, .ref (xw_ad al 137)), (1, .ref (xw_ad al 4)), (2, .int (Int32.ofInt 3)), (3, .int (Int32.ofInt (dn : Int))), (4, .int (Int32.ofInt c9))]) C0 dX5_tryRows_21 (by decide +kernel) rfl ?_
      have hs : ¬ hx_sm W 8 = 0 := by omega
      refine xw_pk [2, 3, 4, 5, 6, 1, 0] (L' := [(0, .ref (xw_ad al 137)), (1, .ref (xw_ad al 4)), (2, .int (Int32.ofInt 3)), (3, .int (Int32.ofInt (dn : Int))), (4, .int (Int32.ofInt c9)), (5, .int (Int32.ofInt (hx_sm W 8))), (6, .int (Int32.ofInt 0))]) rfl ?_
      have d7 : dn = 7 := xb_pr3 ⟨dn, hdn⟩ hpc
      subst d7
      refine xq_tr3_3 (v := v) (nm := nm) (W := W) (row := row) (T := T) (c9 := c9) (μ := μ) C0 hU hO hKL hG hK hE hT hC hW hP hrw hB hdn hpc hc hs (fun ν h1 h2 => ?_)
      refine xw_vret C0 hA hr hlk dX5_tryRows_97 ?_
      refine ⟨rfl, ?_, h2⟩
      rw [hx_Se (n := 0) hs]
      rw [hx_sdT (show (7 : Nat).testBit 2 = true by decide), hx_sdT (show (7 : Nat).testBit 1 = true by decide), hx_sdT (show (7 : Nat).testBit 0 = true by decide)]
      exact h1
    · refine xw_aload_n (pc := 12) C0 1 dX5_tryRows_12 rfl rfl ?_
      refine xw_iload_n (pc := 13) C0 3 dX5_tryRows_13 rfl rfl ?_
      refine xw_iload (pc := 14) C0 5 dX5_tryRows_14 rfl ?_
      refine xw_callVV (pc := 16) (μ := μ) (ci := 5) (rest := []) (As := [.int (Int32.ofInt 3), .int (Int32.ofInt c9)]) C0 hU hO sa_Tg hKL (xq_kb3 (l := l) (B := B) (c9 := c9) (row := row) (μ := μ) hG (by omega) hrw hB) tv_1225 dX5_tryRows_16 tv_1222 tv_1224 tq_X5_keepBetter tv_12 rfl yb_X5_keepBetter (by decide +kernel) rfl rfl rfl (by decide +kernel) (Nat.le_of_ble_eq_true rfl) (xj_137 hKL) xk_69 (fun m3 w3 => ?_)
      obtain ⟨H3, F3⟩ := w3
      refine xw_vret C0 hA hr hlk dX5_tryRows_19 ?_
      have hz9 : hx_sm W 8 = 0 := by omega
      refine ⟨rfl, ?_, ((xw_F.rf (ML := [(139, 3, 3), (138, 0, 3), (137, 1, 2)])).tr F3 (fun j i h => xw_o_sub (by decide +kernel) j i h))⟩
      rw [hx_Sz hz9]
      exact H3)
set_option maxRecDepth 20000 in
set_option maxHeartbeats 20000000 in
theorem xq_td2 {l : Launch} {v nm W row : Nat → Int} {T dn d : Nat} {B : hx_pB} {c9 : Int} {μ : xw_M} (hG : xw_G xw_GL μ) (hK : hp_ok v nm) (hE : hx_E v 4 μ) (hT : (T : Int) < v 0) (hC : ∀ d : Nat, d < 4 → μ 141 d = hx_pm v T d) (hW : ∀ f : Nat, f < 8 → 0 ≤ W f ∧ W f ≤ 171072) (hP : ∀ f : Nat, f < 8 → μ 140 (16 + f) = W f) (hrw : ∀ i : Nat, i < 2 → μ 139 i = row i) (hB : hx_bC B μ) (hdn : dn < 8) (hpc : hs_pc dn = 2) (hd : d < 3) (hb : dn.testBit d = false) (hc : 0 ≤ c9 ∧ c9 ≤ 492687360) : xw_MetV l vwCl sa_Ts tb_KT0 tc_KL yX5_tryDeed cX5_tryDeed 6 none 4 169 (fun ad => [.ref (ad 137), .ref (ad 4), .int (Int32.ofInt 2), .int (Int32.ofInt (dn : Int)), .int (Int32.ofInt (d : Int)), .int (Int32.ofInt c9)]) μ (fun μ' => hx_bC (hx_S v T 1 3 (hx_nw v W d) (dn + 2 ^ d) c9 (hx_ru row 2 (d : Int)) B) μ' ∧ xw_F [(140, 24, 31), (139, 2, 3), (138, 0, 3), (137, 1, 2)] μ μ') :=
  xw_of (by decide +kernel) (fun _ => Nat.le_of_ble_eq_true rfl) (fun p e s m args below meth c D dA A al w0 sz C0 hU hO hKL hr hlk hA => by
    have o9 := xb_prO hdn hd hb
    refine xw_aload_n (pc := 0) C0 0 dX5_tryDeed_0 rfl rfl ?_
    refine xw_getR (pc := 1) (f := 4) C0 139 kcX5 dX5_tryDeed_1 (by decide +kernel) tv_404 (xj_137 hKL) xk_69 rfl ((rfl).trans (xe_137_4 hG)) ?_
    refine xw_iload_n (pc := 4) C0 2 dX5_tryDeed_4 rfl rfl ?_
    refine xw_iload (pc := 5) C0 4 dX5_tryDeed_5 rfl ?_
    refine xw_iast (pc := 7) C0 dX5_tryDeed_7 (xj_139 hKL) xk_71 (by omega) (by decide +kernel) (xw_rl (by omega)) (by omega) (by omega) ?_
    refine xw_mu (μ' := (xw_u μ 139 2 (d : Int))) rfl ?_
    refine xw_aload_n (pc := 8) C0 0 dX5_tryDeed_8 rfl rfl ?_
    refine xw_aload_n (pc := 9) C0 1 dX5_tryDeed_9 rfl rfl ?_
    refine xw_iload_n (pc := 10) C0 2 dX5_tryDeed_10 rfl rfl ?_
    refine xw_iload (pc := 11) C0 4 dX5_tryDeed_11 rfl ?_
    have Ft1 : xw_F [(139, 2, 2)] μ (xw_u μ 139 2 (d : Int)) := ((xw_F.rf (ML := [(139, 2, 2)])).u (show (139, 2, 2) ∈ _ by decide) ⟨by decide, by decide⟩)
    have vt1_139_2 : (xw_u μ 139 2 (d : Int)) 139 2 = (d : Int) := xw_ug
    generalize (xw_u μ 139 2 (d : Int)) = t1 at Ft1 vt1_139_2 ⊢
    have hG_t1 := xw_GF hG Ft1 (by decide +kernel)
    refine xw_callVV (pc := 13) (μ := t1) (ci := 5) (rest := []) (As := [.ref (xw_ad al 4), .int (Int32.ofInt 2), .int (Int32.ofInt (d : Int))]) C0 hU hO sa_Tg hKL (xq_wd2 (l := l) (v := v) (nm := nm) (W := W) (d := d) (μ := t1) hG_t1 hK (hx_EF hE (xw_Frg (a := 4) (b := 17) Ft1 (by decide +kernel))) hW (by omega) (fun f hf => (Ft1 140 _ (xw_oj (by decide +kernel) _)).trans (hP f hf))) tv_1234 dX5_tryDeed_13 tv_1231 tv_1233 tq_X5_weighDeed tv_12 rfl yb_X5_weighDeed (by decide +kernel) rfl rfl rfl (by decide +kernel) (Nat.le_of_ble_eq_true rfl) (xj_137 hKL) xk_69 (fun m1 w1 => ?_)
    obtain ⟨H1, F1⟩ := w1
    have hG_m1 := xw_GF hG_t1 F1 (by decide +kernel)
    refine xw_aload_n (pc := 16) C0 0 dX5_tryDeed_16 rfl rfl ?_
    refine xw_aload_n (pc := 17) C0 1 dX5_tryDeed_17 rfl rfl ?_
    refine xw_iload_n (pc := 18) C0 2 dX5_tryDeed_18 rfl rfl ?_
    refine xw_iconst (pc := 19) C0 dX5_tryDeed_19 ?_
    refine xw_iadd (pc := 20) C0 dX5_tryDeed_20 ?_
    refine  xw_nI (congrArg Int32.ofInt (show 2 + 1 = (3 : Int) by decide)) ?_
    refine xw_iload_n (pc := 21) C0 3 dX5_tryDeed_21 rfl rfl ?_
    refine xw_iconst (pc := 22) C0 dX5_tryDeed_22 ?_
    refine xw_iload (pc := 23) C0 4 dX5_tryDeed_23 rfl ?_
    refine xw_ishl (pc := 25) C0 dX5_tryDeed_25 (xb_shN (f := d) (by omega)) ?_
    refine xw_ior (pc := 26) C0 dX5_tryDeed_26 o9.1 ?_
    refine xw_iload (pc := 27) C0 5 dX5_tryDeed_27 rfl ?_
    have hE9 : hx_E v 4 m1 := hx_EF (hx_EF hE (xw_Frg (a := 4) (b := 17) Ft1 (by decide +kernel))) (xw_Frg (a := 4) (b := 17) F1 (by decide +kernel))
    have hr9 : ∀ i : Nat, i < 3 → m1 139 i = hx_ru row 2 (d : Int) i := fun i hi => by
      by_cases e9 : i = 2
      · subst e9; exact ((F1 139 _ (xw_oj (by decide +kernel) _)).trans vt1_139_2).trans (if_pos rfl).symm
      · exact ((F1 139 i (xw_oj (by decide +kernel) i)).trans ((Ft1 139 i (xw_oB (a := 0) (b := 1) (by decide +kernel) (Nat.zero_le _) (by omega))).trans (hrw i (by omega)))).trans (if_neg e9).symm
    have hB9 : hx_bC B m1 := ⟨by rw [F1 137 2 (by decide +kernel), Ft1 137 2 (by decide +kernel)]; exact hB.1, fun q => ⟨(F1 137 1 (by decide +kernel)).trans ((Ft1 137 1 (by decide +kernel)).trans (hB.2 q).1), fun i h4 hi => (F1 138 i (xw_oj (by decide +kernel) i)).trans ((Ft1 138 i (xw_oj (by decide +kernel) i)).trans ((hB.2 q).2 i h4 hi))⟩⟩
    refine xw_callVV (pc := 29) (μ := m1) (ci := 5) (rest := []) (As := [.ref (xw_ad al 4), .int (Int32.ofInt 3), .int (Int32.ofInt ((dn + 2 ^ d : Nat) : Int)), .int (Int32.ofInt c9)]) C0 hU hO sa_Tg hKL (xq_tr3 (l := l) (v := v) (nm := nm) (W := hx_nw v W d) (row := hx_ru row 2 (d : Int)) (T := T) (dn := dn + 2 ^ d) (B := B) (c9 := c9) (μ := m1) hG_m1 hK hE9 hT (fun d hd => (F1 141 d (xw_oj (by decide +kernel) d)).trans ((Ft1 141 d (xw_oj (by decide +kernel) d)).trans (hC d hd))) (fun f hf => hx_nwB hK (by omega) hf (hW f hf)) H1 hr9 hB9 o9.2.1 (by rw [o9.2.2, hpc]) (by omega)) tv_1221 dX5_tryDeed_29 tv_1218 tv_1220 tq_X5_tryRows tv_12 rfl yb_X5_tryRows (by decide +kernel) rfl rfl rfl (by decide +kernel) (Nat.le_of_ble_eq_true rfl) (xj_137 hKL) xk_69 (fun m2 w2 => ?_)
    obtain ⟨H2, F2⟩ := w2
    refine xw_vret C0 hA hr hlk dX5_tryDeed_32 ?_
    exact ⟨rfl, H2, ((((xw_F.rf (ML := [(140, 24, 31), (139, 2, 3), (138, 0, 3), (137, 1, 2)])).tr Ft1 (fun j i h => xw_o_sub (by decide +kernel) j i h)).tr F1 (fun j i h => xw_o_sub (by decide +kernel) j i h)).tr F2 (fun j i h => xw_o_sub (by decide +kernel) j i h))⟩)
set_option maxRecDepth 20000 in
set_option maxHeartbeats 20000000 in
theorem xq_tr2_3 {l : Launch} {p : Program} {e : Env} {s : State} {m : MethodId} {args : Array Value} {below : List Frame} {meth : Method} {c : Code} {Q : State → Prop} {D : va_G} {dA : Nat → ClassId} {A : Nat → Prop} {al : List (Nat × Nat)} (C0 : sa_C p s m args c D dA A 7 vwCl sa_Ts cX5_tryRows yX5_tryRows.cls) (hU : sa_U D vwCl dA s) (hO : tb_Ou A s s.heap) (hKL : al.map Prod.snd = tc_KL) {v nm W row : Nat → Int} {T dn : Nat} {B : hx_pB} {c9 : Int} {μ : xw_M} (hG : xw_G xw_GL μ) (hK : hp_ok v nm) (hE : hx_E v 4 μ) (hT : (T : Int) < v 0) (hC : ∀ d : Nat, d < 4 → μ 141 d = hx_pm v T d) (hW : ∀ f : Nat, f < 8 → 0 ≤ W f ∧ W f ≤ 171072) (hP : ∀ f : Nat, f < 8 → μ 140 (16 + f) = W f) (hrw : ∀ i : Nat, i < 2 → μ 139 i = row i) (hB : hx_bC B μ) (hdn : dn < 8) (hpc : hs_pc dn = 2) (hc : 0 ≤ c9 ∧ c9 ≤ 328458240) (hs : ¬ hx_sm W 8 = 0) (kx : ∀ ν : xw_M, hx_bC (hx_kp B (2 + 1) (c9 + hx_sm W 8 * 120) (hx_ru row 2 3)) ν → xw_F [(140, 24, 31), (139, 2, 3), (138, 0, 3), (137, 1, 2)] μ ν → xw_W p l e { frames := 5, cells := 0, slots := 0, locals := 194 } s m args below meth c Q D dA A 7 vwCl tb_KT0 al 0 0 ν 97 [] []) : xw_W p l e { frames := 5, cells := 0, slots := 0, locals := 194 } s m args below meth c Q D dA A 7 vwCl tb_KT0 al 0 0 μ 23 [(0, .ref (xw_ad al 137)), (1, .ref (xw_ad al 4)), (2, .int (Int32.ofInt 2)), (3, .int (Int32.ofInt (dn : Int))), (4, .int (Int32.ofInt c9)), (5, .int (Int32.ofInt (hx_sm W 8))), (6, .int (Int32.ofInt 3))] [] := by
  have k0 := hK.1
  have s9 := hx_smB (W := W) 8 hW
  have s9 : 0 ≤ hx_sm W 8 ∧ hx_sm W 8 ≤ 1368576 := ⟨s9.1, by have q := s9.2; omega⟩
  refine xw_iload (pc := 23) C0 6 dX5_tryRows_23 rfl ?_
  refine xw_iconst (pc := 25) C0 dX5_tryRows_25 ?_
  refine xw_icmp_ge (pc := 26) (tgt := 71) C0 (by omega) (by omega) dX5_tryRows_26 rfl (fun b1 => ?_) (fun b1 => ?_)
  · refine xw_aload_n (pc := 71) C0 0 dX5_tryRows_71 rfl rfl ?_
    refine xw_getR (pc := 72) (f := 4) C0 139 kcX5 dX5_tryRows_72 (by decide +kernel) tv_404 (xj_137 hKL) xk_69 rfl ((rfl).trans (xe_137_4 hG)) ?_
    refine xw_iload_n (pc := 75) C0 2 dX5_tryRows_75 rfl rfl ?_
    refine xw_iconst (pc := 76) C0 dX5_tryRows_76 ?_
    refine xw_iast (pc := 77) C0 dX5_tryRows_77 (xj_139 hKL) xk_71 (by omega) (by decide +kernel) (xw_rl (by omega)) (by omega) (by omega) ?_
    refine xw_mu (μ' := (xw_u μ 139 2 3)) rfl ?_
    refine xw_aload_n (pc := 78) C0 0 dX5_tryRows_78 rfl rfl ?_
    refine xw_iload_n (pc := 79) C0 2 dX5_tryRows_79 rfl rfl ?_
    refine xw_iconst (pc := 80) C0 dX5_tryRows_80 ?_
    refine xw_iadd (pc := 81) C0 dX5_tryRows_81 ?_
    refine  xw_nI (congrArg Int32.ofInt (show 2 + 1 = (3 : Int) by decide)) ?_
    refine xw_iload (pc := 82) C0 4 dX5_tryRows_82 rfl ?_
    refine xw_iload (pc := 84) C0 5 dX5_tryRows_84 rfl ?_
    refine xw_aload_n (pc := 86) C0 0 dX5_tryRows_86 rfl rfl ?_
    refine xw_getR (pc := 87) (f := 6) C0 141 kcX5 dX5_tryRows_87 (by decide +kernel) tv_406 (xj_137 hKL) xk_69 rfl (((xw_un (fun q => absurd q.1 (by decide +kernel))).trans rfl).trans (xe_137_6 hG)) ?_
    refine xw_iconst (pc := 90) C0 dX5_tryRows_90 ?_
    have p2 : (xw_u μ 139 2 3) 141 3 = 120 := (xw_un (fun q => absurd q.1 (by decide +kernel))).trans (hC 3 (by decide +kernel))
    refine xw_iald (pc := 91) (z := 120) C0 dX5_tryRows_91 (xj_141 hKL) xk_73 (by decide +kernel) (by decide +kernel) rfl p2 (fun g2 k2 => ?_)
    refine xw_imul (pc := 92) C0 dX5_tryRows_92 ?_
    refine xw_iadd (pc := 93) C0 dX5_tryRows_93 ?_
    have Ft1 : xw_F [(139, 2, 2)] μ (xw_u μ 139 2 3) := ((xw_F.rf (ML := [(139, 2, 2)])).u (show (139, 2, 2) ∈ _ by decide) ⟨by decide, by decide⟩)
    have vt1_139_2 : (xw_u μ 139 2 3) 139 2 = 3 := xw_ug
    generalize (xw_u μ 139 2 3) = t1 at Ft1 vt1_139_2 ⊢
    have hG_t1 := xw_GF hG Ft1 (by decide +kernel)
    have hr9 : ∀ i : Nat, i < 3 → t1 139 i = hx_ru row 2 3 i := fun i hi => by
      by_cases e9 : i = 2
      · subst e9; exact vt1_139_2.trans (if_pos rfl).symm
      · exact (Ft1 139 i (xw_oB (a := 0) (b := 1) (by decide +kernel) (Nat.zero_le _) (by omega))).trans ((hrw i (by omega)).trans (if_neg e9).symm)
    have hB9 : hx_bC B t1 := ⟨by rw [Ft1 137 2 (by decide +kernel)]; exact hB.1, fun q => ⟨(Ft1 137 1 (by decide +kernel)).trans (hB.2 q).1, fun i h4 hi => (Ft1 138 i (xw_oj (by decide +kernel) i)).trans ((hB.2 q).2 i h4 hi)⟩⟩
    refine xw_callVV (pc := 94) (μ := t1) (ci := 5) (rest := []) (As := [.int (Int32.ofInt 3), .int (Int32.ofInt (c9 + ((hx_sm W 8) * 120)))]) C0 hU hO sa_Tg hKL (xq_kb3 (l := l) (B := B) (c9 := c9 + hx_sm W 8 * 120) (row := hx_ru row 2 3) (μ := t1) hG_t1 (by omega) hr9 hB9) tv_1225 dX5_tryRows_94 tv_1222 tv_1224 tq_X5_keepBetter tv_12 rfl yb_X5_keepBetter (by decide +kernel) rfl rfl rfl (by decide +kernel) (Nat.le_of_ble_eq_true rfl) (xj_137 hKL) xk_69 (fun m3 w3 => ?_)
    obtain ⟨H3, F3⟩ := w3
    refine xw_pk [] (L' := []) rfl ?_
    exact kx m3 H3 (((xw_F.rf (ML := [(140, 24, 31), (139, 2, 3), (138, 0, 3), (137, 1, 2)])).tr Ft1 (fun j i h => xw_o_sub (by decide +kernel) j i h)).tr F3 (fun j i h => xw_o_sub (by decide +kernel) j i h))
  · exfalso
    omega
set_option maxRecDepth 20000 in
set_option maxHeartbeats 20000000 in
theorem xq_tr2_2 {l : Launch} {p : Program} {e : Env} {s : State} {m : MethodId} {args : Array Value} {below : List Frame} {meth : Method} {c : Code} {Q : State → Prop} {D : va_G} {dA : Nat → ClassId} {A : Nat → Prop} {al : List (Nat × Nat)} (C0 : sa_C p s m args c D dA A 7 vwCl sa_Ts cX5_tryRows yX5_tryRows.cls) (hU : sa_U D vwCl dA s) (hO : tb_Ou A s s.heap) (hKL : al.map Prod.snd = tc_KL) {v nm W row : Nat → Int} {T dn : Nat} {B : hx_pB} {c9 : Int} {μ : xw_M} (hG : xw_G xw_GL μ) (hK : hp_ok v nm) (hE : hx_E v 4 μ) (hT : (T : Int) < v 0) (hC : ∀ d : Nat, d < 4 → μ 141 d = hx_pm v T d) (hW : ∀ f : Nat, f < 8 → 0 ≤ W f ∧ W f ≤ 171072) (hP : ∀ f : Nat, f < 8 → μ 140 (16 + f) = W f) (hrw : ∀ i : Nat, i < 2 → μ 139 i = row i) (hB : hx_bC B μ) (hdn : dn < 8) (hpc : hs_pc dn = 2) (hc : 0 ≤ c9 ∧ c9 ≤ 328458240) (hs : ¬ hx_sm W 8 = 0) (kx : ∀ ν : xw_M, hx_bC (hx_kp (hx_sd v T 1 2 W dn c9 row 2 B) (2 + 1) (c9 + hx_sm W 8 * 120) (hx_ru row 2 3)) ν → xw_F [(140, 24, 31), (139, 2, 3), (138, 0, 3), (137, 1, 2)] μ ν → xw_W p l e { frames := 5, cells := 0, slots := 0, locals := 194 } s m args below meth c Q D dA A 7 vwCl tb_KT0 al 0 0 ν 97 [] []) : xw_W p l e { frames := 5, cells := 0, slots := 0, locals := 194 } s m args below meth c Q D dA A 7 vwCl tb_KT0 al 0 0 μ 23 [(0, .ref (xw_ad al 137)), (1, .ref (xw_ad al 4)), (2, .int (Int32.ofInt 2)), (3, .int (Int32.ofInt (dn : Int))), (4, .int (Int32.ofInt c9)), (5, .int (Int32.ofInt (hx_sm W 8))), (6, .int (Int32.ofInt 2))] [] := by
  have k0 := hK.1
  have s9 := hx_smB (W := W) 8 hW
  have s9 : 0 ≤ hx_sm W 8 ∧ hx_sm W 8 ≤ 1368576 := ⟨s9.1, by have q := s9.2; omega⟩
  refine xw_iload (pc := 23) C0 6 dX5_tryRows_23 rfl ?_
  refine xw_iconst (pc := 25) C0 dX5_tryRows_25 ?_
  refine xw_icmp_ge (pc := 26) (tgt := 71) C0 (by omega) (by omega) dX5_tryRows_26 rfl (fun b1 => ?_) (fun b1 => ?_)
  · exfalso
    omega
  · refine xw_iload_n (pc := 29) C0 2 dX5_tryRows_29 rfl rfl ?_
    refine xw_iconst (pc := 30) C0 dX5_tryRows_30 ?_
    refine xw_icmp_ge (pc := 31) (tgt := 71) C0 (by omega) (by omega) dX5_tryRows_31 rfl (fun b2 => ?_) (fun b2 => ?_)
    · exfalso
      omega
    · refine xw_iload_n (pc := 34) C0 3 dX5_tryRows_34 rfl rfl ?_
      refine xw_iload (pc := 35) C0 6 dX5_tryRows_35 rfl ?_
      rcases hx_tf (dn.testBit 2) with b9 | b9
      · have n9 : tb_hb (Int32.ofInt (dn : Int)) (Int32.ofInt 2) = Int32.ofInt 1 := (xb_prB (u := 2) hdn (by decide +kernel)).trans (by rw [b9]; rfl)
        refine xw_bitN (pc := 37) (host := "OffThenOn") (rest := []) C0 hU sa_Tg (pu_X11_bit (l := l)) tv_589 dX5_tryRows_37 (by decide +kernel) tv_588 tv_1 yb_X11_bit (by decide +kernel) (by decide +kernel) (Nat.le_of_ble_eq_true rfl) n9 ?_
        refine xw_if_ne (pc := 40) (tgt := 65) C0 (by omega) dX5_tryRows_40 rfl (fun b3 => ?_) (fun b3 => ?_)
        · refine xw_iinc (pc := 65) (L' := [(6, .int (Int32.ofInt 3)), (0, .ref (xw_ad al 137)), (1, .ref (xw_ad al 4)), (2, .int (Int32.ofInt 2)), (3, .int (Int32.ofInt (dn : Int))), (4, .int (Int32.ofInt c9)), (5, .int (Int32.ofInt (hx_sm W 8)))]) C0 6 dX5_tryRows_65 rfl (by decide +kernel) rfl ?_
          refine xw_goto (pc := 68) (tgt := 23) C0 dX5_tryRows_68 rfl ?_
          refine xw_pk [1, 2, 3, 4, 5, 6, 0] (L' := [(0, .ref (xw_ad al 137)), (1, .ref (xw_ad al 4)), (2, .int (Int32.ofInt 2)), (3, .int (Int32.ofInt (dn : Int))), (4, .int (Int32.ofInt c9)), (5, .int (Int32.ofInt (hx_sm W 8))), (6, .int (Int32.ofInt 3))]) rfl ?_
          rw [hx_sdT b9] at kx
          exact xq_tr2_3 (v := v) (nm := nm) (W := W) (row := row) (T := T) (dn := dn) (B := B) (c9 := c9) (μ := μ) C0 hU hO hKL hG hK hE hT hC hW hP hrw hB hdn hpc hc hs kx
        · exfalso
          omega
      · have n9 : tb_hb (Int32.ofInt (dn : Int)) (Int32.ofInt 2) = Int32.ofInt 0 := (xb_prB (u := 2) hdn (by decide +kernel)).trans (by rw [b9]; rfl)
        refine xw_bitN (pc := 37) (host := "OffThenOn") (rest := []) C0 hU sa_Tg (pu_X11_bit (l := l)) tv_589 dX5_tryRows_37 (by decide +kernel) tv_588 tv_1 yb_X11_bit (by decide +kernel) (by decide +kernel) (Nat.le_of_ble_eq_true rfl) n9 ?_
        refine xw_if_ne (pc := 40) (tgt := 65) C0 (by omega) dX5_tryRows_40 rfl (fun b4 => ?_) (fun b4 => ?_)
        · exfalso
          omega
        · refine xw_aload_n (pc := 43) C0 0 dX5_tryRows_43 rfl rfl ?_
          refine xw_aload_n (pc := 44) C0 1 dX5_tryRows_44 rfl rfl ?_
          refine xw_iload_n (pc := 45) C0 2 dX5_tryRows_45 rfl rfl ?_
          refine xw_iload_n (pc := 46) C0 3 dX5_tryRows_46 rfl rfl ?_
          refine xw_iload (pc := 47) C0 6 dX5_tryRows_47 rfl ?_
          refine xw_iload (pc := 49) C0 4 dX5_tryRows_49 rfl ?_
          refine xw_iload (pc := 51) C0 5 dX5_tryRows_51 rfl ?_
          refine xw_aload_n (pc := 53) C0 0 dX5_tryRows_53 rfl rfl ?_
          refine xw_getR (pc := 54) (f := 6) C0 141 kcX5 dX5_tryRows_54 (by decide +kernel) tv_406 (xj_137 hKL) xk_69 rfl ((rfl).trans (xe_137_6 hG)) ?_
          refine xw_iload (pc := 57) C0 6 dX5_tryRows_57 rfl ?_
          have p5 : μ 141 2 = hx_pm v T 2 := hC 2 (by decide +kernel)
          refine xw_iald (pc := 59) (z := hx_pm v T 2) C0 dX5_tryRows_59 (xj_141 hKL) xk_73 (by decide +kernel) (by decide +kernel) rfl p5 (fun g5 k5 => ?_)
          have v9 := hx_mul s9 (hx_pmB hK hT 2)
          refine xw_imul (pc := 60) C0 dX5_tryRows_60 ?_
          refine xw_iadd (pc := 61) C0 dX5_tryRows_61 ?_
          refine xw_callVV (pc := 62) (μ := μ) (ci := 5) (rest := []) (As := [.ref (xw_ad al 4), .int (Int32.ofInt 2), .int (Int32.ofInt (dn : Int)), .int (Int32.ofInt 2), .int (Int32.ofInt (c9 + ((hx_sm W 8) * (hx_pm v T 2))))]) C0 hU hO sa_Tg hKL (xq_td2 (l := l) (v := v) (nm := nm) (W := W) (row := row) (T := T) (dn := dn) (d := 2) (B := B) (c9 := c9 + hx_sm W 8 * hx_pm v T 2) (μ := μ) hG hK hE hT hC hW hP hrw hB hdn hpc (by decide +kernel) b9 (by omega)) tv_1230 dX5_tryRows_62 tv_1227 tv_1229 tq_X5_tryDeed tv_12 rfl yb_X5_tryDeed (by decide +kernel) rfl rfl rfl (by decide +kernel) (Nat.le_of_ble_eq_true rfl) (xj_137 hKL) xk_69 (fun m6 w6 => ?_)
          obtain ⟨H6, F6⟩ := w6
          have hG_m6 := xw_GF hG F6 (by decide +kernel)
          refine xw_iinc (pc := 65) (L' := [(6, .int (Int32.ofInt 3)), (0, .ref (xw_ad al 137)), (1, .ref (xw_ad al 4)), (2, .int (Int32.ofInt 2)), (3, .int (Int32.ofInt (dn : Int))), (4, .int (Int32.ofInt c9)), (5, .int (Int32.ofInt (hx_sm W 8)))]) C0 6 dX5_tryRows_65 rfl (by decide +kernel) rfl ?_
          refine xw_goto (pc := 68) (tgt := 23) C0 dX5_tryRows_68 rfl ?_
          refine xw_pk [1, 2, 3, 4, 5, 6, 0] (L' := [(0, .ref (xw_ad al 137)), (1, .ref (xw_ad al 4)), (2, .int (Int32.ofInt 2)), (3, .int (Int32.ofInt (dn : Int))), (4, .int (Int32.ofInt c9)), (5, .int (Int32.ofInt (hx_sm W 8))), (6, .int (Int32.ofInt 3))]) rfl ?_
          rw [hx_sdF b9] at kx
          exact xq_tr2_3 (v := v) (nm := nm) (W := W) (row := row) (T := T) (dn := dn) (c9 := c9) (μ := m6) C0 hU hO hKL hG_m6 hK (hx_EF hE (xw_Frg (a := 4) (b := 17) F6 (by decide +kernel))) hT (fun d hd => (F6 141 d (xw_oj (by decide +kernel) d)).trans (hC d hd)) hW (fun f hf => (F6 140 _ (xw_oB (a := 16) (b := 23) (by decide +kernel) (by omega) (by omega))).trans (hP f hf)) (fun i hi => (F6 139 i (xw_oB (a := 0) (b := 1) (by decide +kernel) (Nat.zero_le _) (by omega))).trans (hrw i hi)) H6 hdn hpc hc hs (fun ν h1 h2 => kx ν h1 (F6.tr h2 (fun j i h => h)))
