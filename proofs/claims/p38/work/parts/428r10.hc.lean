set_option maxRecDepth 20000 in
set_option maxHeartbeats 20000000 in
theorem xh_mkA {l : Launch} {p : Program} {e : Env} {s : State} {m : MethodId} {args : Array Value} {below : List Frame} {meth : Method} {c : Code} {Q : State → Prop} {D : va_G} {dA : Nat → ClassId} {A : Nat → Prop} {al : List (Nat × Nat)} (C0 : sa_C p s m args c D dA A 2 vwCl sa_Ts cX9_makeNew yX9_makeNew.cls) (hU : sa_U D vwCl dA s) (hO : tb_Ou A s s.heap) (hKL : al.map Prod.snd = tc_KL) {μ : xw_M} (kx : ∀ ν : xw_M, xw_F [(19, 0, 5), (20, 0, 5), (21, 0, 5)] μ ν → xw_G xw_GL ν → xw_W p l e { frames := 2, cells := 0, slots := 0, locals := 120 } s m args below meth c Q D dA A 2 vwCl tb_KT0 al 0 0 ν 35 [(0, .ref (xw_ad al 18))] []) : ∀ (fu9 : Nat) (k : Nat) (ν : xw_M), 6 - (k : Int) < (fu9 : Int) → k ≤ 6 → xw_F [(19, 0, 5), (20, 0, 5), (21, 0, 5)] μ ν → xw_G xw_GL ν → xw_W p l e { frames := 2, cells := 0, slots := 0, locals := 120 } s m args below meth c Q D dA A 2 vwCl tb_KT0 al 0 0 ν 2 [(1, .int (Int32.ofInt (k : Int))), (0, .ref (xw_ad al 18))] [] := by
  intro fu9
  induction fu9 with
  | zero => intro k ν hm hk hF hG_ν; exfalso; omega
  | succ fu9 ih =>
    intro k ν hm hk hF hG_ν
    refine xw_iload_n (pc := 2) C0 0 dX9_makeNew_2 rfl rfl ?_
    refine xw_bipush (pc := 3) C0 dX9_makeNew_3 (by decide) ?_
    refine xw_icmp_ge (pc := 5) (tgt := 35) C0 (by omega) (by omega) dX9_makeNew_5 rfl (fun b1 => ?_) (fun b1 => ?_)
    · refine xw_pk [1] (L' := [(0, .ref (xw_ad al 18))]) rfl ?_
      exact kx ν hF hG_ν
    · refine xw_aload_n (pc := 8) C0 1 dX9_makeNew_8 rfl rfl ?_
      refine xw_getR (pc := 9) (f := 0) C0 19 kcX9 dX9_makeNew_9 (by decide) tv_149 (xj_18 hKL) xk_42 rfl ((rfl).trans (xe_18_0 hG_ν)) ?_
      refine xw_iload_n (pc := 12) C0 0 dX9_makeNew_12 rfl rfl ?_
      refine xw_iconst (pc := 13) C0 dX9_makeNew_13 ?_
      refine xw_iast (pc := 14) C0 dX9_makeNew_14 (xj_19 hKL) xk_43 (by omega) (by decide) (xw_rl (by omega)) (by omega) (by omega) ?_
      refine xw_aload_n (pc := 15) C0 1 dX9_makeNew_15 rfl rfl ?_
      refine xw_getR (pc := 16) (f := 1) C0 20 kcX9 dX9_makeNew_16 (by decide) tv_151 (xj_18 hKL) xk_42 rfl (((xw_un (fun q => absurd q.1 (by decide))).trans rfl).trans (xe_18_1 hG_ν)) ?_
      refine xw_iload_n (pc := 19) C0 0 dX9_makeNew_19 rfl rfl ?_
      refine xw_iconst (pc := 20) C0 dX9_makeNew_20 ?_
      refine xw_iast (pc := 21) C0 dX9_makeNew_21 (xj_20 hKL) xk_44 (by omega) (by decide) (xw_rl (by omega)) (by omega) (by omega) ?_
      refine xw_aload_n (pc := 22) C0 1 dX9_makeNew_22 rfl rfl ?_
      refine xw_getR (pc := 23) (f := 2) C0 21 kcX9 dX9_makeNew_23 (by decide) tv_153 (xj_18 hKL) xk_42 rfl (((xw_un (fun q => absurd q.1 (by decide))).trans ((xw_un (fun q => absurd q.1 (by decide))).trans rfl)).trans (xe_18_2 hG_ν)) ?_
      refine xw_iload_n (pc := 26) C0 0 dX9_makeNew_26 rfl rfl ?_
      refine xw_iconst (pc := 27) C0 dX9_makeNew_27 ?_
      refine xw_iast (pc := 28) C0 dX9_makeNew_28 (xj_21 hKL) xk_45 (by omega) (by decide) (xw_rl (by omega)) (by omega) (by omega) ?_
      refine xw_iinc (pc := 29) (L' := [(1, .int (Int32.ofInt ((k : Int) + 1))), (0, .ref (xw_ad al 18))]) C0 0 dX9_makeNew_29 rfl (by decide) rfl ?_
      refine xw_goto (pc := 32) (tgt := 2) C0 dX9_makeNew_32 rfl ?_
      have Ft1 : xw_F [(19, 0, 5), (20, 0, 5), (21, 0, 5)] ν (xw_u (xw_u (xw_u ν 19 ((k : Int)).toNat 2) 20 ((k : Int)).toNat 0) 21 ((k : Int)).toNat 0) := ((((xw_F.rf (ML := [(19, 0, 5), (20, 0, 5), (21, 0, 5)])).u (show (19, 0, 5) ∈ _ by decide) ⟨by omega, by omega⟩).u (show (20, 0, 5) ∈ _ by decide) ⟨by omega, by omega⟩).u (show (21, 0, 5) ∈ _ by decide) ⟨by omega, by omega⟩)
      generalize (xw_u (xw_u (xw_u ν 19 ((k : Int)).toNat 2) 20 ((k : Int)).toNat 0) 21 ((k : Int)).toNat 0) = t1 at Ft1  ⊢
      have e1 : (k : Int) + 1 = ((k + 1 : Nat) : Int) := by omega
      rw [e1]
      refine xw_pk [0, 1] (L' := [(1, .int (Int32.ofInt ((k + 1 : Nat) : Int))), (0, .ref (xw_ad al 18))]) rfl ?_
      exact ih (k + 1) t1 (by omega) (by omega) (hF.tr Ft1 (fun j i h => xw_o_sub (by decide) j i h)) (xw_GF hG_ν Ft1 (by decide))
set_option maxRecDepth 20000 in
set_option maxHeartbeats 20000000 in
theorem xh_mkB {l : Launch} {p : Program} {e : Env} {s : State} {m : MethodId} {args : Array Value} {below : List Frame} {meth : Method} {c : Code} {Q : State → Prop} {D : va_G} {dA : Nat → ClassId} {A : Nat → Prop} {al : List (Nat × Nat)} (C0 : sa_C p s m args c D dA A 2 vwCl sa_Ts cX9_makeNew yX9_makeNew.cls) (hU : sa_U D vwCl dA s) (hO : tb_Ou A s s.heap) (hKL : al.map Prod.snd = tc_KL) {μ : xw_M} (kx : ∀ ν : xw_M, xw_F [(22, 0, 7), (23, 0, 7), (24, 0, 7)] μ ν → xw_G xw_GL ν → xw_W p l e { frames := 2, cells := 0, slots := 0, locals := 120 } s m args below meth c Q D dA A 2 vwCl tb_KT0 al 0 0 ν 70 [(0, .ref (xw_ad al 18))] []) : ∀ (fu9 : Nat) (k : Nat) (ν : xw_M), 8 - (k : Int) < (fu9 : Int) → k ≤ 8 → xw_F [(22, 0, 7), (23, 0, 7), (24, 0, 7)] μ ν → xw_G xw_GL ν → xw_W p l e { frames := 2, cells := 0, slots := 0, locals := 120 } s m args below meth c Q D dA A 2 vwCl tb_KT0 al 0 0 ν 37 [(1, .int (Int32.ofInt (k : Int))), (0, .ref (xw_ad al 18))] [] := by
  intro fu9
  induction fu9 with
  | zero => intro k ν hm hk hF hG_ν; exfalso; omega
  | succ fu9 ih =>
    intro k ν hm hk hF hG_ν
    refine xw_iload_n (pc := 37) C0 0 dX9_makeNew_37 rfl rfl ?_
    refine xw_bipush (pc := 38) C0 dX9_makeNew_38 (by decide) ?_
    refine xw_icmp_ge (pc := 40) (tgt := 70) C0 (by omega) (by omega) dX9_makeNew_40 rfl (fun b1 => ?_) (fun b1 => ?_)
    · refine xw_pk [1] (L' := [(0, .ref (xw_ad al 18))]) rfl ?_
      exact kx ν hF hG_ν
    · refine xw_aload_n (pc := 43) C0 1 dX9_makeNew_43 rfl rfl ?_
      refine xw_getR (pc := 44) (f := 3) C0 22 kcX9 dX9_makeNew_44 (by decide) tv_156 (xj_18 hKL) xk_42 rfl ((rfl).trans (xe_18_3 hG_ν)) ?_
      refine xw_iload_n (pc := 47) C0 0 dX9_makeNew_47 rfl rfl ?_
      refine xw_iconst (pc := 48) C0 dX9_makeNew_48 ?_
      refine xw_iast (pc := 49) C0 dX9_makeNew_49 (xj_22 hKL) xk_46 (by omega) (by decide) (xw_rl (by omega)) (by omega) (by omega) ?_
      refine xw_aload_n (pc := 50) C0 1 dX9_makeNew_50 rfl rfl ?_
      refine xw_getR (pc := 51) (f := 4) C0 23 kcX9 dX9_makeNew_51 (by decide) tv_158 (xj_18 hKL) xk_42 rfl (((xw_un (fun q => absurd q.1 (by decide))).trans rfl).trans (xe_18_4 hG_ν)) ?_
      refine xw_iload_n (pc := 54) C0 0 dX9_makeNew_54 rfl rfl ?_
      refine xw_iconst (pc := 55) C0 dX9_makeNew_55 ?_
      refine xw_iast (pc := 56) C0 dX9_makeNew_56 (xj_23 hKL) xk_47 (by omega) (by decide) (xw_rl (by omega)) (by omega) (by omega) ?_
      refine xw_aload_n (pc := 57) C0 1 dX9_makeNew_57 rfl rfl ?_
      refine xw_getR (pc := 58) (f := 5) C0 24 kcX9 dX9_makeNew_58 (by decide) tv_160 (xj_18 hKL) xk_42 rfl (((xw_un (fun q => absurd q.1 (by decide))).trans ((xw_un (fun q => absurd q.1 (by decide))).trans rfl)).trans (xe_18_5 hG_ν)) ?_
      refine xw_iload_n (pc := 61) C0 0 dX9_makeNew_61 rfl rfl ?_
      refine xw_iconst (pc := 62) C0 dX9_makeNew_62 ?_
      refine xw_iast (pc := 63) C0 dX9_makeNew_63 (xj_24 hKL) xk_48 (by omega) (by decide) (xw_rl (by omega)) (by omega) (by omega) ?_
      refine xw_iinc (pc := 64) (L' := [(1, .int (Int32.ofInt ((k : Int) + 1))), (0, .ref (xw_ad al 18))]) C0 0 dX9_makeNew_64 rfl (by decide) rfl ?_
      refine xw_goto (pc := 67) (tgt := 37) C0 dX9_makeNew_67 rfl ?_
      have Ft1 : xw_F [(22, 0, 7), (23, 0, 7), (24, 0, 7)] ν (xw_u (xw_u (xw_u ν 22 ((k : Int)).toNat 0) 23 ((k : Int)).toNat 0) 24 ((k : Int)).toNat 0) := ((((xw_F.rf (ML := [(22, 0, 7), (23, 0, 7), (24, 0, 7)])).u (show (22, 0, 7) ∈ _ by decide) ⟨by omega, by omega⟩).u (show (23, 0, 7) ∈ _ by decide) ⟨by omega, by omega⟩).u (show (24, 0, 7) ∈ _ by decide) ⟨by omega, by omega⟩)
      generalize (xw_u (xw_u (xw_u ν 22 ((k : Int)).toNat 0) 23 ((k : Int)).toNat 0) 24 ((k : Int)).toNat 0) = t1 at Ft1  ⊢
      have e1 : (k : Int) + 1 = ((k + 1 : Nat) : Int) := by omega
      rw [e1]
      refine xw_pk [0, 1] (L' := [(1, .int (Int32.ofInt ((k + 1 : Nat) : Int))), (0, .ref (xw_ad al 18))]) rfl ?_
      exact ih (k + 1) t1 (by omega) (by omega) (hF.tr Ft1 (fun j i h => xw_o_sub (by decide) j i h)) (xw_GF hG_ν Ft1 (by decide))
set_option maxRecDepth 20000 in
set_option maxHeartbeats 20000000 in
theorem xh_makeNew {l : Launch} {μ : xw_M} (hG : xw_G xw_GL μ) : xw_MetV l vwCl sa_Ts tb_KT0 tc_KL yX9_makeNew cX9_makeNew 2 none 2 120 (fun ad => [.ref (ad 18)]) μ (fun μ' => xw_F [(18, 6, 11), (19, 0, 5), (20, 0, 5), (21, 0, 5), (22, 0, 7), (23, 0, 7), (24, 0, 7)] μ μ') :=
  xw_of (by decide) (fun _ => Nat.le_of_ble_eq_true rfl) (fun p e s m args below meth c D dA A al w0 sz C0 hU hO hKL hr hlk hA => by
    refine xw_iconst (pc := 0) C0 dX9_makeNew_0 ?_
    refine xw_istore_n (pc := 1) (L' := [(1, .int (Int32.ofInt 0)), (0, .ref (xw_ad al 18))]) C0 dX9_makeNew_1 rfl (by decide) rfl ?_
    refine xw_pk [0, 1] (L' := [(1, .int (Int32.ofInt ((0 : Nat) : Int))), (0, .ref (xw_ad al 18))]) rfl ?_
    refine xh_mkA (μ := μ) C0 hU hO hKL (fun ν hF hG_ν => ?_) 7 0 μ (by omega) (by omega) xw_F.rf hG
    refine xw_iconst (pc := 35) C0 dX9_makeNew_35 ?_
    refine xw_istore_n (pc := 36) (L' := [(1, .int (Int32.ofInt 0)), (0, .ref (xw_ad al 18))]) C0 dX9_makeNew_36 rfl (by decide) rfl ?_
    refine xw_pk [0, 1] (L' := [(1, .int (Int32.ofInt ((0 : Nat) : Int))), (0, .ref (xw_ad al 18))]) rfl ?_
    refine xh_mkB (μ := ν) C0 hU hO hKL (fun ξ hF2 hG_ξ => ?_) 9 0 ν (by omega) (by omega) xw_F.rf hG_ν
    refine xw_aload_n (pc := 70) C0 0 dX9_makeNew_70 rfl rfl ?_
    refine xw_bipush (pc := 71) C0 dX9_makeNew_71 (by decide) ?_
    refine xw_putI (pc := 73) (f := 6) C0 kcX9 dX9_makeNew_73 (by decide) tv_162 rfl rfl (xj_18 hKL) xk_42 rfl (by omega) (by omega) ?_
    refine xw_aload_n (pc := 76) C0 0 dX9_makeNew_76 rfl rfl ?_
    refine xw_iconst (pc := 77) C0 dX9_makeNew_77 ?_
    refine xw_putI (pc := 78) (f := 7) C0 kcX9 dX9_makeNew_78 (by decide) tv_164 rfl rfl (xj_18 hKL) xk_42 rfl (by omega) (by omega) ?_
    refine xw_aload_n (pc := 81) C0 0 dX9_makeNew_81 rfl rfl ?_
    refine xw_iconst (pc := 82) C0 dX9_makeNew_82 ?_
    refine xw_putI (pc := 83) (f := 8) C0 kcX9 dX9_makeNew_83 (by decide) tv_167 rfl rfl (xj_18 hKL) xk_42 rfl (by omega) (by omega) ?_
    refine xw_aload_n (pc := 86) C0 0 dX9_makeNew_86 rfl rfl ?_
    refine xw_iconst (pc := 87) C0 dX9_makeNew_87 ?_
    refine xw_putI (pc := 88) (f := 9) C0 kcX9 dX9_makeNew_88 (by decide) tv_170 rfl rfl (xj_18 hKL) xk_42 rfl (by omega) (by omega) ?_
    refine xw_aload_n (pc := 91) C0 0 dX9_makeNew_91 rfl rfl ?_
    refine xw_iconst (pc := 92) C0 dX9_makeNew_92 ?_
    refine xw_putI (pc := 93) (f := 10) C0 kcX9 dX9_makeNew_93 (by decide) tv_172 rfl rfl (xj_18 hKL) xk_42 rfl (by omega) (by omega) ?_
    refine xw_aload_n (pc := 96) C0 0 dX9_makeNew_96 rfl rfl ?_
    refine xw_iconst (pc := 97) C0 dX9_makeNew_97 ?_
    refine xw_putI (pc := 98) (f := 11) C0 kcX9 dX9_makeNew_98 (by decide) tv_174 rfl rfl (xj_18 hKL) xk_42 rfl (by omega) (by omega) ?_
    refine xw_vret C0 hA hr hlk dX9_makeNew_101 ?_
    have Ft1 : xw_F [(18, 6, 6), (18, 7, 7), (18, 8, 8), (18, 9, 9), (18, 10, 10), (18, 11, 11)] ξ (xw_u (xw_u (xw_u (xw_u (xw_u (xw_u ξ 18 6 63) 18 7 0) 18 8 0) 18 9 0) 18 10 0) 18 11 0) := (((((((xw_F.rf (ML := [(18, 6, 6), (18, 7, 7), (18, 8, 8), (18, 9, 9), (18, 10, 10), (18, 11, 11)])).u (show (18, 6, 6) ∈ _ by decide) ⟨by decide, by decide⟩).u (show (18, 7, 7) ∈ _ by decide) ⟨by decide, by decide⟩).u (show (18, 8, 8) ∈ _ by decide) ⟨by decide, by decide⟩).u (show (18, 9, 9) ∈ _ by decide) ⟨by decide, by decide⟩).u (show (18, 10, 10) ∈ _ by decide) ⟨by decide, by decide⟩).u (show (18, 11, 11) ∈ _ by decide) ⟨by decide, by decide⟩)
    have vt1_18_11 : (xw_u (xw_u (xw_u (xw_u (xw_u (xw_u ξ 18 6 63) 18 7 0) 18 8 0) 18 9 0) 18 10 0) 18 11 0) 18 11 = 0 := xw_ug
    have vt1_18_10 : (xw_u (xw_u (xw_u (xw_u (xw_u (xw_u ξ 18 6 63) 18 7 0) 18 8 0) 18 9 0) 18 10 0) 18 11 0) 18 10 = 0 := (xw_un (by decide)).trans xw_ug
    have vt1_18_9 : (xw_u (xw_u (xw_u (xw_u (xw_u (xw_u ξ 18 6 63) 18 7 0) 18 8 0) 18 9 0) 18 10 0) 18 11 0) 18 9 = 0 := (xw_un (by decide)).trans ((xw_un (by decide)).trans xw_ug)
    have vt1_18_8 : (xw_u (xw_u (xw_u (xw_u (xw_u (xw_u ξ 18 6 63) 18 7 0) 18 8 0) 18 9 0) 18 10 0) 18 11 0) 18 8 = 0 := (xw_un (by decide)).trans ((xw_un (by decide)).trans ((xw_un (by decide)).trans xw_ug))
    have vt1_18_7 : (xw_u (xw_u (xw_u (xw_u (xw_u (xw_u ξ 18 6 63) 18 7 0) 18 8 0) 18 9 0) 18 10 0) 18 11 0) 18 7 = 0 := (xw_un (by decide)).trans ((xw_un (by decide)).trans ((xw_un (by decide)).trans ((xw_un (by decide)).trans xw_ug)))
    have vt1_18_6 : (xw_u (xw_u (xw_u (xw_u (xw_u (xw_u ξ 18 6 63) 18 7 0) 18 8 0) 18 9 0) 18 10 0) 18 11 0) 18 6 = 63 := (xw_un (by decide)).trans ((xw_un (by decide)).trans ((xw_un (by decide)).trans ((xw_un (by decide)).trans ((xw_un (by decide)).trans xw_ug))))
    generalize (xw_u (xw_u (xw_u (xw_u (xw_u (xw_u ξ 18 6 63) 18 7 0) 18 8 0) 18 9 0) 18 10 0) 18 11 0) = t1 at Ft1 vt1_18_11 vt1_18_10 vt1_18_9 vt1_18_8 vt1_18_7 vt1_18_6 ⊢
    exact ⟨rfl, (((hF.mono (fun j i h => xw_o_sub (by decide) j i h)).tr hF2 (fun j i h => xw_o_sub (by decide) j i h)).tr Ft1 (fun j i h => xw_o_sub (by decide) j i h))⟩)
set_option maxRecDepth 20000 in
set_option maxHeartbeats 20000000 in
theorem xh_clearS {l : Launch} {μ : xw_M} (hG : xw_G xw_GL μ) : xw_MetV l vwCl sa_Ts tb_KT0 tc_KL yX7_clear cX7_clear 1 none 2 120 (fun ad => [.ref (ad 25)]) μ (fun μ' => xw_F [(25, 4, 5)] μ μ') :=
  xw_of (by decide) (fun _ => Nat.le_of_ble_eq_true rfl) (fun p e s m args below meth c D dA A al w0 sz C0 hU hO hKL hr hlk hA => by
    refine xw_aload_n (pc := 0) C0 0 dX7_clear_0 rfl rfl ?_
    refine xw_iconst (pc := 1) C0 dX7_clear_1 ?_
    refine xw_putI (pc := 2) (f := 4) C0 kcX7 dX7_clear_2 (by decide) tv_216 rfl rfl (xj_25 hKL) xk_49 rfl (by omega) (by omega) ?_
    refine xw_aload_n (pc := 5) C0 0 dX7_clear_5 rfl rfl ?_
    refine xw_iconst (pc := 6) C0 dX7_clear_6 ?_
    refine xw_putI (pc := 7) (f := 5) C0 kcX7 dX7_clear_7 (by decide) tv_217 rfl rfl (xj_25 hKL) xk_49 rfl (by omega) (by omega) ?_
    refine xw_vret C0 hA hr hlk dX7_clear_10 ?_
    have Ft1 : xw_F [(25, 4, 4), (25, 5, 5)] μ (xw_u (xw_u μ 25 4 0) 25 5 0) := (((xw_F.rf (ML := [(25, 4, 4), (25, 5, 5)])).u (show (25, 4, 4) ∈ _ by decide) ⟨by decide, by decide⟩).u (show (25, 5, 5) ∈ _ by decide) ⟨by decide, by decide⟩)
    have vt1_25_5 : (xw_u (xw_u μ 25 4 0) 25 5 0) 25 5 = 0 := xw_ug
    have vt1_25_4 : (xw_u (xw_u μ 25 4 0) 25 5 0) 25 4 = 0 := (xw_un (by decide)).trans xw_ug
    generalize (xw_u (xw_u μ 25 4 0) 25 5 0) = t1 at Ft1 vt1_25_5 vt1_25_4 ⊢
    exact ⟨rfl, ((xw_F.rf (ML := [(25, 4, 5)])).tr Ft1 (fun j i h => xw_o_sub (by decide) j i h))⟩)
set_option maxRecDepth 20000 in
set_option maxHeartbeats 20000000 in
theorem xh_clearY {l : Launch} {μ : xw_M} (hG : xw_G xw_GL μ) : xw_MetV l vwCl sa_Ts tb_KT0 tc_KL yX1_clear cX1_clear 1 none 2 120 (fun ad => [.ref (ad 31)]) μ (fun μ' => xw_F [(31, 1, 2)] μ μ') :=
  xw_of (by decide) (fun _ => Nat.le_of_ble_eq_true rfl) (fun p e s m args below meth c D dA A al w0 sz C0 hU hO hKL hr hlk hA => by
    refine xw_aload_n (pc := 0) C0 0 dX1_clear_0 rfl rfl ?_
    refine xw_iconst (pc := 1) C0 dX1_clear_1 ?_
    refine xw_putI (pc := 2) (f := 2) C0 kcX1 dX1_clear_2 (by decide) tv_261 rfl rfl (xj_31 hKL) xk_65 rfl (by omega) (by omega) ?_
    refine xw_vret C0 hA hr hlk dX1_clear_5 ?_
    have Ft1 : xw_F [(31, 2, 2)] μ (xw_u μ 31 2 0) := ((xw_F.rf (ML := [(31, 2, 2)])).u (show (31, 2, 2) ∈ _ by decide) ⟨by decide, by decide⟩)
    have vt1_31_2 : (xw_u μ 31 2 0) 31 2 = 0 := xw_ug
    generalize (xw_u μ 31 2 0) = t1 at Ft1 vt1_31_2 ⊢
    exact ⟨rfl, ((xw_F.rf (ML := [(31, 1, 2)])).tr Ft1 (fun j i h => xw_o_sub (by decide) j i h))⟩)
set_option maxRecDepth 20000 in
set_option maxHeartbeats 20000000 in
theorem xh_house {l : Launch} {t : Nat → Int} {n : Nat} {μ : xw_M} (hG : xw_G xw_GL μ) (ht : ∀ i : Nat, μ 2 i % 256 = t i) (hn : μ 1 1 = (n : Int)) (hn9 : n ≤ 940) : xw_MetI l vwCl sa_Ts tb_KT0 tc_KL yX11_house cX11_house 2 (some .int) 9 278 (fun ad => [.ref (ad 0)]) μ (fun r μ' => ((∃ q : Int × (Nat → Int) × (Nat → Int), hp_res t n = .inr q ∧ r = q.1 ∧ hp_ok q.2.1 q.2.2) ∨ (∃ e9 : hp_E, hp_res t n = .inl e9 ∧ r = -1 - e9.2)) ∧ μ' 1 1 = 0 ∧ xw_F [(0, 13, 13), (1, 1, 1), (4, 13, 15), (5, 0, 5), (6, 0, 5), (7, 0, 5), (8, 0, 5), (9, 0, 5), (10, 0, 5), (11, 0, 5), (12, 0, 7), (13, 0, 7), (14, 0, 7), (15, 0, 7), (16, 0, 7), (17, 0, 23), (18, 6, 11), (19, 0, 5), (20, 0, 5), (21, 0, 5), (22, 0, 7), (23, 0, 7), (24, 0, 7), (25, 4, 5), (31, 1, 2), (103, 2, 2), (104, 0, 9), (107, 13, 15), (108, 0, 5), (109, 0, 5), (110, 0, 5), (111, 0, 5), (112, 0, 5), (113, 0, 5), (114, 0, 5), (115, 0, 7), (116, 0, 7), (117, 0, 7), (118, 0, 7), (119, 0, 7), (120, 0, 23)] μ μ') :=
  xw_of (by decide) (fun _ => Nat.le_of_ble_eq_true rfl) (fun p e s m args below meth c D dA A al w0 sz C0 hU hO hKL hr hlk hA => by
    refine xw_aload_n (pc := 0) C0 0 dX11_house_0 rfl rfl ?_
    refine xw_getR (pc := 1) (f := 5) C0 103 kcX11 dX11_house_1 (by decide) tv_427 (xj_0 hKL) xk_27 rfl ((rfl).trans (xe_0_5 hG)) ?_
    refine xw_aload_n (pc := 4) C0 0 dX11_house_4 rfl rfl ?_
    refine xw_getR (pc := 5) (f := 0) C0 1 kcX11 dX11_house_5 (by decide) tv_422 (xj_0 hKL) xk_27 rfl ((rfl).trans (xe_0_0 hG)) ?_
    refine xw_callVI (pc := 8) (μ := μ) (ci := 3) (rest := []) (As := [.ref (xw_ad al 1)]) C0 hU hO sa_Tg hKL (xh_readHouse (l := l) (t := t) (n := n) hG ht hn hn9) tv_497 dX11_house_8 tv_494 tv_495 tv_496 tv_8 rfl yb_X3_readHouse (by decide) rfl rfl rfl (by decide) (Nat.le_of_ble_eq_true rfl) (xj_103 hKL) xk_67 (fun r1 m1 w1 => ?_)
    obtain ⟨w1, F1⟩ := w1
    have hG_m1 := xw_GF hG F1 (by decide)
    rcases w1 with ⟨q1, eo1, rfl, H1, K1, L1, x1⟩ | ⟨e1, eo1, rfl, W1⟩
    · have k0 := K1.1
      have k1 := K1.2.1
      have k2 := K1.2.2.1
      refine xw_istore_n (pc := 11) (L' := [(1, .int (Int32.ofInt 1)), (0, .ref (xw_ad al 0))]) C0 dX11_house_11 rfl (by decide) rfl ?_
      refine xw_aload_n (pc := 12) C0 1 dX11_house_12 rfl rfl ?_
      refine xw_aload_n (pc := 13) C0 1 dX11_house_13 rfl rfl ?_
      refine xw_getR (pc := 14) (f := 5) C0 103 kcX11 dX11_house_14 (by decide) tv_427 (xj_0 hKL) xk_27 rfl (((F1 0 5 rfl).trans rfl).trans (xe_0_5 hG)) ?_
      refine xw_getR (pc := 17) (f := 0) C0 104 kcX3 dX11_house_17 (by decide) tv_330 (xj_103 hKL) xk_67 rfl (((F1 103 0 rfl).trans rfl).trans (xe_103_0 hG)) ?_
      refine xw_callVV (pc := 20) (μ := m1) (ci := 11) (rest := []) (As := [.ref (xw_ad al 104)]) C0 hU hO sa_Tg hKL (xh_takeText (l := l) hG_m1) tv_622 dX11_house_20 tv_619 tv_621 tq_X11_takeText tv_1 rfl yb_X11_takeText (by decide) rfl rfl rfl (by decide) (Nat.le_of_ble_eq_true rfl) (xj_0 hKL) xk_27 (fun m2 F2 => ?_)
      obtain ⟨z2, F2⟩ := F2
      have hG_m2 := xw_GF hG_m1 F2 (by decide)
      refine xw_iload_n (pc := 23) C0 0 dX11_house_23 rfl rfl ?_
      refine xw_if_ne (pc := 24) (tgt := 40) C0 (by omega) dX11_house_24 rfl (fun b3 => ?_) (fun b3 => ?_)
      · refine xw_aload_n (pc := 40) C0 1 dX11_house_40 rfl rfl ?_
        refine xw_getR (pc := 41) (f := 1) C0 3 kcX11 dX11_house_41 (by decide) tv_423 (xj_0 hKL) xk_27 rfl (((F2 0 1 rfl).trans ((F1 0 1 rfl).trans rfl)).trans (xe_0_1 hG)) ?_
        refine xw_getR (pc := 44) (f := 0) C0 4 kcX10 dX11_house_44 (by decide) tv_234 (xj_3 hKL) xk_24 rfl (((F2 3 0 rfl).trans ((F1 3 0 rfl).trans rfl)).trans (xe_3_0 hG)) ?_
        refine xw_aload_n (pc := 47) C0 1 dX11_house_47 rfl rfl ?_
        refine xw_getR (pc := 48) (f := 5) C0 103 kcX11 dX11_house_48 (by decide) tv_427 (xj_0 hKL) xk_27 rfl (((F2 0 5 rfl).trans ((F1 0 5 rfl).trans rfl)).trans (xe_0_5 hG)) ?_
        refine xw_getR (pc := 51) (f := 1) C0 107 kcX3 dX11_house_51 (by decide) tv_332 (xj_103 hKL) xk_67 rfl (((F2 103 1 rfl).trans ((F1 103 1 rfl).trans rfl)).trans (xe_103_1 hG)) ?_
        refine xw_callVV (pc := 54) (μ := m2) (ci := 2) (rest := []) (As := [.ref (xw_ad al 107)]) C0 hU hO sa_Tg hKL (xh_copyFrom (l := l) hG_m2) tv_626 dX11_house_54 tv_623 tv_624 tv_625 tv_4 rfl yb_X2_copyFrom (by decide) rfl rfl rfl (by decide) (Nat.le_of_ble_eq_true rfl) (xj_4 hKL) xk_28 (fun m4 F4 => ?_)
        have hG_m4 := xw_GF hG_m2 F4 (by decide)
        refine xw_aload_n (pc := 57) C0 1 dX11_house_57 rfl rfl ?_
        refine xw_getR (pc := 58) (f := 1) C0 3 kcX11 dX11_house_58 (by decide) tv_423 (xj_0 hKL) xk_27 rfl (((F4 0 1 rfl).trans ((F2 0 1 rfl).trans ((F1 0 1 rfl).trans rfl))).trans (xe_0_1 hG)) ?_
        refine xw_getR (pc := 61) (f := 1) C0 18 kcX10 dX11_house_61 (by decide) tv_236 (xj_3 hKL) xk_24 rfl (((F4 3 1 rfl).trans ((F2 3 1 rfl).trans ((F1 3 1 rfl).trans rfl))).trans (xe_3_1 hG)) ?_
        refine xw_callVV (pc := 64) (μ := m4) (ci := 9) (rest := []) (As := []) C0 hU hO sa_Tg hKL (xh_makeNew (l := l) hG_m4) tv_633 dX11_house_64 tv_630 tv_631 tv_632 tv_5 rfl yb_X9_makeNew (by decide) rfl rfl rfl (by decide) (Nat.le_of_ble_eq_true rfl) (xj_18 hKL) xk_42 (fun m5 F5 => ?_)
        have hG_m5 := xw_GF hG_m4 F5 (by decide)
        refine xw_aload_n (pc := 67) C0 1 dX11_house_67 rfl rfl ?_
        refine xw_getR (pc := 68) (f := 1) C0 3 kcX11 dX11_house_68 (by decide) tv_423 (xj_0 hKL) xk_27 rfl (((F5 0 1 rfl).trans ((F4 0 1 rfl).trans ((F2 0 1 rfl).trans ((F1 0 1 rfl).trans rfl)))).trans (xe_0_1 hG)) ?_
        refine xw_getR (pc := 71) (f := 2) C0 25 kcX10 dX11_house_71 (by decide) tv_238 (xj_3 hKL) xk_24 rfl (((F5 3 2 rfl).trans ((F4 3 2 rfl).trans ((F2 3 2 rfl).trans ((F1 3 2 rfl).trans rfl)))).trans (xe_3_2 hG)) ?_
        refine xw_callVV (pc := 74) (μ := m5) (ci := 7) (rest := []) (As := []) C0 hU hO sa_Tg hKL (xh_clearS (l := l) hG_m5) tv_637 dX11_house_74 tv_634 tv_635 tv_636 tv_6 rfl yb_X7_clear (by decide) rfl rfl rfl (by decide) (Nat.le_of_ble_eq_true rfl) (xj_25 hKL) xk_49 (fun m6 F6 => ?_)
        have hG_m6 := xw_GF hG_m5 F6 (by decide)
        refine xw_aload_n (pc := 77) C0 1 dX11_house_77 rfl rfl ?_
        refine xw_getR (pc := 78) (f := 3) C0 31 kcX11 dX11_house_78 (by decide) tv_425 (xj_0 hKL) xk_27 rfl (((F6 0 3 rfl).trans ((F5 0 3 rfl).trans ((F4 0 3 rfl).trans ((F2 0 3 rfl).trans ((F1 0 3 rfl).trans rfl))))).trans (xe_0_3 hG)) ?_
        refine xw_callVV (pc := 81) (μ := m6) (ci := 1) (rest := []) (As := []) C0 hU hO sa_Tg hKL (xh_clearY (l := l) hG_m6) tv_641 dX11_house_81 tv_638 tv_639 tv_640 tv_7 rfl yb_X1_clear (by decide) rfl rfl rfl (by decide) (Nat.le_of_ble_eq_true rfl) (xj_31 hKL) xk_65 (fun m7 F7 => ?_)
        have hG_m7 := xw_GF hG_m6 F7 (by decide)
        refine xw_aload_n (pc := 84) C0 1 dX11_house_84 rfl rfl ?_
        refine xw_getR (pc := 85) (f := 5) C0 103 kcX11 dX11_house_85 (by decide) tv_427 (xj_0 hKL) xk_27 rfl (((F7 0 5 rfl).trans ((F6 0 5 rfl).trans ((F5 0 5 rfl).trans ((F4 0 5 rfl).trans ((F2 0 5 rfl).trans ((F1 0 5 rfl).trans rfl)))))).trans (xe_0_5 hG)) ?_
        refine xw_getI (pc := 88) (f := 2) (z := m1 103 2) C0 kcX3 dX11_house_88 (by decide) tv_334 (xj_103 hKL) xk_67 rfl ((F7 103 2 rfl).trans ((F6 103 2 rfl).trans ((F5 103 2 rfl).trans ((F4 103 2 rfl).trans ((F2 103 2 rfl).trans rfl))))) (fun g8 k8 => ?_)
        refine xw_iret C0 hA hr hlk rfl dX11_house_91 ?_
        exact ⟨_, rfl, Or.inl ⟨q1, eo1, L1, K1⟩, ((F7 1 1 rfl).trans ((F6 1 1 rfl).trans ((F5 1 1 rfl).trans (F4 1 1 rfl)))).trans z2, (((((((xw_F.rf (ML := [(0, 13, 13), (1, 1, 1), (4, 13, 15), (5, 0, 5), (6, 0, 5), (7, 0, 5), (8, 0, 5), (9, 0, 5), (10, 0, 5), (11, 0, 5), (12, 0, 7), (13, 0, 7), (14, 0, 7), (15, 0, 7), (16, 0, 7), (17, 0, 23), (18, 6, 11), (19, 0, 5), (20, 0, 5), (21, 0, 5), (22, 0, 7), (23, 0, 7), (24, 0, 7), (25, 4, 5), (31, 1, 2), (103, 2, 2), (104, 0, 9), (107, 13, 15), (108, 0, 5), (109, 0, 5), (110, 0, 5), (111, 0, 5), (112, 0, 5), (113, 0, 5), (114, 0, 5), (115, 0, 7), (116, 0, 7), (117, 0, 7), (118, 0, 7), (119, 0, 7), (120, 0, 23)])).tr F1 (fun j i h => xw_o_sub (by decide) j i h)).tr F2 (fun j i h => xw_o_sub (by decide) j i h)).tr F4 (fun j i h => xw_o_sub (by decide) j i h)).tr F5 (fun j i h => xw_o_sub (by decide) j i h)).tr F6 (fun j i h => xw_o_sub (by decide) j i h)).tr F7 (fun j i h => xw_o_sub (by decide) j i h))⟩
      · exfalso
        omega
    · refine xw_istore_n (pc := 11) (L' := [(1, .int (Int32.ofInt 0)), (0, .ref (xw_ad al 0))]) C0 dX11_house_11 rfl (by decide) rfl ?_
      refine xw_aload_n (pc := 12) C0 1 dX11_house_12 rfl rfl ?_
      refine xw_aload_n (pc := 13) C0 1 dX11_house_13 rfl rfl ?_
      refine xw_getR (pc := 14) (f := 5) C0 103 kcX11 dX11_house_14 (by decide) tv_427 (xj_0 hKL) xk_27 rfl (((F1 0 5 rfl).trans rfl).trans (xe_0_5 hG)) ?_
      refine xw_getR (pc := 17) (f := 0) C0 104 kcX3 dX11_house_17 (by decide) tv_330 (xj_103 hKL) xk_67 rfl (((F1 103 0 rfl).trans rfl).trans (xe_103_0 hG)) ?_
      refine xw_callVV (pc := 20) (μ := m1) (ci := 11) (rest := []) (As := [.ref (xw_ad al 104)]) C0 hU hO sa_Tg hKL (xh_takeText (l := l) hG_m1) tv_622 dX11_house_20 tv_619 tv_621 tq_X11_takeText tv_1 rfl yb_X11_takeText (by decide) rfl rfl rfl (by decide) (Nat.le_of_ble_eq_true rfl) (xj_0 hKL) xk_27 (fun m10 F10 => ?_)
      obtain ⟨z10, F10⟩ := F10
      have hG_m10 := xw_GF hG_m1 F10 (by decide)
      refine xw_iload_n (pc := 23) C0 0 dX11_house_23 rfl rfl ?_
      refine xw_if_ne (pc := 24) (tgt := 40) C0 (by omega) dX11_house_24 rfl (fun b11 => ?_) (fun b11 => ?_)
      · exfalso
        omega
      · refine xw_iconst (pc := 27) C0 dX11_house_27 ?_
        refine xw_aload_n (pc := 28) C0 1 dX11_house_28 rfl rfl ?_
        refine xw_getR (pc := 29) (f := 5) C0 103 kcX11 dX11_house_29 (by decide) tv_427 (xj_0 hKL) xk_27 rfl (((F10 0 5 rfl).trans ((F1 0 5 rfl).trans rfl)).trans (xe_0_5 hG)) ?_
        refine xw_getR (pc := 32) (f := 0) C0 104 kcX3 dX11_house_32 (by decide) tv_330 (xj_103 hKL) xk_67 rfl (((F10 103 0 rfl).trans ((F1 103 0 rfl).trans rfl)).trans (xe_103_0 hG)) ?_
        refine xw_getI (pc := 35) (f := 9) (z := m1 104 9) C0 kcX6 dX11_house_35 (by decide) tv_305 (xj_104 hKL) xk_17 rfl ((F10 104 9 rfl).trans rfl) (fun g12 k12 => ?_)
        refine xw_isub (pc := 38) C0 dX11_house_38 ?_
        refine xw_iret C0 hA hr hlk rfl dX11_house_39 ?_
        have e9 : m1 104 9 = e1.2 := W1.2.2
        exact ⟨_, rfl, Or.inr ⟨e1, eo1, by omega⟩, z10, (((xw_F.rf (ML := [(0, 13, 13), (1, 1, 1), (4, 13, 15), (5, 0, 5), (6, 0, 5), (7, 0, 5), (8, 0, 5), (9, 0, 5), (10, 0, 5), (11, 0, 5), (12, 0, 7), (13, 0, 7), (14, 0, 7), (15, 0, 7), (16, 0, 7), (17, 0, 23), (18, 6, 11), (19, 0, 5), (20, 0, 5), (21, 0, 5), (22, 0, 7), (23, 0, 7), (24, 0, 7), (25, 4, 5), (31, 1, 2), (103, 2, 2), (104, 0, 9), (107, 13, 15), (108, 0, 5), (109, 0, 5), (110, 0, 5), (111, 0, 5), (112, 0, 5), (113, 0, 5), (114, 0, 5), (115, 0, 7), (116, 0, 7), (117, 0, 7), (118, 0, 7), (119, 0, 7), (120, 0, 23)])).tr F1 (fun j i h => xw_o_sub (by decide) j i h)).tr F10 (fun j i h => xw_o_sub (by decide) j i h))⟩)
