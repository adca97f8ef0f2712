set_option maxRecDepth 20000 in
set_option maxHeartbeats 20000000 in
theorem xh_atL {l : Launch} {p : Program} {e : Env} {s : State} {m : MethodId} {args : Array Value} {below : List Frame} {meth : Method} {c : Code} {Q : State → Prop} {D : va_G} {dA : Nat → ClassId} {A : Nat → Prop} {al : List (Nat × Nat)} (C0 : sa_C p s m args c D dA A 8 vwCl sa_Ts cX2_addThing yX2_addThing.cls) (hU : sa_U D vwCl dA s) (hO : tb_Ou A s s.heap) (hKL : al.map Prod.snd = tc_KL) {μ : xw_M} {T : Nat} (hT6 : T < 6) (kx : ∀ ν : xw_M, xw_F [(113, 0, 5)] μ ν → xw_G xw_GL ν → xw_W p l e { frames := 3, cells := 0, slots := 0, locals := 141 } s m args below meth c Q D dA A 8 vwCl tb_KT0 al 0 0 ν 126 [(0, .ref (xw_ad al 107))] []) : ∀ (fu9 : Nat) (u : Nat) (ν : xw_M), (T : Int) - (u : Int) < (fu9 : Int) → u ≤ T → xw_F [(113, 0, 5)] μ ν → xw_G xw_GL ν → xw_W p l e { frames := 3, cells := 0, slots := 0, locals := 141 } s m args below meth c Q D dA A 8 vwCl tb_KT0 al 0 0 ν 88 [(7, .int (Int32.ofInt (u : Int))), (0, .ref (xw_ad al 107)), (6, .int (Int32.ofInt (T : Int)))] [] := by
  intro fu9
  induction fu9 with
  | zero => intro u ν hm hu hF hG_ν; exfalso; omega
  | succ fu9 ih =>
    intro u ν hm hu hF hG_ν
    refine xw_iload (pc := 88) C0 0 dX2_addThing_88 rfl ?_
    refine xw_iload (pc := 90) C0 2 dX2_addThing_90 rfl ?_
    refine xw_icmp_ge (pc := 92) (tgt := 126) C0 (by omega) (by omega) dX2_addThing_92 rfl (fun b1 => ?_) (fun b1 => ?_)
    · refine xw_pk [1] (L' := [(0, .ref (xw_ad al 107))]) rfl ?_
      exact kx ν hF hG_ν
    · refine xw_aload_n (pc := 95) C0 1 dX2_addThing_95 rfl rfl ?_
      refine xw_getR (pc := 96) (f := 5) C0 113 kcX2 dX2_addThing_96 (by decide) tv_75 (xj_107 hKL) xk_28 rfl ((rfl).trans (xe_107_5 hG_ν)) ?_
      refine xw_iload (pc := 99) C0 0 dX2_addThing_99 rfl ?_
      refine xw_dup2 (pc := 101) C0 dX2_addThing_101 rfl rfl ?_
      refine xw_iald (pc := 102) (z := ν 113 ((u : Int)).toNat) C0 dX2_addThing_102 (xj_113 hKL) xk_34 (by omega) (by decide) (xw_rl (by omega)) (rfl) (fun g2 k2 => ?_)
      refine xw_aload_n (pc := 103) C0 1 dX2_addThing_103 rfl rfl ?_
      refine xw_getR (pc := 104) (f := 4) C0 112 kcX2 dX2_addThing_104 (by decide) tv_74 (xj_107 hKL) xk_28 rfl ((rfl).trans (xe_107_4 hG_ν)) ?_
      refine xw_iload (pc := 107) C0 2 dX2_addThing_107 rfl ?_
      refine xw_iald (pc := 109) (z := ν 112 ((T : Int)).toNat) C0 dX2_addThing_109 (xj_112 hKL) xk_33 (by omega) (by decide) (xw_rl (by omega)) (rfl) (fun g3 k3 => ?_)
      refine xw_iload (pc := 110) C0 0 dX2_addThing_110 rfl ?_
      obtain ⟨y4, e4, i4⟩ := xb_wi (tb_hb (Int32.ofInt (ν 112 ((T : Int)).toNat)) (Int32.ofInt (u : Int)))
      refine xw_bitN (pc := 112) (host := "OffThenOn") (rest := [.int (Int32.ofInt (ν 113 ((u : Int)).toNat)), .int (Int32.ofInt (u : Int)), .ref (xw_ad al 113)]) C0 hU sa_Tg (pu_X11_bit (l := l)) tv_589 dX2_addThing_112 (by decide) tv_588 tv_1 yb_X11_bit (by decide) (by decide) (Nat.le_of_ble_eq_true rfl) i4 ?_
      refine xw_iload (pc := 115) C0 2 dX2_addThing_115 rfl ?_
      obtain ⟨y5, e5, i5⟩ := xb_wi (Int32.ofInt y4 <<< (Int32.ofInt (T : Int) &&& 31))
      refine xw_ishl (pc := 117) C0 dX2_addThing_117 i5 ?_
      obtain ⟨y6, e6, i6⟩ := xb_wi (Int32.ofInt (ν 113 ((u : Int)).toNat) ||| Int32.ofInt y5)
      refine xw_ior (pc := 118) C0 dX2_addThing_118 i6 ?_
      refine xw_iast (pc := 119) C0 dX2_addThing_119 (xj_113 hKL) xk_34 (by omega) (by decide) (xw_rl (by omega)) (by omega) (by omega) ?_
      refine xw_iinc (pc := 120) (L' := [(7, .int (Int32.ofInt ((u : Int) + 1))), (0, .ref (xw_ad al 107)), (6, .int (Int32.ofInt (T : Int)))]) C0 0 dX2_addThing_120 rfl (by decide) rfl ?_
      refine xw_goto (pc := 123) (tgt := 88) C0 dX2_addThing_123 rfl ?_
      have Fz9 : xw_F [(113, 0, 5)] ν (xw_u ν 113 ((u : Int)).toNat y6) := ((xw_F.rf (ML := [(113, 0, 5)])).u (show (113, 0, 5) ∈ _ by decide) ⟨by omega, by omega⟩)
      generalize (xw_u ν 113 ((u : Int)).toNat y6) = z9 at Fz9  ⊢
      have e1 : (u : Int) + 1 = ((u + 1 : Nat) : Int) := by omega
      rw [e1]
      refine xw_pk [0, 1, 2] (L' := [(7, .int (Int32.ofInt ((u + 1 : Nat) : Int))), (0, .ref (xw_ad al 107)), (6, .int (Int32.ofInt (T : Int)))]) rfl ?_
      exact ih (u + 1) z9 (by omega) (by omega) (hF.tr Fz9 (fun j i h => h)) (xw_GF hG_ν Fz9 (by decide))
set_option maxRecDepth 20000 in
set_option maxHeartbeats 20000000 in
theorem xh_addThing {l : Launch} {rd nm : Nat → Int} {v b w h : Int} {T pz : Nat} {μ : xw_M} (hG : xw_G xw_GL μ) (hH : hc_H rd nm μ) (hT : rd 0 = (T : Int)) (hT6 : T < 6) (hv : 0 ≤ v ∧ v < 10460353203) (hb : 1 ≤ b ∧ b ≤ 30) (hw : 0 ≤ w ∧ w ≤ 20) (hh : -1 ≤ h ∧ h < (T : Int)) : xw_MetV l vwCl sa_Ts tb_KT0 tc_KL yX2_addThing cX2_addThing 8 none 3 141 (fun ad => [.ref (ad 107), .long (Int64.ofInt (hp_cv v)), .int (Int32.ofInt b), .int (Int32.ofInt w), .int (Int32.ofInt h)]) μ (fun μ' => hc_H (hp_T rd nm v b w h pz).2.1 (hp_T rd nm v b w h pz).2.2 μ' ∧ xw_F [(107, 13, 13), (108, 0, 5), (109, 0, 5), (110, 0, 5), (111, 0, 5), (112, 0, 5), (113, 0, 5), (114, 0, 5)] μ μ') :=
  xw_of (by decide) (fun _ => Nat.le_of_ble_eq_true rfl) (fun p e s m args below meth c D dA A al w0 sz C0 hU hO hKL hr hlk hA => by
    have hvr := hp_cvr hv
    refine xw_aload_n (pc := 0) C0 0 dX2_addThing_0 rfl rfl ?_
    refine xw_getI (pc := 1) (f := 13) (z := μ 107 13) C0 kcX2 dX2_addThing_1 (by decide) tv_96 (xj_107 hKL) xk_28 rfl (rfl) (fun g1 k1 => ?_)
    refine xw_nI (congrArg Int32.ofInt (hH.1.1.trans hT)) ?_
    refine xw_istore (pc := 4) (L' := [(6, .int (Int32.ofInt (T : Int))), (0, .ref (xw_ad al 107)), (1, .long (Int64.ofInt (hp_cv v))), (3, .int (Int32.ofInt b)), (4, .int (Int32.ofInt w)), (5, .int (Int32.ofInt h))]) C0 dX2_addThing_4 (by decide) rfl ?_
    refine xw_aload_n (pc := 6) C0 1 dX2_addThing_6 rfl rfl ?_
    refine xw_getR (pc := 7) (f := 0) C0 108 kcX2 dX2_addThing_7 (by decide) tv_61 (xj_107 hKL) xk_28 rfl ((rfl).trans (xe_107_0 hG)) ?_
    refine xw_iload (pc := 10) C0 0 dX2_addThing_10 rfl ?_
    refine xw_lload_n (pc := 12) C0 2 dX2_addThing_12 rfl rfl ?_
    refine xw_last (pc := 13) C0 dX2_addThing_13 (xj_108 hKL) xk_29 (by omega) (by decide) (xw_rl (by omega)) (by omega) (by omega) ?_
    refine xw_aload_n (pc := 14) C0 1 dX2_addThing_14 rfl rfl ?_
    refine xw_getR (pc := 15) (f := 1) C0 109 kcX2 dX2_addThing_15 (by decide) tv_63 (xj_107 hKL) xk_28 rfl (((xw_un (fun q => absurd q.1 (by decide))).trans rfl).trans (xe_107_1 hG)) ?_
    refine xw_iload (pc := 18) C0 0 dX2_addThing_18 rfl ?_
    refine xw_iload_n (pc := 20) C0 3 dX2_addThing_20 rfl rfl ?_
    refine xw_iast (pc := 21) C0 dX2_addThing_21 (xj_109 hKL) xk_30 (by omega) (by decide) (xw_rl (by omega)) (by omega) (by omega) ?_
    refine xw_aload_n (pc := 22) C0 1 dX2_addThing_22 rfl rfl ?_
    refine xw_getR (pc := 23) (f := 2) C0 110 kcX2 dX2_addThing_23 (by decide) tv_67 (xj_107 hKL) xk_28 rfl (((xw_un (fun q => absurd q.1 (by decide))).trans ((xw_un (fun q => absurd q.1 (by decide))).trans rfl)).trans (xe_107_2 hG)) ?_
    refine xw_iload (pc := 26) C0 0 dX2_addThing_26 rfl ?_
    refine xw_iload (pc := 28) C0 4 dX2_addThing_28 rfl ?_
    refine xw_iast (pc := 30) C0 dX2_addThing_30 (xj_110 hKL) xk_31 (by omega) (by decide) (xw_rl (by omega)) (by omega) (by omega) ?_
    refine xw_aload_n (pc := 31) C0 1 dX2_addThing_31 rfl rfl ?_
    refine xw_getR (pc := 32) (f := 3) C0 111 kcX2 dX2_addThing_32 (by decide) tv_71 (xj_107 hKL) xk_28 rfl (((xw_un (fun q => absurd q.1 (by decide))).trans ((xw_un (fun q => absurd q.1 (by decide))).trans ((xw_un (fun q => absurd q.1 (by decide))).trans rfl))).trans (xe_107_3 hG)) ?_
    refine xw_iload (pc := 35) C0 0 dX2_addThing_35 rfl ?_
    refine xw_iload (pc := 37) C0 5 dX2_addThing_37 rfl ?_
    refine xw_iast (pc := 39) C0 dX2_addThing_39 (xj_111 hKL) xk_32 (by omega) (by decide) (xw_rl (by omega)) (by omega) (by omega) ?_
    refine xw_aload_n (pc := 40) C0 1 dX2_addThing_40 rfl rfl ?_
    refine xw_getR (pc := 41) (f := 4) C0 112 kcX2 dX2_addThing_41 (by decide) tv_74 (xj_107 hKL) xk_28 rfl (((xw_un (fun q => absurd q.1 (by decide))).trans ((xw_un (fun q => absurd q.1 (by decide))).trans ((xw_un (fun q => absurd q.1 (by decide))).trans ((xw_un (fun q => absurd q.1 (by decide))).trans rfl)))).trans (xe_107_4 hG)) ?_
    refine xw_iload (pc := 44) C0 0 dX2_addThing_44 rfl ?_
    refine xw_iload (pc := 46) C0 5 dX2_addThing_46 rfl ?_
    refine xw_iconst (pc := 48) C0 dX2_addThing_48 ?_
    refine xw_icmp_ne (pc := 49) (tgt := 56) C0 (by omega) (by omega) dX2_addThing_49 rfl (fun b2 => ?_) (fun b2 => ?_)
    · refine xw_aload_n (pc := 56) C0 1 dX2_addThing_56 rfl rfl ?_
      refine xw_getR (pc := 57) (f := 4) C0 112 kcX2 dX2_addThing_57 (by decide) tv_74 (xj_107 hKL) xk_28 rfl (((xw_un (fun q => absurd q.1 (by decide))).trans ((xw_un (fun q => absurd q.1 (by decide))).trans ((xw_un (fun q => absurd q.1 (by decide))).trans ((xw_un (fun q => absurd q.1 (by decide))).trans rfl)))).trans (xe_107_4 hG)) ?_
      refine xw_iload (pc := 60) C0 5 dX2_addThing_60 rfl ?_
      refine xw_iald (pc := 62) (z := μ 112 (h).toNat) C0 dX2_addThing_62 (xj_112 hKL) xk_33 (by omega) (by decide) (xw_rl (by omega)) ((xw_un (fun q => absurd q.1 (by decide))).trans ((xw_un (fun q => absurd q.1 (by decide))).trans ((xw_un (fun q => absurd q.1 (by decide))).trans ((xw_un (fun q => absurd q.1 (by decide))).trans rfl)))) (fun g3 k3 => ?_)
      refine xw_iconst (pc := 63) C0 dX2_addThing_63 ?_
      refine xw_iload (pc := 64) C0 5 dX2_addThing_64 rfl ?_
      obtain ⟨y4, e4, i4⟩ := xb_wi (Int32.ofInt 1 <<< (Int32.ofInt h &&& 31))
      refine xw_ishl (pc := 66) C0 dX2_addThing_66 i4 ?_
      obtain ⟨y5, e5, i5⟩ := xb_wi (Int32.ofInt (μ 112 (h).toNat) ||| Int32.ofInt y4)
      refine xw_ior (pc := 67) C0 dX2_addThing_67 i5 ?_
      refine xw_iast (pc := 68) C0 dX2_addThing_68 (xj_112 hKL) xk_33 (by omega) (by decide) (xw_rl (by omega)) (by omega) (by omega) ?_
      refine xw_aload_n (pc := 69) C0 1 dX2_addThing_69 rfl rfl ?_
      refine xw_getR (pc := 70) (f := 5) C0 113 kcX2 dX2_addThing_70 (by decide) tv_75 (xj_107 hKL) xk_28 rfl (((xw_un (fun q => absurd q.1 (by decide))).trans ((xw_un (fun q => absurd q.1 (by decide))).trans ((xw_un (fun q => absurd q.1 (by decide))).trans ((xw_un (fun q => absurd q.1 (by decide))).trans ((xw_un (fun q => absurd q.1 (by decide))).trans rfl))))).trans (xe_107_5 hG)) ?_
      refine xw_iload (pc := 73) C0 0 dX2_addThing_73 rfl ?_
      refine xw_iconst (pc := 75) C0 dX2_addThing_75 ?_
      refine xw_iast (pc := 76) C0 dX2_addThing_76 (xj_113 hKL) xk_34 (by omega) (by decide) (xw_rl (by omega)) (by omega) (by omega) ?_
      refine xw_aload_n (pc := 77) C0 1 dX2_addThing_77 rfl rfl ?_
      refine xw_getR (pc := 78) (f := 6) C0 114 kcX2 dX2_addThing_78 (by decide) tv_78 (xj_107 hKL) xk_28 rfl (((xw_un (fun q => absurd q.1 (by decide))).trans ((xw_un (fun q => absurd q.1 (by decide))).trans ((xw_un (fun q => absurd q.1 (by decide))).trans ((xw_un (fun q => absurd q.1 (by decide))).trans ((xw_un (fun q => absurd q.1 (by decide))).trans ((xw_un (fun q => absurd q.1 (by decide))).trans rfl)))))).trans (xe_107_6 hG)) ?_
      refine xw_iload (pc := 81) C0 0 dX2_addThing_81 rfl ?_
      refine xw_iconst (pc := 83) C0 dX2_addThing_83 ?_
      refine xw_iast (pc := 84) C0 dX2_addThing_84 (xj_114 hKL) xk_35 (by omega) (by decide) (xw_rl (by omega)) (by omega) (by omega) ?_
      refine xw_iconst (pc := 85) C0 dX2_addThing_85 ?_
      refine xw_istore (pc := 86) (L' := [(7, .int (Int32.ofInt 0)), (6, .int (Int32.ofInt (T : Int))), (0, .ref (xw_ad al 107)), (1, .long (Int64.ofInt (hp_cv v))), (3, .int (Int32.ofInt b)), (4, .int (Int32.ofInt w)), (5, .int (Int32.ofInt h))]) C0 dX2_addThing_86 (by decide) rfl ?_
      have A108 : ∀ i : Nat, (xw_u (xw_u (xw_u (xw_u (xw_u (xw_u (xw_u μ 108 ((T : Int)).toNat (hp_cv v)) 109 ((T : Int)).toNat b) 110 ((T : Int)).toNat w) 111 ((T : Int)).toNat h) 112 ((T : Int)).toNat y5) 113 ((T : Int)).toNat 0) 114 ((T : Int)).toNat 0) 108 i = if i = T then hp_cv v else μ 108 i := fun i => (xw_un (fun q => absurd q.1 (by decide))).trans ((xw_un (fun q => absurd q.1 (by decide))).trans ((xw_un (fun q => absurd q.1 (by decide))).trans ((xw_un (fun q => absurd q.1 (by decide))).trans ((xw_un (fun q => absurd q.1 (by decide))).trans ((xw_un (fun q => absurd q.1 (by decide))).trans (xw_ui (fun i => rfl)))))))
      have A109 : ∀ i : Nat, (xw_u (xw_u (xw_u (xw_u (xw_u (xw_u (xw_u μ 108 ((T : Int)).toNat (hp_cv v)) 109 ((T : Int)).toNat b) 110 ((T : Int)).toNat w) 111 ((T : Int)).toNat h) 112 ((T : Int)).toNat y5) 113 ((T : Int)).toNat 0) 114 ((T : Int)).toNat 0) 109 i = if i = T then b else μ 109 i := fun i => (xw_un (fun q => absurd q.1 (by decide))).trans ((xw_un (fun q => absurd q.1 (by decide))).trans ((xw_un (fun q => absurd q.1 (by decide))).trans ((xw_un (fun q => absurd q.1 (by decide))).trans ((xw_un (fun q => absurd q.1 (by decide))).trans (xw_ui (fun i => (xw_un (fun q => absurd q.1 (by decide))).trans rfl))))))
      have A110 : ∀ i : Nat, (xw_u (xw_u (xw_u (xw_u (xw_u (xw_u (xw_u μ 108 ((T : Int)).toNat (hp_cv v)) 109 ((T : Int)).toNat b) 110 ((T : Int)).toNat w) 111 ((T : Int)).toNat h) 112 ((T : Int)).toNat y5) 113 ((T : Int)).toNat 0) 114 ((T : Int)).toNat 0) 110 i = if i = T then w else μ 110 i := fun i => (xw_un (fun q => absurd q.1 (by decide))).trans ((xw_un (fun q => absurd q.1 (by decide))).trans ((xw_un (fun q => absurd q.1 (by decide))).trans ((xw_un (fun q => absurd q.1 (by decide))).trans (xw_ui (fun i => (xw_un (fun q => absurd q.1 (by decide))).trans ((xw_un (fun q => absurd q.1 (by decide))).trans rfl))))))
      have A111 : ∀ i : Nat, (xw_u (xw_u (xw_u (xw_u (xw_u (xw_u (xw_u μ 108 ((T : Int)).toNat (hp_cv v)) 109 ((T : Int)).toNat b) 110 ((T : Int)).toNat w) 111 ((T : Int)).toNat h) 112 ((T : Int)).toNat y5) 113 ((T : Int)).toNat 0) 114 ((T : Int)).toNat 0) 111 i = if i = T then h else μ 111 i := fun i => (xw_un (fun q => absurd q.1 (by decide))).trans ((xw_un (fun q => absurd q.1 (by decide))).trans ((xw_un (fun q => absurd q.1 (by decide))).trans (xw_ui (fun i => (xw_un (fun q => absurd q.1 (by decide))).trans ((xw_un (fun q => absurd q.1 (by decide))).trans ((xw_un (fun q => absurd q.1 (by decide))).trans rfl))))))
      have Fz1 : xw_F [(108, 0, 5), (109, 0, 5), (110, 0, 5), (111, 0, 5), (112, 0, 5), (113, 0, 5), (114, 0, 5)] μ (xw_u (xw_u (xw_u (xw_u (xw_u (xw_u (xw_u μ 108 ((T : Int)).toNat (hp_cv v)) 109 ((T : Int)).toNat b) 110 ((T : Int)).toNat w) 111 ((T : Int)).toNat h) 112 ((T : Int)).toNat y5) 113 ((T : Int)).toNat 0) 114 ((T : Int)).toNat 0) := ((((((((xw_F.rf (ML := [(108, 0, 5), (109, 0, 5), (110, 0, 5), (111, 0, 5), (112, 0, 5), (113, 0, 5), (114, 0, 5)])).u (show (108, 0, 5) ∈ _ by decide) ⟨by omega, by omega⟩).u (show (109, 0, 5) ∈ _ by decide) ⟨by omega, by omega⟩).u (show (110, 0, 5) ∈ _ by decide) ⟨by omega, by omega⟩).u (show (111, 0, 5) ∈ _ by decide) ⟨by omega, by omega⟩).u (show (112, 0, 5) ∈ _ by decide) ⟨by omega, by omega⟩).u (show (113, 0, 5) ∈ _ by decide) ⟨by omega, by omega⟩).u (show (114, 0, 5) ∈ _ by decide) ⟨by omega, by omega⟩)
      generalize (xw_u (xw_u (xw_u (xw_u (xw_u (xw_u (xw_u μ 108 ((T : Int)).toNat (hp_cv v)) 109 ((T : Int)).toNat b) 110 ((T : Int)).toNat w) 111 ((T : Int)).toNat h) 112 ((T : Int)).toNat y5) 113 ((T : Int)).toNat 0) 114 ((T : Int)).toNat 0) = z1 at Fz1 A108 A109 A110 A111 ⊢
      refine xw_pk [0, 2, 1] (L' := [(7, .int (Int32.ofInt ((0 : Nat) : Int))), (0, .ref (xw_ad al 107)), (6, .int (Int32.ofInt (T : Int)))]) rfl ?_
      refine xh_atL (μ := z1) C0 hU hO hKL hT6 (fun ν hF hG_ν => ?_) 7 0 z1 (by omega) (by omega) xw_F.rf (xw_GF hG Fz1 (by decide))
      have e13 : ν 107 13 = (T : Int) := (hF 107 13 rfl).trans ((Fz1 107 13 rfl).trans (hH.1.1.trans hT))
      refine xw_aload_n (pc := 126) C0 0 dX2_addThing_126 rfl rfl ?_
      refine xw_dup (pc := 127) C0 dX2_addThing_127 rfl ?_
      refine xw_getI (pc := 128) (f := 13) (z := ν 107 13) C0 kcX2 dX2_addThing_128 (by decide) tv_96 (xj_107 hKL) xk_28 rfl (rfl) (fun g401 k401 => ?_)
      refine xw_iconst (pc := 131) C0 dX2_addThing_131 ?_
      refine xw_iadd (pc := 132) C0 dX2_addThing_132 ?_
      refine xw_putI (pc := 133) (f := 13) C0 kcX2 dX2_addThing_133 (by decide) tv_96 rfl rfl (xj_107 hKL) xk_28 rfl (by omega) (by omega) ?_
      refine xw_vret C0 hA hr hlk dX2_addThing_136 ?_
      have Ft1 : xw_F [(107, 13, 13)] ν (xw_u ν 107 13 ((ν 107 13) + 1)) := ((xw_F.rf (ML := [(107, 13, 13)])).u (show (107, 13, 13) ∈ _ by decide) ⟨by decide, by decide⟩)
      have vt1_107_13 : (xw_u ν 107 13 ((ν 107 13) + 1)) 107 13 = (ν 107 13) + 1 := xw_ug
      generalize (xw_u ν 107 13 ((ν 107 13) + 1)) = t1 at Ft1 vt1_107_13 ⊢
      have FF : xw_F [(107, 13, 13), (108, 0, 5), (109, 0, 5), (110, 0, 5), (111, 0, 5), (112, 0, 5), (113, 0, 5), (114, 0, 5)] μ t1 := (((Fz1.mono (fun j i h => xw_o_sub (by decide) j i h)).tr hF (fun j i h => xw_o_sub (by decide) j i h)).tr Ft1 (fun j i h => xw_o_sub (by decide) j i h))
      refine ⟨rfl, hc_HT hH hT hT6 (by omega) (FF 107 14 rfl) (FF 107 15 rfl) (fun i => ((Ft1 108 i rfl).trans (hF 108 i rfl)).trans (A108 i)) (fun i => ((Ft1 109 i rfl).trans (hF 109 i rfl)).trans (A109 i)) (fun i => ((Ft1 110 i rfl).trans (hF 110 i rfl)).trans (A110 i)) (fun i => ((Ft1 111 i rfl).trans (hF 111 i rfl)).trans (A111 i)) (fun j i h1 h2 => FF j i ?_), FF⟩
      unfold xw_o
      rw [List.all_eq_true]
      intro q hq
      simp only [List.mem_cons, List.not_mem_nil, or_false] at hq
      have e8 : Nat.beq q.1 j = false := by
        cases hb : Nat.beq q.1 j with
        | false => rfl
        | true =>
          exfalso
          have e7 := Nat.eq_of_beq_eq_true hb
          rcases hq with rfl | rfl | rfl | rfl | rfl | rfl | rfl | rfl <;> simp only at e7 <;> omega
      rw [e8]
      rfl
    · refine xw_iconst (pc := 52) C0 dX2_addThing_52 ?_
      refine xw_goto (pc := 53) (tgt := 68) C0 dX2_addThing_53 rfl ?_
      refine xw_iast (pc := 68) C0 dX2_addThing_68 (xj_112 hKL) xk_33 (by omega) (by decide) (xw_rl (by omega)) (by omega) (by omega) ?_
      refine xw_aload_n (pc := 69) C0 1 dX2_addThing_69 rfl rfl ?_
      refine xw_getR (pc := 70) (f := 5) C0 113 kcX2 dX2_addThing_70 (by decide) tv_75 (xj_107 hKL) xk_28 rfl (((xw_un (fun q => absurd q.1 (by decide))).trans ((xw_un (fun q => absurd q.1 (by decide))).trans ((xw_un (fun q => absurd q.1 (by decide))).trans ((xw_un (fun q => absurd q.1 (by decide))).trans ((xw_un (fun q => absurd q.1 (by decide))).trans rfl))))).trans (xe_107_5 hG)) ?_
      refine xw_iload (pc := 73) C0 0 dX2_addThing_73 rfl ?_
      refine xw_iconst (pc := 75) C0 dX2_addThing_75 ?_
      refine xw_iast (pc := 76) C0 dX2_addThing_76 (xj_113 hKL) xk_34 (by omega) (by decide) (xw_rl (by omega)) (by omega) (by omega) ?_
      refine xw_aload_n (pc := 77) C0 1 dX2_addThing_77 rfl rfl ?_
      refine xw_getR (pc := 78) (f := 6) C0 114 kcX2 dX2_addThing_78 (by decide) tv_78 (xj_107 hKL) xk_28 rfl (((xw_un (fun q => absurd q.1 (by decide))).trans ((xw_un (fun q => absurd q.1 (by decide))).trans ((xw_un (fun q => absurd q.1 (by decide))).trans ((xw_un (fun q => absurd q.1 (by decide))).trans ((xw_un (fun q => absurd q.1 (by decide))).trans ((xw_un (fun q => absurd q.1 (by decide))).trans rfl)))))).trans (xe_107_6 hG)) ?_
      refine xw_iload (pc := 81) C0 0 dX2_addThing_81 rfl ?_
      refine xw_iconst (pc := 83) C0 dX2_addThing_83 ?_
      refine xw_iast (pc := 84) C0 dX2_addThing_84 (xj_114 hKL) xk_35 (by omega) (by decide) (xw_rl (by omega)) (by omega) (by omega) ?_
      refine xw_iconst (pc := 85) C0 dX2_addThing_85 ?_
      refine xw_istore (pc := 86) (L' := [(7, .int (Int32.ofInt 0)), (6, .int (Int32.ofInt (T : Int))), (0, .ref (xw_ad al 107)), (1, .long (Int64.ofInt (hp_cv v))), (3, .int (Int32.ofInt b)), (4, .int (Int32.ofInt w)), (5, .int (Int32.ofInt h))]) C0 dX2_addThing_86 (by decide) rfl ?_
      have A108 : ∀ i : Nat, (xw_u (xw_u (xw_u (xw_u (xw_u (xw_u (xw_u μ 108 ((T : Int)).toNat (hp_cv v)) 109 ((T : Int)).toNat b) 110 ((T : Int)).toNat w) 111 ((T : Int)).toNat h) 112 ((T : Int)).toNat 0) 113 ((T : Int)).toNat 0) 114 ((T : Int)).toNat 0) 108 i = if i = T then hp_cv v else μ 108 i := fun i => (xw_un (fun q => absurd q.1 (by decide))).trans ((xw_un (fun q => absurd q.1 (by decide))).trans ((xw_un (fun q => absurd q.1 (by decide))).trans ((xw_un (fun q => absurd q.1 (by decide))).trans ((xw_un (fun q => absurd q.1 (by decide))).trans ((xw_un (fun q => absurd q.1 (by decide))).trans (xw_ui (fun i => rfl)))))))
      have A109 : ∀ i : Nat, (xw_u (xw_u (xw_u (xw_u (xw_u (xw_u (xw_u μ 108 ((T : Int)).toNat (hp_cv v)) 109 ((T : Int)).toNat b) 110 ((T : Int)).toNat w) 111 ((T : Int)).toNat h) 112 ((T : Int)).toNat 0) 113 ((T : Int)).toNat 0) 114 ((T : Int)).toNat 0) 109 i = if i = T then b else μ 109 i := fun i => (xw_un (fun q => absurd q.1 (by decide))).trans ((xw_un (fun q => absurd q.1 (by decide))).trans ((xw_un (fun q => absurd q.1 (by decide))).trans ((xw_un (fun q => absurd q.1 (by decide))).trans ((xw_un (fun q => absurd q.1 (by decide))).trans (xw_ui (fun i => (xw_un (fun q => absurd q.1 (by decide))).trans rfl))))))
      have A110 : ∀ i : Nat, (xw_u (xw_u (xw_u (xw_u (xw_u (xw_u (xw_u μ 108 ((T : Int)).toNat (hp_cv v)) 109 ((T : Int)).toNat b) 110 ((T : Int)).toNat w) 111 ((T : Int)).toNat h) 112 ((T : Int)).toNat 0) 113 ((T : Int)).toNat 0) 114 ((T : Int)).toNat 0) 110 i = if i = T then w else μ 110 i := fun i => (xw_un (fun q => absurd q.1 (by decide))).trans ((xw_un (fun q => absurd q.1 (by decide))).trans ((xw_un (fun q => absurd q.1 (by decide))).trans ((xw_un (fun q => absurd q.1 (by decide))).trans (xw_ui (fun i => (xw_un (fun q => absurd q.1 (by decide))).trans ((xw_un (fun q => absurd q.1 (by decide))).trans rfl))))))
      have A111 : ∀ i : Nat, (xw_u (xw_u (xw_u (xw_u (xw_u (xw_u (xw_u μ 108 ((T : Int)).toNat (hp_cv v)) 109 ((T : Int)).toNat b) 110 ((T : Int)).toNat w) 111 ((T : Int)).toNat h) 112 ((T : Int)).toNat 0) 113 ((T : Int)).toNat 0) 114 ((T : Int)).toNat 0) 111 i = if i = T then h else μ 111 i := fun i => (xw_un (fun q => absurd q.1 (by decide))).trans ((xw_un (fun q => absurd q.1 (by decide))).trans ((xw_un (fun q => absurd q.1 (by decide))).trans (xw_ui (fun i => (xw_un (fun q => absurd q.1 (by decide))).trans ((xw_un (fun q => absurd q.1 (by decide))).trans ((xw_un (fun q => absurd q.1 (by decide))).trans rfl))))))
      have Fz1 : xw_F [(108, 0, 5), (109, 0, 5), (110, 0, 5), (111, 0, 5), (112, 0, 5), (113, 0, 5), (114, 0, 5)] μ (xw_u (xw_u (xw_u (xw_u (xw_u (xw_u (xw_u μ 108 ((T : Int)).toNat (hp_cv v)) 109 ((T : Int)).toNat b) 110 ((T : Int)).toNat w) 111 ((T : Int)).toNat h) 112 ((T : Int)).toNat 0) 113 ((T : Int)).toNat 0) 114 ((T : Int)).toNat 0) := ((((((((xw_F.rf (ML := [(108, 0, 5), (109, 0, 5), (110, 0, 5), (111, 0, 5), (112, 0, 5), (113, 0, 5), (114, 0, 5)])).u (show (108, 0, 5) ∈ _ by decide) ⟨by omega, by omega⟩).u (show (109, 0, 5) ∈ _ by decide) ⟨by omega, by omega⟩).u (show (110, 0, 5) ∈ _ by decide) ⟨by omega, by omega⟩).u (show (111, 0, 5) ∈ _ by decide) ⟨by omega, by omega⟩).u (show (112, 0, 5) ∈ _ by decide) ⟨by omega, by omega⟩).u (show (113, 0, 5) ∈ _ by decide) ⟨by omega, by omega⟩).u (show (114, 0, 5) ∈ _ by decide) ⟨by omega, by omega⟩)
      generalize (xw_u (xw_u (xw_u (xw_u (xw_u (xw_u (xw_u μ 108 ((T : Int)).toNat (hp_cv v)) 109 ((T : Int)).toNat b) 110 ((T : Int)).toNat w) 111 ((T : Int)).toNat h) 112 ((T : Int)).toNat 0) 113 ((T : Int)).toNat 0) 114 ((T : Int)).toNat 0) = z1 at Fz1 A108 A109 A110 A111 ⊢
      refine xw_pk [0, 2, 1] (L' := [(7, .int (Int32.ofInt ((0 : Nat) : Int))), (0, .ref (xw_ad al 107)), (6, .int (Int32.ofInt (T : Int)))]) rfl ?_
      refine xh_atL (μ := z1) C0 hU hO hKL hT6 (fun ν hF hG_ν => ?_) 7 0 z1 (by omega) (by omega) xw_F.rf (xw_GF hG Fz1 (by decide))
      have e13 : ν 107 13 = (T : Int) := (hF 107 13 rfl).trans ((Fz1 107 13 rfl).trans (hH.1.1.trans hT))
      refine xw_aload_n (pc := 126) C0 0 dX2_addThing_126 rfl rfl ?_
      refine xw_dup (pc := 127) C0 dX2_addThing_127 rfl ?_
      refine xw_getI (pc := 128) (f := 13) (z := ν 107 13) C0 kcX2 dX2_addThing_128 (by decide) tv_96 (xj_107 hKL) xk_28 rfl (rfl) (fun g401 k401 => ?_)
      refine xw_iconst (pc := 131) C0 dX2_addThing_131 ?_
      refine xw_iadd (pc := 132) C0 dX2_addThing_132 ?_
      refine xw_putI (pc := 133) (f := 13) C0 kcX2 dX2_addThing_133 (by decide) tv_96 rfl rfl (xj_107 hKL) xk_28 rfl (by omega) (by omega) ?_
      refine xw_vret C0 hA hr hlk dX2_addThing_136 ?_
      have Ft1 : xw_F [(107, 13, 13)] ν (xw_u ν 107 13 ((ν 107 13) + 1)) := ((xw_F.rf (ML := [(107, 13, 13)])).u (show (107, 13, 13) ∈ _ by decide) ⟨by decide, by decide⟩)
      have vt1_107_13 : (xw_u ν 107 13 ((ν 107 13) + 1)) 107 13 = (ν 107 13) + 1 := xw_ug
      generalize (xw_u ν 107 13 ((ν 107 13) + 1)) = t1 at Ft1 vt1_107_13 ⊢
      have FF : xw_F [(107, 13, 13), (108, 0, 5), (109, 0, 5), (110, 0, 5), (111, 0, 5), (112, 0, 5), (113, 0, 5), (114, 0, 5)] μ t1 := (((Fz1.mono (fun j i h => xw_o_sub (by decide) j i h)).tr hF (fun j i h => xw_o_sub (by decide) j i h)).tr Ft1 (fun j i h => xw_o_sub (by decide) j i h))
      refine ⟨rfl, hc_HT hH hT hT6 (by omega) (FF 107 14 rfl) (FF 107 15 rfl) (fun i => ((Ft1 108 i rfl).trans (hF 108 i rfl)).trans (A108 i)) (fun i => ((Ft1 109 i rfl).trans (hF 109 i rfl)).trans (A109 i)) (fun i => ((Ft1 110 i rfl).trans (hF 110 i rfl)).trans (A110 i)) (fun i => ((Ft1 111 i rfl).trans (hF 111 i rfl)).trans (A111 i)) (fun j i h1 h2 => FF j i ?_), FF⟩
      unfold xw_o
      rw [List.all_eq_true]
      intro q hq
      simp only [List.mem_cons, List.not_mem_nil, or_false] at hq
      have e8 : Nat.beq q.1 j = false := by
        cases hb : Nat.beq q.1 j with
        | false => rfl
        | true =>
          exfalso
          have e7 := Nat.eq_of_beq_eq_true hb
          rcases hq with rfl | rfl | rfl | rfl | rfl | rfl | rfl | rfl <;> simp only at e7 <;> omega
      rw [e8]
      rfl)
set_option maxRecDepth 20000 in
set_option maxHeartbeats 20000000 in
theorem xh_addFault {l : Launch} {rd nm : Nat → Int} {v h a b c9 : Int} {T pz : Nat} {μ : xw_M} (hG : xw_G xw_GL μ) (hH : hc_H rd nm μ) (hT : rd 1 = (T : Int)) (hT8 : T < 8) (hv : 0 ≤ v ∧ v < 10460353203) (hh : 0 ≤ h ∧ h ≤ 5) (ha : 0 ≤ a ∧ a ≤ 200) (hb : 1 ≤ b ∧ b ≤ 99) (hc : 1 ≤ c9 ∧ c9 ≤ 15) : xw_MetV l vwCl sa_Ts tb_KT0 tc_KL yX2_addFault cX2_addFault 8 none 2 120 (fun ad => [.ref (ad 107), .long (Int64.ofInt (hp_cv v)), .int (Int32.ofInt h), .int (Int32.ofInt a), .int (Int32.ofInt b), .int (Int32.ofInt c9)]) μ (fun μ' => hc_H (hp_F rd nm v h a b c9 pz).2.1 (hp_F rd nm v h a b c9 pz).2.2 μ' ∧ xw_F [(107, 14, 14), (114, 0, 5), (115, 0, 7), (116, 0, 7), (117, 0, 7), (118, 0, 7), (119, 0, 7)] μ μ') :=
  xw_of (by decide) (fun _ => Nat.le_of_ble_eq_true rfl) (fun p e s m args below meth c D dA A al w0 sz C0 hU hO hKL hr hlk hA => by
    have hvr := hp_cvr hv
    have e14 : μ 107 14 = (T : Int) := hH.1.2.1.trans hT
    refine xw_aload_n (pc := 0) C0 0 dX2_addFault_0 rfl rfl ?_
    refine xw_getI (pc := 1) (f := 14) (z := μ 107 14) C0 kcX2 dX2_addFault_1 (by decide) tv_101 (xj_107 hKL) xk_28 rfl (rfl) (fun g1 k1 => ?_)
    refine xw_nI (congrArg Int32.ofInt (hH.1.2.1.trans hT)) ?_
    refine xw_istore (pc := 4) (L' := [(7, .int (Int32.ofInt (T : Int))), (0, .ref (xw_ad al 107)), (1, .long (Int64.ofInt (hp_cv v))), (3, .int (Int32.ofInt h)), (4, .int (Int32.ofInt a)), (5, .int (Int32.ofInt b)), (6, .int (Int32.ofInt c9))]) C0 dX2_addFault_4 (by decide) rfl ?_
    refine xw_aload_n (pc := 6) C0 1 dX2_addFault_6 rfl rfl ?_
    refine xw_getR (pc := 7) (f := 7) C0 115 kcX2 dX2_addFault_7 (by decide) tv_81 (xj_107 hKL) xk_28 rfl ((rfl).trans (xe_107_7 hG)) ?_
    refine xw_iload (pc := 10) C0 0 dX2_addFault_10 rfl ?_
    refine xw_lload_n (pc := 12) C0 2 dX2_addFault_12 rfl rfl ?_
    refine xw_last (pc := 13) C0 dX2_addFault_13 (xj_115 hKL) xk_36 (by omega) (by decide) (xw_rl (by omega)) (by omega) (by omega) ?_
    refine xw_aload_n (pc := 14) C0 1 dX2_addFault_14 rfl rfl ?_
    refine xw_getR (pc := 15) (f := 8) C0 116 kcX2 dX2_addFault_15 (by decide) tv_83 (xj_107 hKL) xk_28 rfl (((xw_un (fun q => absurd q.1 (by decide))).trans rfl).trans (xe_107_8 hG)) ?_
    refine xw_iload (pc := 18) C0 0 dX2_addFault_18 rfl ?_
    refine xw_iload_n (pc := 20) C0 3 dX2_addFault_20 rfl rfl ?_
    refine xw_iast (pc := 21) C0 dX2_addFault_21 (xj_116 hKL) xk_37 (by omega) (by decide) (xw_rl (by omega)) (by omega) (by omega) ?_
    refine xw_aload_n (pc := 22) C0 1 dX2_addFault_22 rfl rfl ?_
    refine xw_getR (pc := 23) (f := 9) C0 117 kcX2 dX2_addFault_23 (by decide) tv_86 (xj_107 hKL) xk_28 rfl (((xw_un (fun q => absurd q.1 (by decide))).trans ((xw_un (fun q => absurd q.1 (by decide))).trans rfl)).trans (xe_107_9 hG)) ?_
    refine xw_iload (pc := 26) C0 0 dX2_addFault_26 rfl ?_
    refine xw_iload (pc := 28) C0 4 dX2_addFault_28 rfl ?_
    refine xw_iast (pc := 30) C0 dX2_addFault_30 (xj_117 hKL) xk_38 (by omega) (by decide) (xw_rl (by omega)) (by omega) (by omega) ?_
    refine xw_aload_n (pc := 31) C0 1 dX2_addFault_31 rfl rfl ?_
    refine xw_getR (pc := 32) (f := 10) C0 118 kcX2 dX2_addFault_32 (by decide) tv_89 (xj_107 hKL) xk_28 rfl (((xw_un (fun q => absurd q.1 (by decide))).trans ((xw_un (fun q => absurd q.1 (by decide))).trans ((xw_un (fun q => absurd q.1 (by decide))).trans rfl))).trans (xe_107_10 hG)) ?_
    refine xw_iload (pc := 35) C0 0 dX2_addFault_35 rfl ?_
    refine xw_iload (pc := 37) C0 5 dX2_addFault_37 rfl ?_
    refine xw_iast (pc := 39) C0 dX2_addFault_39 (xj_118 hKL) xk_39 (by omega) (by decide) (xw_rl (by omega)) (by omega) (by omega) ?_
    refine xw_aload_n (pc := 40) C0 1 dX2_addFault_40 rfl rfl ?_
    refine xw_getR (pc := 41) (f := 11) C0 119 kcX2 dX2_addFault_41 (by decide) tv_92 (xj_107 hKL) xk_28 rfl (((xw_un (fun q => absurd q.1 (by decide))).trans ((xw_un (fun q => absurd q.1 (by decide))).trans ((xw_un (fun q => absurd q.1 (by decide))).trans ((xw_un (fun q => absurd q.1 (by decide))).trans rfl)))).trans (xe_107_11 hG)) ?_
    refine xw_iload (pc := 44) C0 0 dX2_addFault_44 rfl ?_
    refine xw_iload (pc := 46) C0 6 dX2_addFault_46 rfl ?_
    refine xw_iast (pc := 48) C0 dX2_addFault_48 (xj_119 hKL) xk_40 (by omega) (by decide) (xw_rl (by omega)) (by omega) (by omega) ?_
    refine xw_aload_n (pc := 49) C0 1 dX2_addFault_49 rfl rfl ?_
    refine xw_getR (pc := 50) (f := 6) C0 114 kcX2 dX2_addFault_50 (by decide) tv_78 (xj_107 hKL) xk_28 rfl (((xw_un (fun q => absurd q.1 (by decide))).trans ((xw_un (fun q => absurd q.1 (by decide))).trans ((xw_un (fun q => absurd q.1 (by decide))).trans ((xw_un (fun q => absurd q.1 (by decide))).trans ((xw_un (fun q => absurd q.1 (by decide))).trans rfl))))).trans (xe_107_6 hG)) ?_
    refine xw_iload_n (pc := 53) C0 3 dX2_addFault_53 rfl rfl ?_
    refine xw_dup2 (pc := 54) C0 dX2_addFault_54 rfl rfl ?_
    refine xw_iald (pc := 55) (z := μ 114 (h).toNat) C0 dX2_addFault_55 (xj_114 hKL) xk_35 (by omega) (by decide) (xw_rl (by omega)) ((xw_un (fun q => absurd q.1 (by decide))).trans ((xw_un (fun q => absurd q.1 (by decide))).trans ((xw_un (fun q => absurd q.1 (by decide))).trans ((xw_un (fun q => absurd q.1 (by decide))).trans ((xw_un (fun q => absurd q.1 (by decide))).trans rfl))))) (fun g2 k2 => ?_)
    refine xw_iconst (pc := 56) C0 dX2_addFault_56 ?_
    refine xw_iload (pc := 57) C0 0 dX2_addFault_57 rfl ?_
    obtain ⟨y3, e3, i3⟩ := xb_wi (Int32.ofInt 1 <<< (Int32.ofInt (T : Int) &&& 31))
    refine xw_ishl (pc := 59) C0 dX2_addFault_59 i3 ?_
    obtain ⟨y4, e4, i4⟩ := xb_wi (Int32.ofInt (μ 114 (h).toNat) ||| Int32.ofInt y3)
    refine xw_ior (pc := 60) C0 dX2_addFault_60 i4 ?_
    refine xw_iast (pc := 61) C0 dX2_addFault_61 (xj_114 hKL) xk_35 (by omega) (by decide) (xw_rl (by omega)) (by omega) (by omega) ?_
    refine xw_aload_n (pc := 62) C0 1 dX2_addFault_62 rfl rfl ?_
    refine xw_dup (pc := 63) C0 dX2_addFault_63 rfl ?_
    refine xw_getI (pc := 64) (f := 14) (z := μ 107 14) C0 kcX2 dX2_addFault_64 (by decide) tv_101 (xj_107 hKL) xk_28 rfl ((xw_un (fun q => absurd q.1 (by decide))).trans ((xw_un (fun q => absurd q.1 (by decide))).trans ((xw_un (fun q => absurd q.1 (by decide))).trans ((xw_un (fun q => absurd q.1 (by decide))).trans ((xw_un (fun q => absurd q.1 (by decide))).trans ((xw_un (fun q => absurd q.1 (by decide))).trans rfl)))))) (fun g5 k5 => ?_)
    refine xw_iconst (pc := 67) C0 dX2_addFault_67 ?_
    refine xw_iadd (pc := 68) C0 dX2_addFault_68 ?_
    refine xw_putI (pc := 69) (f := 14) C0 kcX2 dX2_addFault_69 (by decide) tv_101 rfl rfl (xj_107 hKL) xk_28 rfl (by omega) (by omega) ?_
    refine xw_vret C0 hA hr hlk dX2_addFault_72 ?_
    have A115 : ∀ i : Nat, (xw_u (xw_u (xw_u (xw_u (xw_u (xw_u (xw_u μ 115 ((T : Int)).toNat (hp_cv v)) 116 ((T : Int)).toNat h) 117 ((T : Int)).toNat a) 118 ((T : Int)).toNat b) 119 ((T : Int)).toNat c9) 114 (h).toNat y4) 107 14 ((μ 107 14) + 1)) 115 i = if i = T then hp_cv v else μ 115 i := fun i => (xw_un (fun q => absurd q.1 (by decide))).trans ((xw_un (fun q => absurd q.1 (by decide))).trans ((xw_un (fun q => absurd q.1 (by decide))).trans ((xw_un (fun q => absurd q.1 (by decide))).trans ((xw_un (fun q => absurd q.1 (by decide))).trans ((xw_un (fun q => absurd q.1 (by decide))).trans (xw_ui (fun i => rfl)))))))
    have A116 : ∀ i : Nat, (xw_u (xw_u (xw_u (xw_u (xw_u (xw_u (xw_u μ 115 ((T : Int)).toNat (hp_cv v)) 116 ((T : Int)).toNat h) 117 ((T : Int)).toNat a) 118 ((T : Int)).toNat b) 119 ((T : Int)).toNat c9) 114 (h).toNat y4) 107 14 ((μ 107 14) + 1)) 116 i = if i = T then h else μ 116 i := fun i => (xw_un (fun q => absurd q.1 (by decide))).trans ((xw_un (fun q => absurd q.1 (by decide))).trans ((xw_un (fun q => absurd q.1 (by decide))).trans ((xw_un (fun q => absurd q.1 (by decide))).trans ((xw_un (fun q => absurd q.1 (by decide))).trans (xw_ui (fun i => (xw_un (fun q => absurd q.1 (by decide))).trans rfl))))))
    have A117 : ∀ i : Nat, (xw_u (xw_u (xw_u (xw_u (xw_u (xw_u (xw_u μ 115 ((T : Int)).toNat (hp_cv v)) 116 ((T : Int)).toNat h) 117 ((T : Int)).toNat a) 118 ((T : Int)).toNat b) 119 ((T : Int)).toNat c9) 114 (h).toNat y4) 107 14 ((μ 107 14) + 1)) 117 i = if i = T then a else μ 117 i := fun i => (xw_un (fun q => absurd q.1 (by decide))).trans ((xw_un (fun q => absurd q.1 (by decide))).trans ((xw_un (fun q => absurd q.1 (by decide))).trans ((xw_un (fun q => absurd q.1 (by decide))).trans (xw_ui (fun i => (xw_un (fun q => absurd q.1 (by decide))).trans ((xw_un (fun q => absurd q.1 (by decide))).trans rfl))))))
    have A118 : ∀ i : Nat, (xw_u (xw_u (xw_u (xw_u (xw_u (xw_u (xw_u μ 115 ((T : Int)).toNat (hp_cv v)) 116 ((T : Int)).toNat h) 117 ((T : Int)).toNat a) 118 ((T : Int)).toNat b) 119 ((T : Int)).toNat c9) 114 (h).toNat y4) 107 14 ((μ 107 14) + 1)) 118 i = if i = T then b else μ 118 i := fun i => (xw_un (fun q => absurd q.1 (by decide))).trans ((xw_un (fun q => absurd q.1 (by decide))).trans ((xw_un (fun q => absurd q.1 (by decide))).trans (xw_ui (fun i => (xw_un (fun q => absurd q.1 (by decide))).trans ((xw_un (fun q => absurd q.1 (by decide))).trans ((xw_un (fun q => absurd q.1 (by decide))).trans rfl))))))
    have A119 : ∀ i : Nat, (xw_u (xw_u (xw_u (xw_u (xw_u (xw_u (xw_u μ 115 ((T : Int)).toNat (hp_cv v)) 116 ((T : Int)).toNat h) 117 ((T : Int)).toNat a) 118 ((T : Int)).toNat b) 119 ((T : Int)).toNat c9) 114 (h).toNat y4) 107 14 ((μ 107 14) + 1)) 119 i = if i = T then c9 else μ 119 i := fun i => (xw_un (fun q => absurd q.1 (by decide))).trans ((xw_un (fun q => absurd q.1 (by decide))).trans (xw_ui (fun i => (xw_un (fun q => absurd q.1 (by decide))).trans ((xw_un (fun q => absurd q.1 (by decide))).trans ((xw_un (fun q => absurd q.1 (by decide))).trans ((xw_un (fun q => absurd q.1 (by decide))).trans rfl))))))
    have V14 : (xw_u (xw_u (xw_u (xw_u (xw_u (xw_u (xw_u μ 115 ((T : Int)).toNat (hp_cv v)) 116 ((T : Int)).toNat h) 117 ((T : Int)).toNat a) 118 ((T : Int)).toNat b) 119 ((T : Int)).toNat c9) 114 (h).toNat y4) 107 14 ((μ 107 14) + 1)) 107 14 = (μ 107 14) + 1 := xw_ug
    have Fz1 : xw_F [(107, 14, 14), (114, 0, 5), (115, 0, 7), (116, 0, 7), (117, 0, 7), (118, 0, 7), (119, 0, 7)] μ (xw_u (xw_u (xw_u (xw_u (xw_u (xw_u (xw_u μ 115 ((T : Int)).toNat (hp_cv v)) 116 ((T : Int)).toNat h) 117 ((T : Int)).toNat a) 118 ((T : Int)).toNat b) 119 ((T : Int)).toNat c9) 114 (h).toNat y4) 107 14 ((μ 107 14) + 1)) := ((((((((xw_F.rf (ML := [(107, 14, 14), (114, 0, 5), (115, 0, 7), (116, 0, 7), (117, 0, 7), (118, 0, 7), (119, 0, 7)])).u (show (115, 0, 7) ∈ _ by decide) ⟨by omega, by omega⟩).u (show (116, 0, 7) ∈ _ by decide) ⟨by omega, by omega⟩).u (show (117, 0, 7) ∈ _ by decide) ⟨by omega, by omega⟩).u (show (118, 0, 7) ∈ _ by decide) ⟨by omega, by omega⟩).u (show (119, 0, 7) ∈ _ by decide) ⟨by omega, by omega⟩).u (show (114, 0, 5) ∈ _ by decide) ⟨by omega, by omega⟩).u (show (107, 14, 14) ∈ _ by decide) ⟨by decide, by decide⟩)
    generalize (xw_u (xw_u (xw_u (xw_u (xw_u (xw_u (xw_u μ 115 ((T : Int)).toNat (hp_cv v)) 116 ((T : Int)).toNat h) 117 ((T : Int)).toNat a) 118 ((T : Int)).toNat b) 119 ((T : Int)).toNat c9) 114 (h).toNat y4) 107 14 ((μ 107 14) + 1)) = z1 at Fz1 V14 A115 A116 A117 A118 A119 ⊢
    have e14 : μ 107 14 = (T : Int) := hH.1.2.1.trans hT
    refine ⟨rfl, hc_HFa hH hT hT8 (Fz1 107 13 rfl) (by omega) (Fz1 107 15 rfl) A115 A116 A117 A118 A119 (fun j i h1 h2 => Fz1 j i ?_) (fun i => Fz1 120 i rfl), Fz1⟩
    unfold xw_o
    rw [List.all_eq_true]
    intro q hq
    simp only [List.mem_cons, List.not_mem_nil, or_false] at hq
    have e8 : Nat.beq q.1 j = false := by
      cases hb : Nat.beq q.1 j with
      | false => rfl
      | true =>
        exfalso
        have e7 := Nat.eq_of_beq_eq_true hb
        rcases hq with rfl | rfl | rfl | rfl | rfl | rfl | rfl <;> simp only at e7 <;> omega
    rw [e8]
    rfl)
