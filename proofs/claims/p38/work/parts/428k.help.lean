set_option maxRecDepth 20000 in
set_option maxHeartbeats 1000000 in
theorem xm_at {l : Launch} {μ : xw_M} {i : Int} (hi : -2147483648 ≤ i ∧ i ≤ 2147483647) (hG : xw_G xw_GL μ) : xw_MetI l vwCl sa_Ts tb_KT0 tc_KL yX0_at cX0_at 2 (some .int) 2 120 (fun ad => [.ref (ad 1), .int (Int32.ofInt i)]) μ (fun r μ' => μ = μ' ∧ ((0 ≤ i ∧ i < μ 1 1 ∧ r = μ 2 i.toNat % 256) ∨ (¬ (0 ≤ i ∧ i < μ 1 1) ∧ r = -1))) :=
  xw_of (by decide) (fun _ => Nat.le_of_ble_eq_true rfl) (fun p e s m args below meth c D dA A al w0 sz C0 hU hO hKL hr hlk hA => by
    refine xw_iload_n (pc := 0) C0 1 dX0_at_0 rfl rfl ?_
    refine xw_if_lt (pc := 1) (tgt := 25) C0 (by omega) dX0_at_1 rfl (fun b1 => ?_) (fun b1 => ?_)
    · refine xw_iconst (pc := 25) C0 dX0_at_25 ?_
      refine xw_iret C0 hA hr hlk rfl dX0_at_26 ?_
      exact ⟨_, rfl, rfl, Or.inr ⟨(by omega), rfl⟩⟩
    · refine xw_iload_n (pc := 4) C0 1 dX0_at_4 rfl rfl ?_
      refine xw_aload_n (pc := 5) C0 0 dX0_at_5 rfl rfl ?_
      refine xw_getI (pc := 6) (f := 1) (z := μ 1 1) C0 kcX0 dX0_at_6 (by decide) tv_41 (xj_1 hKL) xk_19 rfl (rfl) (fun g2 k2 => ?_)
      refine xw_icmp_ge (pc := 9) (tgt := 25) C0 (by omega) (by omega) dX0_at_9 rfl (fun b3 => ?_) (fun b3 => ?_)
      · refine xw_iconst (pc := 25) C0 dX0_at_25 ?_
        refine xw_iret C0 hA hr hlk rfl dX0_at_26 ?_
        exact ⟨_, rfl, rfl, Or.inr ⟨(by omega), rfl⟩⟩
      · refine xw_aload_n (pc := 12) C0 0 dX0_at_12 rfl rfl ?_
        refine xw_getR (pc := 13) (f := 0) C0 2 kcX0 dX0_at_13 (by decide) tv_39 (xj_1 hKL) xk_19 rfl ((rfl).trans (xe_1_0 hG)) ?_
        refine xw_iload_n (pc := 16) C0 1 dX0_at_16 rfl rfl ?_
        refine xw_bald (pc := 17) (z := μ 2 (i).toNat) C0 dX0_at_17 (xj_2 hKL) xk_22 (by omega) (by decide) (xw_rl (by omega)) (rfl) (fun g4 k4 => ?_)
        refine xw_sipush (pc := 18) C0 dX0_at_18 (by decide) ?_
        refine xw_iand (pc := 21) C0 dX0_at_21 (xb_and255 _) ?_
        refine xw_goto (pc := 22) (tgt := 26) C0 dX0_at_22 rfl ?_
        refine xw_iret C0 hA hr hlk rfl dX0_at_26 ?_
        exact ⟨_, rfl, rfl, Or.inl ⟨(by omega), (by omega), rfl⟩⟩)
set_option maxRecDepth 20000 in
set_option maxHeartbeats 1000000 in
theorem xm_ewL {l : Launch} {p : Program} {e : Env} {s : State} {m : MethodId} {args : Array Value} {below : List Frame} {meth : Method} {c : Code} {Q : State → Prop} {D : va_G} {dA : Nat → ClassId} {A : Nat → Prop} {al : List (Nat × Nat)} (C0 : sa_C p s m args c D dA A 4 vwCl sa_Ts cX11_eveningsWithDeed yX11_eveningsWithDeed.cls) (hU : sa_U D vwCl dA s) (hO : tb_Ou A s s.heap) (hKL : al.map Prod.snd = tc_KL) {μ : xw_M} (hG : xw_G xw_GL μ) (hn : μ 1 1 % 2 = 0 ∧ 4 ≤ μ 1 1 ∧ μ 1 1 ≤ 20) (kx : ∀ k : Nat, 2 * (k : Int) = μ 1 1 → (∀ q : Nat, q < k → μ 2 (2 * q) % 256 ≤ 1) → xw_W p l e { frames := 3, cells := 0, slots := 0, locals := 145 } s m args below meth c Q D dA A 4 vwCl tb_KT0 al 0 0 μ 78 [(1, .int (Int32.ofInt (hs_S (fun i => μ 2 i % 256) k))), (0, .ref (xw_ad al 0))] []) (kw : ∀ k : Nat, 2 * (k : Int) < μ 1 1 → 1 < μ 2 (2 * k) % 256 → xw_W p l e { frames := 3, cells := 0, slots := 0, locals := 145 } s m args below meth c Q D dA A 4 vwCl tb_KT0 al 0 0 μ 66 [(0, .ref (xw_ad al 0))] []) : ∀ (fu9 : Nat) (k : Nat), μ 1 1 - 2 * (k : Int) < (fu9 : Int) → 2 * (k : Int) ≤ μ 1 1 → (∀ q : Nat, q < k → μ 2 (2 * q) % 256 ≤ 1) → xw_W p l e { frames := 3, cells := 0, slots := 0, locals := 145 } s m args below meth c Q D dA A 4 vwCl tb_KT0 al 0 0 μ 41 [(1, .int (Int32.ofInt (hs_S (fun i => μ 2 i % 256) k))), (2, .int (Int32.ofInt (2 * (k : Int)))), (0, .ref (xw_ad al 0))] [] := by
  intro fu9
  induction fu9 with
  | zero => intro k hm hk h1; exfalso; omega
  | succ fu9 ih =>
    intro k hm hk h1
    have hb := hs_Sb (fun i => μ 2 i % 256) (fun i => xb_255 _) k
    refine xw_iload_n (pc := 41) C0 1 dX11_eveningsWithDeed_41 rfl rfl ?_
    refine xw_aload_n (pc := 42) C0 2 dX11_eveningsWithDeed_42 rfl rfl ?_
    refine xw_getR (pc := 43) (f := 0) C0 1 kcX11 dX11_eveningsWithDeed_43 (by decide) tv_422 (xj_0 hKL) xk_27 rfl ((rfl).trans (xe_0_0 hG)) ?_
    refine xw_getI (pc := 46) (f := 1) (z := μ 1 1) C0 kcX0 dX11_eveningsWithDeed_46 (by decide) tv_40 (xj_1 hKL) xk_19 rfl (rfl) (fun g1 k1 => ?_)
    refine xw_icmp_ge (pc := 49) (tgt := 78) C0 (by omega) (by omega) dX11_eveningsWithDeed_49 rfl (fun b2 => ?_) (fun b2 => ?_)
    · refine xw_pk [0, 2] (L' := [(1, .int (Int32.ofInt (hs_S (fun i => μ 2 i % 256) k))), (0, .ref (xw_ad al 0))]) rfl ?_
      exact kx k (by omega) h1
    · refine xw_aload_n (pc := 52) C0 2 dX11_eveningsWithDeed_52 rfl rfl ?_
      refine xw_getR (pc := 53) (f := 0) C0 1 kcX11 dX11_eveningsWithDeed_53 (by decide) tv_422 (xj_0 hKL) xk_27 rfl ((rfl).trans (xe_0_0 hG)) ?_
      refine xw_iload_n (pc := 56) C0 1 dX11_eveningsWithDeed_56 rfl rfl ?_
      refine xw_callVI (pc := 57) (ci := 0) (rest := []) (As := [.int (Int32.ofInt (2 * (k : Int)))]) C0 hU hO sa_Tg hKL (xm_at (l := l) (i := 2 * (k : Int)) (by omega) hG) tv_513 dX11_eveningsWithDeed_57 tv_783 tv_511 tv_512 tv_2 rfl yb_X0_at (by decide) rfl rfl rfl (by decide) (Nat.le_of_ble_eq_true rfl) (xj_1 hKL) xk_19 (fun r3 m3 w3 => ?_)
      obtain ⟨rfl, w3⟩ := w3
      have v3 : r3 = μ 2 (2 * (k : Int)).toNat % 256 := w3.elim (fun q => q.2.2) (fun q => absurd ⟨(by omega), (by omega)⟩ q.1)
      have u3 : 0 ≤ r3 ∧ r3 ≤ 255 := by omega
      refine xw_istore_n (pc := 60) (L' := [(3, .int (Int32.ofInt r3)), (1, .int (Int32.ofInt (hs_S (fun i => μ 2 i % 256) k))), (2, .int (Int32.ofInt (2 * (k : Int)))), (0, .ref (xw_ad al 0))]) C0 dX11_eveningsWithDeed_60 rfl (by decide) rfl ?_
      refine xw_iload_n (pc := 61) C0 0 dX11_eveningsWithDeed_61 rfl rfl ?_
      refine xw_iconst (pc := 62) C0 dX11_eveningsWithDeed_62 ?_
      refine xw_icmp_le (pc := 63) (tgt := 68) C0 (by omega) (by omega) dX11_eveningsWithDeed_63 rfl (fun b5 => ?_) (fun b5 => ?_)
      · refine xw_iload_n (pc := 68) C0 1 dX11_eveningsWithDeed_68 rfl rfl ?_
        refine xw_iload_n (pc := 69) C0 0 dX11_eveningsWithDeed_69 rfl rfl ?_
        refine xw_iadd (pc := 70) C0 dX11_eveningsWithDeed_70 ?_
        refine xw_istore_n (pc := 71) (L' := [(1, .int (Int32.ofInt ((hs_S (fun i => μ 2 i % 256) k) + r3))), (3, .int (Int32.ofInt r3)), (2, .int (Int32.ofInt (2 * (k : Int)))), (0, .ref (xw_ad al 0))]) C0 dX11_eveningsWithDeed_71 rfl (by decide) rfl ?_
        refine xw_iinc (pc := 72) (L' := [(2, .int (Int32.ofInt ((2 * (k : Int)) + 2))), (1, .int (Int32.ofInt ((hs_S (fun i => μ 2 i % 256) k) + r3))), (3, .int (Int32.ofInt r3)), (0, .ref (xw_ad al 0))]) C0 2 dX11_eveningsWithDeed_72 rfl (by decide) rfl ?_
        refine xw_goto (pc := 75) (tgt := 41) C0 dX11_eveningsWithDeed_75 rfl ?_
        have e1 : 2 * (k : Int) + 2 = 2 * ((k + 1 : Nat) : Int) := by omega
        have e2 : (2 * (k : Int)).toNat = 2 * k := by omega
        rw [e2] at v3
        have e3 : hs_S (fun i => μ 2 i % 256) k + r3 = hs_S (fun i => μ 2 i % 256) (k + 1) := by rw [v3]; rfl
        rw [e1, e3]
        refine xw_pk [1, 0, 3] (L' := [(1, .int (Int32.ofInt (hs_S (fun i => μ 2 i % 256) (k + 1)))), (2, .int (Int32.ofInt (2 * ((k + 1 : Nat) : Int)))), (0, .ref (xw_ad al 0))]) rfl ?_
        refine ih (k + 1) (by omega) (by omega) (fun q hq => ?_)
        rcases Nat.lt_succ_iff_lt_or_eq.mp hq with hq | hq
        · exact h1 q hq
        · subst hq; show μ 2 (2 * q) % 256 ≤ 1; omega
      · have e2 : (2 * (k : Int)).toNat = 2 * k := by omega
        rw [e2] at v3
        refine xw_pk [3] (L' := [(0, .ref (xw_ad al 0))]) rfl ?_
        exact kw k (by omega) (show 1 < μ 2 (2 * k) % 256 by omega)
set_option maxRecDepth 20000 in
set_option maxHeartbeats 1000000 in
theorem xm_ew {l : Launch} {μ : xw_M} (hG : xw_G xw_GL μ) : xw_MetI l vwCl sa_Ts tb_KT0 tc_KL yX11_eveningsWithDeed cX11_eveningsWithDeed 4 (some .int) 3 145 (fun ad => [.ref (ad 0)]) μ (fun r μ' => μ = μ' ∧ ((hs_acc (fun i => μ 2 i % 256) (μ 1 1) ∧ r = hs_S (fun i => μ 2 i % 256) (μ 1 1 / 2).toNat) ∨ (¬ hs_acc (fun i => μ 2 i % 256) (μ 1 1) ∧ r = -1))) :=
  xw_of (by decide) (fun _ => Nat.le_of_ble_eq_true rfl) (fun p e s m args below meth c D dA A al w0 sz C0 hU hO hKL hr hlk hA => by
    refine xw_aload_n (pc := 0) C0 0 dX11_eveningsWithDeed_0 rfl rfl ?_
    refine xw_getR (pc := 1) (f := 0) C0 1 kcX11 dX11_eveningsWithDeed_1 (by decide) tv_422 (xj_0 hKL) xk_27 rfl ((rfl).trans (xe_0_0 hG)) ?_
    refine xw_getI (pc := 4) (f := 1) (z := μ 1 1) C0 kcX0 dX11_eveningsWithDeed_4 (by decide) tv_40 (xj_1 hKL) xk_19 rfl (rfl) (fun g1 k1 => ?_)
    refine xw_iconst (pc := 7) C0 dX11_eveningsWithDeed_7 ?_
    refine xw_icmp_lt (pc := 8) (tgt := 35) C0 (by omega) (by omega) dX11_eveningsWithDeed_8 rfl (fun b2 => ?_) (fun b2 => ?_)
    · refine xw_iconst (pc := 35) C0 dX11_eveningsWithDeed_35 ?_
      refine xw_iret C0 hA hr hlk rfl dX11_eveningsWithDeed_36 ?_
      exact ⟨_, rfl, rfl, Or.inr ⟨hs_no0 (by omega), rfl⟩⟩
    · refine xw_aload_n (pc := 11) C0 0 dX11_eveningsWithDeed_11 rfl rfl ?_
      refine xw_getR (pc := 12) (f := 0) C0 1 kcX11 dX11_eveningsWithDeed_12 (by decide) tv_422 (xj_0 hKL) xk_27 rfl ((rfl).trans (xe_0_0 hG)) ?_
      refine xw_getI (pc := 15) (f := 1) (z := μ 1 1) C0 kcX0 dX11_eveningsWithDeed_15 (by decide) tv_40 (xj_1 hKL) xk_19 rfl (rfl) (fun g3 k3 => ?_)
      refine xw_bipush (pc := 18) C0 dX11_eveningsWithDeed_18 (by decide) ?_
      refine xw_icmp_gt (pc := 20) (tgt := 35) C0 (by omega) (by omega) dX11_eveningsWithDeed_20 rfl (fun b4 => ?_) (fun b4 => ?_)
      · refine xw_iconst (pc := 35) C0 dX11_eveningsWithDeed_35 ?_
        refine xw_iret C0 hA hr hlk rfl dX11_eveningsWithDeed_36 ?_
        exact ⟨_, rfl, rfl, Or.inr ⟨hs_no0 (by omega), rfl⟩⟩
      · refine xw_aload_n (pc := 23) C0 0 dX11_eveningsWithDeed_23 rfl rfl ?_
        refine xw_getR (pc := 24) (f := 0) C0 1 kcX11 dX11_eveningsWithDeed_24 (by decide) tv_422 (xj_0 hKL) xk_27 rfl ((rfl).trans (xe_0_0 hG)) ?_
        refine xw_getI (pc := 27) (f := 1) (z := μ 1 1) C0 kcX0 dX11_eveningsWithDeed_27 (by decide) tv_40 (xj_1 hKL) xk_19 rfl (rfl) (fun g5 k5 => ?_)
        refine xw_iconst (pc := 30) C0 dX11_eveningsWithDeed_30 ?_
        refine xw_irem (pc := 31) C0 (by omega) (by omega) dX11_eveningsWithDeed_31 ?_
        refine xw_if_eq (pc := 32) (tgt := 37) C0 (by omega) dX11_eveningsWithDeed_32 rfl (fun b6 => ?_) (fun b6 => ?_)
        · refine xw_iconst (pc := 37) C0 dX11_eveningsWithDeed_37 ?_
          refine xw_istore_n (pc := 38) (L' := [(1, .int (Int32.ofInt 0)), (0, .ref (xw_ad al 0))]) C0 dX11_eveningsWithDeed_38 rfl (by decide) rfl ?_
          refine xw_iconst (pc := 39) C0 dX11_eveningsWithDeed_39 ?_
          refine xw_istore_n (pc := 40) (L' := [(2, .int (Int32.ofInt 0)), (1, .int (Int32.ofInt 0)), (0, .ref (xw_ad al 0))]) C0 dX11_eveningsWithDeed_40 rfl (by decide) rfl ?_
          refine xw_pk [1, 0, 2] (L' := [(1, .int (Int32.ofInt (hs_S (fun i => μ 2 i % 256) 0))), (2, .int (Int32.ofInt (2 * ((0 : Nat) : Int)))), (0, .ref (xw_ad al 0))]) rfl ?_
          refine xm_ewL C0 hU hO hKL hG ⟨by omega, by omega, by omega⟩ (fun k hk hv => ?_) (fun k hk hv => ?_) 100 0 (by omega) (by omega) (fun q hq => absurd hq (Nat.not_lt_zero _))
          · have hb := hs_Sb (fun i => μ 2 i % 256) (fun i => xb_255 _) k
            refine xw_iload_n (pc := 78) C0 0 dX11_eveningsWithDeed_78 rfl rfl ?_
            refine xw_if_eq (pc := 79) (tgt := 95) C0 (by omega) dX11_eveningsWithDeed_79 rfl (fun b1 => ?_) (fun b1 => ?_)
            · refine xw_iconst (pc := 95) C0 dX11_eveningsWithDeed_95 ?_
              refine xw_goto (pc := 96) (tgt := 100) C0 dX11_eveningsWithDeed_96 rfl ?_
              refine xw_iret C0 hA hr hlk rfl dX11_eveningsWithDeed_100 ?_
              exact ⟨_, rfl, rfl, Or.inr ⟨hs_no2 hk hv (by omega), rfl⟩⟩
            · refine xw_iload_n (pc := 82) C0 0 dX11_eveningsWithDeed_82 rfl rfl ?_
              refine xw_aload_n (pc := 83) C0 1 dX11_eveningsWithDeed_83 rfl rfl ?_
              refine xw_getR (pc := 84) (f := 0) C0 1 kcX11 dX11_eveningsWithDeed_84 (by decide) tv_422 (xj_0 hKL) xk_27 rfl ((rfl).trans (xe_0_0 hG)) ?_
              refine xw_getI (pc := 87) (f := 1) (z := μ 1 1) C0 kcX0 dX11_eveningsWithDeed_87 (by decide) tv_40 (xj_1 hKL) xk_19 rfl (rfl) (fun g2 k2 => ?_)
              refine xw_iconst (pc := 90) C0 dX11_eveningsWithDeed_90 ?_
              refine xw_idiv (pc := 91) C0 (by omega) (by omega) dX11_eveningsWithDeed_91 ?_
              refine xw_icmp_ne (pc := 92) (tgt := 99) C0 (by omega) (by omega) dX11_eveningsWithDeed_92 rfl (fun b3 => ?_) (fun b3 => ?_)
              · refine xw_iload_n (pc := 99) C0 0 dX11_eveningsWithDeed_99 rfl rfl ?_
                refine xw_iret C0 hA hr hlk rfl dX11_eveningsWithDeed_100 ?_
                exact ⟨_, rfl, rfl, Or.inl ⟨hs_yes hk (by omega) (by omega) (by omega) hv (by omega) (by omega), hs_yesv hk⟩⟩
              · refine xw_iconst (pc := 95) C0 dX11_eveningsWithDeed_95 ?_
                refine xw_goto (pc := 96) (tgt := 100) C0 dX11_eveningsWithDeed_96 rfl ?_
                refine xw_iret C0 hA hr hlk rfl dX11_eveningsWithDeed_100 ?_
                exact ⟨_, rfl, rfl, Or.inr ⟨hs_no2 hk hv (by omega), rfl⟩⟩
          · refine xw_iconst (pc := 66) C0 dX11_eveningsWithDeed_66 ?_
            refine xw_iret C0 hA hr hlk rfl dX11_eveningsWithDeed_67 ?_
            exact ⟨_, rfl, rfl, Or.inr ⟨hs_no1 hk hv, rfl⟩⟩
        · refine xw_iconst (pc := 35) C0 dX11_eveningsWithDeed_35 ?_
          refine xw_iret C0 hA hr hlk rfl dX11_eveningsWithDeed_36 ?_
          exact ⟨_, rfl, rfl, Or.inr ⟨hs_no0 (by omega), rfl⟩⟩)
