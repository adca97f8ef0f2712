noncomputable def hx_cn (v a b c d r : Int) : Prop := (v = 0 → r = a) ∧ (v = 1 → r = b) ∧ (v = 2 → r = c) ∧ (v = 3 → r = d) ∧ ((v < 0 ∨ 3 < v) → r = -1)
set_option maxRecDepth 20000 in
set_option maxHeartbeats 20000000 in
theorem xq_muL {l : Launch} {p : Program} {e : Env} {s : State} {m : MethodId} {args : Array Value} {below : List Frame} {meth : Method} {c : Code} {Q : State → Prop} {D : va_G} {dA : Nat → ClassId} {A : Nat → Prop} {al : List (Nat × Nat)} (C0 : sa_C p s m args c D dA A 4 vwCl sa_Ts cX2_minutesTillUp yX2_minutesTillUp.cls) (hU : sa_U D vwCl dA s) (hO : tb_Ou A s s.heap) (hKL : al.map Prod.snd = tc_KL) {v nm : Nat → Int} {T : Nat} {μ : xw_M} (hG : xw_G xw_GL μ) (hK : hp_ok v nm) (hE : hx_E v 4 μ) (hT : (T : Int) < v 0) (kx : xw_W p l e { frames := 3, cells := 0, slots := 0, locals := 141 } s m args below meth c Q D dA A 4 vwCl tb_KT0 al 0 0 μ 52 [(2, .int (Int32.ofInt (hx_mx v T (T + 1))))] []) : ∀ (fu9 : Nat) (k : Nat), ((T : Int) + 1) - (k : Int) < (fu9 : Int) → k ≤ T + 1 → xw_W p l e { frames := 3, cells := 0, slots := 0, locals := 141 } s m args below meth c Q D dA A 4 vwCl tb_KT0 al 0 0 μ 4 [(0, .ref (xw_ad al 4)), (1, .int (Int32.ofInt (T : Int))), (2, .int (Int32.ofInt (hx_mx v T k))), (3, .int (Int32.ofInt (k : Int)))] [] := by
  intro fu9
  induction fu9 with
  | zero => intro k hm hk; exfalso; omega
  | succ fu9 ih =>
    intro k hm hk
    have k0 := hK.1
    have b9 := hx_mxB (v := v) (t := T) k (fun j hj => (hx_okR hK hT).2.2 j (by omega))
    refine xw_iload_n (pc := 4) C0 3 dX2_minutesTillUp_4 rfl rfl ?_
    refine xw_iload_n (pc := 5) C0 1 dX2_minutesTillUp_5 rfl rfl ?_
    refine xw_icmp_gt (pc := 6) (tgt := 52) C0 (by omega) (by omega) dX2_minutesTillUp_6 rfl (fun b1 => ?_) (fun b1 => ?_)
    · have e9 : k = T + 1 := by omega
      subst e9
      refine xw_pk [2] (L' := [(2, .int (Int32.ofInt (hx_mx v T (T + 1))))]) rfl ?_
      exact kx
    · refine xw_iload_n (pc := 9) C0 3 dX2_minutesTillUp_9 rfl rfl ?_
      refine xw_iload_n (pc := 10) C0 1 dX2_minutesTillUp_10 rfl rfl ?_
      refine xw_icmp_eq (pc := 11) (tgt := 28) C0 (by omega) (by omega) dX2_minutesTillUp_11 rfl (fun b2 => ?_) (fun b2 => ?_)
      · refine xw_iload_n (pc := 28) C0 2 dX2_minutesTillUp_28 rfl rfl ?_
        refine xw_aload_n (pc := 29) C0 0 dX2_minutesTillUp_29 rfl rfl ?_
        refine xw_getR (pc := 30) (f := 2) C0 7 kcX2 dX2_minutesTillUp_30 (by decide +kernel) tv_67 (xj_4 hKL) xk_28 rfl ((rfl).trans (xe_4_2 hG)) ?_
        refine xw_iload_n (pc := 33) C0 3 dX2_minutesTillUp_33 rfl rfl ?_
        have a3 : μ 7 ((k : Int)).toNat = v (9 + k) := (hE.2.1 k (by omega) (by omega)).2.1
        refine xw_iald (pc := 34) (z := v (9 + k)) C0 dX2_minutesTillUp_34 (xj_7 hKL) xk_31 (by omega) (by decide +kernel) (xw_rl (by omega)) a3 (fun g3 k3 => ?_)
        refine xw_aload_n (pc := 35) C0 0 dX2_minutesTillUp_35 rfl rfl ?_
        refine xw_getR (pc := 36) (f := 1) C0 6 kcX2 dX2_minutesTillUp_36 (by decide +kernel) tv_63 (xj_4 hKL) xk_28 rfl ((rfl).trans (xe_4_1 hG)) ?_
        refine xw_iload_n (pc := 39) C0 3 dX2_minutesTillUp_39 rfl rfl ?_
        have a4 : μ 6 ((k : Int)).toNat = v (3 + k) := (hE.2.1 k (by omega) (by omega)).1
        refine xw_iald (pc := 40) (z := v (3 + k)) C0 dX2_minutesTillUp_40 (xj_6 hKL) xk_30 (by omega) (by decide +kernel) (xw_rl (by omega)) a4 (fun g4 k4 => ?_)
        refine xw_iadd (pc := 41) C0 dX2_minutesTillUp_41 ?_
        have q8 := hK.2.2.2.2.1 k (by omega) (by omega)
        have q9 := q8.1
        have q7 := q8.2.1
        clear q8
        refine xw_max (pc := 42) (rest := []) (a := hx_mx v T k) (b := (v (9 + k)) + (v (3 + k))) C0 (by omega) (by omega) dX2_minutesTillUp_42 tv_801 tv_802 tv_19 tv_803 (Nat.le_of_ble_eq_true rfl) (Nat.le_of_ble_eq_true rfl) (by decide +kernel) (by decide +kernel) ?_
        refine xw_istore_n (pc := 45) (L' := [(2, .int (Int32.ofInt (hx_m (hx_mx v T k) ((v (9 + k)) + (v (3 + k)))))), (0, .ref (xw_ad al 4)), (1, .int (Int32.ofInt (T : Int))), (3, .int (Int32.ofInt (k : Int)))]) C0 dX2_minutesTillUp_45 rfl (by decide +kernel) rfl ?_
        refine xw_iinc (pc := 46) (L' := [(3, .int (Int32.ofInt ((k : Int) + 1))), (2, .int (Int32.ofInt (hx_m (hx_mx v T k) ((v (9 + k)) + (v (3 + k)))))), (0, .ref (xw_ad al 4)), (1, .int (Int32.ofInt (T : Int)))]) C0 3 dX2_minutesTillUp_46 rfl (by decide +kernel) rfl ?_
        refine xw_goto (pc := 49) (tgt := 4) C0 dX2_minutesTillUp_49 rfl ?_
        have e3 : hx_mx v T (k + 1) = hx_m (hx_mx v T k) ((v (9 + k)) + (v (3 + k))) := by
          rw [hx_mxe]
          first
            | exact if_pos (Or.inl (by omega))
            | exact if_pos (Or.inr c9)
        have e1 : (k : Int) + 1 = ((k + 1 : Nat) : Int) := by omega
        rw [e1, ← e3]
        refine xw_pk [2, 3, 1, 0] (L' := [(0, .ref (xw_ad al 4)), (1, .int (Int32.ofInt (T : Int))), (2, .int (Int32.ofInt (hx_mx v T (k + 1)))), (3, .int (Int32.ofInt ((k + 1 : Nat) : Int)))]) rfl ?_
        exact ih (k + 1) (by omega) (by omega)
      · refine xw_aload_n (pc := 14) C0 0 dX2_minutesTillUp_14 rfl rfl ?_
        refine xw_getR (pc := 15) (f := 4) C0 9 kcX2 dX2_minutesTillUp_15 (by decide +kernel) tv_74 (xj_4 hKL) xk_28 rfl ((rfl).trans (xe_4_4 hG)) ?_
        refine xw_iload_n (pc := 18) C0 1 dX2_minutesTillUp_18 rfl rfl ?_
        have a5 : μ 9 ((T : Int)).toNat = hx_ah v T := (hE.2.2.2.2 T (by omega) hT).1
        refine xw_iald (pc := 19) (z := hx_ah v T) C0 dX2_minutesTillUp_19 (xj_9 hKL) xk_33 (by omega) (by decide +kernel) (xw_rl (by omega)) a5 (fun g5 k5 => ?_)
        refine xw_iload_n (pc := 20) C0 3 dX2_minutesTillUp_20 rfl rfl ?_
        rcases hx_tf (hx_ch v T k) with c9 | c9
        · have n9 : tb_hb (Int32.ofInt (hx_ah v T)) (Int32.ofInt (k : Int)) = Int32.ofInt 1 := by
            rw [xb_btN hK hT (by omega), c9]
            rfl
          refine xw_bitN (pc := 21) (host := "OffThenOn") (rest := []) C0 hU sa_Tg (pu_X11_bit (l := l)) tv_589 dX2_minutesTillUp_21 (by decide +kernel) tv_588 tv_1 yb_X11_bit (by decide +kernel) (by decide +kernel) (Nat.le_of_ble_eq_true rfl) n9 ?_
          refine xw_iconst (pc := 24) C0 dX2_minutesTillUp_24 ?_
          refine xw_icmp_ne (pc := 25) (tgt := 46) C0 (by omega) (by omega) dX2_minutesTillUp_25 rfl (fun b6 => ?_) (fun b6 => ?_)
          · exfalso
            omega
          · refine xw_iload_n (pc := 28) C0 2 dX2_minutesTillUp_28 rfl rfl ?_
            refine xw_aload_n (pc := 29) C0 0 dX2_minutesTillUp_29 rfl rfl ?_
            refine xw_getR (pc := 30) (f := 2) C0 7 kcX2 dX2_minutesTillUp_30 (by decide +kernel) tv_67 (xj_4 hKL) xk_28 rfl ((rfl).trans (xe_4_2 hG)) ?_
            refine xw_iload_n (pc := 33) C0 3 dX2_minutesTillUp_33 rfl rfl ?_
            have a7 : μ 7 ((k : Int)).toNat = v (9 + k) := (hE.2.1 k (by omega) (by omega)).2.1
            refine xw_iald (pc := 34) (z := v (9 + k)) C0 dX2_minutesTillUp_34 (xj_7 hKL) xk_31 (by omega) (by decide +kernel) (xw_rl (by omega)) a7 (fun g7 k7 => ?_)
            refine xw_aload_n (pc := 35) C0 0 dX2_minutesTillUp_35 rfl rfl ?_
            refine xw_getR (pc := 36) (f := 1) C0 6 kcX2 dX2_minutesTillUp_36 (by decide +kernel) tv_63 (xj_4 hKL) xk_28 rfl ((rfl).trans (xe_4_1 hG)) ?_
            refine xw_iload_n (pc := 39) C0 3 dX2_minutesTillUp_39 rfl rfl ?_
            have a8 : μ 6 ((k : Int)).toNat = v (3 + k) := (hE.2.1 k (by omega) (by omega)).1
            refine xw_iald (pc := 40) (z := v (3 + k)) C0 dX2_minutesTillUp_40 (xj_6 hKL) xk_30 (by omega) (by decide +kernel) (xw_rl (by omega)) a8 (fun g8 k8 => ?_)
            refine xw_iadd (pc := 41) C0 dX2_minutesTillUp_41 ?_
            have q8 := hK.2.2.2.2.1 k (by omega) (by omega)
            have q9 := q8.1
            have q7 := q8.2.1
            clear q8
            refine xw_max (pc := 42) (rest := []) (a := hx_mx v T k) (b := (v (9 + k)) + (v (3 + k))) C0 (by omega) (by omega) dX2_minutesTillUp_42 tv_801 tv_802 tv_19 tv_803 (Nat.le_of_ble_eq_true rfl) (Nat.le_of_ble_eq_true rfl) (by decide +kernel) (by decide +kernel) ?_
            refine xw_istore_n (pc := 45) (L' := [(2, .int (Int32.ofInt (hx_m (hx_mx v T k) ((v (9 + k)) + (v (3 + k)))))), (0, .ref (xw_ad al 4)), (1, .int (Int32.ofInt (T : Int))), (3, .int (Int32.ofInt (k : Int)))]) C0 dX2_minutesTillUp_45 rfl (by decide +kernel) rfl ?_
            refine xw_iinc (pc := 46) (L' := [(3, .int (Int32.ofInt ((k : Int) + 1))), (2, .int (Int32.ofInt (hx_m (hx_mx v T k) ((v (9 + k)) + (v (3 + k)))))), (0, .ref (xw_ad al 4)), (1, .int (Int32.ofInt (T : Int)))]) C0 3 dX2_minutesTillUp_46 rfl (by decide +kernel) rfl ?_
            refine xw_goto (pc := 49) (tgt := 4) C0 dX2_minutesTillUp_49 rfl ?_
            have e3 : hx_mx v T (k + 1) = hx_m (hx_mx v T k) ((v (9 + k)) + (v (3 + k))) := by
              rw [hx_mxe]
              first
                | exact if_pos (Or.inl (by omega))
                | exact if_pos (Or.inr c9)
            have e1 : (k : Int) + 1 = ((k + 1 : Nat) : Int) := by omega
            rw [e1, ← e3]
            refine xw_pk [2, 3, 1, 0] (L' := [(0, .ref (xw_ad al 4)), (1, .int (Int32.ofInt (T : Int))), (2, .int (Int32.ofInt (hx_mx v T (k + 1)))), (3, .int (Int32.ofInt ((k + 1 : Nat) : Int)))]) rfl ?_
            exact ih (k + 1) (by omega) (by omega)
        · have n9 : tb_hb (Int32.ofInt (hx_ah v T)) (Int32.ofInt (k : Int)) = Int32.ofInt 0 := by
            rw [xb_btN hK hT (by omega), c9]
            rfl
          refine xw_bitN (pc := 21) (host := "OffThenOn") (rest := []) C0 hU sa_Tg (pu_X11_bit (l := l)) tv_589 dX2_minutesTillUp_21 (by decide +kernel) tv_588 tv_1 yb_X11_bit (by decide +kernel) (by decide +kernel) (Nat.le_of_ble_eq_true rfl) n9 ?_
          refine xw_iconst (pc := 24) C0 dX2_minutesTillUp_24 ?_
          refine xw_icmp_ne (pc := 25) (tgt := 46) C0 (by omega) (by omega) dX2_minutesTillUp_25 rfl (fun b10 => ?_) (fun b10 => ?_)
          · refine xw_iinc (pc := 46) (L' := [(3, .int (Int32.ofInt ((k : Int) + 1))), (0, .ref (xw_ad al 4)), (1, .int (Int32.ofInt (T : Int))), (2, .int (Int32.ofInt (hx_mx v T k)))]) C0 3 dX2_minutesTillUp_46 rfl (by decide +kernel) rfl ?_
            refine xw_goto (pc := 49) (tgt := 4) C0 dX2_minutesTillUp_49 rfl ?_
            have e3 : hx_mx v T (k + 1) = hx_mx v T k := by
              rw [hx_mxe]
              exact if_neg (fun z => by
                rcases z with z | z
                · omega
                · rw [c9] at z; cases z)
            have e1 : (k : Int) + 1 = ((k + 1 : Nat) : Int) := by omega
            rw [e1, ← e3]
            refine xw_pk [1, 2, 3, 0] (L' := [(0, .ref (xw_ad al 4)), (1, .int (Int32.ofInt (T : Int))), (2, .int (Int32.ofInt (hx_mx v T (k + 1)))), (3, .int (Int32.ofInt ((k + 1 : Nat) : Int)))]) rfl ?_
            exact ih (k + 1) (by omega) (by omega)
          · exfalso
            omega
set_option maxRecDepth 20000 in
set_option maxHeartbeats 20000000 in
theorem xq_minutesTillUp {l : Launch} {v nm : Nat → Int} {T : Nat} {μ : xw_M} (hG : xw_G xw_GL μ) (hK : hp_ok v nm) (hE : hx_E v 4 μ) (hT : (T : Int) < v 0) : xw_MetI l vwCl sa_Ts tb_KT0 tc_KL yX2_minutesTillUp cX2_minutesTillUp 4 (some .int) 3 141 (fun ad => [.ref (ad 4), .int (Int32.ofInt (T : Int))]) μ (fun r μ' => μ = μ' ∧ r = hx_rt v T) :=
  xw_of (by decide +kernel) (fun _ => Nat.le_of_ble_eq_true rfl) (fun p e s m args below meth c D dA A al w0 sz C0 hU hO hKL hr hlk hA => by
    refine xw_iconst (pc := 0) C0 dX2_minutesTillUp_0 ?_
    refine xw_istore_n (pc := 1) (L' := [(2, .int (Int32.ofInt 0)), (0, .ref (xw_ad al 4)), (1, .int (Int32.ofInt (T : Int)))]) C0 dX2_minutesTillUp_1 rfl (by decide +kernel) rfl ?_
    refine xw_iconst (pc := 2) C0 dX2_minutesTillUp_2 ?_
    refine xw_istore_n (pc := 3) (L' := [(3, .int (Int32.ofInt 0)), (2, .int (Int32.ofInt 0)), (0, .ref (xw_ad al 4)), (1, .int (Int32.ofInt (T : Int)))]) C0 dX2_minutesTillUp_3 rfl (by decide +kernel) rfl ?_
    have k0 := hK.1
    refine xw_pk [2, 3, 1, 0] (L' := [(0, .ref (xw_ad al 4)), (1, .int (Int32.ofInt (T : Int))), (2, .int (Int32.ofInt (hx_mx v T 0))), (3, .int (Int32.ofInt ((0 : Nat) : Int)))]) rfl ?_
    refine xq_muL (v := v) (nm := nm) (T := T) (μ := μ) C0 hU hO hKL hG hK hE hT ?_ 9 0 (by omega) (Nat.zero_le _)
    refine xw_iload_n (pc := 52) C0 0 dX2_minutesTillUp_52 rfl rfl ?_
    refine xw_iret C0 hA hr hlk rfl dX2_minutesTillUp_53 ?_
    exact ⟨_, rfl, rfl, hx_mxr T (by omega) (hx_okR hK hT).1 (hx_okR hK hT).2.1⟩)
set_option maxRecDepth 20000 in
set_option maxHeartbeats 20000000 in
theorem xr_so0 {l : Launch} {v nm : Nat → Int} {T : Nat} {μ : xw_M} (hG : xw_G xw_GL μ) (hK : hp_ok v nm) (hN : ∀ k : Nat, k < 77 → μ 202 k = v k) (hT : (T : Int) < v 0) (hd9 : T ≤ 0) : xw_MetI l vwCl sa_Ts tb_KT0 tc_KL yX12_startOf cX12_startOf 5 (some .int) 2 120 (fun ad => [.ref (ad 200), .int (Int32.ofInt (T : Int))]) μ (fun r μ' => μ = μ' ∧ r = hx_rt v T - v (3 + T)) :=
  xw_of (by decide +kernel) (fun _ => Nat.le_of_ble_eq_true rfl) (fun p e s m args below meth c D dA A al w0 sz C0 hU hO hKL hr hlk hA => by
    have k0 := hK.1
    have q8 := hK.2.2.2.2.1 T (by omega) hT
    have q9 := q8.1
    have q7 := q8.2.1
    have qb := q8.2.2.1
    clear q8
    refine xw_aload_n (pc := 0) C0 0 dX12_startOf_0 rfl rfl ?_
    refine xw_getR (pc := 1) (f := 14) C0 202 kcX12 dX12_startOf_1 (by decide +kernel) tv_1275 (xj_200 hKL) xk_0 rfl ((rfl).trans (xe_200_14 hG)) ?_
    refine xw_bipush (pc := 4) C0 dX12_startOf_4 (by decide +kernel) ?_
    refine xw_iload_n (pc := 6) C0 1 dX12_startOf_6 rfl rfl ?_
    refine xw_iadd (pc := 7) C0 dX12_startOf_7 ?_
    refine xw_nI (pc := 8) (congrArg Int32.ofInt (show 15 + (T : Int) = ((15 + T : Nat) : Int) by omega)) ?_
    obtain ⟨lo1, hi1, rl1, bl1, bh1⟩ := hx_n379 ⟨15 + T, by omega⟩
    refine xw_iald (pc := 8) (z := v (15 + T)) C0 dX12_startOf_8 (xj_202 hKL) xk_1 (by omega) (by decide +kernel) rl1 (hN (15 + T) (by omega)) (fun g1 k1 => ?_)
    refine xw_istore_n (pc := 9) (L' := [(2, .int (Int32.ofInt (v (15 + T)))), (0, .ref (xw_ad al 200)), (1, .int (Int32.ofInt (T : Int)))]) C0 dX12_startOf_9 rfl (by decide +kernel) rfl ?_
    refine xw_aload_n (pc := 10) C0 1 dX12_startOf_10 rfl rfl ?_
    refine xw_getR (pc := 11) (f := 14) C0 202 kcX12 dX12_startOf_11 (by decide +kernel) tv_1275 (xj_200 hKL) xk_0 rfl ((rfl).trans (xe_200_14 hG)) ?_
    refine xw_bipush (pc := 14) C0 dX12_startOf_14 (by decide +kernel) ?_
    refine xw_iload_n (pc := 16) C0 2 dX12_startOf_16 rfl rfl ?_
    refine xw_iadd (pc := 17) C0 dX12_startOf_17 ?_
    refine xw_nI (pc := 18) (congrArg Int32.ofInt (show 9 + (T : Int) = ((9 + T : Nat) : Int) by omega)) ?_
    obtain ⟨lo2, hi2, rl2, bl2, bh2⟩ := hx_n379 ⟨9 + T, by omega⟩
    refine xw_iald (pc := 18) (z := v (9 + T)) C0 dX12_startOf_18 (xj_202 hKL) xk_1 (by omega) (by decide +kernel) rl2 (hN (9 + T) (by omega)) (fun g2 k2 => ?_)
    refine xw_istore_n (pc := 19) (L' := [(3, .int (Int32.ofInt (v (9 + T)))), (2, .int (Int32.ofInt (v (15 + T)))), (0, .ref (xw_ad al 200)), (1, .int (Int32.ofInt (T : Int)))]) C0 dX12_startOf_19 rfl (by decide +kernel) rfl ?_
    refine xw_iload_n (pc := 20) C0 1 dX12_startOf_20 rfl rfl ?_
    refine xw_iconst (pc := 21) C0 dX12_startOf_21 ?_
    refine xw_icmp_ne (pc := 22) (tgt := 27) C0 (by omega) (by omega) dX12_startOf_22 rfl (fun b3 => ?_) (fun b3 => ?_)
    · exfalso
      omega
    · refine xw_iload_n (pc := 25) C0 0 dX12_startOf_25 rfl rfl ?_
      refine xw_iret C0 hA hr hlk rfl dX12_startOf_26 ?_
      have r0 := (hx_rtN hK hT).1 (by omega)
      exact ⟨_, rfl, rfl, by omega⟩)
set_option maxRecDepth 20000 in
set_option maxHeartbeats 20000000 in
theorem xr_so1 {l : Launch} {v nm : Nat → Int} {T : Nat} {μ : xw_M} (hG : xw_G xw_GL μ) (hK : hp_ok v nm) (hN : ∀ k : Nat, k < 77 → μ 202 k = v k) (hT : (T : Int) < v 0) (hd9 : T ≤ 1) : xw_MetI l vwCl sa_Ts tb_KT0 tc_KL yX12_startOf cX12_startOf 5 (some .int) 3 144 (fun ad => [.ref (ad 200), .int (Int32.ofInt (T : Int))]) μ (fun r μ' => μ = μ' ∧ r = hx_rt v T - v (3 + T)) :=
  xw_of (by decide +kernel) (fun _ => Nat.le_of_ble_eq_true rfl) (fun p e s m args below meth c D dA A al w0 sz C0 hU hO hKL hr hlk hA => by
    have k0 := hK.1
    have q8 := hK.2.2.2.2.1 T (by omega) hT
    have q9 := q8.1
    have q7 := q8.2.1
    have qb := q8.2.2.1
    clear q8
    refine xw_aload_n (pc := 0) C0 0 dX12_startOf_0 rfl rfl ?_
    refine xw_getR (pc := 1) (f := 14) C0 202 kcX12 dX12_startOf_1 (by decide +kernel) tv_1275 (xj_200 hKL) xk_0 rfl ((rfl).trans (xe_200_14 hG)) ?_
    refine xw_bipush (pc := 4) C0 dX12_startOf_4 (by decide +kernel) ?_
    refine xw_iload_n (pc := 6) C0 1 dX12_startOf_6 rfl rfl ?_
    refine xw_iadd (pc := 7) C0 dX12_startOf_7 ?_
    refine xw_nI (pc := 8) (congrArg Int32.ofInt (show 15 + (T : Int) = ((15 + T : Nat) : Int) by omega)) ?_
    obtain ⟨lo1, hi1, rl1, bl1, bh1⟩ := hx_n379 ⟨15 + T, by omega⟩
    refine xw_iald (pc := 8) (z := v (15 + T)) C0 dX12_startOf_8 (xj_202 hKL) xk_1 (by omega) (by decide +kernel) rl1 (hN (15 + T) (by omega)) (fun g1 k1 => ?_)
    refine xw_istore_n (pc := 9) (L' := [(2, .int (Int32.ofInt (v (15 + T)))), (0, .ref (xw_ad al 200)), (1, .int (Int32.ofInt (T : Int)))]) C0 dX12_startOf_9 rfl (by decide +kernel) rfl ?_
    refine xw_aload_n (pc := 10) C0 1 dX12_startOf_10 rfl rfl ?_
    refine xw_getR (pc := 11) (f := 14) C0 202 kcX12 dX12_startOf_11 (by decide +kernel) tv_1275 (xj_200 hKL) xk_0 rfl ((rfl).trans (xe_200_14 hG)) ?_
    refine xw_bipush (pc := 14) C0 dX12_startOf_14 (by decide +kernel) ?_
    refine xw_iload_n (pc := 16) C0 2 dX12_startOf_16 rfl rfl ?_
    refine xw_iadd (pc := 17) C0 dX12_startOf_17 ?_
    refine xw_nI (pc := 18) (congrArg Int32.ofInt (show 9 + (T : Int) = ((9 + T : Nat) : Int) by omega)) ?_
    obtain ⟨lo2, hi2, rl2, bl2, bh2⟩ := hx_n379 ⟨9 + T, by omega⟩
    refine xw_iald (pc := 18) (z := v (9 + T)) C0 dX12_startOf_18 (xj_202 hKL) xk_1 (by omega) (by decide +kernel) rl2 (hN (9 + T) (by omega)) (fun g2 k2 => ?_)
    refine xw_istore_n (pc := 19) (L' := [(3, .int (Int32.ofInt (v (9 + T)))), (2, .int (Int32.ofInt (v (15 + T)))), (0, .ref (xw_ad al 200)), (1, .int (Int32.ofInt (T : Int)))]) C0 dX12_startOf_19 rfl (by decide +kernel) rfl ?_
    refine xw_iload_n (pc := 20) C0 1 dX12_startOf_20 rfl rfl ?_
    refine xw_iconst (pc := 21) C0 dX12_startOf_21 ?_
    refine xw_icmp_ne (pc := 22) (tgt := 27) C0 (by omega) (by omega) dX12_startOf_22 rfl (fun b3 => ?_) (fun b3 => ?_)
    · refine xw_aload_n (pc := 27) C0 2 dX12_startOf_27 rfl rfl ?_
      refine xw_iload_n (pc := 28) C0 1 dX12_startOf_28 rfl rfl ?_
      obtain ⟨b, hB⟩ : ∃ b : Nat, v (15 + T) = (b : Int) := ⟨(v (15 + T)).toNat, by omega⟩
      have r0 := (hx_rtN hK hT).2 b hB
      have r1 := hx_rtB (T := b) hK (by omega)
      refine xw_nI (congrArg Int32.ofInt hB) ?_
      refine xw_pk [0, 1, 2, 3] (L' := [(3, .int (Int32.ofInt (v (9 + T)))), (2, .int (Int32.ofInt (b : Int))), (0, .ref (xw_ad al 200)), (1, .int (Int32.ofInt (T : Int)))]) (by rw [hB]; try rfl) ?_
      refine xw_callVI (pc := 29) (μ := μ) (ci := 12) (rest := []) (As := [.int (Int32.ofInt (b : Int))]) C0 hU hO sa_Tg hKL (xr_so0 (l := l) (v := v) (nm := nm) (T := b) (μ := μ) hG hK hN (by omega) (by omega)) tv_1696 dX12_startOf_29 tv_1693 tv_1695 tq_X12_startOf tv_13 rfl yb_X12_startOf (by decide +kernel) rfl rfl rfl (by decide +kernel) (Nat.le_of_ble_eq_true rfl) (xj_200 hKL) xk_0 (fun r4 m4 w4 => ?_)
      obtain ⟨rfl, w4⟩ := w4
      have q6 := hK.2.2.2.2.1 b (by omega) (by omega)
      have q5 := q6.1
      have q4 := q6.2.1
      clear q6
      refine xw_aload_n (pc := 32) C0 2 dX12_startOf_32 rfl rfl ?_
      refine xw_getR (pc := 33) (f := 14) C0 202 kcX12 dX12_startOf_33 (by decide +kernel) tv_1275 (xj_200 hKL) xk_0 rfl ((rfl).trans (xe_200_14 hG)) ?_
      refine xw_iconst (pc := 36) C0 dX12_startOf_36 ?_
      refine xw_iload_n (pc := 37) C0 1 dX12_startOf_37 rfl rfl ?_
      refine xw_iadd (pc := 38) C0 dX12_startOf_38 ?_
      refine xw_nI (pc := 39) (congrArg Int32.ofInt (show 3 + (b : Int) = ((3 + b : Nat) : Int) by omega)) ?_
      obtain ⟨lo5, hi5, rl5, bl5, bh5⟩ := hx_n379 ⟨3 + b, by omega⟩
      refine xw_iald (pc := 39) (z := v (3 + b)) C0 dX12_startOf_39 (xj_202 hKL) xk_1 (by omega) (by decide +kernel) rl5 (hN (3 + b) (by omega)) (fun g5 k5 => ?_)
      refine xw_iadd (pc := 40) C0 dX12_startOf_40 ?_
      refine xw_aload_n (pc := 41) C0 2 dX12_startOf_41 rfl rfl ?_
      refine xw_getR (pc := 42) (f := 14) C0 202 kcX12 dX12_startOf_42 (by decide +kernel) tv_1275 (xj_200 hKL) xk_0 rfl ((rfl).trans (xe_200_14 hG)) ?_
      refine xw_iconst (pc := 45) C0 dX12_startOf_45 ?_
      refine xw_iload_n (pc := 46) C0 3 dX12_startOf_46 rfl rfl ?_
      refine xw_iadd (pc := 47) C0 dX12_startOf_47 ?_
      refine xw_nI (pc := 48) (congrArg Int32.ofInt (show 3 + (T : Int) = ((3 + T : Nat) : Int) by omega)) ?_
      obtain ⟨lo6, hi6, rl6, bl6, bh6⟩ := hx_n379 ⟨3 + T, by omega⟩
      refine xw_iald (pc := 48) (z := v (3 + T)) C0 dX12_startOf_48 (xj_202 hKL) xk_1 (by omega) (by decide +kernel) rl6 (hN (3 + T) (by omega)) (fun g6 k6 => ?_)
      refine xw_isub (pc := 49) C0 dX12_startOf_49 ?_
      refine xw_istore (pc := 50) (L' := [(4, .int (Int32.ofInt ((r4 + (v (3 + b))) - (v (3 + T))))), (3, .int (Int32.ofInt (v (9 + T)))), (2, .int (Int32.ofInt (b : Int))), (0, .ref (xw_ad al 200)), (1, .int (Int32.ofInt (T : Int)))]) C0 dX12_startOf_50 (by decide +kernel) rfl ?_
      refine xw_iload_n (pc := 52) C0 1 dX12_startOf_52 rfl rfl ?_
      refine xw_iload (pc := 53) C0 0 dX12_startOf_53 rfl ?_
      refine xw_icmp_le (pc := 55) (tgt := 62) C0 (by omega) (by omega) dX12_startOf_55 rfl (fun b7 => ?_) (fun b7 => ?_)
      · refine xw_iload (pc := 62) C0 0 dX12_startOf_62 rfl ?_
        refine xw_iret C0 hA hr hlk rfl dX12_startOf_64 ?_
        unfold hx_m at r0
        refine ⟨_, rfl, rfl, ?_⟩
        split at r0 <;> omega
      · refine xw_iload_n (pc := 58) C0 1 dX12_startOf_58 rfl rfl ?_
        refine xw_goto (pc := 59) (tgt := 64) C0 dX12_startOf_59 rfl ?_
        refine xw_iret C0 hA hr hlk rfl dX12_startOf_64 ?_
        unfold hx_m at r0
        refine ⟨_, rfl, rfl, ?_⟩
        split at r0 <;> omega
    · refine xw_iload_n (pc := 25) C0 0 dX12_startOf_25 rfl rfl ?_
      refine xw_iret C0 hA hr hlk rfl dX12_startOf_26 ?_
      have r0 := (hx_rtN hK hT).1 (by omega)
      exact ⟨_, rfl, rfl, by omega⟩)
set_option maxRecDepth 20000 in
set_option maxHeartbeats 20000000 in
theorem xr_so2 {l : Launch} {v nm : Nat → Int} {T : Nat} {μ : xw_M} (hG : xw_G xw_GL μ) (hK : hp_ok v nm) (hN : ∀ k : Nat, k < 77 → μ 202 k = v k) (hT : (T : Int) < v 0) (hd9 : T ≤ 2) : xw_MetI l vwCl sa_Ts tb_KT0 tc_KL yX12_startOf cX12_startOf 5 (some .int) 4 168 (fun ad => [.ref (ad 200), .int (Int32.ofInt (T : Int))]) μ (fun r μ' => μ = μ' ∧ r = hx_rt v T - v (3 + T)) :=
  xw_of (by decide +kernel) (fun _ => Nat.le_of_ble_eq_true rfl) (fun p e s m args below meth c D dA A al w0 sz C0 hU hO hKL hr hlk hA => by
    have k0 := hK.1
    have q8 := hK.2.2.2.2.1 T (by omega) hT
    have q9 := q8.1
    have q7 := q8.2.1
    have qb := q8.2.2.1
    clear q8
    refine xw_aload_n (pc := 0) C0 0 dX12_startOf_0 rfl rfl ?_
    refine xw_getR (pc := 1) (f := 14) C0 202 kcX12 dX12_startOf_1 (by decide +kernel) tv_1275 (xj_200 hKL) xk_0 rfl ((rfl).trans (xe_200_14 hG)) ?_
    refine xw_bipush (pc := 4) C0 dX12_startOf_4 (by decide +kernel) ?_
    refine xw_iload_n (pc := 6) C0 1 dX12_startOf_6 rfl rfl ?_
    refine xw_iadd (pc := 7) C0 dX12_startOf_7 ?_
    refine xw_nI (pc := 8) (congrArg Int32.ofInt (show 15 + (T : Int) = ((15 + T : Nat) : Int) by omega)) ?_
    obtain ⟨lo1, hi1, rl1, bl1, bh1⟩ := hx_n379 ⟨15 + T, by omega⟩
    refine xw_iald (pc := 8) (z := v (15 + T)) C0 dX12_startOf_8 (xj_202 hKL) xk_1 (by omega) (by decide +kernel) rl1 (hN (15 + T) (by omega)) (fun g1 k1 => ?_)
    refine xw_istore_n (pc := 9) (L' := [(2, .int (Int32.ofInt (v (15 + T)))), (0, .ref (xw_ad al 200)), (1, .int (Int32.ofInt (T : Int)))]) C0 dX12_startOf_9 rfl (by decide +kernel) rfl ?_
    refine xw_aload_n (pc := 10) C0 1 dX12_startOf_10 rfl rfl ?_
    refine xw_getR (pc := 11) (f := 14) C0 202 kcX12 dX12_startOf_11 (by decide +kernel) tv_1275 (xj_200 hKL) xk_0 rfl ((rfl).trans (xe_200_14 hG)) ?_
    refine xw_bipush (pc := 14) C0 dX12_startOf_14 (by decide +kernel) ?_
    refine xw_iload_n (pc := 16) C0 2 dX12_startOf_16 rfl rfl ?_
    refine xw_iadd (pc := 17) C0 dX12_startOf_17 ?_
    refine xw_nI (pc := 18) (congrArg Int32.ofInt (show 9 + (T : Int) = ((9 + T : Nat) : Int) by omega)) ?_
    obtain ⟨lo2, hi2, rl2, bl2, bh2⟩ := hx_n379 ⟨9 + T, by omega⟩
    refine xw_iald (pc := 18) (z := v (9 + T)) C0 dX12_startOf_18 (xj_202 hKL) xk_1 (by omega) (by decide +kernel) rl2 (hN (9 + T) (by omega)) (fun g2 k2 => ?_)
    refine xw_istore_n (pc := 19) (L' := [(3, .int (Int32.ofInt (v (9 + T)))), (2, .int (Int32.ofInt (v (15 + T)))), (0, .ref (xw_ad al 200)), (1, .int (Int32.ofInt (T : Int)))]) C0 dX12_startOf_19 rfl (by decide +kernel) rfl ?_
    refine xw_iload_n (pc := 20) C0 1 dX12_startOf_20 rfl rfl ?_
    refine xw_iconst (pc := 21) C0 dX12_startOf_21 ?_
    refine xw_icmp_ne (pc := 22) (tgt := 27) C0 (by omega) (by omega) dX12_startOf_22 rfl (fun b3 => ?_) (fun b3 => ?_)
    · refine xw_aload_n (pc := 27) C0 2 dX12_startOf_27 rfl rfl ?_
      refine xw_iload_n (pc := 28) C0 1 dX12_startOf_28 rfl rfl ?_
      obtain ⟨b, hB⟩ : ∃ b : Nat, v (15 + T) = (b : Int) := ⟨(v (15 + T)).toNat, by omega⟩
      have r0 := (hx_rtN hK hT).2 b hB
      have r1 := hx_rtB (T := b) hK (by omega)
      refine xw_nI (congrArg Int32.ofInt hB) ?_
      refine xw_pk [0, 1, 2, 3] (L' := [(3, .int (Int32.ofInt (v (9 + T)))), (2, .int (Int32.ofInt (b : Int))), (0, .ref (xw_ad al 200)), (1, .int (Int32.ofInt (T : Int)))]) (by rw [hB]; try rfl) ?_
      refine xw_callVI (pc := 29) (μ := μ) (ci := 12) (rest := []) (As := [.int (Int32.ofInt (b : Int))]) C0 hU hO sa_Tg hKL (xr_so1 (l := l) (v := v) (nm := nm) (T := b) (μ := μ) hG hK hN (by omega) (by omega)) tv_1696 dX12_startOf_29 tv_1693 tv_1695 tq_X12_startOf tv_13 rfl yb_X12_startOf (by decide +kernel) rfl rfl rfl (by decide +kernel) (Nat.le_of_ble_eq_true rfl) (xj_200 hKL) xk_0 (fun r4 m4 w4 => ?_)
      obtain ⟨rfl, w4⟩ := w4
      have q6 := hK.2.2.2.2.1 b (by omega) (by omega)
      have q5 := q6.1
      have q4 := q6.2.1
      clear q6
      refine xw_aload_n (pc := 32) C0 2 dX12_startOf_32 rfl rfl ?_
      refine xw_getR (pc := 33) (f := 14) C0 202 kcX12 dX12_startOf_33 (by decide +kernel) tv_1275 (xj_200 hKL) xk_0 rfl ((rfl).trans (xe_200_14 hG)) ?_
      refine xw_iconst (pc := 36) C0 dX12_startOf_36 ?_
      refine xw_iload_n (pc := 37) C0 1 dX12_startOf_37 rfl rfl ?_
      refine xw_iadd (pc := 38) C0 dX12_startOf_38 ?_
      refine xw_nI (pc := 39) (congrArg Int32.ofInt (show 3 + (b : Int) = ((3 + b : Nat) : Int) by omega)) ?_
      obtain ⟨lo5, hi5, rl5, bl5, bh5⟩ := hx_n379 ⟨3 + b, by omega⟩
      refine xw_iald (pc := 39) (z := v (3 + b)) C0 dX12_startOf_39 (xj_202 hKL) xk_1 (by omega) (by decide +kernel) rl5 (hN (3 + b) (by omega)) (fun g5 k5 => ?_)
      refine xw_iadd (pc := 40) C0 dX12_startOf_40 ?_
      refine xw_aload_n (pc := 41) C0 2 dX12_startOf_41 rfl rfl ?_
      refine xw_getR (pc := 42) (f := 14) C0 202 kcX12 dX12_startOf_42 (by decide +kernel) tv_1275 (xj_200 hKL) xk_0 rfl ((rfl).trans (xe_200_14 hG)) ?_
      refine xw_iconst (pc := 45) C0 dX12_startOf_45 ?_
      refine xw_iload_n (pc := 46) C0 3 dX12_startOf_46 rfl rfl ?_
      refine xw_iadd (pc := 47) C0 dX12_startOf_47 ?_
      refine xw_nI (pc := 48) (congrArg Int32.ofInt (show 3 + (T : Int) = ((3 + T : Nat) : Int) by omega)) ?_
      obtain ⟨lo6, hi6, rl6, bl6, bh6⟩ := hx_n379 ⟨3 + T, by omega⟩
      refine xw_iald (pc := 48) (z := v (3 + T)) C0 dX12_startOf_48 (xj_202 hKL) xk_1 (by omega) (by decide +kernel) rl6 (hN (3 + T) (by omega)) (fun g6 k6 => ?_)
      refine xw_isub (pc := 49) C0 dX12_startOf_49 ?_
      refine xw_istore (pc := 50) (L' := [(4, .int (Int32.ofInt ((r4 + (v (3 + b))) - (v (3 + T))))), (3, .int (Int32.ofInt (v (9 + T)))), (2, .int (Int32.ofInt (b : Int))), (0, .ref (xw_ad al 200)), (1, .int (Int32.ofInt (T : Int)))]) C0 dX12_startOf_50 (by decide +kernel) rfl ?_
      refine xw_iload_n (pc := 52) C0 1 dX12_startOf_52 rfl rfl ?_
      refine xw_iload (pc := 53) C0 0 dX12_startOf_53 rfl ?_
      refine xw_icmp_le (pc := 55) (tgt := 62) C0 (by omega) (by omega) dX12_startOf_55 rfl (fun b7 => ?_) (fun b7 => ?_)
      · refine xw_iload (pc := 62) C0 0 dX12_startOf_62 rfl ?_
        refine xw_iret C0 hA hr hlk rfl dX12_startOf_64 ?_
        unfold hx_m at r0
        refine ⟨_, rfl, rfl, ?_⟩
        split at r0 <;> omega
      · refine xw_iload_n (pc := 58) C0 1 dX12_startOf_58 rfl rfl ?_
        refine xw_goto (pc := 59) (tgt := 64) C0 dX12_startOf_59 rfl ?_
        refine xw_iret C0 hA hr hlk rfl dX12_startOf_64 ?_
        unfold hx_m at r0
        refine ⟨_, rfl, rfl, ?_⟩
        split at r0 <;> omega
    · refine xw_iload_n (pc := 25) C0 0 dX12_startOf_25 rfl rfl ?_
      refine xw_iret C0 hA hr hlk rfl dX12_startOf_26 ?_
      have r0 := (hx_rtN hK hT).1 (by omega)
      exact ⟨_, rfl, rfl, by omega⟩)
set_option maxRecDepth 20000 in
set_option maxHeartbeats 20000000 in
theorem xr_so3 {l : Launch} {v nm : Nat → Int} {T : Nat} {μ : xw_M} (hG : xw_G xw_GL μ) (hK : hp_ok v nm) (hN : ∀ k : Nat, k < 77 → μ 202 k = v k) (hT : (T : Int) < v 0) (hd9 : T ≤ 3) : xw_MetI l vwCl sa_Ts tb_KT0 tc_KL yX12_startOf cX12_startOf 5 (some .int) 5 192 (fun ad => [.ref (ad 200), .int (Int32.ofInt (T : Int))]) μ (fun r μ' => μ = μ' ∧ r = hx_rt v T - v (3 + T)) :=
  xw_of (by decide +kernel) (fun _ => Nat.le_of_ble_eq_true rfl) (fun p e s m args below meth c D dA A al w0 sz C0 hU hO hKL hr hlk hA => by
    have k0 := hK.1
    have q8 := hK.2.2.2.2.1 T (by omega) hT
    have q9 := q8.1
    have q7 := q8.2.1
    have qb := q8.2.2.1
    clear q8
    refine xw_aload_n (pc := 0) C0 0 dX12_startOf_0 rfl rfl ?_
    refine xw_getR (pc := 1) (f := 14) C0 202 kcX12 dX12_startOf_1 (by decide +kernel) tv_1275 (xj_200 hKL) xk_0 rfl ((rfl).trans (xe_200_14 hG)) ?_
    refine xw_bipush (pc := 4) C0 dX12_startOf_4 (by decide +kernel) ?_
    refine xw_iload_n (pc := 6) C0 1 dX12_startOf_6 rfl rfl ?_
    refine xw_iadd (pc := 7) C0 dX12_startOf_7 ?_
    refine xw_nI (pc := 8) (congrArg Int32.ofInt (show 15 + (T : Int) = ((15 + T : Nat) : Int) by omega)) ?_
    obtain ⟨lo1, hi1, rl1, bl1, bh1⟩ := hx_n379 ⟨15 + T, by omega⟩
    refine xw_iald (pc := 8) (z := v (15 + T)) C0 dX12_startOf_8 (xj_202 hKL) xk_1 (by omega) (by decide +kernel) rl1 (hN (15 + T) (by omega)) (fun g1 k1 => ?_)
    refine xw_istore_n (pc := 9) (L' := [(2, .int (Int32.ofInt (v (15 + T)))), (0, .ref (xw_ad al 200)), (1, .int (Int32.ofInt (T : Int)))]) C0 dX12_startOf_9 rfl (by decide +kernel) rfl ?_
    refine xw_aload_n (pc := 10) C0 1 dX12_startOf_10 rfl rfl ?_
    refine xw_getR (pc := 11) (f := 14) C0 202 kcX12 dX12_startOf_11 (by decide +kernel) tv_1275 (xj_200 hKL) xk_0 rfl ((rfl).trans (xe_200_14 hG)) ?_
    refine xw_bipush (pc := 14) C0 dX12_startOf_14 (by decide +kernel) ?_
    refine xw_iload_n (pc := 16) C0 2 dX12_startOf_16 rfl rfl ?_
    refine xw_iadd (pc := 17) C0 dX12_startOf_17 ?_
    refine xw_nI (pc := 18) (congrArg Int32.ofInt (show 9 + (T : Int) = ((9 + T : Nat) : Int) by omega)) ?_
    obtain ⟨lo2, hi2, rl2, bl2, bh2⟩ := hx_n379 ⟨9 + T, by omega⟩
    refine xw_iald (pc := 18) (z := v (9 + T)) C0 dX12_startOf_18 (xj_202 hKL) xk_1 (by omega) (by decide +kernel) rl2 (hN (9 + T) (by omega)) (fun g2 k2 => ?_)
    refine xw_istore_n (pc := 19) (L' := [(3, .int (Int32.ofInt (v (9 + T)))), (2, .int (Int32.ofInt (v (15 + T)))), (0, .ref (xw_ad al 200)), (1, .int (Int32.ofInt (T : Int)))]) C0 dX12_startOf_19 rfl (by decide +kernel) rfl ?_
    refine xw_iload_n (pc := 20) C0 1 dX12_startOf_20 rfl rfl ?_
    refine xw_iconst (pc := 21) C0 dX12_startOf_21 ?_
    refine xw_icmp_ne (pc := 22) (tgt := 27) C0 (by omega) (by omega) dX12_startOf_22 rfl (fun b3 => ?_) (fun b3 => ?_)
    · refine xw_aload_n (pc := 27) C0 2 dX12_startOf_27 rfl rfl ?_
      refine xw_iload_n (pc := 28) C0 1 dX12_startOf_28 rfl rfl ?_
      obtain ⟨b, hB⟩ : ∃ b : Nat, v (15 + T) = (b : Int) := ⟨(v (15 + T)).toNat, by omega⟩
      have r0 := (hx_rtN hK hT).2 b hB
      have r1 := hx_rtB (T := b) hK (by omega)
      refine xw_nI (congrArg Int32.ofInt hB) ?_
      refine xw_pk [0, 1, 2, 3] (L' := [(3, .int (Int32.ofInt (v (9 + T)))), (2, .int (Int32.ofInt (b : Int))), (0, .ref (xw_ad al 200)), (1, .int (Int32.ofInt (T : Int)))]) (by rw [hB]; try rfl) ?_
      refine xw_callVI (pc := 29) (μ := μ) (ci := 12) (rest := []) (As := [.int (Int32.ofInt (b : Int))]) C0 hU hO sa_Tg hKL (xr_so2 (l := l) (v := v) (nm := nm) (T := b) (μ := μ) hG hK hN (by omega) (by omega)) tv_1696 dX12_startOf_29 tv_1693 tv_1695 tq_X12_startOf tv_13 rfl yb_X12_startOf (by decide +kernel) rfl rfl rfl (by decide +kernel) (Nat.le_of_ble_eq_true rfl) (xj_200 hKL) xk_0 (fun r4 m4 w4 => ?_)
      obtain ⟨rfl, w4⟩ := w4
      have q6 := hK.2.2.2.2.1 b (by omega) (by omega)
      have q5 := q6.1
      have q4 := q6.2.1
      clear q6
      refine xw_aload_n (pc := 32) C0 2 dX12_startOf_32 rfl rfl ?_
      refine xw_getR (pc := 33) (f := 14) C0 202 kcX12 dX12_startOf_33 (by decide +kernel) tv_1275 (xj_200 hKL) xk_0 rfl ((rfl).trans (xe_200_14 hG)) ?_
      refine xw_iconst (pc := 36) C0 dX12_startOf_36 ?_
      refine xw_iload_n (pc := 37) C0 1 dX12_startOf_37 rfl rfl ?_
      refine xw_iadd (pc := 38) C0 dX12_startOf_38 ?_
      refine xw_nI (pc := 39) (congrArg Int32.ofInt (show 3 + (b : Int) = ((3 + b : Nat) : Int) by omega)) ?_
      obtain ⟨lo5, hi5, rl5, bl5, bh5⟩ := hx_n379 ⟨3 + b, by omega⟩
      refine xw_iald (pc := 39) (z := v (3 + b)) C0 dX12_startOf_39 (xj_202 hKL) xk_1 (by omega) (by decide +kernel) rl5 (hN (3 + b) (by omega)) (fun g5 k5 => ?_)
      refine xw_iadd (pc := 40) C0 dX12_startOf_40 ?_
      refine xw_aload_n (pc := 41) C0 2 dX12_startOf_41 rfl rfl ?_
      refine xw_getR (pc := 42) (f := 14) C0 202 kcX12 dX12_startOf_42 (by decide +kernel) tv_1275 (xj_200 hKL) xk_0 rfl ((rfl).trans (xe_200_14 hG)) ?_
      refine xw_iconst (pc := 45) C0 dX12_startOf_45 ?_
      refine xw_iload_n (pc := 46) C0 3 dX12_startOf_46 rfl rfl ?_
      refine xw_iadd (pc := 47) C0 dX12_startOf_47 ?_
      refine xw_nI (pc := 48) (congrArg Int32.ofInt (show 3 + (T : Int) = ((3 + T : Nat) : Int) by omega)) ?_
      obtain ⟨lo6, hi6, rl6, bl6, bh6⟩ := hx_n379 ⟨3 + T, by omega⟩
      refine xw_iald (pc := 48) (z := v (3 + T)) C0 dX12_startOf_48 (xj_202 hKL) xk_1 (by omega) (by decide +kernel) rl6 (hN (3 + T) (by omega)) (fun g6 k6 => ?_)
      refine xw_isub (pc := 49) C0 dX12_startOf_49 ?_
      refine xw_istore (pc := 50) (L' := [(4, .int (Int32.ofInt ((r4 + (v (3 + b))) - (v (3 + T))))), (3, .int (Int32.ofInt (v (9 + T)))), (2, .int (Int32.ofInt (b : Int))), (0, .ref (xw_ad al 200)), (1, .int (Int32.ofInt (T : Int)))]) C0 dX12_startOf_50 (by decide +kernel) rfl ?_
      refine xw_iload_n (pc := 52) C0 1 dX12_startOf_52 rfl rfl ?_
      refine xw_iload (pc := 53) C0 0 dX12_startOf_53 rfl ?_
      refine xw_icmp_le (pc := 55) (tgt := 62) C0 (by omega) (by omega) dX12_startOf_55 rfl (fun b7 => ?_) (fun b7 => ?_)
      · refine xw_iload (pc := 62) C0 0 dX12_startOf_62 rfl ?_
        refine xw_iret C0 hA hr hlk rfl dX12_startOf_64 ?_
        unfold hx_m at r0
        refine ⟨_, rfl, rfl, ?_⟩
        split at r0 <;> omega
      · refine xw_iload_n (pc := 58) C0 1 dX12_startOf_58 rfl rfl ?_
        refine xw_goto (pc := 59) (tgt := 64) C0 dX12_startOf_59 rfl ?_
        refine xw_iret C0 hA hr hlk rfl dX12_startOf_64 ?_
        unfold hx_m at r0
        refine ⟨_, rfl, rfl, ?_⟩
        split at r0 <;> omega
    · refine xw_iload_n (pc := 25) C0 0 dX12_startOf_25 rfl rfl ?_
      refine xw_iret C0 hA hr hlk rfl dX12_startOf_26 ?_
      have r0 := (hx_rtN hK hT).1 (by omega)
      exact ⟨_, rfl, rfl, by omega⟩)
set_option maxRecDepth 20000 in
set_option maxHeartbeats 20000000 in
theorem xr_so4 {l : Launch} {v nm : Nat → Int} {T : Nat} {μ : xw_M} (hG : xw_G xw_GL μ) (hK : hp_ok v nm) (hN : ∀ k : Nat, k < 77 → μ 202 k = v k) (hT : (T : Int) < v 0) (hd9 : T ≤ 4) : xw_MetI l vwCl sa_Ts tb_KT0 tc_KL yX12_startOf cX12_startOf 5 (some .int) 6 216 (fun ad => [.ref (ad 200), .int (Int32.ofInt (T : Int))]) μ (fun r μ' => μ = μ' ∧ r = hx_rt v T - v (3 + T)) :=
  xw_of (by decide +kernel) (fun _ => Nat.le_of_ble_eq_true rfl) (fun p e s m args below meth c D dA A al w0 sz C0 hU hO hKL hr hlk hA => by
    have k0 := hK.1
    have q8 := hK.2.2.2.2.1 T (by omega) hT
    have q9 := q8.1
    have q7 := q8.2.1
    have qb := q8.2.2.1
    clear q8
    refine xw_aload_n (pc := 0) C0 0 dX12_startOf_0 rfl rfl ?_
    refine xw_getR (pc := 1) (f := 14) C0 202 kcX12 dX12_startOf_1 (by decide +kernel) tv_1275 (xj_200 hKL) xk_0 rfl ((rfl).trans (xe_200_14 hG)) ?_
    refine xw_bipush (pc := 4) C0 dX12_startOf_4 (by decide +kernel) ?_
    refine xw_iload_n (pc := 6) C0 1 dX12_startOf_6 rfl rfl ?_
    refine xw_iadd (pc := 7) C0 dX12_startOf_7 ?_
    refine xw_nI (pc := 8) (congrArg Int32.ofInt (show 15 + (T : Int) = ((15 + T : Nat) : Int) by omega)) ?_
    obtain ⟨lo1, hi1, rl1, bl1, bh1⟩ := hx_n379 ⟨15 + T, by omega⟩
    refine xw_iald (pc := 8) (z := v (15 + T)) C0 dX12_startOf_8 (xj_202 hKL) xk_1 (by omega) (by decide +kernel) rl1 (hN (15 + T) (by omega)) (fun g1 k1 => ?_)
    refine xw_istore_n (pc := 9) (L' := [(2, .int (Int32.ofInt (v (15 + T)))), (0, .ref (xw_ad al 200)), (1, .int (Int32.ofInt (T : Int)))]) C0 dX12_startOf_9 rfl (by decide +kernel) rfl ?_
    refine xw_aload_n (pc := 10) C0 1 dX12_startOf_10 rfl rfl ?_
    refine xw_getR (pc := 11) (f := 14) C0 202 kcX12 dX12_startOf_11 (by decide +kernel) tv_1275 (xj_200 hKL) xk_0 rfl ((rfl).trans (xe_200_14 hG)) ?_
    refine xw_bipush (pc := 14) C0 dX12_startOf_14 (by decide +kernel) ?_
    refine xw_iload_n (pc := 16) C0 2 dX12_startOf_16 rfl rfl ?_
    refine xw_iadd (pc := 17) C0 dX12_startOf_17 ?_
    refine xw_nI (pc := 18) (congrArg Int32.ofInt (show 9 + (T : Int) = ((9 + T : Nat) : Int) by omega)) ?_
    obtain ⟨lo2, hi2, rl2, bl2, bh2⟩ := hx_n379 ⟨9 + T, by omega⟩
    refine xw_iald (pc := 18) (z := v (9 + T)) C0 dX12_startOf_18 (xj_202 hKL) xk_1 (by omega) (by decide +kernel) rl2 (hN (9 + T) (by omega)) (fun g2 k2 => ?_)
    refine xw_istore_n (pc := 19) (L' := [(3, .int (Int32.ofInt (v (9 + T)))), (2, .int (Int32.ofInt (v (15 + T)))), (0, .ref (xw_ad al 200)), (1, .int (Int32.ofInt (T : Int)))]) C0 dX12_startOf_19 rfl (by decide +kernel) rfl ?_
    refine xw_iload_n (pc := 20) C0 1 dX12_startOf_20 rfl rfl ?_
    refine xw_iconst (pc := 21) C0 dX12_startOf_21 ?_
    refine xw_icmp_ne (pc := 22) (tgt := 27) C0 (by omega) (by omega) dX12_startOf_22 rfl (fun b3 => ?_) (fun b3 => ?_)
    · refine xw_aload_n (pc := 27) C0 2 dX12_startOf_27 rfl rfl ?_
      refine xw_iload_n (pc := 28) C0 1 dX12_startOf_28 rfl rfl ?_
      obtain ⟨b, hB⟩ : ∃ b : Nat, v (15 + T) = (b : Int) := ⟨(v (15 + T)).toNat, by omega⟩
      have r0 := (hx_rtN hK hT).2 b hB
      have r1 := hx_rtB (T := b) hK (by omega)
      refine xw_nI (congrArg Int32.ofInt hB) ?_
      refine xw_pk [0, 1, 2, 3] (L' := [(3, .int (Int32.ofInt (v (9 + T)))), (2, .int (Int32.ofInt (b : Int))), (0, .ref (xw_ad al 200)), (1, .int (Int32.ofInt (T : Int)))]) (by rw [hB]; try rfl) ?_
      refine xw_callVI (pc := 29) (μ := μ) (ci := 12) (rest := []) (As := [.int (Int32.ofInt (b : Int))]) C0 hU hO sa_Tg hKL (xr_so3 (l := l) (v := v) (nm := nm) (T := b) (μ := μ) hG hK hN (by omega) (by omega)) tv_1696 dX12_startOf_29 tv_1693 tv_1695 tq_X12_startOf tv_13 rfl yb_X12_startOf (by decide +kernel) rfl rfl rfl (by decide +kernel) (Nat.le_of_ble_eq_true rfl) (xj_200 hKL) xk_0 (fun r4 m4 w4 => ?_)
      obtain ⟨rfl, w4⟩ := w4
      have q6 := hK.2.2.2.2.1 b (by omega) (by omega)
      have q5 := q6.1
      have q4 := q6.2.1
      clear q6
      refine xw_aload_n (pc := 32) C0 2 dX12_startOf_32 rfl rfl ?_
      refine xw_getR (pc := 33) (f := 14) C0 202 kcX12 dX12_startOf_33 (by decide +kernel) tv_1275 (xj_200 hKL) xk_0 rfl ((rfl).trans (xe_200_14 hG)) ?_
      refine xw_iconst (pc := 36) C0 dX12_startOf_36 ?_
      refine xw_iload_n (pc := 37) C0 1 dX12_startOf_37 rfl rfl ?_
      refine xw_iadd (pc := 38) C0 dX12_startOf_38 ?_
      refine xw_nI (pc := 39) (congrArg Int32.ofInt (show 3 + (b : Int) = ((3 + b : Nat) : Int) by omega)) ?_
      obtain ⟨lo5, hi5, rl5, bl5, bh5⟩ := hx_n379 ⟨3 + b, by omega⟩
      refine xw_iald (pc := 39) (z := v (3 + b)) C0 dX12_startOf_39 (xj_202 hKL) xk_1 (by omega) (by decide +kernel) rl5 (hN (3 + b) (by omega)) (fun g5 k5 => ?_)
      refine xw_iadd (pc := 40) C0 dX12_startOf_40 ?_
      refine xw_aload_n (pc := 41) C0 2 dX12_startOf_41 rfl rfl ?_
      refine xw_getR (pc := 42) (f := 14) C0 202 kcX12 dX12_startOf_42 (by decide +kernel) tv_1275 (xj_200 hKL) xk_0 rfl ((rfl).trans (xe_200_14 hG)) ?_
      refine xw_iconst (pc := 45) C0 dX12_startOf_45 ?_
      refine xw_iload_n (pc := 46) C0 3 dX12_startOf_46 rfl rfl ?_
      refine xw_iadd (pc := 47) C0 dX12_startOf_47 ?_
      refine xw_nI (pc := 48) (congrArg Int32.ofInt (show 3 + (T : Int) = ((3 + T : Nat) : Int) by omega)) ?_
      obtain ⟨lo6, hi6, rl6, bl6, bh6⟩ := hx_n379 ⟨3 + T, by omega⟩
      refine xw_iald (pc := 48) (z := v (3 + T)) C0 dX12_startOf_48 (xj_202 hKL) xk_1 (by omega) (by decide +kernel) rl6 (hN (3 + T) (by omega)) (fun g6 k6 => ?_)
      refine xw_isub (pc := 49) C0 dX12_startOf_49 ?_
      refine xw_istore (pc := 50) (L' := [(4, .int (Int32.ofInt ((r4 + (v (3 + b))) - (v (3 + T))))), (3, .int (Int32.ofInt (v (9 + T)))), (2, .int (Int32.ofInt (b : Int))), (0, .ref (xw_ad al 200)), (1, .int (Int32.ofInt (T : Int)))]) C0 dX12_startOf_50 (by decide +kernel) rfl ?_
      refine xw_iload_n (pc := 52) C0 1 dX12_startOf_52 rfl rfl ?_
      refine xw_iload (pc := 53) C0 0 dX12_startOf_53 rfl ?_
      refine xw_icmp_le (pc := 55) (tgt := 62) C0 (by omega) (by omega) dX12_startOf_55 rfl (fun b7 => ?_) (fun b7 => ?_)
      · refine xw_iload (pc := 62) C0 0 dX12_startOf_62 rfl ?_
        refine xw_iret C0 hA hr hlk rfl dX12_startOf_64 ?_
        unfold hx_m at r0
        refine ⟨_, rfl, rfl, ?_⟩
        split at r0 <;> omega
      · refine xw_iload_n (pc := 58) C0 1 dX12_startOf_58 rfl rfl ?_
        refine xw_goto (pc := 59) (tgt := 64) C0 dX12_startOf_59 rfl ?_
        refine xw_iret C0 hA hr hlk rfl dX12_startOf_64 ?_
        unfold hx_m at r0
        refine ⟨_, rfl, rfl, ?_⟩
        split at r0 <;> omega
    · refine xw_iload_n (pc := 25) C0 0 dX12_startOf_25 rfl rfl ?_
      refine xw_iret C0 hA hr hlk rfl dX12_startOf_26 ?_
      have r0 := (hx_rtN hK hT).1 (by omega)
      exact ⟨_, rfl, rfl, by omega⟩)
set_option maxRecDepth 20000 in
set_option maxHeartbeats 20000000 in
theorem xr_so5 {l : Launch} {v nm : Nat → Int} {T : Nat} {μ : xw_M} (hG : xw_G xw_GL μ) (hK : hp_ok v nm) (hN : ∀ k : Nat, k < 77 → μ 202 k = v k) (hT : (T : Int) < v 0) (hd9 : T ≤ 5) : xw_MetI l vwCl sa_Ts tb_KT0 tc_KL yX12_startOf cX12_startOf 5 (some .int) 7 240 (fun ad => [.ref (ad 200), .int (Int32.ofInt (T : Int))]) μ (fun r μ' => μ = μ' ∧ r = hx_rt v T - v (3 + T)) :=
  xw_of (by decide +kernel) (fun _ => Nat.le_of_ble_eq_true rfl) (fun p e s m args below meth c D dA A al w0 sz C0 hU hO hKL hr hlk hA => by
    have k0 := hK.1
    have q8 := hK.2.2.2.2.1 T (by omega) hT
    have q9 := q8.1
    have q7 := q8.2.1
    have qb := q8.2.2.1
    clear q8
    refine xw_aload_n (pc := 0) C0 0 dX12_startOf_0 rfl rfl ?_
    refine xw_getR (pc := 1) (f := 14) C0 202 kcX12 dX12_startOf_1 (by decide +kernel) tv_1275 (xj_200 hKL) xk_0 rfl ((rfl).trans (xe_200_14 hG)) ?_
    refine xw_bipush (pc := 4) C0 dX12_startOf_4 (by decide +kernel) ?_
    refine xw_iload_n (pc := 6) C0 1 dX12_startOf_6 rfl rfl ?_
    refine xw_iadd (pc := 7) C0 dX12_startOf_7 ?_
    refine xw_nI (pc := 8) (congrArg Int32.ofInt (show 15 + (T : Int) = ((15 + T : Nat) : Int) by omega)) ?_
    obtain ⟨lo1, hi1, rl1, bl1, bh1⟩ := hx_n379 ⟨15 + T, by omega⟩
    refine xw_iald (pc := 8) (z := v (15 + T)) C0 dX12_startOf_8 (xj_202 hKL) xk_1 (by omega) (by decide +kernel) rl1 (hN (15 + T) (by omega)) (fun g1 k1 => ?_)
    refine xw_istore_n (pc := 9) (L' := [(2, .int (Int32.ofInt (v (15 + T)))), (0, .ref (xw_ad al 200)), (1, .int (Int32.ofInt (T : Int)))]) C0 dX12_startOf_9 rfl (by decide +kernel) rfl ?_
    refine xw_aload_n (pc := 10) C0 1 dX12_startOf_10 rfl rfl ?_
    refine xw_getR (pc := 11) (f := 14) C0 202 kcX12 dX12_startOf_11 (by decide +kernel) tv_1275 (xj_200 hKL) xk_0 rfl ((rfl).trans (xe_200_14 hG)) ?_
    refine xw_bipush (pc := 14) C0 dX12_startOf_14 (by decide +kernel) ?_
    refine xw_iload_n (pc := 16) C0 2 dX12_startOf_16 rfl rfl ?_
    refine xw_iadd (pc := 17) C0 dX12_startOf_17 ?_
    refine xw_nI (pc := 18) (congrArg Int32.ofInt (show 9 + (T : Int) = ((9 + T : Nat) : Int) by omega)) ?_
    obtain ⟨lo2, hi2, rl2, bl2, bh2⟩ := hx_n379 ⟨9 + T, by omega⟩
    refine xw_iald (pc := 18) (z := v (9 + T)) C0 dX12_startOf_18 (xj_202 hKL) xk_1 (by omega) (by decide +kernel) rl2 (hN (9 + T) (by omega)) (fun g2 k2 => ?_)
    refine xw_istore_n (pc := 19) (L' := [(3, .int (Int32.ofInt (v (9 + T)))), (2, .int (Int32.ofInt (v (15 + T)))), (0, .ref (xw_ad al 200)), (1, .int (Int32.ofInt (T : Int)))]) C0 dX12_startOf_19 rfl (by decide +kernel) rfl ?_
    refine xw_iload_n (pc := 20) C0 1 dX12_startOf_20 rfl rfl ?_
    refine xw_iconst (pc := 21) C0 dX12_startOf_21 ?_
    refine xw_icmp_ne (pc := 22) (tgt := 27) C0 (by omega) (by omega) dX12_startOf_22 rfl (fun b3 => ?_) (fun b3 => ?_)
    · refine xw_aload_n (pc := 27) C0 2 dX12_startOf_27 rfl rfl ?_
      refine xw_iload_n (pc := 28) C0 1 dX12_startOf_28 rfl rfl ?_
      obtain ⟨b, hB⟩ : ∃ b : Nat, v (15 + T) = (b : Int) := ⟨(v (15 + T)).toNat, by omega⟩
      have r0 := (hx_rtN hK hT).2 b hB
      have r1 := hx_rtB (T := b) hK (by omega)
      refine xw_nI (congrArg Int32.ofInt hB) ?_
      refine xw_pk [0, 1, 2, 3] (L' := [(3, .int (Int32.ofInt (v (9 + T)))), (2, .int (Int32.ofInt (b : Int))), (0, .ref (xw_ad al 200)), (1, .int (Int32.ofInt (T : Int)))]) (by rw [hB]; try rfl) ?_
      refine xw_callVI (pc := 29) (μ := μ) (ci := 12) (rest := []) (As := [.int (Int32.ofInt (b : Int))]) C0 hU hO sa_Tg hKL (xr_so4 (l := l) (v := v) (nm := nm) (T := b) (μ := μ) hG hK hN (by omega) (by omega)) tv_1696 dX12_startOf_29 tv_1693 tv_1695 tq_X12_startOf tv_13 rfl yb_X12_startOf (by decide +kernel) rfl rfl rfl (by decide +kernel) (Nat.le_of_ble_eq_true rfl) (xj_200 hKL) xk_0 (fun r4 m4 w4 => ?_)
      obtain ⟨rfl, w4⟩ := w4
      have q6 := hK.2.2.2.2.1 b (by omega) (by omega)
      have q5 := q6.1
      have q4 := q6.2.1
      clear q6
      refine xw_aload_n (pc := 32) C0 2 dX12_startOf_32 rfl rfl ?_
      refine xw_getR (pc := 33) (f := 14) C0 202 kcX12 dX12_startOf_33 (by decide +kernel) tv_1275 (xj_200 hKL) xk_0 rfl ((rfl).trans (xe_200_14 hG)) ?_
      refine xw_iconst (pc := 36) C0 dX12_startOf_36 ?_
      refine xw_iload_n (pc := 37) C0 1 dX12_startOf_37 rfl rfl ?_
      refine xw_iadd (pc := 38) C0 dX12_startOf_38 ?_
      refine xw_nI (pc := 39) (congrArg Int32.ofInt (show 3 + (b : Int) = ((3 + b : Nat) : Int) by omega)) ?_
      obtain ⟨lo5, hi5, rl5, bl5, bh5⟩ := hx_n379 ⟨3 + b, by omega⟩
      refine xw_iald (pc := 39) (z := v (3 + b)) C0 dX12_startOf_39 (xj_202 hKL) xk_1 (by omega) (by decide +kernel) rl5 (hN (3 + b) (by omega)) (fun g5 k5 => ?_)
      refine xw_iadd (pc := 40) C0 dX12_startOf_40 ?_
      refine xw_aload_n (pc := 41) C0 2 dX12_startOf_41 rfl rfl ?_
      refine xw_getR (pc := 42) (f := 14) C0 202 kcX12 dX12_startOf_42 (by decide +kernel) tv_1275 (xj_200 hKL) xk_0 rfl ((rfl).trans (xe_200_14 hG)) ?_
      refine xw_iconst (pc := 45) C0 dX12_startOf_45 ?_
      refine xw_iload_n (pc := 46) C0 3 dX12_startOf_46 rfl rfl ?_
      refine xw_iadd (pc := 47) C0 dX12_startOf_47 ?_
      refine xw_nI (pc := 48) (congrArg Int32.ofInt (show 3 + (T : Int) = ((3 + T : Nat) : Int) by omega)) ?_
      obtain ⟨lo6, hi6, rl6, bl6, bh6⟩ := hx_n379 ⟨3 + T, by omega⟩
      refine xw_iald (pc := 48) (z := v (3 + T)) C0 dX12_startOf_48 (xj_202 hKL) xk_1 (by omega) (by decide +kernel) rl6 (hN (3 + T) (by omega)) (fun g6 k6 => ?_)
      refine xw_isub (pc := 49) C0 dX12_startOf_49 ?_
      refine xw_istore (pc := 50) (L' := [(4, .int (Int32.ofInt ((r4 + (v (3 + b))) - (v (3 + T))))), (3, .int (Int32.ofInt (v (9 + T)))), (2, .int (Int32.ofInt (b : Int))), (0, .ref (xw_ad al 200)), (1, .int (Int32.ofInt (T : Int)))]) C0 dX12_startOf_50 (by decide +kernel) rfl ?_
      refine xw_iload_n (pc := 52) C0 1 dX12_startOf_52 rfl rfl ?_
      refine xw_iload (pc := 53) C0 0 dX12_startOf_53 rfl ?_
      refine xw_icmp_le (pc := 55) (tgt := 62) C0 (by omega) (by omega) dX12_startOf_55 rfl (fun b7 => ?_) (fun b7 => ?_)
      · refine xw_iload (pc := 62) C0 0 dX12_startOf_62 rfl ?_
        refine xw_iret C0 hA hr hlk rfl dX12_startOf_64 ?_
        unfold hx_m at r0
        refine ⟨_, rfl, rfl, ?_⟩
        split at r0 <;> omega
      · refine xw_iload_n (pc := 58) C0 1 dX12_startOf_58 rfl rfl ?_
        refine xw_goto (pc := 59) (tgt := 64) C0 dX12_startOf_59 rfl ?_
        refine xw_iret C0 hA hr hlk rfl dX12_startOf_64 ?_
        unfold hx_m at r0
        refine ⟨_, rfl, rfl, ?_⟩
        split at r0 <;> omega
    · refine xw_iload_n (pc := 25) C0 0 dX12_startOf_25 rfl rfl ?_
      refine xw_iret C0 hA hr hlk rfl dX12_startOf_26 ?_
      have r0 := (hx_rtN hK hT).1 (by omega)
      exact ⟨_, rfl, rfl, by omega⟩)
set_option maxRecDepth 20000 in
set_option maxHeartbeats 20000000 in
theorem xh_isThing {l : Launch} {μ : xw_M} {v : Int} (hG : xw_G xw_GL μ) (hr9 : -2147483648 ≤ v ∧ v ≤ 2147483647) : xw_MetI l vwCl sa_Ts tb_KT0 tc_KL yX11_isThing cX11_isThing 2 (some .boolean) 2 120 (fun ad => [.ref (ad 0), .int (Int32.ofInt v)]) μ (fun r μ' => μ = μ' ∧ (((0 ≤ v ∧ v < μ 4 13) ∧ r = 1) ∨ (¬ (0 ≤ v ∧ v < μ 4 13) ∧ r = 0))) :=
  xw_of (by decide +kernel) (fun _ => Nat.le_of_ble_eq_true rfl) (fun p e s m args below meth c D dA A al w0 sz C0 hU hO hKL hr hlk hA => by
    refine xw_iload_n (pc := 0) C0 1 dX11_isThing_0 rfl rfl ?_
    refine xw_if_lt (pc := 1) (tgt := 22) C0 (by omega) dX11_isThing_1 rfl (fun b1 => ?_) (fun b1 => ?_)
    · refine xw_iconst (pc := 22) C0 dX11_isThing_22 ?_
      refine xw_iret C0 hA hr hlk rfl dX11_isThing_23 ?_
      exact ⟨_, rfl, rfl, Or.inr ⟨by omega, rfl⟩⟩
    · refine xw_iload_n (pc := 4) C0 1 dX11_isThing_4 rfl rfl ?_
      refine xw_aload_n (pc := 5) C0 0 dX11_isThing_5 rfl rfl ?_
      refine xw_getR (pc := 6) (f := 1) C0 3 kcX11 dX11_isThing_6 (by decide +kernel) tv_423 (xj_0 hKL) xk_27 rfl ((rfl).trans (xe_0_1 hG)) ?_
      refine xw_getR (pc := 9) (f := 0) C0 4 kcX10 dX11_isThing_9 (by decide +kernel) tv_234 (xj_3 hKL) xk_24 rfl ((rfl).trans (xe_3_0 hG)) ?_
      refine xw_getI (pc := 12) (f := 13) (z := μ 4 13) C0 kcX2 dX11_isThing_12 (by decide +kernel) tv_100 (xj_4 hKL) xk_28 rfl (rfl) (fun g2 k2 => ?_)
      refine xw_icmp_ge (pc := 15) (tgt := 22) C0 (by omega) (by omega) dX11_isThing_15 rfl (fun b3 => ?_) (fun b3 => ?_)
      · refine xw_iconst (pc := 22) C0 dX11_isThing_22 ?_
        refine xw_iret C0 hA hr hlk rfl dX11_isThing_23 ?_
        exact ⟨_, rfl, rfl, Or.inr ⟨by omega, rfl⟩⟩
      · refine xw_iconst (pc := 18) C0 dX11_isThing_18 ?_
        refine xw_goto (pc := 19) (tgt := 23) C0 dX11_isThing_19 rfl ?_
        refine xw_iret C0 hA hr hlk rfl dX11_isThing_23 ?_
        exact ⟨_, rfl, rfl, Or.inl ⟨by omega, rfl⟩⟩)
set_option maxRecDepth 20000 in
set_option maxHeartbeats 20000000 in
theorem xr_isThing {l : Launch} {μ : xw_M} {v : Int} (hG : xw_G xw_GL μ) (hr9 : -2147483648 ≤ v ∧ v ≤ 2147483647) : xw_MetI l vwCl sa_Ts tb_KT0 tc_KL yX12_isThing cX12_isThing 2 (some .boolean) 3 142 (fun ad => [.ref (ad 200), .int (Int32.ofInt v)]) μ (fun r μ' => μ = μ' ∧ (((0 ≤ v ∧ v < μ 202 0) ∧ r = 1) ∨ (¬ (0 ≤ v ∧ v < μ 202 0) ∧ r = 0))) :=
  xw_of (by decide +kernel) (fun _ => Nat.le_of_ble_eq_true rfl) (fun p e s m args below meth c D dA A al w0 sz C0 hU hO hKL hr hlk hA => by
    refine xw_iload_n (pc := 0) C0 1 dX12_isThing_0 rfl rfl ?_
    refine xw_iconst (pc := 1) C0 dX12_isThing_1 ?_
    refine xw_aload_n (pc := 2) C0 0 dX12_isThing_2 rfl rfl ?_
    refine xw_getR (pc := 3) (f := 14) C0 202 kcX12 dX12_isThing_3 (by decide +kernel) tv_1275 (xj_200 hKL) xk_0 rfl ((rfl).trans (xe_200_14 hG)) ?_
    refine xw_iconst (pc := 6) C0 dX12_isThing_6 ?_
    refine xw_iald (pc := 7) (z := μ 202 0) C0 dX12_isThing_7 (xj_202 hKL) xk_1 (by omega) (by decide +kernel) rfl (rfl) (fun g1 k1 => ?_)
    refine xw_iconst (pc := 8) C0 dX12_isThing_8 ?_
    refine xw_isub (pc := 9) C0 dX12_isThing_9 ?_
    refine xw_callSI (pc := 10) (μ := μ) (rest := []) (As := [.int (Int32.ofInt v), .int (Int32.ofInt 0), .int (Int32.ofInt ((μ 202 0) - 1))]) C0 hU hO sa_Tg hKL (xm_isIn (l := l) (v := v) (a := 0) (b := (μ 202 0) - 1) (by omega) (by omega) (by omega)) tv_1481 dX12_isThing_10 tv_1479 tv_1480 tv_13 yb_X12_isIn (by decide +kernel) rfl rfl rfl (by decide +kernel) (Nat.le_of_ble_eq_true rfl) (fun r2 m2 w2 => ?_)
    obtain ⟨rfl, w2⟩ := w2
    rcases w2 with ⟨w2, rfl⟩ | ⟨w2, rfl⟩
    · refine xw_iret C0 hA hr hlk rfl dX12_isThing_13 ?_
      exact ⟨_, rfl, rfl, Or.inl ⟨by omega, rfl⟩⟩
    · refine xw_iret C0 hA hr hlk rfl dX12_isThing_13 ?_
      exact ⟨_, rfl, rfl, Or.inr ⟨by omega, rfl⟩⟩)
set_option maxRecDepth 20000 in
set_option maxHeartbeats 20000000 in
theorem xh_readyV {l : Launch} {v nm : Nat → Int} {v9 : Int} {μ : xw_M} (hG : xw_G xw_GL μ) (hr9 : -2147483648 ≤ v9 ∧ v9 ≤ 2147483647) (hK : hp_ok v nm) (hE : hx_E v 4 μ) : xw_MetI l vwCl sa_Ts tb_KT0 tc_KL yX11_ready cX11_ready 2 (some .int) 4 164 (fun ad => [.ref (ad 0), .int (Int32.ofInt v9)]) μ (fun r μ' => μ = μ' ∧ (((0 ≤ v9 ∧ v9 < v 0) ∧ r = hx_rt v v9.toNat) ∨ (¬ (0 ≤ v9 ∧ v9 < v 0) ∧ r = -1))) :=
  xw_of (by decide +kernel) (fun _ => Nat.le_of_ble_eq_true rfl) (fun p e s m args below meth c D dA A al w0 sz C0 hU hO hKL hr hlk hA => by
    have k0 := hK.1
    have c1 : μ 4 13 = v 0 := hE.1.1
    refine xw_aload_n (pc := 0) C0 0 dX11_ready_0 rfl rfl ?_
    refine xw_iload_n (pc := 1) C0 1 dX11_ready_1 rfl rfl ?_
    refine xw_callVI (pc := 2) (μ := μ) (ci := 11) (rest := []) (As := [.int (Int32.ofInt v9)]) C0 hU hO sa_Tg hKL (xh_isThing (l := l) (v := v9) hG (by omega)) tv_675 dX11_ready_2 tv_672 tv_674 tq_X11_isThing tv_1 rfl yb_X11_isThing (by decide +kernel) rfl rfl rfl (by decide +kernel) (Nat.le_of_ble_eq_true rfl) (xj_0 hKL) xk_27 (fun r1 m1 w1 => ?_)
    obtain ⟨rfl, w1⟩ := w1
    rcases w1 with ⟨w1, rfl⟩ | ⟨w1, rfl⟩
    · refine xw_if_eq (pc := 5) (tgt := 22) C0 (by omega) dX11_ready_5 rfl (fun b2 => ?_) (fun b2 => ?_)
      · exfalso
        omega
      · refine xw_aload_n (pc := 8) C0 0 dX11_ready_8 rfl rfl ?_
        refine xw_getR (pc := 9) (f := 1) C0 3 kcX11 dX11_ready_9 (by decide +kernel) tv_423 (xj_0 hKL) xk_27 rfl ((rfl).trans (xe_0_1 hG)) ?_
        refine xw_getR (pc := 12) (f := 0) C0 4 kcX10 dX11_ready_12 (by decide +kernel) tv_234 (xj_3 hKL) xk_24 rfl ((rfl).trans (xe_3_0 hG)) ?_
        refine xw_iload_n (pc := 15) C0 1 dX11_ready_15 rfl rfl ?_
        obtain ⟨T, hT9⟩ : ∃ T : Nat, v9 = (T : Int) := ⟨v9.toNat, by omega⟩
        have hT : (T : Int) < v 0 := by omega
        have e8 : v9.toNat = T := by omega
        have k9 := hx_rtB hK hT
        have q6 := hK.2.2.2.2.1 T (by omega) hT
        have q5 := q6.1
        clear q6
        refine xw_nI (congrArg Int32.ofInt hT9) ?_
        refine xw_callVI (pc := 16) (μ := μ) (ci := 2) (rest := []) (As := [.int (Int32.ofInt (T : Int))]) C0 hU hO sa_Tg hKL (xq_minutesTillUp (l := l) (v := v) (nm := nm) (T := T) hG hK hE hT) tv_800 dX11_ready_16 tv_797 tv_798 tv_799 tv_4 rfl yb_X2_minutesTillUp (by decide +kernel) rfl rfl rfl (by decide +kernel) (Nat.le_of_ble_eq_true rfl) (xj_4 hKL) xk_28 (fun r3 m3 w3 => ?_)
        obtain ⟨rfl, rfl⟩ := w3
        refine xw_goto (pc := 19) (tgt := 23) C0 dX11_ready_19 rfl ?_
        refine xw_iret C0 hA hr hlk rfl dX11_ready_23 ?_
        exact ⟨_, rfl, rfl, Or.inl ⟨by omega, by rw [e8]⟩⟩
    · refine xw_if_eq (pc := 5) (tgt := 22) C0 (by omega) dX11_ready_5 rfl (fun b4 => ?_) (fun b4 => ?_)
      · refine xw_iconst (pc := 22) C0 dX11_ready_22 ?_
        refine xw_iret C0 hA hr hlk rfl dX11_ready_23 ?_
        exact ⟨_, rfl, rfl, Or.inr ⟨by omega, rfl⟩⟩
      · exfalso
        omega)
set_option maxRecDepth 20000 in
set_option maxHeartbeats 20000000 in
theorem xr_readyV {l : Launch} {v nm : Nat → Int} {v9 : Int} {μ : xw_M} (hG : xw_G xw_GL μ) (hr9 : -2147483648 ≤ v9 ∧ v9 ≤ 2147483647) (hK : hp_ok v nm) (hN : ∀ k : Nat, k < 77 → μ 202 k = v k) : xw_MetI l vwCl sa_Ts tb_KT0 tc_KL yX12_ready cX12_ready 2 (some .int) 8 264 (fun ad => [.ref (ad 200), .int (Int32.ofInt v9)]) μ (fun r μ' => (((0 ≤ v9 ∧ v9 < v 0) ∧ r = hx_rt v v9.toNat) ∨ (¬ (0 ≤ v9 ∧ v9 < v 0) ∧ r = -1)) ∧ xw_F [(200, 0, 0)] μ μ') :=
  xw_of (by decide +kernel) (fun _ => Nat.le_of_ble_eq_true rfl) (fun p e s m args below meth c D dA A al w0 sz C0 hU hO hKL hr hlk hA => by
    have k0 := hK.1
    refine xw_aload_n (pc := 0) C0 0 dX12_ready_0 rfl rfl ?_
    refine xw_iconst (pc := 1) C0 dX12_ready_1 ?_
    refine xw_putI (pc := 2) (f := 0) C0 kcX12 dX12_ready_2 (by decide +kernel) tv_1261 rfl rfl (xj_200 hKL) xk_0 rfl (by omega) (by omega) ?_
    refine xw_aload_n (pc := 5) C0 0 dX12_ready_5 rfl rfl ?_
    refine xw_iload_n (pc := 6) C0 1 dX12_ready_6 rfl rfl ?_
    have Ft1 : xw_F [(200, 0, 0)] μ (xw_u μ 200 0 0) := ((xw_F.rf (ML := [(200, 0, 0)])).u (show (200, 0, 0) ∈ _ by decide) ⟨by decide, by decide⟩)
    have vt1_200_0 : (xw_u μ 200 0 0) 200 0 = 0 := xw_ug
    generalize (xw_u μ 200 0 0) = t1 at Ft1 vt1_200_0 ⊢
    have hG_t1 := xw_GF hG Ft1 (by decide +kernel)
    have hN9 : ∀ k : Nat, k < 77 → t1 202 k = v k := fun k hk => (Ft1 202 k (xw_oj (by decide +kernel) k)).trans (hN k hk)
    have y9 : t1 202 0 = v 0 := hN9 0 (by decide +kernel)
    refine xw_callVI (pc := 7) (μ := t1) (ci := 12) (rest := []) (As := [.int (Int32.ofInt v9)]) C0 hU hO sa_Tg hKL (xr_isThing (l := l) (v := v9) hG_t1 (by omega)) tv_1521 dX12_ready_7 tv_1518 tv_1520 tq_X12_isThing tv_13 rfl yb_X12_isThing (by decide +kernel) rfl rfl rfl (by decide +kernel) (Nat.le_of_ble_eq_true rfl) (xj_200 hKL) xk_0 (fun r1 m1 w1 => ?_)
    obtain ⟨rfl, w1⟩ := w1
    rcases w1 with ⟨w1, rfl⟩ | ⟨w1, rfl⟩
    · refine xw_if_eq (pc := 10) (tgt := 30) C0 (by omega) dX12_ready_10 rfl (fun b2 => ?_) (fun b2 => ?_)
      · exfalso
        omega
      · refine xw_aload_n (pc := 13) C0 0 dX12_ready_13 rfl rfl ?_
        refine xw_iload_n (pc := 14) C0 1 dX12_ready_14 rfl rfl ?_
        obtain ⟨T, hT9⟩ : ∃ T : Nat, v9 = (T : Int) := ⟨v9.toNat, by omega⟩
        have hT : (T : Int) < v 0 := by omega
        have e8 : v9.toNat = T := by omega
        have k9 := hx_rtB hK hT
        have q6 := hK.2.2.2.2.1 T (by omega) hT
        have q5 := q6.1
        clear q6
        refine xw_nI (congrArg Int32.ofInt hT9) ?_
        refine xw_callVI (pc := 15) (μ := t1) (ci := 12) (rest := []) (As := [.int (Int32.ofInt (T : Int))]) C0 hU hO sa_Tg hKL (xr_so5 (l := l) (v := v) (nm := nm) (T := T) (μ := t1) hG_t1 hK hN9 hT (by omega)) tv_1696 dX12_ready_15 tv_1693 tv_1695 tq_X12_startOf tv_13 rfl yb_X12_startOf (by decide +kernel) rfl rfl rfl (by decide +kernel) (Nat.le_of_ble_eq_true rfl) (xj_200 hKL) xk_0 (fun r3 m3 w3 => ?_)
        obtain ⟨rfl, rfl⟩ := w3
        refine xw_aload_n (pc := 18) C0 0 dX12_ready_18 rfl rfl ?_
        refine xw_getR (pc := 19) (f := 14) C0 202 kcX12 dX12_ready_19 (by decide +kernel) tv_1275 (xj_200 hKL) xk_0 rfl (((Ft1 200 14 rfl).trans rfl).trans (xe_200_14 hG)) ?_
        refine xw_iconst (pc := 22) C0 dX12_ready_22 ?_
        refine xw_iload_n (pc := 23) C0 1 dX12_ready_23 rfl rfl ?_
        refine xw_iadd (pc := 24) C0 dX12_ready_24 ?_
        refine xw_nI (pc := 25) (congrArg Int32.ofInt (show 3 + v9 = 3 + (T : Int) by omega)) ?_
        refine xw_nI (pc := 25) (congrArg Int32.ofInt (show 3 + (T : Int) = ((3 + T : Nat) : Int) by omega)) ?_
        obtain ⟨lo4, hi4, rl4, bl4, bh4⟩ := hx_n379 ⟨3 + T, by omega⟩
        refine xw_iald (pc := 25) (z := v (3 + T)) C0 dX12_ready_25 (xj_202 hKL) xk_1 (by omega) (by decide +kernel) rl4 (hN9 (3 + T) (by omega)) (fun g4 k4 => ?_)
        refine xw_iadd (pc := 26) C0 dX12_ready_26 ?_
        refine xw_goto (pc := 27) (tgt := 31) C0 dX12_ready_27 rfl ?_
        refine xw_iret C0 hA hr hlk rfl dX12_ready_31 ?_
        exact ⟨_, rfl, Or.inl ⟨by omega, by rw [e8]; try omega⟩, ((xw_F.rf (ML := [(200, 0, 0)])).tr Ft1 (fun j i h => xw_o_sub (by decide +kernel) j i h))⟩
    · refine xw_if_eq (pc := 10) (tgt := 30) C0 (by omega) dX12_ready_10 rfl (fun b5 => ?_) (fun b5 => ?_)
      · refine xw_iconst (pc := 30) C0 dX12_ready_30 ?_
        refine xw_iret C0 hA hr hlk rfl dX12_ready_31 ?_
        exact ⟨_, rfl, Or.inr ⟨by omega, rfl⟩, ((xw_F.rf (ML := [(200, 0, 0)])).tr Ft1 (fun j i h => xw_o_sub (by decide +kernel) j i h))⟩
      · exfalso
        omega)
