noncomputable def hx_cn (v a b c d r : Int) : Prop := (v = 0 → r = a) ∧ (v = 1 → r = b) ∧ (v = 2 → r = c) ∧ (v = 3 → r = d) ∧ ((v < 0 ∨ 3 < v) → r = -1)
set_option maxRecDepth 20000 in
set_option maxHeartbeats 20000000 in
theorem xq_fsL {l : Launch} {p : Program} {e : Env} {s : State} {m : MethodId} {args : Array Value} {below : List Frame} {meth : Method} {c : Code} {Q : State → Prop} {D : va_G} {dA : Nat → ClassId} {A : Nat → Prop} {al : List (Nat × Nat)} (C0 : sa_C p s m args c D dA A 6 vwCl sa_Ts cX2_faultsShowing yX2_faultsShowing.cls) (hU : sa_U D vwCl dA s) (hO : tb_Ou A s s.heap) (hKL : al.map Prod.snd = tc_KL) {v nm : Nat → Int} {t9 l9 : Int} {μ : xw_M} (hG : xw_G xw_GL μ) (hK : hp_ok v nm) (hE : hx_E v 4 μ) (ht : -2147483648 ≤ t9 ∧ t9 ≤ 2147483647) (hl : -2147483648 ≤ l9 ∧ l9 ≤ 2147483647) (kx : xw_W p l e { frames := 2, cells := 0, slots := 0, locals := 120 } s m args below meth c Q D dA A 6 vwCl tb_KT0 al 0 0 μ 58 [(3, .int (Int32.ofInt ((hx_bs (hx_sp v t9 l9) (v 1).toNat : Nat) : Int)))] []) : ∀ (fu9 : Nat) (k : Nat), ((v 1).toNat : Int) - (k : Int) < (fu9 : Int) → k ≤ (v 1).toNat → xw_W p l e { frames := 2, cells := 0, slots := 0, locals := 120 } s m args below meth c Q D dA A 6 vwCl tb_KT0 al 0 0 μ 5 [(0, .ref (xw_ad al 4)), (1, .int (Int32.ofInt t9)), (2, .int (Int32.ofInt l9)), (3, .int (Int32.ofInt ((hx_bs (hx_sp v t9 l9) k : Nat) : Int))), (4, .int (Int32.ofInt (k : Int)))] [] := by
  intro fu9
  induction fu9 with
  | zero => intro k hm hk; exfalso; omega
  | succ fu9 ih =>
    intro k hm hk
    have k1 := hK.2.1
    have c1 : μ 4 14 = v 1 := hE.1.2.1
    refine xw_iload (pc := 5) C0 4 dX2_faultsShowing_5 rfl ?_
    refine xw_aload_n (pc := 7) C0 0 dX2_faultsShowing_7 rfl rfl ?_
    refine xw_getI (pc := 8) (f := 14) (z := μ 4 14) C0 kcX2 dX2_faultsShowing_8 (by decide +kernel) tv_101 (xj_4 hKL) xk_28 rfl (rfl) (fun g1 k1 => ?_)
    refine xw_icmp_ge (pc := 11) (tgt := 58) C0 (by omega) (by omega) dX2_faultsShowing_11 rfl (fun b2 => ?_) (fun b2 => ?_)
    · have e9 : k = (v 1).toNat := by omega
      subst e9
      refine xw_pk [3] (L' := [(3, .int (Int32.ofInt ((hx_bs (hx_sp v t9 l9) (v 1).toNat : Nat) : Int)))]) rfl ?_
      exact kx
    · refine xw_aload_n (pc := 14) C0 0 dX2_faultsShowing_14 rfl rfl ?_
      refine xw_getR (pc := 15) (f := 8) C0 13 kcX2 dX2_faultsShowing_15 (by decide +kernel) tv_83 (xj_4 hKL) xk_28 rfl ((rfl).trans (xe_4_8 hG)) ?_
      refine xw_iload (pc := 18) C0 4 dX2_faultsShowing_18 rfl ?_
      have a9 : μ 13 ((k : Int)).toNat = v (21 + k) := (hE.2.2.1 k (by omega) (by omega)).1
      refine xw_iald (pc := 20) (z := v (21 + k)) C0 dX2_faultsShowing_20 (xj_13 hKL) xk_37 (by omega) (by decide +kernel) (xw_rl (by omega)) a9 (fun g3 k3 => ?_)
      refine xw_iload_n (pc := 21) C0 1 dX2_faultsShowing_21 rfl rfl ?_
      refine xw_icmp_ne (pc := 22) (tgt := 35) C0 (by omega) (by omega) dX2_faultsShowing_22 rfl (fun b4 => ?_) (fun b4 => ?_)
      · refine xw_bipush (pc := 35) C0 dX2_faultsShowing_35 (by decide +kernel) ?_
        refine xw_istore (pc := 37) (L' := [(5, .int (Int32.ofInt 18)), (0, .ref (xw_ad al 4)), (1, .int (Int32.ofInt t9)), (2, .int (Int32.ofInt l9)), (3, .int (Int32.ofInt ((hx_bs (hx_sp v t9 l9) k : Nat) : Int))), (4, .int (Int32.ofInt (k : Int)))]) C0 dX2_faultsShowing_37 (by decide +kernel) rfl ?_
        refine xw_iload (pc := 39) C0 0 dX2_faultsShowing_39 rfl ?_
        refine xw_iload_n (pc := 41) C0 3 dX2_faultsShowing_41 rfl rfl ?_
        refine xw_icmp_ne (pc := 42) (tgt := 52) C0 (by omega) (by omega) dX2_faultsShowing_42 rfl (fun b5 => ?_) (fun b5 => ?_)
        · refine xw_iinc (pc := 52) (L' := [(4, .int (Int32.ofInt ((k : Int) + 1))), (5, .int (Int32.ofInt 18)), (0, .ref (xw_ad al 4)), (1, .int (Int32.ofInt t9)), (2, .int (Int32.ofInt l9)), (3, .int (Int32.ofInt ((hx_bs (hx_sp v t9 l9) k : Nat) : Int)))]) C0 5 dX2_faultsShowing_52 rfl (by decide +kernel) rfl ?_
          refine xw_goto (pc := 55) (tgt := 5) C0 dX2_faultsShowing_55 rfl ?_
          have e3 : hx_bs (hx_sp v t9 l9) (k + 1) = hx_bs (hx_sp v t9 l9) k := by
            rw [hx_bse]
            have e4 : ¬ (if v (21 + k) = t9 then v (45 + k) else (18 : Int)) = l9 := by
              first
              | rw [if_pos (by omega)]; omega
              | rw [if_neg (by omega)]; omega
            rw [if_neg (show ¬ hx_sp v t9 l9 k = true by rw [show hx_sp v t9 l9 k = false from decide_eq_false e4]; decide), Nat.add_zero]
          have e1 : (k : Int) + 1 = ((k + 1 : Nat) : Int) := by omega
          rw [e1, ← e3]
          refine xw_pk [2, 3, 4, 5, 0] (L' := [(0, .ref (xw_ad al 4)), (1, .int (Int32.ofInt t9)), (2, .int (Int32.ofInt l9)), (3, .int (Int32.ofInt ((hx_bs (hx_sp v t9 l9) (k + 1) : Nat) : Int))), (4, .int (Int32.ofInt ((k + 1 : Nat) : Int)))]) rfl ?_
          exact ih (k + 1) (by omega) (by omega)
        · refine xw_iload_n (pc := 45) C0 4 dX2_faultsShowing_45 rfl rfl ?_
          refine xw_iconst (pc := 46) C0 dX2_faultsShowing_46 ?_
          refine xw_iload (pc := 47) C0 5 dX2_faultsShowing_47 rfl ?_
          refine xw_ishl (pc := 49) C0 dX2_faultsShowing_49 (xb_shN (f := k) (by omega)) ?_
          refine xw_ior (pc := 50) C0 dX2_faultsShowing_50 (xb_orB (p := (hx_sp v t9 l9)) (by omega)) ?_
          refine xw_istore_n (pc := 51) (L' := [(3, .int (Int32.ofInt ((hx_bs (hx_sp v t9 l9) k + 2 ^ k : Nat) : Int))), (5, .int (Int32.ofInt 18)), (0, .ref (xw_ad al 4)), (1, .int (Int32.ofInt t9)), (2, .int (Int32.ofInt l9)), (4, .int (Int32.ofInt (k : Int)))]) C0 dX2_faultsShowing_51 rfl (by decide +kernel) rfl ?_
          refine xw_iinc (pc := 52) (L' := [(4, .int (Int32.ofInt ((k : Int) + 1))), (3, .int (Int32.ofInt ((hx_bs (hx_sp v t9 l9) k + 2 ^ k : Nat) : Int))), (5, .int (Int32.ofInt 18)), (0, .ref (xw_ad al 4)), (1, .int (Int32.ofInt t9)), (2, .int (Int32.ofInt l9))]) C0 5 dX2_faultsShowing_52 rfl (by decide +kernel) rfl ?_
          refine xw_goto (pc := 55) (tgt := 5) C0 dX2_faultsShowing_55 rfl ?_
          have e3 : hx_bs (hx_sp v t9 l9) (k + 1) = hx_bs (hx_sp v t9 l9) k + 2 ^ k := by
            rw [hx_bse]
            have e4 : (if v (21 + k) = t9 then v (45 + k) else (18 : Int)) = l9 := by
              first
              | rw [if_pos (by omega)]; omega
              | rw [if_neg (by omega)]; omega
            rw [if_pos (show hx_sp v t9 l9 k = true from decide_eq_true e4)]
          have e1 : (k : Int) + 1 = ((k + 1 : Nat) : Int) := by omega
          rw [e1, ← e3]
          refine xw_pk [3, 4, 5, 1, 0] (L' := [(0, .ref (xw_ad al 4)), (1, .int (Int32.ofInt t9)), (2, .int (Int32.ofInt l9)), (3, .int (Int32.ofInt ((hx_bs (hx_sp v t9 l9) (k + 1) : Nat) : Int))), (4, .int (Int32.ofInt ((k + 1 : Nat) : Int)))]) rfl ?_
          exact ih (k + 1) (by omega) (by omega)
      · refine xw_aload_n (pc := 25) C0 0 dX2_faultsShowing_25 rfl rfl ?_
        refine xw_getR (pc := 26) (f := 11) C0 16 kcX2 dX2_faultsShowing_26 (by decide +kernel) tv_92 (xj_4 hKL) xk_28 rfl ((rfl).trans (xe_4_11 hG)) ?_
        refine xw_iload (pc := 29) C0 4 dX2_faultsShowing_29 rfl ?_
        have a9 : μ 16 ((k : Int)).toNat = v (45 + k) := (hE.2.2.1 k (by omega) (by omega)).2.2.2
        refine xw_iald (pc := 31) (z := v (45 + k)) C0 dX2_faultsShowing_31 (xj_16 hKL) xk_40 (by omega) (by decide +kernel) (xw_rl (by omega)) a9 (fun g6 k6 => ?_)
        refine xw_goto (pc := 32) (tgt := 37) C0 dX2_faultsShowing_32 rfl ?_
        refine xw_istore (pc := 37) (L' := [(5, .int (Int32.ofInt (v (45 + k)))), (0, .ref (xw_ad al 4)), (1, .int (Int32.ofInt t9)), (2, .int (Int32.ofInt l9)), (3, .int (Int32.ofInt ((hx_bs (hx_sp v t9 l9) k : Nat) : Int))), (4, .int (Int32.ofInt (k : Int)))]) C0 dX2_faultsShowing_37 (by decide +kernel) rfl ?_
        refine xw_iload (pc := 39) C0 0 dX2_faultsShowing_39 rfl ?_
        refine xw_iload_n (pc := 41) C0 3 dX2_faultsShowing_41 rfl rfl ?_
        refine xw_icmp_ne (pc := 42) (tgt := 52) C0 (by omega) (by omega) dX2_faultsShowing_42 rfl (fun b7 => ?_) (fun b7 => ?_)
        · refine xw_iinc (pc := 52) (L' := [(4, .int (Int32.ofInt ((k : Int) + 1))), (5, .int (Int32.ofInt (v (45 + k)))), (0, .ref (xw_ad al 4)), (1, .int (Int32.ofInt t9)), (2, .int (Int32.ofInt l9)), (3, .int (Int32.ofInt ((hx_bs (hx_sp v t9 l9) k : Nat) : Int)))]) C0 5 dX2_faultsShowing_52 rfl (by decide +kernel) rfl ?_
          refine xw_goto (pc := 55) (tgt := 5) C0 dX2_faultsShowing_55 rfl ?_
          have e3 : hx_bs (hx_sp v t9 l9) (k + 1) = hx_bs (hx_sp v t9 l9) k := by
            rw [hx_bse]
            have e4 : ¬ (if v (21 + k) = t9 then v (45 + k) else (18 : Int)) = l9 := by
              first
              | rw [if_pos (by omega)]; omega
              | rw [if_neg (by omega)]; omega
            rw [if_neg (show ¬ hx_sp v t9 l9 k = true by rw [show hx_sp v t9 l9 k = false from decide_eq_false e4]; decide), Nat.add_zero]
          have e1 : (k : Int) + 1 = ((k + 1 : Nat) : Int) := by omega
          rw [e1, ← e3]
          refine xw_pk [2, 3, 4, 5, 0] (L' := [(0, .ref (xw_ad al 4)), (1, .int (Int32.ofInt t9)), (2, .int (Int32.ofInt l9)), (3, .int (Int32.ofInt ((hx_bs (hx_sp v t9 l9) (k + 1) : Nat) : Int))), (4, .int (Int32.ofInt ((k + 1 : Nat) : Int)))]) rfl ?_
          exact ih (k + 1) (by omega) (by omega)
        · refine xw_iload_n (pc := 45) C0 4 dX2_faultsShowing_45 rfl rfl ?_
          refine xw_iconst (pc := 46) C0 dX2_faultsShowing_46 ?_
          refine xw_iload (pc := 47) C0 5 dX2_faultsShowing_47 rfl ?_
          refine xw_ishl (pc := 49) C0 dX2_faultsShowing_49 (xb_shN (f := k) (by omega)) ?_
          refine xw_ior (pc := 50) C0 dX2_faultsShowing_50 (xb_orB (p := (hx_sp v t9 l9)) (by omega)) ?_
          refine xw_istore_n (pc := 51) (L' := [(3, .int (Int32.ofInt ((hx_bs (hx_sp v t9 l9) k + 2 ^ k : Nat) : Int))), (5, .int (Int32.ofInt (v (45 + k)))), (0, .ref (xw_ad al 4)), (1, .int (Int32.ofInt t9)), (2, .int (Int32.ofInt l9)), (4, .int (Int32.ofInt (k : Int)))]) C0 dX2_faultsShowing_51 rfl (by decide +kernel) rfl ?_
          refine xw_iinc (pc := 52) (L' := [(4, .int (Int32.ofInt ((k : Int) + 1))), (3, .int (Int32.ofInt ((hx_bs (hx_sp v t9 l9) k + 2 ^ k : Nat) : Int))), (5, .int (Int32.ofInt (v (45 + k)))), (0, .ref (xw_ad al 4)), (1, .int (Int32.ofInt t9)), (2, .int (Int32.ofInt l9))]) C0 5 dX2_faultsShowing_52 rfl (by decide +kernel) rfl ?_
          refine xw_goto (pc := 55) (tgt := 5) C0 dX2_faultsShowing_55 rfl ?_
          have e3 : hx_bs (hx_sp v t9 l9) (k + 1) = hx_bs (hx_sp v t9 l9) k + 2 ^ k := by
            rw [hx_bse]
            have e4 : (if v (21 + k) = t9 then v (45 + k) else (18 : Int)) = l9 := by
              first
              | rw [if_pos (by omega)]; omega
              | rw [if_neg (by omega)]; omega
            rw [if_pos (show hx_sp v t9 l9 k = true from decide_eq_true e4)]
          have e1 : (k : Int) + 1 = ((k + 1 : Nat) : Int) := by omega
          rw [e1, ← e3]
          refine xw_pk [3, 4, 5, 1, 0] (L' := [(0, .ref (xw_ad al 4)), (1, .int (Int32.ofInt t9)), (2, .int (Int32.ofInt l9)), (3, .int (Int32.ofInt ((hx_bs (hx_sp v t9 l9) (k + 1) : Nat) : Int))), (4, .int (Int32.ofInt ((k + 1 : Nat) : Int)))]) rfl ?_
          exact ih (k + 1) (by omega) (by omega)
set_option maxRecDepth 20000 in
set_option maxHeartbeats 20000000 in
theorem xq_faultsShowing {l : Launch} {v nm : Nat → Int} {t9 l9 : Int} {μ : xw_M} (hG : xw_G xw_GL μ) (hK : hp_ok v nm) (hE : hx_E v 4 μ) (ht : -2147483648 ≤ t9 ∧ t9 ≤ 2147483647) (hl : -2147483648 ≤ l9 ∧ l9 ≤ 2147483647) : xw_MetI l vwCl sa_Ts tb_KT0 tc_KL yX2_faultsShowing cX2_faultsShowing 6 (some .int) 2 120 (fun ad => [.ref (ad 4), .int (Int32.ofInt t9), .int (Int32.ofInt l9)]) μ (fun r μ' => μ = μ' ∧ r = ((hx_bs (hx_sp v t9 l9) (v 1).toNat : Nat) : Int)) :=
  xw_of (by decide +kernel) (fun _ => Nat.le_of_ble_eq_true rfl) (fun p e s m args below meth c D dA A al w0 sz C0 hU hO hKL hr hlk hA => by
    refine xw_iconst (pc := 0) C0 dX2_faultsShowing_0 ?_
    refine xw_istore_n (pc := 1) (L' := [(3, .int (Int32.ofInt 0)), (0, .ref (xw_ad al 4)), (1, .int (Int32.ofInt t9)), (2, .int (Int32.ofInt l9))]) C0 dX2_faultsShowing_1 rfl (by decide +kernel) rfl ?_
    refine xw_iconst (pc := 2) C0 dX2_faultsShowing_2 ?_
    refine xw_istore (pc := 3) (L' := [(4, .int (Int32.ofInt 0)), (3, .int (Int32.ofInt 0)), (0, .ref (xw_ad al 4)), (1, .int (Int32.ofInt t9)), (2, .int (Int32.ofInt l9))]) C0 dX2_faultsShowing_3 (by decide +kernel) rfl ?_
    have k1 := hK.2.1
    refine xw_pk [2, 3, 4, 1, 0] (L' := [(0, .ref (xw_ad al 4)), (1, .int (Int32.ofInt t9)), (2, .int (Int32.ofInt l9)), (3, .int (Int32.ofInt ((hx_bs (hx_sp v t9 l9) 0 : Nat) : Int))), (4, .int (Int32.ofInt ((0 : Nat) : Int)))]) rfl ?_
    refine xq_fsL (v := v) (nm := nm) (t9 := t9) (l9 := l9) (μ := μ) C0 hU hO hKL hG hK hE ht hl ?_ 9 0 (by omega) (Nat.zero_le _)
    refine xw_iload_n (pc := 58) C0 0 dX2_faultsShowing_58 rfl rfl ?_
    refine xw_iret C0 hA hr hlk rfl dX2_faultsShowing_59 ?_
    exact ⟨_, rfl, rfl, rfl⟩)
set_option maxRecDepth 20000 in
set_option maxHeartbeats 20000000 in
theorem xq_lookingLike {l : Launch} {v nm : Nat → Int} {F : Nat} {μ : xw_M} (hG : xw_G xw_GL μ) (hK : hp_ok v nm) (hE : hx_E v 4 μ) (hF : F < (v 1).toNat) : xw_MetI l vwCl sa_Ts tb_KT0 tc_KL yX2_lookingLike cX2_lookingLike 2 (some .int) 3 145 (fun ad => [.ref (ad 4), .int (Int32.ofInt (F : Int))]) μ (fun r μ' => μ = μ' ∧ r = ((hx_bs (hx_al v F) (v 1).toNat : Nat) : Int)) :=
  xw_of (by decide +kernel) (fun _ => Nat.le_of_ble_eq_true rfl) (fun p e s m args below meth c D dA A al w0 sz C0 hU hO hKL hr hlk hA => by
    have k0 := hK.1
    have k1 := hK.2.1
    have h8 := (hK.2.2.2.2.2 F (by omega) (by omega)).1
    refine xw_aload_n (pc := 0) C0 0 dX2_lookingLike_0 rfl rfl ?_
    refine xw_getR (pc := 1) (f := 6) C0 11 kcX2 dX2_lookingLike_1 (by decide +kernel) tv_78 (xj_4 hKL) xk_28 rfl ((rfl).trans (xe_4_6 hG)) ?_
    refine xw_aload_n (pc := 4) C0 0 dX2_lookingLike_4 rfl rfl ?_
    refine xw_getR (pc := 5) (f := 8) C0 13 kcX2 dX2_lookingLike_5 (by decide +kernel) tv_83 (xj_4 hKL) xk_28 rfl ((rfl).trans (xe_4_8 hG)) ?_
    refine xw_iload_n (pc := 8) C0 1 dX2_lookingLike_8 rfl rfl ?_
    have a1 : μ 13 ((F : Int)).toNat = v (21 + F) := (hE.2.2.1 F (by omega) (by omega)).1
    refine xw_iald (pc := 9) (z := v (21 + F)) C0 dX2_lookingLike_9 (xj_13 hKL) xk_37 (by omega) (by decide +kernel) (xw_rl (by omega)) a1 (fun g1 k1 => ?_)
    have o9 : μ 11 (v (21 + F)).toNat = hx_fo v (v (21 + F)).toNat (v 1).toNat := (hE.2.2.2.2 (v (21 + F)).toNat (by omega) (by omega)).2
    refine xw_iald (pc := 10) (z := hx_fo v (v (21 + F)).toNat (v 1).toNat) C0 dX2_lookingLike_10 (xj_11 hKL) xk_35 (by omega) (by decide +kernel) (xw_rl (by omega)) o9 (fun g2 k2 => ?_)
    refine xw_aload_n (pc := 11) C0 0 dX2_lookingLike_11 rfl rfl ?_
    refine xw_aload_n (pc := 12) C0 0 dX2_lookingLike_12 rfl rfl ?_
    refine xw_getR (pc := 13) (f := 8) C0 13 kcX2 dX2_lookingLike_13 (by decide +kernel) tv_83 (xj_4 hKL) xk_28 rfl ((rfl).trans (xe_4_8 hG)) ?_
    refine xw_iload_n (pc := 16) C0 1 dX2_lookingLike_16 rfl rfl ?_
    have a3 : μ 13 ((F : Int)).toNat = v (21 + F) := (hE.2.2.1 F (by omega) (by omega)).1
    refine xw_iald (pc := 17) (z := v (21 + F)) C0 dX2_lookingLike_17 (xj_13 hKL) xk_37 (by omega) (by decide +kernel) (xw_rl (by omega)) a3 (fun g3 k3 => ?_)
    refine xw_aload_n (pc := 18) C0 0 dX2_lookingLike_18 rfl rfl ?_
    refine xw_getR (pc := 19) (f := 11) C0 16 kcX2 dX2_lookingLike_19 (by decide +kernel) tv_92 (xj_4 hKL) xk_28 rfl ((rfl).trans (xe_4_11 hG)) ?_
    refine xw_iload_n (pc := 22) C0 1 dX2_lookingLike_22 rfl rfl ?_
    have a4 : μ 16 ((F : Int)).toNat = v (45 + F) := (hE.2.2.1 F (by omega) (by omega)).2.2.2
    refine xw_iald (pc := 23) (z := v (45 + F)) C0 dX2_lookingLike_23 (xj_16 hKL) xk_40 (by omega) (by decide +kernel) (xw_rl (by omega)) a4 (fun g4 k4 => ?_)
    refine xw_callVI (pc := 24) (μ := μ) (ci := 2) (rest := [.int (Int32.ofInt (hx_fo v (v (21 + F)).toNat (v 1).toNat))]) (As := [.int (Int32.ofInt (v (21 + F))), .int (Int32.ofInt (v (45 + F)))]) C0 hU hO sa_Tg hKL (xq_faultsShowing (l := l) (v := v) (nm := nm) (t9 := v (21 + F)) (l9 := v (45 + F)) hG hK hE (by omega) (by omega)) tv_787 dX2_lookingLike_24 tv_820 tv_785 tv_786 tv_4 rfl yb_X2_faultsShowing (by decide +kernel) rfl rfl rfl (by decide +kernel) (Nat.le_of_ble_eq_true rfl) (xj_4 hKL) xk_28 (fun r5 m5 w5 => ?_)
    obtain ⟨rfl, rfl⟩ := w5
    have f9 : hx_fo v (v (21 + F)).toNat (v 1).toNat = ((hx_bs (fun j => decide (v (21 + j) = (((v (21 + F)).toNat : Nat) : Int))) (v 1).toNat : Nat) : Int) := hx_fob _
    have n9 : Int32.ofInt (hx_fo v (v (21 + F)).toNat (v 1).toNat) &&& Int32.ofInt (((hx_bs (hx_sp v (v (21 + F)) (v (45 + F))) (v 1).toNat : Nat) : Int)) = Int32.ofInt ((hx_bs (hx_al v F) (v 1).toNat : Nat) : Int) := by
      rw [f9, xb_anN (hx_b8 (by omega)) (hx_b8 (by omega)), hx_bsA]
      refine congrArg (fun n : Nat => Int32.ofInt (n : Int)) (hx_bsC _ (fun j hj => ?_))
      have hs := (hK.2.2.2.2.2 F (by omega) (by omega)).2.2.2.1
      unfold hx_sp hx_al
      by_cases q : v (21 + j) = v (21 + F)
      · rw [if_pos q, decide_eq_true q, decide_eq_true (show v (21 + j) = (((v (21 + F)).toNat : Nat) : Int) by omega)]
      · rw [if_neg q, decide_eq_false q, decide_eq_false (show ¬ v (21 + j) = (((v (21 + F)).toNat : Nat) : Int) by omega)]
        rfl
    refine xw_iand (pc := 27) C0 dX2_lookingLike_27 n9 ?_
    refine xw_iret C0 hA hr hlk rfl dX2_lookingLike_28 ?_
    exact ⟨_, rfl, rfl, rfl⟩)
set_option maxRecDepth 20000 in
set_option maxHeartbeats 20000000 in
theorem xr_areAlike {l : Launch} {v nm : Nat → Int} {F G : Nat} {μ : xw_M} (hG : xw_G xw_GL μ) (hK : hp_ok v nm) (hN : ∀ k : Nat, k < 77 → μ 202 k = v k) (hF : F < 8) (hG9 : G < 8) : xw_MetI l vwCl sa_Ts tb_KT0 tc_KL yX12_areAlike cX12_areAlike 3 (some .boolean) 2 120 (fun ad => [.ref (ad 200), .int (Int32.ofInt (F : Int)), .int (Int32.ofInt (G : Int))]) μ (fun r μ' => μ = μ' ∧ ((hx_al v F G = true ∧ r = 1) ∨ (hx_al v F G = false ∧ r = 0))) :=
  xw_of (by decide +kernel) (fun _ => Nat.le_of_ble_eq_true rfl) (fun p e s m args below meth c D dA A al w0 sz C0 hU hO hKL hr hlk hA => by
    refine xw_aload_n (pc := 0) C0 0 dX12_areAlike_0 rfl rfl ?_
    refine xw_getR (pc := 1) (f := 14) C0 202 kcX12 dX12_areAlike_1 (by decide +kernel) tv_1275 (xj_200 hKL) xk_0 rfl ((rfl).trans (xe_200_14 hG)) ?_
    refine xw_bipush (pc := 4) C0 dX12_areAlike_4 (by decide +kernel) ?_
    refine xw_iload_n (pc := 6) C0 1 dX12_areAlike_6 rfl rfl ?_
    refine xw_iadd (pc := 7) C0 dX12_areAlike_7 ?_
    refine xw_nI (pc := 8) (congrArg Int32.ofInt (show 21 + (F : Int) = ((21 + F : Nat) : Int) by omega)) ?_
    obtain ⟨lo1, hi1, rl1, bl1, bh1⟩ := hx_n379 ⟨21 + F, by omega⟩
    refine xw_iald (pc := 8) (z := v (21 + F)) C0 dX12_areAlike_8 (xj_202 hKL) xk_1 (by omega) (by decide +kernel) rl1 (hN (21 + F) (by omega)) (fun g1 k1 => ?_)
    refine xw_aload_n (pc := 9) C0 0 dX12_areAlike_9 rfl rfl ?_
    refine xw_getR (pc := 10) (f := 14) C0 202 kcX12 dX12_areAlike_10 (by decide +kernel) tv_1275 (xj_200 hKL) xk_0 rfl ((rfl).trans (xe_200_14 hG)) ?_
    refine xw_bipush (pc := 13) C0 dX12_areAlike_13 (by decide +kernel) ?_
    refine xw_iload_n (pc := 15) C0 2 dX12_areAlike_15 rfl rfl ?_
    refine xw_iadd (pc := 16) C0 dX12_areAlike_16 ?_
    refine xw_nI (pc := 17) (congrArg Int32.ofInt (show 21 + (G : Int) = ((21 + G : Nat) : Int) by omega)) ?_
    obtain ⟨lo2, hi2, rl2, bl2, bh2⟩ := hx_n379 ⟨21 + G, by omega⟩
    refine xw_iald (pc := 17) (z := v (21 + G)) C0 dX12_areAlike_17 (xj_202 hKL) xk_1 (by omega) (by decide +kernel) rl2 (hN (21 + G) (by omega)) (fun g2 k2 => ?_)
    refine xw_icmp_ne (pc := 18) (tgt := 46) C0 (by omega) (by omega) dX12_areAlike_18 rfl (fun b3 => ?_) (fun b3 => ?_)
    · refine xw_iconst (pc := 46) C0 dX12_areAlike_46 ?_
      refine xw_iret C0 hA hr hlk rfl dX12_areAlike_47 ?_
      exact ⟨_, rfl, rfl, Or.inr ⟨by unfold hx_al; first | (rw [decide_eq_false (show ¬ v (21 + G) = v (21 + F) by omega)]; rfl) | (rw [decide_eq_false (show ¬ v (45 + G) = v (45 + F) by omega), Bool.and_false]), rfl⟩⟩
    · refine xw_aload_n (pc := 21) C0 0 dX12_areAlike_21 rfl rfl ?_
      refine xw_getR (pc := 22) (f := 14) C0 202 kcX12 dX12_areAlike_22 (by decide +kernel) tv_1275 (xj_200 hKL) xk_0 rfl ((rfl).trans (xe_200_14 hG)) ?_
      refine xw_bipush (pc := 25) C0 dX12_areAlike_25 (by decide +kernel) ?_
      refine xw_iload_n (pc := 27) C0 1 dX12_areAlike_27 rfl rfl ?_
      refine xw_iadd (pc := 28) C0 dX12_areAlike_28 ?_
      refine xw_nI (pc := 29) (congrArg Int32.ofInt (show 45 + (F : Int) = ((45 + F : Nat) : Int) by omega)) ?_
      obtain ⟨lo4, hi4, rl4, bl4, bh4⟩ := hx_n379 ⟨45 + F, by omega⟩
      refine xw_iald (pc := 29) (z := v (45 + F)) C0 dX12_areAlike_29 (xj_202 hKL) xk_1 (by omega) (by decide +kernel) rl4 (hN (45 + F) (by omega)) (fun g4 k4 => ?_)
      refine xw_aload_n (pc := 30) C0 0 dX12_areAlike_30 rfl rfl ?_
      refine xw_getR (pc := 31) (f := 14) C0 202 kcX12 dX12_areAlike_31 (by decide +kernel) tv_1275 (xj_200 hKL) xk_0 rfl ((rfl).trans (xe_200_14 hG)) ?_
      refine xw_bipush (pc := 34) C0 dX12_areAlike_34 (by decide +kernel) ?_
      refine xw_iload_n (pc := 36) C0 2 dX12_areAlike_36 rfl rfl ?_
      refine xw_iadd (pc := 37) C0 dX12_areAlike_37 ?_
      refine xw_nI (pc := 38) (congrArg Int32.ofInt (show 45 + (G : Int) = ((45 + G : Nat) : Int) by omega)) ?_
      obtain ⟨lo5, hi5, rl5, bl5, bh5⟩ := hx_n379 ⟨45 + G, by omega⟩
      refine xw_iald (pc := 38) (z := v (45 + G)) C0 dX12_areAlike_38 (xj_202 hKL) xk_1 (by omega) (by decide +kernel) rl5 (hN (45 + G) (by omega)) (fun g5 k5 => ?_)
      refine xw_icmp_ne (pc := 39) (tgt := 46) C0 (by omega) (by omega) dX12_areAlike_39 rfl (fun b6 => ?_) (fun b6 => ?_)
      · refine xw_iconst (pc := 46) C0 dX12_areAlike_46 ?_
        refine xw_iret C0 hA hr hlk rfl dX12_areAlike_47 ?_
        exact ⟨_, rfl, rfl, Or.inr ⟨by unfold hx_al; first | (rw [decide_eq_false (show ¬ v (21 + G) = v (21 + F) by omega)]; rfl) | (rw [decide_eq_false (show ¬ v (45 + G) = v (45 + F) by omega), Bool.and_false]), rfl⟩⟩
      · refine xw_iconst (pc := 42) C0 dX12_areAlike_42 ?_
        refine xw_goto (pc := 43) (tgt := 47) C0 dX12_areAlike_43 rfl ?_
        refine xw_iret C0 hA hr hlk rfl dX12_areAlike_47 ?_
        exact ⟨_, rfl, rfl, Or.inl ⟨by unfold hx_al; rw [decide_eq_true (show v (21 + G) = v (21 + F) by omega), decide_eq_true (show v (45 + G) = v (45 + F) by omega)]; rfl, rfl⟩⟩)
set_option maxRecDepth 20000 in
set_option maxHeartbeats 20000000 in
theorem xh_isFault {l : Launch} {μ : xw_M} {v : Int} (hG : xw_G xw_GL μ) (hr9 : -2147483648 ≤ v ∧ v ≤ 2147483647) : xw_MetI l vwCl sa_Ts tb_KT0 tc_KL yX11_isFault cX11_isFault 2 (some .boolean) 2 120 (fun ad => [.ref (ad 0), .int (Int32.ofInt v)]) μ (fun r μ' => μ = μ' ∧ (((0 ≤ v ∧ v < μ 4 14) ∧ r = 1) ∨ (¬ (0 ≤ v ∧ v < μ 4 14) ∧ r = 0))) :=
  xw_of (by decide +kernel) (fun _ => Nat.le_of_ble_eq_true rfl) (fun p e s m args below meth c D dA A al w0 sz C0 hU hO hKL hr hlk hA => by
    refine xw_iload_n (pc := 0) C0 1 dX11_isFault_0 rfl rfl ?_
    refine xw_if_lt (pc := 1) (tgt := 22) C0 (by omega) dX11_isFault_1 rfl (fun b1 => ?_) (fun b1 => ?_)
    · refine xw_iconst (pc := 22) C0 dX11_isFault_22 ?_
      refine xw_iret C0 hA hr hlk rfl dX11_isFault_23 ?_
      exact ⟨_, rfl, rfl, Or.inr ⟨by omega, rfl⟩⟩
    · refine xw_iload_n (pc := 4) C0 1 dX11_isFault_4 rfl rfl ?_
      refine xw_aload_n (pc := 5) C0 0 dX11_isFault_5 rfl rfl ?_
      refine xw_getR (pc := 6) (f := 1) C0 3 kcX11 dX11_isFault_6 (by decide +kernel) tv_423 (xj_0 hKL) xk_27 rfl ((rfl).trans (xe_0_1 hG)) ?_
      refine xw_getR (pc := 9) (f := 0) C0 4 kcX10 dX11_isFault_9 (by decide +kernel) tv_234 (xj_3 hKL) xk_24 rfl ((rfl).trans (xe_3_0 hG)) ?_
      refine xw_getI (pc := 12) (f := 14) (z := μ 4 14) C0 kcX2 dX11_isFault_12 (by decide +kernel) tv_104 (xj_4 hKL) xk_28 rfl (rfl) (fun g2 k2 => ?_)
      refine xw_icmp_ge (pc := 15) (tgt := 22) C0 (by omega) (by omega) dX11_isFault_15 rfl (fun b3 => ?_) (fun b3 => ?_)
      · refine xw_iconst (pc := 22) C0 dX11_isFault_22 ?_
        refine xw_iret C0 hA hr hlk rfl dX11_isFault_23 ?_
        exact ⟨_, rfl, rfl, Or.inr ⟨by omega, rfl⟩⟩
      · refine xw_iconst (pc := 18) C0 dX11_isFault_18 ?_
        refine xw_goto (pc := 19) (tgt := 23) C0 dX11_isFault_19 rfl ?_
        refine xw_iret C0 hA hr hlk rfl dX11_isFault_23 ?_
        exact ⟨_, rfl, rfl, Or.inl ⟨by omega, rfl⟩⟩)
set_option maxRecDepth 20000 in
set_option maxHeartbeats 20000000 in
theorem xr_isFault {l : Launch} {μ : xw_M} {v : Int} (hG : xw_G xw_GL μ) (hr9 : -2147483648 ≤ v ∧ v ≤ 2147483647) : xw_MetI l vwCl sa_Ts tb_KT0 tc_KL yX12_isFault cX12_isFault 2 (some .boolean) 3 142 (fun ad => [.ref (ad 200), .int (Int32.ofInt v)]) μ (fun r μ' => μ = μ' ∧ (((0 ≤ v ∧ v < μ 202 1) ∧ r = 1) ∨ (¬ (0 ≤ v ∧ v < μ 202 1) ∧ r = 0))) :=
  xw_of (by decide +kernel) (fun _ => Nat.le_of_ble_eq_true rfl) (fun p e s m args below meth c D dA A al w0 sz C0 hU hO hKL hr hlk hA => by
    refine xw_iload_n (pc := 0) C0 1 dX12_isFault_0 rfl rfl ?_
    refine xw_iconst (pc := 1) C0 dX12_isFault_1 ?_
    refine xw_aload_n (pc := 2) C0 0 dX12_isFault_2 rfl rfl ?_
    refine xw_getR (pc := 3) (f := 14) C0 202 kcX12 dX12_isFault_3 (by decide +kernel) tv_1275 (xj_200 hKL) xk_0 rfl ((rfl).trans (xe_200_14 hG)) ?_
    refine xw_iconst (pc := 6) C0 dX12_isFault_6 ?_
    refine xw_iald (pc := 7) (z := μ 202 1) C0 dX12_isFault_7 (xj_202 hKL) xk_1 (by omega) (by decide +kernel) rfl (rfl) (fun g1 k1 => ?_)
    refine xw_iconst (pc := 8) C0 dX12_isFault_8 ?_
    refine xw_isub (pc := 9) C0 dX12_isFault_9 ?_
    refine xw_callSI (pc := 10) (μ := μ) (rest := []) (As := [.int (Int32.ofInt v), .int (Int32.ofInt 0), .int (Int32.ofInt ((μ 202 1) - 1))]) C0 hU hO sa_Tg hKL (xm_isIn (l := l) (v := v) (a := 0) (b := (μ 202 1) - 1) (by omega) (by omega) (by omega)) tv_1481 dX12_isFault_10 tv_1479 tv_1480 tv_13 yb_X12_isIn (by decide +kernel) rfl rfl rfl (by decide +kernel) (Nat.le_of_ble_eq_true rfl) (fun r2 m2 w2 => ?_)
    obtain ⟨rfl, w2⟩ := w2
    rcases w2 with ⟨w2, rfl⟩ | ⟨w2, rfl⟩
    · refine xw_iret C0 hA hr hlk rfl dX12_isFault_13 ?_
      exact ⟨_, rfl, rfl, Or.inl ⟨by omega, rfl⟩⟩
    · refine xw_iret C0 hA hr hlk rfl dX12_isFault_13 ?_
      exact ⟨_, rfl, rfl, Or.inr ⟨by omega, rfl⟩⟩)
set_option maxRecDepth 20000 in
set_option maxHeartbeats 20000000 in
theorem xh_alikeV {l : Launch} {v nm : Nat → Int} {v9 : Int} {μ : xw_M} (hG : xw_G xw_GL μ) (hr9 : -2147483648 ≤ v9 ∧ v9 ≤ 2147483647) (hK : hp_ok v nm) (hE : hx_E v 4 μ) : xw_MetI l vwCl sa_Ts tb_KT0 tc_KL yX11_alike cX11_alike 2 (some .int) 4 166 (fun ad => [.ref (ad 0), .int (Int32.ofInt v9)]) μ (fun r μ' => μ = μ' ∧ (((0 ≤ v9 ∧ v9 < v 1) ∧ r = ((hx_bs (fun j => hx_al v v9.toNat j && !(Nat.beq j v9.toNat)) (v 1).toNat : Nat) : Int)) ∨ (¬ (0 ≤ v9 ∧ v9 < v 1) ∧ r = -1))) :=
  xw_of (by decide +kernel) (fun _ => Nat.le_of_ble_eq_true rfl) (fun p e s m args below meth c D dA A al w0 sz C0 hU hO hKL hr hlk hA => by
    have k1 := hK.2.1
    have c1 : μ 4 14 = v 1 := hE.1.2.1
    refine xw_aload_n (pc := 0) C0 0 dX11_alike_0 rfl rfl ?_
    refine xw_iload_n (pc := 1) C0 1 dX11_alike_1 rfl rfl ?_
    refine xw_callVI (pc := 2) (μ := μ) (ci := 11) (rest := []) (As := [.int (Int32.ofInt v9)]) C0 hU hO sa_Tg hKL (xh_isFault (l := l) (v := v9) hG (by omega)) tv_653 dX11_alike_2 tv_650 tv_652 tq_X11_isFault tv_1 rfl yb_X11_isFault (by decide +kernel) rfl rfl rfl (by decide +kernel) (Nat.le_of_ble_eq_true rfl) (xj_0 hKL) xk_27 (fun r1 m1 w1 => ?_)
    obtain ⟨rfl, w1⟩ := w1
    rcases w1 with ⟨w1, rfl⟩ | ⟨w1, rfl⟩
    · refine xw_if_eq (pc := 5) (tgt := 28) C0 (by omega) dX11_alike_5 rfl (fun b2 => ?_) (fun b2 => ?_)
      · exfalso
        omega
      · refine xw_aload_n (pc := 8) C0 0 dX11_alike_8 rfl rfl ?_
        refine xw_getR (pc := 9) (f := 1) C0 3 kcX11 dX11_alike_9 (by decide +kernel) tv_423 (xj_0 hKL) xk_27 rfl ((rfl).trans (xe_0_1 hG)) ?_
        refine xw_getR (pc := 12) (f := 0) C0 4 kcX10 dX11_alike_12 (by decide +kernel) tv_234 (xj_3 hKL) xk_24 rfl ((rfl).trans (xe_3_0 hG)) ?_
        refine xw_iload_n (pc := 15) C0 1 dX11_alike_15 rfl rfl ?_
        obtain ⟨F, hF⟩ : ∃ F : Nat, v9 = (F : Int) := ⟨v9.toNat, by omega⟩
        refine xw_nI (congrArg Int32.ofInt hF) ?_
        refine xw_callVI (pc := 16) (μ := μ) (ci := 2) (rest := []) (As := [.int (Int32.ofInt (F : Int))]) C0 hU hO sa_Tg hKL (xq_lookingLike (l := l) (v := v) (nm := nm) (F := F) hG hK hE (by omega)) tv_819 dX11_alike_16 tv_816 tv_817 tv_818 tv_4 rfl yb_X2_lookingLike (by decide +kernel) rfl rfl rfl (by decide +kernel) (Nat.le_of_ble_eq_true rfl) (xj_4 hKL) xk_28 (fun r3 m3 w3 => ?_)
        obtain ⟨rfl, rfl⟩ := w3
        refine xw_iconst (pc := 19) C0 dX11_alike_19 ?_
        refine xw_iload_n (pc := 20) C0 1 dX11_alike_20 rfl rfl ?_
        refine xw_nI (pc := 21) (congrArg Int32.ofInt hF) ?_
        refine xw_ishl (pc := 21) C0 dX11_alike_21 (xb_shN (f := F) (by omega)) ?_
        refine xw_iconst (pc := 22) C0 dX11_alike_22 ?_
        obtain ⟨y9, hy9, iy9⟩ := xb_wi (Int32.ofInt (2 ^ F) ^^^ Int32.ofInt (-1))
        refine xw_ixor (pc := 23) C0 dX11_alike_23 iy9 ?_
        have n9 : Int32.ofInt ((hx_bs (hx_al v F) (v 1).toNat : Nat) : Int) &&& Int32.ofInt y9 = Int32.ofInt ((hx_bs (fun j => hx_al v F j && !(Nat.beq j F)) (v 1).toNat : Nat) : Int) := by
          rw [← iy9, xb_ntB (hx_b8 (by omega)) (by omega), hx_ntA (by omega)]
        refine xw_iand (pc := 24) C0 dX11_alike_24 n9 ?_
        refine xw_goto (pc := 25) (tgt := 29) C0 dX11_alike_25 rfl ?_
        refine xw_iret C0 hA hr hlk rfl dX11_alike_29 ?_
        have e8 : v9.toNat = F := by omega
        exact ⟨_, rfl, rfl, Or.inl ⟨by omega, by rw [e8]⟩⟩
    · refine xw_if_eq (pc := 5) (tgt := 28) C0 (by omega) dX11_alike_5 rfl (fun b4 => ?_) (fun b4 => ?_)
      · refine xw_iconst (pc := 28) C0 dX11_alike_28 ?_
        refine xw_iret C0 hA hr hlk rfl dX11_alike_29 ?_
        exact ⟨_, rfl, rfl, Or.inr ⟨by omega, rfl⟩⟩
      · exfalso
        omega)
set_option maxRecDepth 20000 in
set_option maxHeartbeats 20000000 in
theorem xr_alL {l : Launch} {p : Program} {e : Env} {s : State} {m : MethodId} {args : Array Value} {below : List Frame} {meth : Method} {c : Code} {Q : State → Prop} {D : va_G} {dA : Nat → ClassId} {A : Nat → Prop} {al : List (Nat × Nat)} (C0 : sa_C p s m args c D dA A 4 vwCl sa_Ts cX12_alike yX12_alike.cls) (hU : sa_U D vwCl dA s) (hO : tb_Ou A s s.heap) (hKL : al.map Prod.snd = tc_KL) {v nm : Nat → Int} {F : Nat} {μ : xw_M} (hG : xw_G xw_GL μ) (hK : hp_ok v nm) (hN : ∀ k : Nat, k < 77 → μ 202 k = v k) (hF : F < (v 1).toNat) (kx : xw_W p l e { frames := 4, cells := 0, slots := 0, locals := 163 } s m args below meth c Q D dA A 4 vwCl tb_KT0 al 0 0 μ 55 [(2, .int (Int32.ofInt ((hx_bs (fun j => hx_al v F j && !(Nat.beq j F)) (v 1).toNat : Nat) : Int)))] []) : ∀ (fu9 : Nat) (k : Nat), ((v 1).toNat : Int) - (k : Int) < (fu9 : Int) → k ≤ (v 1).toNat → xw_W p l e { frames := 4, cells := 0, slots := 0, locals := 163 } s m args below meth c Q D dA A 4 vwCl tb_KT0 al 0 0 μ 19 [(0, .ref (xw_ad al 200)), (1, .int (Int32.ofInt (F : Int))), (2, .int (Int32.ofInt ((hx_bs (fun j => hx_al v F j && !(Nat.beq j F)) k : Nat) : Int))), (3, .int (Int32.ofInt (k : Int)))] [] := by
  intro fu9
  induction fu9 with
  | zero => intro k hm hk; exfalso; omega
  | succ fu9 ih =>
    intro k hm hk
    have k1 := hK.2.1
    have hn1 : μ 202 1 = v 1 := hN 1 (by decide +kernel)
    refine xw_iload_n (pc := 19) C0 3 dX12_alike_19 rfl rfl ?_
    refine xw_aload_n (pc := 20) C0 0 dX12_alike_20 rfl rfl ?_
    refine xw_getR (pc := 21) (f := 14) C0 202 kcX12 dX12_alike_21 (by decide +kernel) tv_1275 (xj_200 hKL) xk_0 rfl ((rfl).trans (xe_200_14 hG)) ?_
    refine xw_iconst (pc := 24) C0 dX12_alike_24 ?_
    refine xw_iald (pc := 25) (z := v 1) C0 dX12_alike_25 (xj_202 hKL) xk_1 (by omega) (by decide +kernel) rfl hn1 (fun g1 k1 => ?_)
    refine xw_icmp_ge (pc := 26) (tgt := 55) C0 (by omega) (by omega) dX12_alike_26 rfl (fun b2 => ?_) (fun b2 => ?_)
    · have e9 : k = (v 1).toNat := by omega
      subst e9
      refine xw_pk [2] (L' := [(2, .int (Int32.ofInt ((hx_bs (fun j => hx_al v F j && !(Nat.beq j F)) (v 1).toNat : Nat) : Int)))]) rfl ?_
      exact kx
    · refine xw_iload_n (pc := 29) C0 3 dX12_alike_29 rfl rfl ?_
      refine xw_iload_n (pc := 30) C0 1 dX12_alike_30 rfl rfl ?_
      refine xw_icmp_eq (pc := 31) (tgt := 49) C0 (by omega) (by omega) dX12_alike_31 rfl (fun b3 => ?_) (fun b3 => ?_)
      · refine xw_iinc (pc := 49) (L' := [(3, .int (Int32.ofInt ((k : Int) + 1))), (0, .ref (xw_ad al 200)), (1, .int (Int32.ofInt (F : Int))), (2, .int (Int32.ofInt ((hx_bs (fun j => hx_al v F j && !(Nat.beq j F)) k : Nat) : Int)))]) C0 3 dX12_alike_49 rfl (by decide +kernel) rfl ?_
        refine xw_goto (pc := 52) (tgt := 19) C0 dX12_alike_52 rfl ?_
        have e3 : hx_bs (fun j => hx_al v F j && !(Nat.beq j F)) (k + 1) = hx_bs (fun j => hx_al v F j && !(Nat.beq j F)) k := by
          rw [hx_bse]
          have ek : k = F := by omega
          rw [if_neg (show ¬ (hx_al v F k && !(Nat.beq k F)) = true by rw [ek, Nat.beq_refl, Bool.not_true, Bool.and_false]; decide), Nat.add_zero]
        have e1 : (k : Int) + 1 = ((k + 1 : Nat) : Int) := by omega
        rw [e1, ← e3]
        refine xw_pk [1, 2, 3, 0] (L' := [(0, .ref (xw_ad al 200)), (1, .int (Int32.ofInt (F : Int))), (2, .int (Int32.ofInt ((hx_bs (fun j => hx_al v F j && !(Nat.beq j F)) (k + 1) : Nat) : Int))), (3, .int (Int32.ofInt ((k + 1 : Nat) : Int)))]) rfl ?_
        exact ih (k + 1) (by omega) (by omega)
      · refine xw_aload_n (pc := 34) C0 0 dX12_alike_34 rfl rfl ?_
        refine xw_iload_n (pc := 35) C0 1 dX12_alike_35 rfl rfl ?_
        refine xw_iload_n (pc := 36) C0 3 dX12_alike_36 rfl rfl ?_
        refine xw_callVI (pc := 37) (μ := μ) (ci := 12) (rest := []) (As := [.int (Int32.ofInt (F : Int)), .int (Int32.ofInt (k : Int))]) C0 hU hO sa_Tg hKL (xr_areAlike (l := l) (v := v) (nm := nm) (F := F) (G := k) hG hK hN (by omega) (by omega)) tv_1719 dX12_alike_37 tv_1716 tv_1718 tq_X12_areAlike tv_13 rfl yb_X12_areAlike (by decide +kernel) rfl rfl rfl (by decide +kernel) (Nat.le_of_ble_eq_true rfl) (xj_200 hKL) xk_0 (fun r4 m4 w4 => ?_)
        obtain ⟨rfl, w4⟩ := w4
        rcases w4 with ⟨w4, rfl⟩ | ⟨w4, rfl⟩
        · refine xw_if_eq (pc := 40) (tgt := 49) C0 (by omega) dX12_alike_40 rfl (fun b5 => ?_) (fun b5 => ?_)
          · exfalso
            omega
          · refine xw_iload_n (pc := 43) C0 2 dX12_alike_43 rfl rfl ?_
            refine xw_iconst (pc := 44) C0 dX12_alike_44 ?_
            refine xw_iload_n (pc := 45) C0 3 dX12_alike_45 rfl rfl ?_
            refine xw_ishl (pc := 46) C0 dX12_alike_46 (xb_shN (f := k) (by omega)) ?_
            refine xw_ior (pc := 47) C0 dX12_alike_47 (xb_orB (p := (fun j => hx_al v F j && !(Nat.beq j F))) (by omega)) ?_
            refine xw_istore_n (pc := 48) (L' := [(2, .int (Int32.ofInt ((hx_bs (fun j => hx_al v F j && !(Nat.beq j F)) k + 2 ^ k : Nat) : Int))), (0, .ref (xw_ad al 200)), (1, .int (Int32.ofInt (F : Int))), (3, .int (Int32.ofInt (k : Int)))]) C0 dX12_alike_48 rfl (by decide +kernel) rfl ?_
            refine xw_iinc (pc := 49) (L' := [(3, .int (Int32.ofInt ((k : Int) + 1))), (2, .int (Int32.ofInt ((hx_bs (fun j => hx_al v F j && !(Nat.beq j F)) k + 2 ^ k : Nat) : Int))), (0, .ref (xw_ad al 200)), (1, .int (Int32.ofInt (F : Int)))]) C0 3 dX12_alike_49 rfl (by decide +kernel) rfl ?_
            refine xw_goto (pc := 52) (tgt := 19) C0 dX12_alike_52 rfl ?_
            have e3 : hx_bs (fun j => hx_al v F j && !(Nat.beq j F)) (k + 1) = hx_bs (fun j => hx_al v F j && !(Nat.beq j F)) k + 2 ^ k := by
              rw [hx_bse]
              have eb : Nat.beq k F = false := by
                cases hb : Nat.beq k F with
                | false => rfl
                | true => have := Nat.eq_of_beq_eq_true hb; omega
              rw [if_pos (show (hx_al v F k && !(Nat.beq k F)) = true by rw [w4, eb]; rfl)]
            have e1 : (k : Int) + 1 = ((k + 1 : Nat) : Int) := by omega
            rw [e1, ← e3]
            refine xw_pk [2, 3, 1, 0] (L' := [(0, .ref (xw_ad al 200)), (1, .int (Int32.ofInt (F : Int))), (2, .int (Int32.ofInt ((hx_bs (fun j => hx_al v F j && !(Nat.beq j F)) (k + 1) : Nat) : Int))), (3, .int (Int32.ofInt ((k + 1 : Nat) : Int)))]) rfl ?_
            exact ih (k + 1) (by omega) (by omega)
        · refine xw_if_eq (pc := 40) (tgt := 49) C0 (by omega) dX12_alike_40 rfl (fun b6 => ?_) (fun b6 => ?_)
          · refine xw_iinc (pc := 49) (L' := [(3, .int (Int32.ofInt ((k : Int) + 1))), (0, .ref (xw_ad al 200)), (1, .int (Int32.ofInt (F : Int))), (2, .int (Int32.ofInt ((hx_bs (fun j => hx_al v F j && !(Nat.beq j F)) k : Nat) : Int)))]) C0 3 dX12_alike_49 rfl (by decide +kernel) rfl ?_
            refine xw_goto (pc := 52) (tgt := 19) C0 dX12_alike_52 rfl ?_
            have e3 : hx_bs (fun j => hx_al v F j && !(Nat.beq j F)) (k + 1) = hx_bs (fun j => hx_al v F j && !(Nat.beq j F)) k := by
              rw [hx_bse]
              rw [if_neg (show ¬ (hx_al v F k && !(Nat.beq k F)) = true by rw [w4]; exact Bool.false_ne_true), Nat.add_zero]
            have e1 : (k : Int) + 1 = ((k + 1 : Nat) : Int) := by omega
            rw [e1, ← e3]
            refine xw_pk [1, 2, 3, 0] (L' := [(0, .ref (xw_ad al 200)), (1, .int (Int32.ofInt (F : Int))), (2, .int (Int32.ofInt ((hx_bs (fun j => hx_al v F j && !(Nat.beq j F)) (k + 1) : Nat) : Int))), (3, .int (Int32.ofInt ((k + 1 : Nat) : Int)))]) rfl ?_
            exact ih (k + 1) (by omega) (by omega)
          · exfalso
            omega
set_option maxRecDepth 20000 in
set_option maxHeartbeats 20000000 in
theorem xr_alikeV {l : Launch} {v nm : Nat → Int} {v9 : Int} {μ : xw_M} (hG : xw_G xw_GL μ) (hr9 : -2147483648 ≤ v9 ∧ v9 ≤ 2147483647) (hK : hp_ok v nm) (hN : ∀ k : Nat, k < 77 → μ 202 k = v k) : xw_MetI l vwCl sa_Ts tb_KT0 tc_KL yX12_alike cX12_alike 4 (some .int) 4 163 (fun ad => [.ref (ad 200), .int (Int32.ofInt v9)]) μ (fun r μ' => (((0 ≤ v9 ∧ v9 < v 1) ∧ r = ((hx_bs (fun j => hx_al v v9.toNat j && !(Nat.beq j v9.toNat)) (v 1).toNat : Nat) : Int)) ∨ (¬ (0 ≤ v9 ∧ v9 < v 1) ∧ r = -1)) ∧ xw_F [(200, 0, 0)] μ μ') :=
  xw_of (by decide +kernel) (fun _ => Nat.le_of_ble_eq_true rfl) (fun p e s m args below meth c D dA A al w0 sz C0 hU hO hKL hr hlk hA => by
    have k1 := hK.2.1
    refine xw_aload_n (pc := 0) C0 0 dX12_alike_0 rfl rfl ?_
    refine xw_iconst (pc := 1) C0 dX12_alike_1 ?_
    refine xw_putI (pc := 2) (f := 0) C0 kcX12 dX12_alike_2 (by decide +kernel) tv_1261 rfl rfl (xj_200 hKL) xk_0 rfl (by omega) (by omega) ?_
    refine xw_aload_n (pc := 5) C0 0 dX12_alike_5 rfl rfl ?_
    refine xw_iload_n (pc := 6) C0 1 dX12_alike_6 rfl rfl ?_
    have Ft1 : xw_F [(200, 0, 0)] μ (xw_u μ 200 0 0) := ((xw_F.rf (ML := [(200, 0, 0)])).u (show (200, 0, 0) ∈ _ by decide) ⟨by decide, by decide⟩)
    have vt1_200_0 : (xw_u μ 200 0 0) 200 0 = 0 := xw_ug
    generalize (xw_u μ 200 0 0) = t1 at Ft1 vt1_200_0 ⊢
    have hG_t1 := xw_GF hG Ft1 (by decide +kernel)
    have hN9 : ∀ k : Nat, k < 77 → t1 202 k = v k := fun k hk => (Ft1 202 k (xw_oj (by decide +kernel) k)).trans (hN k hk)
    have y9 : t1 202 1 = v 1 := hN9 1 (by decide +kernel)
    refine xw_callVI (pc := 7) (μ := t1) (ci := 12) (rest := []) (As := [.int (Int32.ofInt v9)]) C0 hU hO sa_Tg hKL (xr_isFault (l := l) (v := v9) hG_t1 (by omega)) tv_1553 dX12_alike_7 tv_1550 tv_1552 tq_X12_isFault tv_13 rfl yb_X12_isFault (by decide +kernel) rfl rfl rfl (by decide +kernel) (Nat.le_of_ble_eq_true rfl) (xj_200 hKL) xk_0 (fun r1 m1 w1 => ?_)
    obtain ⟨rfl, w1⟩ := w1
    rcases w1 with ⟨w1, rfl⟩ | ⟨w1, rfl⟩
    · refine xw_if_ne (pc := 10) (tgt := 15) C0 (by omega) dX12_alike_10 rfl (fun b2 => ?_) (fun b2 => ?_)
      · refine xw_iconst (pc := 15) C0 dX12_alike_15 ?_
        refine xw_istore_n (pc := 16) (L' := [(2, .int (Int32.ofInt 0)), (0, .ref (xw_ad al 200)), (1, .int (Int32.ofInt v9))]) C0 dX12_alike_16 rfl (by decide +kernel) rfl ?_
        refine xw_iconst (pc := 17) C0 dX12_alike_17 ?_
        refine xw_istore_n (pc := 18) (L' := [(3, .int (Int32.ofInt 0)), (2, .int (Int32.ofInt 0)), (0, .ref (xw_ad al 200)), (1, .int (Int32.ofInt v9))]) C0 dX12_alike_18 rfl (by decide +kernel) rfl ?_
        obtain ⟨F, hF⟩ : ∃ F : Nat, v9 = (F : Int) := ⟨v9.toNat, by omega⟩
        subst hF
        refine xw_pk [2, 3, 1, 0] (L' := [(0, .ref (xw_ad al 200)), (1, .int (Int32.ofInt (F : Int))), (2, .int (Int32.ofInt ((hx_bs (fun j => hx_al v F j && !(Nat.beq j F)) 0 : Nat) : Int))), (3, .int (Int32.ofInt ((0 : Nat) : Int)))]) rfl ?_
        refine xr_alL (v := v) (nm := nm) (F := F) (μ := t1) C0 hU hO hKL hG_t1 hK hN9 (by omega) ?_ 9 0 (by omega) (Nat.zero_le _)
        refine xw_iload_n (pc := 55) C0 0 dX12_alike_55 rfl rfl ?_
        refine xw_iret C0 hA hr hlk rfl dX12_alike_56 ?_
        have e8 : ((F : Nat) : Int).toNat = F := by omega
        exact ⟨_, rfl, Or.inl ⟨by omega, by rw [e8]⟩, ((xw_F.rf (ML := [(200, 0, 0)])).tr Ft1 (fun j i h => xw_o_sub (by decide +kernel) j i h))⟩
      · exfalso
        omega
    · refine xw_if_ne (pc := 10) (tgt := 15) C0 (by omega) dX12_alike_10 rfl (fun b3 => ?_) (fun b3 => ?_)
      · exfalso
        omega
      · refine xw_iconst (pc := 13) C0 dX12_alike_13 ?_
        refine xw_iret C0 hA hr hlk rfl dX12_alike_14 ?_
        exact ⟨_, rfl, Or.inr ⟨by omega, rfl⟩, ((xw_F.rf (ML := [(200, 0, 0)])).tr Ft1 (fun j i h => xw_o_sub (by decide +kernel) j i h))⟩)
