noncomputable def hx_cn (v a b c d r : Int) : Prop := (v = 0 → r = a) ∧ (v = 1 → r = b) ∧ (v = 2 → r = c) ∧ (v = 3 → r = d) ∧ ((v < 0 ∨ 3 < v) → r = -1)
set_option maxRecDepth 20000 in
set_option maxHeartbeats 20000000 in
theorem xq_fsL {l : Launch} {p : Program} {e : Env} {s : State} {m : MethodId} {args : Array Value} {below : List Frame} {meth : Method} {c : Code} {Q : State → Prop} {D : va_G} {dA : Nat → ClassId} {A : Nat → Prop} {al : List (Nat × Nat)} (C0 : sa_C p s m args c D dA A 6 vwCl sa_Ts cX2_faultsShowing yX2_faultsShowing.cls) (hU : sa_U D vwCl dA s) (hO : tb_Ou A s s.heap) (hKL : al.map Prod.snd = tc_KL) {v nm : Nat → Int} {t9 l9 : Int} {μ : xw_M} (hG : xw_G xw_GL μ) (hK : hp_ok v nm) (hE : hx_E v 4 μ) (ht : -2147483648 ≤ t9 ∧ t9 ≤ 2147483647) (hl : -2147483648 ≤ l9 ∧ l9 ≤ 2147483647) (kx : xw_W p l e { frames := 2, cells := 0, slots := 0, locals := 120 } s m args below meth c Q D dA A 6 vwCl tb_KT0 al 0 0 μ 58 [(3, .int (Int32.ofInt ((hx_bs (hx_sp v t9 l9) (v 1).toNat : Nat) : Int)))] []) : ∀ (fu9 : Nat) (k : Nat), ((v 1).toNat : Int) - (k : Int) < (fu9 : Int) → k ≤ (v 1).toNat → xw_W p l e { frames := 2, cells := 0, slots := 0, locals := 120 } s m args below meth c Q D dA A 6 vwCl tb_KT0 al 0 0 μ 5 [(0, .ref (xw_ad al 4)), (1, .int (Int32.ofInt t9)), (2, .int (Int32.ofInt l9)), (3, .int (Int32.ofInt ((hx_bs (hx_sp v t9 l9) k : Nat) : Int))), (4, .int (Int32.ofInt (k : Int)))] [] := by
  intro fu9
  induction fu9 with
  | zero => intro k hm hk; exfalso; omega
  | succ fu9 ih =>
    intro k hm hk
    have k1 := hK.2.1
    have c1 : μ 4 14 = v 1 := hE.1.2.1
    refine xw_iload (pc := 5) C0 4 dX2_faultsShowing_5 rfl ?_
    refine xw_aload_n (pc := 7) C0 0 dX2_faultsShowing_7 rfl rfl ?_
    refine xw_getI (pc := 8) (f := 14) (z := μ 4 14) C0 kcX2 dX2_faultsShowing_8 (by decide +kernel) tv_101 (xj_4 hKL) xk_28 rfl (rfl) (fun g1 k1 => ?_)
    refine xw_icmp_ge (pc := 11) (tgt := 58) C0 (by omega) (by omega) dX2_faultsShowing_11 rfl (fun b2 => ?_) (fun b2 => ?_)
    · have e9 : k = (v 1).toNat := by omega
      subst e9
      refine xw_pk [3] (L' := [(3, .int (Int32.ofInt ((hx_bs (hx_sp v t9 l9) (v 1).toNat : Nat) : Int)))]) rfl ?_
      exact kx
    · refine xw_aload_n (pc := 14) C0 0 dX2_faultsShowing_14 rfl rfl ?_
      refine xw_getR (pc := 15) (f := 8) C0 13 kcX2 dX2_faultsShowing_15 (by decide +kernel) tv_83 (xj_4 hKL) xk_28 rfl ((rfl).trans (xe_4_8 hG)) ?_
      refine xw_iload (pc := 18) C0 4 dX2_faultsShowing_18 rfl ?_
      have a9 : μ 13 ((k : Int)).toNat = v (21 + k) := (hE.2.2.1 k (by omega) (by omega)).1
      refine xw_iald (pc := 20) (z := v (21 + k)) C0 dX2_faultsShowing_20 (xj_13 hKL) xk_37 (by omega) (by decide +kernel) (xw_rl (by omega)) a9 (fun g3 k3 => ?_)
      refine xw_iload_n (pc := 21) C0 1 dX2_faultsShowing_21 rfl rfl ?_
      refine xw_icmp_ne (pc := 22) (tgt := 35) C0 (by omega) (by omega) dX2_faultsShowing_22 rfl (fun b4 => ?_) (fun b4 => ?_)
      · refine xw_bipush (pc := 35) C0 dX2_faultsShowing_35 (by decide +kernel) ?_
        refine xw_istore (pc := 37) (L' := [(5, .int (Int32.ofInt 18)), (0, .ref (xw_ad al 4)), (1, .int (Int32.ofInt t9)), (2, .int (Int32.ofInt l9)), (3, .int (Int32.ofInt ((hx_bs (hx_sp v t9 l9) k : Nat) : Int))), (4, .int (Int32.ofInt (k : Int)))]) C0 dX2_faultsShowing_37 (by decide +kernel) rfl ?_
        refine xw_iload (pc := 39) C0 0 dX2_faultsShowing_39 rfl ?_
        refine xw_iload_n (pc := 41) C0 3 dX2_faultsShowing_41 rfl rfl ?_
        refine xw_icmp_ne (pc := 42) (tgt := 52) C0 (by omega) (by omega) dX2_faultsShowing_42 rfl (fun b5 => ?_) (fun b5 => ?_)
        · refine xw_iinc (pc := 52) (L' := [(4, .int (Int32.ofInt ((k : Int) + 1))), (5, .int (Int32.ofInt 18)), (0, .ref (xw_ad al 4)), (1, .int (Int32.ofInt t9)), (2, .int (Int32.ofInt l9)), (3, .int (Int32.ofInt ((hx_bs (hx_sp v t9 l9) k : Nat) : Int)))]) C0 5 dX2_faultsShowing_52 rfl (by decide +kernel) rfl ?_
          refine xw_goto (pc := 55) (tgt := 5) C0 dX2_faultsShowing_55 rfl ?_
          have e3 : hx_bs (hx_sp v t9 l9) (k + 1) = hx_bs (hx_sp v t9 l9) k := by
            rw [hx_bse]
            have e4 : ¬ (if v (21 + k) = t9 then v (45 + k) else (18 : Int)) = l9 := by
              first
              | rw [if_pos (by omega)]; omega
              | rw [if_neg (by omega)]; omega
            rw [if_neg (show ¬ hx_sp v t9 l9 k = true by rw [show hx_sp v t9 l9 k = false from decide_eq_false e4]; decide), Nat.add_zero]
          have e1 : (k : Int) + 1 = ((k + 1 : Nat) : Int) := by omega
          rw [e1, ← e3]
          refine xw_pk [2, 3, 4, 5, 0] (L' := [(0, .ref (xw_ad al 4)), (1, .int (Int32.ofInt t9)), (2, .int (Int32.ofInt l9)), (3, .int (Int32.ofInt ((hx_bs (hx_sp v t9 l9) (k + 1) : Nat) : Int))), (4, .int (Int32.ofInt ((k + 1 : Nat) : Int)))]) rfl ?_
          exact ih (k + 1) (by omega) (by omega)
        · refine xw_iload_n (pc := 45) C0 4 dX2_faultsShowing_45 rfl rfl ?_
          refine xw_iconst (pc := 46) C0 dX2_faultsShowing_46 ?_
          refine xw_iload (pc := 47) C0 5 dX2_faultsShowing_47 rfl ?_
          refine xw_ishl (pc := 49) C0 dX2_faultsShowing_49 (xb_shN (f := k) (by omega)) ?_
          refine xw_ior (pc := 50) C0 dX2_faultsShowing_50 (xb_orB (p := (hx_sp v t9 l9)) (by omega)) ?_
          refine xw_istore_n (pc := 51) (L' := [(3, .int (Int32.ofInt ((hx_bs (hx_sp v t9 l9) k + 2 ^ k : Nat) : Int))), (5, .int (Int32.ofInt 18)), (0, .ref (xw_ad al 4)), (1, .int (Int32.ofInt t9)), (2, .int (Int32.ofInt l9)), (4, .int (Int32.ofInt (k : Int)))]) C0 dX2_faultsShowing_51 rfl (by decide +kernel) rfl ?_
          refine xw_iinc (pc := 52) (L' := [(4, .int (Int32.ofInt ((k : Int) + 1))), (3, .int (Int32.ofInt ((hx_bs (hx_sp v t9 l9) k + 2 ^ k : Nat) : Int))), (5, .int (Int32.ofInt 18)), (0, .ref (xw_ad al 4)), (1, .int (Int32.ofInt t9)), (2, .int (Int32.ofInt l9))]) C0 5 dX2_faultsShowing_52 rfl (by decide +kernel) rfl ?_
          refine xw_goto (pc := 55) (tgt := 5) C0 dX2_faultsShowing_55 rfl ?_
          have e3 : hx_bs (hx_sp v t9 l9) (k + 1) = hx_bs (hx_sp v t9 l9) k + 2 ^ k := by
            rw [hx_bse]
            have e4 : (if v (21 + k) = t9 then v (45 + k) else (18 : Int)) = l9 := by
              first
              | rw [if_pos (by omega)]; omega
              | rw [if_neg (by omega)]; omega
            rw [if_pos (show hx_sp v t9 l9 k = true from decide_eq_true e4)]
          have e1 : (k : Int) + 1 = ((k + 1 : Nat) : Int) := by omega
          rw [e1, ← e3]
          refine xw_pk [3, 4, 5, 1, 0] (L' := [(0, .ref (xw_ad al 4)), (1, .int (Int32.ofInt t9)), (2, .int (Int32.ofInt l9)), (3, .int (Int32.ofInt ((hx_bs (hx_sp v t9 l9) (k + 1) : Nat) : Int))), (4, .int (Int32.ofInt ((k + 1 : Nat) : Int)))]) rfl ?_
          exact ih (k + 1) (by omega) (by omega)
      · refine xw_aload_n (pc := 25) C0 0 dX2_faultsShowing_25 rfl rfl ?_
        refine xw_getR (pc := 26) (f := 11) C0 16 kcX2 dX2_faultsShowing_26 (by decide +kernel) tv_92 (xj_4 hKL) xk_28 rfl ((rfl).trans (xe_4_11 hG)) ?_
        refine xw_iload (pc := 29) C0 4 dX2_faultsShowing_29 rfl ?_
        have a9 : μ 16 ((k : Int)).toNat = v (45 + k) := (hE.2.2.1 k (by omega) (by omega)).2.2.2
        refine xw_iald (pc := 31) (z := v (45 + k)) C0 dX2_faultsShowing_31 (xj_16 hKL) xk_40 (by omega) (by decide +kernel) (xw_rl (by omega)) a9 (fun g6 k6 => ?_)
        refine xw_goto (pc := 32) (tgt := 37) C0 dX2_faultsShowing_32 rfl ?_
        refine xw_istore (pc := 37) (L' := [(5, .int (Int32.ofInt (v (45 + k)))), (0, .ref (xw_ad al 4)), (1, .int (Int32.ofInt t9)), (2, .int (Int32.ofInt l9)), (3, .int (Int32.ofInt ((hx_bs (hx_sp v t9 l9) k : Nat) : Int))), (4, .int (Int32.ofInt (k : Int)))]) C0 dX2_faultsShowing_37 (by decide +kernel) rfl ?_
        refine xw_iload (pc := 39) C0 0 dX2_faultsShowing_39 rfl ?_
        refine xw_iload_n (pc := 41) C0 3 dX2_faultsShowing_41 rfl rfl ?_
        refine xw_icmp_ne (pc := 42) (tgt := 52) C0 (by omega) (by omega) dX2_faultsShowing_42 rfl (fun b7 => ?_) (fun b7 => ?_)
        · refine xw_iinc (pc := 52) (L' := [(4, .int (Int32.ofInt ((k : Int) + 1))), (5, .int (Int32.ofInt (v (45 + k)))), (0, .ref (xw_ad al 4)), (1, .int (Int32.ofInt t9)), (2, .int (Int32.ofInt l9)), (3, .int (Int32.ofInt ((hx_bs (hx_sp v t9 l9) k : Nat) : Int)))]) C0 5 dX2_faultsShowing_52 rfl (by decide +kernel) rfl ?_
          refine xw_goto (pc := 55) (tgt := 5) C0 dX2_faultsShowing_55 rfl ?_
          have e3 : hx_bs (hx_sp v t9 l9) (k + 1) = hx_bs (hx_sp v t9 l9) k := by
            rw [hx_bse]
            have e4 : ¬ (if v (21 + k) = t9 then v (45 + k) else (18 : Int)) = l9 := by
              first
              | rw [if_pos (by omega)]; omega
              | rw [if_neg (by omega)]; omega
            rw [if_neg (show ¬ hx_sp v t9 l9 k = true by rw [show hx_sp v t9 l9 k = false from decide_eq_false e4]; decide), Nat.add_zero]
          have e1 : (k : Int) + 1 = ((k + 1 : Nat) : Int) := by omega
          rw [e1, ← e3]
          refine xw_pk [2, 3, 4, 5, 0] (L' := [(0, .ref (xw_ad al 4)), (1, .int (Int32.ofInt t9)), (2, .int (Int32.ofInt l9)), (3, .int (Int32.ofInt ((hx_bs (hx_sp v t9 l9) (k + 1) : Nat) : Int))), (4, .int (Int32.ofInt ((k + 1 : Nat) : Int)))]) rfl ?_
          exact ih (k + 1) (by omega) (by omega)
        · refine xw_iload_n (pc := 45) C0 4 dX2_faultsShowing_45 rfl rfl ?_
          refine xw_iconst (pc := 46) C0 dX2_faultsShowing_46 ?_
          refine xw_iload (pc := 47) C0 5 dX2_faultsShowing_47 rfl ?_
          refine xw_ishl (pc := 49) C0 dX2_faultsShowing_49 (xb_shN (f := k) (by omega)) ?_
          refine xw_ior (pc := 50) C0 dX2_faultsShowing_50 (xb_orB (p := (hx_sp v t9 l9)) (by omega)) ?_
          refine xw_istore_n (pc := 51) (L' := [(3, .int (Int32.ofInt ((hx_bs (hx_sp v t9 l9) k + 2 ^ k : Nat) : Int))), (5, .int (Int32.ofInt (v (45 + k)))), (0, .ref (xw_ad al 4)), (1, .int (Int32.ofInt t9)), (2, .int (Int32.ofInt l9)), (4, .int (Int32.ofInt (k : Int)))]) C0 dX2_faultsShowing_51 rfl (by decide +kernel) rfl ?_
          refine xw_iinc (pc := 52) (L' := [(4, .int (Int32.ofInt ((k : Int) + 1))), (3, .int (Int32.ofInt ((hx_bs (hx_sp v t9 l9) k + 2 ^ k : Nat) : Int))), (5, .int (Int32.ofInt (v (45 + k)))), (0, .ref (xw_ad al 4)), (1, .int (Int32.ofInt t9)), (2, .int (Int32.ofInt l9))]) C0 5 dX2_faultsShowing_52 rfl (by decide +kernel) rfl ?_
          refine xw_goto (pc := 55) (tgt := 5) C0 dX2_faultsShowing_55 rfl ?_
          have e3 : hx_bs (hx_sp v t9 l9) (k + 1) = hx_bs (hx_sp v t9 l9) k + 2 ^ k := by
            rw [hx_bse]
            have e4 : (if v (21 + k) = t9 then v (45 + k) else (18 : Int)) = l9 := by
              first
              | rw [if_pos (by omega)]; omega
              | rw [if_neg (by omega)]; omega
            rw [if_pos (show hx_sp v t9 l9 k = true from decide_eq_true e4)]
          have e1 : (k : Int) + 1 = ((k + 1 : Nat) : Int) := by omega
          rw [e1, ← e3]
          refine xw_pk [3, 4, 5, 1, 0] (L' := [(0, .ref (xw_ad al 4)), (1, .int (Int32.ofInt t9)), (2, .int (Int32.ofInt l9)), (3, .int (Int32.ofInt ((hx_bs (hx_sp v t9 l9) (k + 1) : Nat) : Int))), (4, .int (Int32.ofInt ((k + 1 : Nat) : Int)))]) rfl ?_
          exact ih (k + 1) (by omega) (by omega)
set_option maxRecDepth 20000 in
set_option maxHeartbeats 20000000 in
theorem xq_faultsShowing {l : Launch} {v nm : Nat → Int} {t9 l9 : Int} {μ : xw_M} (hG : xw_G xw_GL μ) (hK : hp_ok v nm) (hE : hx_E v 4 μ) (ht : -2147483648 ≤ t9 ∧ t9 ≤ 2147483647) (hl : -2147483648 ≤ l9 ∧ l9 ≤ 2147483647) : xw_MetI l vwCl sa_Ts tb_KT0 tc_KL yX2_faultsShowing cX2_faultsShowing 6 (some .int) 2 120 (fun ad => [.ref (ad 4), .int (Int32.ofInt t9), .int (Int32.ofInt l9)]) μ (fun r μ' => μ = μ' ∧ r = ((hx_bs (hx_sp v t9 l9) (v 1).toNat : Nat) : Int)) :=
  xw_of (by decide +kernel) (fun _ => Nat.le_of_ble_eq_true rfl) (fun p e s m args below meth c D dA A al w0 sz C0 hU hO hKL hr hlk hA => by
    refine xw_iconst (pc := 0) C0 dX2_faultsShowing_0 ?_
    refine xw_istore_n (pc := 1) (L' := [(3, .int (Int32.ofInt 0)), (0, .ref (xw_ad al 4)), (1, .int (Int32.ofInt t9)), (2, .int (Int32.ofInt l9))]) C0 dX2_faultsShowing_1 rfl (by decide +kernel) rfl ?_
    refine xw_iconst (pc := 2) C0 dX2_faultsShowing_2 ?_
    refine xw_istore (pc := 3) (L' := [(4, .int (Int32.ofInt 0)), (3, .int (Int32.ofInt 0)), (0, .ref (xw_ad al 4)), (1, .int (Int32.ofInt t9)), (2, .int (Int32.ofInt l9))]) C0 dX2_faultsShowing_3 (by decide +kernel) rfl ?_
    have k1 := hK.2.1
    refine xw_pk [2, 3, 4, 1, 0] (L' := [(0, .ref (xw_ad al 4)), (1, .int (Int32.ofInt t9)), (2, .int (Int32.ofInt l9)), (3, .int (Int32.ofInt ((hx_bs (hx_sp v t9 l9) 0 : Nat) : Int))), (4, .int (Int32.ofInt ((0 : Nat) : Int)))]) rfl ?_
    refine xq_fsL (v := v) (nm := nm) (t9 := t9) (l9 := l9) (μ := μ) C0 hU hO hKL hG hK hE ht hl ?_ 9 0 (by omega) (Nat.zero_le _)
    refine xw_iload_n (pc := 58) C0 0 dX2_faultsShowing_58 rfl rfl ?_
    refine xw_iret C0 hA hr hlk rfl dX2_faultsShowing_59 ?_
    exact ⟨_, rfl, rfl, rfl⟩)
set_option maxRecDepth 20000 in
set_option maxHeartbeats 20000000 in
theorem xq_lookingLike {l : Launch} {v nm : Nat → Int} {F : Nat} {μ : xw_M} (hG : xw_G xw_GL μ) (hK : hp_ok v nm) (hE : hx_E v 4 μ) (hF : F < (v 1).toNat) : xw_MetI l vwCl sa_Ts tb_KT0 tc_KL yX2_lookingLike cX2_lookingLike 2 (some .int) 3 145 (fun ad => [.ref (ad 4), .int (Int32.ofInt (F : Int))]) μ (fun r μ' => μ = μ' ∧ r = ((hx_bs (hx_al v F) (v 1).toNat : Nat) : Int)) :=
  xw_of (by decide +kernel) (fun _ => Nat.le_of_ble_eq_true rfl) (fun p e s m args below meth c D dA A al w0 sz C0 hU hO hKL hr hlk hA => by
    have k0 := hK.1
    have k1 := hK.2.1
    have h8 := (hK.2.2.2.2.2 F (by omega) (by omega)).1
    refine xw_aload_n (pc := 0) C0 0 dX2_lookingLike_0 rfl rfl ?_
    refine xw_getR (pc := 1) (f := 6) C0 11 kcX2 dX2_lookingLike_1 (by decide +kernel) tv_78 (xj_4 hKL) xk_28 rfl ((rfl).trans (xe_4_6 hG)) ?_
    refine xw_aload_n (pc := 4) C0 0 dX2_lookingLike_4 rfl rfl ?_
    refine xw_getR (pc := 5) (f := 8) C0 13 kcX2 dX2_lookingLike_5 (by decide +kernel) tv_83 (xj_4 hKL) xk_28 rfl ((rfl).trans (xe_4_8 hG)) ?_
    refine xw_iload_n (pc := 8) C0 1 dX2_lookingLike_8 rfl rfl ?_
    have a1 : μ 13 ((F : Int)).toNat = v (21 + F) := (hE.2.2.1 F (by omega) (by omega)).1
    refine xw_iald (pc := 9) (z := v (21 + F)) C0 dX2_lookingLike_9 (xj_13 hKL) xk_37 (by omega) (by decide +kernel) (xw_rl (by omega)) a1 (fun g1 k1 => ?_)
    have o9 : μ 11 (v (21 + F)).toNat = hx_fo v (v (21 + F)).toNat (v 1).toNat := (hE.2.2.2.2 (v (21 + F)).toNat (by omega) (by omega)).2
    refine xw_iald (pc := 10) (z := hx_fo v (v (21 + F)).toNat (v 1).toNat) C0 dX2_lookingLike_10 (xj_11 hKL) xk_35 (by omega) (by decide +kernel) (xw_rl (by omega)) o9 (fun g2 k2 => ?_)
    refine xw_aload_n (pc := 11) C0 0 dX2_lookingLike_11 rfl rfl ?_
    refine xw_aload_n (pc := 12) C0 0 dX2_lookingLike_12 rfl rfl ?_
    refine xw_getR (pc := 13) (f := 8) C0 13 kcX2 dX2_lookingLike_13 (by decide +kernel) tv_83 (xj_4 hKL) xk_28 rfl ((rfl).trans (xe_4_8 hG)) ?_
    refine xw_iload_n (pc := 16) C0 1 dX2_lookingLike_16 rfl rfl ?_
    have a3 : μ 13 ((F : Int)).toNat = v (21 + F) := (hE.2.2.1 F (by omega) (by omega)).1
    refine xw_iald (pc := 17) (z := v (21 + F)) C0 dX2_lookingLike_17 (xj_13 hKL) xk_37 (by omega) (by decide +kernel) (xw_rl (by omega)) a3 (fun g3 k3 => ?_)
    refine xw_aload_n (pc := 18) C0 0 dX2_lookingLike_18 rfl rfl ?_
    refine xw_getR (pc := 19) (f := 11) C0 16 kcX2 dX2_lookingLike_19 (by decide +kernel) tv_92 (xj_4 hKL) xk_28 rfl ((rfl).trans (xe_4_11 hG)) ?_
    refine xw_iload_n (pc := 22) C0 1 dX2_lookingLike_22 rfl rfl ?_
    have a4 : μ 16 ((F : Int)).toNat = v (45 + F) := (hE.2.2.1 F (by omega) (by omega)).2.2.2
    refine xw_iald (pc := 23) (z := v (45 + F)) C0 dX2_lookingLike_23 (xj_16 hKL) xk_40 (by omega) (by decide +kernel) (xw_rl (by omega)) a4 (fun g4 k4 => ?_)
    refine xw_callVI (pc := 24) (μ := μ) (ci := 2) (rest := [.int (Int32.ofInt (hx_fo v (v (21 + F)).toNat (v 1).toNat))]) (As := [.int (Int32.ofInt (v (21 + F))), .int (Int32.ofInt (v (45 + F)))]) C0 hU hO sa_Tg hKL (xq_faultsShowing (l := l) (v := v) (nm := nm) (t9 := v (21 + F)) (l9 := v (45 + F)) hG hK hE (by omega) (by omega)) tv_787 dX2_lookingLike_24 tv_820 tv_785 tv_786 tv_4 rfl yb_X2_faultsShowing (by decide +kernel) rfl rfl rfl (by decide +kernel) (Nat.le_of_ble_eq_true rfl) (xj_4 hKL) xk_28 (fun r5 m5 w5 => ?_)
    obtain ⟨rfl, rfl⟩ := w5
    have f9 : hx_fo v (v (21 + F)).toNat (v 1).toNat = ((hx_bs (fun j => decide (v (21 + j) = (((v (21 + F)).toNat : Nat) : Int))) (v 1).toNat : Nat) : Int) := hx_fob _
    have n9 : Int32.ofInt (hx_fo v (v (21 + F)).toNat (v 1).toNat) &&& Int32.ofInt (((hx_bs (hx_sp v (v (21 + F)) (v (45 + F))) (v 1).toNat : Nat) : Int)) = Int32.ofInt ((hx_bs (hx_al v F) (v 1).toNat : Nat) : Int) := by
      rw [f9, xb_anN (hx_b8 (by omega)) (hx_b8 (by omega)), hx_bsA]
      refine congrArg (fun n : Nat => Int32.ofInt (n : Int)) (hx_bsC _ (fun j hj => ?_))
      have hs := (hK.2.2.2.2.2 F (by omega) (by omega)).2.2.2.1
      unfold hx_sp hx_al
      by_cases q : v (21 + j) = v (21 + F)
      · rw [if_pos q, decide_eq_true q, decide_eq_true (show v (21 + j) = (((v (21 + F)).toNat : Nat) : Int) by omega)]
      · rw [if_neg q, decide_eq_false q, decide_eq_false (show ¬ v (21 + j) = (((v (21 + F)).toNat : Nat) : Int) by omega)]
        rfl
    refine xw_iand (pc := 27) C0 dX2_lookingLike_27 n9 ?_
    refine xw_iret C0 hA hr hlk rfl dX2_lookingLike_28 ?_
    exact ⟨_, rfl, rfl, rfl⟩)
set_option maxRecDepth 20000 in
set_option maxHeartbeats 20000000 in
theorem xr_areAlike {l : Launch} {v nm : Nat → Int} {F G : Nat} {μ : xw_M} (hG : xw_G xw_GL μ) (hK : hp_ok v nm) (hN : ∀ k : Nat, k < 77 → μ 202 k = v k) (hF : F < 8) (hG9 : G < 8) : xw_MetI l vwCl sa_Ts tb_KT0 tc_KL yX12_areAlike cX12_areAlike 3 (some .boolean) 2 120 (fun ad => [.ref (ad 200), .int (Int32.ofInt (F : Int)), .int (Int32.ofInt (G : Int))]) μ (fun r μ' => μ = μ' ∧ ((hx_al v F G = true ∧ r = 1) ∨ (hx_al v F G = false ∧ r = 0))) :=
  xw_of (by decide +kernel) (fun _ => Nat.le_of_ble_eq_true rfl) (fun p e s m args below meth c D dA A al w0 sz C0 hU hO hKL hr hlk hA => by
    refine xw_aload_n (pc := 0) C0 0 dX12_areAlike_0 rfl rfl ?_
    refine xw_getR (pc := 1) (f := 14) C0 202 kcX12 dX12_areAlike_1 (by decide +kernel) tv_1275 (xj_200 hKL) xk_0 rfl ((rfl).trans (xe_200_14 hG)) ?_
    refine xw_bipush (pc := 4) C0 dX12_areAlike_4 (by decide +kernel) ?_
    refine xw_iload_n (pc := 6) C0 1 dX12_areAlike_6 rfl rfl ?_
    refine xw_iadd (pc := 7) C0 dX12_areAlike_7 ?_
    refine xw_nI (pc := 8) (congrArg Int32.ofInt (show 21 + (F : Int) = ((21 + F : Nat) : Int) by omega)) ?_
    obtain ⟨lo1, hi1, rl1, bl1, bh1⟩ := hx_n379 ⟨21 + F, by omega⟩
    refine xw_iald (pc := 8) (z := v (21 + F)) C0 dX12_areAlike_8 (xj_202 hKL) xk_1 (by omega) (by decide +kernel) rl1 (hN (21 + F) (by omega)) (fun g1 k1 => ?_)
    refine xw_aload_n (pc := 9) C0 0 dX12_areAlike_9 rfl rfl ?_
    refine xw_getR (pc := 10) (f := 14) C0 202 kcX12 dX12_areAlike_10 (by decide +kernel) tv_1275 (xj_200 hKL) xk_0 rfl ((rfl).trans (xe_200_14 hG)) ?_
    refine xw_bipush (pc := 13) C0 dX12_areAlike_13 (by decide +kernel) ?_
    refine xw_iload_n (pc := 15) C0 2 dX12_areAlike_15 rfl rfl ?_
    refine xw_iadd (pc := 16) C0 dX12_areAlike_16 ?_
    refine xw_nI (pc := 17) (congrArg Int32.ofInt (show 21 + (G : Int) = ((21 + G : Nat) : Int) by omega)) ?_
    obtain ⟨lo2, hi2, rl2, bl2, bh2⟩ := hx_n379 ⟨21 + G, by omega⟩
    refine xw_iald (pc := 17) (z := v (21 + G)) C0 dX12_areAlike_17 (xj_202 hKL) xk_1 (by omega) (by decide +kernel) rl2 (hN (21 + G) (by omega)) (fun g2 k2 => ?_)
    refine xw_icmp_ne (pc := 18) (tgt := 46) C0 (by omega) (by omega) dX12_areAlike_18 rfl (fun b3 => ?_) (fun b3 => ?_)
    · refine xw_iconst (pc := 46) C0 dX12_areAlike_46 ?_
      refine xw_iret C0 hA hr hlk rfl dX12_areAlike_47 ?_
      exact ⟨_, rfl, rfl, Or.inr ⟨by unfold hx_al; first | (rw [decide_eq_false (show ¬ v (21 + G) = v (21 + F) by omega)]; rfl) | (rw [decide_eq_false (show ¬ v (45 + G) = v (45 + F) by omega), Bool.and_false]), rfl⟩⟩
    · refine xw_aload_n (pc := 21) C0 0 dX12_areAlike_21 rfl rfl ?_
      refine xw_getR (pc := 22) (f := 14) C0 202 kcX12 dX12_areAlike_22 (by decide +kernel) tv_1275 (xj_200 hKL) xk_0 rfl ((rfl).trans (xe_200_14 hG)) ?_
      refine xw_bipush (pc := 25) C0 dX12_areAlike_25 (by decide +kernel) ?_
      refine xw_iload_n (pc := 27) C0 1 dX12_areAlike_27 rfl rfl ?_
      refine xw_iadd (pc := 28) C0 dX12_areAlike_28 ?_
      refine xw_nI (pc := 29) (congrArg Int32.ofInt (show 45 + (F : Int) = ((45 + F : Nat) : Int) by omega)) ?_
      obtain ⟨lo4, hi4, rl4, bl4, bh4⟩ := hx_n379 ⟨45 + F, by omega⟩
      refine xw_iald (pc := 29) (z := v (45 + F)) C0 dX12_areAlike_29 (xj_202 hKL) xk_1 (by omega) (by decide +kernel) rl4 (hN (45 + F) (by omega)) (fun g4 k4 => ?_)
      refine xw_aload_n (pc := 30) C0 0 dX12_areAlike_30 rfl rfl ?_
      refine xw_getR (pc := 31) (f := 14) C0 202 kcX12 dX12_areAlike_31 (by decide +kernel) tv_1275 (xj_200 hKL) xk_0 rfl ((rfl).trans (xe_200_14 hG)) ?_
      refine xw_bipush (pc := 34) C0 dX12_areAlike_34 (by decide +kernel) ?_
      refine xw_iload_n (pc := 36) C0 2 dX12_areAlike_36 rfl rfl ?_
      refine xw_iadd (pc := 37) C0 dX12_areAlike_37 ?_
      refine xw_nI (pc := 38) (congrArg Int32.ofInt (show 45 + (G : Int) = ((45 + G : Nat) : Int) by omega)) ?_
      obtain ⟨lo5, hi5, rl5, bl5, bh5⟩ := hx_n379 ⟨45 + G, by omega⟩
      refine xw_iald (pc := 38) (z := v (45 + G)) C0 dX12_areAlike_38 (xj_202 hKL) xk_1 (by omega) (by decide +kernel) rl5 (hN (45 + G) (by omega)) (fun g5 k5 => ?_)
      refine xw_icmp_ne (pc := 39) (tgt := 46) C0 (by omega) (by omega) dX12_areAlike_39 rfl (fun b6 => ?_) (fun b6 => ?_)
      · refine xw_iconst (pc := 46) C0 dX12_areAlike_46 ?_
        refine xw_iret C0 hA hr hlk rfl dX12_areAlike_47 ?_
        exact ⟨_, rfl, rfl, Or.inr ⟨by unfold hx_al; first | (rw [decide_eq_false (show ¬ v (21 + G) = v (21 + F) by omega)]; rfl) | (rw [decide_eq_false (show ¬ v (45 + G) = v (45 + F) by omega), Bool.and_false]), rfl⟩⟩
      · refine xw_iconst (pc := 42) C0 dX12_areAlike_42 ?_
        refine xw_goto (pc := 43) (tgt := 47) C0 dX12_areAlike_43 rfl ?_
        refine xw_iret C0 hA hr hlk rfl dX12_areAlike_47 ?_
        exact ⟨_, rfl, rfl, Or.inl ⟨by unfold hx_al; rw [decide_eq_true (show v (21 + G) = v (21 + F) by omega), decide_eq_true (show v (45 + G) = v (45 + F) by omega)]; rfl, rfl⟩⟩)
set_option maxRecDepth 20000 in
set_option maxHeartbeats 20000000 in
theorem xh_knL {l : Launch} {p : Program} {e : Env} {s : State} {m : MethodId} {args : Array Value} {below : List Frame} {meth : Method} {c : Code} {Q : State → Prop} {D : va_G} {dA : Nat → ClassId} {A : Nat → Prop} {al : List (Nat × Nat)} (C0 : sa_C p s m args c D dA A 3 vwCl sa_Ts cX11_kinds yX11_kinds.cls) (hU : sa_U D vwCl dA s) (hO : tb_Ou A s s.heap) (hKL : al.map Prod.snd = tc_KL) {v nm : Nat → Int} {μ : xw_M} (hG : xw_G xw_GL μ) (hK : hp_ok v nm) (hE : hx_E v 4 μ) (kx : xw_W p l e { frames := 4, cells := 0, slots := 0, locals := 166 } s m args below meth c Q D dA A 3 vwCl tb_KT0 al 0 0 μ 47 [(1, .int (Int32.ofInt ((hx_kn v (v 1).toNat : Nat) : Int)))] []) : ∀ (fu9 : Nat) (k : Nat), ((v 1).toNat : Int) - (k : Int) < (fu9 : Int) → k ≤ (v 1).toNat → xw_W p l e { frames := 4, cells := 0, slots := 0, locals := 166 } s m args below meth c Q D dA A 3 vwCl tb_KT0 al 0 0 μ 4 [(0, .ref (xw_ad al 0)), (1, .int (Int32.ofInt ((hx_kn v k : Nat) : Int))), (2, .int (Int32.ofInt (k : Int)))] [] := by
  intro fu9
  induction fu9 with
  | zero => intro k hm hk; exfalso; omega
  | succ fu9 ih =>
    intro k hm hk
    have k1 := hK.2.1
    have c1 : μ 4 14 = v 1 := hE.1.2.1
    refine xw_iload_n (pc := 4) C0 2 dX11_kinds_4 rfl rfl ?_
    refine xw_aload_n (pc := 5) C0 0 dX11_kinds_5 rfl rfl ?_
    refine xw_getR (pc := 6) (f := 1) C0 3 kcX11 dX11_kinds_6 (by decide +kernel) tv_423 (xj_0 hKL) xk_27 rfl ((rfl).trans (xe_0_1 hG)) ?_
    refine xw_getR (pc := 9) (f := 0) C0 4 kcX10 dX11_kinds_9 (by decide +kernel) tv_234 (xj_3 hKL) xk_24 rfl ((rfl).trans (xe_3_0 hG)) ?_
    refine xw_getI (pc := 12) (f := 14) (z := μ 4 14) C0 kcX2 dX11_kinds_12 (by decide +kernel) tv_104 (xj_4 hKL) xk_28 rfl (rfl) (fun g1 k1 => ?_)
    refine xw_icmp_ge (pc := 15) (tgt := 47) C0 (by omega) (by omega) dX11_kinds_15 rfl (fun b2 => ?_) (fun b2 => ?_)
    · have e9 : k = (v 1).toNat := by omega
      subst e9
      refine xw_pk [1] (L' := [(1, .int (Int32.ofInt ((hx_kn v (v 1).toNat : Nat) : Int)))]) rfl ?_
      exact kx
    · refine xw_aload_n (pc := 18) C0 0 dX11_kinds_18 rfl rfl ?_
      refine xw_getR (pc := 19) (f := 1) C0 3 kcX11 dX11_kinds_19 (by decide +kernel) tv_423 (xj_0 hKL) xk_27 rfl ((rfl).trans (xe_0_1 hG)) ?_
      refine xw_getR (pc := 22) (f := 0) C0 4 kcX10 dX11_kinds_22 (by decide +kernel) tv_234 (xj_3 hKL) xk_24 rfl ((rfl).trans (xe_3_0 hG)) ?_
      refine xw_iload_n (pc := 25) C0 2 dX11_kinds_25 rfl rfl ?_
      refine xw_callVI (pc := 26) (μ := μ) (ci := 2) (rest := []) (As := [.int (Int32.ofInt (k : Int))]) C0 hU hO sa_Tg hKL (xq_lookingLike (l := l) (v := v) (nm := nm) (F := k) hG hK hE (by omega)) tv_819 dX11_kinds_26 tv_816 tv_817 tv_818 tv_4 rfl yb_X2_lookingLike (by decide +kernel) rfl rfl rfl (by decide +kernel) (Nat.le_of_ble_eq_true rfl) (xj_4 hKL) xk_28 (fun r3 m3 w3 => ?_)
      obtain ⟨rfl, rfl⟩ := w3
      refine xw_iconst (pc := 29) C0 dX11_kinds_29 ?_
      refine xw_iload_n (pc := 30) C0 2 dX11_kinds_30 rfl rfl ?_
      refine xw_ishl (pc := 31) C0 dX11_kinds_31 (xb_shN (f := k) (by omega)) ?_
      refine xw_iconst (pc := 32) C0 dX11_kinds_32 ?_
      refine xw_isub (pc := 33) C0 dX11_kinds_33 ?_
      have q9 := hx_bsM (p := (hx_al v k)) (f := k) ((v 1).toNat - k)
      rw [show k + ((v 1).toNat - k) = (v 1).toNat by omega] at q9
      have n9 : Int32.ofInt ((hx_bs (hx_al v k) (v 1).toNat : Nat) : Int) &&& Int32.ofInt (2 ^ k - 1) = Int32.ofInt ((hx_bs (hx_al v k) k : Nat) : Int) := by
        rw [xb_md (hx_b8 (by omega)) (by omega), q9]
      have b9 := hx_b8 (p := (hx_al v k)) (m := k) (by omega)
      refine xw_iand (pc := 34) C0 dX11_kinds_34 n9 ?_
      refine xw_if_ne (pc := 35) (tgt := 41) C0 (by omega) dX11_kinds_35 rfl (fun b4 => ?_) (fun b4 => ?_)
      · refine xw_iinc (pc := 41) (L' := [(2, .int (Int32.ofInt ((k : Int) + 1))), (0, .ref (xw_ad al 0)), (1, .int (Int32.ofInt ((hx_kn v k : Nat) : Int)))]) C0 2 dX11_kinds_41 rfl (by decide +kernel) rfl ?_
        refine xw_goto (pc := 44) (tgt := 4) C0 dX11_kinds_44 rfl ?_
        have e3 : hx_kn v (k + 1) = hx_kn v k := by
          rw [hx_kne]
          rw [if_neg (by omega), Nat.add_zero]
        have e1 : (k : Int) + 1 = ((k + 1 : Nat) : Int) := by omega
        rw [e1, ← e3]
        refine xw_pk [1, 2, 0] (L' := [(0, .ref (xw_ad al 0)), (1, .int (Int32.ofInt ((hx_kn v (k + 1) : Nat) : Int))), (2, .int (Int32.ofInt ((k + 1 : Nat) : Int)))]) rfl ?_
        exact ih (k + 1) (by omega) (by omega)
      · refine xw_iinc (pc := 38) (L' := [(1, .int (Int32.ofInt (((hx_kn v k : Nat) : Int) + 1))), (0, .ref (xw_ad al 0)), (2, .int (Int32.ofInt (k : Int)))]) C0 1 dX11_kinds_38 rfl (by decide +kernel) rfl ?_
        refine xw_iinc (pc := 41) (L' := [(2, .int (Int32.ofInt ((k : Int) + 1))), (1, .int (Int32.ofInt (((hx_kn v k : Nat) : Int) + 1))), (0, .ref (xw_ad al 0))]) C0 2 dX11_kinds_41 rfl (by decide +kernel) rfl ?_
        refine xw_goto (pc := 44) (tgt := 4) C0 dX11_kinds_44 rfl ?_
        have e3 : hx_kn v (k + 1) = hx_kn v k + 1 := by
          rw [hx_kne]
          rw [if_pos (by omega)]
        have e1 : (k : Int) + 1 = ((k + 1 : Nat) : Int) := by omega
        have e4 : ((hx_kn v k : Nat) : Int) + 1 = ((hx_kn v (k + 1) : Nat) : Int) := by omega
        rw [e1, e4]
        refine xw_pk [2, 1, 0] (L' := [(0, .ref (xw_ad al 0)), (1, .int (Int32.ofInt ((hx_kn v (k + 1) : Nat) : Int))), (2, .int (Int32.ofInt ((k + 1 : Nat) : Int)))]) rfl ?_
        exact ih (k + 1) (by omega) (by omega)
set_option maxRecDepth 20000 in
set_option maxHeartbeats 20000000 in
theorem xh_kindsV {l : Launch} {v nm : Nat → Int} {μ : xw_M} (hG : xw_G xw_GL μ) (hK : hp_ok v nm) (hE : hx_E v 4 μ) : xw_MetI l vwCl sa_Ts tb_KT0 tc_KL yX11_kinds cX11_kinds 3 (some .int) 4 166 (fun ad => [.ref (ad 0)]) μ (fun r μ' => μ = μ' ∧ r = ((hx_kn v (v 1).toNat : Nat) : Int)) :=
  xw_of (by decide +kernel) (fun _ => Nat.le_of_ble_eq_true rfl) (fun p e s m args below meth c D dA A al w0 sz C0 hU hO hKL hr hlk hA => by
    refine xw_iconst (pc := 0) C0 dX11_kinds_0 ?_
    refine xw_istore_n (pc := 1) (L' := [(1, .int (Int32.ofInt 0)), (0, .ref (xw_ad al 0))]) C0 dX11_kinds_1 rfl (by decide +kernel) rfl ?_
    refine xw_iconst (pc := 2) C0 dX11_kinds_2 ?_
    refine xw_istore_n (pc := 3) (L' := [(2, .int (Int32.ofInt 0)), (1, .int (Int32.ofInt 0)), (0, .ref (xw_ad al 0))]) C0 dX11_kinds_3 rfl (by decide +kernel) rfl ?_
    have k1 := hK.2.1
    refine xw_pk [2, 1, 0] (L' := [(0, .ref (xw_ad al 0)), (1, .int (Int32.ofInt ((hx_kn v 0 : Nat) : Int))), (2, .int (Int32.ofInt ((0 : Nat) : Int)))]) rfl ?_
    refine xh_knL (v := v) (nm := nm) (μ := μ) C0 hU hO hKL hG hK hE ?_ 9 0 (by omega) (Nat.zero_le _)
    refine xw_iload_n (pc := 47) C0 0 dX11_kinds_47 rfl rfl ?_
    refine xw_iret C0 hA hr hlk rfl dX11_kinds_48 ?_
    exact ⟨_, rfl, rfl, rfl⟩)
set_option maxRecDepth 20000 in
set_option maxHeartbeats 20000000 in
theorem xr_knI {l : Launch} {p : Program} {e : Env} {s : State} {m : MethodId} {args : Array Value} {below : List Frame} {meth : Method} {c : Code} {Q : State → Prop} {D : va_G} {dA : Nat → ClassId} {A : Nat → Prop} {al : List (Nat × Nat)} (C0 : sa_C p s m args c D dA A 4 vwCl sa_Ts cX12_kinds yX12_kinds.cls) (hU : sa_U D vwCl dA s) (hO : tb_Ou A s s.heap) (hKL : al.map Prod.snd = tc_KL) {v nm : Nat → Int} {k : Nat} {c9 : Int} {μ : xw_M} (hG : xw_G xw_GL μ) (hK : hp_ok v nm) (hN : ∀ k : Nat, k < 77 → μ 202 k = v k) (hk : k < (v 1).toNat) (kx : ∀ j : Nat, j ≤ k → (∀ i : Nat, i < j → hx_al v k i = false) → hx_al v k j = true → xw_W p l e { frames := 3, cells := 0, slots := 0, locals := 142 } s m args below meth c Q D dA A 4 vwCl tb_KT0 al 0 0 μ 36 [(0, .ref (xw_ad al 200)), (1, .int (Int32.ofInt c9)), (2, .int (Int32.ofInt (k : Int))), (3, .int (Int32.ofInt (j : Int)))] []) : ∀ (fu9 : Nat) (j : Nat), (k : Int) - (j : Int) < (fu9 : Int) → j ≤ k → (∀ i : Nat, i < j → hx_al v k i = false) → xw_W p l e { frames := 3, cells := 0, slots := 0, locals := 142 } s m args below meth c Q D dA A 4 vwCl tb_KT0 al 0 0 μ 21 [(0, .ref (xw_ad al 200)), (1, .int (Int32.ofInt c9)), (2, .int (Int32.ofInt (k : Int))), (3, .int (Int32.ofInt (j : Int)))] [] := by
  intro fu9
  induction fu9 with
  | zero => intro j hm hj hf; exfalso; omega
  | succ fu9 ih =>
    intro j hm hj hf
    have k1 := hK.2.1
    refine xw_aload_n (pc := 21) C0 0 dX12_kinds_21 rfl rfl ?_
    refine xw_iload_n (pc := 22) C0 2 dX12_kinds_22 rfl rfl ?_
    refine xw_iload_n (pc := 23) C0 3 dX12_kinds_23 rfl rfl ?_
    refine xw_callVI (pc := 24) (μ := μ) (ci := 12) (rest := []) (As := [.int (Int32.ofInt (k : Int)), .int (Int32.ofInt (j : Int))]) C0 hU hO sa_Tg hKL (xr_areAlike (l := l) (v := v) (nm := nm) (F := k) (G := j) hG hK hN (by omega) (by omega)) tv_1719 dX12_kinds_24 tv_1716 tv_1718 tq_X12_areAlike tv_13 rfl yb_X12_areAlike (by decide +kernel) rfl rfl rfl (by decide +kernel) (Nat.le_of_ble_eq_true rfl) (xj_200 hKL) xk_0 (fun r1 m1 w1 => ?_)
    obtain ⟨rfl, w1⟩ := w1
    rcases w1 with ⟨w1, rfl⟩ | ⟨w1, rfl⟩
    · refine xw_if_ne (pc := 27) (tgt := 36) C0 (by omega) dX12_kinds_27 rfl (fun b2 => ?_) (fun b2 => ?_)
      · refine xw_pk [0, 1, 2, 3] (L' := [(0, .ref (xw_ad al 200)), (1, .int (Int32.ofInt c9)), (2, .int (Int32.ofInt (k : Int))), (3, .int (Int32.ofInt (j : Int)))]) rfl ?_
        exact kx j hj hf w1
      · exfalso
        omega
    · refine xw_if_ne (pc := 27) (tgt := 36) C0 (by omega) dX12_kinds_27 rfl (fun b3 => ?_) (fun b3 => ?_)
      · exfalso
        omega
      · refine xw_iinc (pc := 30) (L' := [(3, .int (Int32.ofInt ((j : Int) + 1))), (0, .ref (xw_ad al 200)), (1, .int (Int32.ofInt c9)), (2, .int (Int32.ofInt (k : Int)))]) C0 3 dX12_kinds_30 rfl (by decide +kernel) rfl ?_
        refine xw_goto (pc := 33) (tgt := 21) C0 dX12_kinds_33 rfl ?_
        have hjk : j < k := by
          rcases Nat.lt_or_ge j k with h | h
          · exact h
          · exfalso; rw [show j = k by omega, hx_alk] at w1; cases w1
        have e1 : (j : Int) + 1 = ((j + 1 : Nat) : Int) := by omega
        rw [e1]
        refine xw_pk [1, 2, 3, 0] (L' := [(0, .ref (xw_ad al 200)), (1, .int (Int32.ofInt c9)), (2, .int (Int32.ofInt (k : Int))), (3, .int (Int32.ofInt ((j + 1 : Nat) : Int)))]) rfl ?_
        exact ih (j + 1) (by omega) (by omega) (fun i hi => by
          by_cases e : i = j
          · rw [e]; exact w1
          · exact hf i (by omega))
set_option maxRecDepth 20000 in
set_option maxHeartbeats 20000000 in
theorem xr_knL {l : Launch} {p : Program} {e : Env} {s : State} {m : MethodId} {args : Array Value} {below : List Frame} {meth : Method} {c : Code} {Q : State → Prop} {D : va_G} {dA : Nat → ClassId} {A : Nat → Prop} {al : List (Nat × Nat)} (C0 : sa_C p s m args c D dA A 4 vwCl sa_Ts cX12_kinds yX12_kinds.cls) (hU : sa_U D vwCl dA s) (hO : tb_Ou A s s.heap) (hKL : al.map Prod.snd = tc_KL) {v nm : Nat → Int} {μ : xw_M} (hG : xw_G xw_GL μ) (hK : hp_ok v nm) (hN : ∀ k : Nat, k < 77 → μ 202 k = v k) (kx : xw_W p l e { frames := 3, cells := 0, slots := 0, locals := 142 } s m args below meth c Q D dA A 4 vwCl tb_KT0 al 0 0 μ 50 [(1, .int (Int32.ofInt ((hx_kn v (v 1).toNat : Nat) : Int)))] []) : ∀ (fu9 : Nat) (k : Nat), ((v 1).toNat : Int) - (k : Int) < (fu9 : Int) → k ≤ (v 1).toNat → xw_W p l e { frames := 3, cells := 0, slots := 0, locals := 142 } s m args below meth c Q D dA A 4 vwCl tb_KT0 al 0 0 μ 9 [(0, .ref (xw_ad al 200)), (1, .int (Int32.ofInt ((hx_kn v k : Nat) : Int))), (2, .int (Int32.ofInt (k : Int)))] [] := by
  intro fu9
  induction fu9 with
  | zero => intro k hm hk; exfalso; omega
  | succ fu9 ih =>
    intro k hm hk
    have k1 := hK.2.1
    have hn1 : μ 202 1 = v 1 := hN 1 (by decide +kernel)
    refine xw_iload_n (pc := 9) C0 2 dX12_kinds_9 rfl rfl ?_
    refine xw_aload_n (pc := 10) C0 0 dX12_kinds_10 rfl rfl ?_
    refine xw_getR (pc := 11) (f := 14) C0 202 kcX12 dX12_kinds_11 (by decide +kernel) tv_1275 (xj_200 hKL) xk_0 rfl ((rfl).trans (xe_200_14 hG)) ?_
    refine xw_iconst (pc := 14) C0 dX12_kinds_14 ?_
    refine xw_iald (pc := 15) (z := v 1) C0 dX12_kinds_15 (xj_202 hKL) xk_1 (by omega) (by decide +kernel) rfl hn1 (fun g1 k1 => ?_)
    refine xw_icmp_ge (pc := 16) (tgt := 50) C0 (by omega) (by omega) dX12_kinds_16 rfl (fun b2 => ?_) (fun b2 => ?_)
    · have e9 : k = (v 1).toNat := by omega
      subst e9
      refine xw_pk [1] (L' := [(1, .int (Int32.ofInt ((hx_kn v (v 1).toNat : Nat) : Int)))]) rfl ?_
      exact kx
    · refine xw_iconst (pc := 19) C0 dX12_kinds_19 ?_
      refine xw_istore_n (pc := 20) (L' := [(3, .int (Int32.ofInt 0)), (0, .ref (xw_ad al 200)), (1, .int (Int32.ofInt ((hx_kn v k : Nat) : Int))), (2, .int (Int32.ofInt (k : Int)))]) C0 dX12_kinds_20 rfl (by decide +kernel) rfl ?_
      refine xw_pk [1, 2, 3, 0] (L' := [(0, .ref (xw_ad al 200)), (1, .int (Int32.ofInt ((hx_kn v k : Nat) : Int))), (2, .int (Int32.ofInt (k : Int))), (3, .int (Int32.ofInt ((0 : Nat) : Int)))]) rfl ?_
      refine xr_knI (v := v) (nm := nm) (k := k) (c9 := ((hx_kn v k : Nat) : Int)) (μ := μ) C0 hU hO hKL hG hK hN (by omega) (fun j hj hf hal => ?_) 9 0 (by omega) (Nat.zero_le _) (fun i hi => absurd hi (Nat.not_lt_zero i))
      refine xw_iload_n (pc := 36) C0 3 dX12_kinds_36 rfl rfl ?_
      refine xw_iload_n (pc := 37) C0 2 dX12_kinds_37 rfl rfl ?_
      refine xw_icmp_ne (pc := 38) (tgt := 44) C0 (by omega) (by omega) dX12_kinds_38 rfl (fun b51 => ?_) (fun b51 => ?_)
      · refine xw_iinc (pc := 44) (L' := [(2, .int (Int32.ofInt ((k : Int) + 1))), (0, .ref (xw_ad al 200)), (1, .int (Int32.ofInt ((hx_kn v k : Nat) : Int))), (3, .int (Int32.ofInt (j : Int)))]) C0 2 dX12_kinds_44 rfl (by decide +kernel) rfl ?_
        refine xw_goto (pc := 47) (tgt := 9) C0 dX12_kinds_47 rfl ?_
        have e3 : hx_kn v (k + 1) = hx_kn v k := by
          rw [hx_kne]
          rw [if_neg (fun q => by
            have q2 := (hx_bs0 k).mp q j (by omega)
            rw [hal] at q2
            cases q2), Nat.add_zero]
        have e1 : (k : Int) + 1 = ((k + 1 : Nat) : Int) := by omega
        rw [e1, ← e3]
        refine xw_pk [1, 2, 0] (L' := [(0, .ref (xw_ad al 200)), (1, .int (Int32.ofInt ((hx_kn v (k + 1) : Nat) : Int))), (2, .int (Int32.ofInt ((k + 1 : Nat) : Int)))]) rfl ?_
        exact ih (k + 1) (by omega) (by omega)
      · refine xw_iinc (pc := 41) (L' := [(1, .int (Int32.ofInt (((hx_kn v k : Nat) : Int) + 1))), (0, .ref (xw_ad al 200)), (2, .int (Int32.ofInt (k : Int))), (3, .int (Int32.ofInt (j : Int)))]) C0 1 dX12_kinds_41 rfl (by decide +kernel) rfl ?_
        refine xw_iinc (pc := 44) (L' := [(2, .int (Int32.ofInt ((k : Int) + 1))), (1, .int (Int32.ofInt (((hx_kn v k : Nat) : Int) + 1))), (0, .ref (xw_ad al 200)), (3, .int (Int32.ofInt (j : Int)))]) C0 2 dX12_kinds_44 rfl (by decide +kernel) rfl ?_
        refine xw_goto (pc := 47) (tgt := 9) C0 dX12_kinds_47 rfl ?_
        have e3 : hx_kn v (k + 1) = hx_kn v k + 1 := by
          rw [hx_kne]
          rw [if_pos ((hx_bs0 k).mpr (fun i hi => hf i (by omega)))]
        have e1 : (k : Int) + 1 = ((k + 1 : Nat) : Int) := by omega
        have e4 : ((hx_kn v k : Nat) : Int) + 1 = ((hx_kn v (k + 1) : Nat) : Int) := by omega
        rw [e1, e4]
        refine xw_pk [2, 1, 0] (L' := [(0, .ref (xw_ad al 200)), (1, .int (Int32.ofInt ((hx_kn v (k + 1) : Nat) : Int))), (2, .int (Int32.ofInt ((k + 1 : Nat) : Int)))]) rfl ?_
        exact ih (k + 1) (by omega) (by omega)
set_option maxRecDepth 20000 in
set_option maxHeartbeats 20000000 in
theorem xr_kindsV {l : Launch} {v nm : Nat → Int} {μ : xw_M} (hG : xw_G xw_GL μ) (hK : hp_ok v nm) (hN : ∀ k : Nat, k < 77 → μ 202 k = v k) : xw_MetI l vwCl sa_Ts tb_KT0 tc_KL yX12_kinds cX12_kinds 4 (some .int) 3 142 (fun ad => [.ref (ad 200)]) μ (fun r μ' => r = ((hx_kn v (v 1).toNat : Nat) : Int) ∧ xw_F [(200, 0, 0)] μ μ') :=
  xw_of (by decide +kernel) (fun _ => Nat.le_of_ble_eq_true rfl) (fun p e s m args below meth c D dA A al w0 sz C0 hU hO hKL hr hlk hA => by
    refine xw_aload_n (pc := 0) C0 0 dX12_kinds_0 rfl rfl ?_
    refine xw_iconst (pc := 1) C0 dX12_kinds_1 ?_
    refine xw_putI (pc := 2) (f := 0) C0 kcX12 dX12_kinds_2 (by decide +kernel) tv_1261 rfl rfl (xj_200 hKL) xk_0 rfl (by omega) (by omega) ?_
    refine xw_iconst (pc := 5) C0 dX12_kinds_5 ?_
    refine xw_istore_n (pc := 6) (L' := [(1, .int (Int32.ofInt 0)), (0, .ref (xw_ad al 200))]) C0 dX12_kinds_6 rfl (by decide +kernel) rfl ?_
    refine xw_iconst (pc := 7) C0 dX12_kinds_7 ?_
    refine xw_istore_n (pc := 8) (L' := [(2, .int (Int32.ofInt 0)), (1, .int (Int32.ofInt 0)), (0, .ref (xw_ad al 200))]) C0 dX12_kinds_8 rfl (by decide +kernel) rfl ?_
    have Ft1 : xw_F [(200, 0, 0)] μ (xw_u μ 200 0 0) := ((xw_F.rf (ML := [(200, 0, 0)])).u (show (200, 0, 0) ∈ _ by decide) ⟨by decide, by decide⟩)
    have vt1_200_0 : (xw_u μ 200 0 0) 200 0 = 0 := xw_ug
    generalize (xw_u μ 200 0 0) = t1 at Ft1 vt1_200_0 ⊢
    have hG_t1 := xw_GF hG Ft1 (by decide +kernel)
    have k1 := hK.2.1
    have hN9 : ∀ k : Nat, k < 77 → t1 202 k = v k := fun k hk => (Ft1 202 k (xw_oj (by decide +kernel) k)).trans (hN k hk)
    refine xw_pk [2, 1, 0] (L' := [(0, .ref (xw_ad al 200)), (1, .int (Int32.ofInt ((hx_kn v 0 : Nat) : Int))), (2, .int (Int32.ofInt ((0 : Nat) : Int)))]) rfl ?_
    refine xr_knL (v := v) (nm := nm) (μ := t1) C0 hU hO hKL hG_t1 hK hN9 ?_ 9 0 (by omega) (Nat.zero_le _)
    refine xw_iload_n (pc := 50) C0 0 dX12_kinds_50 rfl rfl ?_
    refine xw_iret C0 hA hr hlk rfl dX12_kinds_51 ?_
    exact ⟨_, rfl, rfl, ((xw_F.rf (ML := [(200, 0, 0)])).tr Ft1 (fun j i h => xw_o_sub (by decide +kernel) j i h))⟩)
