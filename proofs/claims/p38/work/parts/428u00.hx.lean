def hx_KT : List (Nat × tb_t) := [(1, (0, 0, 6)), (1, (0, 0, 8)), (1, (0, 0, 16)), (6, (0, 0, 30)), (6, (0, 0, 20)), (2, (0, (-1), 0)), (1, (0, (-1), 1)), (1, (0, (-1), 2)), (1, (0, (-1), 3)), (1, (0, (-1), 4)), (16, (0, (-2147483648), 2147483647)), (8, (0, 0, 99)), (8, (0, (-2147483648), 2147483647)), (24, (0, 0, 12)), (61, (0, (-2147483648), 2147483647)), (1, (0, 0, 59)), (1, (0, (-2147483648), 2147483647)), (1, (0, 0, 59)), (3, (0, (-2147483648), 2147483647)), (1, (0, 0, 59)), (3, (0, (-2147483648), 2147483647)), (1, (0, 0, 59)), (3, (0, (-2147483648), 2147483647)), (1, (0, 0, 59)), (3, (0, (-2147483648), 2147483647)), (1, (0, 0, 59)), (3, (0, (-2147483648), 2147483647)), (1, (0, 0, 59)), (3, (0, (-2147483648), 2147483647)), (1, (0, 0, 59)), (3, (0, (-2147483648), 2147483647)), (1, (0, 0, 59)), (3, (0, (-2147483648), 2147483647)), (1, (0, 0, 59)), (3, (0, (-2147483648), 2147483647)), (1, (0, 0, 59)), (3, (0, (-2147483648), 2147483647)), (1, (0, 0, 59)), (3, (0, (-2147483648), 2147483647)), (1, (0, 0, 59)), (3, (0, (-2147483648), 2147483647)), (1, (0, 0, 59)), (3, (0, (-2147483648), 2147483647)), (1, (0, 0, 59)), (3, (0, (-2147483648), 2147483647)), (1, (0, 0, 59)), (3, (0, (-2147483648), 2147483647)), (1, (0, 0, 59)), (3, (0, (-2147483648), 2147483647)), (1, (0, 0, 59)), (3, (0, (-2147483648), 2147483647)), (1, (0, 0, 59)), (3, (0, (-2147483648), 2147483647)), (1, (0, 0, 59)), (3, (0, (-2147483648), 2147483647)), (1, (0, 0, 59)), (3, (0, (-2147483648), 2147483647)), (1, (0, 0, 59)), (3, (0, (-2147483648), 2147483647)), (1, (0, 0, 59)), (3, (0, (-2147483648), 2147483647)), (1, (0, 0, 59)), (3, (0, (-2147483648), 2147483647)), (1, (0, 0, 59)), (3, (0, (-2147483648), 2147483647)), (1, (0, 0, 59)), (3, (0, (-2147483648), 2147483647)), (1, (0, 0, 59)), (3, (0, (-2147483648), 2147483647)), (1, (0, 0, 59)), (3, (0, (-2147483648), 2147483647)), (1, (0, 0, 59)), (3, (0, (-2147483648), 2147483647)), (1, (0, 0, 59)), (3, (0, (-2147483648), 2147483647)), (1, (0, 0, 59)), (3, (0, (-2147483648), 2147483647)), (1, (0, 0, 59)), (3, (0, (-2147483648), 2147483647)), (1, (0, 0, 59)), (3, (0, (-2147483648), 2147483647)), (1, (0, 0, 59)), (3, (0, (-2147483648), 2147483647)), (1, (0, 0, 59)), (3, (0, (-2147483648), 2147483647)), (1, (0, 0, 59)), (3, (0, (-2147483648), 2147483647)), (1, (0, 0, 59)), (3, (0, (-2147483648), 2147483647)), (1, (0, 0, 59)), (3, (0, (-2147483648), 2147483647)), (1, (0, 0, 59)), (3, (0, (-2147483648), 2147483647)), (1, (0, 0, 59)), (3, (0, (-2147483648), 2147483647)), (1, (0, 0, 59)), (3, (0, (-2147483648), 2147483647)), (1, (0, 0, 59)), (3, (0, (-2147483648), 2147483647)), (1, (0, 0, 59)), (3, (0, (-2147483648), 2147483647)), (1, (0, 0, 59)), (3, (0, (-2147483648), 2147483647)), (1, (0, 0, 59)), (3, (0, (-2147483648), 2147483647)), (1, (0, 0, 59)), (3, (0, (-2147483648), 2147483647)), (1, (0, 0, 59)), (3, (0, (-2147483648), 2147483647)), (1, (0, 0, 59)), (3, (0, (-2147483648), 2147483647)), (1, (0, 0, 59)), (3, (0, (-2147483648), 2147483647)), (1, (0, 0, 59)), (3, (0, (-2147483648), 2147483647)), (1, (0, 0, 59)), (3, (0, (-2147483648), 2147483647)), (1, (0, 0, 59)), (3, (0, (-2147483648), 2147483647)), (1, (0, 0, 59)), (3, (0, (-2147483648), 2147483647)), (1, (0, 0, 59)), (3, (0, (-2147483648), 2147483647)), (1, (0, 0, 59)), (3, (0, (-2147483648), 2147483647)), (1, (0, 0, 59)), (3, (0, (-2147483648), 2147483647)), (1, (0, 0, 59)), (3, (0, (-2147483648), 2147483647)), (1, (0, 0, 59)), (3, (0, (-2147483648), 2147483647)), (1, (0, 0, 59)), (3, (0, (-2147483648), 2147483647)), (1, (0, 0, 59)), (3, (0, (-2147483648), 2147483647)), (1, (0, 0, 59)), (2, (0, (-2147483648), 2147483647)), (1, (0, 0, 6)), (1, (0, 0, 8)), (1, (0, 0, 16)), (6, (0, 0, 30)), (6, (0, 0, 20)), (2, (0, (-1), 0)), (1, (0, (-1), 1)), (1, (0, (-1), 2)), (1, (0, (-1), 3)), (1, (0, (-1), 4)), (16, (0, (-2147483648), 2147483647)), (8, (0, 0, 99)), (8, (0, (-2147483648), 2147483647)), (24, (0, 0, 12)), (61, (0, (-2147483648), 2147483647)), (1, (0, 0, 59)), (1, (0, (-2147483648), 2147483647)), (1, (0, 0, 59)), (3, (0, (-2147483648), 2147483647)), (1, (0, 0, 59)), (3, (0, (-2147483648), 2147483647)), (1, (0, 0, 59)), (3, (0, (-2147483648), 2147483647)), (1, (0, 0, 59)), (3, (0, (-2147483648), 2147483647)), (1, (0, 0, 59)), (3, (0, (-2147483648), 2147483647)), (1, (0, 0, 59)), (3, (0, (-2147483648), 2147483647)), (1, (0, 0, 59)), (3, (0, (-2147483648), 2147483647)), (1, (0, 0, 59)), (3, (0, (-2147483648), 2147483647)), (1, (0, 0, 59)), (3, (0, (-2147483648), 2147483647)), (1, (0, 0, 59)), (3, (0, (-2147483648), 2147483647)), (1, (0, 0, 59)), (3, (0, (-2147483648), 2147483647)), (1, (0, 0, 59)), (3, (0, (-2147483648), 2147483647)), (1, (0, 0, 59)), (3, (0, (-2147483648), 2147483647)), (1, (0, 0, 59)), (3, (0, (-2147483648), 2147483647)), (1, (0, 0, 59)), (3, (0, (-2147483648), 2147483647)), (1, (0, 0, 59)), (3, (0, (-2147483648), 2147483647)), (1, (0, 0, 59)), (3, (0, (-2147483648), 2147483647)), (1, (0, 0, 59)), (3, (0, (-2147483648), 2147483647)), (1, (0, 0, 59)), (3, (0, (-2147483648), 2147483647)), (1, (0, 0, 59)), (3, (0, (-2147483648), 2147483647)), (1, (0, 0, 59)), (3, (0, (-2147483648), 2147483647)), (1, (0, 0, 59)), (3, (0, (-2147483648), 2147483647)), (1, (0, 0, 59)), (3, (0, (-2147483648), 2147483647)), (1, (0, 0, 59)), (3, (0, (-2147483648), 2147483647)), (1, (0, 0, 59)), (3, (0, (-2147483648), 2147483647)), (1, (0, 0, 59)), (3, (0, (-2147483648), 2147483647)), (1, (0, 0, 59)), (3, (0, (-2147483648), 2147483647)), (1, (0, 0, 59)), (3, (0, (-2147483648), 2147483647)), (1, (0, 0, 59)), (3, (0, (-2147483648), 2147483647)), (1, (0, 0, 59)), (3, (0, (-2147483648), 2147483647)), (1, (0, 0, 59)), (3, (0, (-2147483648), 2147483647)), (1, (0, 0, 59)), (3, (0, (-2147483648), 2147483647)), (1, (0, 0, 59)), (3, (0, (-2147483648), 2147483647)), (1, (0, 0, 59)), (3, (0, (-2147483648), 2147483647)), (1, (0, 0, 59)), (3, (0, (-2147483648), 2147483647)), (1, (0, 0, 59)), (3, (0, (-2147483648), 2147483647)), (1, (0, 0, 59)), (3, (0, (-2147483648), 2147483647)), (1, (0, 0, 59)), (3, (0, (-2147483648), 2147483647)), (1, (0, 0, 59)), (3, (0, (-2147483648), 2147483647)), (1, (0, 0, 59)), (3, (0, (-2147483648), 2147483647)), (1, (0, 0, 59)), (3, (0, (-2147483648), 2147483647)), (1, (0, 0, 59)), (3, (0, (-2147483648), 2147483647)), (1, (0, 0, 59)), (3, (0, (-2147483648), 2147483647)), (1, (0, 0, 59)), (3, (0, (-2147483648), 2147483647)), (1, (0, 0, 59)), (3, (0, (-2147483648), 2147483647)), (1, (0, 0, 59)), (3, (0, (-2147483648), 2147483647)), (1, (0, 0, 59)), (3, (0, (-2147483648), 2147483647)), (1, (0, 0, 59)), (3, (0, (-2147483648), 2147483647)), (1, (0, 0, 59)), (3, (0, (-2147483648), 2147483647)), (1, (0, 0, 59)), (3, (0, (-2147483648), 2147483647)), (1, (0, 0, 59)), (3, (0, (-2147483648), 2147483647)), (1, (0, 0, 59)), (3, (0, (-2147483648), 2147483647)), (1, (0, 0, 59)), (3, (0, (-2147483648), 2147483647)), (1, (0, 0, 59)), (3, (0, (-2147483648), 2147483647)), (1, (0, 0, 59)), (3, (0, (-2147483648), 2147483647)), (1, (0, 0, 59)), (3, (0, (-2147483648), 2147483647)), (1, (0, 0, 59)), (3, (0, (-2147483648), 2147483647)), (1, (0, 0, 59)), (3, (0, (-2147483648), 2147483647)), (1, (0, 0, 59)), (3, (0, (-2147483648), 2147483647)), (1, (0, 0, 59)), (2, (0, (-2147483648), 2147483647))]
set_option maxRecDepth 100000 in
theorem hx_n379 : ∀ k : Fin 379, ∃ lo hi : Int, tb_rl hr_NT (k : Nat) = some (0, lo, hi) ∧ -2147483648 ≤ lo ∧ hi ≤ 2147483647 := by
  have h : ∀ k : Fin 379, (match tb_rl hr_NT (k : Nat) with
    | some t => Nat.beq t.1 0 && (decide (-2147483648 ≤ t.2.1) && decide (t.2.2 ≤ 2147483647))
    | none => false) = true := by decide +kernel
  intro k
  have h1 := h k
  split at h1
  · rename_i t ht
    rw [Bool.and_eq_true, Bool.and_eq_true] at h1
    obtain ⟨a, lo, hi⟩ := t
    have e : a = 0 := Nat.eq_of_beq_eq_true h1.1
    subst e
    exact ⟨lo, hi, ht, of_decide_eq_true h1.2.1, of_decide_eq_true h1.2.2⟩
  · cases h1
theorem hx_k0 : ∀ k : Fin 379, tb_rl hx_KT ((k : Nat) + 0) = tb_rl hr_NT (k : Nat) := by decide +kernel
theorem hx_k1 : ∀ k : Fin 379, tb_rl hx_KT ((k : Nat) + 379) = tb_rl hr_NT (k : Nat) := by decide +kernel
set_option maxRecDepth 20000 in
set_option maxHeartbeats 20000000 in
theorem xr_imgN {l : Launch} {μ : xw_M} (hG : xw_G xw_GL μ) {v : Int} (hv : v < 0 ∨ 2 ≤ v) (hr9 : -2147483648 ≤ v ∧ v ≤ 2147483647) : xw_MetI l vwCl sa_Ts tb_KT0 tc_KL yX12_image cX12_image 3 (some .boolean) 3 142 (fun ad => [.ref (ad 200), .int (Int32.ofInt v)]) μ (fun r μ' => r = 0 ∧ xw_F [(200, 0, 0)] μ μ') :=
  xw_of (by decide +kernel) (fun _ => Nat.le_of_ble_eq_true rfl) (fun p e s m args below meth c D dA A al w0 sz C0 hU hO hKL hr hlk hA => by
    refine xw_aload_n (pc := 0) C0 0 dX12_image_0 rfl rfl ?_
    refine xw_iconst (pc := 1) C0 dX12_image_1 ?_
    refine xw_putI (pc := 2) (f := 0) C0 kcX12 dX12_image_2 (by decide +kernel) tv_1261 rfl rfl (xj_200 hKL) xk_0 rfl (by omega) (by omega) ?_
    refine xw_iload_n (pc := 5) C0 1 dX12_image_5 rfl rfl ?_
    refine xw_iconst (pc := 6) C0 dX12_image_6 ?_
    refine xw_iconst (pc := 7) C0 dX12_image_7 ?_
    refine xw_callSI (pc := 8) (μ := (xw_u μ 200 0 0)) (rest := []) (As := [.int (Int32.ofInt v), .int (Int32.ofInt 0), .int (Int32.ofInt 1)]) C0 hU hO sa_Tg hKL (xm_isIn (l := l) (v := v) (a := 0) (b := 1) (by omega) (by omega) (by omega)) tv_1481 dX12_image_8 tv_1479 tv_1480 tv_13 yb_X12_isIn (by decide +kernel) rfl rfl rfl (by decide +kernel) (Nat.le_of_ble_eq_true rfl) (fun r1 m1 w1 => ?_)
    obtain ⟨rfl, w1⟩ := w1
    rcases w1 with ⟨w1, rfl⟩ | ⟨w1, rfl⟩
    · exfalso
      omega
    refine xw_if_ne (pc := 11) (tgt := 16) C0 (by omega) dX12_image_11 rfl (fun b2 => ?_) (fun b2 => ?_)
    · exfalso
      omega
    · refine xw_iconst (pc := 14) C0 dX12_image_14 ?_
      refine xw_iret C0 hA hr hlk rfl dX12_image_15 ?_
      have Ft1 : xw_F [(200, 0, 0)] μ (xw_u μ 200 0 0) := ((xw_F.rf (ML := [(200, 0, 0)])).u (show (200, 0, 0) ∈ _ by decide) ⟨by decide, by decide⟩)
      have vt1_200_0 : (xw_u μ 200 0 0) 200 0 = 0 := xw_ug
      generalize (xw_u μ 200 0 0) = t1 at Ft1 vt1_200_0 ⊢
      exact ⟨_, rfl, rfl, ((xw_F.rf (ML := [(200, 0, 0)])).tr Ft1 (fun j i h => xw_o_sub (by decide +kernel) j i h))⟩)
set_option maxRecDepth 20000 in
set_option maxHeartbeats 20000000 in
theorem xr_rstN {l : Launch} {μ : xw_M} (hG : xw_G xw_GL μ) {v : Int} (hv : v < 0 ∨ 2 ≤ v) (hr9 : -2147483648 ≤ v ∧ v ≤ 2147483647) : xw_MetI l vwCl sa_Ts tb_KT0 tc_KL yX12_restore cX12_restore 3 (some .boolean) 3 142 (fun ad => [.ref (ad 200), .int (Int32.ofInt v)]) μ (fun r μ' => r = 0 ∧ xw_F [(200, 0, 0)] μ μ') :=
  xw_of (by decide +kernel) (fun _ => Nat.le_of_ble_eq_true rfl) (fun p e s m args below meth c D dA A al w0 sz C0 hU hO hKL hr hlk hA => by
    refine xw_aload_n (pc := 0) C0 0 dX12_restore_0 rfl rfl ?_
    refine xw_iconst (pc := 1) C0 dX12_restore_1 ?_
    refine xw_putI (pc := 2) (f := 0) C0 kcX12 dX12_restore_2 (by decide +kernel) tv_1261 rfl rfl (xj_200 hKL) xk_0 rfl (by omega) (by omega) ?_
    refine xw_iload_n (pc := 5) C0 1 dX12_restore_5 rfl rfl ?_
    refine xw_iconst (pc := 6) C0 dX12_restore_6 ?_
    refine xw_iconst (pc := 7) C0 dX12_restore_7 ?_
    refine xw_callSI (pc := 8) (μ := (xw_u μ 200 0 0)) (rest := []) (As := [.int (Int32.ofInt v), .int (Int32.ofInt 0), .int (Int32.ofInt 1)]) C0 hU hO sa_Tg hKL (xm_isIn (l := l) (v := v) (a := 0) (b := 1) (by omega) (by omega) (by omega)) tv_1481 dX12_restore_8 tv_1479 tv_1480 tv_13 yb_X12_isIn (by decide +kernel) rfl rfl rfl (by decide +kernel) (Nat.le_of_ble_eq_true rfl) (fun r1 m1 w1 => ?_)
    obtain ⟨rfl, w1⟩ := w1
    rcases w1 with ⟨w1, rfl⟩ | ⟨w1, rfl⟩
    · exfalso
      omega
    refine xw_if_eq (pc := 11) (tgt := 23) C0 (by omega) dX12_restore_11 rfl (fun b2 => ?_) (fun b2 => ?_)
    · refine xw_iconst (pc := 23) C0 dX12_restore_23 ?_
      refine xw_iret C0 hA hr hlk rfl dX12_restore_24 ?_
      have Ft1 : xw_F [(200, 0, 0)] μ (xw_u μ 200 0 0) := ((xw_F.rf (ML := [(200, 0, 0)])).u (show (200, 0, 0) ∈ _ by decide) ⟨by decide, by decide⟩)
      have vt1_200_0 : (xw_u μ 200 0 0) 200 0 = 0 := xw_ug
      generalize (xw_u μ 200 0 0) = t1 at Ft1 vt1_200_0 ⊢
      exact ⟨_, rfl, rfl, ((xw_F.rf (ML := [(200, 0, 0)])).tr Ft1 (fun j i h => xw_o_sub (by decide +kernel) j i h))⟩
    · exfalso
      omega)
set_option maxRecDepth 20000 in
set_option maxHeartbeats 20000000 in
theorem xr_imA0 {l : Launch} {p : Program} {e : Env} {s : State} {m : MethodId} {args : Array Value} {below : List Frame} {meth : Method} {c : Code} {Q : State → Prop} {D : va_G} {dA : Nat → ClassId} {A : Nat → Prop} {al : List (Nat × Nat)} (C0 : sa_C p s m args c D dA A 3 vwCl sa_Ts cX12_image yX12_image.cls) (hU : sa_U D vwCl dA s) (hO : tb_Ou A s s.heap) (hKL : al.map Prod.snd = tc_KL) {μ : xw_M} (kx : ∀ ν : xw_M, (∀ i : Nat, i < 379 → ν 204 (i + 0) = μ 202 i) → xw_F [(204, 0, 378)] μ ν → xw_G xw_GL ν → xw_W p l e { frames := 3, cells := 0, slots := 0, locals := 142 } s m args below meth c Q D dA A 3 vwCl tb_KT0 al 0 0 ν 49 [(0, .ref (xw_ad al 200)), (1, .int (Int32.ofInt 0))] []) : ∀ (fu9 : Nat) (k : Nat) (ν : xw_M), 379 - (k : Int) < (fu9 : Int) → k ≤ 379 → (∀ i : Nat, i < k → ν 204 (i + 0) = μ 202 i) → xw_F [(204, 0, 378)] μ ν → xw_G xw_GL ν → xw_W p l e { frames := 3, cells := 0, slots := 0, locals := 142 } s m args below meth c Q D dA A 3 vwCl tb_KT0 al 0 0 ν 18 [(2, .int (Int32.ofInt (k : Int))), (0, .ref (xw_ad al 200)), (1, .int (Int32.ofInt 0))] [] := by
  intro fu9
  induction fu9 with
  | zero => intro k ν hm hk hz hF hG_ν; exfalso; omega
  | succ fu9 ih =>
    intro k ν hm hk hz hF hG_ν
    refine xw_iload_n (pc := 18) C0 0 dX12_image_18 rfl rfl ?_
    refine xw_sipush (pc := 19) C0 dX12_image_19 (by decide +kernel) ?_
    refine xw_icmp_ge (pc := 22) (tgt := 49) C0 (by omega) (by omega) dX12_image_22 rfl (fun b1 => ?_) (fun b1 => ?_)
    · have e9 : k = 379 := by omega
      subst e9
      refine xw_pk [1, 2] (L' := [(0, .ref (xw_ad al 200)), (1, .int (Int32.ofInt 0))]) rfl ?_
      exact kx ν hz hF hG_ν
    · refine xw_aload_n (pc := 25) C0 1 dX12_image_25 rfl rfl ?_
      refine xw_getR (pc := 26) (f := 16) C0 204 kcX12 dX12_image_26 (by decide +kernel) tv_1277 (xj_200 hKL) xk_0 rfl ((rfl).trans (xe_200_16 hG_ν)) ?_
      refine xw_sipush (pc := 29) C0 dX12_image_29 (by decide +kernel) ?_
      refine xw_iload_n (pc := 32) C0 2 dX12_image_32 rfl rfl ?_
      refine xw_imul (pc := 33) C0 dX12_image_33 ?_
      refine xw_iload_n (pc := 34) C0 0 dX12_image_34 rfl rfl ?_
      refine xw_iadd (pc := 35) C0 dX12_image_35 ?_
      refine xw_nI (congrArg Int32.ofInt (show (379 * 0) + (k : Int) = ((k + 0 : Nat) : Int) by omega)) ?_
      refine xw_aload_n (pc := 36) C0 1 dX12_image_36 rfl rfl ?_
      refine xw_getR (pc := 37) (f := 14) C0 202 kcX12 dX12_image_37 (by decide +kernel) tv_1275 (xj_200 hKL) xk_0 rfl ((rfl).trans (xe_200_14 hG_ν)) ?_
      refine xw_iload_n (pc := 40) C0 0 dX12_image_40 rfl rfl ?_
      obtain ⟨lo9, hi9, rl9, b9, c9⟩ := hx_n379 ⟨k, by omega⟩
      have nl9 := (hx_k0 ⟨k, by omega⟩).trans rl9
      refine xw_iald (pc := 41) (z := μ 202 k) C0 dX12_image_41 (xj_202 hKL) xk_1 (by omega) (by decide +kernel) rl9 (hF 202 _ (xw_oj (by decide +kernel) _)) (fun g2 k2 => ?_)
      refine xw_iast (pc := 42) C0 dX12_image_42 (xj_204 hKL) xk_10 (by omega) (by decide +kernel) nl9 (by omega) (by omega) ?_
      refine xw_iinc (pc := 43) (L' := [(2, .int (Int32.ofInt ((k : Int) + 1))), (0, .ref (xw_ad al 200)), (1, .int (Int32.ofInt 0))]) C0 0 dX12_image_43 rfl (by decide +kernel) rfl ?_
      refine xw_goto (pc := 46) (tgt := 18) C0 dX12_image_46 rfl ?_
      have hz9 : ∀ i : Nat, i < k + 1 → (xw_u ν 204 (((k + 0 : Nat) : Int)).toNat (μ 202 k)) 204 (i + 0) = μ 202 i := fun i h2 => by
        by_cases e9 : i = k
        · subst e9; exact xw_ug
        · exact (xw_un (fun q => e9 (by have q2 := q.2; omega))).trans (hz i (by omega))
      have Fz9 : xw_F [(204, 0, 378)] ν (xw_u ν 204 (((k + 0 : Nat) : Int)).toNat (μ 202 k)) := ((xw_F.rf (ML := [(204, 0, 378)])).u (show (204, 0, 378) ∈ _ by decide) ⟨by omega, by omega⟩)
      generalize (xw_u ν 204 (((k + 0 : Nat) : Int)).toNat (μ 202 k)) = z9 at Fz9 hz9 ⊢
      have e1 : (k : Int) + 1 = ((k + 1 : Nat) : Int) := by omega
      rw [e1]
      refine xw_pk [0, 1, 2] (L' := [(2, .int (Int32.ofInt ((k + 1 : Nat) : Int))), (0, .ref (xw_ad al 200)), (1, .int (Int32.ofInt 0))]) rfl ?_
      exact ih (k + 1) z9 (by omega) (by omega) hz9 (hF.tr Fz9 (fun j i h => h)) (xw_GF hG_ν Fz9 (by decide +kernel))
set_option maxRecDepth 20000 in
set_option maxHeartbeats 20000000 in
theorem xr_imB0 {l : Launch} {p : Program} {e : Env} {s : State} {m : MethodId} {args : Array Value} {below : List Frame} {meth : Method} {c : Code} {Q : State → Prop} {D : va_G} {dA : Nat → ClassId} {A : Nat → Prop} {al : List (Nat × Nat)} (C0 : sa_C p s m args c D dA A 3 vwCl sa_Ts cX12_image yX12_image.cls) (hU : sa_U D vwCl dA s) (hO : tb_Ou A s s.heap) (hKL : al.map Prod.snd = tc_KL) {μ : xw_M} (kx : ∀ ν : xw_M, (∀ i : Nat, i < 14 → ν 209 (i + 0) = μ 207 i) → xw_F [(209, 0, 13)] μ ν → xw_G xw_GL ν → xw_W p l e { frames := 3, cells := 0, slots := 0, locals := 142 } s m args below meth c Q D dA A 3 vwCl tb_KT0 al 0 0 ν 80 [(0, .ref (xw_ad al 200)), (1, .int (Int32.ofInt 0))] []) : ∀ (fu9 : Nat) (k : Nat) (ν : xw_M), 14 - (k : Int) < (fu9 : Int) → k ≤ 14 → (∀ i : Nat, i < k → ν 209 (i + 0) = μ 207 i) → xw_F [(209, 0, 13)] μ ν → xw_G xw_GL ν → xw_W p l e { frames := 3, cells := 0, slots := 0, locals := 142 } s m args below meth c Q D dA A 3 vwCl tb_KT0 al 0 0 ν 51 [(2, .int (Int32.ofInt (k : Int))), (0, .ref (xw_ad al 200)), (1, .int (Int32.ofInt 0))] [] := by
  intro fu9
  induction fu9 with
  | zero => intro k ν hm hk hz hF hG_ν; exfalso; omega
  | succ fu9 ih =>
    intro k ν hm hk hz hF hG_ν
    refine xw_iload_n (pc := 51) C0 0 dX12_image_51 rfl rfl ?_
    refine xw_bipush (pc := 52) C0 dX12_image_52 (by decide +kernel) ?_
    refine xw_icmp_ge (pc := 54) (tgt := 80) C0 (by omega) (by omega) dX12_image_54 rfl (fun b1 => ?_) (fun b1 => ?_)
    · have e9 : k = 14 := by omega
      subst e9
      refine xw_pk [1, 2] (L' := [(0, .ref (xw_ad al 200)), (1, .int (Int32.ofInt 0))]) rfl ?_
      exact kx ν hz hF hG_ν
    · refine xw_aload_n (pc := 57) C0 1 dX12_image_57 rfl rfl ?_
      refine xw_getR (pc := 58) (f := 21) C0 209 kcX12 dX12_image_58 (by decide +kernel) tv_1282 (xj_200 hKL) xk_0 rfl ((rfl).trans (xe_200_21 hG_ν)) ?_
      refine xw_bipush (pc := 61) C0 dX12_image_61 (by decide +kernel) ?_
      refine xw_iload_n (pc := 63) C0 2 dX12_image_63 rfl rfl ?_
      refine xw_imul (pc := 64) C0 dX12_image_64 ?_
      refine xw_iload_n (pc := 65) C0 0 dX12_image_65 rfl rfl ?_
      refine xw_iadd (pc := 66) C0 dX12_image_66 ?_
      refine xw_nI (congrArg Int32.ofInt (show (14 * 0) + (k : Int) = ((k + 0 : Nat) : Int) by omega)) ?_
      refine xw_aload_n (pc := 67) C0 1 dX12_image_67 rfl rfl ?_
      refine xw_getR (pc := 68) (f := 19) C0 207 kcX12 dX12_image_68 (by decide +kernel) tv_1280 (xj_200 hKL) xk_0 rfl ((rfl).trans (xe_200_19 hG_ν)) ?_
      refine xw_iload_n (pc := 71) C0 0 dX12_image_71 rfl rfl ?_
      refine xw_lald (pc := 72) (z := ν 207 ((k : Int)).toNat) C0 dX12_image_72 (xj_207 hKL) xk_78 (by omega) (by decide +kernel) (xw_rl (by omega)) (rfl) (fun g2 k2 => ?_)
      refine xw_last (pc := 73) C0 dX12_image_73 (xj_209 hKL) xk_80 (by omega) (by decide +kernel) (xw_rl (by omega)) (by omega) (by omega) ?_
      refine xw_iinc (pc := 74) (L' := [(2, .int (Int32.ofInt ((k : Int) + 1))), (0, .ref (xw_ad al 200)), (1, .int (Int32.ofInt 0))]) C0 0 dX12_image_74 rfl (by decide +kernel) rfl ?_
      refine xw_goto (pc := 77) (tgt := 51) C0 dX12_image_77 rfl ?_
      have hz9 : ∀ i : Nat, i < k + 1 → (xw_u ν 209 (((k + 0 : Nat) : Int)).toNat (ν 207 ((k : Int)).toNat)) 209 (i + 0) = μ 207 i := fun i h2 => by
        by_cases e9 : i = k
        · subst e9; exact xw_ug.trans (hF 207 _ (xw_oj (by decide +kernel) _))
        · exact (xw_un (fun q => e9 (by have q2 := q.2; omega))).trans (hz i (by omega))
      have Fz9 : xw_F [(209, 0, 13)] ν (xw_u ν 209 (((k + 0 : Nat) : Int)).toNat (ν 207 ((k : Int)).toNat)) := ((xw_F.rf (ML := [(209, 0, 13)])).u (show (209, 0, 13) ∈ _ by decide) ⟨by omega, by omega⟩)
      generalize (xw_u ν 209 (((k + 0 : Nat) : Int)).toNat (ν 207 ((k : Int)).toNat)) = z9 at Fz9 hz9 ⊢
      have e1 : (k : Int) + 1 = ((k + 1 : Nat) : Int) := by omega
      rw [e1]
      refine xw_pk [0, 1, 2] (L' := [(2, .int (Int32.ofInt ((k + 1 : Nat) : Int))), (0, .ref (xw_ad al 200)), (1, .int (Int32.ofInt 0))]) rfl ?_
      exact ih (k + 1) z9 (by omega) (by omega) hz9 (hF.tr Fz9 (fun j i h => h)) (xw_GF hG_ν Fz9 (by decide +kernel))
set_option maxRecDepth 20000 in
set_option maxHeartbeats 20000000 in
theorem xr_img0 {l : Launch} {μ : xw_M} (hG : xw_G xw_GL μ) : xw_MetI l vwCl sa_Ts tb_KT0 tc_KL yX12_image cX12_image 3 (some .boolean) 3 142 (fun ad => [.ref (ad 200), .int (Int32.ofInt 0)]) μ (fun r μ' => r = 1 ∧ (∀ i : Nat, i < 379 → μ' 204 (i + 0) = μ 202 i) ∧ μ' 210 0 = 1 ∧ (∀ i : Nat, i < 14 → μ' 209 (i + 0) = μ 207 i) ∧ xw_F [(200, 0, 0), (204, 0, 378), (209, 0, 13), (210, 0, 0)] μ μ') :=
  xw_of (by decide +kernel) (fun _ => Nat.le_of_ble_eq_true rfl) (fun p e s m args below meth c D dA A al w0 sz C0 hU hO hKL hr hlk hA => by
    refine xw_aload_n (pc := 0) C0 0 dX12_image_0 rfl rfl ?_
    refine xw_iconst (pc := 1) C0 dX12_image_1 ?_
    refine xw_putI (pc := 2) (f := 0) C0 kcX12 dX12_image_2 (by decide +kernel) tv_1261 rfl rfl (xj_200 hKL) xk_0 rfl (by omega) (by omega) ?_
    refine xw_iload_n (pc := 5) C0 1 dX12_image_5 rfl rfl ?_
    refine xw_iconst (pc := 6) C0 dX12_image_6 ?_
    refine xw_iconst (pc := 7) C0 dX12_image_7 ?_
    refine xw_callSI (pc := 8) (μ := (xw_u μ 200 0 0)) (rest := []) (As := [.int (Int32.ofInt 0), .int (Int32.ofInt 0), .int (Int32.ofInt 1)]) C0 hU hO sa_Tg hKL (xm_isIn (l := l) (v := 0) (a := 0) (b := 1) (by omega) (by omega) (by omega)) tv_1481 dX12_image_8 tv_1479 tv_1480 tv_13 yb_X12_isIn (by decide +kernel) rfl rfl rfl (by decide +kernel) (Nat.le_of_ble_eq_true rfl) (fun r1 m1 w1 => ?_)
    obtain ⟨rfl, w1⟩ := w1
    rcases w1.symm with ⟨w1, rfl⟩ | ⟨w1, rfl⟩
    · exfalso
      omega
    refine xw_if_ne (pc := 11) (tgt := 16) C0 (by omega) dX12_image_11 rfl (fun b2 => ?_) (fun b2 => ?_)
    · refine xw_iconst (pc := 16) C0 dX12_image_16 ?_
      refine xw_istore_n (pc := 17) (L' := [(2, .int (Int32.ofInt 0)), (0, .ref (xw_ad al 200)), (1, .int (Int32.ofInt 0))]) C0 dX12_image_17 rfl (by decide +kernel) rfl ?_
      have Ft1 : xw_F [(200, 0, 0)] μ (xw_u μ 200 0 0) := ((xw_F.rf (ML := [(200, 0, 0)])).u (show (200, 0, 0) ∈ _ by decide) ⟨by decide, by decide⟩)
      have vt1_200_0 : (xw_u μ 200 0 0) 200 0 = 0 := xw_ug
      generalize (xw_u μ 200 0 0) = t1 at Ft1 vt1_200_0 ⊢
      have hG_t1 := xw_GF hG Ft1 (by decide +kernel)
      refine xw_pk [0, 1, 2] (L' := [(2, .int (Int32.ofInt ((0 : Nat) : Int))), (0, .ref (xw_ad al 200)), (1, .int (Int32.ofInt 0))]) rfl ?_
      refine xr_imA0 (μ := t1) C0 hU hO hKL (fun ν hz hF hG_ν => ?_) 380 0 t1 (by omega) (by omega) (fun i h => absurd h (Nat.not_lt_zero i)) xw_F.rf hG_t1
      refine xw_iconst (pc := 49) C0 dX12_image_49 ?_
      refine xw_istore_n (pc := 50) (L' := [(2, .int (Int32.ofInt 0)), (0, .ref (xw_ad al 200)), (1, .int (Int32.ofInt 0))]) C0 dX12_image_50 rfl (by decide +kernel) rfl ?_
      refine xw_pk [0, 1, 2] (L' := [(2, .int (Int32.ofInt ((0 : Nat) : Int))), (0, .ref (xw_ad al 200)), (1, .int (Int32.ofInt 0))]) rfl ?_
      refine xr_imB0 (μ := ν) C0 hU hO hKL (fun ξ hz2 hF2 hG_ξ => ?_) 15 0 ν (by omega) (by omega) (fun i h => absurd h (Nat.not_lt_zero i)) xw_F.rf hG_ν
      refine xw_aload_n (pc := 80) C0 0 dX12_image_80 rfl rfl ?_
      refine xw_getR (pc := 81) (f := 22) C0 210 kcX12 dX12_image_81 (by decide +kernel) tv_1283 (xj_200 hKL) xk_0 rfl ((rfl).trans (xe_200_22 hG_ξ)) ?_
      refine xw_iload_n (pc := 84) C0 1 dX12_image_84 rfl rfl ?_
      refine xw_iconst (pc := 85) C0 dX12_image_85 ?_
      refine xw_zast (pc := 86) (i := 0) C0 dX12_image_86 (xj_210 hKL) xk_81 (by decide +kernel) (by decide +kernel) rfl (Or.inr rfl) (by decide +kernel) ?_
      refine xw_mu (μ' := (xw_u ξ 210 0 1)) rfl ?_
      refine xw_iconst (pc := 87) C0 dX12_image_87 ?_
      refine xw_iret C0 hA hr hlk rfl dX12_image_88 ?_
      have Ft21 : xw_F [(210, 0, 0)] ξ (xw_u ξ 210 0 1) := ((xw_F.rf (ML := [(210, 0, 0)])).u (show (210, 0, 0) ∈ _ by decide) ⟨by decide, by decide⟩)
      have vt21_210_0 : (xw_u ξ 210 0 1) 210 0 = 1 := xw_ug
      generalize (xw_u ξ 210 0 1) = t21 at Ft21 vt21_210_0 ⊢
      exact ⟨_, rfl, rfl, fun i hi => (Ft21 204 _ (xw_oj (by decide +kernel) _)).trans ((hF2 204 _ (xw_oj (by decide +kernel) _)).trans ((hz i hi).trans (Ft1 202 _ (xw_oj (by decide +kernel) _)))), vt21_210_0, fun i hi => (Ft21 209 _ (xw_oj (by decide +kernel) _)).trans ((hz2 i hi).trans ((hF 207 _ (xw_oj (by decide +kernel) _)).trans (Ft1 207 _ (xw_oj (by decide +kernel) _)))), (((Ft1.mono (fun j i h => xw_o_sub (by decide +kernel) j i h)).tr hF (fun j i h => xw_o_sub (by decide +kernel) j i h)).tr hF2 (fun j i h => xw_o_sub (by decide +kernel) j i h)).tr Ft21 (fun j i h => xw_o_sub (by decide +kernel) j i h)⟩
    · exfalso
      omega)
set_option maxRecDepth 20000 in
set_option maxHeartbeats 20000000 in
theorem xr_rsA0 {l : Launch} {p : Program} {e : Env} {s : State} {m : MethodId} {args : Array Value} {below : List Frame} {meth : Method} {c : Code} {Q : State → Prop} {D : va_G} {dA : Nat → ClassId} {A : Nat → Prop} {al : List (Nat × Nat)} (C0 : sa_C p s m args c D dA A 3 vwCl sa_Ts cX12_restore yX12_restore.cls) (hU : sa_U D vwCl dA s) (hO : tb_Ou A s s.heap) (hKL : al.map Prod.snd = tc_KL) {μ : xw_M} (kx : ∀ ν : xw_M, (∀ i : Nat, i < 379 → ν 202 i = μ 204 (i + 0)) → xw_F [(202, 0, 378)] μ ν → xw_G xw_GL ν → xw_W p l e { frames := 3, cells := 0, slots := 0, locals := 142 } s m args below meth c Q D dA A 3 vwCl tb_KT0 al 0 0 ν 58 [(0, .ref (xw_ad al 200)), (1, .int (Int32.ofInt 0))] []) : ∀ (fu9 : Nat) (k : Nat) (ν : xw_M), 379 - (k : Int) < (fu9 : Int) → k ≤ 379 → (∀ i : Nat, i < k → ν 202 i = μ 204 (i + 0)) → xw_F [(202, 0, 378)] μ ν → xw_G xw_GL ν → xw_W p l e { frames := 3, cells := 0, slots := 0, locals := 142 } s m args below meth c Q D dA A 3 vwCl tb_KT0 al 0 0 ν 27 [(2, .int (Int32.ofInt (k : Int))), (0, .ref (xw_ad al 200)), (1, .int (Int32.ofInt 0))] [] := by
  intro fu9
  induction fu9 with
  | zero => intro k ν hm hk hz hF hG_ν; exfalso; omega
  | succ fu9 ih =>
    intro k ν hm hk hz hF hG_ν
    refine xw_iload_n (pc := 27) C0 0 dX12_restore_27 rfl rfl ?_
    refine xw_sipush (pc := 28) C0 dX12_restore_28 (by decide +kernel) ?_
    refine xw_icmp_ge (pc := 31) (tgt := 58) C0 (by omega) (by omega) dX12_restore_31 rfl (fun b1 => ?_) (fun b1 => ?_)
    · have e9 : k = 379 := by omega
      subst e9
      refine xw_pk [1, 2] (L' := [(0, .ref (xw_ad al 200)), (1, .int (Int32.ofInt 0))]) rfl ?_
      exact kx ν hz hF hG_ν
    · refine xw_aload_n (pc := 34) C0 1 dX12_restore_34 rfl rfl ?_
      refine xw_getR (pc := 35) (f := 14) C0 202 kcX12 dX12_restore_35 (by decide +kernel) tv_1275 (xj_200 hKL) xk_0 rfl ((rfl).trans (xe_200_14 hG_ν)) ?_
      refine xw_iload_n (pc := 38) C0 0 dX12_restore_38 rfl rfl ?_
      refine xw_aload_n (pc := 39) C0 1 dX12_restore_39 rfl rfl ?_
      refine xw_getR (pc := 40) (f := 16) C0 204 kcX12 dX12_restore_40 (by decide +kernel) tv_1277 (xj_200 hKL) xk_0 rfl ((rfl).trans (xe_200_16 hG_ν)) ?_
      refine xw_sipush (pc := 43) C0 dX12_restore_43 (by decide +kernel) ?_
      refine xw_iload_n (pc := 46) C0 2 dX12_restore_46 rfl rfl ?_
      refine xw_imul (pc := 47) C0 dX12_restore_47 ?_
      refine xw_iload_n (pc := 48) C0 0 dX12_restore_48 rfl rfl ?_
      refine xw_iadd (pc := 49) C0 dX12_restore_49 ?_
      refine xw_nI (congrArg Int32.ofInt (show (379 * 0) + (k : Int) = ((k + 0 : Nat) : Int) by omega)) ?_
      obtain ⟨lo9, hi9, rl9, b9, c9⟩ := hx_n379 ⟨k, by omega⟩
      have nl9 := (hx_k0 ⟨k, by omega⟩).trans rl9
      refine xw_iald (pc := 50) (z := μ 204 (k + 0)) C0 dX12_restore_50 (xj_204 hKL) xk_10 (by omega) (by decide +kernel) nl9 (hF 204 _ (xw_oj (by decide +kernel) _)) (fun g2 k2 => ?_)
      refine xw_iast (pc := 51) C0 dX12_restore_51 (xj_202 hKL) xk_1 (by omega) (by decide +kernel) rl9 (by omega) (by omega) ?_
      refine xw_iinc (pc := 52) (L' := [(2, .int (Int32.ofInt ((k : Int) + 1))), (0, .ref (xw_ad al 200)), (1, .int (Int32.ofInt 0))]) C0 0 dX12_restore_52 rfl (by decide +kernel) rfl ?_
      refine xw_goto (pc := 55) (tgt := 27) C0 dX12_restore_55 rfl ?_
      have hz9 : ∀ i : Nat, i < k + 1 → (xw_u ν 202 ((k : Int)).toNat (μ 204 (k + 0))) 202 i = μ 204 (i + 0) := fun i h2 => by
        by_cases e9 : i = k
        · subst e9; exact xw_ug
        · exact (xw_un (fun q => e9 (by have q2 := q.2; omega))).trans (hz i (by omega))
      have Fz9 : xw_F [(202, 0, 378)] ν (xw_u ν 202 ((k : Int)).toNat (μ 204 (k + 0))) := ((xw_F.rf (ML := [(202, 0, 378)])).u (show (202, 0, 378) ∈ _ by decide) ⟨by omega, by omega⟩)
      generalize (xw_u ν 202 ((k : Int)).toNat (μ 204 (k + 0))) = z9 at Fz9 hz9 ⊢
      have e1 : (k : Int) + 1 = ((k + 1 : Nat) : Int) := by omega
      rw [e1]
      refine xw_pk [0, 1, 2] (L' := [(2, .int (Int32.ofInt ((k + 1 : Nat) : Int))), (0, .ref (xw_ad al 200)), (1, .int (Int32.ofInt 0))]) rfl ?_
      exact ih (k + 1) z9 (by omega) (by omega) hz9 (hF.tr Fz9 (fun j i h => h)) (xw_GF hG_ν Fz9 (by decide +kernel))
set_option maxRecDepth 20000 in
set_option maxHeartbeats 20000000 in
theorem xr_rsB0 {l : Launch} {p : Program} {e : Env} {s : State} {m : MethodId} {args : Array Value} {below : List Frame} {meth : Method} {c : Code} {Q : State → Prop} {D : va_G} {dA : Nat → ClassId} {A : Nat → Prop} {al : List (Nat × Nat)} (C0 : sa_C p s m args c D dA A 3 vwCl sa_Ts cX12_restore yX12_restore.cls) (hU : sa_U D vwCl dA s) (hO : tb_Ou A s s.heap) (hKL : al.map Prod.snd = tc_KL) {μ : xw_M} (kx : ∀ ν : xw_M, (∀ i : Nat, i < 14 → ν 207 i = μ 209 (i + 0)) → xw_F [(207, 0, 13)] μ ν → xw_G xw_GL ν → xw_W p l e { frames := 3, cells := 0, slots := 0, locals := 142 } s m args below meth c Q D dA A 3 vwCl tb_KT0 al 0 0 ν 89 [(0, .ref (xw_ad al 200)), (1, .int (Int32.ofInt 0))] []) : ∀ (fu9 : Nat) (k : Nat) (ν : xw_M), 14 - (k : Int) < (fu9 : Int) → k ≤ 14 → (∀ i : Nat, i < k → ν 207 i = μ 209 (i + 0)) → xw_F [(207, 0, 13)] μ ν → xw_G xw_GL ν → xw_W p l e { frames := 3, cells := 0, slots := 0, locals := 142 } s m args below meth c Q D dA A 3 vwCl tb_KT0 al 0 0 ν 60 [(2, .int (Int32.ofInt (k : Int))), (0, .ref (xw_ad al 200)), (1, .int (Int32.ofInt 0))] [] := by
  intro fu9
  induction fu9 with
  | zero => intro k ν hm hk hz hF hG_ν; exfalso; omega
  | succ fu9 ih =>
    intro k ν hm hk hz hF hG_ν
    refine xw_iload_n (pc := 60) C0 0 dX12_restore_60 rfl rfl ?_
    refine xw_bipush (pc := 61) C0 dX12_restore_61 (by decide +kernel) ?_
    refine xw_icmp_ge (pc := 63) (tgt := 89) C0 (by omega) (by omega) dX12_restore_63 rfl (fun b1 => ?_) (fun b1 => ?_)
    · have e9 : k = 14 := by omega
      subst e9
      refine xw_pk [1, 2] (L' := [(0, .ref (xw_ad al 200)), (1, .int (Int32.ofInt 0))]) rfl ?_
      exact kx ν hz hF hG_ν
    · refine xw_aload_n (pc := 66) C0 1 dX12_restore_66 rfl rfl ?_
      refine xw_getR (pc := 67) (f := 19) C0 207 kcX12 dX12_restore_67 (by decide +kernel) tv_1280 (xj_200 hKL) xk_0 rfl ((rfl).trans (xe_200_19 hG_ν)) ?_
      refine xw_iload_n (pc := 70) C0 0 dX12_restore_70 rfl rfl ?_
      refine xw_aload_n (pc := 71) C0 1 dX12_restore_71 rfl rfl ?_
      refine xw_getR (pc := 72) (f := 21) C0 209 kcX12 dX12_restore_72 (by decide +kernel) tv_1282 (xj_200 hKL) xk_0 rfl ((rfl).trans (xe_200_21 hG_ν)) ?_
      refine xw_bipush (pc := 75) C0 dX12_restore_75 (by decide +kernel) ?_
      refine xw_iload_n (pc := 77) C0 2 dX12_restore_77 rfl rfl ?_
      refine xw_imul (pc := 78) C0 dX12_restore_78 ?_
      refine xw_iload_n (pc := 79) C0 0 dX12_restore_79 rfl rfl ?_
      refine xw_iadd (pc := 80) C0 dX12_restore_80 ?_
      refine xw_nI (congrArg Int32.ofInt (show (14 * 0) + (k : Int) = ((k + 0 : Nat) : Int) by omega)) ?_
      refine xw_lald (pc := 81) (z := ν 209 (((k + 0 : Nat) : Int)).toNat) C0 dX12_restore_81 (xj_209 hKL) xk_80 (by omega) (by decide +kernel) (xw_rl (by omega)) (rfl) (fun g2 k2 => ?_)
      refine xw_last (pc := 82) C0 dX12_restore_82 (xj_207 hKL) xk_78 (by omega) (by decide +kernel) (xw_rl (by omega)) (by omega) (by omega) ?_
      refine xw_iinc (pc := 83) (L' := [(2, .int (Int32.ofInt ((k : Int) + 1))), (0, .ref (xw_ad al 200)), (1, .int (Int32.ofInt 0))]) C0 0 dX12_restore_83 rfl (by decide +kernel) rfl ?_
      refine xw_goto (pc := 86) (tgt := 60) C0 dX12_restore_86 rfl ?_
      have hz9 : ∀ i : Nat, i < k + 1 → (xw_u ν 207 ((k : Int)).toNat (ν 209 (((k + 0 : Nat) : Int)).toNat)) 207 i = μ 209 (i + 0) := fun i h2 => by
        by_cases e9 : i = k
        · subst e9; exact xw_ug.trans (hF 209 _ (xw_oj (by decide +kernel) _))
        · exact (xw_un (fun q => e9 (by have q2 := q.2; omega))).trans (hz i (by omega))
      have Fz9 : xw_F [(207, 0, 13)] ν (xw_u ν 207 ((k : Int)).toNat (ν 209 (((k + 0 : Nat) : Int)).toNat)) := ((xw_F.rf (ML := [(207, 0, 13)])).u (show (207, 0, 13) ∈ _ by decide) ⟨by omega, by omega⟩)
      generalize (xw_u ν 207 ((k : Int)).toNat (ν 209 (((k + 0 : Nat) : Int)).toNat)) = z9 at Fz9 hz9 ⊢
      have e1 : (k : Int) + 1 = ((k + 1 : Nat) : Int) := by omega
      rw [e1]
      refine xw_pk [0, 1, 2] (L' := [(2, .int (Int32.ofInt ((k + 1 : Nat) : Int))), (0, .ref (xw_ad al 200)), (1, .int (Int32.ofInt 0))]) rfl ?_
      exact ih (k + 1) z9 (by omega) (by omega) hz9 (hF.tr Fz9 (fun j i h => h)) (xw_GF hG_ν Fz9 (by decide +kernel))
set_option maxRecDepth 20000 in
set_option maxHeartbeats 20000000 in
theorem xr_rst0 {l : Launch} {μ : xw_M} (hG : xw_G xw_GL μ) : xw_MetI l vwCl sa_Ts tb_KT0 tc_KL yX12_restore cX12_restore 3 (some .boolean) 3 142 (fun ad => [.ref (ad 200), .int (Int32.ofInt 0)]) μ (fun r μ' => (μ 210 0 = 0 ∧ r = 0 ∧ xw_F [(200, 0, 0)] μ μ') ∨ (μ 210 0 = 1 ∧ r = 1 ∧ (∀ i : Nat, i < 379 → μ' 202 i = μ 204 (i + 0)) ∧ (∀ i : Nat, i < 14 → μ' 207 i = μ 209 (i + 0)) ∧ xw_F [(200, 0, 0), (202, 0, 378), (207, 0, 13), (200, 23, 23)] μ μ')) :=
  xw_of (by decide +kernel) (fun _ => Nat.le_of_ble_eq_true rfl) (fun p e s m args below meth c D dA A al w0 sz C0 hU hO hKL hr hlk hA => by
    refine xw_aload_n (pc := 0) C0 0 dX12_restore_0 rfl rfl ?_
    refine xw_iconst (pc := 1) C0 dX12_restore_1 ?_
    refine xw_putI (pc := 2) (f := 0) C0 kcX12 dX12_restore_2 (by decide +kernel) tv_1261 rfl rfl (xj_200 hKL) xk_0 rfl (by omega) (by omega) ?_
    refine xw_iload_n (pc := 5) C0 1 dX12_restore_5 rfl rfl ?_
    refine xw_iconst (pc := 6) C0 dX12_restore_6 ?_
    refine xw_iconst (pc := 7) C0 dX12_restore_7 ?_
    refine xw_callSI (pc := 8) (μ := (xw_u μ 200 0 0)) (rest := []) (As := [.int (Int32.ofInt 0), .int (Int32.ofInt 0), .int (Int32.ofInt 1)]) C0 hU hO sa_Tg hKL (xm_isIn (l := l) (v := 0) (a := 0) (b := 1) (by omega) (by omega) (by omega)) tv_1481 dX12_restore_8 tv_1479 tv_1480 tv_13 yb_X12_isIn (by decide +kernel) rfl rfl rfl (by decide +kernel) (Nat.le_of_ble_eq_true rfl) (fun r1 m1 w1 => ?_)
    obtain ⟨rfl, w1⟩ := w1
    rcases w1.symm with ⟨w1, rfl⟩ | ⟨w1, rfl⟩
    · exfalso
      omega
    refine xw_if_eq (pc := 11) (tgt := 23) C0 (by omega) dX12_restore_11 rfl (fun b2 => ?_) (fun b2 => ?_)
    · exfalso
      omega
    · refine xw_aload_n (pc := 14) C0 0 dX12_restore_14 rfl rfl ?_
      refine xw_getR (pc := 15) (f := 22) C0 210 kcX12 dX12_restore_15 (by decide +kernel) tv_1283 (xj_200 hKL) xk_0 rfl (((xw_un (by decide +kernel)).trans rfl).trans (xe_200_22 hG)) ?_
      refine xw_iload_n (pc := 18) C0 1 dX12_restore_18 rfl rfl ?_
      refine xw_zald (pc := 19) (i := 0) (z := μ 210 0) C0 dX12_restore_19 (xj_210 hKL) xk_81 (by decide +kernel) (by decide +kernel) rfl ((xw_un (fun q => absurd q.1 (by decide +kernel))).trans rfl) (fun g3 k3 => ?_)
      refine xw_if_ne (pc := 20) (tgt := 25) C0 (by omega) dX12_restore_20 rfl (fun b4 => ?_) (fun b4 => ?_)
      · refine xw_iconst (pc := 25) C0 dX12_restore_25 ?_
        refine xw_istore_n (pc := 26) (L' := [(2, .int (Int32.ofInt 0)), (0, .ref (xw_ad al 200)), (1, .int (Int32.ofInt 0))]) C0 dX12_restore_26 rfl (by decide +kernel) rfl ?_
        have Ft1 : xw_F [(200, 0, 0)] μ (xw_u μ 200 0 0) := ((xw_F.rf (ML := [(200, 0, 0)])).u (show (200, 0, 0) ∈ _ by decide) ⟨by decide, by decide⟩)
        have vt1_200_0 : (xw_u μ 200 0 0) 200 0 = 0 := xw_ug
        generalize (xw_u μ 200 0 0) = t1 at Ft1 vt1_200_0 ⊢
        have hG_t1 := xw_GF hG Ft1 (by decide +kernel)
        refine xw_pk [0, 1, 2] (L' := [(2, .int (Int32.ofInt ((0 : Nat) : Int))), (0, .ref (xw_ad al 200)), (1, .int (Int32.ofInt 0))]) rfl ?_
        refine xr_rsA0 (μ := t1) C0 hU hO hKL (fun ν hz hF hG_ν => ?_) 380 0 t1 (by omega) (by omega) (fun i h => absurd h (Nat.not_lt_zero i)) xw_F.rf hG_t1
        refine xw_iconst (pc := 58) C0 dX12_restore_58 ?_
        refine xw_istore_n (pc := 59) (L' := [(2, .int (Int32.ofInt 0)), (0, .ref (xw_ad al 200)), (1, .int (Int32.ofInt 0))]) C0 dX12_restore_59 rfl (by decide +kernel) rfl ?_
        refine xw_pk [0, 1, 2] (L' := [(2, .int (Int32.ofInt ((0 : Nat) : Int))), (0, .ref (xw_ad al 200)), (1, .int (Int32.ofInt 0))]) rfl ?_
        refine xr_rsB0 (μ := ν) C0 hU hO hKL (fun ξ hz2 hF2 hG_ξ => ?_) 15 0 ν (by omega) (by omega) (fun i h => absurd h (Nat.not_lt_zero i)) xw_F.rf hG_ν
        refine xw_aload_n (pc := 89) C0 0 dX12_restore_89 rfl rfl ?_
        refine xw_iconst (pc := 90) C0 dX12_restore_90 ?_
        refine xw_putI (pc := 91) (f := 23) C0 kcX12 dX12_restore_91 (by decide +kernel) tv_1284 rfl rfl (xj_200 hKL) xk_0 rfl (by omega) (by omega) ?_
        refine xw_iconst (pc := 94) C0 dX12_restore_94 ?_
        refine xw_iret C0 hA hr hlk rfl dX12_restore_95 ?_
        have Ft21 : xw_F [(200, 23, 23)] ξ (xw_u ξ 200 23 0) := ((xw_F.rf (ML := [(200, 23, 23)])).u (show (200, 23, 23) ∈ _ by decide) ⟨by decide, by decide⟩)
        have vt21_200_23 : (xw_u ξ 200 23 0) 200 23 = 0 := xw_ug
        generalize (xw_u ξ 200 23 0) = t21 at Ft21 vt21_200_23 ⊢
        exact ⟨_, rfl, Or.inr ⟨by omega, rfl, fun i hi => (Ft21 202 _ (xw_oj (by decide +kernel) _)).trans ((hF2 202 _ (xw_oj (by decide +kernel) _)).trans ((hz i hi).trans (Ft1 204 _ (xw_oj (by decide +kernel) _)))), fun i hi => (Ft21 207 _ (xw_oj (by decide +kernel) _)).trans ((hz2 i hi).trans ((hF 209 _ (xw_oj (by decide +kernel) _)).trans (Ft1 209 _ (xw_oj (by decide +kernel) _)))), (((Ft1.mono (fun j i h => xw_o_sub (by decide +kernel) j i h)).tr hF (fun j i h => xw_o_sub (by decide +kernel) j i h)).tr hF2 (fun j i h => xw_o_sub (by decide +kernel) j i h)).tr Ft21 (fun j i h => xw_o_sub (by decide +kernel) j i h)⟩⟩
      · refine xw_iconst (pc := 23) C0 dX12_restore_23 ?_
        refine xw_iret C0 hA hr hlk rfl dX12_restore_24 ?_
        have Ft2 : xw_F [(200, 0, 0)] μ (xw_u μ 200 0 0) := ((xw_F.rf (ML := [(200, 0, 0)])).u (show (200, 0, 0) ∈ _ by decide) ⟨by decide, by decide⟩)
        have vt2_200_0 : (xw_u μ 200 0 0) 200 0 = 0 := xw_ug
        generalize (xw_u μ 200 0 0) = t2 at Ft2 vt2_200_0 ⊢
        exact ⟨_, rfl, Or.inl ⟨by omega, rfl, ((xw_F.rf (ML := [(200, 0, 0)])).tr Ft2 (fun j i h => xw_o_sub (by decide +kernel) j i h))⟩⟩)
