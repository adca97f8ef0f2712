set_option maxRecDepth 20000 in
set_option maxHeartbeats 1000000 in
theorem xm_help {l : Launch} (hl : l.stackTraces = false) {μ : xw_M} (hG : xw_G xw_GL μ) : xw_MetT l tb_KT0 tc_KL yX11_helped cX11_helped 3 (some .int) 6 210 (fun ad => [.ref (ad 0)]) μ (fun r μ' => hs_acc (fun i => μ 2 i % 256) (μ 1 1) ∧ xw_u (xw_u μ 0 14 (hs_R (fun i => μ 2 i % 256) (μ 1 1))) 1 1 0 = μ' ∧ r = hs_Fw (fun i => μ 2 i % 256) (μ 1 1)) (fun μ' => ¬ hs_acc (fun i => μ 2 i % 256) (μ 1 1) ∧ xw_u μ 1 1 0 = μ') :=
  xw_ofT (by decide) (fun _ => Nat.le_of_ble_eq_true rfl) (fun p e s m args below meth c D dA A al w0 sz C0 hU hO hKL hr hlk hA hno => by
    refine xw_aload_n (pc := 0) C0 0 dX11_helped_0 rfl rfl ?_
    refine xw_callVI (pc := 1) (ci := 11) (rest := []) (As := []) C0 hU hO sa_Tg hKL (xm_ew (l := l) hG) tv_1246 dX11_helped_1 tv_1243 tv_1245 tq_X11_eveningsWithDeed tv_1 rfl yb_X11_eveningsWithDeed (by decide) rfl rfl rfl (by decide) (Nat.le_of_ble_eq_true rfl) (xj_0 hKL) xk_27 (fun r1 m1 w1 => ?_)
    obtain ⟨rfl, w1⟩ := w1
    have hb1 := hs_Sb (fun i => μ 2 i % 256) (fun i => xb_255 _) (μ 1 1 / 2).toNat
    have u1 : -1 ≤ r1 ∧ r1 ≤ 3000 := by
      rcases w1 with ⟨q1, q⟩ | ⟨-, q⟩
      · have z1 := q1.2.1; have z2 := q1.2.2.1; omega
      · omega
    refine xw_istore_n (pc := 4) (L' := [(1, .int (Int32.ofInt r1)), (0, .ref (xw_ad al 0))]) C0 dX11_helped_4 rfl (by decide) rfl ?_
    refine xw_iload_n (pc := 5) C0 0 dX11_helped_5 rfl rfl ?_
    refine xw_iconst (pc := 6) C0 dX11_helped_6 ?_
    refine xw_icmp_ne (pc := 7) (tgt := 26) C0 (by omega) (by omega) dX11_helped_7 rfl (fun b3 => ?_) (fun b3 => ?_)
    · refine xw_aload_n (pc := 26) C0 1 dX11_helped_26 rfl rfl ?_
      refine xw_aload_n (pc := 27) C0 1 dX11_helped_27 rfl rfl ?_
      refine xw_getR (pc := 28) (f := 0) C0 1 kcX11 dX11_helped_28 (by decide) tv_422 (xj_0 hKL) xk_27 rfl ((rfl).trans (xe_0_0 hG)) ?_
      refine xw_getI (pc := 31) (f := 1) (z := μ 1 1) C0 kcX0 dX11_helped_31 (by decide) tv_40 (xj_1 hKL) xk_19 rfl (rfl) (fun g4 k4 => ?_)
      refine xw_iconst (pc := 34) C0 dX11_helped_34 ?_
      have u9 := (w1.resolve_right (fun q => by have z1 := q.2; omega))
      have h9 := u9.1
      obtain ⟨k1, k2, k3, k4, k5, k6⟩ := h9
      refine xw_idiv (pc := 35) C0 (by omega) (by omega) dX11_helped_35 ?_
      obtain ⟨ev, he⟩ : ∃ ev : Nat, μ 1 1 / 2 = (ev : Int) := ⟨(μ 1 1 / 2).toNat, by omega⟩
      rw [he]
      have he2 : ev = (μ 1 1 / 2).toNat := by omega
      refine xw_iload_n (pc := 36) C0 0 dX11_helped_36 rfl rfl ?_
      refine xw_callVI (pc := 37) (ci := 11) (rest := []) (As := [.int (Int32.ofInt (ev : Int)), .int (Int32.ofInt r1)]) C0 hU hO sa_Tg hKL (xm_cw (l := l) (ev := ev) (d := r1) hG (by omega) (by omega) (by omega) (fun q hq => k4 q (by omega))) tv_1250 dX11_helped_37 tv_1247 tv_1249 tq_X11_countWays tv_1 rfl yb_X11_countWays (by decide) rfl rfl rfl (by decide) (Nat.le_of_ble_eq_true rfl) (xj_0 hKL) xk_27 (fun r5 m5 w5 => ?_)
      obtain ⟨rfl, v5⟩ := w5
      have f5 := hs_fewb (fun i => μ 2 i % 256) ev r1 (hs_M (fun i => μ 2 i % 256) (hs_A (fun i => μ 2 i % 256) ev) ev) (2 ^ ev)
      have p5 := hs_p2 (k := ev) (by omega)
      rw [← v5] at f5
      refine xw_istore_n (pc := 40) (L' := [(2, .int (Int32.ofInt r5)), (1, .int (Int32.ofInt r1)), (0, .ref (xw_ad al 0))]) C0 dX11_helped_40 rfl (by decide) rfl ?_
      refine xw_aload_n (pc := 41) C0 2 dX11_helped_41 rfl rfl ?_
      refine xw_getR (pc := 42) (f := 0) C0 1 kcX11 dX11_helped_42 (by decide) tv_422 (xj_0 hKL) xk_27 rfl (((xw_un (by decide)).trans rfl).trans (xe_0_0 hG)) ?_
      refine xw_iconst (pc := 45) C0 dX11_helped_45 ?_
      refine xw_putI (pc := 46) (f := 1) C0 kcX0 dX11_helped_46 (by decide) tv_40 rfl rfl (xj_1 hKL) xk_19 rfl (by omega) (by omega) ?_
      refine xw_iload_n (pc := 49) C0 0 dX11_helped_49 rfl rfl ?_
      refine xw_iretT C0 hA hr hlk rfl dX11_helped_50 ?_
      have a9 := u9.2
      rw [← he2] at a9
      subst a9
      refine ⟨_, rfl, u9.1, ?_, ?_⟩
      · unfold hs_R; rw [← he2]
      · unfold hs_Fw; rw [← he2]; assumption
    · refine xw_aload_n (pc := 10) C0 1 dX11_helped_10 rfl rfl ?_
      refine xw_getR (pc := 11) (f := 0) C0 1 kcX11 dX11_helped_11 (by decide) tv_422 (xj_0 hKL) xk_27 rfl ((rfl).trans (xe_0_0 hG)) ?_
      refine xw_iconst (pc := 14) C0 dX11_helped_14 ?_
      refine xw_putI (pc := 15) (f := 1) C0 kcX0 dX11_helped_15 (by decide) tv_40 rfl rfl (xj_1 hKL) xk_19 rfl (by omega) (by omega) ?_
      refine xw_throw C0 hl hO hA hlk hno tv_18 ⟨_, _, dX11_helped_18, dX11_helped_21, dX11_helped_22, dX11_helped_25, tv_1123, by decide +kernel⟩ (by decide) (by decide) (by decide) ?_
      exact ⟨(w1.resolve_left (fun q => by have z1 := q.2; omega)).1, rfl⟩)
set_option maxRecDepth 20000 in
set_option maxHeartbeats 1000000 in
theorem xm_take {l : Launch} {μ : xw_M} (hG : xw_G xw_GL μ) : xw_MetI l vwCl sa_Ts tb_KT0 tc_KL yX12_take cX12_take 2 (some .int) 2 120 (fun ad => [.ref (ad 200)]) μ (fun r μ' => xw_u μ 200 2 0 = μ' ∧ r = μ 200 2) :=
  xw_of (by decide) (fun _ => Nat.le_of_ble_eq_true rfl) (fun p e s m args below meth c D dA A al w0 sz C0 hU hO hKL hr hlk hA => by
    refine xw_aload_n (pc := 0) C0 0 dX12_take_0 rfl rfl ?_
    refine xw_getI (pc := 1) (f := 2) (z := μ 200 2) C0 kcX12 dX12_take_1 (by decide) tv_1263 (xj_200 hKL) xk_0 rfl (rfl) (fun g1 k1 => ?_)
    refine xw_istore_n (pc := 4) (L' := [(1, .int (Int32.ofInt (μ 200 2))), (0, .ref (xw_ad al 200))]) C0 dX12_take_4 rfl (by decide) rfl ?_
    refine xw_aload_n (pc := 5) C0 1 dX12_take_5 rfl rfl ?_
    refine xw_iconst (pc := 6) C0 dX12_take_6 ?_
    refine xw_putI (pc := 7) (f := 2) C0 kcX12 dX12_take_7 (by decide) tv_1263 rfl rfl (xj_200 hKL) xk_0 rfl (by omega) (by omega) ?_
    refine xw_iload_n (pc := 10) C0 0 dX12_take_10 rfl rfl ?_
    refine xw_iret C0 hA hr hlk rfl dX12_take_11 ?_
    exact ⟨_, rfl, rfl, rfl⟩)
set_option maxRecDepth 20000 in
set_option maxHeartbeats 1000000 in
theorem xm_refuse {l : Launch} {μ : xw_M} (hG : xw_G xw_GL μ) : xw_MetI l vwCl sa_Ts tb_KT0 tc_KL yX12_refuse cX12_refuse 1 (some .int) 2 120 (fun ad => [.ref (ad 200)]) μ (fun r μ' => xw_u μ 200 0 1 = μ' ∧ r = 0) :=
  xw_of (by decide) (fun _ => Nat.le_of_ble_eq_true rfl) (fun p e s m args below meth c D dA A al w0 sz C0 hU hO hKL hr hlk hA => by
    refine xw_aload_n (pc := 0) C0 0 dX12_refuse_0 rfl rfl ?_
    refine xw_iconst (pc := 1) C0 dX12_refuse_1 ?_
    refine xw_putI (pc := 2) (f := 0) C0 kcX12 dX12_refuse_2 (by decide) tv_1261 rfl rfl (xj_200 hKL) xk_0 rfl (by omega) (by omega) ?_
    refine xw_iconst (pc := 5) C0 dX12_refuse_5 ?_
    refine xw_iret C0 hA hr hlk rfl dX12_refuse_6 ?_
    exact ⟨_, rfl, rfl, rfl⟩)
set_option maxRecDepth 20000 in
set_option maxHeartbeats 1000000 in
theorem xm_isIn {l : Launch} {μ : xw_M} {v a b : Int} (hv : -2147483648 ≤ v ∧ v ≤ 2147483647) (ha : -2147483648 ≤ a ∧ a ≤ 2147483647) (hb : -2147483648 ≤ b ∧ b ≤ 2147483647) : xw_MetI l vwCl sa_Ts tb_KT0 tc_KL yX12_isIn cX12_isIn 3 (some .boolean) 2 120 (fun ad => [.int (Int32.ofInt v), .int (Int32.ofInt a), .int (Int32.ofInt b)]) μ (fun r μ' => μ = μ' ∧ (((a ≤ v ∧ v ≤ b) ∧ r = 1) ∨ (¬ (a ≤ v ∧ v ≤ b) ∧ r = 0))) :=
  xw_of (by decide) (fun _ => Nat.le_of_ble_eq_true rfl) (fun p e s m args below meth c D dA A al w0 sz C0 hU hO hKL hr hlk hA => by
    refine xw_iload_n (pc := 0) C0 0 dX12_isIn_0 rfl rfl ?_
    refine xw_iload_n (pc := 1) C0 1 dX12_isIn_1 rfl rfl ?_
    refine xw_icmp_lt (pc := 2) (tgt := 14) C0 (by omega) (by omega) dX12_isIn_2 rfl (fun b1 => ?_) (fun b1 => ?_)
    · refine xw_iconst (pc := 14) C0 dX12_isIn_14 ?_
      refine xw_iret C0 hA hr hlk rfl dX12_isIn_15 ?_
      exact ⟨_, rfl, rfl, Or.inr ⟨by omega, rfl⟩⟩
    · refine xw_iload_n (pc := 5) C0 0 dX12_isIn_5 rfl rfl ?_
      refine xw_iload_n (pc := 6) C0 2 dX12_isIn_6 rfl rfl ?_
      refine xw_icmp_gt (pc := 7) (tgt := 14) C0 (by omega) (by omega) dX12_isIn_7 rfl (fun b2 => ?_) (fun b2 => ?_)
      · refine xw_iconst (pc := 14) C0 dX12_isIn_14 ?_
        refine xw_iret C0 hA hr hlk rfl dX12_isIn_15 ?_
        exact ⟨_, rfl, rfl, Or.inr ⟨by omega, rfl⟩⟩
      · refine xw_iconst (pc := 10) C0 dX12_isIn_10 ?_
        refine xw_goto (pc := 11) (tgt := 15) C0 dX12_isIn_11 rfl ?_
        refine xw_iret C0 hA hr hlk rfl dX12_isIn_15 ?_
        exact ⟨_, rfl, rfl, Or.inl ⟨by omega, rfl⟩⟩)
set_option maxRecDepth 20000 in
set_option maxHeartbeats 1000000 in
theorem xm_bitsL {l : Launch} {p : Program} {e : Env} {s : State} {m : MethodId} {args : Array Value} {below : List Frame} {meth : Method} {c : Code} {Q : State → Prop} {D : va_G} {dA : Nat → ClassId} {A : Nat → Prop} {al : List (Nat × Nat)} (C0 : sa_C p s m args c D dA A 3 vwCl sa_Ts cX12_bits yX12_bits.cls) (hU : sa_U D vwCl dA s) (hO : tb_Ou A s s.heap) (hKL : al.map Prod.snd = tc_KL) {μ : xw_M} {w : Nat} (kx : xw_W p l e { frames := 2, cells := 0, slots := 0, locals := 120 } s m args below meth c Q D dA A 3 vwCl tb_KT0 al 0 0 μ 20 [(1, .int (Int32.ofInt ((hs_pc w : Nat) : Int)))] []) : ∀ (fu9 : Nat) (k : Nat) (n1 : Int), (k : Int) < (fu9 : Int) → k < 1024 → n1 + ((hs_pc k : Nat) : Int) = ((hs_pc w : Nat) : Int) → xw_W p l e { frames := 2, cells := 0, slots := 0, locals := 120 } s m args below meth c Q D dA A 3 vwCl tb_KT0 al 0 0 μ 4 [(2, .int (Int32.ofInt (k : Int))), (1, .int (Int32.ofInt n1))] [] := by
  intro fu9
  induction fu9 with
  | zero => intro k n1 hm hk hn; exfalso; omega
  | succ fu9 ih =>
    intro k n1 hm hk hn
    have z4 := hs_pcb w
    refine xw_iload_n (pc := 4) C0 0 dX12_bits_4 rfl rfl ?_
    refine xw_if_eq (pc := 5) (tgt := 20) C0 (by omega) dX12_bits_5 rfl (fun b1 => ?_) (fun b1 => ?_)
    · have e9 : k = 0 := by omega
      subst e9
      have e8 : hs_pc 0 = 0 := rfl
      have e7 : n1 = ((hs_pc w : Nat) : Int) := by omega
      subst e7
      refine xw_pk [1] (L' := [(1, .int (Int32.ofInt ((hs_pc w : Nat) : Int)))]) rfl ?_
      exact kx
    · refine xw_iinc (pc := 8) (L' := [(1, .int (Int32.ofInt (n1 + 1))), (2, .int (Int32.ofInt (k : Int)))]) C0 1 dX12_bits_8 rfl (by decide) rfl ?_
      refine xw_iload_n (pc := 11) C0 1 dX12_bits_11 rfl rfl ?_
      refine xw_iload_n (pc := 12) C0 1 dX12_bits_12 rfl rfl ?_
      refine xw_iconst (pc := 13) C0 dX12_bits_13 ?_
      refine xw_isub (pc := 14) C0 dX12_bits_14 ?_
      obtain ⟨z1, z2, z3⟩ := hs_bl1 (a := k) (by omega) (by omega)
      have z4 := hs_pcb k
      refine xw_iand (pc := 15) C0 dX12_bits_15 z1 ?_
      refine xw_istore_n (pc := 16) (L' := [(2, .int (Int32.ofInt ((hs_bl k : Nat) : Int))), (1, .int (Int32.ofInt (n1 + 1)))]) C0 dX12_bits_16 rfl (by decide) rfl ?_
      refine xw_goto (pc := 17) (tgt := 4) C0 dX12_bits_17 rfl ?_
      refine xw_pk [0, 1] (L' := [(2, .int (Int32.ofInt ((hs_bl k : Nat) : Int))), (1, .int (Int32.ofInt (n1 + 1)))]) rfl ?_
      exact ih (hs_bl k) (n1 + 1) (by omega) (by omega) (by omega)
set_option maxRecDepth 20000 in
set_option maxHeartbeats 1000000 in
theorem xm_bits {l : Launch} {μ : xw_M} {w : Nat} (hw : w < 1024) : xw_MetI l vwCl sa_Ts tb_KT0 tc_KL yX12_bits cX12_bits 3 (some .int) 2 120 (fun ad => [.int (Int32.ofInt (w : Int))]) μ (fun r μ' => μ = μ' ∧ r = ((hs_pc w : Nat) : Int)) :=
  xw_of (by decide) (fun _ => Nat.le_of_ble_eq_true rfl) (fun p e s m args below meth c D dA A al w0 sz C0 hU hO hKL hr hlk hA => by
    refine xw_iconst (pc := 0) C0 dX12_bits_0 ?_
    refine xw_istore_n (pc := 1) (L' := [(1, .int (Int32.ofInt 0)), (0, .int (Int32.ofInt (w : Int)))]) C0 dX12_bits_1 rfl (by decide) rfl ?_
    refine xw_iload_n (pc := 2) C0 1 dX12_bits_2 rfl rfl ?_
    refine xw_istore_n (pc := 3) (L' := [(2, .int (Int32.ofInt (w : Int))), (1, .int (Int32.ofInt 0)), (0, .int (Int32.ofInt (w : Int)))]) C0 dX12_bits_3 rfl (by decide) rfl ?_
    refine xw_pk [0, 1] (L' := [(2, .int (Int32.ofInt (w : Int))), (1, .int (Int32.ofInt 0))]) rfl ?_
    refine xm_bitsL C0 hU hO hKL (w := w) ?_ 1024 w 0 (by omega) (by omega) (by omega)
    refine xw_iload_n (pc := 20) C0 0 dX12_bits_20 rfl rfl ?_
    refine xw_iret C0 hA hr hlk rfl dX12_bits_21 ?_
    exact ⟨_, rfl, rfl, rfl⟩)
