set_option maxRecDepth 20000 in
set_option maxHeartbeats 20000000 in
theorem xq_ltL {l : Launch} {p : Program} {e : Env} {s : State} {m : MethodId} {args : Array Value} {below : List Frame} {meth : Method} {c : Code} {Q : State → Prop} {D : va_G} {dA : Nat → ClassId} {A : Nat → Prop} {al : List (Nat × Nat)} (C0 : sa_C p s m args c D dA A 7 vwCl sa_Ts cX11_leastTerm yX11_leastTerm.cls) (hU : sa_U D vwCl dA s) (hO : tb_Ou A s s.heap) (hKL : al.map Prod.snd = tc_KL) {A9 B9 : Nat} {w9 : Int} (hw : -2147483648 ≤ w9 ∧ w9 ≤ 2147483647) {μ : xw_M} (hG : xw_G xw_GL μ) (kx : xw_W p l e { frames := 2, cells := 0, slots := 0, locals := 120 } s m args below meth c Q D dA A 7 vwCl tb_KT0 al 0 0 μ 40 [(0, .int (Int32.ofInt (A9 : Int))), (1, .int (Int32.ofInt (B9 : Int))), (2, .int (Int32.ofInt w9)), (3, .int (Int32.ofInt ((Nat.gcd A9 B9 : Nat) : Int)))] []) : ∀ (fu9 : Nat) (a b k eb : Nat), (b : Int) < (fu9 : Int) → a ≤ 2147483647 → b ≤ 2147483647 → Nat.gcd a b = Nat.gcd A9 B9 → a * b < 2 ^ eb → ((k = 0 ∧ eb = 62) ∨ (b < a ∧ k + eb ≤ 63)) → xw_W p l e { frames := 2, cells := 0, slots := 0, locals := 120 } s m args below meth c Q D dA A 7 vwCl tb_KT0 al 0 0 μ 8 [(0, .int (Int32.ofInt (A9 : Int))), (1, .int (Int32.ofInt (B9 : Int))), (2, .int (Int32.ofInt w9)), (3, .int (Int32.ofInt (a : Int))), (4, .int (Int32.ofInt (b : Int))), (5, .int (Int32.ofInt (k : Int)))] [] := by
  intro fu9
  induction fu9 with
  | zero => intro a b k eb hm ha hb hg he hk; exfalso; omega
  | succ fu9 ih =>
    intro a b k eb hm ha hb hg he hk
    refine xw_iload (pc := 8) C0 5 dX11_leastTerm_8 rfl ?_
    refine xw_ldcw (pc := 10) (z := 1000000) C0 dX11_leastTerm_10 tv_1201 ?_
    refine xw_icmp_ge (pc := 13) (tgt := 40) C0 (by omega) (by omega) dX11_leastTerm_13 rfl (fun b1 => ?_) (fun b1 => ?_)
    · have hb0 : b = 0 := by omega
      subst hb0
      have ea : a = Nat.gcd A9 B9 := by rw [← hg, Nat.gcd_zero_right]
      rw [show (a : Int) = ((Nat.gcd A9 B9 : Nat) : Int) by rw [← ea]]
      refine xw_pk [0, 1, 2, 3] (L' := [(0, .int (Int32.ofInt (A9 : Int))), (1, .int (Int32.ofInt (B9 : Int))), (2, .int (Int32.ofInt w9)), (3, .int (Int32.ofInt ((Nat.gcd A9 B9 : Nat) : Int)))]) rfl ?_
      exact kx
    · refine xw_iload (pc := 16) C0 4 dX11_leastTerm_16 rfl ?_
      refine xw_if_eq (pc := 18) (tgt := 40) C0 (by omega) dX11_leastTerm_18 rfl (fun b2 => ?_) (fun b2 => ?_)
      · have hb0 : b = 0 := by omega
        subst hb0
        have ea : a = Nat.gcd A9 B9 := by rw [← hg, Nat.gcd_zero_right]
        rw [show (a : Int) = ((Nat.gcd A9 B9 : Nat) : Int) by rw [← ea]]
        refine xw_pk [0, 1, 2, 3] (L' := [(0, .int (Int32.ofInt (A9 : Int))), (1, .int (Int32.ofInt (B9 : Int))), (2, .int (Int32.ofInt w9)), (3, .int (Int32.ofInt ((Nat.gcd A9 B9 : Nat) : Int)))]) rfl ?_
        exact kx
      · refine xw_iload_n (pc := 21) C0 3 dX11_leastTerm_21 rfl rfl ?_
        refine xw_iload (pc := 22) C0 4 dX11_leastTerm_22 rfl ?_
        refine xw_irem (pc := 24) C0 (by omega) (by omega) dX11_leastTerm_24 ?_
        refine  xw_nI (congrArg Int32.ofInt (show (a : Int) % (b : Int) = ((a % b : Nat) : Int) from rfl)) ?_
        have r9 := Nat.mod_lt a (show 0 < b by omega)
        refine xw_istore (pc := 25) (L' := [(6, .int (Int32.ofInt ((a % b : Nat) : Int))), (0, .int (Int32.ofInt (A9 : Int))), (1, .int (Int32.ofInt (B9 : Int))), (2, .int (Int32.ofInt w9)), (3, .int (Int32.ofInt (a : Int))), (4, .int (Int32.ofInt (b : Int))), (5, .int (Int32.ofInt (k : Int)))]) C0 dX11_leastTerm_25 (by decide +kernel) rfl ?_
        refine xw_iload (pc := 27) C0 5 dX11_leastTerm_27 rfl ?_
        refine xw_istore_n (pc := 29) (L' := [(3, .int (Int32.ofInt (b : Int))), (6, .int (Int32.ofInt ((a % b : Nat) : Int))), (0, .int (Int32.ofInt (A9 : Int))), (1, .int (Int32.ofInt (B9 : Int))), (2, .int (Int32.ofInt w9)), (4, .int (Int32.ofInt (b : Int))), (5, .int (Int32.ofInt (k : Int)))]) C0 dX11_leastTerm_29 rfl (by decide +kernel) rfl ?_
        refine xw_iload (pc := 30) C0 1 dX11_leastTerm_30 rfl ?_
        refine xw_istore (pc := 32) (L' := [(4, .int (Int32.ofInt ((a % b : Nat) : Int))), (3, .int (Int32.ofInt (b : Int))), (6, .int (Int32.ofInt ((a % b : Nat) : Int))), (0, .int (Int32.ofInt (A9 : Int))), (1, .int (Int32.ofInt (B9 : Int))), (2, .int (Int32.ofInt w9)), (5, .int (Int32.ofInt (k : Int)))]) C0 dX11_leastTerm_32 (by decide +kernel) rfl ?_
        refine xw_iinc (pc := 34) (L' := [(5, .int (Int32.ofInt ((k : Int) + 1))), (4, .int (Int32.ofInt ((a % b : Nat) : Int))), (3, .int (Int32.ofInt (b : Int))), (6, .int (Int32.ofInt ((a % b : Nat) : Int))), (0, .int (Int32.ofInt (A9 : Int))), (1, .int (Int32.ofInt (B9 : Int))), (2, .int (Int32.ofInt w9))]) C0 6 dX11_leastTerm_34 rfl (by decide +kernel) rfl ?_
        refine xw_goto (pc := 37) (tgt := 8) C0 dX11_leastTerm_37 rfl ?_
        have e1 : (k : Int) + 1 = ((k + 1 : Nat) : Int) := by omega
        rw [e1]
        refine xw_pk [4, 5, 6, 2, 1, 0] (L' := [(0, .int (Int32.ofInt (A9 : Int))), (1, .int (Int32.ofInt (B9 : Int))), (2, .int (Int32.ofInt w9)), (3, .int (Int32.ofInt (b : Int))), (4, .int (Int32.ofInt ((a % b : Nat) : Int))), (5, .int (Int32.ofInt ((k + 1 : Nat) : Int)))]) rfl ?_
        by_cases h9 : b ≤ a
        · obtain ⟨e9, q1, q2⟩ := hx_euE (show 0 < b by omega) h9 he
          subst q1
          exact ih b (a % b) (k + 1) e9 (by omega) (by omega) (by omega) (hx_gcS.trans hg) q2 (by omega)
        · have q3 : a % b = a := Nat.mod_eq_of_lt (by omega)
          exact ih b (a % b) (k + 1) eb (by omega) (by omega) (by omega) (hx_gcS.trans hg) (by rw [q3, Nat.mul_comm]; exact he) (by omega)
set_option maxRecDepth 20000 in
set_option maxHeartbeats 20000000 in
theorem xq_lt {l : Launch} {A9 B9 : Nat} {w9 : Int} {μ : xw_M} (hG : xw_G xw_GL μ) (hw : -2147483648 ≤ w9 ∧ w9 ≤ 2147483647) (hA9 : A9 ≤ 2147483647) (hB : 0 < B9 ∧ B9 ≤ 2147483647) : xw_MetI l vwCl sa_Ts tb_KT0 tc_KL yX11_leastTerm cX11_leastTerm 7 (some .int) 2 120 (fun ad => [.int (Int32.ofInt (A9 : Int)), .int (Int32.ofInt (B9 : Int)), .int (Int32.ofInt w9)]) μ (fun r μ' => μ = μ' ∧ r = hx_lt w9 A9 B9) :=
  xw_of (by decide +kernel) (fun _ => Nat.le_of_ble_eq_true rfl) (fun p e s m args below meth c D dA A al w0 sz C0 hU hO hKL hr hlk hA => by
    refine xw_iload_n (pc := 0) C0 0 dX11_leastTerm_0 rfl rfl ?_
    refine xw_istore_n (pc := 1) (L' := [(3, .int (Int32.ofInt (A9 : Int))), (0, .int (Int32.ofInt (A9 : Int))), (1, .int (Int32.ofInt (B9 : Int))), (2, .int (Int32.ofInt w9))]) C0 dX11_leastTerm_1 rfl (by decide +kernel) rfl ?_
    refine xw_iload_n (pc := 2) C0 2 dX11_leastTerm_2 rfl rfl ?_
    refine xw_istore (pc := 3) (L' := [(4, .int (Int32.ofInt (B9 : Int))), (3, .int (Int32.ofInt (A9 : Int))), (0, .int (Int32.ofInt (A9 : Int))), (1, .int (Int32.ofInt (B9 : Int))), (2, .int (Int32.ofInt w9))]) C0 dX11_leastTerm_3 (by decide +kernel) rfl ?_
    refine xw_iconst (pc := 5) C0 dX11_leastTerm_5 ?_
    refine xw_istore (pc := 6) (L' := [(5, .int (Int32.ofInt 0)), (4, .int (Int32.ofInt (B9 : Int))), (3, .int (Int32.ofInt (A9 : Int))), (0, .int (Int32.ofInt (A9 : Int))), (1, .int (Int32.ofInt (B9 : Int))), (2, .int (Int32.ofInt w9))]) C0 dX11_leastTerm_6 (by decide +kernel) rfl ?_
    refine xw_pk [3, 4, 5, 2, 1, 0] (L' := [(0, .int (Int32.ofInt (A9 : Int))), (1, .int (Int32.ofInt (B9 : Int))), (2, .int (Int32.ofInt w9)), (3, .int (Int32.ofInt (A9 : Int))), (4, .int (Int32.ofInt (B9 : Int))), (5, .int (Int32.ofInt ((0 : Nat) : Int)))]) rfl ?_
    refine xq_ltL (A9 := A9) (B9 := B9) (w9 := w9) (μ := μ) C0 hU hO hKL hw hG ?_ (B9 + 1) A9 B9 0 62 (by omega) hA9 hB.2 rfl (hx_eu0 hA9 hB.2) (Or.inl ⟨rfl, rfl⟩)
    have hg9 := Nat.gcd_pos_of_pos_right A9 hB.1
    have hg8 : Nat.gcd A9 B9 ≤ 2147483647 := Nat.le_trans (Nat.gcd_le_right A9 hB.1) hB.2
    refine xw_iload_n (pc := 40) C0 3 dX11_leastTerm_40 rfl rfl ?_
    refine xw_if_ne (pc := 41) (tgt := 46) C0 (by omega) dX11_leastTerm_41 rfl (fun b51 => ?_) (fun b51 => ?_)
    · refine xw_iload_n (pc := 46) C0 2 dX11_leastTerm_46 rfl rfl ?_
      refine xw_if_ne (pc := 47) (tgt := 54) C0 (by omega) dX11_leastTerm_47 rfl (fun b52 => ?_) (fun b52 => ?_)
      · refine xw_iload_n (pc := 54) C0 1 dX11_leastTerm_54 rfl rfl ?_
        refine xw_iload_n (pc := 55) C0 3 dX11_leastTerm_55 rfl rfl ?_
        refine xw_idiv (pc := 56) C0 (by omega) (by omega) dX11_leastTerm_56 ?_
        refine xw_iret C0 hA hr hlk rfl dX11_leastTerm_57 ?_
        refine ⟨_, rfl, rfl, ?_⟩
        unfold hx_lt
        first
        | rw [if_pos (by omega)]
        | rw [if_neg (by omega)]
      · refine xw_iload_n (pc := 50) C0 0 dX11_leastTerm_50 rfl rfl ?_
        refine xw_goto (pc := 51) (tgt := 55) C0 dX11_leastTerm_51 rfl ?_
        refine xw_iload_n (pc := 55) C0 3 dX11_leastTerm_55 rfl rfl ?_
        refine xw_idiv (pc := 56) C0 (by omega) (by omega) dX11_leastTerm_56 ?_
        refine xw_iret C0 hA hr hlk rfl dX11_leastTerm_57 ?_
        refine ⟨_, rfl, rfl, ?_⟩
        unfold hx_lt
        first
        | rw [if_pos (by omega)]
        | rw [if_neg (by omega)]
    · refine xw_iconst (pc := 44) C0 dX11_leastTerm_44 ?_
      refine xw_iret C0 hA hr hlk rfl dX11_leastTerm_45 ?_
      exfalso
      omega)
set_option maxRecDepth 20000 in
set_option maxHeartbeats 20000000 in
theorem xr_cmL {l : Launch} {p : Program} {e : Env} {s : State} {m : MethodId} {args : Array Value} {below : List Frame} {meth : Method} {c : Code} {Q : State → Prop} {D : va_G} {dA : Nat → ClassId} {A : Nat → Prop} {al : List (Nat × Nat)} (C0 : sa_C p s m args c D dA A 5 vwCl sa_Ts cX12_common yX12_common.cls) (hU : sa_U D vwCl dA s) (hO : tb_Ou A s s.heap) (hKL : al.map Prod.snd = tc_KL) {A9 B9 : Nat}  {μ : xw_M} (hG : xw_G xw_GL μ) (kx : xw_W p l e { frames := 2, cells := 0, slots := 0, locals := 120 } s m args below meth c Q D dA A 5 vwCl tb_KT0 al 0 0 μ 21 [(2, .int (Int32.ofInt ((Nat.gcd A9 B9 : Nat) : Int)))] []) : ∀ (fu9 : Nat) (a b : Nat), (b : Int) < (fu9 : Int) → a ≤ 2147483647 → b ≤ 2147483647 → Nat.gcd a b = Nat.gcd A9 B9 → xw_W p l e { frames := 2, cells := 0, slots := 0, locals := 120 } s m args below meth c Q D dA A 5 vwCl tb_KT0 al 0 0 μ 4 [(2, .int (Int32.ofInt (a : Int))), (3, .int (Int32.ofInt (b : Int)))] [] := by
  intro fu9
  induction fu9 with
  | zero => intro a b hm ha hb hg; exfalso; omega
  | succ fu9 ih =>
    intro a b hm ha hb hg
    refine xw_iload_n (pc := 4) C0 1 dX12_common_4 rfl rfl ?_
    refine xw_if_eq (pc := 5) (tgt := 21) C0 (by omega) dX12_common_5 rfl (fun b1 => ?_) (fun b1 => ?_)
    · have hb0 : b = 0 := by omega
      subst hb0
      have ea : a = Nat.gcd A9 B9 := by rw [← hg, Nat.gcd_zero_right]
      rw [show (a : Int) = ((Nat.gcd A9 B9 : Nat) : Int) by rw [← ea]]
      refine xw_pk [0] (L' := [(2, .int (Int32.ofInt ((Nat.gcd A9 B9 : Nat) : Int)))]) rfl ?_
      exact kx
    · refine xw_iload_n (pc := 8) C0 0 dX12_common_8 rfl rfl ?_
      refine xw_iload_n (pc := 9) C0 1 dX12_common_9 rfl rfl ?_
      refine xw_irem (pc := 10) C0 (by omega) (by omega) dX12_common_10 ?_
      refine  xw_nI (congrArg Int32.ofInt (show (a : Int) % (b : Int) = ((a % b : Nat) : Int) from rfl)) ?_
      have r9 := Nat.mod_lt a (show 0 < b by omega)
      refine xw_istore (pc := 11) (L' := [(4, .int (Int32.ofInt ((a % b : Nat) : Int))), (2, .int (Int32.ofInt (a : Int))), (3, .int (Int32.ofInt (b : Int)))]) C0 dX12_common_11 (by decide +kernel) rfl ?_
      refine xw_iload_n (pc := 13) C0 2 dX12_common_13 rfl rfl ?_
      refine xw_istore_n (pc := 14) (L' := [(2, .int (Int32.ofInt (b : Int))), (4, .int (Int32.ofInt ((a % b : Nat) : Int))), (3, .int (Int32.ofInt (b : Int)))]) C0 dX12_common_14 rfl (by decide +kernel) rfl ?_
      refine xw_iload (pc := 15) C0 1 dX12_common_15 rfl ?_
      refine xw_istore_n (pc := 17) (L' := [(3, .int (Int32.ofInt ((a % b : Nat) : Int))), (2, .int (Int32.ofInt (b : Int))), (4, .int (Int32.ofInt ((a % b : Nat) : Int)))]) C0 dX12_common_17 rfl (by decide +kernel) rfl ?_
      refine xw_goto (pc := 18) (tgt := 4) C0 dX12_common_18 rfl ?_
      refine xw_pk [1, 0] (L' := [(2, .int (Int32.ofInt (b : Int))), (3, .int (Int32.ofInt ((a % b : Nat) : Int)))]) rfl ?_
      exact ih b (a % b) (by omega) (by omega) (by omega) (hx_gcS.trans hg)
set_option maxRecDepth 20000 in
set_option maxHeartbeats 20000000 in
theorem xr_cm {l : Launch} {A9 B9 : Nat} {μ : xw_M} (hG : xw_G xw_GL μ) (hA9 : A9 ≤ 2147483647) (hB : B9 ≤ 2147483647) : xw_MetI l vwCl sa_Ts tb_KT0 tc_KL yX12_common cX12_common 5 (some .int) 2 120 (fun ad => [.int (Int32.ofInt (A9 : Int)), .int (Int32.ofInt (B9 : Int))]) μ (fun r μ' => μ = μ' ∧ r = ((Nat.gcd A9 B9 : Nat) : Int)) :=
  xw_of (by decide +kernel) (fun _ => Nat.le_of_ble_eq_true rfl) (fun p e s m args below meth c D dA A al w0 sz C0 hU hO hKL hr hlk hA => by
    refine xw_iload_n (pc := 0) C0 0 dX12_common_0 rfl rfl ?_
    refine xw_istore_n (pc := 1) (L' := [(2, .int (Int32.ofInt (A9 : Int))), (0, .int (Int32.ofInt (A9 : Int))), (1, .int (Int32.ofInt (B9 : Int)))]) C0 dX12_common_1 rfl (by decide +kernel) rfl ?_
    refine xw_iload_n (pc := 2) C0 2 dX12_common_2 rfl rfl ?_
    refine xw_istore_n (pc := 3) (L' := [(3, .int (Int32.ofInt (B9 : Int))), (2, .int (Int32.ofInt (A9 : Int))), (0, .int (Int32.ofInt (A9 : Int))), (1, .int (Int32.ofInt (B9 : Int)))]) C0 dX12_common_3 rfl (by decide +kernel) rfl ?_
    refine xw_pk [1, 0] (L' := [(2, .int (Int32.ofInt (A9 : Int))), (3, .int (Int32.ofInt (B9 : Int)))]) rfl ?_
    refine xr_cmL (A9 := A9) (B9 := B9) (μ := μ) C0 hU hO hKL hG ?_ (B9 + 1) A9 B9 (by omega) hA9 hB rfl
    refine xw_iload_n (pc := 21) C0 0 dX12_common_21 rfl rfl ?_
    refine xw_iret C0 hA hr hlk rfl dX12_common_22 ?_
    exact ⟨_, rfl, rfl, rfl⟩)
set_option maxRecDepth 20000 in
set_option maxHeartbeats 20000000 in
theorem xq_wbL {l : Launch} {p : Program} {e : Env} {s : State} {m : MethodId} {args : Array Value} {below : List Frame} {meth : Method} {c : Code} {Q : State → Prop} {D : va_G} {dA : Nat → ClassId} {A : Nat → Prop} {al : List (Nat × Nat)} (C0 : sa_C p s m args c D dA A 4 vwCl sa_Ts cX5_weightBehind yX5_weightBehind.cls) (hU : sa_U D vwCl dA s) (hO : tb_Ou A s s.heap) (hKL : al.map Prod.snd = tc_KL) {W : Nat → Int} {k : Nat} {μ : xw_M} (hG : xw_G xw_GL μ) (hk : k ≤ 3) (hP : ∀ f : Nat, f < 8 → μ 140 (8 * k + f) = W f) (kx : xw_W p l e { frames := 2, cells := 0, slots := 0, locals := 120 } s m args below meth c Q D dA A 4 vwCl tb_KT0 al 0 0 μ 30 [(2, .int (Int32.ofInt (hx_sm W 8)))] []) : ∀ (fu9 : Nat) (f : Nat), 8 - (f : Int) < (fu9 : Int) → f ≤ 8 → xw_W p l e { frames := 2, cells := 0, slots := 0, locals := 120 } s m args below meth c Q D dA A 4 vwCl tb_KT0 al 0 0 μ 4 [(0, .ref (xw_ad al 137)), (1, .int (Int32.ofInt (k : Int))), (2, .int (Int32.ofInt (hx_sm W f))), (3, .int (Int32.ofInt (f : Int)))] [] := by
  intro fu9
  induction fu9 with
  | zero => intro f hm hf; exfalso; omega
  | succ fu9 ih =>
    intro f hm hf
    refine xw_iload_n (pc := 4) C0 3 dX5_weightBehind_4 rfl rfl ?_
    refine xw_bipush (pc := 5) C0 dX5_weightBehind_5 (by decide +kernel) ?_
    refine xw_icmp_ge (pc := 7) (tgt := 30) C0 (by omega) (by omega) dX5_weightBehind_7 rfl (fun b1 => ?_) (fun b1 => ?_)
    · have e9 : f = 8 := by omega
      subst e9
      refine xw_pk [2] (L' := [(2, .int (Int32.ofInt (hx_sm W 8)))]) rfl ?_
      exact kx
    · refine xw_iload_n (pc := 10) C0 2 dX5_weightBehind_10 rfl rfl ?_
      refine xw_aload_n (pc := 11) C0 0 dX5_weightBehind_11 rfl rfl ?_
      refine xw_getR (pc := 12) (f := 5) C0 140 kcX5 dX5_weightBehind_12 (by decide +kernel) tv_405 (xj_137 hKL) xk_69 rfl ((rfl).trans (xe_137_5 hG)) ?_
      refine xw_iload_n (pc := 15) C0 1 dX5_weightBehind_15 rfl rfl ?_
      refine xw_bipush (pc := 16) C0 dX5_weightBehind_16 (by decide +kernel) ?_
      refine xw_imul (pc := 18) C0 dX5_weightBehind_18 ?_
      refine xw_iload_n (pc := 19) C0 3 dX5_weightBehind_19 rfl rfl ?_
      refine xw_iadd (pc := 20) C0 dX5_weightBehind_20 ?_
      refine xw_nI (pc := 21) (congrArg Int32.ofInt (show ((k : Int) * 8) + (f : Int) = ((8 * k + f : Nat) : Int) by omega)) ?_
      refine xw_iald (pc := 21) (z := W f) C0 dX5_weightBehind_21 (xj_140 hKL) xk_72 (by omega) (by decide +kernel) (xw_rl (by omega)) (hP f (by omega)) (fun g2 k2 => ?_)
      refine xw_iadd (pc := 22) C0 dX5_weightBehind_22 ?_
      refine xw_istore_n (pc := 23) (L' := [(2, .int (Int32.ofInt ((hx_sm W f) + (W f)))), (0, .ref (xw_ad al 137)), (1, .int (Int32.ofInt (k : Int))), (3, .int (Int32.ofInt (f : Int)))]) C0 dX5_weightBehind_23 rfl (by decide +kernel) rfl ?_
      refine xw_iinc (pc := 24) (L' := [(3, .int (Int32.ofInt ((f : Int) + 1))), (2, .int (Int32.ofInt ((hx_sm W f) + (W f)))), (0, .ref (xw_ad al 137)), (1, .int (Int32.ofInt (k : Int)))]) C0 3 dX5_weightBehind_24 rfl (by decide +kernel) rfl ?_
      refine xw_goto (pc := 27) (tgt := 4) C0 dX5_weightBehind_27 rfl ?_
      have e1 : (f : Int) + 1 = ((f + 1 : Nat) : Int) := by omega
      have e3 : hx_sm W f + W f = hx_sm W (f + 1) := rfl
      rw [e1, e3]
      refine xw_pk [2, 3, 1, 0] (L' := [(0, .ref (xw_ad al 137)), (1, .int (Int32.ofInt (k : Int))), (2, .int (Int32.ofInt (hx_sm W (f + 1)))), (3, .int (Int32.ofInt ((f + 1 : Nat) : Int)))]) rfl ?_
      exact ih (f + 1) (by omega) (by omega)
set_option maxRecDepth 20000 in
set_option maxHeartbeats 20000000 in
theorem xq_wb {l : Launch} {W : Nat → Int} {k : Nat} {μ : xw_M} (hG : xw_G xw_GL μ) (hk : k ≤ 3) (hP : ∀ f : Nat, f < 8 → μ 140 (8 * k + f) = W f) : xw_MetI l vwCl sa_Ts tb_KT0 tc_KL yX5_weightBehind cX5_weightBehind 4 (some .int) 2 120 (fun ad => [.ref (ad 137), .int (Int32.ofInt (k : Int))]) μ (fun r μ' => μ = μ' ∧ r = hx_sm W 8) :=
  xw_of (by decide +kernel) (fun _ => Nat.le_of_ble_eq_true rfl) (fun p e s m args below meth c D dA A al w0 sz C0 hU hO hKL hr hlk hA => by
    refine xw_iconst (pc := 0) C0 dX5_weightBehind_0 ?_
    refine xw_istore_n (pc := 1) (L' := [(2, .int (Int32.ofInt 0)), (0, .ref (xw_ad al 137)), (1, .int (Int32.ofInt (k : Int)))]) C0 dX5_weightBehind_1 rfl (by decide +kernel) rfl ?_
    refine xw_iconst (pc := 2) C0 dX5_weightBehind_2 ?_
    refine xw_istore_n (pc := 3) (L' := [(3, .int (Int32.ofInt 0)), (2, .int (Int32.ofInt 0)), (0, .ref (xw_ad al 137)), (1, .int (Int32.ofInt (k : Int)))]) C0 dX5_weightBehind_3 rfl (by decide +kernel) rfl ?_
    refine xw_pk [2, 3, 1, 0] (L' := [(0, .ref (xw_ad al 137)), (1, .int (Int32.ofInt (k : Int))), (2, .int (Int32.ofInt (hx_sm W 0))), (3, .int (Int32.ofInt ((0 : Nat) : Int)))]) rfl ?_
    refine xq_wbL (W := W) (k := k) (μ := μ) C0 hU hO hKL hG hk hP ?_ 9 0 (by omega) (Nat.zero_le _)
    refine xw_iload_n (pc := 30) C0 0 dX5_weightBehind_30 rfl rfl ?_
    refine xw_iret C0 hA hr hlk rfl dX5_weightBehind_31 ?_
    exact ⟨_, rfl, rfl, rfl⟩)
set_option maxRecDepth 20000 in
set_option maxHeartbeats 20000000 in
theorem xr_laL {l : Launch} {p : Program} {e : Env} {s : State} {m : MethodId} {args : Array Value} {below : List Frame} {meth : Method} {c : Code} {Q : State → Prop} {D : va_G} {dA : Nat → ClassId} {A : Nat → Prop} {al : List (Nat × Nat)} (C0 : sa_C p s m args c D dA A 4 vwCl sa_Ts cX12_leftAt yX12_leftAt.cls) (hU : sa_U D vwCl dA s) (hO : tb_Ou A s s.heap) (hKL : al.map Prod.snd = tc_KL) {W : Nat → Int} {k : Nat} {μ : xw_M} (hG : xw_G xw_GL μ) (hk : k ≤ 3) (hP : ∀ f : Nat, f < 8 → μ 212 (8 * k + f) = W f) (kx : xw_W p l e { frames := 2, cells := 0, slots := 0, locals := 120 } s m args below meth c Q D dA A 4 vwCl tb_KT0 al 0 0 μ 30 [(2, .int (Int32.ofInt (hx_sm W 8)))] []) : ∀ (fu9 : Nat) (f : Nat), 8 - (f : Int) < (fu9 : Int) → f ≤ 8 → xw_W p l e { frames := 2, cells := 0, slots := 0, locals := 120 } s m args below meth c Q D dA A 4 vwCl tb_KT0 al 0 0 μ 4 [(0, .ref (xw_ad al 200)), (1, .int (Int32.ofInt (k : Int))), (2, .int (Int32.ofInt (hx_sm W f))), (3, .int (Int32.ofInt (f : Int)))] [] := by
  intro fu9
  induction fu9 with
  | zero => intro f hm hf; exfalso; omega
  | succ fu9 ih =>
    intro f hm hf
    refine xw_iload_n (pc := 4) C0 3 dX12_leftAt_4 rfl rfl ?_
    refine xw_bipush (pc := 5) C0 dX12_leftAt_5 (by decide +kernel) ?_
    refine xw_icmp_ge (pc := 7) (tgt := 30) C0 (by omega) (by omega) dX12_leftAt_7 rfl (fun b1 => ?_) (fun b1 => ?_)
    · have e9 : f = 8 := by omega
      subst e9
      refine xw_pk [2] (L' := [(2, .int (Int32.ofInt (hx_sm W 8)))]) rfl ?_
      exact kx
    · refine xw_iload_n (pc := 10) C0 2 dX12_leftAt_10 rfl rfl ?_
      refine xw_aload_n (pc := 11) C0 0 dX12_leftAt_11 rfl rfl ?_
      refine xw_getR (pc := 12) (f := 27) C0 212 kcX12 dX12_leftAt_12 (by decide +kernel) tv_1288 (xj_200 hKL) xk_0 rfl ((rfl).trans (xe_200_27 hG)) ?_
      refine xw_bipush (pc := 15) C0 dX12_leftAt_15 (by decide +kernel) ?_
      refine xw_iload_n (pc := 17) C0 1 dX12_leftAt_17 rfl rfl ?_
      refine xw_imul (pc := 18) C0 dX12_leftAt_18 ?_
      refine xw_iload_n (pc := 19) C0 3 dX12_leftAt_19 rfl rfl ?_
      refine xw_iadd (pc := 20) C0 dX12_leftAt_20 ?_
      refine xw_nI (pc := 21) (congrArg Int32.ofInt (show (8 * (k : Int)) + (f : Int) = ((8 * k + f : Nat) : Int) by omega)) ?_
      refine xw_iald (pc := 21) (z := W f) C0 dX12_leftAt_21 (xj_212 hKL) xk_11 (by omega) (by decide +kernel) (xw_rl (by omega)) (hP f (by omega)) (fun g2 k2 => ?_)
      refine xw_iadd (pc := 22) C0 dX12_leftAt_22 ?_
      refine xw_istore_n (pc := 23) (L' := [(2, .int (Int32.ofInt ((hx_sm W f) + (W f)))), (0, .ref (xw_ad al 200)), (1, .int (Int32.ofInt (k : Int))), (3, .int (Int32.ofInt (f : Int)))]) C0 dX12_leftAt_23 rfl (by decide +kernel) rfl ?_
      refine xw_iinc (pc := 24) (L' := [(3, .int (Int32.ofInt ((f : Int) + 1))), (2, .int (Int32.ofInt ((hx_sm W f) + (W f)))), (0, .ref (xw_ad al 200)), (1, .int (Int32.ofInt (k : Int)))]) C0 3 dX12_leftAt_24 rfl (by decide +kernel) rfl ?_
      refine xw_goto (pc := 27) (tgt := 4) C0 dX12_leftAt_27 rfl ?_
      have e1 : (f : Int) + 1 = ((f + 1 : Nat) : Int) := by omega
      have e3 : hx_sm W f + W f = hx_sm W (f + 1) := rfl
      rw [e1, e3]
      refine xw_pk [2, 3, 1, 0] (L' := [(0, .ref (xw_ad al 200)), (1, .int (Int32.ofInt (k : Int))), (2, .int (Int32.ofInt (hx_sm W (f + 1)))), (3, .int (Int32.ofInt ((f + 1 : Nat) : Int)))]) rfl ?_
      exact ih (f + 1) (by omega) (by omega)
set_option maxRecDepth 20000 in
set_option maxHeartbeats 20000000 in
theorem xr_la {l : Launch} {W : Nat → Int} {k : Nat} {μ : xw_M} (hG : xw_G xw_GL μ) (hk : k ≤ 3) (hP : ∀ f : Nat, f < 8 → μ 212 (8 * k + f) = W f) : xw_MetI l vwCl sa_Ts tb_KT0 tc_KL yX12_leftAt cX12_leftAt 4 (some .int) 2 120 (fun ad => [.ref (ad 200), .int (Int32.ofInt (k : Int))]) μ (fun r μ' => μ = μ' ∧ r = hx_sm W 8) :=
  xw_of (by decide +kernel) (fun _ => Nat.le_of_ble_eq_true rfl) (fun p e s m args below meth c D dA A al w0 sz C0 hU hO hKL hr hlk hA => by
    refine xw_iconst (pc := 0) C0 dX12_leftAt_0 ?_
    refine xw_istore_n (pc := 1) (L' := [(2, .int (Int32.ofInt 0)), (0, .ref (xw_ad al 200)), (1, .int (Int32.ofInt (k : Int)))]) C0 dX12_leftAt_1 rfl (by decide +kernel) rfl ?_
    refine xw_iconst (pc := 2) C0 dX12_leftAt_2 ?_
    refine xw_istore_n (pc := 3) (L' := [(3, .int (Int32.ofInt 0)), (2, .int (Int32.ofInt 0)), (0, .ref (xw_ad al 200)), (1, .int (Int32.ofInt (k : Int)))]) C0 dX12_leftAt_3 rfl (by decide +kernel) rfl ?_
    refine xw_pk [2, 3, 1, 0] (L' := [(0, .ref (xw_ad al 200)), (1, .int (Int32.ofInt (k : Int))), (2, .int (Int32.ofInt (hx_sm W 0))), (3, .int (Int32.ofInt ((0 : Nat) : Int)))]) rfl ?_
    refine xr_laL (W := W) (k := k) (μ := μ) C0 hU hO hKL hG hk hP ?_ 9 0 (by omega) (Nat.zero_le _)
    refine xw_iload_n (pc := 30) C0 0 dX12_leftAt_30 rfl rfl ?_
    refine xw_iret C0 hA hr hlk rfl dX12_leftAt_31 ?_
    exact ⟨_, rfl, rfl, rfl⟩)
set_option maxRecDepth 20000 in
set_option maxHeartbeats 20000000 in
theorem xq_kb1 {l : Launch} {B : hx_pB} {c9 : Int} {row : Nat → Int} {μ : xw_M} (hG : xw_G xw_GL μ) (hc : 0 ≤ c9 ∧ c9 < 2000000000) (hrw : ∀ i : Nat, i < 1 → μ 139 i = row i) (hB : hx_bC B μ) : xw_MetV l vwCl sa_Ts tb_KT0 tc_KL yX5_keepBetter cX5_keepBetter 3 none 2 120 (fun ad => [.ref (ad 137), .int (Int32.ofInt 1), .int (Int32.ofInt c9)]) μ (fun μ' => hx_bC (hx_kp B 1 c9 row) μ' ∧ xw_F [(137, 1, 2), (138, 0, 0)] μ μ') :=
  xw_of (by decide +kernel) (fun _ => Nat.le_of_ble_eq_true rfl) (fun p e s m args below meth c D dA A al w0 sz C0 hU hO hKL hr hlk hA => by
    refine xw_aload_n (pc := 0) C0 0 dX5_keepBetter_0 rfl rfl ?_
    refine xw_getI (pc := 1) (f := 2) (z := μ 137 2) C0 kcX5 dX5_keepBetter_1 (by decide +kernel) tv_400 (xj_137 hKL) xk_69 rfl (rfl) (fun g1 k1 => ?_)
    refine xw_iconst (pc := 4) C0 dX5_keepBetter_4 ?_
    refine xw_icmp_eq (pc := 5) (tgt := 16) C0 (by omega) (by omega) dX5_keepBetter_5 rfl (fun b2 => ?_) (fun b2 => ?_)
    · refine xw_aload_n (pc := 16) C0 0 dX5_keepBetter_16 rfl rfl ?_
      refine xw_iload_n (pc := 17) C0 2 dX5_keepBetter_17 rfl rfl ?_
      refine xw_putI (pc := 18) (f := 2) C0 kcX5 dX5_keepBetter_18 (by decide +kernel) tv_400 rfl rfl (xj_137 hKL) xk_69 rfl (by omega) (by omega) ?_
      refine xw_aload_n (pc := 21) C0 0 dX5_keepBetter_21 rfl rfl ?_
      refine xw_iload_n (pc := 22) C0 1 dX5_keepBetter_22 rfl rfl ?_
      refine xw_putI (pc := 23) (f := 1) C0 kcX5 dX5_keepBetter_23 (by decide +kernel) tv_398 rfl rfl (xj_137 hKL) xk_69 rfl (by omega) (by omega) ?_
      refine xw_aload_n (pc := 26) C0 0 dX5_keepBetter_26 rfl rfl ?_
      refine xw_getR (pc := 27) (f := 4) C0 139 kcX5 dX5_keepBetter_27 (by decide +kernel) tv_404 (xj_137 hKL) xk_69 rfl (((xw_un (by decide +kernel)).trans ((xw_un (by decide +kernel)).trans rfl)).trans (xe_137_4 hG)) ?_
      refine xw_iconst (pc := 30) C0 dX5_keepBetter_30 ?_
      refine xw_aload_n (pc := 31) C0 0 dX5_keepBetter_31 rfl rfl ?_
      refine xw_getR (pc := 32) (f := 0) C0 138 kcX5 dX5_keepBetter_32 (by decide +kernel) tv_396 (xj_137 hKL) xk_69 rfl (((xw_un (by decide +kernel)).trans ((xw_un (by decide +kernel)).trans rfl)).trans (xe_137_0 hG)) ?_
      refine xw_iconst (pc := 35) C0 dX5_keepBetter_35 ?_
      refine xw_iload_n (pc := 36) C0 1 dX5_keepBetter_36 rfl rfl ?_
      have Ft1 : xw_F [(137, 1, 1), (137, 2, 2)] μ (xw_u (xw_u μ 137 2 c9) 137 1 1) := (((xw_F.rf (ML := [(137, 1, 1), (137, 2, 2)])).u (show (137, 2, 2) ∈ _ by decide) ⟨by decide, by decide⟩).u (show (137, 1, 1) ∈ _ by decide) ⟨by decide, by decide⟩)
      have vt1_137_1 : (xw_u (xw_u μ 137 2 c9) 137 1 1) 137 1 = 1 := xw_ug
      have vt1_137_2 : (xw_u (xw_u μ 137 2 c9) 137 1 1) 137 2 = c9 := (xw_un (by decide +kernel)).trans xw_ug
      generalize (xw_u (xw_u μ 137 2 c9) 137 1 1) = t1 at Ft1 vt1_137_1 vt1_137_2 ⊢
      have hG_t1 := xw_GF hG Ft1 (by decide +kernel)
      refine xw_acI (pc := 37) (μ := t1) (n := 1) C0 dX5_keepBetter_37 tv_1226 tv_629 tv_628 tv_14 (by decide +kernel) (by decide +kernel) (Nat.le_of_ble_eq_true rfl) (xj_139 hKL) (xj_138 hKL) xk_71 xk_70 (by decide +kernel) (fun _ _ _ h9 => h9) ?_
      have G3 : xw_F [(138, 0, 0)] t1 (fun j i => if j = 138 ∧ i < 1 then t1 139 i else t1 j i) := fun j i h9 => if_neg (fun q => by obtain ⟨q1, q2⟩ := q; subst q1; exact xw_o_in h9 List.mem_cons_self ⟨Nat.zero_le _, by omega⟩)
      have P3 : ∀ i : Nat, i < 1 → (fun j i => if j = 138 ∧ i < 1 then t1 139 i else t1 j i) 138 i = t1 139 i := fun i hi => if_pos ⟨rfl, hi⟩
      generalize (fun j i => if j = 138 ∧ i < 1 then t1 139 i else t1 j i) = c3 at G3 P3 ⊢
      have hG_c3 := xw_GF hG_t1 G3 (by decide +kernel)
      refine xw_vret C0 hA hr hlk dX5_keepBetter_40 ?_
      have e9 : hx_kp B 1 c9 row = (c9, 1, row) := hx_kpT (by rcases hB.1 with q | q <;> omega)
      rw [e9]
      refine ⟨rfl, ⟨Or.inr ⟨hc.2, hc.1, (G3 137 2 rfl).trans vt1_137_2⟩, fun _ => ⟨(G3 137 1 rfl).trans vt1_137_1, fun i _ hi => ?_⟩⟩, (((xw_F.rf (ML := [(137, 1, 2), (138, 0, 0)])).tr Ft1 (fun j i h => xw_o_sub (by decide +kernel) j i h)).tr G3 (fun j i h => xw_o_sub (by decide +kernel) j i h))⟩
      have hi : i < 1 := by have hi : (i : Int) < 1 := hi; omega
      exact (P3 i hi).trans ((Ft1 139 i (xw_oj (by decide +kernel) i)).trans (hrw i hi))
    · refine xw_iload_n (pc := 8) C0 2 dX5_keepBetter_8 rfl rfl ?_
      refine xw_aload_n (pc := 9) C0 0 dX5_keepBetter_9 rfl rfl ?_
      refine xw_getI (pc := 10) (f := 2) (z := μ 137 2) C0 kcX5 dX5_keepBetter_10 (by decide +kernel) tv_400 (xj_137 hKL) xk_69 rfl (rfl) (fun g4 k4 => ?_)
      refine xw_icmp_ge (pc := 13) (tgt := 40) C0 (by omega) (by omega) dX5_keepBetter_13 rfl (fun b5 => ?_) (fun b5 => ?_)
      · refine xw_vret C0 hA hr hlk dX5_keepBetter_40 ?_
        have e9 : hx_kp B 1 c9 row = B := hx_kpF (by rcases hB.1 with q | q <;> omega)
        rw [e9]
        exact ⟨rfl, hB, xw_F.rf⟩
      · refine xw_aload_n (pc := 16) C0 0 dX5_keepBetter_16 rfl rfl ?_
        refine xw_iload_n (pc := 17) C0 2 dX5_keepBetter_17 rfl rfl ?_
        refine xw_putI (pc := 18) (f := 2) C0 kcX5 dX5_keepBetter_18 (by decide +kernel) tv_400 rfl rfl (xj_137 hKL) xk_69 rfl (by omega) (by omega) ?_
        refine xw_aload_n (pc := 21) C0 0 dX5_keepBetter_21 rfl rfl ?_
        refine xw_iload_n (pc := 22) C0 1 dX5_keepBetter_22 rfl rfl ?_
        refine xw_putI (pc := 23) (f := 1) C0 kcX5 dX5_keepBetter_23 (by decide +kernel) tv_398 rfl rfl (xj_137 hKL) xk_69 rfl (by omega) (by omega) ?_
        refine xw_aload_n (pc := 26) C0 0 dX5_keepBetter_26 rfl rfl ?_
        refine xw_getR (pc := 27) (f := 4) C0 139 kcX5 dX5_keepBetter_27 (by decide +kernel) tv_404 (xj_137 hKL) xk_69 rfl (((xw_un (by decide +kernel)).trans ((xw_un (by decide +kernel)).trans rfl)).trans (xe_137_4 hG)) ?_
        refine xw_iconst (pc := 30) C0 dX5_keepBetter_30 ?_
        refine xw_aload_n (pc := 31) C0 0 dX5_keepBetter_31 rfl rfl ?_
        refine xw_getR (pc := 32) (f := 0) C0 138 kcX5 dX5_keepBetter_32 (by decide +kernel) tv_396 (xj_137 hKL) xk_69 rfl (((xw_un (by decide +kernel)).trans ((xw_un (by decide +kernel)).trans rfl)).trans (xe_137_0 hG)) ?_
        refine xw_iconst (pc := 35) C0 dX5_keepBetter_35 ?_
        refine xw_iload_n (pc := 36) C0 1 dX5_keepBetter_36 rfl rfl ?_
        have Ft2 : xw_F [(137, 1, 1), (137, 2, 2)] μ (xw_u (xw_u μ 137 2 c9) 137 1 1) := (((xw_F.rf (ML := [(137, 1, 1), (137, 2, 2)])).u (show (137, 2, 2) ∈ _ by decide) ⟨by decide, by decide⟩).u (show (137, 1, 1) ∈ _ by decide) ⟨by decide, by decide⟩)
        have vt2_137_1 : (xw_u (xw_u μ 137 2 c9) 137 1 1) 137 1 = 1 := xw_ug
        have vt2_137_2 : (xw_u (xw_u μ 137 2 c9) 137 1 1) 137 2 = c9 := (xw_un (by decide +kernel)).trans xw_ug
        generalize (xw_u (xw_u μ 137 2 c9) 137 1 1) = t2 at Ft2 vt2_137_1 vt2_137_2 ⊢
        have hG_t2 := xw_GF hG Ft2 (by decide +kernel)
        refine xw_acI (pc := 37) (μ := t2) (n := 1) C0 dX5_keepBetter_37 tv_1226 tv_629 tv_628 tv_14 (by decide +kernel) (by decide +kernel) (Nat.le_of_ble_eq_true rfl) (xj_139 hKL) (xj_138 hKL) xk_71 xk_70 (by decide +kernel) (fun _ _ _ h9 => h9) ?_
        have G6 : xw_F [(138, 0, 0)] t2 (fun j i => if j = 138 ∧ i < 1 then t2 139 i else t2 j i) := fun j i h9 => if_neg (fun q => by obtain ⟨q1, q2⟩ := q; subst q1; exact xw_o_in h9 List.mem_cons_self ⟨Nat.zero_le _, by omega⟩)
        have P6 : ∀ i : Nat, i < 1 → (fun j i => if j = 138 ∧ i < 1 then t2 139 i else t2 j i) 138 i = t2 139 i := fun i hi => if_pos ⟨rfl, hi⟩
        generalize (fun j i => if j = 138 ∧ i < 1 then t2 139 i else t2 j i) = c6 at G6 P6 ⊢
        have hG_c6 := xw_GF hG_t2 G6 (by decide +kernel)
        refine xw_vret C0 hA hr hlk dX5_keepBetter_40 ?_
        have e9 : hx_kp B 1 c9 row = (c9, 1, row) := hx_kpT (by rcases hB.1 with q | q <;> omega)
        rw [e9]
        refine ⟨rfl, ⟨Or.inr ⟨hc.2, hc.1, (G6 137 2 rfl).trans vt2_137_2⟩, fun _ => ⟨(G6 137 1 rfl).trans vt2_137_1, fun i _ hi => ?_⟩⟩, (((xw_F.rf (ML := [(137, 1, 2), (138, 0, 0)])).tr Ft2 (fun j i h => xw_o_sub (by decide +kernel) j i h)).tr G6 (fun j i h => xw_o_sub (by decide +kernel) j i h))⟩
        have hi : i < 1 := by have hi : (i : Int) < 1 := hi; omega
        exact (P6 i hi).trans ((Ft2 139 i (xw_oj (by decide +kernel) i)).trans (hrw i hi)))
set_option maxRecDepth 20000 in
set_option maxHeartbeats 20000000 in
theorem xq_kb2 {l : Launch} {B : hx_pB} {c9 : Int} {row : Nat → Int} {μ : xw_M} (hG : xw_G xw_GL μ) (hc : 0 ≤ c9 ∧ c9 < 2000000000) (hrw : ∀ i : Nat, i < 2 → μ 139 i = row i) (hB : hx_bC B μ) : xw_MetV l vwCl sa_Ts tb_KT0 tc_KL yX5_keepBetter cX5_keepBetter 3 none 2 120 (fun ad => [.ref (ad 137), .int (Int32.ofInt 2), .int (Int32.ofInt c9)]) μ (fun μ' => hx_bC (hx_kp B 2 c9 row) μ' ∧ xw_F [(137, 1, 2), (138, 0, 1)] μ μ') :=
  xw_of (by decide +kernel) (fun _ => Nat.le_of_ble_eq_true rfl) (fun p e s m args below meth c D dA A al w0 sz C0 hU hO hKL hr hlk hA => by
    refine xw_aload_n (pc := 0) C0 0 dX5_keepBetter_0 rfl rfl ?_
    refine xw_getI (pc := 1) (f := 2) (z := μ 137 2) C0 kcX5 dX5_keepBetter_1 (by decide +kernel) tv_400 (xj_137 hKL) xk_69 rfl (rfl) (fun g1 k1 => ?_)
    refine xw_iconst (pc := 4) C0 dX5_keepBetter_4 ?_
    refine xw_icmp_eq (pc := 5) (tgt := 16) C0 (by omega) (by omega) dX5_keepBetter_5 rfl (fun b2 => ?_) (fun b2 => ?_)
    · refine xw_aload_n (pc := 16) C0 0 dX5_keepBetter_16 rfl rfl ?_
      refine xw_iload_n (pc := 17) C0 2 dX5_keepBetter_17 rfl rfl ?_
      refine xw_putI (pc := 18) (f := 2) C0 kcX5 dX5_keepBetter_18 (by decide +kernel) tv_400 rfl rfl (xj_137 hKL) xk_69 rfl (by omega) (by omega) ?_
      refine xw_aload_n (pc := 21) C0 0 dX5_keepBetter_21 rfl rfl ?_
      refine xw_iload_n (pc := 22) C0 1 dX5_keepBetter_22 rfl rfl ?_
      refine xw_putI (pc := 23) (f := 1) C0 kcX5 dX5_keepBetter_23 (by decide +kernel) tv_398 rfl rfl (xj_137 hKL) xk_69 rfl (by omega) (by omega) ?_
      refine xw_aload_n (pc := 26) C0 0 dX5_keepBetter_26 rfl rfl ?_
      refine xw_getR (pc := 27) (f := 4) C0 139 kcX5 dX5_keepBetter_27 (by decide +kernel) tv_404 (xj_137 hKL) xk_69 rfl (((xw_un (by decide +kernel)).trans ((xw_un (by decide +kernel)).trans rfl)).trans (xe_137_4 hG)) ?_
      refine xw_iconst (pc := 30) C0 dX5_keepBetter_30 ?_
      refine xw_aload_n (pc := 31) C0 0 dX5_keepBetter_31 rfl rfl ?_
      refine xw_getR (pc := 32) (f := 0) C0 138 kcX5 dX5_keepBetter_32 (by decide +kernel) tv_396 (xj_137 hKL) xk_69 rfl (((xw_un (by decide +kernel)).trans ((xw_un (by decide +kernel)).trans rfl)).trans (xe_137_0 hG)) ?_
      refine xw_iconst (pc := 35) C0 dX5_keepBetter_35 ?_
      refine xw_iload_n (pc := 36) C0 1 dX5_keepBetter_36 rfl rfl ?_
      have Ft1 : xw_F [(137, 1, 1), (137, 2, 2)] μ (xw_u (xw_u μ 137 2 c9) 137 1 2) := (((xw_F.rf (ML := [(137, 1, 1), (137, 2, 2)])).u (show (137, 2, 2) ∈ _ by decide) ⟨by decide, by decide⟩).u (show (137, 1, 1) ∈ _ by decide) ⟨by decide, by decide⟩)
      have vt1_137_1 : (xw_u (xw_u μ 137 2 c9) 137 1 2) 137 1 = 2 := xw_ug
      have vt1_137_2 : (xw_u (xw_u μ 137 2 c9) 137 1 2) 137 2 = c9 := (xw_un (by decide +kernel)).trans xw_ug
      generalize (xw_u (xw_u μ 137 2 c9) 137 1 2) = t1 at Ft1 vt1_137_1 vt1_137_2 ⊢
      have hG_t1 := xw_GF hG Ft1 (by decide +kernel)
      refine xw_acI (pc := 37) (μ := t1) (n := 2) C0 dX5_keepBetter_37 tv_1226 tv_629 tv_628 tv_14 (by decide +kernel) (by decide +kernel) (Nat.le_of_ble_eq_true rfl) (xj_139 hKL) (xj_138 hKL) xk_71 xk_70 (by decide +kernel) (fun _ _ _ h9 => h9) ?_
      have G3 : xw_F [(138, 0, 1)] t1 (fun j i => if j = 138 ∧ i < 2 then t1 139 i else t1 j i) := fun j i h9 => if_neg (fun q => by obtain ⟨q1, q2⟩ := q; subst q1; exact xw_o_in h9 List.mem_cons_self ⟨Nat.zero_le _, by omega⟩)
      have P3 : ∀ i : Nat, i < 2 → (fun j i => if j = 138 ∧ i < 2 then t1 139 i else t1 j i) 138 i = t1 139 i := fun i hi => if_pos ⟨rfl, hi⟩
      generalize (fun j i => if j = 138 ∧ i < 2 then t1 139 i else t1 j i) = c3 at G3 P3 ⊢
      have hG_c3 := xw_GF hG_t1 G3 (by decide +kernel)
      refine xw_vret C0 hA hr hlk dX5_keepBetter_40 ?_
      have e9 : hx_kp B 2 c9 row = (c9, 2, row) := hx_kpT (by rcases hB.1 with q | q <;> omega)
      rw [e9]
      refine ⟨rfl, ⟨Or.inr ⟨hc.2, hc.1, (G3 137 2 rfl).trans vt1_137_2⟩, fun _ => ⟨(G3 137 1 rfl).trans vt1_137_1, fun i _ hi => ?_⟩⟩, (((xw_F.rf (ML := [(137, 1, 2), (138, 0, 1)])).tr Ft1 (fun j i h => xw_o_sub (by decide +kernel) j i h)).tr G3 (fun j i h => xw_o_sub (by decide +kernel) j i h))⟩
      have hi : i < 2 := by have hi : (i : Int) < 2 := hi; omega
      exact (P3 i hi).trans ((Ft1 139 i (xw_oj (by decide +kernel) i)).trans (hrw i hi))
    · refine xw_iload_n (pc := 8) C0 2 dX5_keepBetter_8 rfl rfl ?_
      refine xw_aload_n (pc := 9) C0 0 dX5_keepBetter_9 rfl rfl ?_
      refine xw_getI (pc := 10) (f := 2) (z := μ 137 2) C0 kcX5 dX5_keepBetter_10 (by decide +kernel) tv_400 (xj_137 hKL) xk_69 rfl (rfl) (fun g4 k4 => ?_)
      refine xw_icmp_ge (pc := 13) (tgt := 40) C0 (by omega) (by omega) dX5_keepBetter_13 rfl (fun b5 => ?_) (fun b5 => ?_)
      · refine xw_vret C0 hA hr hlk dX5_keepBetter_40 ?_
        have e9 : hx_kp B 2 c9 row = B := hx_kpF (by rcases hB.1 with q | q <;> omega)
        rw [e9]
        exact ⟨rfl, hB, xw_F.rf⟩
      · refine xw_aload_n (pc := 16) C0 0 dX5_keepBetter_16 rfl rfl ?_
        refine xw_iload_n (pc := 17) C0 2 dX5_keepBetter_17 rfl rfl ?_
        refine xw_putI (pc := 18) (f := 2) C0 kcX5 dX5_keepBetter_18 (by decide +kernel) tv_400 rfl rfl (xj_137 hKL) xk_69 rfl (by omega) (by omega) ?_
        refine xw_aload_n (pc := 21) C0 0 dX5_keepBetter_21 rfl rfl ?_
        refine xw_iload_n (pc := 22) C0 1 dX5_keepBetter_22 rfl rfl ?_
        refine xw_putI (pc := 23) (f := 1) C0 kcX5 dX5_keepBetter_23 (by decide +kernel) tv_398 rfl rfl (xj_137 hKL) xk_69 rfl (by omega) (by omega) ?_
        refine xw_aload_n (pc := 26) C0 0 dX5_keepBetter_26 rfl rfl ?_
        refine xw_getR (pc := 27) (f := 4) C0 139 kcX5 dX5_keepBetter_27 (by decide +kernel) tv_404 (xj_137 hKL) xk_69 rfl (((xw_un (by decide +kernel)).trans ((xw_un (by decide +kernel)).trans rfl)).trans (xe_137_4 hG)) ?_
        refine xw_iconst (pc := 30) C0 dX5_keepBetter_30 ?_
        refine xw_aload_n (pc := 31) C0 0 dX5_keepBetter_31 rfl rfl ?_
        refine xw_getR (pc := 32) (f := 0) C0 138 kcX5 dX5_keepBetter_32 (by decide +kernel) tv_396 (xj_137 hKL) xk_69 rfl (((xw_un (by decide +kernel)).trans ((xw_un (by decide +kernel)).trans rfl)).trans (xe_137_0 hG)) ?_
        refine xw_iconst (pc := 35) C0 dX5_keepBetter_35 ?_
        refine xw_iload_n (pc := 36) C0 1 dX5_keepBetter_36 rfl rfl ?_
        have Ft2 : xw_F [(137, 1, 1), (137, 2, 2)] μ (xw_u (xw_u μ 137 2 c9) 137 1 2) := (((xw_F.rf (ML := [(137, 1, 1), (137, 2, 2)])).u (show (137, 2, 2) ∈ _ by decide) ⟨by decide, by decide⟩).u (show (137, 1, 1) ∈ _ by decide) ⟨by decide, by decide⟩)
        have vt2_137_1 : (xw_u (xw_u μ 137 2 c9) 137 1 2) 137 1 = 2 := xw_ug
        have vt2_137_2 : (xw_u (xw_u μ 137 2 c9) 137 1 2) 137 2 = c9 := (xw_un (by decide +kernel)).trans xw_ug
        generalize (xw_u (xw_u μ 137 2 c9) 137 1 2) = t2 at Ft2 vt2_137_1 vt2_137_2 ⊢
        have hG_t2 := xw_GF hG Ft2 (by decide +kernel)
        refine xw_acI (pc := 37) (μ := t2) (n := 2) C0 dX5_keepBetter_37 tv_1226 tv_629 tv_628 tv_14 (by decide +kernel) (by decide +kernel) (Nat.le_of_ble_eq_true rfl) (xj_139 hKL) (xj_138 hKL) xk_71 xk_70 (by decide +kernel) (fun _ _ _ h9 => h9) ?_
        have G6 : xw_F [(138, 0, 1)] t2 (fun j i => if j = 138 ∧ i < 2 then t2 139 i else t2 j i) := fun j i h9 => if_neg (fun q => by obtain ⟨q1, q2⟩ := q; subst q1; exact xw_o_in h9 List.mem_cons_self ⟨Nat.zero_le _, by omega⟩)
        have P6 : ∀ i : Nat, i < 2 → (fun j i => if j = 138 ∧ i < 2 then t2 139 i else t2 j i) 138 i = t2 139 i := fun i hi => if_pos ⟨rfl, hi⟩
        generalize (fun j i => if j = 138 ∧ i < 2 then t2 139 i else t2 j i) = c6 at G6 P6 ⊢
        have hG_c6 := xw_GF hG_t2 G6 (by decide +kernel)
        refine xw_vret C0 hA hr hlk dX5_keepBetter_40 ?_
        have e9 : hx_kp B 2 c9 row = (c9, 2, row) := hx_kpT (by rcases hB.1 with q | q <;> omega)
        rw [e9]
        refine ⟨rfl, ⟨Or.inr ⟨hc.2, hc.1, (G6 137 2 rfl).trans vt2_137_2⟩, fun _ => ⟨(G6 137 1 rfl).trans vt2_137_1, fun i _ hi => ?_⟩⟩, (((xw_F.rf (ML := [(137, 1, 2), (138, 0, 1)])).tr Ft2 (fun j i h => xw_o_sub (by decide +kernel) j i h)).tr G6 (fun j i h => xw_o_sub (by decide +kernel) j i h))⟩
        have hi : i < 2 := by have hi : (i : Int) < 2 := hi; omega
        exact (P6 i hi).trans ((Ft2 139 i (xw_oj (by decide +kernel) i)).trans (hrw i hi)))
