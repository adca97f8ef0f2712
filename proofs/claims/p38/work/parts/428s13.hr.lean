set_option maxRecDepth 20000 in
set_option maxHeartbeats 20000000 in
theorem xr_house {l : Launch} {t : Nat → Int} {n : Nat} {μ : xw_M} (hG : xw_G xw_GL μ) (ht : ∀ i : Nat, μ 201 i = t i) (htb : ∀ i : Nat, i < 940 → 0 ≤ t i ∧ t i ≤ 255) (hn : μ 200 2 = (n : Int)) (hn9 : n ≤ 940) : xw_MetI l vwCl sa_Ts tb_KT0 tc_KL yX12_house cX12_house 3 (some .int) 8 253 (fun ad => [.ref (ad 200)]) μ (fun r μ' => ((∃ q : Int × (Nat → Int) × (Nat → Int), hp_res t n = .inr q ∧ r = q.1 ∧ hp_ok q.2.1 q.2.2 ∧ (∀ k : Nat, k < 77 → μ' 203 k = q.2.1 k) ∧ (∀ k : Nat, k < 77 → μ' 202 k = q.2.1 k) ∧ (∀ k : Nat, 139 ≤ k → k < 379 → μ' 202 k = 0) ∧ ((∀ k : Nat, k < 6 → (k : Int) < q.2.1 0 → μ' 207 (k + 0) = q.2.2 k) ∧ (∀ k : Nat, k < 8 → (k : Int) < q.2.1 1 → μ' 207 (6 + k + 0) = q.2.2 (6 + k)))) ∨ (∃ e9 : hp_E, hp_res t n = .inl e9 ∧ r = -1 - e9.2 ∧ hr_Z μ' ∧ (∀ k : Nat, μ' 202 k = μ 202 k) ∧ ∀ k : Nat, μ' 207 k = μ 207 k)) ∧ μ' 200 2 = 0 ∧ xw_F [(200, 0, 0), (200, 2, 13), (200, 23, 23), (202, 0, 378), (203, 0, 76), (207, 0, 13), (208, 0, 13)] μ μ') :=
  xw_of (by decide +kernel) (fun _ => Nat.le_of_ble_eq_true rfl) (fun p e s m args below meth c D dA A al w0 sz C0 hU hO hKL hr hlk hA => by
    refine xw_aload_n (pc := 0) C0 0 dX12_house_0 rfl rfl ?_
    refine xw_sipush (pc := 1) C0 dX12_house_1 (by decide +kernel) ?_
    refine xw_callVV (pc := 4) (μ := μ) (ci := 12) (rest := []) (As := [.int (Int32.ofInt ((900 : Nat) : Int))]) C0 hU hO sa_Tg hKL (xr_begin (l := l) (t := t) (n := n) (lim := 900) hG ht htb hn hn9 (by decide +kernel)) tv_1417 dX12_house_4 tv_1414 tv_1416 tq_X12_begin tv_13 rfl yb_X12_begin (by decide +kernel) rfl rfl rfl (by decide +kernel) (Nat.le_of_ble_eq_true rfl) (xj_200 hKL) xk_0 (fun m1 w1 => ?_)
    obtain ⟨hS_m1, hT_m1, z2, F1⟩ := w1
    have hG_m1 := hS_m1.1
    refine xw_iconst (pc := 7) C0 dX12_house_7 ?_
    refine xw_istore_n (pc := 8) (L' := [(1, .int (Int32.ofInt 0)), (0, .ref (xw_ad al 200))]) C0 dX12_house_8 rfl (by decide +kernel) rfl ?_
    refine xw_pk [0, 1] (L' := [(1, .int (Int32.ofInt ((0 : Nat) : Int))), (0, .ref (xw_ad al 200))]) rfl ?_
    refine xr_hoA (μ := m1) C0 hU hO hKL (fun ν hz hF hG_ν => ?_) 78 0 m1 (by omega) (by omega) (fun i h => absurd h (by omega)) xw_F.rf hG_m1
    refine xw_iconst (pc := 28) C0 dX12_house_28 ?_
    refine xw_istore_n (pc := 29) (L' := [(1, .int (Int32.ofInt 0)), (0, .ref (xw_ad al 200))]) C0 dX12_house_29 rfl (by decide +kernel) rfl ?_
    have hS1 := hr_SF hS_m1 hF (by decide +kernel)
    have hT1 := hr_TF hT_m1 hF (by decide +kernel)
    have hH1 : hr_H (fun _ => 0) (fun _ => 0) ν := ⟨fun k hk => hz k hk, fun k _ h9 => absurd h9 (by show ¬ (k : Int) < 0; omega), fun k _ h9 => absurd h9 (by show ¬ (k : Int) < 0; omega)⟩
    refine xw_pk [0, 1] (L' := [(1, .int (Int32.ofInt 0)), (0, .ref (xw_ad al 200))]) rfl ?_
    refine xr_hoL (μ := ν) (res := hp_res t n) C0 hU hO hKL (fun ξ rd nm ln9 hS_ξ hH_ξ hK hln hres hF2 => ?_) (fun ξ e9 hW hZ hres hF2 => ?_) 33 32 ν (fun _ => 0) (fun _ => 0) 0 0 (by omega) (by decide +kernel) rfl hS1 hT1 hH1 hp_ok0 rfl xw_F.rf
    · refine xw_iconst (pc := 64) C0 dX12_house_64 ?_
      refine xw_istore_n (pc := 65) (L' := [(2, .int (Int32.ofInt 0)), (1, .int (Int32.ofInt ln9)), (0, .ref (xw_ad al 200))]) C0 dX12_house_65 rfl (by decide +kernel) rfl ?_
      refine xw_pk [0, 1, 2] (L' := [(2, .int (Int32.ofInt ((0 : Nat) : Int))), (1, .int (Int32.ofInt ln9)), (0, .ref (xw_ad al 200))]) rfl ?_
      refine xr_hoB (μ := ξ) C0 hU hO hKL (fun υ hz3 hF3 hG_υ => ?_) 78 0 ξ (by omega) (by omega) (fun i h => absurd h (by omega)) xw_F.rf hS_ξ.1
      refine xw_iconst (pc := 90) C0 dX12_house_90 ?_
      refine xw_istore_n (pc := 91) (L' := [(2, .int (Int32.ofInt 0)), (1, .int (Int32.ofInt ln9)), (0, .ref (xw_ad al 200))]) C0 dX12_house_91 rfl (by decide +kernel) rfl ?_
      refine xw_pk [0, 1, 2] (L' := [(2, .int (Int32.ofInt ((0 : Nat) : Int))), (1, .int (Int32.ofInt ln9)), (0, .ref (xw_ad al 200))]) rfl ?_
      refine xr_hoC (μ := υ) C0 hU hO hKL (fun χ hz4 hF4 hG_χ => ?_) 15 0 υ (by omega) (by omega) (fun i h => absurd h (Nat.not_lt_zero i)) xw_F.rf hG_υ
      refine xw_aload_n (pc := 116) C0 1 dX12_house_116 rfl rfl ?_
      refine xw_callVV (pc := 117) (μ := χ) (ci := 12) (rest := []) (As := []) C0 hU hO sa_Tg hKL (xr_startSo (l := l) hG_χ) tv_1509 dX12_house_117 tv_1506 tv_1508 tq_X12_startSo tv_13 rfl yb_X12_startSo (by decide +kernel) rfl rfl rfl (by decide +kernel) (Nat.le_of_ble_eq_true rfl) (xj_200 hKL) xk_0 (fun m51 w51 => ?_)
      obtain ⟨hz51, F51⟩ := w51
      have hG_m51 := xw_GF hG_χ F51 (by decide +kernel)
      refine xw_aload_n (pc := 120) C0 1 dX12_house_120 rfl rfl ?_
      refine xw_iconst (pc := 121) C0 dX12_house_121 ?_
      refine xw_putI (pc := 122) (f := 23) C0 kcX12 dX12_house_122 (by decide +kernel) tv_1284 rfl rfl (xj_200 hKL) xk_0 rfl (by omega) (by omega) ?_
      refine xw_iload_n (pc := 125) C0 0 dX12_house_125 rfl rfl ?_
      refine xw_iret C0 hA hr hlk rfl dX12_house_126 ?_
      have Ft1 : xw_F [(200, 23, 23)] m51 (xw_u m51 200 23 0) := ((xw_F.rf (ML := [(200, 23, 23)])).u (show (200, 23, 23) ∈ _ by decide) ⟨by decide, by decide⟩)
      have vt1_200_23 : (xw_u m51 200 23 0) 200 23 = 0 := xw_ug
      generalize (xw_u m51 200 23 0) = t1 at Ft1 vt1_200_23 ⊢
      have a3 : ∀ i : Nat, t1 203 i = ξ 203 i := fun i => (Ft1 203 i (xw_oj (by decide +kernel) i)).trans ((F51 203 i (xw_oj (by decide +kernel) i)).trans ((hF4 203 i (xw_oj (by decide +kernel) i)).trans (hF3 203 i (xw_oj (by decide +kernel) i))))
      have a2 : ∀ i : Nat, i < 77 → t1 202 i = ξ 203 i := fun i hi => (Ft1 202 i (xw_oj (by decide +kernel) i)).trans ((F51 202 i (xw_o77 hi)).trans ((hF4 202 i (xw_oj (by decide +kernel) i)).trans (hz3 i hi)))
      have a1 : ∀ i : Nat, 139 ≤ i → i < 379 → t1 202 i = 0 := fun i h1 h2 => (Ft1 202 i (xw_oj (by decide +kernel) i)).trans (hz51 i h1 h2)
      have a7 : ∀ i : Nat, i < 14 → t1 207 i = ξ 208 i := fun i hi => (Ft1 207 i (xw_oj (by decide +kernel) i)).trans ((F51 207 i (xw_oj (by decide +kernel) i)).trans ((hz4 i hi).trans (hF3 208 i (xw_oj (by decide +kernel) i))))
      have z9 : t1 200 2 = 0 := (Ft1 200 2 rfl).trans ((F51 200 2 rfl).trans ((hF4 200 2 rfl).trans ((hF3 200 2 rfl).trans ((hF2 200 2 rfl).trans ((hF 200 2 rfl).trans z2)))))
      refine ⟨_, rfl, Or.inl ⟨_, hres, hln, hK, fun i hi => (a3 i).trans (hH_ξ.1 i hi), fun i hi => (a2 i hi).trans (hH_ξ.1 i hi), a1, fun i hi hl => (a7 i (by omega)).trans (hH_ξ.2.1 i hi hl), fun i hi hl => (a7 (6 + i) (by omega)).trans (hH_ξ.2.2 i hi hl)⟩, z9, ((((((((F1.mono (fun j i h => xw_o_sub (by decide +kernel) j i h)).tr hF (fun j i h => xw_o_sub (by decide +kernel) j i h)).tr hF2 (fun j i h => xw_o_sub (by decide +kernel) j i h)).tr hF3 (fun j i h => xw_o_sub (by decide +kernel) j i h)).tr hF4 (fun j i h => xw_o_sub (by decide +kernel) j i h)).tr F51 (fun j i h => xw_o_sub (by decide +kernel) j i h)).tr Ft1 (fun j i h => xw_o_sub (by decide +kernel) j i h)))⟩
    · refine xw_iconst (pc := 51) C0 dX12_house_51 ?_
      refine xw_aload_n (pc := 52) C0 0 dX12_house_52 rfl rfl ?_
      refine xw_getI (pc := 53) (f := 11) (z := ξ 200 11) C0 kcX12 dX12_house_53 (by decide +kernel) tv_1272 (xj_200 hKL) xk_0 rfl (rfl) (fun g1 k1 => ?_)
      refine xw_isub (pc := 56) C0 dX12_house_56 ?_
      refine xw_iret C0 hA hr hlk rfl dX12_house_57 ?_
      have z9 : ξ 200 2 = 0 := (hF2 200 2 rfl).trans ((hF 200 2 rfl).trans z2)
      have e8 : ξ 200 11 = e9.2 := hW.2
      exact ⟨_, rfl, Or.inr ⟨e9, hres, by rw [e8], hZ, fun i => (hF2 202 i (xw_oj (by decide +kernel) i)).trans ((hF 202 i (xw_oj (by decide +kernel) i)).trans (F1 202 i (xw_oj (by decide +kernel) i))), fun i => (hF2 207 i (xw_oj (by decide +kernel) i)).trans ((hF 207 i (xw_oj (by decide +kernel) i)).trans (F1 207 i (xw_oj (by decide +kernel) i)))⟩, z9, (((F1.mono (fun j i h => xw_o_sub (by decide +kernel) j i h)).tr hF (fun j i h => xw_o_sub (by decide +kernel) j i h)).tr hF2 (fun j i h => xw_o_sub (by decide +kernel) j i h))⟩)
