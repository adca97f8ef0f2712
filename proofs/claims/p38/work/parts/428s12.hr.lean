theorem hr_Ln {t : Nat → Int} {n lim : Nat} {o : Sum hp_E hp_H} {r : Int} {μ : xw_M} (h : hr_L t n lim o r μ) : narrow .boolean (.int (Int32.ofInt r)) = .int (Int32.ofInt r) := by
  rcases h with ⟨q, -, rfl, -⟩ | ⟨e, -, rfl, -⟩ <;> rfl
set_option maxRecDepth 20000 in
set_option maxHeartbeats 20000000 in
theorem xr_readLine {l : Launch} {t rd nm : Nat → Int} {n lim pz : Nat} {μ : xw_M} (hS : hr_S t n lim μ) (hT : hr_T t n lim pz μ) (hH : hr_H rd nm μ) (hK : hp_ok rd nm) : xw_MetI l vwCl sa_Ts tb_KT0 tc_KL yX12_readLine cX12_readLine 1 (some .boolean) 7 233 (fun ad => [.ref (ad 200)]) μ (fun r μ' => hr_L t n lim (hp_line t n lim rd nm pz) r μ' ∧ xw_F [(200, 5, 13), (203, 0, 76), (208, 0, 13)] μ μ') :=
  xw_of (by decide +kernel) (fun _ => Nat.le_of_ble_eq_true rfl) (fun p e s m args below meth c D dA A al w0 sz C0 hU hO hKL hr hlk hA => by
    have n_μ := hS.2.2.1
    have l_μ := hS.2.2.2.1
    have b_μ := hS.2.2.2.2
    have hp9 := hT.1
    have c2 := hT.2.1
    have c3 := hT.2.2.1
    have hpl := hp_plb (t := t) (lim := lim) hp9
    have hkb := hp_kb t n lim pz
    have k0 := hK.1
    have k1 := hK.2.1
    have k2 := hK.2.2.1
    have h0 := hH.1 0 (by decide +kernel)
    have h1 := hH.1 1 (by decide +kernel)
    have h2 := hH.1 2 (by decide +kernel)
    have hkw := hp_kwb (hp_w t n pz)
    refine xw_aload_n (pc := 0) C0 0 dX12_readLine_0 rfl rfl ?_
    refine xw_iconst (pc := 1) C0 dX12_readLine_1 ?_
    refine xw_callVI (pc := 2) (μ := μ) (ci := 12) (rest := []) (As := [.int (Int32.ofInt 0)]) C0 hU hO sa_Tg hKL (xr_isWord (l := l) (c9 := 0) hS hT (by omega)) tv_1445 dX12_readLine_2 tv_1442 tv_1444 tq_X12_isWord tv_13 rfl yb_X12_isWord (by decide +kernel) rfl rfl rfl (by decide +kernel) (Nat.le_of_ble_eq_true rfl) (xj_200 hKL) xk_0 (fun r1 m1 w1 => ?_)
    obtain ⟨rfl, w1⟩ := w1
    rw [show hp_pm 0 = 0 from rfl] at w1
    rcases w1 with ⟨w1, rfl⟩ | ⟨w1, rfl⟩
    · refine xw_if_eq (pc := 5) (tgt := 13) C0 (by omega) dX12_readLine_5 rfl (fun b2 => ?_) (fun b2 => ?_)
      · exfalso
        omega
      · refine xw_aload_n (pc := 8) C0 0 dX12_readLine_8 rfl rfl ?_
        refine xw_callVI (pc := 9) (μ := μ) (ci := 12) (rest := []) (As := []) C0 hU hO sa_Tg hKL (xr_readThing (l := l) (rd := rd) (nm := nm) hS hT hH hK (by omega)) tv_1455 dX12_readLine_9 tv_1452 tv_1454 tq_X12_readThing tv_13 rfl yb_X12_readThing (by decide +kernel) rfl rfl rfl (by decide +kernel) (Nat.le_of_ble_eq_true rfl) (xj_200 hKL) xk_0 (fun r3 m3 w3 => ?_)
        obtain ⟨w3, F3⟩ := w3
        refine xw_iret C0 hA hr hlk (hr_Ln w3) dX12_readLine_12 ?_
        refine ⟨_, rfl, ?_, ((xw_F.rf (ML := [(200, 5, 13), (203, 0, 76), (208, 0, 13)])).tr F3 (fun j i h => xw_o_sub (by decide +kernel) j i h))⟩
        unfold hp_line
        rw [if_pos (by omega)]
        exact w3
    · refine xw_if_eq (pc := 5) (tgt := 13) C0 (by omega) dX12_readLine_5 rfl (fun b4 => ?_) (fun b4 => ?_)
      · refine xw_aload_n (pc := 13) C0 0 dX12_readLine_13 rfl rfl ?_
        refine xw_iconst (pc := 14) C0 dX12_readLine_14 ?_
        refine xw_callVI (pc := 15) (μ := μ) (ci := 12) (rest := []) (As := [.int (Int32.ofInt 1)]) C0 hU hO sa_Tg hKL (xr_isWord (l := l) (c9 := 1) hS hT (by omega)) tv_1445 dX12_readLine_15 tv_1442 tv_1444 tq_X12_isWord tv_13 rfl yb_X12_isWord (by decide +kernel) rfl rfl rfl (by decide +kernel) (Nat.le_of_ble_eq_true rfl) (xj_200 hKL) xk_0 (fun r5 m5 w5 => ?_)
        obtain ⟨rfl, w5⟩ := w5
        rw [show hp_pm 1 = 2 from rfl] at w5
        rcases w5 with ⟨w5, rfl⟩ | ⟨w5, rfl⟩
        · refine xw_if_eq (pc := 18) (tgt := 26) C0 (by omega) dX12_readLine_18 rfl (fun b6 => ?_) (fun b6 => ?_)
          · exfalso
            omega
          · refine xw_aload_n (pc := 21) C0 0 dX12_readLine_21 rfl rfl ?_
            refine xw_callVI (pc := 22) (μ := μ) (ci := 12) (rest := []) (As := []) C0 hU hO sa_Tg hKL (xr_readFault (l := l) (rd := rd) (nm := nm) hS hT hH hK (by omega)) tv_1493 dX12_readLine_22 tv_1490 tv_1492 tq_X12_readFault tv_13 rfl yb_X12_readFault (by decide +kernel) rfl rfl rfl (by decide +kernel) (Nat.le_of_ble_eq_true rfl) (xj_200 hKL) xk_0 (fun r7 m7 w7 => ?_)
            obtain ⟨w7, F7⟩ := w7
            refine xw_iret C0 hA hr hlk (hr_Ln w7) dX12_readLine_25 ?_
            refine ⟨_, rfl, ?_, ((xw_F.rf (ML := [(200, 5, 13), (203, 0, 76), (208, 0, 13)])).tr F7 (fun j i h => xw_o_sub (by decide +kernel) j i h))⟩
            unfold hp_line
            rw [if_neg (by omega), if_pos (by omega)]
            exact w7
        · refine xw_if_eq (pc := 18) (tgt := 26) C0 (by omega) dX12_readLine_18 rfl (fun b8 => ?_) (fun b8 => ?_)
          · refine xw_aload_n (pc := 26) C0 0 dX12_readLine_26 rfl rfl ?_
            refine xw_iconst (pc := 27) C0 dX12_readLine_27 ?_
            refine xw_callVI (pc := 28) (μ := μ) (ci := 12) (rest := []) (As := [.int (Int32.ofInt 2)]) C0 hU hO sa_Tg hKL (xr_isWord (l := l) (c9 := 2) hS hT (by omega)) tv_1445 dX12_readLine_28 tv_1442 tv_1444 tq_X12_isWord tv_13 rfl yb_X12_isWord (by decide +kernel) rfl rfl rfl (by decide +kernel) (Nat.le_of_ble_eq_true rfl) (xj_200 hKL) xk_0 (fun r10 m10 w10 => ?_)
            obtain ⟨rfl, w10⟩ := w10
            rw [show hp_pm 2 = 3 from rfl] at w10
            rcases w10 with ⟨w10, rfl⟩ | ⟨w10, rfl⟩
            · refine xw_if_eq (pc := 31) (tgt := 41) C0 (by omega) dX12_readLine_31 rfl (fun b11 => ?_) (fun b11 => ?_)
              · exfalso
                omega
              · refine xw_aload_n (pc := 34) C0 0 dX12_readLine_34 rfl rfl ?_
                refine xw_callVI (pc := 35) (μ := μ) (ci := 12) (rest := []) (As := []) C0 hU hO sa_Tg hKL (xr_readCures (l := l) (rd := rd) (nm := nm) hS hT hH hK (by omega)) tv_1497 dX12_readLine_35 tv_1494 tv_1496 tq_X12_readCures tv_13 rfl yb_X12_readCures (by decide +kernel) rfl rfl rfl (by decide +kernel) (Nat.le_of_ble_eq_true rfl) (xj_200 hKL) xk_0 (fun r12 m12 w12 => ?_)
                obtain ⟨w12, F12⟩ := w12
                refine xw_goto (pc := 38) (tgt := 46) C0 dX12_readLine_38 rfl ?_
                refine xw_iret C0 hA hr hlk (hr_Ln w12) dX12_readLine_46 ?_
                refine ⟨_, rfl, ?_, ((xw_F.rf (ML := [(200, 5, 13), (203, 0, 76), (208, 0, 13)])).tr F12 (fun j i h => xw_o_sub (by decide +kernel) j i h))⟩
                unfold hp_line
                rw [if_neg (by omega), if_neg (by omega), if_pos (by omega)]
                exact w12
            · refine xw_if_eq (pc := 31) (tgt := 41) C0 (by omega) dX12_readLine_31 rfl (fun b13 => ?_) (fun b13 => ?_)
              · refine xw_aload_n (pc := 41) C0 0 dX12_readLine_41 rfl rfl ?_
                refine xw_iconst (pc := 42) C0 dX12_readLine_42 ?_
                refine xw_callVI (pc := 43) (μ := μ) (ci := 12) (rest := []) (As := [.int (Int32.ofInt 1)]) C0 hU hO sa_Tg hKL (xr_bad (l := l) (v := 1) hS hT (by omega) (by omega)) tv_1463 dX12_readLine_43 tv_1460 tv_1462 tq_X12_bad tv_13 rfl yb_X12_bad (by decide +kernel) rfl rfl rfl (by decide +kernel) (Nat.le_of_ble_eq_true rfl) (xj_200 hKL) xk_0 (fun r14 m14 w14 => ?_)
                obtain ⟨rfl, W14, F14⟩ := w14
                refine xw_iret C0 hA hr hlk rfl dX12_readLine_46 ?_
                have eo : hp_line t n lim rd nm pz = .inl (hp_bad t n lim 1 pz) := by
                  unfold hp_line
                  rw [if_neg (by omega), if_neg (by omega), if_neg (by omega)]
                exact ⟨_, rfl, Or.inr ⟨_, eo, rfl, W14, hr_ZF (hr_HZ hK hH) F14 (by decide +kernel)⟩, ((xw_F.rf (ML := [(200, 5, 13), (203, 0, 76), (208, 0, 13)])).tr F14 (fun j i h => xw_o_sub (by decide +kernel) j i h))⟩
              · exfalso
                omega
          · exfalso
            omega
      · exfalso
        omega)
def hr_NT : List (Nat × tb_t) := [(1, (0, 0, 6)), (1, (0, 0, 8)), (1, (0, 0, 16)), (6, (0, 0, 30)), (6, (0, 0, 20)), (2, (0, (-1), 0)), (1, (0, (-1), 1)), (1, (0, (-1), 2)), (1, (0, (-1), 3)), (1, (0, (-1), 4)), (16, (0, (-2147483648), 2147483647)), (8, (0, 0, 99)), (8, (0, (-2147483648), 2147483647)), (24, (0, 0, 12)), (61, (0, (-2147483648), 2147483647)), (1, (0, 0, 59)), (1, (0, (-2147483648), 2147483647)), (1, (0, 0, 59)), (3, (0, (-2147483648), 2147483647)), (1, (0, 0, 59)), (3, (0, (-2147483648), 2147483647)), (1, (0, 0, 59)), (3, (0, (-2147483648), 2147483647)), (1, (0, 0, 59)), (3, (0, (-2147483648), 2147483647)), (1, (0, 0, 59)), (3, (0, (-2147483648), 2147483647)), (1, (0, 0, 59)), (3, (0, (-2147483648), 2147483647)), (1, (0, 0, 59)), (3, (0, (-2147483648), 2147483647)), (1, (0, 0, 59)), (3, (0, (-2147483648), 2147483647)), (1, (0, 0, 59)), (3, (0, (-2147483648), 2147483647)), (1, (0, 0, 59)), (3, (0, (-2147483648), 2147483647)), (1, (0, 0, 59)), (3, (0, (-2147483648), 2147483647)), (1, (0, 0, 59)), (3, (0, (-2147483648), 2147483647)), (1, (0, 0, 59)), (3, (0, (-2147483648), 2147483647)), (1, (0, 0, 59)), (3, (0, (-2147483648), 2147483647)), (1, (0, 0, 59)), (3, (0, (-2147483648), 2147483647)), (1, (0, 0, 59)), (3, (0, (-2147483648), 2147483647)), (1, (0, 0, 59)), (3, (0, (-2147483648), 2147483647)), (1, (0, 0, 59)), (3, (0, (-2147483648), 2147483647)), (1, (0, 0, 59)), (3, (0, (-2147483648), 2147483647)), (1, (0, 0, 59)), (3, (0, (-2147483648), 2147483647)), (1, (0, 0, 59)), (3, (0, (-2147483648), 2147483647)), (1, (0, 0, 59)), (3, (0, (-2147483648), 2147483647)), (1, (0, 0, 59)), (3, (0, (-2147483648), 2147483647)), (1, (0, 0, 59)), (3, (0, (-2147483648), 2147483647)), (1, (0, 0, 59)), (3, (0, (-2147483648), 2147483647)), (1, (0, 0, 59)), (3, (0, (-2147483648), 2147483647)), (1, (0, 0, 59)), (3, (0, (-2147483648), 2147483647)), (1, (0, 0, 59)), (3, (0, (-2147483648), 2147483647)), (1, (0, 0, 59)), (3, (0, (-2147483648), 2147483647)), (1, (0, 0, 59)), (3, (0, (-2147483648), 2147483647)), (1, (0, 0, 59)), (3, (0, (-2147483648), 2147483647)), (1, (0, 0, 59)), (3, (0, (-2147483648), 2147483647)), (1, (0, 0, 59)), (3, (0, (-2147483648), 2147483647)), (1, (0, 0, 59)), (3, (0, (-2147483648), 2147483647)), (1, (0, 0, 59)), (3, (0, (-2147483648), 2147483647)), (1, (0, 0, 59)), (3, (0, (-2147483648), 2147483647)), (1, (0, 0, 59)), (3, (0, (-2147483648), 2147483647)), (1, (0, 0, 59)), (3, (0, (-2147483648), 2147483647)), (1, (0, 0, 59)), (3, (0, (-2147483648), 2147483647)), (1, (0, 0, 59)), (3, (0, (-2147483648), 2147483647)), (1, (0, 0, 59)), (3, (0, (-2147483648), 2147483647)), (1, (0, 0, 59)), (3, (0, (-2147483648), 2147483647)), (1, (0, 0, 59)), (3, (0, (-2147483648), 2147483647)), (1, (0, 0, 59)), (3, (0, (-2147483648), 2147483647)), (1, (0, 0, 59)), (3, (0, (-2147483648), 2147483647)), (1, (0, 0, 59)), (3, (0, (-2147483648), 2147483647)), (1, (0, 0, 59)), (3, (0, (-2147483648), 2147483647)), (1, (0, 0, 59)), (3, (0, (-2147483648), 2147483647)), (1, (0, 0, 59)), (3, (0, (-2147483648), 2147483647)), (1, (0, 0, 59)), (3, (0, (-2147483648), 2147483647)), (1, (0, 0, 59)), (3, (0, (-2147483648), 2147483647)), (1, (0, 0, 59)), (3, (0, (-2147483648), 2147483647)), (1, (0, 0, 59)), (3, (0, (-2147483648), 2147483647)), (1, (0, 0, 59)), (3, (0, (-2147483648), 2147483647)), (1, (0, 0, 59)), (3, (0, (-2147483648), 2147483647)), (1, (0, 0, 59)), (3, (0, (-2147483648), 2147483647)), (1, (0, 0, 59)), (3, (0, (-2147483648), 2147483647)), (1, (0, 0, 59)), (3, (0, (-2147483648), 2147483647)), (1, (0, 0, 59)), (3, (0, (-2147483648), 2147483647)), (1, (0, 0, 59)), (2, (0, (-2147483648), 2147483647))]
set_option maxRecDepth 100000 in
theorem hr_n0 : ∀ k : Fin 379, ∃ lo hi : Int, tb_rl hr_NT (k : Nat) = some (0, lo, hi) ∧ lo ≤ 0 ∧ 0 ≤ hi := by
  have h : ∀ k : Fin 379, (match tb_rl hr_NT (k : Nat) with
    | some t => Nat.beq t.1 0 && (decide (t.2.1 ≤ 0) && decide (0 ≤ t.2.2))
    | none => false) = true := by decide +kernel
  intro k
  have h1 := h k
  split at h1
  · rename_i t ht
    rw [Bool.and_eq_true, Bool.and_eq_true] at h1
    obtain ⟨a, lo, hi⟩ := t
    have e : a = 0 := Nat.eq_of_beq_eq_true h1.1
    subst e
    exact ⟨lo, hi, ht, of_decide_eq_true h1.2.1, of_decide_eq_true h1.2.2⟩
  · cases h1
theorem hr_n77 : ∀ k : Fin 77, tb_rl hr_NT (k : Nat) = tb_rl hr_RT (k : Nat) := by decide +kernel
theorem hr_r77 : ∀ k : Fin 77, ∃ lo hi : Int, tb_rl hr_RT (k : Nat) = some (0, lo, hi) ∧ -2147483648 ≤ lo ∧ hi ≤ 2147483647 := by
  have h : ∀ k : Fin 77, (match tb_rl hr_RT (k : Nat) with
    | some t => Nat.beq t.1 0 && (decide (-2147483648 ≤ t.2.1) && decide (t.2.2 ≤ 2147483647))
    | none => false) = true := by decide +kernel
  intro k
  have h1 := h k
  split at h1
  · rename_i t ht
    rw [Bool.and_eq_true, Bool.and_eq_true] at h1
    obtain ⟨a, lo, hi⟩ := t
    have e : a = 0 := Nat.eq_of_beq_eq_true h1.1
    subst e
    exact ⟨lo, hi, ht, of_decide_eq_true h1.2.1, of_decide_eq_true h1.2.2⟩
  · cases h1
theorem hr_n81 : ∀ k : Fin 6, tb_rl hr_NT (81 + (k : Nat)) = some (0, -2147483648, 2147483647) := by decide +kernel
theorem hr_n93 : ∀ k : Fin 6, tb_rl hr_NT (93 + (k : Nat)) = some (0, -2147483648, 2147483647) := by decide +kernel
set_option maxRecDepth 20000 in
set_option maxHeartbeats 20000000 in
theorem xr_ssA {l : Launch} {p : Program} {e : Env} {s : State} {m : MethodId} {args : Array Value} {below : List Frame} {meth : Method} {c : Code} {Q : State → Prop} {D : va_G} {dA : Nat → ClassId} {A : Nat → Prop} {al : List (Nat × Nat)} (C0 : sa_C p s m args c D dA A 2 vwCl sa_Ts cX12_startSo yX12_startSo.cls) (hU : sa_U D vwCl dA s) (hO : tb_Ou A s s.heap) (hKL : al.map Prod.snd = tc_KL) {μ : xw_M} (kx : ∀ ν : xw_M, (∀ i : Nat, 77 ≤ i → i < 379 → ν 202 i = 0) → xw_F [(202, 77, 378)] μ ν → xw_G xw_GL ν → xw_W p l e { frames := 2, cells := 0, slots := 0, locals := 120 } s m args below meth c Q D dA A 2 vwCl tb_KT0 al 0 0 ν 23 [(0, .ref (xw_ad al 200))] []) : ∀ (fu9 : Nat) (k : Nat) (ν : xw_M), 379 - (k : Int) < (fu9 : Int) → k ≤ 379 → 77 ≤ k → (∀ i : Nat, 77 ≤ i → i < k → ν 202 i = 0) → xw_F [(202, 77, 378)] μ ν → xw_G xw_GL ν → xw_W p l e { frames := 2, cells := 0, slots := 0, locals := 120 } s m args below meth c Q D dA A 2 vwCl tb_KT0 al 0 0 ν 3 [(1, .int (Int32.ofInt (k : Int))), (0, .ref (xw_ad al 200))] [] := by
  intro fu9
  induction fu9 with
  | zero => intro k ν hm hk h77 hz hF hG_ν; exfalso; omega
  | succ fu9 ih =>
    intro k ν hm hk h77 hz hF hG_ν
    refine xw_iload_n (pc := 3) C0 0 dX12_startSo_3 rfl rfl ?_
    refine xw_sipush (pc := 4) C0 dX12_startSo_4 (by decide +kernel) ?_
    refine xw_icmp_ge (pc := 7) (tgt := 23) C0 (by omega) (by omega) dX12_startSo_7 rfl (fun b1 => ?_) (fun b1 => ?_)
    · have e9 : k = 379 := by omega
      subst e9
      refine xw_pk [1] (L' := [(0, .ref (xw_ad al 200))]) rfl ?_
      exact kx ν hz hF hG_ν
    · refine xw_aload_n (pc := 10) C0 1 dX12_startSo_10 rfl rfl ?_
      refine xw_getR (pc := 11) (f := 14) C0 202 kcX12 dX12_startSo_11 (by decide +kernel) tv_1275 (xj_200 hKL) xk_0 rfl ((rfl).trans (xe_200_14 hG_ν)) ?_
      refine xw_iload_n (pc := 14) C0 0 dX12_startSo_14 rfl rfl ?_
      refine xw_iconst (pc := 15) C0 dX12_startSo_15 ?_
      obtain ⟨lo9, hi9, rl9, b9, c9⟩ := hr_n0 ⟨k, by omega⟩
      refine xw_iast (pc := 16) C0 dX12_startSo_16 (xj_202 hKL) xk_1 (by omega) (by decide +kernel) rl9 (by omega) (by omega) ?_
      refine xw_iinc (pc := 17) (L' := [(1, .int (Int32.ofInt ((k : Int) + 1))), (0, .ref (xw_ad al 200))]) C0 0 dX12_startSo_17 rfl (by decide +kernel) rfl ?_
      refine xw_goto (pc := 20) (tgt := 3) C0 dX12_startSo_20 rfl ?_
      have hz9 : ∀ i : Nat, 77 ≤ i → i < k + 1 → (xw_u ν 202 ((k : Int)).toNat 0) 202 i = 0 := fun i h1 h2 => by
        by_cases e9 : i = k
        · subst e9; exact xw_ug
        · exact (xw_un (fun q => e9 q.2)).trans (hz i h1 (by omega))
      have Fz9 : xw_F [(202, 77, 378)] ν (xw_u ν 202 ((k : Int)).toNat 0) := ((xw_F.rf (ML := [(202, 77, 378)])).u (show (202, 77, 378) ∈ _ by decide) ⟨by omega, by omega⟩)
      generalize (xw_u ν 202 ((k : Int)).toNat 0) = z9 at Fz9 hz9 ⊢
      have e1 : (k : Int) + 1 = ((k + 1 : Nat) : Int) := by omega
      rw [e1]
      refine xw_pk [0, 1] (L' := [(1, .int (Int32.ofInt ((k + 1 : Nat) : Int))), (0, .ref (xw_ad al 200))]) rfl ?_
      exact ih (k + 1) z9 (by omega) (by omega) (by omega) hz9 (hF.tr Fz9 (fun j i h => h)) (xw_GF hG_ν Fz9 (by decide +kernel))
set_option maxRecDepth 20000 in
set_option maxHeartbeats 20000000 in
theorem xr_ssB {l : Launch} {p : Program} {e : Env} {s : State} {m : MethodId} {args : Array Value} {below : List Frame} {meth : Method} {c : Code} {Q : State → Prop} {D : va_G} {dA : Nat → ClassId} {A : Nat → Prop} {al : List (Nat × Nat)} (C0 : sa_C p s m args c D dA A 2 vwCl sa_Ts cX12_startSo yX12_startSo.cls) (hU : sa_U D vwCl dA s) (hO : tb_Ou A s s.heap) (hKL : al.map Prod.snd = tc_KL) {μ : xw_M} (kx : ∀ ν : xw_M, xw_F [(202, 81, 86), (202, 93, 98)] μ ν → xw_G xw_GL ν → xw_W p l e { frames := 2, cells := 0, slots := 0, locals := 120 } s m args below meth c Q D dA A 2 vwCl tb_KT0 al 0 0 ν 57 [(0, .ref (xw_ad al 200))] []) : ∀ (fu9 : Nat) (k : Nat) (ν : xw_M), 6 - (k : Int) < (fu9 : Int) → k ≤ 6 → xw_F [(202, 81, 86), (202, 93, 98)] μ ν → xw_G xw_GL ν → xw_W p l e { frames := 2, cells := 0, slots := 0, locals := 120 } s m args below meth c Q D dA A 2 vwCl tb_KT0 al 0 0 ν 25 [(1, .int (Int32.ofInt (k : Int))), (0, .ref (xw_ad al 200))] [] := by
  intro fu9
  induction fu9 with
  | zero => intro k ν hm hk hF hG_ν; exfalso; omega
  | succ fu9 ih =>
    intro k ν hm hk hF hG_ν
    refine xw_iload_n (pc := 25) C0 0 dX12_startSo_25 rfl rfl ?_
    refine xw_bipush (pc := 26) C0 dX12_startSo_26 (by decide +kernel) ?_
    refine xw_icmp_ge (pc := 28) (tgt := 57) C0 (by omega) (by omega) dX12_startSo_28 rfl (fun b1 => ?_) (fun b1 => ?_)
    · refine xw_pk [1] (L' := [(0, .ref (xw_ad al 200))]) rfl ?_
      exact kx ν hF hG_ν
    · refine xw_aload_n (pc := 31) C0 1 dX12_startSo_31 rfl rfl ?_
      refine xw_getR (pc := 32) (f := 14) C0 202 kcX12 dX12_startSo_32 (by decide +kernel) tv_1275 (xj_200 hKL) xk_0 rfl ((rfl).trans (xe_200_14 hG_ν)) ?_
      refine xw_bipush (pc := 35) C0 dX12_startSo_35 (by decide +kernel) ?_
      refine xw_iload_n (pc := 37) C0 0 dX12_startSo_37 rfl rfl ?_
      refine xw_iadd (pc := 38) C0 dX12_startSo_38 ?_
      refine xw_nI (congrArg Int32.ofInt (show (81 : Int) + (k : Int) = ((81 + k : Nat) : Int) by omega)) ?_
      refine xw_iconst (pc := 39) C0 dX12_startSo_39 ?_
      refine xw_iast (pc := 40) C0 dX12_startSo_40 (xj_202 hKL) xk_1 (by omega) (by decide +kernel) (hr_n81 ⟨k, by omega⟩) (by omega) (by omega) ?_
      refine xw_aload_n (pc := 41) C0 1 dX12_startSo_41 rfl rfl ?_
      refine xw_getR (pc := 42) (f := 14) C0 202 kcX12 dX12_startSo_42 (by decide +kernel) tv_1275 (xj_200 hKL) xk_0 rfl (((xw_un (fun q => absurd q.1 (by decide +kernel))).trans rfl).trans (xe_200_14 hG_ν)) ?_
      refine xw_bipush (pc := 45) C0 dX12_startSo_45 (by decide +kernel) ?_
      refine xw_iload_n (pc := 47) C0 0 dX12_startSo_47 rfl rfl ?_
      refine xw_iadd (pc := 48) C0 dX12_startSo_48 ?_
      refine xw_nI (congrArg Int32.ofInt (show (93 : Int) + (k : Int) = ((93 + k : Nat) : Int) by omega)) ?_
      refine xw_iconst (pc := 49) C0 dX12_startSo_49 ?_
      refine xw_iast (pc := 50) C0 dX12_startSo_50 (xj_202 hKL) xk_1 (by omega) (by decide +kernel) (hr_n93 ⟨k, by omega⟩) (by omega) (by omega) ?_
      refine xw_iinc (pc := 51) (L' := [(1, .int (Int32.ofInt ((k : Int) + 1))), (0, .ref (xw_ad al 200))]) C0 0 dX12_startSo_51 rfl (by decide +kernel) rfl ?_
      refine xw_goto (pc := 54) (tgt := 25) C0 dX12_startSo_54 rfl ?_
      have Fz9 : xw_F [(202, 81, 86), (202, 93, 98)] ν (xw_u (xw_u ν 202 (((81 + k : Nat) : Int)).toNat 2) 202 (((93 + k : Nat) : Int)).toNat 1) := ((xw_F.rf (ML := [(202, 81, 86), (202, 93, 98)])).u (show (202, 81, 86) ∈ _ by decide) ⟨by omega, by omega⟩).u (show (202, 93, 98) ∈ _ by decide) ⟨by omega, by omega⟩
      generalize (xw_u (xw_u ν 202 (((81 + k : Nat) : Int)).toNat 2) 202 (((93 + k : Nat) : Int)).toNat 1) = z9 at Fz9 ⊢
      have e1 : (k : Int) + 1 = ((k + 1 : Nat) : Int) := by omega
      rw [e1]
      refine xw_pk [0, 1] (L' := [(1, .int (Int32.ofInt ((k + 1 : Nat) : Int))), (0, .ref (xw_ad al 200))]) rfl ?_
      exact ih (k + 1) z9 (by omega) (by omega) (hF.tr Fz9 (fun j i h => h)) (xw_GF hG_ν Fz9 (by decide +kernel))
theorem xw_o139 {i : Nat} (h : 139 ≤ i) : xw_o [(202, 81, 86), (202, 93, 98)] 202 i = true := by
  have h1 : Nat.ble i 86 = false := by
    cases e : Nat.ble i 86 with
    | false => rfl
    | true => exact absurd (Nat.le_of_ble_eq_true e) (by omega)
  have h2 : Nat.ble i 98 = false := by
    cases e : Nat.ble i 98 with
    | false => rfl
    | true => exact absurd (Nat.le_of_ble_eq_true e) (by omega)
  show (!(Nat.beq 202 202 && (Nat.ble 81 i && Nat.ble i 86)) && (!(Nat.beq 202 202 && (Nat.ble 93 i && Nat.ble i 98)) && true)) = true
  rw [h1, h2, Bool.and_false, Bool.and_false, Bool.and_false, Bool.and_false]
  rfl
set_option maxRecDepth 20000 in
set_option maxHeartbeats 20000000 in
theorem xr_startSo {l : Launch} {μ : xw_M} (hG : xw_G xw_GL μ) : xw_MetV l vwCl sa_Ts tb_KT0 tc_KL yX12_startSo cX12_startSo 2 none 2 120 (fun ad => [.ref (ad 200)]) μ (fun μ' => (∀ i : Nat, 139 ≤ i → i < 379 → μ' 202 i = 0) ∧ xw_F [(202, 77, 378)] μ μ') :=
  xw_of (by decide +kernel) (fun _ => Nat.le_of_ble_eq_true rfl) (fun p e s m args below meth c D dA A al w0 sz C0 hU hO hKL hr hlk hA => by
    refine xw_bipush (pc := 0) C0 dX12_startSo_0 (by decide +kernel) ?_
    refine xw_istore_n (pc := 2) (L' := [(1, .int (Int32.ofInt 77)), (0, .ref (xw_ad al 200))]) C0 dX12_startSo_2 rfl (by decide +kernel) rfl ?_
    refine xw_pk [0, 1] (L' := [(1, .int (Int32.ofInt ((77 : Nat) : Int))), (0, .ref (xw_ad al 200))]) rfl ?_
    refine xr_ssA (μ := μ) C0 hU hO hKL (fun ν hz hF hG_ν => ?_) 400 77 μ (by omega) (by omega) (by omega) (fun i h1 h2 => absurd h1 (by omega)) xw_F.rf hG
    refine xw_iconst (pc := 23) C0 dX12_startSo_23 ?_
    refine xw_istore_n (pc := 24) (L' := [(1, .int (Int32.ofInt 0)), (0, .ref (xw_ad al 200))]) C0 dX12_startSo_24 rfl (by decide +kernel) rfl ?_
    refine xw_pk [0, 1] (L' := [(1, .int (Int32.ofInt ((0 : Nat) : Int))), (0, .ref (xw_ad al 200))]) rfl ?_
    refine xr_ssB (μ := ν) C0 hU hO hKL (fun ξ hF2 hG_ξ => ?_) 7 0 ν (by omega) (by omega) xw_F.rf hG_ν
    refine xw_vret C0 hA hr hlk dX12_startSo_57 ?_
    exact ⟨rfl, fun i h1 h2 => (hF2 202 i (xw_o139 h1)).trans (hz i (by omega) h2), ((hF.mono (fun j i h => xw_o_sub (by decide +kernel) j i h)).tr hF2 (fun j i h => xw_o_sub (by decide +kernel) j i h))⟩)
theorem hr_r0 : ∀ k : Fin 77, ∃ lo hi : Int, tb_rl hr_RT (k : Nat) = some (0, lo, hi) ∧ lo ≤ 0 ∧ 0 ≤ hi := by
  intro k
  obtain ⟨lo, hi, h1, h2, h3⟩ := hr_n0 ⟨(k : Nat), Nat.lt_of_lt_of_le k.2 (by decide +kernel)⟩
  exact ⟨lo, hi, (hr_n77 k).symm.trans h1, h2, h3⟩
set_option maxRecDepth 20000 in
set_option maxHeartbeats 20000000 in
theorem xr_hoA {l : Launch} {p : Program} {e : Env} {s : State} {m : MethodId} {args : Array Value} {below : List Frame} {meth : Method} {c : Code} {Q : State → Prop} {D : va_G} {dA : Nat → ClassId} {A : Nat → Prop} {al : List (Nat × Nat)} (C0 : sa_C p s m args c D dA A 3 vwCl sa_Ts cX12_house yX12_house.cls) (hU : sa_U D vwCl dA s) (hO : tb_Ou A s s.heap) (hKL : al.map Prod.snd = tc_KL) {μ : xw_M} (kx : ∀ ν : xw_M, (∀ i : Nat, i < 77 → ν 203 i = 0) → xw_F [(203, 0, 76)] μ ν → xw_G xw_GL ν → xw_W p l e { frames := 8, cells := 0, slots := 0, locals := 253 } s m args below meth c Q D dA A 3 vwCl tb_KT0 al 0 0 ν 28 [(0, .ref (xw_ad al 200))] []) : ∀ (fu9 : Nat) (k : Nat) (ν : xw_M), 77 - (k : Int) < (fu9 : Int) → k ≤ 77 → (∀ i : Nat, i < k → ν 203 i = 0) → xw_F [(203, 0, 76)] μ ν → xw_G xw_GL ν → xw_W p l e { frames := 8, cells := 0, slots := 0, locals := 253 } s m args below meth c Q D dA A 3 vwCl tb_KT0 al 0 0 ν 9 [(1, .int (Int32.ofInt (k : Int))), (0, .ref (xw_ad al 200))] [] := by
  intro fu9
  induction fu9 with
  | zero => intro k ν hm hk hz hF hG_ν; exfalso; omega
  | succ fu9 ih =>
    intro k ν hm hk hz hF hG_ν
    refine xw_iload_n (pc := 9) C0 0 dX12_house_9 rfl rfl ?_
    refine xw_bipush (pc := 10) C0 dX12_house_10 (by decide +kernel) ?_
    refine xw_icmp_ge (pc := 12) (tgt := 28) C0 (by omega) (by omega) dX12_house_12 rfl (fun b1 => ?_) (fun b1 => ?_)
    · have e9 : k = 77 := by omega
      subst e9
      refine xw_pk [1] (L' := [(0, .ref (xw_ad al 200))]) rfl ?_
      exact kx ν hz hF hG_ν
    · refine xw_aload_n (pc := 15) C0 1 dX12_house_15 rfl rfl ?_
      refine xw_getR (pc := 16) (f := 15) C0 203 kcX12 dX12_house_16 (by decide +kernel) tv_1276 (xj_200 hKL) xk_0 rfl ((rfl).trans (xe_200_15 hG_ν)) ?_
      refine xw_iload_n (pc := 19) C0 0 dX12_house_19 rfl rfl ?_
      refine xw_iconst (pc := 20) C0 dX12_house_20 ?_
      obtain ⟨lo9, hi9, rl9, b9, c9⟩ := hr_r0 ⟨k, by omega⟩
      refine xw_iast (pc := 21) C0 dX12_house_21 (xj_203 hKL) xk_8 (by omega) (by decide +kernel) rl9 (by omega) (by omega) ?_
      refine xw_iinc (pc := 22) (L' := [(1, .int (Int32.ofInt ((k : Int) + 1))), (0, .ref (xw_ad al 200))]) C0 0 dX12_house_22 rfl (by decide +kernel) rfl ?_
      refine xw_goto (pc := 25) (tgt := 9) C0 dX12_house_25 rfl ?_
      have hz9 : ∀ i : Nat, i < k + 1 → (xw_u ν 203 ((k : Int)).toNat 0) 203 i = 0 := fun i h2 => by
        by_cases e9 : i = k
        · subst e9; exact xw_ug
        · exact (xw_un (fun q => e9 q.2)).trans (hz i (by omega))
      have Fz9 : xw_F [(203, 0, 76)] ν (xw_u ν 203 ((k : Int)).toNat 0) := ((xw_F.rf (ML := [(203, 0, 76)])).u (show (203, 0, 76) ∈ _ by decide) ⟨by omega, by omega⟩)
      generalize (xw_u ν 203 ((k : Int)).toNat 0) = z9 at Fz9 hz9 ⊢
      have e1 : (k : Int) + 1 = ((k + 1 : Nat) : Int) := by omega
      rw [e1]
      refine xw_pk [0, 1] (L' := [(1, .int (Int32.ofInt ((k + 1 : Nat) : Int))), (0, .ref (xw_ad al 200))]) rfl ?_
      exact ih (k + 1) z9 (by omega) (by omega) hz9 (hF.tr Fz9 (fun j i h => h)) (xw_GF hG_ν Fz9 (by decide +kernel))
set_option maxRecDepth 20000 in
set_option maxHeartbeats 20000000 in
theorem xr_hoB {l : Launch} {p : Program} {e : Env} {s : State} {m : MethodId} {args : Array Value} {below : List Frame} {meth : Method} {c : Code} {Q : State → Prop} {D : va_G} {dA : Nat → ClassId} {A : Nat → Prop} {al : List (Nat × Nat)} (C0 : sa_C p s m args c D dA A 3 vwCl sa_Ts cX12_house yX12_house.cls) (hU : sa_U D vwCl dA s) (hO : tb_Ou A s s.heap) (hKL : al.map Prod.snd = tc_KL) {μ : xw_M} {ln9 : Int} (kx : ∀ ν : xw_M, (∀ i : Nat, i < 77 → ν 202 i = μ 203 i) → xw_F [(202, 0, 76)] μ ν → xw_G xw_GL ν → xw_W p l e { frames := 8, cells := 0, slots := 0, locals := 253 } s m args below meth c Q D dA A 3 vwCl tb_KT0 al 0 0 ν 90 [(1, .int (Int32.ofInt ln9)), (0, .ref (xw_ad al 200))] []) : ∀ (fu9 : Nat) (k : Nat) (ν : xw_M), 77 - (k : Int) < (fu9 : Int) → k ≤ 77 → (∀ i : Nat, i < k → ν 202 i = μ 203 i) → xw_F [(202, 0, 76)] μ ν → xw_G xw_GL ν → xw_W p l e { frames := 8, cells := 0, slots := 0, locals := 253 } s m args below meth c Q D dA A 3 vwCl tb_KT0 al 0 0 ν 66 [(2, .int (Int32.ofInt (k : Int))), (1, .int (Int32.ofInt ln9)), (0, .ref (xw_ad al 200))] [] := by
  intro fu9
  induction fu9 with
  | zero => intro k ν hm hk hz hF hG_ν; exfalso; omega
  | succ fu9 ih =>
    intro k ν hm hk hz hF hG_ν
    refine xw_iload_n (pc := 66) C0 0 dX12_house_66 rfl rfl ?_
    refine xw_bipush (pc := 67) C0 dX12_house_67 (by decide +kernel) ?_
    refine xw_icmp_ge (pc := 69) (tgt := 90) C0 (by omega) (by omega) dX12_house_69 rfl (fun b1 => ?_) (fun b1 => ?_)
    · have e9 : k = 77 := by omega
      subst e9
      refine xw_pk [1, 2] (L' := [(1, .int (Int32.ofInt ln9)), (0, .ref (xw_ad al 200))]) rfl ?_
      exact kx ν hz hF hG_ν
    · refine xw_aload_n (pc := 72) C0 2 dX12_house_72 rfl rfl ?_
      refine xw_getR (pc := 73) (f := 14) C0 202 kcX12 dX12_house_73 (by decide +kernel) tv_1275 (xj_200 hKL) xk_0 rfl ((rfl).trans (xe_200_14 hG_ν)) ?_
      refine xw_iload_n (pc := 76) C0 0 dX12_house_76 rfl rfl ?_
      refine xw_aload_n (pc := 77) C0 2 dX12_house_77 rfl rfl ?_
      refine xw_getR (pc := 78) (f := 15) C0 203 kcX12 dX12_house_78 (by decide +kernel) tv_1276 (xj_200 hKL) xk_0 rfl ((rfl).trans (xe_200_15 hG_ν)) ?_
      refine xw_iload_n (pc := 81) C0 0 dX12_house_81 rfl rfl ?_
      obtain ⟨lo9, hi9, rl9, b9, c9⟩ := hr_r77 ⟨k, by omega⟩
      have nl9 := (hr_n77 ⟨k, by omega⟩).trans rl9
      refine xw_iald (pc := 82) (z := μ 203 k) C0 dX12_house_82 (xj_203 hKL) xk_8 (by omega) (by decide +kernel) rl9 (hF 203 _ (xw_oj (by decide +kernel) _)) (fun g2 k2 => ?_)
      refine xw_iast (pc := 83) C0 dX12_house_83 (xj_202 hKL) xk_1 (by omega) (by decide +kernel) nl9 (by omega) (by omega) ?_
      refine xw_iinc (pc := 84) (L' := [(2, .int (Int32.ofInt ((k : Int) + 1))), (1, .int (Int32.ofInt ln9)), (0, .ref (xw_ad al 200))]) C0 0 dX12_house_84 rfl (by decide +kernel) rfl ?_
      refine xw_goto (pc := 87) (tgt := 66) C0 dX12_house_87 rfl ?_
      have hz9 : ∀ i : Nat, i < k + 1 → (xw_u ν 202 ((k : Int)).toNat (μ 203 k)) 202 i = μ 203 i := fun i h2 => by
        by_cases e9 : i = k
        · subst e9; exact xw_ug
        · exact (xw_un (fun q => e9 q.2)).trans (hz i (by omega))
      have Fz9 : xw_F [(202, 0, 76)] ν (xw_u ν 202 ((k : Int)).toNat (μ 203 k)) := ((xw_F.rf (ML := [(202, 0, 76)])).u (show (202, 0, 76) ∈ _ by decide) ⟨by omega, by omega⟩)
      generalize (xw_u ν 202 ((k : Int)).toNat (μ 203 k)) = z9 at Fz9 hz9 ⊢
      have e1 : (k : Int) + 1 = ((k + 1 : Nat) : Int) := by omega
      rw [e1]
      refine xw_pk [0, 1, 2] (L' := [(2, .int (Int32.ofInt ((k + 1 : Nat) : Int))), (1, .int (Int32.ofInt ln9)), (0, .ref (xw_ad al 200))]) rfl ?_
      exact ih (k + 1) z9 (by omega) (by omega) hz9 (hF.tr Fz9 (fun j i h => h)) (xw_GF hG_ν Fz9 (by decide +kernel))
set_option maxRecDepth 20000 in
set_option maxHeartbeats 20000000 in
theorem xr_hoC {l : Launch} {p : Program} {e : Env} {s : State} {m : MethodId} {args : Array Value} {below : List Frame} {meth : Method} {c : Code} {Q : State → Prop} {D : va_G} {dA : Nat → ClassId} {A : Nat → Prop} {al : List (Nat × Nat)} (C0 : sa_C p s m args c D dA A 3 vwCl sa_Ts cX12_house yX12_house.cls) (hU : sa_U D vwCl dA s) (hO : tb_Ou A s s.heap) (hKL : al.map Prod.snd = tc_KL) {μ : xw_M} {ln9 : Int} (kx : ∀ ν : xw_M, (∀ i : Nat, i < 14 → ν 207 i = μ 208 i) → xw_F [(207, 0, 13)] μ ν → xw_G xw_GL ν → xw_W p l e { frames := 8, cells := 0, slots := 0, locals := 253 } s m args below meth c Q D dA A 3 vwCl tb_KT0 al 0 0 ν 116 [(1, .int (Int32.ofInt ln9)), (0, .ref (xw_ad al 200))] []) : ∀ (fu9 : Nat) (k : Nat) (ν : xw_M), 14 - (k : Int) < (fu9 : Int) → k ≤ 14 → (∀ i : Nat, i < k → ν 207 i = μ 208 i) → xw_F [(207, 0, 13)] μ ν → xw_G xw_GL ν → xw_W p l e { frames := 8, cells := 0, slots := 0, locals := 253 } s m args below meth c Q D dA A 3 vwCl tb_KT0 al 0 0 ν 92 [(2, .int (Int32.ofInt (k : Int))), (1, .int (Int32.ofInt ln9)), (0, .ref (xw_ad al 200))] [] := by
  intro fu9
  induction fu9 with
  | zero => intro k ν hm hk hz hF hG_ν; exfalso; omega
  | succ fu9 ih =>
    intro k ν hm hk hz hF hG_ν
    refine xw_iload_n (pc := 92) C0 0 dX12_house_92 rfl rfl ?_
    refine xw_bipush (pc := 93) C0 dX12_house_93 (by decide +kernel) ?_
    refine xw_icmp_ge (pc := 95) (tgt := 116) C0 (by omega) (by omega) dX12_house_95 rfl (fun b1 => ?_) (fun b1 => ?_)
    · have e9 : k = 14 := by omega
      subst e9
      refine xw_pk [1, 2] (L' := [(1, .int (Int32.ofInt ln9)), (0, .ref (xw_ad al 200))]) rfl ?_
      exact kx ν hz hF hG_ν
    · refine xw_aload_n (pc := 98) C0 2 dX12_house_98 rfl rfl ?_
      refine xw_getR (pc := 99) (f := 19) C0 207 kcX12 dX12_house_99 (by decide +kernel) tv_1280 (xj_200 hKL) xk_0 rfl ((rfl).trans (xe_200_19 hG_ν)) ?_
      refine xw_iload_n (pc := 102) C0 0 dX12_house_102 rfl rfl ?_
      refine xw_aload_n (pc := 103) C0 2 dX12_house_103 rfl rfl ?_
      refine xw_getR (pc := 104) (f := 20) C0 208 kcX12 dX12_house_104 (by decide +kernel) tv_1281 (xj_200 hKL) xk_0 rfl ((rfl).trans (xe_200_20 hG_ν)) ?_
      refine xw_iload_n (pc := 107) C0 0 dX12_house_107 rfl rfl ?_
      refine xw_lald (pc := 108) (z := ν 208 ((k : Int)).toNat) C0 dX12_house_108 (xj_208 hKL) xk_79 (by omega) (by decide +kernel) (xw_rl (by omega)) (rfl) (fun g2 k2 => ?_)
      refine xw_last (pc := 109) C0 dX12_house_109 (xj_207 hKL) xk_78 (by omega) (by decide +kernel) (xw_rl (by omega)) (by omega) (by omega) ?_
      refine xw_iinc (pc := 110) (L' := [(2, .int (Int32.ofInt ((k : Int) + 1))), (1, .int (Int32.ofInt ln9)), (0, .ref (xw_ad al 200))]) C0 0 dX12_house_110 rfl (by decide +kernel) rfl ?_
      refine xw_goto (pc := 113) (tgt := 92) C0 dX12_house_113 rfl ?_
      have hz9 : ∀ i : Nat, i < k + 1 → (xw_u ν 207 ((k : Int)).toNat (ν 208 ((k : Int)).toNat)) 207 i = μ 208 i := fun i h2 => by
        by_cases e9 : i = k
        · subst e9; exact xw_ug.trans (hF 208 _ (xw_oj (by decide +kernel) _))
        · exact (xw_un (fun q => e9 q.2)).trans (hz i (by omega))
      have Fz9 : xw_F [(207, 0, 13)] ν (xw_u ν 207 ((k : Int)).toNat (ν 208 ((k : Int)).toNat)) := ((xw_F.rf (ML := [(207, 0, 13)])).u (show (207, 0, 13) ∈ _ by decide) ⟨by omega, by omega⟩)
      generalize (xw_u ν 207 ((k : Int)).toNat (ν 208 ((k : Int)).toNat)) = z9 at Fz9 hz9 ⊢
      have e1 : (k : Int) + 1 = ((k + 1 : Nat) : Int) := by omega
      rw [e1]
      refine xw_pk [0, 1, 2] (L' := [(2, .int (Int32.ofInt ((k + 1 : Nat) : Int))), (1, .int (Int32.ofInt ln9)), (0, .ref (xw_ad al 200))]) rfl ?_
      exact ih (k + 1) z9 (by omega) (by omega) hz9 (hF.tr Fz9 (fun j i h => h)) (xw_GF hG_ν Fz9 (by decide +kernel))
set_option maxRecDepth 20000 in
set_option maxHeartbeats 20000000 in
theorem xr_hoL {l : Launch} {p : Program} {e : Env} {s : State} {m : MethodId} {args : Array Value} {below : List Frame} {meth : Method} {c : Code} {Q : State → Prop} {D : va_G} {dA : Nat → ClassId} {A : Nat → Prop} {al : List (Nat × Nat)} (C0 : sa_C p s m args c D dA A 3 vwCl sa_Ts cX12_house yX12_house.cls) (hU : sa_U D vwCl dA s) (hO : tb_Ou A s s.heap) (hKL : al.map Prod.snd = tc_KL) {t : Nat → Int} {n lim : Nat} {res : Sum hp_E (Int × (Nat → Int) × (Nat → Int))} {μ : xw_M} (kx : ∀ (ν : xw_M) (rd nm : Nat → Int) (ln9 : Int), hr_S t n lim ν → hr_H rd nm ν → hp_ok rd nm → ln9 = rd 0 + rd 1 + rd 2 → res = .inr (rd 0 + rd 1 + rd 2, rd, nm) → xw_F [(200, 5, 13), (203, 0, 76), (208, 0, 13)] μ ν → xw_W p l e { frames := 8, cells := 0, slots := 0, locals := 253 } s m args below meth c Q D dA A 3 vwCl tb_KT0 al 0 0 ν 64 [(1, .int (Int32.ofInt ln9)), (0, .ref (xw_ad al 200))] []) (kw : ∀ (ν : xw_M) (e9 : hp_E), hr_W e9 ν → hr_Z ν → res = .inl e9 → xw_F [(200, 5, 13), (203, 0, 76), (208, 0, 13)] μ ν → xw_W p l e { frames := 8, cells := 0, slots := 0, locals := 253 } s m args below meth c Q D dA A 3 vwCl tb_KT0 al 0 0 ν 51 [(0, .ref (xw_ad al 200))] []) : ∀ (fu9 : Nat) (k : Nat) (ν : xw_M) (rd nm : Nat → Int) (p9 : Nat) (ln9 : Int), (k : Int) < (fu9 : Int) → rd 0 + rd 1 + rd 2 + (k : Int) = 32 → ln9 = rd 0 + rd 1 + rd 2 → hr_S t n lim ν → hr_T t n lim p9 ν → hr_H rd nm ν → hp_ok rd nm → hp_all t n lim k (rd 0 + rd 1 + rd 2) rd nm p9 = res → xw_F [(200, 5, 13), (203, 0, 76), (208, 0, 13)] μ ν → xw_W p l e { frames := 8, cells := 0, slots := 0, locals := 253 } s m args below meth c Q D dA A 3 vwCl tb_KT0 al 0 0 ν 30 [(1, .int (Int32.ofInt ln9)), (0, .ref (xw_ad al 200))] [] := by
  intro fu9
  induction fu9 with
  | zero => intro k ν rd nm p9 ln9 hm hk0 hln hS_ν hT_ν hH_ν hK hres hF; exfalso; omega
  | succ fu9 ih =>
    intro k ν rd nm p9 ln9 hm hk0 hln hS_ν hT_ν hH_ν hK hres hF
    have n_ν := hS_ν.2.2.1
    have l_ν := hS_ν.2.2.2.1
    have b_ν := hS_ν.2.2.2.2
    obtain ⟨hp9_ν, c2_ν, c3_ν, c4_ν, c5_ν, c6_ν, c7_ν⟩ := id hT_ν
    have hkb := hp_kb t n lim p9
    have k0 := hK.1
    have k1 := hK.2.1
    have k2 := hK.2.2.1
    refine xw_aload_n (pc := 30) C0 1 dX12_house_30 rfl rfl ?_
    refine xw_getI (pc := 31) (f := 7) (z := ν 200 7) C0 kcX12 dX12_house_31 (by decide +kernel) tv_1268 (xj_200 hKL) xk_0 rfl (rfl) (fun g1 k1 => ?_)
    refine xw_if_eq (pc := 34) (tgt := 64) C0 (by omega) dX12_house_34 rfl (fun b2 => ?_) (fun b2 => ?_)
    · have e7 : k = (k - 1) + 1 := by omega
      rw [e7, hp_allE (by omega)] at hres
      refine xw_pk [0, 1] (L' := [(1, .int (Int32.ofInt ln9)), (0, .ref (xw_ad al 200))]) rfl ?_
      exact kx ν rd nm ln9 hS_ν hH_ν hK hln hres.symm hF
    · refine xw_aload_n (pc := 37) C0 1 dX12_house_37 rfl rfl ?_
      refine xw_callVI (pc := 38) (μ := ν) (ci := 12) (rest := []) (As := []) C0 hU hO sa_Tg hKL (xr_readLine (l := l) (rd := rd) (nm := nm) (pz := p9) hS_ν hT_ν hH_ν hK) tv_1441 dX12_house_38 tv_1438 tv_1440 tq_X12_readLine tv_13 rfl yb_X12_readLine (by decide +kernel) rfl rfl rfl (by decide +kernel) (Nat.le_of_ble_eq_true rfl) (xj_200 hKL) xk_0 (fun r3 m3 w3 => ?_)
      obtain ⟨w3, F3⟩ := w3
      rcases w3 with ⟨q3, eo3, rfl, hT_m3, hH_m3, K3⟩ | ⟨er3, eo3, rfl, W3, Z3⟩
      · have hS_m3 := hr_SF hS_ν F3 (by decide +kernel)
        have n_m3 := hS_m3.2.2.1
        have l_m3 := hS_m3.2.2.2.1
        have b_m3 := hS_m3.2.2.2.2
        refine xw_if_eq (pc := 41) (tgt := 51) C0 (by omega) dX12_house_41 rfl (fun b4 => ?_) (fun b4 => ?_)
        · exfalso
          omega
        · refine xw_aload_n (pc := 44) C0 1 dX12_house_44 rfl rfl ?_
          refine xw_callVI (pc := 45) (μ := m3) (ci := 12) (rest := []) (As := []) C0 hU hO sa_Tg hKL (xr_readEnd (l := l) (pz := q3.1) hS_m3 hT_m3) tv_1501 dX12_house_45 tv_1498 tv_1500 tq_X12_readEnd tv_13 rfl yb_X12_readEnd (by decide +kernel) rfl rfl rfl (by decide +kernel) (Nat.le_of_ble_eq_true rfl) (xj_200 hKL) xk_0 (fun r5 m5 w5 => ?_)
          obtain ⟨w5, F5⟩ := w5
          rcases w5 with ⟨v5, p5, eo5, rfl, hT_m5, -⟩ | ⟨er5, eo5, rfl, W5⟩
          · have el5 : hp_line t n lim rd nm p9 = .inr (p5, q3.2.1, q3.2.2) := eo3.trans (by rw [eo5]; rfl)
            have es5 : q3.2.1 0 + q3.2.1 1 + q3.2.1 2 = rd 0 + rd 1 + rd 2 + 1 := hp_lineS (q := (p5, q3.2.1, q3.2.2)) hK el5
            have hS_m5 := hr_SF hS_m3 F5 (by decide +kernel)
            have n_m5 := hS_m5.2.2.1
            have l_m5 := hS_m5.2.2.2.1
            have b_m5 := hS_m5.2.2.2.2
            refine xw_if_ne (pc := 48) (tgt := 58) C0 (by omega) dX12_house_48 rfl (fun b6 => ?_) (fun b6 => ?_)
            · refine xw_iinc (pc := 58) (L' := [(1, .int (Int32.ofInt (ln9 + 1))), (0, .ref (xw_ad al 200))]) C0 0 dX12_house_58 rfl (by decide +kernel) rfl ?_
              refine xw_goto (pc := 61) (tgt := 30) C0 dX12_house_61 rfl ?_
              refine xw_pk [0, 1] (L' := [(1, .int (Int32.ofInt (ln9 + 1))), (0, .ref (xw_ad al 200))]) rfl ?_
              refine ih (k - 1) m5 q3.2.1 q3.2.2 p5 (ln9 + 1) (by omega) (by have q0 := K3.1; have q1 := K3.2.1; have q2 := K3.2.2.1; omega) (by omega) hS_m5 hT_m5 (hr_HF hH_m3 F5 (by decide +kernel)) K3 ?_ (hF.tr (((xw_F.rf (ML := [(200, 5, 13), (203, 0, 76), (208, 0, 13)])).tr F3 (fun j i h => xw_o_sub (by decide +kernel) j i h)).tr F5 (fun j i h => xw_o_sub (by decide +kernel) j i h)) (fun j i h => h))
              have e7 : k = (k - 1) + 1 := by omega
              rw [e7, hp_allR (by omega) el5] at hres
              rw [show q3.2.1 0 + q3.2.1 1 + q3.2.1 2 = rd 0 + rd 1 + rd 2 + 1 from es5]
              exact hres
            · exfalso
              omega
          · have el5 : hp_line t n lim rd nm p9 = .inl er5 := eo3.trans (by rw [eo5]; rfl)
            have Z5 := hr_ZF (hr_HZ K3 hH_m3) F5 (by decide +kernel)
            refine xw_if_ne (pc := 48) (tgt := 58) C0 (by omega) dX12_house_48 rfl (fun b7 => ?_) (fun b7 => ?_)
            · exfalso
              omega
            · have e7 : k = (k - 1) + 1 := by omega
              rw [e7, hp_allL (by omega) el5] at hres
              refine xw_pk [1] (L' := [(0, .ref (xw_ad al 200))]) rfl ?_
              exact kw m5 er5 W5 Z5 hres.symm (hF.tr (((xw_F.rf (ML := [(200, 5, 13), (203, 0, 76), (208, 0, 13)])).tr F3 (fun j i h => xw_o_sub (by decide +kernel) j i h)).tr F5 (fun j i h => xw_o_sub (by decide +kernel) j i h)) (fun j i h => h))
      · refine xw_if_eq (pc := 41) (tgt := 51) C0 (by omega) dX12_house_41 rfl (fun b8 => ?_) (fun b8 => ?_)
        · have e7 : k = (k - 1) + 1 := by omega
          rw [e7, hp_allL (by omega) eo3] at hres
          refine xw_pk [1] (L' := [(0, .ref (xw_ad al 200))]) rfl ?_
          exact kw m3 er3 W3 Z3 hres.symm (hF.tr ((xw_F.rf (ML := [(200, 5, 13), (203, 0, 76), (208, 0, 13)])).tr F3 (fun j i h => xw_o_sub (by decide +kernel) j i h)) (fun j i h => h))
        · exfalso
          omega
theorem xw_o77 {i : Nat} (h : i < 77) : xw_o [(202, 77, 378)] 202 i = true := by
  have h1 : Nat.ble 77 i = false := by
    cases e : Nat.ble 77 i with
    | false => rfl
    | true => exact absurd (Nat.le_of_ble_eq_true e) (by omega)
  show (!(Nat.beq 202 202 && (Nat.ble 77 i && Nat.ble i 378)) && true) = true
  rw [h1, Bool.false_and, Bool.and_false]
  rfl
