set_option maxRecDepth 20000 in
set_option maxHeartbeats 20000000 in
theorem xt_wL3 {l : Launch} {p : Program} {e : Env} {s : State} {m : MethodId} {args : Array Value} {below : List Frame} {meth : Method} {c : Code} {Q : State → Prop} {D : va_G} {dA : Nat → ClassId} {A : Nat → Prop} {al : List (Nat × Nat)} (C0 : sa_C p s m args c D dA A 4 vwCl sa_Ts cX12_readSaid yX12_readSaid.cls) (hU : sa_U D vwCl dA s) (hO : tb_Ou A s s.heap) (hKL : al.map Prod.snd = tc_KL) {t : Nat → Int} {n lim pz : Nat} {op9 : Int} {μ : xw_M} (hS : hr_S t n lim μ) (hT : hr_T t n lim pz μ) (kx : ∀ j : Nat, ((j = 20 ∧ (∀ c8 : Nat, 11 ≤ c8 → c8 < 20 → ¬ (hp_k t n lim pz = 2 ∧ hp_kw (hp_w t n pz) = hp_pm c8))) ∨ ((11 ≤ j ∧ j ≤ 19) ∧ hp_k t n lim pz = 2 ∧ hp_kw (hp_w t n pz) = hp_pm j)) → xw_W p l e { frames := 19, cells := 0, slots := 0, locals := 487 } s m args below meth c Q D dA A 4 vwCl tb_KT0 al 0 0 μ 30 [(0, .ref (xw_ad al 200)), (1, .int (Int32.ofInt op9)), (2, .int (Int32.ofInt (j : Int)))] []) : ∀ (fu9 : Nat) (j : Nat), 20 - (j : Int) < (fu9 : Int) → j ≤ 20 → 11 ≤ j → (∀ c8 : Nat, 11 ≤ c8 → c8 < j → ¬ (hp_k t n lim pz = 2 ∧ hp_kw (hp_w t n pz) = hp_pm c8)) → xw_W p l e { frames := 19, cells := 0, slots := 0, locals := 487 } s m args below meth c Q D dA A 4 vwCl tb_KT0 al 0 0 μ 10 [(0, .ref (xw_ad al 200)), (1, .int (Int32.ofInt op9)), (2, .int (Int32.ofInt (j : Int)))] [] := by
  intro fu9
  induction fu9 with
  | zero => intro j hm hj h11 hq; exfalso; omega
  | succ fu9 ih =>
    intro j hm hj h11 hq
    refine xw_iload_n (pc := 10) C0 2 dX12_readSaid_10 rfl rfl ?_
    refine xw_bipush (pc := 11) C0 dX12_readSaid_11 (by decide +kernel) ?_
    refine xw_icmp_gt (pc := 13) (tgt := 30) C0 (by omega) (by omega) dX12_readSaid_13 rfl (fun b1 => ?_) (fun b1 => ?_)
    · refine xw_pk [0, 1, 2] (L' := [(0, .ref (xw_ad al 200)), (1, .int (Int32.ofInt op9)), (2, .int (Int32.ofInt (j : Int)))]) rfl ?_
      exact kx j (Or.inl ⟨by omega, fun c8 h8 h9 => hq c8 h8 (by omega)⟩)
    · refine xw_aload_n (pc := 16) C0 0 dX12_readSaid_16 rfl rfl ?_
      refine xw_iload_n (pc := 17) C0 2 dX12_readSaid_17 rfl rfl ?_
      refine xw_callVI (pc := 18) (μ := μ) (ci := 12) (rest := []) (As := [.int (Int32.ofInt (j : Int))]) C0 hU hO sa_Tg hKL (xr_isWord (l := l) (c9 := j) hS hT (by omega)) tv_1445 dX12_readSaid_18 tv_1442 tv_1444 tq_X12_isWord tv_13 rfl yb_X12_isWord (by decide +kernel) rfl rfl rfl (by decide +kernel) (Nat.le_of_ble_eq_true rfl) (xj_200 hKL) xk_0 (fun r2 m2 w2 => ?_)
      obtain ⟨rfl, w2⟩ := w2
      rcases w2 with ⟨w2, rfl⟩ | ⟨w2, rfl⟩
      · refine xw_if_ne (pc := 21) (tgt := 30) C0 (by omega) dX12_readSaid_21 rfl (fun b3 => ?_) (fun b3 => ?_)
        · refine xw_pk [0, 1, 2] (L' := [(0, .ref (xw_ad al 200)), (1, .int (Int32.ofInt op9)), (2, .int (Int32.ofInt (j : Int)))]) rfl ?_
          exact kx j (Or.inr ⟨⟨h11, by omega⟩, w2⟩)
        · exfalso
          omega
      · refine xw_if_ne (pc := 21) (tgt := 30) C0 (by omega) dX12_readSaid_21 rfl (fun b4 => ?_) (fun b4 => ?_)
        · exfalso
          omega
        · refine xw_iinc (pc := 24) (L' := [(2, .int (Int32.ofInt ((j : Int) + 1))), (0, .ref (xw_ad al 200)), (1, .int (Int32.ofInt op9))]) C0 2 dX12_readSaid_24 rfl (by decide +kernel) rfl ?_
          refine xw_goto (pc := 27) (tgt := 10) C0 dX12_readSaid_27 rfl ?_
          have e1 : (j : Int) + 1 = ((j + 1 : Nat) : Int) := by omega
          rw [e1]
          refine xw_pk [1, 2, 0] (L' := [(0, .ref (xw_ad al 200)), (1, .int (Int32.ofInt op9)), (2, .int (Int32.ofInt ((j + 1 : Nat) : Int)))]) rfl ?_
          refine ih (j + 1) (by omega) (by omega) (by omega) (fun c8 h8 h9 => ?_)
          by_cases e8 : c8 = j
          · rw [e8]; exact w2
          · exact hq c8 h8 (by omega)
