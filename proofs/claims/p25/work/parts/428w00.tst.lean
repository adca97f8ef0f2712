set_option maxRecDepth 20000 in
set_option maxHeartbeats 20000000 in
theorem xh_knL {l : Launch} {p : Program} {e : Env} {s : State} {m : MethodId} {args : Array Value} {below : List Frame} {meth : Method} {c : Code} {Q : State → Prop} {D : va_G} {dA : Nat → ClassId} {A : Nat → Prop} {al : List (Nat × Nat)} (C0 : sa_C p s m args c D dA A 3 vwCl sa_Ts cX11_kinds yX11_kinds.cls) (hU : sa_U D vwCl dA s) (hO : tb_Ou A s s.heap) (hKL : al.map Prod.snd = tc_KL) {v nm : Nat → Int} {μ : xw_M} (hG : xw_G xw_GL μ) (hK : hp_ok v nm) (hE : hx_E v 4 μ) (kx : xw_W p l e { frames := 4, cells := 0, slots := 0, locals := 166 } s m args below meth c Q D dA A 3 vwCl tb_KT0 al 0 0 μ 47 [(1, .int (Int32.ofInt ((hx_kn v (v 1).toNat : Nat) : Int)))] []) : ∀ (fu9 : Nat) (k : Nat), ((v 1).toNat : Int) - (k : Int) < (fu9 : Int) → k ≤ (v 1).toNat → xw_W p l e { frames := 4, cells := 0, slots := 0, locals := 166 } s m args below meth c Q D dA A 3 vwCl tb_KT0 al 0 0 μ 4 [(0, .ref (xw_ad al 0)), (1, .int (Int32.ofInt ((hx_kn v k : Nat) : Int))), (2, .int (Int32.ofInt (k : Int)))] [] := by
  intro fu9
  induction fu9 with
  | zero => intro k hm hk; exfalso; omega
  | succ fu9 ih =>
    intro k hm hk
    have k1 := hK.2.1
    have c1 : μ 4 14 = v 1 := hE.1.2.1
    refine xw_iload_n (pc := 4) C0 2 dX11_kinds_4 rfl rfl ?_
    refine xw_aload_n (pc := 5) C0 0 dX11_kinds_5 rfl rfl ?_
    refine xw_getR (pc := 6) (f := 1) C0 3 kcX11 dX11_kinds_6 (by decide +kernel) tv_423 (xj_0 hKL) xk_27 rfl ((rfl).trans (xe_0_1 hG)) ?_
    refine xw_getR (pc := 9) (f := 0) C0 4 kcX10 dX11_kinds_9 (by decide +kernel) tv_234 (xj_3 hKL) xk_24 rfl ((rfl).trans (xe_3_0 hG)) ?_
    refine xw_getI (pc := 12) (f := 14) (z := μ 4 14) C0 kcX2 dX11_kinds_12 (by decide +kernel) tv_104 (xj_4 hKL) xk_28 rfl (rfl) (fun g1 k1 => ?_)
    refine xw_icmp_ge (pc := 15) (tgt := 47) C0 (by omega) (by omega) dX11_kinds_15 rfl (fun b2 => ?_) (fun b2 => ?_)
    · have e9 : k = (v 1).toNat := by omega
      subst e9
      refine xw_pk [1] (L' := [(1, .int (Int32.ofInt ((hx_kn v (v 1).toNat : Nat) : Int)))]) rfl ?_
      exact kx
    · refine xw_aload_n (pc := 18) C0 0 dX11_kinds_18 rfl rfl ?_
      refine xw_getR (pc := 19) (f := 1) C0 3 kcX11 dX11_kinds_19 (by decide +kernel) tv_423 (xj_0 hKL) xk_27 rfl ((rfl).trans (xe_0_1 hG)) ?_
      refine xw_getR (pc := 22) (f := 0) C0 4 kcX10 dX11_kinds_22 (by decide +kernel) tv_234 (xj_3 hKL) xk_24 rfl ((rfl).trans (xe_3_0 hG)) ?_
      refine xw_iload_n (pc := 25) C0 2 dX11_kinds_25 rfl rfl ?_
      refine xw_callVI (pc := 26) (μ := μ) (ci := 2) (rest := []) (As := [.int (Int32.ofInt (k : Int))]) C0 hU hO sa_Tg hKL (xq_lookingLike (l := l) (v := v) (nm := nm) (F := k) hG hK hE (by omega)) tv_819 dX11_kinds_26 tv_816 tv_817 tv_818 tv_4 rfl yb_X2_lookingLike (by decide +kernel) rfl rfl rfl (by decide +kernel) (Nat.le_of_ble_eq_true rfl) (xj_4 hKL) xk_28 (fun r3 m3 w3 => ?_)
      obtain ⟨rfl, rfl⟩ := w3
      refine xw_iconst (pc := 29) C0 dX11_kinds_29 ?_
      refine xw_iload_n (pc := 30) C0 2 dX11_kinds_30 rfl rfl ?_
      refine xw_ishl (pc := 31) C0 dX11_kinds_31 (xb_shN (f := k) (by omega)) ?_
      refine xw_iconst (pc := 32) C0 dX11_kinds_32 ?_
      refine xw_isub (pc := 33) C0 dX11_kinds_33 ?_
      have q9 := hx_bsM (p := (hx_al v k)) (f := k) ((v 1).toNat - k)
      rw [show k + ((v 1).toNat - k) = (v 1).toNat by omega] at q9
      have n9 : Int32.ofInt ((hx_bs (hx_al v k) (v 1).toNat : Nat) : Int) &&& Int32.ofInt (2 ^ k - 1) = Int32.ofInt ((hx_bs (hx_al v k) k : Nat) : Int) := by
        rw [xb_md (hx_b8 (by omega)) (by omega), q9]
      have b9 := hx_b8 (p := (hx_al v k)) (m := k) (by omega)
      refine xw_iand (pc := 34) C0 dX11_kinds_34 n9 ?_
      refine xw_if_ne (pc := 35) (tgt := 41) C0 (by omega) dX11_kinds_35 rfl (fun b4 => ?_) (fun b4 => ?_)
      · refine xw_iinc (pc := 41) (L' := [(2, .int (Int32.ofInt ((k : Int) + 1))), (0, .ref (xw_ad al 0)), (1, .int (Int32.ofInt ((hx_kn v k : Nat) : Int)))]) C0 2 dX11_kinds_41 rfl (by decide +kernel) rfl ?_
        refine xw_goto (pc := 44) (tgt := 4) C0 dX11_kinds_44 rfl ?_
        have e3 : hx_kn v (k + 1) = hx_kn v k := by
          rw [hx_kne]
          rw [if_neg (by omega), Nat.add_zero]
        have e1 : (k : Int) + 1 = ((k + 1 : Nat) : Int) := by omega
        rw [e1, ← e3]
        refine xw_pk [1, 2, 0] (L' := [(0, .ref (xw_ad al 0)), (1, .int (Int32.ofInt ((hx_kn v (k + 1) : Nat) : Int))), (2, .int (Int32.ofInt ((k + 1 : Nat) : Int)))]) rfl ?_
        exact ih (k + 1) (by omega) (by omega)
      · refine xw_iinc (pc := 38) (L' := [(1, .int (Int32.ofInt (((hx_kn v k : Nat) : Int) + 1))), (0, .ref (xw_ad al 0)), (2, .int (Int32.ofInt (k : Int)))]) C0 1 dX11_kinds_38 rfl (by decide +kernel) rfl ?_
        refine xw_iinc (pc := 41) (L' := [(2, .int (Int32.ofInt ((k : Int) + 1))), (1, .int (Int32.ofInt (((hx_kn v k : Nat) : Int) + 1))), (0, .ref (xw_ad al 0))]) C0 2 dX11_kinds_41 rfl (by decide +kernel) rfl ?_
        refine xw_goto (pc := 44) (tgt := 4) C0 dX11_kinds_44 rfl ?_
        have e3 : hx_kn v (k + 1) = hx_kn v k + 1 := by
          rw [hx_kne]
          rw [if_pos (by omega)]
        have e1 : (k : Int) + 1 = ((k + 1 : Nat) : Int) := by omega
        have e4 : ((hx_kn v k : Nat) : Int) + 1 = ((hx_kn v (k + 1) : Nat) : Int) := by omega
        rw [e1, e4]
        refine xw_pk [2, 1, 0] (L' := [(0, .ref (xw_ad al 0)), (1, .int (Int32.ofInt ((hx_kn v (k + 1) : Nat) : Int))), (2, .int (Int32.ofInt ((k + 1 : Nat) : Int)))]) rfl ?_
        exact ih (k + 1) (by omega) (by omega)
set_option maxRecDepth 20000 in
set_option maxHeartbeats 20000000 in
theorem xh_kindsV {l : Launch} {v nm : Nat → Int} {μ : xw_M} (hG : xw_G xw_GL μ) (hK : hp_ok v nm) (hE : hx_E v 4 μ) : xw_MetI l vwCl sa_Ts tb_KT0 tc_KL yX11_kinds cX11_kinds 3 (some .int) 4 166 (fun ad => [.ref (ad 0)]) μ (fun r μ' => μ = μ' ∧ r = ((hx_kn v (v 1).toNat : Nat) : Int)) :=
  xw_of (by decide +kernel) (fun _ => Nat.le_of_ble_eq_true rfl) (fun p e s m args below meth c D dA A al w0 sz C0 hU hO hKL hr hlk hA => by
    refine xw_iconst (pc := 0) C0 dX11_kinds_0 ?_
    refine xw_istore_n (pc := 1) (L' := [(1, .int (Int32.ofInt 0)), (0, .ref (xw_ad al 0))]) C0 dX11_kinds_1 rfl (by decide +kernel) rfl ?_
    refine xw_iconst (pc := 2) C0 dX11_kinds_2 ?_
    refine xw_istore_n (pc := 3) (L' := [(2, .int (Int32.ofInt 0)), (1, .int (Int32.ofInt 0)), (0, .ref (xw_ad al 0))]) C0 dX11_kinds_3 rfl (by decide +kernel) rfl ?_
    have k1 := hK.2.1
    refine xw_pk [2, 1, 0] (L' := [(0, .ref (xw_ad al 0)), (1, .int (Int32.ofInt ((hx_kn v 0 : Nat) : Int))), (2, .int (Int32.ofInt ((0 : Nat) : Int)))]) rfl ?_
    refine xh_knL (v := v) (nm := nm) (μ := μ) C0 hU hO hKL hG hK hE ?_ 9 0 (by omega) (Nat.zero_le _)
    refine xw_iload_n (pc := 47) C0 0 dX11_kinds_47 rfl rfl ?_
    refine xw_iret C0 hA hr hlk rfl dX11_kinds_48 ?_
    exact ⟨_, rfl, rfl, rfl⟩)
set_option maxRecDepth 20000 in
set_option maxHeartbeats 20000000 in
theorem xr_knI {l : Launch} {p : Program} {e : Env} {s : State} {m : MethodId} {args : Array Value} {below : List Frame} {meth : Method} {c : Code} {Q : State → Prop} {D : va_G} {dA : Nat → ClassId} {A : Nat → Prop} {al : List (Nat × Nat)} (C0 : sa_C p s m args c D dA A 4 vwCl sa_Ts cX12_kinds yX12_kinds.cls) (hU : sa_U D vwCl dA s) (hO : tb_Ou A s s.heap) (hKL : al.map Prod.snd = tc_KL) {v nm : Nat → Int} {k : Nat} {c9 : Int} {μ : xw_M} (hG : xw_G xw_GL μ) (hK : hp_ok v nm) (hN : ∀ k : Nat, k < 77 → μ 202 k = v k) (hk : k < (v 1).toNat) (kx : ∀ j : Nat, j ≤ k → (∀ i : Nat, i < j → hx_al v k i = false) → hx_al v k j = true → xw_W p l e { frames := 3, cells := 0, slots := 0, locals := 142 } s m args below meth c Q D dA A 4 vwCl tb_KT0 al 0 0 μ 36 [(0, .ref (xw_ad al 200)), (1, .int (Int32.ofInt c9)), (2, .int (Int32.ofInt (k : Int))), (3, .int (Int32.ofInt (j : Int)))] []) : ∀ (fu9 : Nat) (j : Nat), (k : Int) - (j : Int) < (fu9 : Int) → j ≤ k → (∀ i : Nat, i < j → hx_al v k i = false) → xw_W p l e { frames := 3, cells := 0, slots := 0, locals := 142 } s m args below meth c Q D dA A 4 vwCl tb_KT0 al 0 0 μ 21 [(0, .ref (xw_ad al 200)), (1, .int (Int32.ofInt c9)), (2, .int (Int32.ofInt (k : Int))), (3, .int (Int32.ofInt (j : Int)))] [] := by
  intro fu9
  induction fu9 with
  | zero => intro j hm hj hf; exfalso; omega
  | succ fu9 ih =>
    intro j hm hj hf
    have k1 := hK.2.1
    refine xw_aload_n (pc := 21) C0 0 dX12_kinds_21 rfl rfl ?_
    refine xw_iload_n (pc := 22) C0 2 dX12_kinds_22 rfl rfl ?_
    refine xw_iload_n (pc := 23) C0 3 dX12_kinds_23 rfl rfl ?_
    refine xw_callVI (pc := 24) (μ := μ) (ci := 12) (rest := []) (As := [.int (Int32.ofInt (k : Int)), .int (Int32.ofInt (j : Int))]) C0 hU hO sa_Tg hKL (xr_areAlike (l := l) (v := v) (nm := nm) (F := k) (G := j) hG hK hN (by omega) (by omega)) tv_1719 dX12_kinds_24 tv_1716 tv_1718 tq_X12_areAlike tv_13 rfl yb_X12_areAlike (by decide +kernel) rfl rfl rfl (by decide +kernel) (Nat.le_of_ble_eq_true rfl) (xj_200 hKL) xk_0 (fun r1 m1 w1 => ?_)
    obtain ⟨rfl, w1⟩ := w1
    rcases w1 with ⟨w1, rfl⟩ | ⟨w1, rfl⟩
    · refine xw_if_ne (pc := 27) (tgt := 36) C0 (by omega) dX12_kinds_27 rfl (fun b2 => ?_) (fun b2 => ?_)
      · refine xw_pk [0, 1, 2, 3] (L' := [(0, .ref (xw_ad al 200)), (1, .int (Int32.ofInt c9)), (2, .int (Int32.ofInt (k : Int))), (3, .int (Int32.ofInt (j : Int)))]) rfl ?_
        exact kx j hj hf w1
      · exfalso
        omega
    · refine xw_if_ne (pc := 27) (tgt := 36) C0 (by omega) dX12_kinds_27 rfl (fun b3 => ?_) (fun b3 => ?_)
      · exfalso
        omega
      · refine xw_iinc (pc := 30) (L' := [(3, .int (Int32.ofInt ((j : Int) + 1))), (0, .ref (xw_ad al 200)), (1, .int (Int32.ofInt c9)), (2, .int (Int32.ofInt (k : Int)))]) C0 3 dX12_kinds_30 rfl (by decide +kernel) rfl ?_
        refine xw_goto (pc := 33) (tgt := 21) C0 dX12_kinds_33 rfl ?_
        have hjk : j < k := by
          rcases Nat.lt_or_ge j k with h | h
          · exact h
          · exfalso; rw [show j = k by omega, hx_alk] at w1; cases w1
        have e1 : (j : Int) + 1 = ((j + 1 : Nat) : Int) := by omega
        rw [e1]
        refine xw_pk [1, 2, 3, 0] (L' := [(0, .ref (xw_ad al 200)), (1, .int (Int32.ofInt c9)), (2, .int (Int32.ofInt (k : Int))), (3, .int (Int32.ofInt ((j + 1 : Nat) : Int)))]) rfl ?_
        exact ih (j + 1) (by omega) (by omega) (fun i hi => by
          by_cases e : i = j
          · rw [e]; exact w1
          · exact hf i (by omega))
set_option maxRecDepth 20000 in
set_option maxHeartbeats 20000000 in
theorem xr_knL {l : Launch} {p : Program} {e : Env} {s : State} {m : MethodId} {args : Array Value} {below : List Frame} {meth : Method} {c : Code} {Q : State → Prop} {D : va_G} {dA : Nat → ClassId} {A : Nat → Prop} {al : List (Nat × Nat)} (C0 : sa_C p s m args c D dA A 4 vwCl sa_Ts cX12_kinds yX12_kinds.cls) (hU : sa_U D vwCl dA s) (hO : tb_Ou A s s.heap) (hKL : al.map Prod.snd = tc_KL) {v nm : Nat → Int} {μ : xw_M} (hG : xw_G xw_GL μ) (hK : hp_ok v nm) (hN : ∀ k : Nat, k < 77 → μ 202 k = v k) (kx : xw_W p l e { frames := 3, cells := 0, slots := 0, locals := 142 } s m args below meth c Q D dA A 4 vwCl tb_KT0 al 0 0 μ 50 [(1, .int (Int32.ofInt ((hx_kn v (v 1).toNat : Nat) : Int)))] []) : ∀ (fu9 : Nat) (k : Nat), ((v 1).toNat : Int) - (k : Int) < (fu9 : Int) → k ≤ (v 1).toNat → xw_W p l e { frames := 3, cells := 0, slots := 0, locals := 142 } s m args below meth c Q D dA A 4 vwCl tb_KT0 al 0 0 μ 9 [(0, .ref (xw_ad al 200)), (1, .int (Int32.ofInt ((hx_kn v k : Nat) : Int))), (2, .int (Int32.ofInt (k : Int)))] [] := by
  intro fu9
  induction fu9 with
  | zero => intro k hm hk; exfalso; omega
  | succ fu9 ih =>
    intro k hm hk
    have k1 := hK.2.1
    have hn1 : μ 202 1 = v 1 := hN 1 (by decide +kernel)
    refine xw_iload_n (pc := 9) C0 2 dX12_kinds_9 rfl rfl ?_
    refine xw_aload_n (pc := 10) C0 0 dX12_kinds_10 rfl rfl ?_
    refine xw_getR (pc := 11) (f := 14) C0 202 kcX12 dX12_kinds_11 (by decide +kernel) tv_1275 (xj_200 hKL) xk_0 rfl ((rfl).trans (xe_200_14 hG)) ?_
    refine xw_iconst (pc := 14) C0 dX12_kinds_14 ?_
    refine xw_iald (pc := 15) (z := v 1) C0 dX12_kinds_15 (xj_202 hKL) xk_1 (by omega) (by decide +kernel) rfl hn1 (fun g1 k1 => ?_)
    refine xw_icmp_ge (pc := 16) (tgt := 50) C0 (by omega) (by omega) dX12_kinds_16 rfl (fun b2 => ?_) (fun b2 => ?_)
    · have e9 : k = (v 1).toNat := by omega
      subst e9
      refine xw_pk [1] (L' := [(1, .int (Int32.ofInt ((hx_kn v (v 1).toNat : Nat) : Int)))]) rfl ?_
      exact kx
    · refine xw_iconst (pc := 19) C0 dX12_kinds_19 ?_
      refine xw_istore_n (pc := 20) (L' := [(3, .int (Int32.ofInt 0)), (0, .ref (xw_ad al 200)), (1, .int (Int32.ofInt ((hx_kn v k : Nat) : Int))), (2, .int (Int32.ofInt (k : Int)))]) C0 dX12_kinds_20 rfl (by decide +kernel) rfl ?_
      refine xw_pk [1, 2, 3, 0] (L' := [(0, .ref (xw_ad al 200)), (1, .int (Int32.ofInt ((hx_kn v k : Nat) : Int))), (2, .int (Int32.ofInt (k : Int))), (3, .int (Int32.ofInt ((0 : Nat) : Int)))]) rfl ?_
      refine xr_knI (v := v) (nm := nm) (k := k) (c9 := ((hx_kn v k : Nat) : Int)) (μ := μ) C0 hU hO hKL hG hK hN (by omega) (fun j hj hf hal => ?_) 9 0 (by omega) (Nat.zero_le _) (fun i hi => absurd hi (Nat.not_lt_zero i))
      refine xw_iload_n (pc := 36) C0 3 dX12_kinds_36 rfl rfl ?_
      refine xw_iload_n (pc := 37) C0 2 dX12_kinds_37 rfl rfl ?_
      refine xw_icmp_ne (pc := 38) (tgt := 44) C0 (by omega) (by omega) dX12_kinds_38 rfl (fun b51 => ?_) (fun b51 => ?_)
      · refine xw_iinc (pc := 44) (L' := [(2, .int (Int32.ofInt ((k : Int) + 1))), (0, .ref (xw_ad al 200)), (1, .int (Int32.ofInt ((hx_kn v k : Nat) : Int))), (3, .int (Int32.ofInt (j : Int)))]) C0 2 dX12_kinds_44 rfl (by decide +kernel) rfl ?_
        refine xw_goto (pc := 47) (tgt := 9) C0 dX12_kinds_47 rfl ?_
        have e3 : hx_kn v (k + 1) = hx_kn v k := by
          rw [hx_kne]
          rw [if_neg (fun q => by
            have q2 := (hx_bs0 k).mp q j (by omega)
            rw [hal] at q2
            cases q2), Nat.add_zero]
        have e1 : (k : Int) + 1 = ((k + 1 : Nat) : Int) := by omega
        rw [e1, ← e3]
        refine xw_pk [1, 2, 0] (L' := [(0, .ref (xw_ad al 200)), (1, .int (Int32.ofInt ((hx_kn v (k + 1) : Nat) : Int))), (2, .int (Int32.ofInt ((k + 1 : Nat) : Int)))]) rfl ?_
        exact ih (k + 1) (by omega) (by omega)
      · refine xw_iinc (pc := 41) (L' := [(1, .int (Int32.ofInt (((hx_kn v k : Nat) : Int) + 1))), (0, .ref (xw_ad al 200)), (2, .int (Int32.ofInt (k : Int))), (3, .int (Int32.ofInt (j : Int)))]) C0 1 dX12_kinds_41 rfl (by decide +kernel) rfl ?_
        refine xw_iinc (pc := 44) (L' := [(2, .int (Int32.ofInt ((k : Int) + 1))), (1, .int (Int32.ofInt (((hx_kn v k : Nat) : Int) + 1))), (0, .ref (xw_ad al 200)), (3, .int (Int32.ofInt (j : Int)))]) C0 2 dX12_kinds_44 rfl (by decide +kernel) rfl ?_
        refine xw_goto (pc := 47) (tgt := 9) C0 dX12_kinds_47 rfl ?_
        have e3 : hx_kn v (k + 1) = hx_kn v k + 1 := by
          rw [hx_kne]
          rw [if_pos ((hx_bs0 k).mpr (fun i hi => hf i (by omega)))]
        have e1 : (k : Int) + 1 = ((k + 1 : Nat) : Int) := by omega
        have e4 : ((hx_kn v k : Nat) : Int) + 1 = ((hx_kn v (k + 1) : Nat) : Int) := by omega
        rw [e1, e4]
        refine xw_pk [2, 1, 0] (L' := [(0, .ref (xw_ad al 200)), (1, .int (Int32.ofInt ((hx_kn v (k + 1) : Nat) : Int))), (2, .int (Int32.ofInt ((k + 1 : Nat) : Int)))]) rfl ?_
        exact ih (k + 1) (by omega) (by omega)
set_option maxRecDepth 20000 in
set_option maxHeartbeats 20000000 in
theorem xr_kindsV {l : Launch} {v nm : Nat → Int} {μ : xw_M} (hG : xw_G xw_GL μ) (hK : hp_ok v nm) (hN : ∀ k : Nat, k < 77 → μ 202 k = v k) : xw_MetI l vwCl sa_Ts tb_KT0 tc_KL yX12_kinds cX12_kinds 4 (some .int) 3 142 (fun ad => [.ref (ad 200)]) μ (fun r μ' => r = ((hx_kn v (v 1).toNat : Nat) : Int) ∧ xw_F [(200, 0, 0)] μ μ') :=
  xw_of (by decide +kernel) (fun _ => Nat.le_of_ble_eq_true rfl) (fun p e s m args below meth c D dA A al w0 sz C0 hU hO hKL hr hlk hA => by
    refine xw_aload_n (pc := 0) C0 0 dX12_kinds_0 rfl rfl ?_
    refine xw_iconst (pc := 1) C0 dX12_kinds_1 ?_
    refine xw_putI (pc := 2) (f := 0) C0 kcX12 dX12_kinds_2 (by decide +kernel) tv_1261 rfl rfl (xj_200 hKL) xk_0 rfl (by omega) (by omega) ?_
    refine xw_iconst (pc := 5) C0 dX12_kinds_5 ?_
    refine xw_istore_n (pc := 6) (L' := [(1, .int (Int32.ofInt 0)), (0, .ref (xw_ad al 200))]) C0 dX12_kinds_6 rfl (by decide +kernel) rfl ?_
    refine xw_iconst (pc := 7) C0 dX12_kinds_7 ?_
    refine xw_istore_n (pc := 8) (L' := [(2, .int (Int32.ofInt 0)), (1, .int (Int32.ofInt 0)), (0, .ref (xw_ad al 200))]) C0 dX12_kinds_8 rfl (by decide +kernel) rfl ?_
    have Ft1 : xw_F [(200, 0, 0)] μ (xw_u μ 200 0 0) := ((xw_F.rf (ML := [(200, 0, 0)])).u (show (200, 0, 0) ∈ _ by decide) ⟨by decide, by decide⟩)
    have vt1_200_0 : (xw_u μ 200 0 0) 200 0 = 0 := xw_ug
    generalize (xw_u μ 200 0 0) = t1 at Ft1 vt1_200_0 ⊢
    have hG_t1 := xw_GF hG Ft1 (by decide +kernel)
    have k1 := hK.2.1
    have hN9 : ∀ k : Nat, k < 77 → t1 202 k = v k := fun k hk => (Ft1 202 k (xw_oj (by decide +kernel) k)).trans (hN k hk)
    refine xw_pk [2, 1, 0] (L' := [(0, .ref (xw_ad al 200)), (1, .int (Int32.ofInt ((hx_kn v 0 : Nat) : Int))), (2, .int (Int32.ofInt ((0 : Nat) : Int)))]) rfl ?_
    refine xr_knL (v := v) (nm := nm) (μ := t1) C0 hU hO hKL hG_t1 hK hN9 ?_ 9 0 (by omega) (Nat.zero_le _)
    refine xw_iload_n (pc := 50) C0 0 dX12_kinds_50 rfl rfl ?_
    refine xw_iret C0 hA hr hlk rfl dX12_kinds_51 ?_
    exact ⟨_, rfl, rfl, ((xw_F.rf (ML := [(200, 0, 0)])).tr Ft1 (fun j i h => xw_o_sub (by decide +kernel) j i h))⟩)
set_option maxRecDepth 20000 in
set_option maxHeartbeats 20000000 in
theorem xq_muL {l : Launch} {p : Program} {e : Env} {s : State} {m : MethodId} {args : Array Value} {below : List Frame} {meth : Method} {c : Code} {Q : State → Prop} {D : va_G} {dA : Nat → ClassId} {A : Nat → Prop} {al : List (Nat × Nat)} (C0 : sa_C p s m args c D dA A 4 vwCl sa_Ts cX2_minutesTillUp yX2_minutesTillUp.cls) (hU : sa_U D vwCl dA s) (hO : tb_Ou A s s.heap) (hKL : al.map Prod.snd = tc_KL) {v nm : Nat → Int} {T : Nat} {μ : xw_M} (hG : xw_G xw_GL μ) (hK : hp_ok v nm) (hE : hx_E v 4 μ) (hT : (T : Int) < v 0) (kx : xw_W p l e { frames := 3, cells := 0, slots := 0, locals := 141 } s m args below meth c Q D dA A 4 vwCl tb_KT0 al 0 0 μ 52 [(2, .int (Int32.ofInt (hx_mx v T (T + 1))))] []) : ∀ (fu9 : Nat) (k : Nat), ((T : Int) + 1) - (k : Int) < (fu9 : Int) → k ≤ T + 1 → xw_W p l e { frames := 3, cells := 0, slots := 0, locals := 141 } s m args below meth c Q D dA A 4 vwCl tb_KT0 al 0 0 μ 4 [(0, .ref (xw_ad al 4)), (1, .int (Int32.ofInt (T : Int))), (2, .int (Int32.ofInt (hx_mx v T k))), (3, .int (Int32.ofInt (k : Int)))] [] := by
  intro fu9
  induction fu9 with
  | zero => intro k hm hk; exfalso; omega
  | succ fu9 ih =>
    intro k hm hk
    have k0 := hK.1
    have b9 := hx_mxB (v := v) (t := T) k (fun j hj => (hx_okR hK hT).2.2 j (by omega))
    refine xw_iload_n (pc := 4) C0 3 dX2_minutesTillUp_4 rfl rfl ?_
    refine xw_iload_n (pc := 5) C0 1 dX2_minutesTillUp_5 rfl rfl ?_
    refine xw_icmp_gt (pc := 6) (tgt := 52) C0 (by omega) (by omega) dX2_minutesTillUp_6 rfl (fun b1 => ?_) (fun b1 => ?_)
    · have e9 : k = T + 1 := by omega
      subst e9
      refine xw_pk [2] (L' := [(2, .int (Int32.ofInt (hx_mx v T (T + 1))))]) rfl ?_
      exact kx
    · refine xw_iload_n (pc := 9) C0 3 dX2_minutesTillUp_9 rfl rfl ?_
      refine xw_iload_n (pc := 10) C0 1 dX2_minutesTillUp_10 rfl rfl ?_
      refine xw_icmp_eq (pc := 11) (tgt := 28) C0 (by omega) (by omega) dX2_minutesTillUp_11 rfl (fun b2 => ?_) (fun b2 => ?_)
      · refine xw_iload_n (pc := 28) C0 2 dX2_minutesTillUp_28 rfl rfl ?_
        refine xw_aload_n (pc := 29) C0 0 dX2_minutesTillUp_29 rfl rfl ?_
        refine xw_getR (pc := 30) (f := 2) C0 7 kcX2 dX2_minutesTillUp_30 (by decide +kernel) tv_67 (xj_4 hKL) xk_28 rfl ((rfl).trans (xe_4_2 hG)) ?_
        refine xw_iload_n (pc := 33) C0 3 dX2_minutesTillUp_33 rfl rfl ?_
        have a3 : μ 7 ((k : Int)).toNat = v (9 + k) := (hE.2.1 k (by omega) (by omega)).2.1
        refine xw_iald (pc := 34) (z := v (9 + k)) C0 dX2_minutesTillUp_34 (xj_7 hKL) xk_31 (by omega) (by decide +kernel) (xw_rl (by omega)) a3 (fun g3 k3 => ?_)
        refine xw_aload_n (pc := 35) C0 0 dX2_minutesTillUp_35 rfl rfl ?_
        refine xw_getR (pc := 36) (f := 1) C0 6 kcX2 dX2_minutesTillUp_36 (by decide +kernel) tv_63 (xj_4 hKL) xk_28 rfl ((rfl).trans (xe_4_1 hG)) ?_
        refine xw_iload_n (pc := 39) C0 3 dX2_minutesTillUp_39 rfl rfl ?_
        have a4 : μ 6 ((k : Int)).toNat = v (3 + k) := (hE.2.1 k (by omega) (by omega)).1
        refine xw_iald (pc := 40) (z := v (3 + k)) C0 dX2_minutesTillUp_40 (xj_6 hKL) xk_30 (by omega) (by decide +kernel) (xw_rl (by omega)) a4 (fun g4 k4 => ?_)
        refine xw_iadd (pc := 41) C0 dX2_minutesTillUp_41 ?_
        have q8 := hK.2.2.2.2.1 k (by omega) (by omega)
        have q9 := q8.1
        have q7 := q8.2.1
        clear q8
        refine xw_max (pc := 42) (rest := []) (a := hx_mx v T k) (b := (v (9 + k)) + (v (3 + k))) C0 (by omega) (by omega) dX2_minutesTillUp_42 tv_801 tv_802 tv_19 tv_803 (Nat.le_of_ble_eq_true rfl) (Nat.le_of_ble_eq_true rfl) (by decide +kernel) (by decide +kernel) ?_
        refine xw_istore_n (pc := 45) (L' := [(2, .int (Int32.ofInt (hx_m (hx_mx v T k) ((v (9 + k)) + (v (3 + k)))))), (0, .ref (xw_ad al 4)), (1, .int (Int32.ofInt (T : Int))), (3, .int (Int32.ofInt (k : Int)))]) C0 dX2_minutesTillUp_45 rfl (by decide +kernel) rfl ?_
        refine xw_iinc (pc := 46) (L' := [(3, .int (Int32.ofInt ((k : Int) + 1))), (2, .int (Int32.ofInt (hx_m (hx_mx v T k) ((v (9 + k)) + (v (3 + k)))))), (0, .ref (xw_ad al 4)), (1, .int (Int32.ofInt (T : Int)))]) C0 3 dX2_minutesTillUp_46 rfl (by decide +kernel) rfl ?_
        refine xw_goto (pc := 49) (tgt := 4) C0 dX2_minutesTillUp_49 rfl ?_
        have e3 : hx_mx v T (k + 1) = hx_m (hx_mx v T k) ((v (9 + k)) + (v (3 + k))) := by
          rw [hx_mxe]
          first
            | exact if_pos (Or.inl (by omega))
            | exact if_pos (Or.inr c9)
        have e1 : (k : Int) + 1 = ((k + 1 : Nat) : Int) := by omega
        rw [e1, ← e3]
        refine xw_pk [2, 3, 1, 0] (L' := [(0, .ref (xw_ad al 4)), (1, .int (Int32.ofInt (T : Int))), (2, .int (Int32.ofInt (hx_mx v T (k + 1)))), (3, .int (Int32.ofInt ((k + 1 : Nat) : Int)))]) rfl ?_
        exact ih (k + 1) (by omega) (by omega)
      · refine xw_aload_n (pc := 14) C0 0 dX2_minutesTillUp_14 rfl rfl ?_
        refine xw_getR (pc := 15) (f := 4) C0 9 kcX2 dX2_minutesTillUp_15 (by decide +kernel) tv_74 (xj_4 hKL) xk_28 rfl ((rfl).trans (xe_4_4 hG)) ?_
        refine xw_iload_n (pc := 18) C0 1 dX2_minutesTillUp_18 rfl rfl ?_
        have a5 : μ 9 ((T : Int)).toNat = hx_ah v T := (hE.2.2.2.2 T (by omega) hT).1
        refine xw_iald (pc := 19) (z := hx_ah v T) C0 dX2_minutesTillUp_19 (xj_9 hKL) xk_33 (by omega) (by decide +kernel) (xw_rl (by omega)) a5 (fun g5 k5 => ?_)
        refine xw_iload_n (pc := 20) C0 3 dX2_minutesTillUp_20 rfl rfl ?_
        rcases hx_tf (hx_ch v T k) with c9 | c9
        · have n9 : tb_hb (Int32.ofInt (hx_ah v T)) (Int32.ofInt (k : Int)) = Int32.ofInt 1 := by
            rw [xb_btN hK hT (by omega), c9]
            rfl
          refine xw_bitN (pc := 21) (host := "OffThenOn") (rest := []) C0 hU sa_Tg (pu_X11_bit (l := l)) tv_589 dX2_minutesTillUp_21 (by decide +kernel) tv_588 tv_1 yb_X11_bit (by decide +kernel) (by decide +kernel) (Nat.le_of_ble_eq_true rfl) n9 ?_
          refine xw_iconst (pc := 24) C0 dX2_minutesTillUp_24 ?_
          refine xw_icmp_ne (pc := 25) (tgt := 46) C0 (by omega) (by omega) dX2_minutesTillUp_25 rfl (fun b6 => ?_) (fun b6 => ?_)
          · exfalso
            omega
          · refine xw_iload_n (pc := 28) C0 2 dX2_minutesTillUp_28 rfl rfl ?_
            refine xw_aload_n (pc := 29) C0 0 dX2_minutesTillUp_29 rfl rfl ?_
            refine xw_getR (pc := 30) (f := 2) C0 7 kcX2 dX2_minutesTillUp_30 (by decide +kernel) tv_67 (xj_4 hKL) xk_28 rfl ((rfl).trans (xe_4_2 hG)) ?_
            refine xw_iload_n (pc := 33) C0 3 dX2_minutesTillUp_33 rfl rfl ?_
            have a7 : μ 7 ((k : Int)).toNat = v (9 + k) := (hE.2.1 k (by omega) (by omega)).2.1
            refine xw_iald (pc := 34) (z := v (9 + k)) C0 dX2_minutesTillUp_34 (xj_7 hKL) xk_31 (by omega) (by decide +kernel) (xw_rl (by omega)) a7 (fun g7 k7 => ?_)
            refine xw_aload_n (pc := 35) C0 0 dX2_minutesTillUp_35 rfl rfl ?_
            refine xw_getR (pc := 36) (f := 1) C0 6 kcX2 dX2_minutesTillUp_36 (by decide +kernel) tv_63 (xj_4 hKL) xk_28 rfl ((rfl).trans (xe_4_1 hG)) ?_
            refine xw_iload_n (pc := 39) C0 3 dX2_minutesTillUp_39 rfl rfl ?_
            have a8 : μ 6 ((k : Int)).toNat = v (3 + k) := (hE.2.1 k (by omega) (by omega)).1
            refine xw_iald (pc := 40) (z := v (3 + k)) C0 dX2_minutesTillUp_40 (xj_6 hKL) xk_30 (by omega) (by decide +kernel) (xw_rl (by omega)) a8 (fun g8 k8 => ?_)
            refine xw_iadd (pc := 41) C0 dX2_minutesTillUp_41 ?_
            have q8 := hK.2.2.2.2.1 k (by omega) (by omega)
            have q9 := q8.1
            have q7 := q8.2.1
            clear q8
            refine xw_max (pc := 42) (rest := []) (a := hx_mx v T k) (b := (v (9 + k)) + (v (3 + k))) C0 (by omega) (by omega) dX2_minutesTillUp_42 tv_801 tv_802 tv_19 tv_803 (Nat.le_of_ble_eq_true rfl) (Nat.le_of_ble_eq_true rfl) (by decide +kernel) (by decide +kernel) ?_
            refine xw_istore_n (pc := 45) (L' := [(2, .int (Int32.ofInt (hx_m (hx_mx v T k) ((v (9 + k)) + (v (3 + k)))))), (0, .ref (xw_ad al 4)), (1, .int (Int32.ofInt (T : Int))), (3, .int (Int32.ofInt (k : Int)))]) C0 dX2_minutesTillUp_45 rfl (by decide +kernel) rfl ?_
            refine xw_iinc (pc := 46) (L' := [(3, .int (Int32.ofInt ((k : Int) + 1))), (2, .int (Int32.ofInt (hx_m (hx_mx v T k) ((v (9 + k)) + (v (3 + k)))))), (0, .ref (xw_ad al 4)), (1, .int (Int32.ofInt (T : Int)))]) C0 3 dX2_minutesTillUp_46 rfl (by decide +kernel) rfl ?_
            refine xw_goto (pc := 49) (tgt := 4) C0 dX2_minutesTillUp_49 rfl ?_
            have e3 : hx_mx v T (k + 1) = hx_m (hx_mx v T k) ((v (9 + k)) + (v (3 + k))) := by
              rw [hx_mxe]
              first
                | exact if_pos (Or.inl (by omega))
                | exact if_pos (Or.inr c9)
            have e1 : (k : Int) + 1 = ((k + 1 : Nat) : Int) := by omega
            rw [e1, ← e3]
            refine xw_pk [2, 3, 1, 0] (L' := [(0, .ref (xw_ad al 4)), (1, .int (Int32.ofInt (T : Int))), (2, .int (Int32.ofInt (hx_mx v T (k + 1)))), (3, .int (Int32.ofInt ((k + 1 : Nat) : Int)))]) rfl ?_
            exact ih (k + 1) (by omega) (by omega)
        · have n9 : tb_hb (Int32.ofInt (hx_ah v T)) (Int32.ofInt (k : Int)) = Int32.ofInt 0 := by
            rw [xb_btN hK hT (by omega), c9]
            rfl
          refine xw_bitN (pc := 21) (host := "OffThenOn") (rest := []) C0 hU sa_Tg (pu_X11_bit (l := l)) tv_589 dX2_minutesTillUp_21 (by decide +kernel) tv_588 tv_1 yb_X11_bit (by decide +kernel) (by decide +kernel) (Nat.le_of_ble_eq_true rfl) n9 ?_
          refine xw_iconst (pc := 24) C0 dX2_minutesTillUp_24 ?_
          refine xw_icmp_ne (pc := 25) (tgt := 46) C0 (by omega) (by omega) dX2_minutesTillUp_25 rfl (fun b10 => ?_) (fun b10 => ?_)
          · refine xw_iinc (pc := 46) (L' := [(3, .int (Int32.ofInt ((k : Int) + 1))), (0, .ref (xw_ad al 4)), (1, .int (Int32.ofInt (T : Int))), (2, .int (Int32.ofInt (hx_mx v T k)))]) C0 3 dX2_minutesTillUp_46 rfl (by decide +kernel) rfl ?_
            refine xw_goto (pc := 49) (tgt := 4) C0 dX2_minutesTillUp_49 rfl ?_
            have e3 : hx_mx v T (k + 1) = hx_mx v T k := by
              rw [hx_mxe]
              exact if_neg (fun z => by
                rcases z with z | z
                · omega
                · rw [c9] at z; cases z)
            have e1 : (k : Int) + 1 = ((k + 1 : Nat) : Int) := by omega
            rw [e1, ← e3]
            refine xw_pk [1, 2, 3, 0] (L' := [(0, .ref (xw_ad al 4)), (1, .int (Int32.ofInt (T : Int))), (2, .int (Int32.ofInt (hx_mx v T (k + 1)))), (3, .int (Int32.ofInt ((k + 1 : Nat) : Int)))]) rfl ?_
            exact ih (k + 1) (by omega) (by omega)
          · exfalso
            omega
set_option maxRecDepth 20000 in
set_option maxHeartbeats 20000000 in
theorem xq_minutesTillUp {l : Launch} {v nm : Nat → Int} {T : Nat} {μ : xw_M} (hG : xw_G xw_GL μ) (hK : hp_ok v nm) (hE : hx_E v 4 μ) (hT : (T : Int) < v 0) : xw_MetI l vwCl sa_Ts tb_KT0 tc_KL yX2_minutesTillUp cX2_minutesTillUp 4 (some .int) 3 141 (fun ad => [.ref (ad 4), .int (Int32.ofInt (T : Int))]) μ (fun r μ' => μ = μ' ∧ r = hx_rt v T) :=
  xw_of (by decide +kernel) (fun _ => Nat.le_of_ble_eq_true rfl) (fun p e s m args below meth c D dA A al w0 sz C0 hU hO hKL hr hlk hA => by
    refine xw_iconst (pc := 0) C0 dX2_minutesTillUp_0 ?_
    refine xw_istore_n (pc := 1) (L' := [(2, .int (Int32.ofInt 0)), (0, .ref (xw_ad al 4)), (1, .int (Int32.ofInt (T : Int)))]) C0 dX2_minutesTillUp_1 rfl (by decide +kernel) rfl ?_
    refine xw_iconst (pc := 2) C0 dX2_minutesTillUp_2 ?_
    refine xw_istore_n (pc := 3) (L' := [(3, .int (Int32.ofInt 0)), (2, .int (Int32.ofInt 0)), (0, .ref (xw_ad al 4)), (1, .int (Int32.ofInt (T : Int)))]) C0 dX2_minutesTillUp_3 rfl (by decide +kernel) rfl ?_
    have k0 := hK.1
    refine xw_pk [2, 3, 1, 0] (L' := [(0, .ref (xw_ad al 4)), (1, .int (Int32.ofInt (T : Int))), (2, .int (Int32.ofInt (hx_mx v T 0))), (3, .int (Int32.ofInt ((0 : Nat) : Int)))]) rfl ?_
    refine xq_muL (v := v) (nm := nm) (T := T) (μ := μ) C0 hU hO hKL hG hK hE hT ?_ 9 0 (by omega) (Nat.zero_le _)
    refine xw_iload_n (pc := 52) C0 0 dX2_minutesTillUp_52 rfl rfl ?_
    refine xw_iret C0 hA hr hlk rfl dX2_minutesTillUp_53 ?_
    exact ⟨_, rfl, rfl, hx_mxr T (by omega) (hx_okR hK hT).1 (hx_okR hK hT).2.1⟩)
set_option maxRecDepth 20000 in
set_option maxHeartbeats 20000000 in
theorem xr_so0 {l : Launch} {v nm : Nat → Int} {T : Nat} {μ : xw_M} (hG : xw_G xw_GL μ) (hK : hp_ok v nm) (hN : ∀ k : Nat, k < 77 → μ 202 k = v k) (hT : (T : Int) < v 0) (hd9 : T ≤ 0) : xw_MetI l vwCl sa_Ts tb_KT0 tc_KL yX12_startOf cX12_startOf 5 (some .int) 2 120 (fun ad => [.ref (ad 200), .int (Int32.ofInt (T : Int))]) μ (fun r μ' => μ = μ' ∧ r = hx_rt v T - v (3 + T)) :=
  xw_of (by decide +kernel) (fun _ => Nat.le_of_ble_eq_true rfl) (fun p e s m args below meth c D dA A al w0 sz C0 hU hO hKL hr hlk hA => by
    have k0 := hK.1
    have q8 := hK.2.2.2.2.1 T (by omega) hT
    have q9 := q8.1
    have q7 := q8.2.1
    have qb := q8.2.2.1
    clear q8
    refine xw_aload_n (pc := 0) C0 0 dX12_startOf_0 rfl rfl ?_
    refine xw_getR (pc := 1) (f := 14) C0 202 kcX12 dX12_startOf_1 (by decide +kernel) tv_1275 (xj_200 hKL) xk_0 rfl ((rfl).trans (xe_200_14 hG)) ?_
    refine xw_bipush (pc := 4) C0 dX12_startOf_4 (by decide +kernel) ?_
    refine xw_iload_n (pc := 6) C0 1 dX12_startOf_6 rfl rfl ?_
    refine xw_iadd (pc := 7) C0 dX12_startOf_7 ?_
    refine xw_nI (pc := 8) (congrArg Int32.ofInt (show 15 + (T : Int) = ((15 + T : Nat) : Int) by omega)) ?_
    obtain ⟨lo1, hi1, rl1, bl1, bh1⟩ := hx_n379 ⟨15 + T, by omega⟩
    refine xw_iald (pc := 8) (z := v (15 + T)) C0 dX12_startOf_8 (xj_202 hKL) xk_1 (by omega) (by decide +kernel) rl1 (hN (15 + T) (by omega)) (fun g1 k1 => ?_)
    refine xw_istore_n (pc := 9) (L' := [(2, .int (Int32.ofInt (v (15 + T)))), (0, .ref (xw_ad al 200)), (1, .int (Int32.ofInt (T : Int)))]) C0 dX12_startOf_9 rfl (by decide +kernel) rfl ?_
    refine xw_aload_n (pc := 10) C0 1 dX12_startOf_10 rfl rfl ?_
    refine xw_getR (pc := 11) (f := 14) C0 202 kcX12 dX12_startOf_11 (by decide +kernel) tv_1275 (xj_200 hKL) xk_0 rfl ((rfl).trans (xe_200_14 hG)) ?_
    refine xw_bipush (pc := 14) C0 dX12_startOf_14 (by decide +kernel) ?_
    refine xw_iload_n (pc := 16) C0 2 dX12_startOf_16 rfl rfl ?_
    refine xw_iadd (pc := 17) C0 dX12_startOf_17 ?_
    refine xw_nI (pc := 18) (congrArg Int32.ofInt (show 9 + (T : Int) = ((9 + T : Nat) : Int) by omega)) ?_
    obtain ⟨lo2, hi2, rl2, bl2, bh2⟩ := hx_n379 ⟨9 + T, by omega⟩
    refine xw_iald (pc := 18) (z := v (9 + T)) C0 dX12_startOf_18 (xj_202 hKL) xk_1 (by omega) (by decide +kernel) rl2 (hN (9 + T) (by omega)) (fun g2 k2 => ?_)
    refine xw_istore_n (pc := 19) (L' := [(3, .int (Int32.ofInt (v (9 + T)))), (2, .int (Int32.ofInt (v (15 + T)))), (0, .ref (xw_ad al 200)), (1, .int (Int32.ofInt (T : Int)))]) C0 dX12_startOf_19 rfl (by decide +kernel) rfl ?_
    refine xw_iload_n (pc := 20) C0 1 dX12_startOf_20 rfl rfl ?_
    refine xw_iconst (pc := 21) C0 dX12_startOf_21 ?_
    refine xw_icmp_ne (pc := 22) (tgt := 27) C0 (by omega) (by omega) dX12_startOf_22 rfl (fun b3 => ?_) (fun b3 => ?_)
    · exfalso
      omega
    · refine xw_iload_n (pc := 25) C0 0 dX12_startOf_25 rfl rfl ?_
      refine xw_iret C0 hA hr hlk rfl dX12_startOf_26 ?_
      have r0 := (hx_rtN hK hT).1 (by omega)
      exact ⟨_, rfl, rfl, by omega⟩)
set_option maxRecDepth 20000 in
set_option maxHeartbeats 20000000 in
theorem xr_so1 {l : Launch} {v nm : Nat → Int} {T : Nat} {μ : xw_M} (hG : xw_G xw_GL μ) (hK : hp_ok v nm) (hN : ∀ k : Nat, k < 77 → μ 202 k = v k) (hT : (T : Int) < v 0) (hd9 : T ≤ 1) : xw_MetI l vwCl sa_Ts tb_KT0 tc_KL yX12_startOf cX12_startOf 5 (some .int) 3 144 (fun ad => [.ref (ad 200), .int (Int32.ofInt (T : Int))]) μ (fun r μ' => μ = μ' ∧ r = hx_rt v T - v (3 + T)) :=
  xw_of (by decide +kernel) (fun _ => Nat.le_of_ble_eq_true rfl) (fun p e s m args below meth c D dA A al w0 sz C0 hU hO hKL hr hlk hA => by
    have k0 := hK.1
    have q8 := hK.2.2.2.2.1 T (by omega) hT
    have q9 := q8.1
    have q7 := q8.2.1
    have qb := q8.2.2.1
    clear q8
    refine xw_aload_n (pc := 0) C0 0 dX12_startOf_0 rfl rfl ?_
    refine xw_getR (pc := 1) (f := 14) C0 202 kcX12 dX12_startOf_1 (by decide +kernel) tv_1275 (xj_200 hKL) xk_0 rfl ((rfl).trans (xe_200_14 hG)) ?_
    refine xw_bipush (pc := 4) C0 dX12_startOf_4 (by decide +kernel) ?_
    refine xw_iload_n (pc := 6) C0 1 dX12_startOf_6 rfl rfl ?_
    refine xw_iadd (pc := 7) C0 dX12_startOf_7 ?_
    refine xw_nI (pc := 8) (congrArg Int32.ofInt (show 15 + (T : Int) = ((15 + T : Nat) : Int) by omega)) ?_
    obtain ⟨lo1, hi1, rl1, bl1, bh1⟩ := hx_n379 ⟨15 + T, by omega⟩
    refine xw_iald (pc := 8) (z := v (15 + T)) C0 dX12_startOf_8 (xj_202 hKL) xk_1 (by omega) (by decide +kernel) rl1 (hN (15 + T) (by omega)) (fun g1 k1 => ?_)
    refine xw_istore_n (pc := 9) (L' := [(2, .int (Int32.ofInt (v (15 + T)))), (0, .ref (xw_ad al 200)), (1, .int (Int32.ofInt (T : Int)))]) C0 dX12_startOf_9 rfl (by decide +kernel) rfl ?_
    refine xw_aload_n (pc := 10) C0 1 dX12_startOf_10 rfl rfl ?_
    refine xw_getR (pc := 11) (f := 14) C0 202 kcX12 dX12_startOf_11 (by decide +kernel) tv_1275 (xj_200 hKL) xk_0 rfl ((rfl).trans (xe_200_14 hG)) ?_
    refine xw_bipush (pc := 14) C0 dX12_startOf_14 (by decide +kernel) ?_
    refine xw_iload_n (pc := 16) C0 2 dX12_startOf_16 rfl rfl ?_
    refine xw_iadd (pc := 17) C0 dX12_startOf_17 ?_
    refine xw_nI (pc := 18) (congrArg Int32.ofInt (show 9 + (T : Int) = ((9 + T : Nat) : Int) by omega)) ?_
    obtain ⟨lo2, hi2, rl2, bl2, bh2⟩ := hx_n379 ⟨9 + T, by omega⟩
    refine xw_iald (pc := 18) (z := v (9 + T)) C0 dX12_startOf_18 (xj_202 hKL) xk_1 (by omega) (by decide +kernel) rl2 (hN (9 + T) (by omega)) (fun g2 k2 => ?_)
    refine xw_istore_n (pc := 19) (L' := [(3, .int (Int32.ofInt (v (9 + T)))), (2, .int (Int32.ofInt (v (15 + T)))), (0, .ref (xw_ad al 200)), (1, .int (Int32.ofInt (T : Int)))]) C0 dX12_startOf_19 rfl (by decide +kernel) rfl ?_
    refine xw_iload_n (pc := 20) C0 1 dX12_startOf_20 rfl rfl ?_
    refine xw_iconst (pc := 21) C0 dX12_startOf_21 ?_
    refine xw_icmp_ne (pc := 22) (tgt := 27) C0 (by omega) (by omega) dX12_startOf_22 rfl (fun b3 => ?_) (fun b3 => ?_)
    · refine xw_aload_n (pc := 27) C0 2 dX12_startOf_27 rfl rfl ?_
      refine xw_iload_n (pc := 28) C0 1 dX12_startOf_28 rfl rfl ?_
      obtain ⟨b, hB⟩ : ∃ b : Nat, v (15 + T) = (b : Int) := ⟨(v (15 + T)).toNat, by omega⟩
      have r0 := (hx_rtN hK hT).2 b hB
      have r1 := hx_rtB (T := b) hK (by omega)
      refine xw_nI (congrArg Int32.ofInt hB) ?_
      refine xw_pk [0, 1, 2, 3] (L' := [(3, .int (Int32.ofInt (v (9 + T)))), (2, .int (Int32.ofInt (b : Int))), (0, .ref (xw_ad al 200)), (1, .int (Int32.ofInt (T : Int)))]) (by rw [hB]; try rfl) ?_
      refine xw_callVI (pc := 29) (μ := μ) (ci := 12) (rest := []) (As := [.int (Int32.ofInt (b : Int))]) C0 hU hO sa_Tg hKL (xr_so0 (l := l) (v := v) (nm := nm) (T := b) (μ := μ) hG hK hN (by omega) (by omega)) tv_1696 dX12_startOf_29 tv_1693 tv_1695 tq_X12_startOf tv_13 rfl yb_X12_startOf (by decide +kernel) rfl rfl rfl (by decide +kernel) (Nat.le_of_ble_eq_true rfl) (xj_200 hKL) xk_0 (fun r4 m4 w4 => ?_)
      obtain ⟨rfl, w4⟩ := w4
      have q6 := hK.2.2.2.2.1 b (by omega) (by omega)
      have q5 := q6.1
      have q4 := q6.2.1
      clear q6
      refine xw_aload_n (pc := 32) C0 2 dX12_startOf_32 rfl rfl ?_
      refine xw_getR (pc := 33) (f := 14) C0 202 kcX12 dX12_startOf_33 (by decide +kernel) tv_1275 (xj_200 hKL) xk_0 rfl ((rfl).trans (xe_200_14 hG)) ?_
      refine xw_iconst (pc := 36) C0 dX12_startOf_36 ?_
      refine xw_iload_n (pc := 37) C0 1 dX12_startOf_37 rfl rfl ?_
      refine xw_iadd (pc := 38) C0 dX12_startOf_38 ?_
      refine xw_nI (pc := 39) (congrArg Int32.ofInt (show 3 + (b : Int) = ((3 + b : Nat) : Int) by omega)) ?_
      obtain ⟨lo5, hi5, rl5, bl5, bh5⟩ := hx_n379 ⟨3 + b, by omega⟩
      refine xw_iald (pc := 39) (z := v (3 + b)) C0 dX12_startOf_39 (xj_202 hKL) xk_1 (by omega) (by decide +kernel) rl5 (hN (3 + b) (by omega)) (fun g5 k5 => ?_)
      refine xw_iadd (pc := 40) C0 dX12_startOf_40 ?_
      refine xw_aload_n (pc := 41) C0 2 dX12_startOf_41 rfl rfl ?_
      refine xw_getR (pc := 42) (f := 14) C0 202 kcX12 dX12_startOf_42 (by decide +kernel) tv_1275 (xj_200 hKL) xk_0 rfl ((rfl).trans (xe_200_14 hG)) ?_
      refine xw_iconst (pc := 45) C0 dX12_startOf_45 ?_
      refine xw_iload_n (pc := 46) C0 3 dX12_startOf_46 rfl rfl ?_
      refine xw_iadd (pc := 47) C0 dX12_startOf_47 ?_
      refine xw_nI (pc := 48) (congrArg Int32.ofInt (show 3 + (T : Int) = ((3 + T : Nat) : Int) by omega)) ?_
      obtain ⟨lo6, hi6, rl6, bl6, bh6⟩ := hx_n379 ⟨3 + T, by omega⟩
      refine xw_iald (pc := 48) (z := v (3 + T)) C0 dX12_startOf_48 (xj_202 hKL) xk_1 (by omega) (by decide +kernel) rl6 (hN (3 + T) (by omega)) (fun g6 k6 => ?_)
      refine xw_isub (pc := 49) C0 dX12_startOf_49 ?_
      refine xw_istore (pc := 50) (L' := [(4, .int (Int32.ofInt ((r4 + (v (3 + b))) - (v (3 + T))))), (3, .int (Int32.ofInt (v (9 + T)))), (2, .int (Int32.ofInt (b : Int))), (0, .ref (xw_ad al 200)), (1, .int (Int32.ofInt (T : Int)))]) C0 dX12_startOf_50 (by decide +kernel) rfl ?_
      refine xw_iload_n (pc := 52) C0 1 dX12_startOf_52 rfl rfl ?_
      refine xw_iload (pc := 53) C0 0 dX12_startOf_53 rfl ?_
      refine xw_icmp_le (pc := 55) (tgt := 62) C0 (by omega) (by omega) dX12_startOf_55 rfl (fun b7 => ?_) (fun b7 => ?_)
      · refine xw_iload (pc := 62) C0 0 dX12_startOf_62 rfl ?_
        refine xw_iret C0 hA hr hlk rfl dX12_startOf_64 ?_
        unfold hx_m at r0
        refine ⟨_, rfl, rfl, ?_⟩
        split at r0 <;> omega
      · refine xw_iload_n (pc := 58) C0 1 dX12_startOf_58 rfl rfl ?_
        refine xw_goto (pc := 59) (tgt := 64) C0 dX12_startOf_59 rfl ?_
        refine xw_iret C0 hA hr hlk rfl dX12_startOf_64 ?_
        unfold hx_m at r0
        refine ⟨_, rfl, rfl, ?_⟩
        split at r0 <;> omega
    · refine xw_iload_n (pc := 25) C0 0 dX12_startOf_25 rfl rfl ?_
      refine xw_iret C0 hA hr hlk rfl dX12_startOf_26 ?_
      have r0 := (hx_rtN hK hT).1 (by omega)
      exact ⟨_, rfl, rfl, by omega⟩)
