set_option maxRecDepth 20000 in
set_option maxHeartbeats 20000000 in
theorem xh_readRun {l : Launch} {t : Nat → Int} {n lim f9 : Nat} {μ : xw_M} (hS : hc_S t n lim μ) (hf : f9 < n) : xw_MetV l vwCl sa_Ts tb_KT0 tc_KL yX6_readRun cX6_readRun 5 none 3 142 (fun ad => [.ref (ad 104), .int (Int32.ofInt (f9 : Int))]) μ (fun μ' => ∃ k : Nat, f9 + k = hp_e t n f9 ∧ μ' 104 4 = ((f9 + k : Nat) : Int) ∧ μ' 104 2 = hp_rk t f9 k ∧ (hp_rk t f9 k = 2 → μ' 104 5 = hp_cv (hp_lr t f9 k) ∧ μ' 104 6 = hp_kw (hp_lr t f9 k)) ∧ (hp_rk t f9 k = 3 → μ' 104 7 = hp_nf t f9 k) ∧ (¬ hp_rk t f9 k = 2 → μ' 104 6 = μ 104 6) ∧ xw_F [(104, 2, 2), (104, 4, 7)] μ μ') :=
  xw_of (by decide) (fun _ => Nat.le_of_ble_eq_true rfl) (fun p e s m args below meth c D dA A al w0 sz C0 hU hO hKL hr hlk hA => by
    have n_μ := hS.2.2.1
    have l_μ := hS.2.2.2.2.1
    have b_μ := hS.2.2.2.2.2
    refine xw_iload_n (pc := 0) C0 1 dX6_readRun_0 rfl rfl ?_
    refine xw_istore_n (pc := 1) (L' := [(2, .int (Int32.ofInt (f9 : Int))), (0, .ref (xw_ad al 104)), (1, .int (Int32.ofInt (f9 : Int)))]) C0 dX6_readRun_1 rfl (by decide) rfl ?_
    refine xw_iconst (pc := 2) C0 dX6_readRun_2 ?_
    refine xw_istore_n (pc := 3) (L' := [(3, .int (Int32.ofInt 0)), (2, .int (Int32.ofInt (f9 : Int))), (0, .ref (xw_ad al 104)), (1, .int (Int32.ofInt (f9 : Int)))]) C0 dX6_readRun_3 rfl (by decide) rfl ?_
    refine xw_aload_n (pc := 4) C0 2 dX6_readRun_4 rfl rfl ?_
    refine xw_lconst (pc := 5) (z := 0) C0 dX6_readRun_5 (by decide) ?_
    refine xw_putL (pc := 6) (f := 5) C0 kcX6 dX6_readRun_6 (by decide) tv_294 rfl rfl (xj_104 hKL) xk_17 rfl (by omega) (by omega) ?_
    refine xw_aload_n (pc := 9) C0 2 dX6_readRun_9 rfl rfl ?_
    refine xw_iconst (pc := 10) C0 dX6_readRun_10 ?_
    refine xw_putI (pc := 11) (f := 7) C0 kcX6 dX6_readRun_11 (by decide) tv_300 rfl rfl (xj_104 hKL) xk_17 rfl (by omega) (by omega) ?_
    have Fz1 : xw_F [(104, 5, 5), (104, 7, 7)] μ (xw_u (xw_u μ 104 5 0) 104 7 0) := (((xw_F.rf (ML := [(104, 5, 5), (104, 7, 7)])).u (show (104, 5, 5) ∈ _ by decide) ⟨by decide, by decide⟩).u (show (104, 7, 7) ∈ _ by decide) ⟨by decide, by decide⟩)
    have vz1_104_5 : (xw_u (xw_u μ 104 5 0) 104 7 0) 104 5 = 0 := (xw_un (by decide)).trans xw_ug
    have vz1_104_7 : (xw_u (xw_u μ 104 5 0) 104 7 0) 104 7 = 0 := xw_ug
    generalize (xw_u (xw_u μ 104 5 0) 104 7 0) = z1 at Fz1 vz1_104_5 vz1_104_7 ⊢
    have hS_z1 := hc_SF hS Fz1 (by decide)
    have n_z1 := hS_z1.2.2.1
    have l_z1 := hS_z1.2.2.2.2.1
    have b_z1 := hS_z1.2.2.2.2.2
    have e0 : (f9 : Int) = ((f9 + 0 : Nat) : Int) := by omega
    refine xw_pk [1, 0, 2, 3] (L' := [(2, .int (Int32.ofInt ((f9 + 0 : Nat) : Int))), (3, .int (Int32.ofInt ((0 : Nat) : Int))), (0, .ref (xw_ad al 104)), (1, .int (Int32.ofInt (f9 : Int)))]) rfl ?_
    refine xh_rrL (μ := z1) C0 hU hO hKL (fun k d ν hk hkn hd hlt hvl hF hS_ν => ?_) 2000 0 0 z1 (by omega) (by omega) rfl rfl (fun _ _ => vz1_104_5) (fun _ _ => vz1_104_7) xw_F.rf hS_z1
    have n_ν := hS_ν.2.2.1
    have hdl := hp_dgle (t := t) (i := f9) k
    have hFz : xw_F [(104, 5, 5), (104, 7, 7)] μ ν := Fz1.tr hF (fun j i h => h)
    refine xw_aload_n (pc := 112) C0 2 dX6_readRun_112 rfl rfl ?_
    refine xw_iload_n (pc := 113) C0 0 dX6_readRun_113 rfl rfl ?_
    refine xw_putI (pc := 114) (f := 4) C0 kcX6 dX6_readRun_114 (by decide) tv_292 rfl rfl (xj_104 hKL) xk_17 rfl (by omega) (by omega) ?_
    refine xw_iload_n (pc := 117) C0 0 dX6_readRun_117 rfl rfl ?_
    refine xw_iload_n (pc := 118) C0 3 dX6_readRun_118 rfl rfl ?_
    refine xw_isub (pc := 119) C0 dX6_readRun_119 ?_
    refine xw_istore (pc := 120) (L' := [(4, .int (Int32.ofInt (((f9 + k : Nat) : Int) - (f9 : Int)))), (2, .int (Int32.ofInt ((f9 + k : Nat) : Int))), (3, .int (Int32.ofInt (d : Int))), (0, .ref (xw_ad al 104)), (1, .int (Int32.ofInt (f9 : Int)))]) C0 dX6_readRun_120 (by decide) rfl ?_
    refine xw_aload_n (pc := 122) C0 3 dX6_readRun_122 rfl rfl ?_
    refine xw_iconst (pc := 123) C0 dX6_readRun_123 ?_
    refine xw_putI (pc := 124) (f := 2) C0 kcX6 dX6_readRun_124 (by decide) tv_290 rfl rfl (xj_104 hKL) xk_17 rfl (by omega) (by omega) ?_
    refine xw_iload_n (pc := 127) C0 2 dX6_readRun_127 rfl rfl ?_
    refine xw_iload (pc := 128) C0 0 dX6_readRun_128 rfl ?_
    refine xw_icmp_ne (pc := 130) (tgt := 147) C0 (by omega) (by omega) dX6_readRun_130 rfl (fun b301 => ?_) (fun b301 => ?_)
    · refine xw_iload_n (pc := 147) C0 2 dX6_readRun_147 rfl rfl ?_
      refine xw_if_ne (pc := 148) (tgt := 174) C0 (by omega) dX6_readRun_148 rfl (fun b302 => ?_) (fun b302 => ?_)
      · refine xw_vret C0 hA hr hlk dX6_readRun_174 ?_
        have sK : hp_rk t f9 k = 1 := by
          unfold hp_rk; rw [if_neg (by omega), if_neg (by omega)]
        refine ⟨rfl, k, hk, ((xw_un (by decide)).trans xw_ug), (xw_ug).trans sK.symm, fun q9 => ?_, fun q9 => ?_, fun q9 => ?_, ((hFz.mono (fun j i h => xw_o_sub (by decide) j i h)).tr (((xw_F.rf (ML := [(104, 2, 2), (104, 4, 7)])).u (show (104, 4, 7) ∈ _ by decide) ⟨by decide, by decide⟩).u (show (104, 2, 2) ∈ _ by decide) ⟨by decide, by decide⟩) (fun j i h => h))⟩
        · exfalso; omega
        · exfalso; omega
        · exact ((xw_un (by decide)).trans ((xw_un (by decide)).trans rfl)).trans ((hFz 104 6 rfl))
      · refine xw_iload (pc := 151) C0 0 dX6_readRun_151 rfl ?_
        refine xw_bipush (pc := 153) C0 dX6_readRun_153 (by decide) ?_
        refine xw_icmp_gt (pc := 155) (tgt := 174) C0 (by omega) (by omega) dX6_readRun_155 rfl (fun b303 => ?_) (fun b303 => ?_)
        · refine xw_vret C0 hA hr hlk dX6_readRun_174 ?_
          have sK : hp_rk t f9 k = 1 := by
            unfold hp_rk; rw [if_neg (by omega), if_neg (by omega)]
          refine ⟨rfl, k, hk, ((xw_un (by decide)).trans xw_ug), (xw_ug).trans sK.symm, fun q9 => ?_, fun q9 => ?_, fun q9 => ?_, ((hFz.mono (fun j i h => xw_o_sub (by decide) j i h)).tr (((xw_F.rf (ML := [(104, 2, 2), (104, 4, 7)])).u (show (104, 4, 7) ∈ _ by decide) ⟨by decide, by decide⟩).u (show (104, 2, 2) ∈ _ by decide) ⟨by decide, by decide⟩) (fun j i h => h))⟩
          · exfalso; omega
          · exfalso; omega
          · exact ((xw_un (by decide)).trans ((xw_un (by decide)).trans rfl)).trans ((hFz 104 6 rfl))
        · refine xw_aload_n (pc := 158) C0 3 dX6_readRun_158 rfl rfl ?_
          refine xw_iconst (pc := 159) C0 dX6_readRun_159 ?_
          refine xw_putI (pc := 160) (f := 2) C0 kcX6 dX6_readRun_160 (by decide) tv_290 rfl rfl (xj_104 hKL) xk_17 rfl (by omega) (by omega) ?_
          rw [xw_uu]
          refine xw_aload_n (pc := 163) C0 3 dX6_readRun_163 rfl rfl ?_
          refine xw_aload_n (pc := 164) C0 3 dX6_readRun_164 rfl rfl ?_
          refine xw_getL (pc := 165) (f := 5) (z := ν 104 5) C0 kcX6 dX6_readRun_165 (by decide) tv_294 (xj_104 hKL) xk_17 rfl ((xw_un (by decide)).trans ((xw_un (by decide)).trans rfl)) (fun g304 k304 => ?_)
          refine xw_callSI (pc := 168) (μ := (xw_u (xw_u ν 104 4 ((f9 + k : Nat) : Int)) 104 2 2)) (rest := [.ref (xw_ad al 104)]) (As := [.long (Int64.ofInt (ν 104 5))]) C0 hU hO sa_Tg hKL (xh_keywordOf (l := l) (z := ν 104 5) (by omega)) tv_529 dX6_readRun_168 tv_527 tv_528 tv_9 yb_X6_keywordOf (by decide) rfl rfl rfl (by decide) (Nat.le_of_ble_eq_true rfl) (fun r305 m305 w305 => ?_)
          obtain ⟨rfl, w305⟩ := w305
          have u305 := hp_ixb hp_KC (ν 104 5) 0
          have u305 : -1 ≤ r305 ∧ r305 ≤ 19 := by rw [w305]; have e9 : hp_KC.length = 20 := rfl; omega
          refine xw_putI (pc := 171) (f := 6) C0 kcX6 dX6_readRun_171 (by decide) tv_299 rfl rfl (xj_104 hKL) xk_17 rfl (by omega) (by omega) ?_
          refine xw_vret C0 hA hr hlk dX6_readRun_174 ?_
          have sK : hp_rk t f9 k = 2 := by
            unfold hp_rk; rw [if_neg (by omega), if_pos ⟨by omega, by omega⟩]
          refine ⟨rfl, k, hk, ((xw_un (by decide)).trans ((xw_un (by decide)).trans xw_ug)), ((xw_un (by decide)).trans xw_ug).trans sK.symm, fun q9 => ?_, fun q9 => ?_, fun q9 => ?_, ((hFz.mono (fun j i h => xw_o_sub (by decide) j i h)).tr ((((xw_F.rf (ML := [(104, 2, 2), (104, 4, 7)])).u (show (104, 4, 7) ∈ _ by decide) ⟨by decide, by decide⟩).u (show (104, 2, 2) ∈ _ by decide) ⟨by decide, by decide⟩).u (show (104, 4, 7) ∈ _ by decide) ⟨by decide, by decide⟩) (fun j i h => h))⟩
          · have a1 := hlt (by omega) (by omega)
            refine ⟨((xw_un (by decide)).trans ((xw_un (by decide)).trans ((xw_un (by decide)).trans rfl))).trans a1, (xw_ug).trans ?_⟩
            rw [w305, a1]
            exact hp_kwc (hp_lrb7 (by omega) (fun q hq => by
              have a3 := hp_erun (t := t) (n := n) (p := f9) (q := f9 + q) (by omega) (by omega)
              have a4 := hp_dg0a (t := t) (i := f9) k (by omega) q hq
              omega))
          · exfalso; omega
          · exfalso; omega
    · refine xw_iload (pc := 133) C0 0 dX6_readRun_133 rfl ?_
      refine xw_iconst (pc := 135) C0 dX6_readRun_135 ?_
      refine xw_icmp_gt (pc := 136) (tgt := 147) C0 (by omega) (by omega) dX6_readRun_136 rfl (fun b306 => ?_) (fun b306 => ?_)
      · refine xw_iload_n (pc := 147) C0 2 dX6_readRun_147 rfl rfl ?_
        refine xw_if_ne (pc := 148) (tgt := 174) C0 (by omega) dX6_readRun_148 rfl (fun b307 => ?_) (fun b307 => ?_)
        · refine xw_vret C0 hA hr hlk dX6_readRun_174 ?_
          have sK : hp_rk t f9 k = 1 := by
            unfold hp_rk; rw [if_neg (by omega), if_neg (by omega)]
          refine ⟨rfl, k, hk, ((xw_un (by decide)).trans xw_ug), (xw_ug).trans sK.symm, fun q9 => ?_, fun q9 => ?_, fun q9 => ?_, ((hFz.mono (fun j i h => xw_o_sub (by decide) j i h)).tr (((xw_F.rf (ML := [(104, 2, 2), (104, 4, 7)])).u (show (104, 4, 7) ∈ _ by decide) ⟨by decide, by decide⟩).u (show (104, 2, 2) ∈ _ by decide) ⟨by decide, by decide⟩) (fun j i h => h))⟩
          · exfalso; omega
          · exfalso; omega
          · exact ((xw_un (by decide)).trans ((xw_un (by decide)).trans rfl)).trans ((hFz 104 6 rfl))
        · refine xw_iload (pc := 151) C0 0 dX6_readRun_151 rfl ?_
          refine xw_bipush (pc := 153) C0 dX6_readRun_153 (by decide) ?_
          refine xw_icmp_gt (pc := 155) (tgt := 174) C0 (by omega) (by omega) dX6_readRun_155 rfl (fun b308 => ?_) (fun b308 => ?_)
          · refine xw_vret C0 hA hr hlk dX6_readRun_174 ?_
            have sK : hp_rk t f9 k = 1 := by
              unfold hp_rk; rw [if_neg (by omega), if_neg (by omega)]
            refine ⟨rfl, k, hk, ((xw_un (by decide)).trans xw_ug), (xw_ug).trans sK.symm, fun q9 => ?_, fun q9 => ?_, fun q9 => ?_, ((hFz.mono (fun j i h => xw_o_sub (by decide) j i h)).tr (((xw_F.rf (ML := [(104, 2, 2), (104, 4, 7)])).u (show (104, 4, 7) ∈ _ by decide) ⟨by decide, by decide⟩).u (show (104, 2, 2) ∈ _ by decide) ⟨by decide, by decide⟩) (fun j i h => h))⟩
            · exfalso; omega
            · exfalso; omega
            · exact ((xw_un (by decide)).trans ((xw_un (by decide)).trans rfl)).trans ((hFz 104 6 rfl))
          · refine xw_aload_n (pc := 158) C0 3 dX6_readRun_158 rfl rfl ?_
            refine xw_iconst (pc := 159) C0 dX6_readRun_159 ?_
            refine xw_putI (pc := 160) (f := 2) C0 kcX6 dX6_readRun_160 (by decide) tv_290 rfl rfl (xj_104 hKL) xk_17 rfl (by omega) (by omega) ?_
            rw [xw_uu]
            refine xw_aload_n (pc := 163) C0 3 dX6_readRun_163 rfl rfl ?_
            refine xw_aload_n (pc := 164) C0 3 dX6_readRun_164 rfl rfl ?_
            refine xw_getL (pc := 165) (f := 5) (z := ν 104 5) C0 kcX6 dX6_readRun_165 (by decide) tv_294 (xj_104 hKL) xk_17 rfl ((xw_un (by decide)).trans ((xw_un (by decide)).trans rfl)) (fun g309 k309 => ?_)
            refine xw_callSI (pc := 168) (μ := (xw_u (xw_u ν 104 4 ((f9 + k : Nat) : Int)) 104 2 2)) (rest := [.ref (xw_ad al 104)]) (As := [.long (Int64.ofInt (ν 104 5))]) C0 hU hO sa_Tg hKL (xh_keywordOf (l := l) (z := ν 104 5) (by omega)) tv_529 dX6_readRun_168 tv_527 tv_528 tv_9 yb_X6_keywordOf (by decide) rfl rfl rfl (by decide) (Nat.le_of_ble_eq_true rfl) (fun r310 m310 w310 => ?_)
            obtain ⟨rfl, w310⟩ := w310
            have u310 := hp_ixb hp_KC (ν 104 5) 0
            have u310 : -1 ≤ r310 ∧ r310 ≤ 19 := by rw [w310]; have e9 : hp_KC.length = 20 := rfl; omega
            refine xw_putI (pc := 171) (f := 6) C0 kcX6 dX6_readRun_171 (by decide) tv_299 rfl rfl (xj_104 hKL) xk_17 rfl (by omega) (by omega) ?_
            refine xw_vret C0 hA hr hlk dX6_readRun_174 ?_
            have sK : hp_rk t f9 k = 2 := by
              unfold hp_rk; rw [if_neg (by omega), if_pos ⟨by omega, by omega⟩]
            refine ⟨rfl, k, hk, ((xw_un (by decide)).trans ((xw_un (by decide)).trans xw_ug)), ((xw_un (by decide)).trans xw_ug).trans sK.symm, fun q9 => ?_, fun q9 => ?_, fun q9 => ?_, ((hFz.mono (fun j i h => xw_o_sub (by decide) j i h)).tr ((((xw_F.rf (ML := [(104, 2, 2), (104, 4, 7)])).u (show (104, 4, 7) ∈ _ by decide) ⟨by decide, by decide⟩).u (show (104, 2, 2) ∈ _ by decide) ⟨by decide, by decide⟩).u (show (104, 4, 7) ∈ _ by decide) ⟨by decide, by decide⟩) (fun j i h => h))⟩
            · have a1 := hlt (by omega) (by omega)
              refine ⟨((xw_un (by decide)).trans ((xw_un (by decide)).trans ((xw_un (by decide)).trans rfl))).trans a1, (xw_ug).trans ?_⟩
              rw [w310, a1]
              exact hp_kwc (hp_lrb7 (by omega) (fun q hq => by
                have a3 := hp_erun (t := t) (n := n) (p := f9) (q := f9 + q) (by omega) (by omega)
                have a4 := hp_dg0a (t := t) (i := f9) k (by omega) q hq
                omega))
            · exfalso; omega
            · exfalso; omega
      · refine xw_aload_n (pc := 139) C0 3 dX6_readRun_139 rfl rfl ?_
        refine xw_iconst (pc := 140) C0 dX6_readRun_140 ?_
        refine xw_putI (pc := 141) (f := 2) C0 kcX6 dX6_readRun_141 (by decide) tv_290 rfl rfl (xj_104 hKL) xk_17 rfl (by omega) (by omega) ?_
        rw [xw_uu]
        refine xw_goto (pc := 144) (tgt := 174) C0 dX6_readRun_144 rfl ?_
        refine xw_vret C0 hA hr hlk dX6_readRun_174 ?_
        have sK : hp_rk t f9 k = 3 := by
          exact if_pos ⟨by omega, by omega⟩
        refine ⟨rfl, k, hk, ((xw_un (by decide)).trans xw_ug), (xw_ug).trans sK.symm, fun q9 => ?_, fun q9 => ?_, fun q9 => ?_, ((hFz.mono (fun j i h => xw_o_sub (by decide) j i h)).tr (((xw_F.rf (ML := [(104, 2, 2), (104, 4, 7)])).u (show (104, 4, 7) ∈ _ by decide) ⟨by decide, by decide⟩).u (show (104, 2, 2) ∈ _ by decide) ⟨by decide, by decide⟩) (fun j i h => h))⟩
        · exfalso; omega
        · exact ((xw_un (by decide)).trans ((xw_un (by decide)).trans rfl)).trans (hvl (by omega) (by omega))
        · exact ((xw_un (by decide)).trans ((xw_un (by decide)).trans rfl)).trans ((hFz 104 6 rfl)))
set_option maxRecDepth 20000 in
set_option maxHeartbeats 20000000 in
theorem xh_stL {l : Launch} {p : Program} {e : Env} {s : State} {m : MethodId} {args : Array Value} {below : List Frame} {meth : Method} {c : Code} {Q : State → Prop} {D : va_G} {dA : Nat → ClassId} {A : Nat → Prop} {al : List (Nat × Nat)} (C0 : sa_C p s m args c D dA A 2 vwCl sa_Ts cX6_step yX6_step.cls) (hU : sa_U D vwCl dA s) (hO : tb_Ou A s s.heap) (hKL : al.map Prod.snd = tc_KL) {t : Nat → Int} {n lim q : Nat} {μ : xw_M} (hS : hc_S t n lim μ) (kx : xw_W p l e { frames := 4, cells := 0, slots := 0, locals := 166 } s m args below meth c Q D dA A 2 vwCl tb_KT0 al 0 0 μ 36 [(1, .int (Int32.ofInt (q : Int))), (0, .ref (xw_ad al 104))] []) : ∀ (fu9 : Nat) (i : Nat), (n : Int) - (i : Int) < (fu9 : Int) → i ≤ n → hp_i t n i = q → xw_W p l e { frames := 4, cells := 0, slots := 0, locals := 166 } s m args below meth c Q D dA A 2 vwCl tb_KT0 al 0 0 μ 5 [(1, .int (Int32.ofInt (i : Int))), (0, .ref (xw_ad al 104))] [] := by
  intro fu9
  induction fu9 with
  | zero => intro i hm hi hq; exfalso; omega
  | succ fu9 ih =>
    intro i hm hi hq
    have n_μ := hS.2.2.1
    have l_μ := hS.2.2.2.2.1
    have b_μ := hS.2.2.2.2.2
    refine xw_iload_n (pc := 5) C0 0 dX6_step_5 rfl rfl ?_
    refine xw_aload_n (pc := 6) C0 1 dX6_step_6 rfl rfl ?_
    refine xw_getR (pc := 7) (f := 0) C0 1 kcX6 dX6_step_7 (by decide) tv_285 (xj_104 hKL) xk_17 rfl ((rfl).trans hS.2.2.2.1) ?_
    refine xw_getI (pc := 10) (f := 1) (z := μ 1 1) C0 kcX0 dX6_step_10 (by decide) tv_42 (xj_1 hKL) xk_19 rfl (rfl) (fun g1 k1 => ?_)
    refine xw_icmp_ge (pc := 13) (tgt := 36) C0 (by omega) (by omega) dX6_step_13 rfl (fun b2 => ?_) (fun b2 => ?_)
    · have e9 : q = i := hq.symm.trans (hp_i0 (by omega))
      subst e9
      refine xw_pk [0, 1] (L' := [(1, .int (Int32.ofInt (q : Int))), (0, .ref (xw_ad al 104))]) rfl ?_
      exact kx
    · refine xw_aload_n (pc := 16) C0 1 dX6_step_16 rfl rfl ?_
      refine xw_getR (pc := 17) (f := 0) C0 1 kcX6 dX6_step_17 (by decide) tv_285 (xj_104 hKL) xk_17 rfl ((rfl).trans hS.2.2.2.1) ?_
      refine xw_iload_n (pc := 20) C0 0 dX6_step_20 rfl rfl ?_
      refine xw_callVI (pc := 21) (μ := μ) (ci := 0) (rest := []) (As := [.int (Int32.ofInt (i : Int))]) C0 hU hO sa_Tg hKL (xm_at (l := l) (i := (i : Int)) (by omega) hS.1) tv_513 dX6_step_21 tv_510 tv_511 tv_512 tv_2 rfl yb_X0_at (by decide) rfl rfl rfl (by decide) (Nat.le_of_ble_eq_true rfl) (xj_1 hKL) xk_19 (fun r3 m3 w3 => ?_)
      obtain ⟨rfl, w3⟩ := w3
      have v3 : r3 = t (i) := w3.elim (fun q => q.2.2.trans (hS.2.1 _)) (fun q => absurd ⟨by omega, by omega⟩ q.1)
      have u3 : 0 ≤ t (i) ∧ t (i) ≤ 255 := by rw [← hS.2.1 (i)]; omega
      subst v3
      refine xw_callSI (pc := 24) (μ := μ) (rest := []) (As := [.int (Int32.ofInt (t (i)))]) C0 hU hO sa_Tg hKL (xh_isBlank (l := l) (v := t (i)) (by omega)) tv_516 dX6_step_24 tv_514 tv_515 tv_9 yb_X6_isBlank (by decide) rfl rfl rfl (by decide) (Nat.le_of_ble_eq_true rfl) (fun r4 m4 w4 => ?_)
      obtain ⟨rfl, w4⟩ := w4
      rcases w4 with ⟨w4, rfl⟩ | ⟨w4, rfl⟩
      · refine xw_if_eq (pc := 27) (tgt := 36) C0 (by omega) dX6_step_27 rfl (fun b5 => ?_) (fun b5 => ?_)
        · exfalso
          omega
        · refine xw_iinc (pc := 30) (L' := [(1, .int (Int32.ofInt ((i : Int) + 1))), (0, .ref (xw_ad al 104))]) C0 0 dX6_step_30 rfl (by decide) rfl ?_
          refine xw_goto (pc := 33) (tgt := 5) C0 dX6_step_33 rfl ?_
          have e1 : (i : Int) + 1 = ((i + 1 : Nat) : Int) := by omega
          rw [e1]
          refine xw_pk [0, 1] (L' := [(1, .int (Int32.ofInt ((i + 1 : Nat) : Int))), (0, .ref (xw_ad al 104))]) rfl ?_
          exact ih (i + 1) (by omega) (by omega) ((hp_i1 (by omega) (by omega)).symm.trans hq)
      · refine xw_if_eq (pc := 27) (tgt := 36) C0 (by omega) dX6_step_27 rfl (fun b6 => ?_) (fun b6 => ?_)
        · have e9 : q = i := hq.symm.trans (hp_i0 (by omega))
          subst e9
          refine xw_pk [0, 1] (L' := [(1, .int (Int32.ofInt (q : Int))), (0, .ref (xw_ad al 104))]) rfl ?_
          exact kx
        · exfalso
          omega
