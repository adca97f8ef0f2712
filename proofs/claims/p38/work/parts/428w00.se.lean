/-! the class's reader: its text, what it has read -/
noncomputable def hd_S (t : Nat → Int) (n lim : Nat) (μ : xw_M) : Prop := xw_G xw_GL μ ∧ (∀ i : Nat, μ 2 i % 256 = t i) ∧ μ 1 1 = (n : Int) ∧ μ 129 0 = ((1 : Nat) : Int) ∧ μ 129 1 = (lim : Int) ∧ n ≤ 940 ∧ lim ≤ 900
noncomputable def hd_dj (ML : List (Nat × Nat × Nat)) : Bool := xw_GL.all (fun q => xw_o ML q.1 q.2.1) && (ML.all (fun q => !(Nat.beq q.1 2)) && (xw_o ML 1 1 && (xw_o ML 129 0 && xw_o ML 129 1)))
theorem hd_SF {t : Nat → Int} {n lim : Nat} {ML : List (Nat × Nat × Nat)} {μ μ' : xw_M} (h : hd_S t n lim μ) (hF : xw_F ML μ μ') (hd : hd_dj ML = true) : hd_S t n lim μ' := by
  unfold hd_dj at hd
  simp only [Bool.and_eq_true] at hd
  obtain ⟨d1, d2, d3, d4, d5⟩ := hd
  obtain ⟨h1, h2, h3, h4, h5, h6⟩ := h
  exact ⟨xw_GF h1 hF d1, fun i => by rw [hF 2 i (xw_oj d2 i)]; exact h2 i, (hF _ _ d3).trans h3, (hF _ _ d4).trans h4, (hF _ _ d5).trans h5, h6⟩
noncomputable def hd_T (t : Nat → Int) (n lim pz : Nat) (μ : xw_M) : Prop := pz ≤ n ∧ μ 129 2 = hp_k t n lim pz ∧ μ 129 3 = ((hp_pl t n lim pz : Nat) : Int) ∧ (hp_k t n lim pz = 2 → μ 129 5 = hp_cv (hp_w t n pz) ∧ μ 129 6 = hp_kw (hp_w t n pz)) ∧ (¬ hp_k t n lim pz = 2 → μ 129 6 = -1) ∧ (hp_k t n lim pz = 3 → μ 129 7 = hp_u t n pz) ∧ (hp_k t n lim pz = 4 → μ 129 7 = hp_s t n pz) ∧ (2 ≤ hp_k t n lim pz → μ 129 4 = ((hp_x t n pz : Nat) : Int))
set_option maxRecDepth 20000 in
set_option maxHeartbeats 20000000 in
theorem xd_rrL {l : Launch} {p : Program} {e : Env} {s : State} {m : MethodId} {args : Array Value} {below : List Frame} {meth : Method} {c : Code} {Q : State → Prop} {D : va_G} {dA : Nat → ClassId} {A : Nat → Prop} {al : List (Nat × Nat)} (C0 : sa_C p s m args c D dA A 5 vwCl sa_Ts cX6_readRun yX6_readRun.cls) (hU : sa_U D vwCl dA s) (hO : tb_Ou A s s.heap) (hKL : al.map Prod.snd = tc_KL) {t : Nat → Int} {n lim f9 : Nat} {μ : xw_M} (kx : ∀ (k d : Nat) (ν : xw_M), f9 + k = hp_e t n f9 → f9 + k ≤ n → d = hp_dg t f9 k → (d = 0 → k ≤ 7 → ν 129 5 = hp_cv (hp_lr t f9 k)) → (d = k → k ≤ 3 → ν 129 7 = hp_nf t f9 k) → xw_F [(129, 5, 5), (129, 7, 7)] μ ν → hd_S t n lim ν → xw_W p l e { frames := 3, cells := 0, slots := 0, locals := 142 } s m args below meth c Q D dA A 5 vwCl tb_KT0 al 0 0 ν 112 [(2, .int (Int32.ofInt ((f9 + k : Nat) : Int))), (3, .int (Int32.ofInt (d : Int))), (0, .ref (xw_ad al 129)), (1, .int (Int32.ofInt (f9 : Int)))] []) : ∀ (fu9 : Nat) (k d : Nat) (ν : xw_M), (n : Int) - ((f9 + k : Nat) : Int) < (fu9 : Int) → f9 + k ≤ n → hp_e t n (f9 + k) = hp_e t n f9 → d = hp_dg t f9 k → (d = 0 → k ≤ 7 → ν 129 5 = hp_cv (hp_lr t f9 k)) → (d = k → k ≤ 3 → ν 129 7 = hp_nf t f9 k) → xw_F [(129, 5, 5), (129, 7, 7)] μ ν → hd_S t n lim ν → xw_W p l e { frames := 3, cells := 0, slots := 0, locals := 142 } s m args below meth c Q D dA A 5 vwCl tb_KT0 al 0 0 ν 14 [(2, .int (Int32.ofInt ((f9 + k : Nat) : Int))), (3, .int (Int32.ofInt (d : Int))), (0, .ref (xw_ad al 129)), (1, .int (Int32.ofInt (f9 : Int)))] [] := by
  intro fu9
  induction fu9 with
  | zero => intro k d ν hm hk he hd hlt hvl hF hS_ν; exfalso; omega
  | succ fu9 ih =>
    intro k d ν hm hk he hd hlt hvl hF hS_ν
    have n_ν := hS_ν.2.2.1
    have l_ν := hS_ν.2.2.2.2.1
    have b_ν := hS_ν.2.2.2.2.2
    have hdl := hp_dgle (t := t) (i := f9) k
    refine xw_iload_n (pc := 14) C0 0 dX6_readRun_14 rfl rfl ?_
    refine xw_aload_n (pc := 15) C0 2 dX6_readRun_15 rfl rfl ?_
    refine xw_getR (pc := 16) (f := 0) C0 1 kcX6 dX6_readRun_16 (by decide +kernel) tv_285 (xj_129 hKL) xk_17 rfl ((rfl).trans hS_ν.2.2.2.1) ?_
    refine xw_getI (pc := 19) (f := 1) (z := ν 1 1) C0 kcX0 dX6_readRun_19 (by decide +kernel) tv_42 (xj_1 hKL) xk_19 rfl (rfl) (fun g1 k1 => ?_)
    refine xw_icmp_ge (pc := 22) (tgt := 112) C0 (by omega) (by omega) dX6_readRun_22 rfl (fun b2 => ?_) (fun b2 => ?_)
    · have e9 : hp_e t n (f9 + k) = f9 + k := hp_e0 (by omega)
      refine xw_pk [0, 1, 2, 3] (L' := [(2, .int (Int32.ofInt ((f9 + k : Nat) : Int))), (3, .int (Int32.ofInt (d : Int))), (0, .ref (xw_ad al 129)), (1, .int (Int32.ofInt (f9 : Int)))]) rfl ?_
      exact kx k d ν (by omega) hk hd hlt hvl hF hS_ν
    · refine xw_aload_n (pc := 25) C0 2 dX6_readRun_25 rfl rfl ?_
      refine xw_getR (pc := 26) (f := 0) C0 1 kcX6 dX6_readRun_26 (by decide +kernel) tv_285 (xj_129 hKL) xk_17 rfl ((rfl).trans hS_ν.2.2.2.1) ?_
      refine xw_iload_n (pc := 29) C0 0 dX6_readRun_29 rfl rfl ?_
      refine xw_callVI (pc := 30) (μ := ν) (ci := 0) (rest := []) (As := [.int (Int32.ofInt ((f9 + k : Nat) : Int))]) C0 hU hO sa_Tg hKL (xm_at (l := l) (i := ((f9 + k : Nat) : Int)) (by omega) hS_ν.1) tv_513 dX6_readRun_30 tv_510 tv_511 tv_512 tv_2 rfl yb_X0_at (by decide +kernel) rfl rfl rfl (by decide +kernel) (Nat.le_of_ble_eq_true rfl) (xj_1 hKL) xk_19 (fun r3 m3 w3 => ?_)
      obtain ⟨rfl, w3⟩ := w3
      have v3 : r3 = t (f9 + k) := w3.elim (fun q => q.2.2.trans (hS_ν.2.1 _)) (fun q => absurd ⟨by omega, by omega⟩ q.1)
      have u3 : 0 ≤ t (f9 + k) ∧ t (f9 + k) ≤ 255 := by rw [← hS_ν.2.1 (f9 + k)]; omega
      subst v3
      refine xw_callSI (pc := 33) (μ := ν) (rest := []) (As := [.int (Int32.ofInt (t (f9 + k)))]) C0 hU hO sa_Tg hKL (xh_isLetter (l := l) (v := t (f9 + k)) (by omega)) tv_519 dX6_readRun_33 tv_517 tv_518 tv_9 yb_X6_isLetter (by decide +kernel) rfl rfl rfl (by decide +kernel) (Nat.le_of_ble_eq_true rfl) (fun r4 m4 w4 => ?_)
      obtain ⟨rfl, w4⟩ := w4
      rcases w4 with ⟨w4, rfl⟩ | ⟨w4, rfl⟩
      · refine xw_if_ne (pc := 36) (tgt := 53) C0 (by omega) dX6_readRun_36 rfl (fun b5 => ?_) (fun b5 => ?_)
        · refine xw_aload_n (pc := 53) C0 2 dX6_readRun_53 rfl rfl ?_
          refine xw_getR (pc := 54) (f := 0) C0 1 kcX6 dX6_readRun_54 (by decide +kernel) tv_285 (xj_129 hKL) xk_17 rfl ((rfl).trans hS_ν.2.2.2.1) ?_
          refine xw_iload_n (pc := 57) C0 0 dX6_readRun_57 rfl rfl ?_
          refine xw_callVI (pc := 58) (μ := ν) (ci := 0) (rest := []) (As := [.int (Int32.ofInt ((f9 + k : Nat) : Int))]) C0 hU hO sa_Tg hKL (xm_at (l := l) (i := ((f9 + k : Nat) : Int)) (by omega) hS_ν.1) tv_513 dX6_readRun_58 tv_510 tv_511 tv_512 tv_2 rfl yb_X0_at (by decide +kernel) rfl rfl rfl (by decide +kernel) (Nat.le_of_ble_eq_true rfl) (xj_1 hKL) xk_19 (fun r6 m6 w6 => ?_)
          obtain ⟨rfl, w6⟩ := w6
          have v6 : r6 = t (f9 + k) := w6.elim (fun q => q.2.2.trans (hS_ν.2.1 _)) (fun q => absurd ⟨by omega, by omega⟩ q.1)
          have u6 : 0 ≤ t (f9 + k) ∧ t (f9 + k) ≤ 255 := by rw [← hS_ν.2.1 (f9 + k)]; omega
          subst v6
          refine xw_istore (pc := 61) (L' := [(4, .int (Int32.ofInt (t (f9 + k)))), (2, .int (Int32.ofInt ((f9 + k : Nat) : Int))), (3, .int (Int32.ofInt (d : Int))), (0, .ref (xw_ad al 129)), (1, .int (Int32.ofInt (f9 : Int)))]) C0 dX6_readRun_61 (by decide +kernel) rfl ?_
          refine xw_aload_n (pc := 63) C0 3 dX6_readRun_63 rfl rfl ?_
          refine xw_aload_n (pc := 64) C0 3 dX6_readRun_64 rfl rfl ?_
          refine xw_getL (pc := 65) (f := 5) (z := ν 129 5) C0 kcX6 dX6_readRun_65 (by decide +kernel) tv_294 (xj_129 hKL) xk_17 rfl (rfl) (fun g7 k7 => ?_)
          refine xw_bipush (pc := 68) C0 dX6_readRun_68 (by decide +kernel) ?_
          obtain ⟨y8, e8, f8, i8⟩ := xb_l8 (ν 129 5)
          refine xw_lshl (pc := 70) C0 dX6_readRun_70 i8 ?_
          refine xw_iload (pc := 71) C0 0 dX6_readRun_71 rfl ?_
          refine xw_i2l (pc := 73) C0 (by omega) dX6_readRun_73 ?_
          obtain ⟨y10, e10, f10, i10⟩ := xb_lor y8 (t (f9 + k))
          refine xw_lor (pc := 74) C0 dX6_readRun_74 i10 ?_
          refine xw_putL (pc := 75) (f := 5) C0 kcX6 dX6_readRun_75 (by decide +kernel) tv_294 rfl rfl (xj_129 hKL) xk_17 rfl (by omega) (by omega) ?_
          refine xw_iload (pc := 78) C0 0 dX6_readRun_78 rfl ?_
          refine xw_callSI (pc := 80) (μ := (xw_u ν 129 5 y10)) (rest := []) (As := [.int (Int32.ofInt (t (f9 + k)))]) C0 hU hO sa_Tg hKL (xh_isDigit (l := l) (v := t (f9 + k)) (by omega)) tv_522 dX6_readRun_80 tv_520 tv_521 tv_9 yb_X6_isDigit (by decide +kernel) rfl rfl rfl (by decide +kernel) (Nat.le_of_ble_eq_true rfl) (fun r11 m11 w11 => ?_)
          obtain ⟨rfl, w11⟩ := w11
          rcases w11 with ⟨w11, rfl⟩ | ⟨w11, rfl⟩
          · exfalso
            omega
          refine xw_if_eq (pc := 83) (tgt := 106) C0 (by omega) dX6_readRun_83 rfl (fun b12 => ?_) (fun b12 => ?_)
          · refine xw_iinc (pc := 106) (L' := [(2, .int (Int32.ofInt (((f9 + k : Nat) : Int) + 1))), (4, .int (Int32.ofInt (t (f9 + k)))), (3, .int (Int32.ofInt (d : Int))), (0, .ref (xw_ad al 129)), (1, .int (Int32.ofInt (f9 : Int)))]) C0 1 dX6_readRun_106 rfl (by decide +kernel) rfl ?_
            refine xw_goto (pc := 109) (tgt := 14) C0 dX6_readRun_109 rfl ?_
            have Ft1 : xw_F [(129, 5, 5), (129, 7, 7)] ν (xw_u ν 129 5 y10) := ((xw_F.rf (ML := [(129, 5, 5), (129, 7, 7)])).u (show (129, 5, 5) ∈ _ by decide) ⟨by decide, by decide⟩)
            have vt1_104_5 : (xw_u ν 129 5 y10) 129 5 = y10 := xw_ug
            have vt1_104_7 : (xw_u ν 129 5 y10) 129 7 = ν 129 7 := (xw_un (by decide +kernel)).trans rfl
            generalize (xw_u ν 129 5 y10) = t1 at Ft1 vt1_104_5 vt1_104_7 ⊢
            have hS_t1 := hd_SF hS_ν Ft1 (by decide +kernel)
            have n_t1 := hS_t1.2.2.1
            have l_t1 := hS_t1.2.2.2.2.1
            have b_t1 := hS_t1.2.2.2.2.2
            have e1 : ((f9 + k : Nat) : Int) + 1 = ((f9 + (k + 1) : Nat) : Int) := by omega
            have e3 := hp_dg0 (t := t) (i := f9) (k := k) (by omega)
            rw [e1]
            refine xw_pk [0, 2, 3, 4] (L' := [(2, .int (Int32.ofInt ((f9 + (k + 1) : Nat) : Int))), (3, .int (Int32.ofInt ((d : Nat) : Int))), (0, .ref (xw_ad al 129)), (1, .int (Int32.ofInt (f9 : Int)))]) rfl ?_
            refine ih (k + 1) (d) t1 (by omega) (by omega) ((hp_e1 (t := t) (n := n) (p := f9 + k) (by omega) (by omega)).symm.trans he) (by omega) (fun q1 q2 => ?_) (fun q1 q2 => ?_) (hF.tr Ft1 (fun j i h => xw_o_sub (by decide +kernel) j i h)) hS_t1
            · have a1 := hlt (by omega) (by omega)
              have a2 := hp_lrb7 (t := t) (i := f9) (k := k) (by omega) (fun q hq => by
                have a3 := hp_erun (t := t) (n := n) (p := f9) (q := f9 + q) (by omega) (by have := hp_eb (t := t) (n := n) (p := f9 + k) (by omega); omega)
                have a4 := hp_dg0a (t := t) (i := f9) k (by omega) q hq
                omega)
              rw [hp_lr1, hp_cvs a2 (by omega)]
              have a5 := hp_cvb (k := k) a2 (by omega) (hp_lrb k (fun q hq => by
                have a3 := hp_erun (t := t) (n := n) (p := f9) (q := f9 + q) (by omega) (by have := hp_eb (t := t) (n := n) (p := f9 + k) (by omega); omega)
                have a4 := hp_dg0a (t := t) (i := f9) k (by omega) q hq
                omega))
              have a6 := f8 (by omega)
              have a7 := f10 _ a6 (by omega) (by omega)
              omega
            · exfalso
              omega
          · exfalso
            omega
        · exfalso
          omega
      · refine xw_if_ne (pc := 36) (tgt := 53) C0 (by omega) dX6_readRun_36 rfl (fun b13 => ?_) (fun b13 => ?_)
        · exfalso
          omega
        · refine xw_aload_n (pc := 39) C0 2 dX6_readRun_39 rfl rfl ?_
          refine xw_getR (pc := 40) (f := 0) C0 1 kcX6 dX6_readRun_40 (by decide +kernel) tv_285 (xj_129 hKL) xk_17 rfl ((rfl).trans hS_ν.2.2.2.1) ?_
          refine xw_iload_n (pc := 43) C0 0 dX6_readRun_43 rfl rfl ?_
          refine xw_callVI (pc := 44) (μ := ν) (ci := 0) (rest := []) (As := [.int (Int32.ofInt ((f9 + k : Nat) : Int))]) C0 hU hO sa_Tg hKL (xm_at (l := l) (i := ((f9 + k : Nat) : Int)) (by omega) hS_ν.1) tv_513 dX6_readRun_44 tv_510 tv_511 tv_512 tv_2 rfl yb_X0_at (by decide +kernel) rfl rfl rfl (by decide +kernel) (Nat.le_of_ble_eq_true rfl) (xj_1 hKL) xk_19 (fun r14 m14 w14 => ?_)
          obtain ⟨rfl, w14⟩ := w14
          have v14 : r14 = t (f9 + k) := w14.elim (fun q => q.2.2.trans (hS_ν.2.1 _)) (fun q => absurd ⟨by omega, by omega⟩ q.1)
          have u14 : 0 ≤ t (f9 + k) ∧ t (f9 + k) ≤ 255 := by rw [← hS_ν.2.1 (f9 + k)]; omega
          subst v14
          refine xw_callSI (pc := 47) (μ := ν) (rest := []) (As := [.int (Int32.ofInt (t (f9 + k)))]) C0 hU hO sa_Tg hKL (xh_isDigit (l := l) (v := t (f9 + k)) (by omega)) tv_522 dX6_readRun_47 tv_520 tv_521 tv_9 yb_X6_isDigit (by decide +kernel) rfl rfl rfl (by decide +kernel) (Nat.le_of_ble_eq_true rfl) (fun r15 m15 w15 => ?_)
          obtain ⟨rfl, w15⟩ := w15
          rcases w15 with ⟨w15, rfl⟩ | ⟨w15, rfl⟩
          · refine xw_if_eq (pc := 50) (tgt := 112) C0 (by omega) dX6_readRun_50 rfl (fun b16 => ?_) (fun b16 => ?_)
            · exfalso
              omega
            · refine xw_aload_n (pc := 53) C0 2 dX6_readRun_53 rfl rfl ?_
              refine xw_getR (pc := 54) (f := 0) C0 1 kcX6 dX6_readRun_54 (by decide +kernel) tv_285 (xj_129 hKL) xk_17 rfl ((rfl).trans hS_ν.2.2.2.1) ?_
              refine xw_iload_n (pc := 57) C0 0 dX6_readRun_57 rfl rfl ?_
              refine xw_callVI (pc := 58) (μ := ν) (ci := 0) (rest := []) (As := [.int (Int32.ofInt ((f9 + k : Nat) : Int))]) C0 hU hO sa_Tg hKL (xm_at (l := l) (i := ((f9 + k : Nat) : Int)) (by omega) hS_ν.1) tv_513 dX6_readRun_58 tv_510 tv_511 tv_512 tv_2 rfl yb_X0_at (by decide +kernel) rfl rfl rfl (by decide +kernel) (Nat.le_of_ble_eq_true rfl) (xj_1 hKL) xk_19 (fun r17 m17 w17 => ?_)
              obtain ⟨rfl, w17⟩ := w17
              have v17 : r17 = t (f9 + k) := w17.elim (fun q => q.2.2.trans (hS_ν.2.1 _)) (fun q => absurd ⟨by omega, by omega⟩ q.1)
              have u17 : 0 ≤ t (f9 + k) ∧ t (f9 + k) ≤ 255 := by rw [← hS_ν.2.1 (f9 + k)]; omega
              subst v17
              refine xw_istore (pc := 61) (L' := [(4, .int (Int32.ofInt (t (f9 + k)))), (2, .int (Int32.ofInt ((f9 + k : Nat) : Int))), (3, .int (Int32.ofInt (d : Int))), (0, .ref (xw_ad al 129)), (1, .int (Int32.ofInt (f9 : Int)))]) C0 dX6_readRun_61 (by decide +kernel) rfl ?_
              refine xw_aload_n (pc := 63) C0 3 dX6_readRun_63 rfl rfl ?_
              refine xw_aload_n (pc := 64) C0 3 dX6_readRun_64 rfl rfl ?_
              refine xw_getL (pc := 65) (f := 5) (z := ν 129 5) C0 kcX6 dX6_readRun_65 (by decide +kernel) tv_294 (xj_129 hKL) xk_17 rfl (rfl) (fun g18 k18 => ?_)
              refine xw_bipush (pc := 68) C0 dX6_readRun_68 (by decide +kernel) ?_
              obtain ⟨y19, e19, f19, i19⟩ := xb_l8 (ν 129 5)
              refine xw_lshl (pc := 70) C0 dX6_readRun_70 i19 ?_
              refine xw_iload (pc := 71) C0 0 dX6_readRun_71 rfl ?_
              refine xw_i2l (pc := 73) C0 (by omega) dX6_readRun_73 ?_
              obtain ⟨y20, e20, f20, i20⟩ := xb_lor y19 (t (f9 + k))
              refine xw_lor (pc := 74) C0 dX6_readRun_74 i20 ?_
              refine xw_putL (pc := 75) (f := 5) C0 kcX6 dX6_readRun_75 (by decide +kernel) tv_294 rfl rfl (xj_129 hKL) xk_17 rfl (by omega) (by omega) ?_
              refine xw_iload (pc := 78) C0 0 dX6_readRun_78 rfl ?_
              refine xw_callSI (pc := 80) (μ := (xw_u ν 129 5 y20)) (rest := []) (As := [.int (Int32.ofInt (t (f9 + k)))]) C0 hU hO sa_Tg hKL (xh_isDigit (l := l) (v := t (f9 + k)) (by omega)) tv_522 dX6_readRun_80 tv_520 tv_521 tv_9 yb_X6_isDigit (by decide +kernel) rfl rfl rfl (by decide +kernel) (Nat.le_of_ble_eq_true rfl) (fun r21 m21 w21 => ?_)
              obtain ⟨rfl, w21⟩ := w21
              rcases w21.symm with ⟨w21, rfl⟩ | ⟨w21, rfl⟩
              · exfalso
                omega
              refine xw_if_eq (pc := 83) (tgt := 106) C0 (by omega) dX6_readRun_83 rfl (fun b22 => ?_) (fun b22 => ?_)
              · exfalso
                omega
              · refine xw_iinc (pc := 86) (L' := [(3, .int (Int32.ofInt ((d : Int) + 1))), (4, .int (Int32.ofInt (t (f9 + k)))), (2, .int (Int32.ofInt ((f9 + k : Nat) : Int))), (0, .ref (xw_ad al 129)), (1, .int (Int32.ofInt (f9 : Int)))]) C0 2 dX6_readRun_86 rfl (by decide +kernel) rfl ?_
                refine xw_aload_n (pc := 89) C0 3 dX6_readRun_89 rfl rfl ?_
                refine xw_aload_n (pc := 90) C0 3 dX6_readRun_90 rfl rfl ?_
                refine xw_getI (pc := 91) (f := 7) (z := ν 129 7) C0 kcX6 dX6_readRun_91 (by decide +kernel) tv_300 (xj_129 hKL) xk_17 rfl ((xw_un (by decide +kernel)).trans rfl) (fun g23 k23 => ?_)
                refine xw_bipush (pc := 94) C0 dX6_readRun_94 (by decide +kernel) ?_
                refine xw_imul (pc := 96) C0 dX6_readRun_96 ?_
                refine xw_iload (pc := 97) C0 1 dX6_readRun_97 rfl ?_
                refine xw_iadd (pc := 99) C0 dX6_readRun_99 ?_
                refine xw_bipush (pc := 100) C0 dX6_readRun_100 (by decide +kernel) ?_
                refine xw_isub (pc := 102) C0 dX6_readRun_102 ?_
                obtain ⟨y24, e24, f24, i24⟩ := xb_wI ((((ν 129 7) * 10) + (t (f9 + k))) - 48)
                refine xw_nI i24 ?_
                refine xw_putI (pc := 103) (f := 7) C0 kcX6 dX6_readRun_103 (by decide +kernel) tv_300 rfl rfl (xj_129 hKL) xk_17 rfl (by omega) (by omega) ?_
                refine xw_iinc (pc := 106) (L' := [(2, .int (Int32.ofInt (((f9 + k : Nat) : Int) + 1))), (3, .int (Int32.ofInt ((d : Int) + 1))), (4, .int (Int32.ofInt (t (f9 + k)))), (0, .ref (xw_ad al 129)), (1, .int (Int32.ofInt (f9 : Int)))]) C0 2 dX6_readRun_106 rfl (by decide +kernel) rfl ?_
                refine xw_goto (pc := 109) (tgt := 14) C0 dX6_readRun_109 rfl ?_
                have Ft2 : xw_F [(129, 5, 5), (129, 7, 7)] ν (xw_u (xw_u ν 129 5 y20) 129 7 y24) := (((xw_F.rf (ML := [(129, 5, 5), (129, 7, 7)])).u (show (129, 5, 5) ∈ _ by decide) ⟨by decide, by decide⟩).u (show (129, 7, 7) ∈ _ by decide) ⟨by decide, by decide⟩)
                have vt2_104_5 : (xw_u (xw_u ν 129 5 y20) 129 7 y24) 129 5 = y20 := (xw_un (by decide +kernel)).trans xw_ug
                have vt2_104_7 : (xw_u (xw_u ν 129 5 y20) 129 7 y24) 129 7 = y24 := xw_ug
                generalize (xw_u (xw_u ν 129 5 y20) 129 7 y24) = t2 at Ft2 vt2_104_5 vt2_104_7 ⊢
                have hS_t2 := hd_SF hS_ν Ft2 (by decide +kernel)
                have n_t2 := hS_t2.2.2.1
                have l_t2 := hS_t2.2.2.2.2.1
                have b_t2 := hS_t2.2.2.2.2.2
                have e1 : ((f9 + k : Nat) : Int) + 1 = ((f9 + (k + 1) : Nat) : Int) := by omega
                have e2 : (d : Int) + 1 = ((d + 1 : Nat) : Int) := by omega
                have e3 := hp_dg1 (t := t) (i := f9) (k := k) (by omega)
                rw [e1, e2]
                refine xw_pk [0, 1, 3, 4] (L' := [(2, .int (Int32.ofInt ((f9 + (k + 1) : Nat) : Int))), (3, .int (Int32.ofInt ((d + 1 : Nat) : Int))), (0, .ref (xw_ad al 129)), (1, .int (Int32.ofInt (f9 : Int)))]) rfl ?_
                refine ih (k + 1) (d + 1) t2 (by omega) (by omega) ((hp_e1 (t := t) (n := n) (p := f9 + k) (by omega) (by omega)).symm.trans he) (by omega) (fun q1 q2 => ?_) (fun q1 q2 => ?_) (hF.tr Ft2 (fun j i h => xw_o_sub (by decide +kernel) j i h)) hS_t2
                · exfalso
                  omega
                · have a1 := hvl (by omega) (by omega)
                  rw [hp_nf1]
                  have a2 := hp_nfb (t := t) (i := f9) k (by omega) (fun q hq => by have a3 := hp_dgfa (t := t) (i := f9) k (by omega) q hq; omega)
                  omega
          · refine xw_if_eq (pc := 50) (tgt := 112) C0 (by omega) dX6_readRun_50 rfl (fun b25 => ?_) (fun b25 => ?_)
            · have e9 : hp_e t n (f9 + k) = f9 + k := hp_e0 (by omega)
              refine xw_pk [0, 1, 2, 3] (L' := [(2, .int (Int32.ofInt ((f9 + k : Nat) : Int))), (3, .int (Int32.ofInt (d : Int))), (0, .ref (xw_ad al 129)), (1, .int (Int32.ofInt (f9 : Int)))]) rfl ?_
              exact kx k d ν (by omega) hk hd hlt hvl hF hS_ν
            · exfalso
              omega
set_option maxRecDepth 20000 in
set_option maxHeartbeats 20000000 in
theorem xd_readRun {l : Launch} {t : Nat → Int} {n lim f9 : Nat} {μ : xw_M} (hS : hd_S t n lim μ) (hf : f9 < n) : xw_MetV l vwCl sa_Ts tb_KT0 tc_KL yX6_readRun cX6_readRun 5 none 3 142 (fun ad => [.ref (ad 129), .int (Int32.ofInt (f9 : Int))]) μ (fun μ' => ∃ k : Nat, f9 + k = hp_e t n f9 ∧ μ' 129 4 = ((f9 + k : Nat) : Int) ∧ μ' 129 2 = hp_rk t f9 k ∧ (hp_rk t f9 k = 2 → μ' 129 5 = hp_cv (hp_lr t f9 k) ∧ μ' 129 6 = hp_kw (hp_lr t f9 k)) ∧ (hp_rk t f9 k = 3 → μ' 129 7 = hp_nf t f9 k) ∧ (¬ hp_rk t f9 k = 2 → μ' 129 6 = μ 129 6) ∧ xw_F [(129, 2, 2), (129, 4, 7)] μ μ') :=
  xw_of (by decide +kernel) (fun _ => Nat.le_of_ble_eq_true rfl) (fun p e s m args below meth c D dA A al w0 sz C0 hU hO hKL hr hlk hA => by
    have n_μ := hS.2.2.1
    have l_μ := hS.2.2.2.2.1
    have b_μ := hS.2.2.2.2.2
    refine xw_iload_n (pc := 0) C0 1 dX6_readRun_0 rfl rfl ?_
    refine xw_istore_n (pc := 1) (L' := [(2, .int (Int32.ofInt (f9 : Int))), (0, .ref (xw_ad al 129)), (1, .int (Int32.ofInt (f9 : Int)))]) C0 dX6_readRun_1 rfl (by decide +kernel) rfl ?_
    refine xw_iconst (pc := 2) C0 dX6_readRun_2 ?_
    refine xw_istore_n (pc := 3) (L' := [(3, .int (Int32.ofInt 0)), (2, .int (Int32.ofInt (f9 : Int))), (0, .ref (xw_ad al 129)), (1, .int (Int32.ofInt (f9 : Int)))]) C0 dX6_readRun_3 rfl (by decide +kernel) rfl ?_
    refine xw_aload_n (pc := 4) C0 2 dX6_readRun_4 rfl rfl ?_
    refine xw_lconst (pc := 5) (z := 0) C0 dX6_readRun_5 (by decide +kernel) ?_
    refine xw_putL (pc := 6) (f := 5) C0 kcX6 dX6_readRun_6 (by decide +kernel) tv_294 rfl rfl (xj_129 hKL) xk_17 rfl (by omega) (by omega) ?_
    refine xw_aload_n (pc := 9) C0 2 dX6_readRun_9 rfl rfl ?_
    refine xw_iconst (pc := 10) C0 dX6_readRun_10 ?_
    refine xw_putI (pc := 11) (f := 7) C0 kcX6 dX6_readRun_11 (by decide +kernel) tv_300 rfl rfl (xj_129 hKL) xk_17 rfl (by omega) (by omega) ?_
    have Fz1 : xw_F [(129, 5, 5), (129, 7, 7)] μ (xw_u (xw_u μ 129 5 0) 129 7 0) := (((xw_F.rf (ML := [(129, 5, 5), (129, 7, 7)])).u (show (129, 5, 5) ∈ _ by decide) ⟨by decide, by decide⟩).u (show (129, 7, 7) ∈ _ by decide) ⟨by decide, by decide⟩)
    have vz1_104_5 : (xw_u (xw_u μ 129 5 0) 129 7 0) 129 5 = 0 := (xw_un (by decide +kernel)).trans xw_ug
    have vz1_104_7 : (xw_u (xw_u μ 129 5 0) 129 7 0) 129 7 = 0 := xw_ug
    generalize (xw_u (xw_u μ 129 5 0) 129 7 0) = z1 at Fz1 vz1_104_5 vz1_104_7 ⊢
    have hS_z1 := hd_SF hS Fz1 (by decide +kernel)
    have n_z1 := hS_z1.2.2.1
    have l_z1 := hS_z1.2.2.2.2.1
    have b_z1 := hS_z1.2.2.2.2.2
    have e0 : (f9 : Int) = ((f9 + 0 : Nat) : Int) := by omega
    refine xw_pk [1, 0, 2, 3] (L' := [(2, .int (Int32.ofInt ((f9 + 0 : Nat) : Int))), (3, .int (Int32.ofInt ((0 : Nat) : Int))), (0, .ref (xw_ad al 129)), (1, .int (Int32.ofInt (f9 : Int)))]) rfl ?_
    refine xd_rrL (μ := z1) C0 hU hO hKL (fun k d ν hk hkn hd hlt hvl hF hS_ν => ?_) 2000 0 0 z1 (by omega) (by omega) rfl rfl (fun _ _ => vz1_104_5) (fun _ _ => vz1_104_7) xw_F.rf hS_z1
    have n_ν := hS_ν.2.2.1
    have hdl := hp_dgle (t := t) (i := f9) k
    have hFz : xw_F [(129, 5, 5), (129, 7, 7)] μ ν := Fz1.tr hF (fun j i h => h)
    refine xw_aload_n (pc := 112) C0 2 dX6_readRun_112 rfl rfl ?_
    refine xw_iload_n (pc := 113) C0 0 dX6_readRun_113 rfl rfl ?_
    refine xw_putI (pc := 114) (f := 4) C0 kcX6 dX6_readRun_114 (by decide +kernel) tv_292 rfl rfl (xj_129 hKL) xk_17 rfl (by omega) (by omega) ?_
    refine xw_iload_n (pc := 117) C0 0 dX6_readRun_117 rfl rfl ?_
    refine xw_iload_n (pc := 118) C0 3 dX6_readRun_118 rfl rfl ?_
    refine xw_isub (pc := 119) C0 dX6_readRun_119 ?_
    refine xw_istore (pc := 120) (L' := [(4, .int (Int32.ofInt (((f9 + k : Nat) : Int) - (f9 : Int)))), (2, .int (Int32.ofInt ((f9 + k : Nat) : Int))), (3, .int (Int32.ofInt (d : Int))), (0, .ref (xw_ad al 129)), (1, .int (Int32.ofInt (f9 : Int)))]) C0 dX6_readRun_120 (by decide +kernel) rfl ?_
    refine xw_aload_n (pc := 122) C0 3 dX6_readRun_122 rfl rfl ?_
    refine xw_iconst (pc := 123) C0 dX6_readRun_123 ?_
    refine xw_putI (pc := 124) (f := 2) C0 kcX6 dX6_readRun_124 (by decide +kernel) tv_290 rfl rfl (xj_129 hKL) xk_17 rfl (by omega) (by omega) ?_
    refine xw_iload_n (pc := 127) C0 2 dX6_readRun_127 rfl rfl ?_
    refine xw_iload (pc := 128) C0 0 dX6_readRun_128 rfl ?_
    refine xw_icmp_ne (pc := 130) (tgt := 147) C0 (by omega) (by omega) dX6_readRun_130 rfl (fun b301 => ?_) (fun b301 => ?_)
    · refine xw_iload_n (pc := 147) C0 2 dX6_readRun_147 rfl rfl ?_
      refine xw_if_ne (pc := 148) (tgt := 174) C0 (by omega) dX6_readRun_148 rfl (fun b302 => ?_) (fun b302 => ?_)
      · refine xw_vret C0 hA hr hlk dX6_readRun_174 ?_
        have sK : hp_rk t f9 k = 1 := by
          unfold hp_rk; rw [if_neg (by omega), if_neg (by omega)]
        refine ⟨rfl, k, hk, ((xw_un (by decide +kernel)).trans xw_ug), (xw_ug).trans sK.symm, fun q9 => ?_, fun q9 => ?_, fun q9 => ?_, ((hFz.mono (fun j i h => xw_o_sub (by decide +kernel) j i h)).tr (((xw_F.rf (ML := [(129, 2, 2), (129, 4, 7)])).u (show (129, 4, 7) ∈ _ by decide) ⟨by decide, by decide⟩).u (show (129, 2, 2) ∈ _ by decide) ⟨by decide, by decide⟩) (fun j i h => h))⟩
        · exfalso; omega
        · exfalso; omega
        · exact ((xw_un (by decide +kernel)).trans ((xw_un (by decide +kernel)).trans rfl)).trans ((hFz 129 6 rfl))
      · refine xw_iload (pc := 151) C0 0 dX6_readRun_151 rfl ?_
        refine xw_bipush (pc := 153) C0 dX6_readRun_153 (by decide +kernel) ?_
        refine xw_icmp_gt (pc := 155) (tgt := 174) C0 (by omega) (by omega) dX6_readRun_155 rfl (fun b303 => ?_) (fun b303 => ?_)
        · refine xw_vret C0 hA hr hlk dX6_readRun_174 ?_
          have sK : hp_rk t f9 k = 1 := by
            unfold hp_rk; rw [if_neg (by omega), if_neg (by omega)]
          refine ⟨rfl, k, hk, ((xw_un (by decide +kernel)).trans xw_ug), (xw_ug).trans sK.symm, fun q9 => ?_, fun q9 => ?_, fun q9 => ?_, ((hFz.mono (fun j i h => xw_o_sub (by decide +kernel) j i h)).tr (((xw_F.rf (ML := [(129, 2, 2), (129, 4, 7)])).u (show (129, 4, 7) ∈ _ by decide) ⟨by decide, by decide⟩).u (show (129, 2, 2) ∈ _ by decide) ⟨by decide, by decide⟩) (fun j i h => h))⟩
          · exfalso; omega
          · exfalso; omega
          · exact ((xw_un (by decide +kernel)).trans ((xw_un (by decide +kernel)).trans rfl)).trans ((hFz 129 6 rfl))
        · refine xw_aload_n (pc := 158) C0 3 dX6_readRun_158 rfl rfl ?_
          refine xw_iconst (pc := 159) C0 dX6_readRun_159 ?_
          refine xw_putI (pc := 160) (f := 2) C0 kcX6 dX6_readRun_160 (by decide +kernel) tv_290 rfl rfl (xj_129 hKL) xk_17 rfl (by omega) (by omega) ?_
          rw [xw_uu]
          refine xw_aload_n (pc := 163) C0 3 dX6_readRun_163 rfl rfl ?_
          refine xw_aload_n (pc := 164) C0 3 dX6_readRun_164 rfl rfl ?_
          refine xw_getL (pc := 165) (f := 5) (z := ν 129 5) C0 kcX6 dX6_readRun_165 (by decide +kernel) tv_294 (xj_129 hKL) xk_17 rfl ((xw_un (by decide +kernel)).trans ((xw_un (by decide +kernel)).trans rfl)) (fun g304 k304 => ?_)
          refine xw_callSI (pc := 168) (μ := (xw_u (xw_u ν 129 4 ((f9 + k : Nat) : Int)) 129 2 2)) (rest := [.ref (xw_ad al 129)]) (As := [.long (Int64.ofInt (ν 129 5))]) C0 hU hO sa_Tg hKL (xh_keywordOf (l := l) (z := ν 129 5) (by omega)) tv_529 dX6_readRun_168 tv_527 tv_528 tv_9 yb_X6_keywordOf (by decide +kernel) rfl rfl rfl (by decide +kernel) (Nat.le_of_ble_eq_true rfl) (fun r305 m305 w305 => ?_)
          obtain ⟨rfl, w305⟩ := w305
          have u305 := hp_ixb hp_KC (ν 129 5) 0
          have u305 : -1 ≤ r305 ∧ r305 ≤ 19 := by rw [w305]; have e9 : hp_KC.length = 20 := rfl; omega
          refine xw_putI (pc := 171) (f := 6) C0 kcX6 dX6_readRun_171 (by decide +kernel) tv_299 rfl rfl (xj_129 hKL) xk_17 rfl (by omega) (by omega) ?_
          refine xw_vret C0 hA hr hlk dX6_readRun_174 ?_
          have sK : hp_rk t f9 k = 2 := by
            unfold hp_rk; rw [if_neg (by omega), if_pos ⟨by omega, by omega⟩]
          refine ⟨rfl, k, hk, ((xw_un (by decide +kernel)).trans ((xw_un (by decide +kernel)).trans xw_ug)), ((xw_un (by decide +kernel)).trans xw_ug).trans sK.symm, fun q9 => ?_, fun q9 => ?_, fun q9 => ?_, ((hFz.mono (fun j i h => xw_o_sub (by decide +kernel) j i h)).tr ((((xw_F.rf (ML := [(129, 2, 2), (129, 4, 7)])).u (show (129, 4, 7) ∈ _ by decide) ⟨by decide, by decide⟩).u (show (129, 2, 2) ∈ _ by decide) ⟨by decide, by decide⟩).u (show (129, 4, 7) ∈ _ by decide) ⟨by decide, by decide⟩) (fun j i h => h))⟩
          · have a1 := hlt (by omega) (by omega)
            refine ⟨((xw_un (by decide +kernel)).trans ((xw_un (by decide +kernel)).trans ((xw_un (by decide +kernel)).trans rfl))).trans a1, (xw_ug).trans ?_⟩
            rw [w305, a1]
            exact hp_kwc (hp_lrb7 (by omega) (fun q hq => by
              have a3 := hp_erun (t := t) (n := n) (p := f9) (q := f9 + q) (by omega) (by omega)
              have a4 := hp_dg0a (t := t) (i := f9) k (by omega) q hq
              omega))
          · exfalso; omega
          · exfalso; omega
    · refine xw_iload (pc := 133) C0 0 dX6_readRun_133 rfl ?_
      refine xw_iconst (pc := 135) C0 dX6_readRun_135 ?_
      refine xw_icmp_gt (pc := 136) (tgt := 147) C0 (by omega) (by omega) dX6_readRun_136 rfl (fun b306 => ?_) (fun b306 => ?_)
      · refine xw_iload_n (pc := 147) C0 2 dX6_readRun_147 rfl rfl ?_
        refine xw_if_ne (pc := 148) (tgt := 174) C0 (by omega) dX6_readRun_148 rfl (fun b307 => ?_) (fun b307 => ?_)
        · refine xw_vret C0 hA hr hlk dX6_readRun_174 ?_
          have sK : hp_rk t f9 k = 1 := by
            unfold hp_rk; rw [if_neg (by omega), if_neg (by omega)]
          refine ⟨rfl, k, hk, ((xw_un (by decide +kernel)).trans xw_ug), (xw_ug).trans sK.symm, fun q9 => ?_, fun q9 => ?_, fun q9 => ?_, ((hFz.mono (fun j i h => xw_o_sub (by decide +kernel) j i h)).tr (((xw_F.rf (ML := [(129, 2, 2), (129, 4, 7)])).u (show (129, 4, 7) ∈ _ by decide) ⟨by decide, by decide⟩).u (show (129, 2, 2) ∈ _ by decide) ⟨by decide, by decide⟩) (fun j i h => h))⟩
          · exfalso; omega
          · exfalso; omega
          · exact ((xw_un (by decide +kernel)).trans ((xw_un (by decide +kernel)).trans rfl)).trans ((hFz 129 6 rfl))
        · refine xw_iload (pc := 151) C0 0 dX6_readRun_151 rfl ?_
          refine xw_bipush (pc := 153) C0 dX6_readRun_153 (by decide +kernel) ?_
          refine xw_icmp_gt (pc := 155) (tgt := 174) C0 (by omega) (by omega) dX6_readRun_155 rfl (fun b308 => ?_) (fun b308 => ?_)
          · refine xw_vret C0 hA hr hlk dX6_readRun_174 ?_
            have sK : hp_rk t f9 k = 1 := by
              unfold hp_rk; rw [if_neg (by omega), if_neg (by omega)]
            refine ⟨rfl, k, hk, ((xw_un (by decide +kernel)).trans xw_ug), (xw_ug).trans sK.symm, fun q9 => ?_, fun q9 => ?_, fun q9 => ?_, ((hFz.mono (fun j i h => xw_o_sub (by decide +kernel) j i h)).tr (((xw_F.rf (ML := [(129, 2, 2), (129, 4, 7)])).u (show (129, 4, 7) ∈ _ by decide) ⟨by decide, by decide⟩).u (show (129, 2, 2) ∈ _ by decide) ⟨by decide, by decide⟩) (fun j i h => h))⟩
            · exfalso; omega
            · exfalso; omega
            · exact ((xw_un (by decide +kernel)).trans ((xw_un (by decide +kernel)).trans rfl)).trans ((hFz 129 6 rfl))
          · refine xw_aload_n (pc := 158) C0 3 dX6_readRun_158 rfl rfl ?_
            refine xw_iconst (pc := 159) C0 dX6_readRun_159 ?_
            refine xw_putI (pc := 160) (f := 2) C0 kcX6 dX6_readRun_160 (by decide +kernel) tv_290 rfl rfl (xj_129 hKL) xk_17 rfl (by omega) (by omega) ?_
            rw [xw_uu]
            refine xw_aload_n (pc := 163) C0 3 dX6_readRun_163 rfl rfl ?_
            refine xw_aload_n (pc := 164) C0 3 dX6_readRun_164 rfl rfl ?_
            refine xw_getL (pc := 165) (f := 5) (z := ν 129 5) C0 kcX6 dX6_readRun_165 (by decide +kernel) tv_294 (xj_129 hKL) xk_17 rfl ((xw_un (by decide +kernel)).trans ((xw_un (by decide +kernel)).trans rfl)) (fun g309 k309 => ?_)
            refine xw_callSI (pc := 168) (μ := (xw_u (xw_u ν 129 4 ((f9 + k : Nat) : Int)) 129 2 2)) (rest := [.ref (xw_ad al 129)]) (As := [.long (Int64.ofInt (ν 129 5))]) C0 hU hO sa_Tg hKL (xh_keywordOf (l := l) (z := ν 129 5) (by omega)) tv_529 dX6_readRun_168 tv_527 tv_528 tv_9 yb_X6_keywordOf (by decide +kernel) rfl rfl rfl (by decide +kernel) (Nat.le_of_ble_eq_true rfl) (fun r310 m310 w310 => ?_)
            obtain ⟨rfl, w310⟩ := w310
            have u310 := hp_ixb hp_KC (ν 129 5) 0
            have u310 : -1 ≤ r310 ∧ r310 ≤ 19 := by rw [w310]; have e9 : hp_KC.length = 20 := rfl; omega
            refine xw_putI (pc := 171) (f := 6) C0 kcX6 dX6_readRun_171 (by decide +kernel) tv_299 rfl rfl (xj_129 hKL) xk_17 rfl (by omega) (by omega) ?_
            refine xw_vret C0 hA hr hlk dX6_readRun_174 ?_
            have sK : hp_rk t f9 k = 2 := by
              unfold hp_rk; rw [if_neg (by omega), if_pos ⟨by omega, by omega⟩]
            refine ⟨rfl, k, hk, ((xw_un (by decide +kernel)).trans ((xw_un (by decide +kernel)).trans xw_ug)), ((xw_un (by decide +kernel)).trans xw_ug).trans sK.symm, fun q9 => ?_, fun q9 => ?_, fun q9 => ?_, ((hFz.mono (fun j i h => xw_o_sub (by decide +kernel) j i h)).tr ((((xw_F.rf (ML := [(129, 2, 2), (129, 4, 7)])).u (show (129, 4, 7) ∈ _ by decide) ⟨by decide, by decide⟩).u (show (129, 2, 2) ∈ _ by decide) ⟨by decide, by decide⟩).u (show (129, 4, 7) ∈ _ by decide) ⟨by decide, by decide⟩) (fun j i h => h))⟩
            · have a1 := hlt (by omega) (by omega)
              refine ⟨((xw_un (by decide +kernel)).trans ((xw_un (by decide +kernel)).trans ((xw_un (by decide +kernel)).trans rfl))).trans a1, (xw_ug).trans ?_⟩
              rw [w310, a1]
              exact hp_kwc (hp_lrb7 (by omega) (fun q hq => by
                have a3 := hp_erun (t := t) (n := n) (p := f9) (q := f9 + q) (by omega) (by omega)
                have a4 := hp_dg0a (t := t) (i := f9) k (by omega) q hq
                omega))
            · exfalso; omega
            · exfalso; omega
      · refine xw_aload_n (pc := 139) C0 3 dX6_readRun_139 rfl rfl ?_
        refine xw_iconst (pc := 140) C0 dX6_readRun_140 ?_
        refine xw_putI (pc := 141) (f := 2) C0 kcX6 dX6_readRun_141 (by decide +kernel) tv_290 rfl rfl (xj_129 hKL) xk_17 rfl (by omega) (by omega) ?_
        rw [xw_uu]
        refine xw_goto (pc := 144) (tgt := 174) C0 dX6_readRun_144 rfl ?_
        refine xw_vret C0 hA hr hlk dX6_readRun_174 ?_
        have sK : hp_rk t f9 k = 3 := by
          exact if_pos ⟨by omega, by omega⟩
        refine ⟨rfl, k, hk, ((xw_un (by decide +kernel)).trans xw_ug), (xw_ug).trans sK.symm, fun q9 => ?_, fun q9 => ?_, fun q9 => ?_, ((hFz.mono (fun j i h => xw_o_sub (by decide +kernel) j i h)).tr (((xw_F.rf (ML := [(129, 2, 2), (129, 4, 7)])).u (show (129, 4, 7) ∈ _ by decide) ⟨by decide, by decide⟩).u (show (129, 2, 2) ∈ _ by decide) ⟨by decide, by decide⟩) (fun j i h => h))⟩
        · exfalso; omega
        · exact ((xw_un (by decide +kernel)).trans ((xw_un (by decide +kernel)).trans rfl)).trans (hvl (by omega) (by omega))
        · exact ((xw_un (by decide +kernel)).trans ((xw_un (by decide +kernel)).trans rfl)).trans ((hFz 129 6 rfl)))
set_option maxRecDepth 20000 in
set_option maxHeartbeats 20000000 in
theorem xd_stL {l : Launch} {p : Program} {e : Env} {s : State} {m : MethodId} {args : Array Value} {below : List Frame} {meth : Method} {c : Code} {Q : State → Prop} {D : va_G} {dA : Nat → ClassId} {A : Nat → Prop} {al : List (Nat × Nat)} (C0 : sa_C p s m args c D dA A 2 vwCl sa_Ts cX6_step yX6_step.cls) (hU : sa_U D vwCl dA s) (hO : tb_Ou A s s.heap) (hKL : al.map Prod.snd = tc_KL) {t : Nat → Int} {n lim q : Nat} {μ : xw_M} (hS : hd_S t n lim μ) (kx : xw_W p l e { frames := 4, cells := 0, slots := 0, locals := 166 } s m args below meth c Q D dA A 2 vwCl tb_KT0 al 0 0 μ 36 [(1, .int (Int32.ofInt (q : Int))), (0, .ref (xw_ad al 129))] []) : ∀ (fu9 : Nat) (i : Nat), (n : Int) - (i : Int) < (fu9 : Int) → i ≤ n → hp_i t n i = q → xw_W p l e { frames := 4, cells := 0, slots := 0, locals := 166 } s m args below meth c Q D dA A 2 vwCl tb_KT0 al 0 0 μ 5 [(1, .int (Int32.ofInt (i : Int))), (0, .ref (xw_ad al 129))] [] := by
  intro fu9
  induction fu9 with
  | zero => intro i hm hi hq; exfalso; omega
  | succ fu9 ih =>
    intro i hm hi hq
    have n_μ := hS.2.2.1
    have l_μ := hS.2.2.2.2.1
    have b_μ := hS.2.2.2.2.2
    refine xw_iload_n (pc := 5) C0 0 dX6_step_5 rfl rfl ?_
    refine xw_aload_n (pc := 6) C0 1 dX6_step_6 rfl rfl ?_
    refine xw_getR (pc := 7) (f := 0) C0 1 kcX6 dX6_step_7 (by decide +kernel) tv_285 (xj_129 hKL) xk_17 rfl ((rfl).trans hS.2.2.2.1) ?_
    refine xw_getI (pc := 10) (f := 1) (z := μ 1 1) C0 kcX0 dX6_step_10 (by decide +kernel) tv_42 (xj_1 hKL) xk_19 rfl (rfl) (fun g1 k1 => ?_)
    refine xw_icmp_ge (pc := 13) (tgt := 36) C0 (by omega) (by omega) dX6_step_13 rfl (fun b2 => ?_) (fun b2 => ?_)
    · have e9 : q = i := hq.symm.trans (hp_i0 (by omega))
      subst e9
      refine xw_pk [0, 1] (L' := [(1, .int (Int32.ofInt (q : Int))), (0, .ref (xw_ad al 129))]) rfl ?_
      exact kx
    · refine xw_aload_n (pc := 16) C0 1 dX6_step_16 rfl rfl ?_
      refine xw_getR (pc := 17) (f := 0) C0 1 kcX6 dX6_step_17 (by decide +kernel) tv_285 (xj_129 hKL) xk_17 rfl ((rfl).trans hS.2.2.2.1) ?_
      refine xw_iload_n (pc := 20) C0 0 dX6_step_20 rfl rfl ?_
      refine xw_callVI (pc := 21) (μ := μ) (ci := 0) (rest := []) (As := [.int (Int32.ofInt (i : Int))]) C0 hU hO sa_Tg hKL (xm_at (l := l) (i := (i : Int)) (by omega) hS.1) tv_513 dX6_step_21 tv_510 tv_511 tv_512 tv_2 rfl yb_X0_at (by decide +kernel) rfl rfl rfl (by decide +kernel) (Nat.le_of_ble_eq_true rfl) (xj_1 hKL) xk_19 (fun r3 m3 w3 => ?_)
      obtain ⟨rfl, w3⟩ := w3
      have v3 : r3 = t (i) := w3.elim (fun q => q.2.2.trans (hS.2.1 _)) (fun q => absurd ⟨by omega, by omega⟩ q.1)
      have u3 : 0 ≤ t (i) ∧ t (i) ≤ 255 := by rw [← hS.2.1 (i)]; omega
      subst v3
      refine xw_callSI (pc := 24) (μ := μ) (rest := []) (As := [.int (Int32.ofInt (t (i)))]) C0 hU hO sa_Tg hKL (xh_isBlank (l := l) (v := t (i)) (by omega)) tv_516 dX6_step_24 tv_514 tv_515 tv_9 yb_X6_isBlank (by decide +kernel) rfl rfl rfl (by decide +kernel) (Nat.le_of_ble_eq_true rfl) (fun r4 m4 w4 => ?_)
      obtain ⟨rfl, w4⟩ := w4
      rcases w4 with ⟨w4, rfl⟩ | ⟨w4, rfl⟩
      · refine xw_if_eq (pc := 27) (tgt := 36) C0 (by omega) dX6_step_27 rfl (fun b5 => ?_) (fun b5 => ?_)
        · exfalso
          omega
        · refine xw_iinc (pc := 30) (L' := [(1, .int (Int32.ofInt ((i : Int) + 1))), (0, .ref (xw_ad al 129))]) C0 0 dX6_step_30 rfl (by decide +kernel) rfl ?_
          refine xw_goto (pc := 33) (tgt := 5) C0 dX6_step_33 rfl ?_
          have e1 : (i : Int) + 1 = ((i + 1 : Nat) : Int) := by omega
          rw [e1]
          refine xw_pk [0, 1] (L' := [(1, .int (Int32.ofInt ((i + 1 : Nat) : Int))), (0, .ref (xw_ad al 129))]) rfl ?_
          exact ih (i + 1) (by omega) (by omega) ((hp_i1 (by omega) (by omega)).symm.trans hq)
      · refine xw_if_eq (pc := 27) (tgt := 36) C0 (by omega) dX6_step_27 rfl (fun b6 => ?_) (fun b6 => ?_)
        · have e9 : q = i := hq.symm.trans (hp_i0 (by omega))
          subst e9
          refine xw_pk [0, 1] (L' := [(1, .int (Int32.ofInt (q : Int))), (0, .ref (xw_ad al 129))]) rfl ?_
          exact kx
        · exfalso
          omega
