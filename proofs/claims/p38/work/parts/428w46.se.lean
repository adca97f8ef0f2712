set_option maxRecDepth 20000 in
set_option maxHeartbeats 20000000 in
theorem xt_anL6 {l : Launch} {p : Program} {e : Env} {s : State} {m : MethodId} {args : Array Value} {below : List Frame} {meth : Method} {c : Code} {Q : State → Prop} {D : va_G} {dA : Nat → ClassId} {A : Nat → Prop} {al : List (Nat × Nat)} (C0 : sa_C p s m args c D dA A 2 vwCl sa_Ts cX12_readAnd yX12_readAnd.cls) (hU : sa_U D vwCl dA s) (hO : tb_Ou A s s.heap) (hKL : al.map Prod.snd = tc_KL) {t rd nm : Nat → Int} {n lim cn o : Nat} {res : hq_R} {μ : xw_M} (hK : hp_ok rd nm) (hc0 : cn ≤ 2 * o) (kx : ∀ (ν : xw_M) (pz o1 c1 : Nat) (a9 : Int), hr_S t n lim ν → hr_T t n lim pz ν → ν 200 42 = (o1 : Int) → (o + 1 ≤ o1 ∧ o1 ≤ 20) → ν 200 43 = 2 → ν 200 41 = (c1 : Int) → (cn + 1 ≤ c1 ∧ c1 + 1 + 2 * o ≤ cn + 2 * o1) → (0 ≤ a9 ∧ a9 < (c1 : Int)) → hr_R ν → res = .inr (pz, o1) → xw_F [(200, 5, 13), (200, 41, 44), (218, 0, 239)] μ ν → xw_W p l e { frames := 32, cells := 0, slots := 0, locals := 765 } s m args below meth c Q D dA A 2 vwCl tb_KT0 al 0 0 ν 51 [(0, .ref (xw_ad al 200)), (1, .int (Int32.ofInt a9))] []) (kw : ∀ (ν : xw_M) (e9 : hp_E), hr_W e9 ν → ν 200 43 = 2 → hr_R ν → res = .inl e9 → xw_F [(200, 5, 13), (200, 41, 44), (218, 0, 239)] μ ν → xw_W p l e { frames := 32, cells := 0, slots := 0, locals := 765 } s m args below meth c Q D dA A 2 vwCl tb_KT0 al 0 0 ν 34 [] []) : ∀ (fu9 : Nat) (f : Nat) (ν : xw_M) (pz o1 c1 : Nat) (a9 : Int), 20 - (o1 : Int) < (fu9 : Int) → hr_S t n lim ν → hr_T t n lim pz ν → hr_M rd nm ν → ν 200 42 = (o1 : Int) → (o + 1 ≤ o1 ∧ o1 ≤ 20) → ν 200 43 = 2 → ν 200 41 = (c1 : Int) → (cn + 1 ≤ c1 ∧ c1 + 1 + 2 * o ≤ cn + 2 * o1) → (0 ≤ a9 ∧ a9 < (c1 : Int)) → hr_R ν → 21 ≤ f + o1 → hq_lp t n lim 11 (hq_on t n lim nm (rd 0).toNat (rd 1).toNat 6) f pz o1 = res → xw_F [(200, 5, 13), (200, 41, 44), (218, 0, 239)] μ ν → xw_W p l e { frames := 32, cells := 0, slots := 0, locals := 765 } s m args below meth c Q D dA A 2 vwCl tb_KT0 al 0 0 ν 14 [(0, .ref (xw_ad al 200)), (1, .int (Int32.ofInt a9))] [] := by
  intro fu9
  induction fu9 with
  | zero => intro f ν pz o1 c1 a9 hm hS_ν hT_ν hM_ν hN_ν ho1 hI_ν hC_ν hc1 ha9 hR_ν hf hq hF; exfalso; omega
  | succ fu9 ih =>
    intro f ν pz o1 c1 a9 hm hS_ν hT_ν hM_ν hN_ν ho1 hI_ν hC_ν hc1 ha9 hR_ν hf hq hF
    have hp9_ν := hT_ν.1
    have c2_ν := hT_ν.2.1
    have hkb_ν := hp_kb t n lim pz
    have hkw_ν := hp_kwb (hp_w t n pz)
    have k0 := hK.1
    have k1 := hK.2.1
    refine xw_aload_n (pc := 14) C0 0 dX12_readAnd_14 rfl rfl ?_
    refine xw_bipush (pc := 15) C0 dX12_readAnd_15 (by decide +kernel) ?_
    refine xw_callVI (pc := 17) (μ := ν) (ci := 12) (rest := []) (As := [.int (Int32.ofInt 10)]) C0 hU hO sa_Tg hKL (xr_isWord (l := l) (c9 := 10) hS_ν hT_ν (by decide +kernel)) tv_1445 dX12_readAnd_17 tv_1442 tv_1444 tq_X12_isWord tv_13 rfl yb_X12_isWord (by decide +kernel) rfl rfl rfl (by decide +kernel) (Nat.le_of_ble_eq_true rfl) (xj_200 hKL) xk_0 (fun r1 m1 w1 => ?_)
    obtain ⟨rfl, w1⟩ := w1
    rw [show hp_pm 10 = 11 from rfl] at w1
    rcases w1 with ⟨w1, rfl⟩ | ⟨w1, rfl⟩
    · refine xw_if_eq (pc := 20) (tgt := 51) C0 (by omega) dX12_readAnd_20 rfl (fun b2 => ?_) (fun b2 => ?_)
      · exfalso
        omega
      · refine xw_aload_n (pc := 23) C0 0 dX12_readAnd_23 rfl rfl ?_
        refine xw_callVV (pc := 24) (μ := ν) (ci := 12) (rest := []) (As := []) C0 hU hO sa_Tg hKL (xr_go (l := l) (t := t) (n := n) (lim := lim) (pz := hp_x t n pz) hS_ν (hT_ν.2.2.2.2.2.2 (by omega)) (hp_xb (lim := lim) hT_ν.1 (by omega))) tv_1425 dX12_readAnd_24 tv_1422 tv_1424 tq_X12_go tv_13 rfl yb_X12_go (by decide +kernel) rfl rfl rfl (by decide +kernel) (Nat.le_of_ble_eq_true rfl) (xj_200 hKL) xk_0 (fun m3 w3 => ?_)
        obtain ⟨hT_m3, F3⟩ := w3
        have hS_m3 := hr_SF hS_ν F3 (by decide +kernel)
        have hM_m3 := hr_MF hM_ν F3 (by decide +kernel)
        have hN_m3 : m3 200 42 = ((o1 : Nat) : Int) := (F3 200 42 rfl).trans hN_ν
        have hI_m3 : m3 200 43 = 2 := (F3 200 43 rfl).trans hI_ν
        have hC_m3 : m3 200 41 = ((c1 : Nat) : Int) := (F3 200 41 rfl).trans hC_ν
        have hR_m3 := hr_RF hR_ν F3 (by decide +kernel)
        refine xw_aload_n (pc := 27) C0 0 dX12_readAnd_27 rfl rfl ?_
        refine xw_callVI (pc := 28) (μ := m3) (ci := 12) (rest := []) (As := []) C0 hU hO sa_Tg hKL (xt_sd6 (l := l) (rd := rd) (nm := nm) (cn := c1) hS_m3 hT_m3 hM_m3 hK hN_m3 (by omega) hI_m3 hC_m3 (by omega) hR_m3) tv_1843 dX12_readAnd_28 tv_1840 tv_1842 tq_X12_readSaid tv_13 rfl yb_X12_readSaid (by decide +kernel) rfl rfl rfl (by decide +kernel) (Nat.le_of_ble_eq_true rfl) (xj_200 hKL) xk_0 (fun r4 m4 w4 => ?_)
        obtain ⟨w4, hR_m4, F4⟩ := w4
        rcases w4 with ⟨p4, o4, c4, eo4, rfl, hT_m4, hN_m4, ho4, hC_m4, hc4, ht4, hI_m4⟩ | ⟨e4, eo4, rfl, W4, hI_m4⟩
        · have hS_m4 := hr_SF hS_m3 F4 (by decide +kernel)
          have hM_m4 := hr_MF hM_m3 F4 (by decide +kernel)
          refine xw_if_ne (pc := 31) (tgt := 36) C0 (by omega) dX12_readAnd_31 rfl (fun b5 => ?_) (fun b5 => ?_)
          · refine xw_aload_n (pc := 36) C0 0 dX12_readAnd_36 rfl rfl ?_
            refine xw_iconst (pc := 37) C0 dX12_readAnd_37 ?_
            refine xw_iload_n (pc := 38) C0 1 dX12_readAnd_38 rfl rfl ?_
            refine xw_aload_n (pc := 39) C0 0 dX12_readAnd_39 rfl rfl ?_
            refine xw_getI (pc := 40) (f := 44) (z := m4 200 44) C0 kcX12 dX12_readAnd_40 (by decide +kernel) tv_1305 (xj_200 hKL) xk_0 rfl (rfl) (fun g6 k6 => ?_)
            refine xw_iconst (pc := 43) C0 dX12_readAnd_43 ?_
            refine xw_callVI (pc := 44) (μ := m4) (ci := 12) (rest := []) (As := [.int (Int32.ofInt 2), .int (Int32.ofInt a9), .int (Int32.ofInt (m4 200 44)), .int (Int32.ofInt 0)]) C0 hU hO sa_Tg hKL (xt_says (l := l) (cn := c4) (w9 := 2) (a9 := a9) (b9 := m4 200 44) (g9 := 0) (μ := m4) hS_m4.1 hC_m4 (by omega) hR_m4 (by omega) (by omega) (by omega) (by omega) (by omega) (by omega)) tv_1855 dX12_readAnd_44 tv_1852 tv_1854 tq_X12_saysOne tv_13 rfl yb_X12_saysOne (by decide +kernel) rfl rfl rfl (by decide +kernel) (Nat.le_of_ble_eq_true rfl) (xj_200 hKL) xk_0 (fun r7 m7 w7 => ?_)
            obtain ⟨rfl, w7, hR_m7, F7⟩ := w7
            have hC_m7 : m7 200 41 = ((c4 + 1 : Nat) : Int) := by omega
            have hS_m7 := hr_SF hS_m4 F7 (by decide +kernel)
            have hT_m7 := hr_TF hT_m4 F7 (by decide +kernel)
            have hM_m7 := hr_MF hM_m4 F7 (by decide +kernel)
            have hN_m7 : m7 200 42 = ((o4 : Nat) : Int) := (F7 200 42 rfl).trans hN_m4
            have hI_m7 : m7 200 43 = 2 := (F7 200 43 rfl).trans hI_m4
            refine xw_istore_n (pc := 47) (L' := [(1, .int (Int32.ofInt ((c4 : Nat) : Int))), (0, .ref (xw_ad al 200))]) C0 dX12_readAnd_47 rfl (by decide +kernel) rfl ?_
            refine xw_goto (pc := 48) (tgt := 14) C0 dX12_readAnd_48 rfl ?_
            obtain ⟨f, rfl⟩ : ∃ z, f = z + 1 := ⟨f - 1, by omega⟩
            rw [hq_lpR (by omega) eo4] at hq
            refine xw_pk [1, 0] (L' := [(0, .ref (xw_ad al 200)), (1, .int (Int32.ofInt ((c4 : Nat) : Int)))]) rfl ?_
            exact ih f m7 p4 o4 (c4 + 1) ((c4 : Nat) : Int) (by omega) hS_m7 hT_m7 hM_m7 hN_m7 (by omega) hI_m7 hC_m7 (by omega) (by omega) hR_m7 (by omega) hq (hF.tr ((((xw_F.rf (ML := [(200, 5, 13), (200, 41, 44), (218, 0, 239)])).tr F3 (fun j i h => xw_o_sub (by decide +kernel) j i h)).tr F4 (fun j i h => xw_o_sub (by decide +kernel) j i h)).tr F7 (fun j i h => xw_o_sub (by decide +kernel) j i h)) (fun j i h => h))
          · exfalso
            omega
        · refine xw_if_ne (pc := 31) (tgt := 36) C0 (by omega) dX12_readAnd_31 rfl (fun b8 => ?_) (fun b8 => ?_)
          · exfalso
            omega
          · refine xw_pk [] (L' := []) rfl ?_
            obtain ⟨f, rfl⟩ : ∃ z, f = z + 1 := ⟨f - 1, by omega⟩
            rw [hq_lpL (by omega) eo4] at hq
            exact kw m4 e4 W4 hI_m4 hR_m4 hq.symm (hF.tr (((xw_F.rf (ML := [(200, 5, 13), (200, 41, 44), (218, 0, 239)])).tr F3 (fun j i h => xw_o_sub (by decide +kernel) j i h)).tr F4 (fun j i h => xw_o_sub (by decide +kernel) j i h)) (fun j i h => h))
    · refine xw_if_eq (pc := 20) (tgt := 51) C0 (by omega) dX12_readAnd_20 rfl (fun b10 => ?_) (fun b10 => ?_)
      · refine xw_pk [0, 1] (L' := [(0, .ref (xw_ad al 200)), (1, .int (Int32.ofInt a9))]) rfl ?_
        exact kx ν pz o1 c1 a9 hS_ν hT_ν hN_ν ho1 hI_ν hC_ν hc1 ha9 hR_ν (by rw [hq_lpN (by omega)] at hq; exact hq.symm) hF
      · exfalso
        omega
set_option maxRecDepth 20000 in
set_option maxHeartbeats 20000000 in
theorem xt_an6 {l : Launch} {t rd nm : Nat → Int} {n lim pz cn o : Nat} {μ : xw_M} (hS : hr_S t n lim μ) (hT : hr_T t n lim pz μ) (hM : hr_M rd nm μ) (hK : hp_ok rd nm) (hN : μ 200 42 = ((o : Nat) : Int)) (ho : o ≤ 20) (hI : μ 200 43 = 2) (hC : μ 200 41 = (cn : Int)) (hc : cn ≤ 2 * o) (hR : hr_R μ) : xw_MetI l vwCl sa_Ts tb_KT0 tc_KL yX12_readAnd cX12_readAnd 2 (some .boolean) 32 765 (fun ad => [.ref (ad 200)]) μ (fun r μ' => hr_Q t n lim (hq_jn t n lim 11 (hq_on t n lim nm (rd 0).toNat (rd 1).toNat 6) pz o) cn o 2 r μ' ∧ hr_R μ' ∧ xw_F [(200, 5, 13), (200, 41, 44), (218, 0, 239)] μ μ') :=
  xw_of (by decide +kernel) (fun _ => Nat.le_of_ble_eq_true rfl) (fun p e s m args below meth c D dA A al w0 sz C0 hU hO hKL hr hlk hA => by
    have hp9_μ := hT.1
    have c2_μ := hT.2.1
    have hkb_μ := hp_kb t n lim pz
    have hkw_μ := hp_kwb (hp_w t n pz)
    have k0 := hK.1
    have k1 := hK.2.1
    refine xw_aload_n (pc := 0) C0 0 dX12_readAnd_0 rfl rfl ?_
    refine xw_callVI (pc := 1) (μ := μ) (ci := 12) (rest := []) (As := []) C0 hU hO sa_Tg hKL (xt_sd6 (l := l) (rd := rd) (nm := nm) (cn := cn) hS hT hM hK hN (by omega) hI hC (by omega) hR) tv_1843 dX12_readAnd_1 tv_1840 tv_1842 tq_X12_readSaid tv_13 rfl yb_X12_readSaid (by decide +kernel) rfl rfl rfl (by decide +kernel) (Nat.le_of_ble_eq_true rfl) (xj_200 hKL) xk_0 (fun r1 m1 w1 => ?_)
    obtain ⟨w1, hR_m1, F1⟩ := w1
    rcases w1 with ⟨p1, o1, c1, eo1, rfl, hT_m1, hN_m1, ho1, hC_m1, hc1, ht1, hI_m1⟩ | ⟨e1, eo1, rfl, W1, hI_m1⟩
    · have hS_m1 := hr_SF hS F1 (by decide +kernel)
      have hM_m1 := hr_MF hM F1 (by decide +kernel)
      refine xw_if_ne (pc := 4) (tgt := 9) C0 (by omega) dX12_readAnd_4 rfl (fun b2 => ?_) (fun b2 => ?_)
      · refine xw_aload_n (pc := 9) C0 0 dX12_readAnd_9 rfl rfl ?_
        refine xw_getI (pc := 10) (f := 44) (z := m1 200 44) C0 kcX12 dX12_readAnd_10 (by decide +kernel) tv_1305 (xj_200 hKL) xk_0 rfl (rfl) (fun g3 k3 => ?_)
        refine xw_istore_n (pc := 13) (L' := [(1, .int (Int32.ofInt (m1 200 44))), (0, .ref (xw_ad al 200))]) C0 dX12_readAnd_13 rfl (by decide +kernel) rfl ?_
        refine xw_pk [1, 0] (L' := [(0, .ref (xw_ad al 200)), (1, .int (Int32.ofInt (m1 200 44)))]) rfl ?_
        refine xt_anL6 (rd := rd) (nm := nm) (cn := cn) (o := o) (res := hq_lp t n lim 11 (hq_on t n lim nm (rd 0).toNat (rd 1).toNat 6) 20 p1 o1) (μ := m1) C0 hU hO hKL hK hc (fun ξ p9 o9 c9 z9 q0 q1 q2 q3 q4 q5 q6 q7 q8 q9 q10 => ?_) (fun ξ e9 q1 qi q2 q3 q4 => ?_) 21 20 m1 p1 o1 c1 (m1 200 44) (by omega) hS_m1 hT_m1 hM_m1 hN_m1 ho1 hI_m1 hC_m1 hc1 ht1 hR_m1 (by omega) rfl xw_F.rf
        · refine xw_aload_n (pc := 51) C0 0 dX12_readAnd_51 rfl rfl ?_
          refine xw_iload_n (pc := 52) C0 1 dX12_readAnd_52 rfl rfl ?_
          refine xw_putI (pc := 53) (f := 44) C0 kcX12 dX12_readAnd_53 (by decide +kernel) tv_1305 rfl rfl (xj_200 hKL) xk_0 rfl (by omega) (by omega) ?_
          refine xw_iconst (pc := 56) C0 dX12_readAnd_56 ?_
          refine xw_iret C0 hA hr hlk rfl dX12_readAnd_57 ?_
          have Ft1 : xw_F [(200, 44, 44)] ξ (xw_u ξ 200 44 z9) := ((xw_F.rf (ML := [(200, 44, 44)])).u (show (200, 44, 44) ∈ _ by decide) ⟨by decide, by decide⟩)
          have vt1_200_44 : (xw_u ξ 200 44 z9) 200 44 = z9 := xw_ug
          generalize (xw_u ξ 200 44 z9) = t1 at Ft1 vt1_200_44 ⊢
          exact ⟨_, rfl, Or.inl ⟨p9, o9, c9, (hq_jnR eo1).trans q9, rfl, hr_TF q1 Ft1 (by decide +kernel), (Ft1 200 42 rfl).trans q2, q3, (Ft1 200 41 rfl).trans q5, q6, by rw [vt1_200_44]; exact q7, (Ft1 200 43 rfl).trans q4⟩, hr_RF q8 Ft1 (by decide +kernel), ((((xw_F.rf (ML := [(200, 5, 13), (200, 41, 44), (218, 0, 239)])).tr F1 (fun j i h => xw_o_sub (by decide +kernel) j i h))).tr q10 (fun j i h => h)).tr Ft1 (fun j i h => xw_o_sub (by decide +kernel) j i h)⟩
        · refine xw_iconst (pc := 34) C0 dX12_readAnd_34 ?_
          refine xw_iret C0 hA hr hlk rfl dX12_readAnd_35 ?_
          exact ⟨_, rfl, Or.inr ⟨_, (hq_jnR eo1).trans q3, rfl, q1, qi⟩, q2, (((xw_F.rf (ML := [(200, 5, 13), (200, 41, 44), (218, 0, 239)])).tr F1 (fun j i h => xw_o_sub (by decide +kernel) j i h))).tr q4 (fun j i h => h)⟩
      · exfalso
        omega
    · refine xw_if_ne (pc := 4) (tgt := 9) C0 (by omega) dX12_readAnd_4 rfl (fun b4 => ?_) (fun b4 => ?_)
      · exfalso
        omega
      · refine xw_iconst (pc := 7) C0 dX12_readAnd_7 ?_
        refine xw_iret C0 hA hr hlk rfl dX12_readAnd_8 ?_
        exact ⟨_, rfl, Or.inr ⟨_, hq_jnL eo1, rfl, W1, hI_m1⟩, hR_m1, ((xw_F.rf (ML := [(200, 5, 13), (200, 41, 44), (218, 0, 239)])).tr F1 (fun j i h => xw_o_sub (by decide +kernel) j i h))⟩)
set_option maxRecDepth 20000 in
set_option maxHeartbeats 20000000 in
theorem xt_orL6 {l : Launch} {p : Program} {e : Env} {s : State} {m : MethodId} {args : Array Value} {below : List Frame} {meth : Method} {c : Code} {Q : State → Prop} {D : va_G} {dA : Nat → ClassId} {A : Nat → Prop} {al : List (Nat × Nat)} (C0 : sa_C p s m args c D dA A 2 vwCl sa_Ts cX12_readOr yX12_readOr.cls) (hU : sa_U D vwCl dA s) (hO : tb_Ou A s s.heap) (hKL : al.map Prod.snd = tc_KL) {t rd nm : Nat → Int} {n lim cn o : Nat} {res : hq_R} {μ : xw_M} (hK : hp_ok rd nm) (hc0 : cn ≤ 2 * o) (kx : ∀ (ν : xw_M) (pz o1 c1 : Nat) (a9 : Int), hr_S t n lim ν → hr_T t n lim pz ν → ν 200 42 = (o1 : Int) → (o + 1 ≤ o1 ∧ o1 ≤ 20) → ν 200 43 = 2 → ν 200 41 = (c1 : Int) → (cn + 1 ≤ c1 ∧ c1 + 1 + 2 * o ≤ cn + 2 * o1) → (0 ≤ a9 ∧ a9 < (c1 : Int)) → hr_R ν → res = .inr (pz, o1) → xw_F [(200, 5, 13), (200, 41, 44), (218, 0, 239)] μ ν → xw_W p l e { frames := 33, cells := 0, slots := 0, locals := 786 } s m args below meth c Q D dA A 2 vwCl tb_KT0 al 0 0 ν 51 [(0, .ref (xw_ad al 200)), (1, .int (Int32.ofInt a9))] []) (kw : ∀ (ν : xw_M) (e9 : hp_E), hr_W e9 ν → ν 200 43 = 2 → hr_R ν → res = .inl e9 → xw_F [(200, 5, 13), (200, 41, 44), (218, 0, 239)] μ ν → xw_W p l e { frames := 33, cells := 0, slots := 0, locals := 786 } s m args below meth c Q D dA A 2 vwCl tb_KT0 al 0 0 ν 34 [] []) : ∀ (fu9 : Nat) (f : Nat) (ν : xw_M) (pz o1 c1 : Nat) (a9 : Int), 20 - (o1 : Int) < (fu9 : Int) → hr_S t n lim ν → hr_T t n lim pz ν → hr_M rd nm ν → ν 200 42 = (o1 : Int) → (o + 1 ≤ o1 ∧ o1 ≤ 20) → ν 200 43 = 2 → ν 200 41 = (c1 : Int) → (cn + 1 ≤ c1 ∧ c1 + 1 + 2 * o ≤ cn + 2 * o1) → (0 ≤ a9 ∧ a9 < (c1 : Int)) → hr_R ν → 21 ≤ f + o1 → hq_lp t n lim 10 (hq_jn t n lim 11 (hq_on t n lim nm (rd 0).toNat (rd 1).toNat 6)) f pz o1 = res → xw_F [(200, 5, 13), (200, 41, 44), (218, 0, 239)] μ ν → xw_W p l e { frames := 33, cells := 0, slots := 0, locals := 786 } s m args below meth c Q D dA A 2 vwCl tb_KT0 al 0 0 ν 14 [(0, .ref (xw_ad al 200)), (1, .int (Int32.ofInt a9))] [] := by
  intro fu9
  induction fu9 with
  | zero => intro f ν pz o1 c1 a9 hm hS_ν hT_ν hM_ν hN_ν ho1 hI_ν hC_ν hc1 ha9 hR_ν hf hq hF; exfalso; omega
  | succ fu9 ih =>
    intro f ν pz o1 c1 a9 hm hS_ν hT_ν hM_ν hN_ν ho1 hI_ν hC_ν hc1 ha9 hR_ν hf hq hF
    have hp9_ν := hT_ν.1
    have c2_ν := hT_ν.2.1
    have hkb_ν := hp_kb t n lim pz
    have hkw_ν := hp_kwb (hp_w t n pz)
    have k0 := hK.1
    have k1 := hK.2.1
    refine xw_aload_n (pc := 14) C0 0 dX12_readOr_14 rfl rfl ?_
    refine xw_bipush (pc := 15) C0 dX12_readOr_15 (by decide +kernel) ?_
    refine xw_callVI (pc := 17) (μ := ν) (ci := 12) (rest := []) (As := [.int (Int32.ofInt 9)]) C0 hU hO sa_Tg hKL (xr_isWord (l := l) (c9 := 9) hS_ν hT_ν (by decide +kernel)) tv_1445 dX12_readOr_17 tv_1442 tv_1444 tq_X12_isWord tv_13 rfl yb_X12_isWord (by decide +kernel) rfl rfl rfl (by decide +kernel) (Nat.le_of_ble_eq_true rfl) (xj_200 hKL) xk_0 (fun r1 m1 w1 => ?_)
    obtain ⟨rfl, w1⟩ := w1
    rw [show hp_pm 9 = 10 from rfl] at w1
    rcases w1 with ⟨w1, rfl⟩ | ⟨w1, rfl⟩
    · refine xw_if_eq (pc := 20) (tgt := 51) C0 (by omega) dX12_readOr_20 rfl (fun b2 => ?_) (fun b2 => ?_)
      · exfalso
        omega
      · refine xw_aload_n (pc := 23) C0 0 dX12_readOr_23 rfl rfl ?_
        refine xw_callVV (pc := 24) (μ := ν) (ci := 12) (rest := []) (As := []) C0 hU hO sa_Tg hKL (xr_go (l := l) (t := t) (n := n) (lim := lim) (pz := hp_x t n pz) hS_ν (hT_ν.2.2.2.2.2.2 (by omega)) (hp_xb (lim := lim) hT_ν.1 (by omega))) tv_1425 dX12_readOr_24 tv_1422 tv_1424 tq_X12_go tv_13 rfl yb_X12_go (by decide +kernel) rfl rfl rfl (by decide +kernel) (Nat.le_of_ble_eq_true rfl) (xj_200 hKL) xk_0 (fun m3 w3 => ?_)
        obtain ⟨hT_m3, F3⟩ := w3
        have hS_m3 := hr_SF hS_ν F3 (by decide +kernel)
        have hM_m3 := hr_MF hM_ν F3 (by decide +kernel)
        have hN_m3 : m3 200 42 = ((o1 : Nat) : Int) := (F3 200 42 rfl).trans hN_ν
        have hI_m3 : m3 200 43 = 2 := (F3 200 43 rfl).trans hI_ν
        have hC_m3 : m3 200 41 = ((c1 : Nat) : Int) := (F3 200 41 rfl).trans hC_ν
        have hR_m3 := hr_RF hR_ν F3 (by decide +kernel)
        refine xw_aload_n (pc := 27) C0 0 dX12_readOr_27 rfl rfl ?_
        refine xw_callVI (pc := 28) (μ := m3) (ci := 12) (rest := []) (As := []) C0 hU hO sa_Tg hKL (xt_an6 (l := l) (rd := rd) (nm := nm) (cn := c1) hS_m3 hT_m3 hM_m3 hK hN_m3 (by omega) hI_m3 hC_m3 (by omega) hR_m3) tv_1839 dX12_readOr_28 tv_1836 tv_1838 tq_X12_readAnd tv_13 rfl yb_X12_readAnd (by decide +kernel) rfl rfl rfl (by decide +kernel) (Nat.le_of_ble_eq_true rfl) (xj_200 hKL) xk_0 (fun r4 m4 w4 => ?_)
        obtain ⟨w4, hR_m4, F4⟩ := w4
        rcases w4 with ⟨p4, o4, c4, eo4, rfl, hT_m4, hN_m4, ho4, hC_m4, hc4, ht4, hI_m4⟩ | ⟨e4, eo4, rfl, W4, hI_m4⟩
        · have hS_m4 := hr_SF hS_m3 F4 (by decide +kernel)
          have hM_m4 := hr_MF hM_m3 F4 (by decide +kernel)
          refine xw_if_ne (pc := 31) (tgt := 36) C0 (by omega) dX12_readOr_31 rfl (fun b5 => ?_) (fun b5 => ?_)
          · refine xw_aload_n (pc := 36) C0 0 dX12_readOr_36 rfl rfl ?_
            refine xw_iconst (pc := 37) C0 dX12_readOr_37 ?_
            refine xw_iload_n (pc := 38) C0 1 dX12_readOr_38 rfl rfl ?_
            refine xw_aload_n (pc := 39) C0 0 dX12_readOr_39 rfl rfl ?_
            refine xw_getI (pc := 40) (f := 44) (z := m4 200 44) C0 kcX12 dX12_readOr_40 (by decide +kernel) tv_1305 (xj_200 hKL) xk_0 rfl (rfl) (fun g6 k6 => ?_)
            refine xw_iconst (pc := 43) C0 dX12_readOr_43 ?_
            refine xw_callVI (pc := 44) (μ := m4) (ci := 12) (rest := []) (As := [.int (Int32.ofInt 3), .int (Int32.ofInt a9), .int (Int32.ofInt (m4 200 44)), .int (Int32.ofInt 0)]) C0 hU hO sa_Tg hKL (xt_says (l := l) (cn := c4) (w9 := 3) (a9 := a9) (b9 := m4 200 44) (g9 := 0) (μ := m4) hS_m4.1 hC_m4 (by omega) hR_m4 (by omega) (by omega) (by omega) (by omega) (by omega) (by omega)) tv_1855 dX12_readOr_44 tv_1852 tv_1854 tq_X12_saysOne tv_13 rfl yb_X12_saysOne (by decide +kernel) rfl rfl rfl (by decide +kernel) (Nat.le_of_ble_eq_true rfl) (xj_200 hKL) xk_0 (fun r7 m7 w7 => ?_)
            obtain ⟨rfl, w7, hR_m7, F7⟩ := w7
            have hC_m7 : m7 200 41 = ((c4 + 1 : Nat) : Int) := by omega
            have hS_m7 := hr_SF hS_m4 F7 (by decide +kernel)
            have hT_m7 := hr_TF hT_m4 F7 (by decide +kernel)
            have hM_m7 := hr_MF hM_m4 F7 (by decide +kernel)
            have hN_m7 : m7 200 42 = ((o4 : Nat) : Int) := (F7 200 42 rfl).trans hN_m4
            have hI_m7 : m7 200 43 = 2 := (F7 200 43 rfl).trans hI_m4
            refine xw_istore_n (pc := 47) (L' := [(1, .int (Int32.ofInt ((c4 : Nat) : Int))), (0, .ref (xw_ad al 200))]) C0 dX12_readOr_47 rfl (by decide +kernel) rfl ?_
            refine xw_goto (pc := 48) (tgt := 14) C0 dX12_readOr_48 rfl ?_
            obtain ⟨f, rfl⟩ : ∃ z, f = z + 1 := ⟨f - 1, by omega⟩
            rw [hq_lpR (by omega) eo4] at hq
            refine xw_pk [1, 0] (L' := [(0, .ref (xw_ad al 200)), (1, .int (Int32.ofInt ((c4 : Nat) : Int)))]) rfl ?_
            exact ih f m7 p4 o4 (c4 + 1) ((c4 : Nat) : Int) (by omega) hS_m7 hT_m7 hM_m7 hN_m7 (by omega) hI_m7 hC_m7 (by omega) (by omega) hR_m7 (by omega) hq (hF.tr ((((xw_F.rf (ML := [(200, 5, 13), (200, 41, 44), (218, 0, 239)])).tr F3 (fun j i h => xw_o_sub (by decide +kernel) j i h)).tr F4 (fun j i h => xw_o_sub (by decide +kernel) j i h)).tr F7 (fun j i h => xw_o_sub (by decide +kernel) j i h)) (fun j i h => h))
          · exfalso
            omega
        · refine xw_if_ne (pc := 31) (tgt := 36) C0 (by omega) dX12_readOr_31 rfl (fun b8 => ?_) (fun b8 => ?_)
          · exfalso
            omega
          · refine xw_pk [] (L' := []) rfl ?_
            obtain ⟨f, rfl⟩ : ∃ z, f = z + 1 := ⟨f - 1, by omega⟩
            rw [hq_lpL (by omega) eo4] at hq
            exact kw m4 e4 W4 hI_m4 hR_m4 hq.symm (hF.tr (((xw_F.rf (ML := [(200, 5, 13), (200, 41, 44), (218, 0, 239)])).tr F3 (fun j i h => xw_o_sub (by decide +kernel) j i h)).tr F4 (fun j i h => xw_o_sub (by decide +kernel) j i h)) (fun j i h => h))
    · refine xw_if_eq (pc := 20) (tgt := 51) C0 (by omega) dX12_readOr_20 rfl (fun b10 => ?_) (fun b10 => ?_)
      · refine xw_pk [0, 1] (L' := [(0, .ref (xw_ad al 200)), (1, .int (Int32.ofInt a9))]) rfl ?_
        exact kx ν pz o1 c1 a9 hS_ν hT_ν hN_ν ho1 hI_ν hC_ν hc1 ha9 hR_ν (by rw [hq_lpN (by omega)] at hq; exact hq.symm) hF
      · exfalso
        omega
set_option maxRecDepth 20000 in
set_option maxHeartbeats 20000000 in
theorem xt_or6 {l : Launch} {t rd nm : Nat → Int} {n lim pz cn o : Nat} {μ : xw_M} (hS : hr_S t n lim μ) (hT : hr_T t n lim pz μ) (hM : hr_M rd nm μ) (hK : hp_ok rd nm) (hN : μ 200 42 = ((o : Nat) : Int)) (ho : o ≤ 20) (hI : μ 200 43 = 2) (hC : μ 200 41 = (cn : Int)) (hc : cn ≤ 2 * o) (hR : hr_R μ) : xw_MetI l vwCl sa_Ts tb_KT0 tc_KL yX12_readOr cX12_readOr 2 (some .boolean) 33 786 (fun ad => [.ref (ad 200)]) μ (fun r μ' => hr_Q t n lim (hq_jn t n lim 10 (hq_jn t n lim 11 (hq_on t n lim nm (rd 0).toNat (rd 1).toNat 6)) pz o) cn o 2 r μ' ∧ hr_R μ' ∧ xw_F [(200, 5, 13), (200, 41, 44), (218, 0, 239)] μ μ') :=
  xw_of (by decide +kernel) (fun _ => Nat.le_of_ble_eq_true rfl) (fun p e s m args below meth c D dA A al w0 sz C0 hU hO hKL hr hlk hA => by
    have hp9_μ := hT.1
    have c2_μ := hT.2.1
    have hkb_μ := hp_kb t n lim pz
    have hkw_μ := hp_kwb (hp_w t n pz)
    have k0 := hK.1
    have k1 := hK.2.1
    refine xw_aload_n (pc := 0) C0 0 dX12_readOr_0 rfl rfl ?_
    refine xw_callVI (pc := 1) (μ := μ) (ci := 12) (rest := []) (As := []) C0 hU hO sa_Tg hKL (xt_an6 (l := l) (rd := rd) (nm := nm) (cn := cn) hS hT hM hK hN (by omega) hI hC (by omega) hR) tv_1839 dX12_readOr_1 tv_1836 tv_1838 tq_X12_readAnd tv_13 rfl yb_X12_readAnd (by decide +kernel) rfl rfl rfl (by decide +kernel) (Nat.le_of_ble_eq_true rfl) (xj_200 hKL) xk_0 (fun r1 m1 w1 => ?_)
    obtain ⟨w1, hR_m1, F1⟩ := w1
    rcases w1 with ⟨p1, o1, c1, eo1, rfl, hT_m1, hN_m1, ho1, hC_m1, hc1, ht1, hI_m1⟩ | ⟨e1, eo1, rfl, W1, hI_m1⟩
    · have hS_m1 := hr_SF hS F1 (by decide +kernel)
      have hM_m1 := hr_MF hM F1 (by decide +kernel)
      refine xw_if_ne (pc := 4) (tgt := 9) C0 (by omega) dX12_readOr_4 rfl (fun b2 => ?_) (fun b2 => ?_)
      · refine xw_aload_n (pc := 9) C0 0 dX12_readOr_9 rfl rfl ?_
        refine xw_getI (pc := 10) (f := 44) (z := m1 200 44) C0 kcX12 dX12_readOr_10 (by decide +kernel) tv_1305 (xj_200 hKL) xk_0 rfl (rfl) (fun g3 k3 => ?_)
        refine xw_istore_n (pc := 13) (L' := [(1, .int (Int32.ofInt (m1 200 44))), (0, .ref (xw_ad al 200))]) C0 dX12_readOr_13 rfl (by decide +kernel) rfl ?_
        refine xw_pk [1, 0] (L' := [(0, .ref (xw_ad al 200)), (1, .int (Int32.ofInt (m1 200 44)))]) rfl ?_
        refine xt_orL6 (rd := rd) (nm := nm) (cn := cn) (o := o) (res := hq_lp t n lim 10 (hq_jn t n lim 11 (hq_on t n lim nm (rd 0).toNat (rd 1).toNat 6)) 20 p1 o1) (μ := m1) C0 hU hO hKL hK hc (fun ξ p9 o9 c9 z9 q0 q1 q2 q3 q4 q5 q6 q7 q8 q9 q10 => ?_) (fun ξ e9 q1 qi q2 q3 q4 => ?_) 21 20 m1 p1 o1 c1 (m1 200 44) (by omega) hS_m1 hT_m1 hM_m1 hN_m1 ho1 hI_m1 hC_m1 hc1 ht1 hR_m1 (by omega) rfl xw_F.rf
        · refine xw_aload_n (pc := 51) C0 0 dX12_readOr_51 rfl rfl ?_
          refine xw_iload_n (pc := 52) C0 1 dX12_readOr_52 rfl rfl ?_
          refine xw_putI (pc := 53) (f := 44) C0 kcX12 dX12_readOr_53 (by decide +kernel) tv_1305 rfl rfl (xj_200 hKL) xk_0 rfl (by omega) (by omega) ?_
          refine xw_iconst (pc := 56) C0 dX12_readOr_56 ?_
          refine xw_iret C0 hA hr hlk rfl dX12_readOr_57 ?_
          have Ft1 : xw_F [(200, 44, 44)] ξ (xw_u ξ 200 44 z9) := ((xw_F.rf (ML := [(200, 44, 44)])).u (show (200, 44, 44) ∈ _ by decide) ⟨by decide, by decide⟩)
          have vt1_200_44 : (xw_u ξ 200 44 z9) 200 44 = z9 := xw_ug
          generalize (xw_u ξ 200 44 z9) = t1 at Ft1 vt1_200_44 ⊢
          exact ⟨_, rfl, Or.inl ⟨p9, o9, c9, (hq_jnR eo1).trans q9, rfl, hr_TF q1 Ft1 (by decide +kernel), (Ft1 200 42 rfl).trans q2, q3, (Ft1 200 41 rfl).trans q5, q6, by rw [vt1_200_44]; exact q7, (Ft1 200 43 rfl).trans q4⟩, hr_RF q8 Ft1 (by decide +kernel), ((((xw_F.rf (ML := [(200, 5, 13), (200, 41, 44), (218, 0, 239)])).tr F1 (fun j i h => xw_o_sub (by decide +kernel) j i h))).tr q10 (fun j i h => h)).tr Ft1 (fun j i h => xw_o_sub (by decide +kernel) j i h)⟩
        · refine xw_iconst (pc := 34) C0 dX12_readOr_34 ?_
          refine xw_iret C0 hA hr hlk rfl dX12_readOr_35 ?_
          exact ⟨_, rfl, Or.inr ⟨_, (hq_jnR eo1).trans q3, rfl, q1, qi⟩, q2, (((xw_F.rf (ML := [(200, 5, 13), (200, 41, 44), (218, 0, 239)])).tr F1 (fun j i h => xw_o_sub (by decide +kernel) j i h))).tr q4 (fun j i h => h)⟩
      · exfalso
        omega
    · refine xw_if_ne (pc := 4) (tgt := 9) C0 (by omega) dX12_readOr_4 rfl (fun b4 => ?_) (fun b4 => ?_)
      · exfalso
        omega
      · refine xw_iconst (pc := 7) C0 dX12_readOr_7 ?_
        refine xw_iret C0 hA hr hlk rfl dX12_readOr_8 ?_
        exact ⟨_, rfl, Or.inr ⟨_, hq_jnL eo1, rfl, W1, hI_m1⟩, hR_m1, ((xw_F.rf (ML := [(200, 5, 13), (200, 41, 44), (218, 0, 239)])).tr F1 (fun j i h => xw_o_sub (by decide +kernel) j i h))⟩)
set_option maxRecDepth 20000 in
set_option maxHeartbeats 20000000 in
theorem xt_no6 {l : Launch} {t rd nm : Nat → Int} {n lim pz cn o : Nat} {μ : xw_M} (hS : hr_S t n lim μ) (hT : hr_T t n lim pz μ) (hM : hr_M rd nm μ) (hK : hp_ok rd nm) (hN : μ 200 42 = ((o + 1 : Nat) : Int)) (ho : o ≤ 19) (hI : μ 200 43 = 2) (hC : μ 200 41 = (cn : Int)) (hc : cn ≤ 2 * o) (hR : hr_R μ) : xw_MetI l vwCl sa_Ts tb_KT0 tc_KL yX12_readNot cX12_readNot 1 (some .boolean) 32 765 (fun ad => [.ref (ad 200)]) μ (fun r μ' => hr_Q t n lim ((hq_on t n lim nm (rd 0).toNat (rd 1).toNat 6) pz (o + 1)) cn o 2 r μ' ∧ hr_R μ' ∧ xw_F [(200, 5, 13), (200, 41, 44), (218, 0, 239)] μ μ') :=
  xw_of (by decide +kernel) (fun _ => Nat.le_of_ble_eq_true rfl) (fun p e s m args below meth c D dA A al w0 sz C0 hU hO hKL hr hlk hA => by
    have hp9_μ := hT.1
    have c2_μ := hT.2.1
    have hkb_μ := hp_kb t n lim pz
    have hkw_μ := hp_kwb (hp_w t n pz)
    have k0 := hK.1
    have k1 := hK.2.1
    refine xw_aload_n (pc := 0) C0 0 dX12_readNot_0 rfl rfl ?_
    refine xw_callVI (pc := 1) (μ := μ) (ci := 12) (rest := []) (As := []) C0 hU hO sa_Tg hKL (xt_sd6 (l := l) (rd := rd) (nm := nm) (cn := cn) hS hT hM hK hN (by omega) hI hC (by omega) hR) tv_1843 dX12_readNot_1 tv_1840 tv_1842 tq_X12_readSaid tv_13 rfl yb_X12_readSaid (by decide +kernel) rfl rfl rfl (by decide +kernel) (Nat.le_of_ble_eq_true rfl) (xj_200 hKL) xk_0 (fun r1 m1 w1 => ?_)
    obtain ⟨w1, hR_m1, F1⟩ := w1
    rcases w1 with ⟨p1, o1, c1, eo1, rfl, hT_m1, hN_m1, ho1, hC_m1, hc1, ht1, hI_m1⟩ | ⟨e1, eo1, rfl, W1, hI_m1⟩
    · have hS_m1 := hr_SF hS F1 (by decide +kernel)
      have hM_m1 := hr_MF hM F1 (by decide +kernel)
      refine xw_if_ne (pc := 4) (tgt := 9) C0 (by omega) dX12_readNot_4 rfl (fun b2 => ?_) (fun b2 => ?_)
      · refine xw_aload_n (pc := 9) C0 0 dX12_readNot_9 rfl rfl ?_
        refine xw_aload_n (pc := 10) C0 0 dX12_readNot_10 rfl rfl ?_
        refine xw_iconst (pc := 11) C0 dX12_readNot_11 ?_
        refine xw_aload_n (pc := 12) C0 0 dX12_readNot_12 rfl rfl ?_
        refine xw_getI (pc := 13) (f := 44) (z := m1 200 44) C0 kcX12 dX12_readNot_13 (by decide +kernel) tv_1305 (xj_200 hKL) xk_0 rfl (rfl) (fun g3 k3 => ?_)
        refine xw_iconst (pc := 16) C0 dX12_readNot_16 ?_
        refine xw_iconst (pc := 17) C0 dX12_readNot_17 ?_
        refine xw_callVI (pc := 18) (μ := m1) (ci := 12) (rest := [.ref (xw_ad al 200)]) (As := [.int (Int32.ofInt 1), .int (Int32.ofInt (m1 200 44)), .int (Int32.ofInt 0), .int (Int32.ofInt 0)]) C0 hU hO sa_Tg hKL (xt_says (l := l) (cn := c1) (w9 := 1) (a9 := m1 200 44) (b9 := 0) (g9 := 0) (μ := m1) hS_m1.1 hC_m1 (by omega) hR_m1 (by omega) (by omega) (by omega) (by omega) (by omega) (by omega)) tv_1855 dX12_readNot_18 tv_1852 tv_1854 tq_X12_saysOne tv_13 rfl yb_X12_saysOne (by decide +kernel) rfl rfl rfl (by decide +kernel) (Nat.le_of_ble_eq_true rfl) (xj_200 hKL) xk_0 (fun r4 m4 w4 => ?_)
        obtain ⟨rfl, w4, hR_m4, F4⟩ := w4
        have hC_m4 : m4 200 41 = ((c1 + 1 : Nat) : Int) := by omega
        have hS_m4 := hr_SF hS_m1 F4 (by decide +kernel)
        have hT_m4 := hr_TF hT_m1 F4 (by decide +kernel)
        have hM_m4 := hr_MF hM_m1 F4 (by decide +kernel)
        have hN_m4 : m4 200 42 = ((o1 : Nat) : Int) := (F4 200 42 rfl).trans hN_m1
        have hI_m4 : m4 200 43 = 2 := (F4 200 43 rfl).trans hI_m1
        refine xw_putI (pc := 21) (f := 44) C0 kcX12 dX12_readNot_21 (by decide +kernel) tv_1305 rfl rfl (xj_200 hKL) xk_0 rfl (by omega) (by omega) ?_
        refine xw_iconst (pc := 24) C0 dX12_readNot_24 ?_
        refine xw_iret C0 hA hr hlk rfl dX12_readNot_25 ?_
        have Ft1 : xw_F [(200, 44, 44)] m4 (xw_u m4 200 44 ((c1 : Nat) : Int)) := ((xw_F.rf (ML := [(200, 44, 44)])).u (show (200, 44, 44) ∈ _ by decide) ⟨by decide, by decide⟩)
        have vt1_200_44 : (xw_u m4 200 44 ((c1 : Nat) : Int)) 200 44 = ((c1 : Nat) : Int) := xw_ug
        generalize (xw_u m4 200 44 ((c1 : Nat) : Int)) = t1 at Ft1 vt1_200_44 ⊢
        exact ⟨_, rfl, Or.inl ⟨p1, o1, c1 + 1, eo1, rfl, hr_TF hT_m4 Ft1 (by decide +kernel), (Ft1 200 42 rfl).trans hN_m4, by omega, (Ft1 200 41 rfl).trans hC_m4, by omega, by omega, (Ft1 200 43 rfl).trans hI_m4⟩, hr_RF hR_m4 Ft1 (by decide +kernel), ((((xw_F.rf (ML := [(200, 5, 13), (200, 41, 44), (218, 0, 239)])).tr F1 (fun j i h => xw_o_sub (by decide +kernel) j i h)).tr F4 (fun j i h => xw_o_sub (by decide +kernel) j i h)).tr Ft1 (fun j i h => xw_o_sub (by decide +kernel) j i h))⟩
      · exfalso
        omega
    · refine xw_if_ne (pc := 4) (tgt := 9) C0 (by omega) dX12_readNot_4 rfl (fun b5 => ?_) (fun b5 => ?_)
      · exfalso
        omega
      · refine xw_iconst (pc := 7) C0 dX12_readNot_7 ?_
        refine xw_iret C0 hA hr hlk rfl dX12_readNot_8 ?_
        exact ⟨_, rfl, Or.inr ⟨_, eo1, rfl, W1, hI_m1⟩, hR_m1, ((xw_F.rf (ML := [(200, 5, 13), (200, 41, 44), (218, 0, 239)])).tr F1 (fun j i h => xw_o_sub (by decide +kernel) j i h))⟩)
set_option maxRecDepth 20000 in
set_option maxHeartbeats 20000000 in
theorem xt_br6 {l : Launch} {t rd nm : Nat → Int} {n lim pz cn o : Nat} {μ : xw_M} (hS : hr_S t n lim μ) (hT : hr_T t n lim pz μ) (hM : hr_M rd nm μ) (hK : hp_ok rd nm) (hN : μ 200 42 = ((o + 1 : Nat) : Int)) (ho : o ≤ 19) (hI : μ 200 43 = 2) (hC : μ 200 41 = (cn : Int)) (hc : cn ≤ 2 * o) (hR : hr_R μ) : xw_MetI l vwCl sa_Ts tb_KT0 tc_KL yX12_readBracket cX12_readBracket 1 (some .boolean) 34 807 (fun ad => [.ref (ad 200)]) μ (fun r μ' => hr_Q t n lim (hq_pa t n lim ((hq_jn t n lim 10 (hq_jn t n lim 11 (hq_on t n lim nm (rd 0).toNat (rd 1).toNat 6))) pz (o + 1))) cn o 2 r μ' ∧ hr_R μ' ∧ xw_F [(200, 5, 13), (200, 41, 44), (218, 0, 239)] μ μ') :=
  xw_of (by decide +kernel) (fun _ => Nat.le_of_ble_eq_true rfl) (fun p e s m args below meth c D dA A al w0 sz C0 hU hO hKL hr hlk hA => by
    have hp9_μ := hT.1
    have c2_μ := hT.2.1
    have hkb_μ := hp_kb t n lim pz
    have hkw_μ := hp_kwb (hp_w t n pz)
    have k0 := hK.1
    have k1 := hK.2.1
    refine xw_aload_n (pc := 0) C0 0 dX12_readBracket_0 rfl rfl ?_
    refine xw_callVI (pc := 1) (μ := μ) (ci := 12) (rest := []) (As := []) C0 hU hO sa_Tg hKL (xt_or6 (l := l) (rd := rd) (nm := nm) (cn := cn) hS hT hM hK hN (by omega) hI hC (by omega) hR) tv_1835 dX12_readBracket_1 tv_1832 tv_1834 tq_X12_readOr tv_13 rfl yb_X12_readOr (by decide +kernel) rfl rfl rfl (by decide +kernel) (Nat.le_of_ble_eq_true rfl) (xj_200 hKL) xk_0 (fun r1 m1 w1 => ?_)
    obtain ⟨w1, hR_m1, F1⟩ := w1
    rcases w1 with ⟨p1, o1, c1, eo1, rfl, hT_m1, hN_m1, ho1, hC_m1, hc1, ht1, hI_m1⟩ | ⟨e1, eo1, rfl, W1, hI_m1⟩
    · have hS_m1 := hr_SF hS F1 (by decide +kernel)
      have hM_m1 := hr_MF hM F1 (by decide +kernel)
      refine xw_if_ne (pc := 4) (tgt := 9) C0 (by omega) dX12_readBracket_4 rfl (fun b2 => ?_) (fun b2 => ?_)
      · refine xw_aload_n (pc := 9) C0 0 dX12_readBracket_9 rfl rfl ?_
        refine xw_bipush (pc := 10) C0 dX12_readBracket_10 (by decide +kernel) ?_
        refine xw_callVI (pc := 12) (μ := m1) (ci := 12) (rest := []) (As := [.int (Int32.ofInt 41)]) C0 hU hO sa_Tg hKL (xr_isSign (l := l) (v := 41) hS_m1 hT_m1 (by decide +kernel)) tv_1505 dX12_readBracket_12 tv_1502 tv_1504 tq_X12_isSign tv_13 rfl yb_X12_isSign (by decide +kernel) rfl rfl rfl (by decide +kernel) (Nat.le_of_ble_eq_true rfl) (xj_200 hKL) xk_0 (fun r3 m3 w3 => ?_)
        obtain ⟨rfl, w3⟩ := w3
        rcases w3 with ⟨w3, rfl⟩ | ⟨w3, rfl⟩
        · refine xw_if_ne (pc := 15) (tgt := 24) C0 (by omega) dX12_readBracket_15 rfl (fun b4 => ?_) (fun b4 => ?_)
          · refine xw_aload_n (pc := 24) C0 0 dX12_readBracket_24 rfl rfl ?_
            refine xw_callVV (pc := 25) (μ := m1) (ci := 12) (rest := []) (As := []) C0 hU hO sa_Tg hKL (xr_go (l := l) (t := t) (n := n) (lim := lim) (pz := hp_x t n p1) hS_m1 (hT_m1.2.2.2.2.2.2 (by omega)) (hp_xb (lim := lim) hT_m1.1 (by omega))) tv_1425 dX12_readBracket_25 tv_1422 tv_1424 tq_X12_go tv_13 rfl yb_X12_go (by decide +kernel) rfl rfl rfl (by decide +kernel) (Nat.le_of_ble_eq_true rfl) (xj_200 hKL) xk_0 (fun m5 w5 => ?_)
            obtain ⟨hT_m5, F5⟩ := w5
            have hS_m5 := hr_SF hS_m1 F5 (by decide +kernel)
            have hM_m5 := hr_MF hM_m1 F5 (by decide +kernel)
            have hN_m5 : m5 200 42 = ((o1 : Nat) : Int) := (F5 200 42 rfl).trans hN_m1
            have hI_m5 : m5 200 43 = 2 := (F5 200 43 rfl).trans hI_m1
            have hC_m5 : m5 200 41 = ((c1 : Nat) : Int) := (F5 200 41 rfl).trans hC_m1
            have hR_m5 := hr_RF hR_m1 F5 (by decide +kernel)
            refine xw_iconst (pc := 28) C0 dX12_readBracket_28 ?_
            refine xw_iret C0 hA hr hlk rfl dX12_readBracket_29 ?_
            have eq : hq_pa t n lim ((hq_jn t n lim 10 (hq_jn t n lim 11 (hq_on t n lim nm (rd 0).toNat (rd 1).toNat 6))) pz (o + 1)) = .inr (hp_x t n p1, o1) := by
              rw [hq_paR eo1]
              unfold hq_en
              rw [if_pos (by omega)]
              rfl
            have tp9 : m5 200 44 = m1 200 44 := F5 200 44 rfl
            exact ⟨_, rfl, Or.inl ⟨hp_x t n p1, o1, c1, eq, rfl, hT_m5, hN_m5, by omega, hC_m5, by omega, by omega, hI_m5⟩, hR_m5, (((xw_F.rf (ML := [(200, 5, 13), (200, 41, 44), (218, 0, 239)])).tr F1 (fun j i h => xw_o_sub (by decide +kernel) j i h)).tr F5 (fun j i h => xw_o_sub (by decide +kernel) j i h))⟩
          · exfalso
            omega
        · refine xw_if_ne (pc := 15) (tgt := 24) C0 (by omega) dX12_readBracket_15 rfl (fun b6 => ?_) (fun b6 => ?_)
          · exfalso
            omega
          · refine xw_aload_n (pc := 18) C0 0 dX12_readBracket_18 rfl rfl ?_
            refine xw_iconst (pc := 19) C0 dX12_readBracket_19 ?_
            refine xw_callVI (pc := 20) (μ := m1) (ci := 12) (rest := []) (As := [.int (Int32.ofInt 1)]) C0 hU hO sa_Tg hKL (xr_bad (l := l) (v := 1) hS_m1 hT_m1 (by decide +kernel) (by omega)) tv_1463 dX12_readBracket_20 tv_1460 tv_1462 tq_X12_bad tv_13 rfl yb_X12_bad (by decide +kernel) rfl rfl rfl (by decide +kernel) (Nat.le_of_ble_eq_true rfl) (xj_200 hKL) xk_0 (fun r7 m7 w7 => ?_)
            obtain ⟨rfl, W7, F7⟩ := w7
            have hI_m7 : m7 200 43 = 2 := (F7 200 43 rfl).trans hI_m1
            have hR_m7 := hr_RF hR_m1 F7 (by decide +kernel)
            refine xw_iret C0 hA hr hlk rfl dX12_readBracket_23 ?_
            have eq : hq_pa t n lim ((hq_jn t n lim 10 (hq_jn t n lim 11 (hq_on t n lim nm (rd 0).toNat (rd 1).toNat 6))) pz (o + 1)) = .inl (hp_bad t n lim 1 p1) := by
              rw [hq_paR eo1]
              unfold hq_en
              rw [if_neg (by omega)]
              rfl
            exact ⟨_, rfl, Or.inr ⟨_, eq, rfl, W7, hI_m7⟩, hR_m7, (((xw_F.rf (ML := [(200, 5, 13), (200, 41, 44), (218, 0, 239)])).tr F1 (fun j i h => xw_o_sub (by decide +kernel) j i h)).tr F7 (fun j i h => xw_o_sub (by decide +kernel) j i h))⟩
      · exfalso
        omega
    · refine xw_if_ne (pc := 4) (tgt := 9) C0 (by omega) dX12_readBracket_4 rfl (fun b8 => ?_) (fun b8 => ?_)
      · exfalso
        omega
      · refine xw_iconst (pc := 7) C0 dX12_readBracket_7 ?_
        refine xw_iret C0 hA hr hlk rfl dX12_readBracket_8 ?_
        exact ⟨_, rfl, Or.inr ⟨_, hq_paL eo1, rfl, W1, hI_m1⟩, hR_m1, ((xw_F.rf (ML := [(200, 5, 13), (200, 41, 44), (218, 0, 239)])).tr F1 (fun j i h => xw_o_sub (by decide +kernel) j i h))⟩)
