set_option maxRecDepth 20000 in
set_option maxHeartbeats 20000000 in
theorem xr_tr2_2 {l : Launch} {p : Program} {e : Env} {s : State} {m : MethodId} {args : Array Value} {below : List Frame} {meth : Method} {c : Code} {Q : State → Prop} {D : va_G} {dA : Nat → ClassId} {A : Nat → Prop} {al : List (Nat × Nat)} (C0 : sa_C p s m args c D dA A 8 vwCl sa_Ts cX12_planFrom yX12_planFrom.cls) (hU : sa_U D vwCl dA s) (hO : tb_Ou A s s.heap) (hKL : al.map Prod.snd = tc_KL) {v nm W row : Nat → Int} {T dn : Nat} {B : hx_pB} {c9 : Int} {μ : xw_M} (hG : xw_G xw_GL μ) (hK : hp_ok v nm) (hN : ∀ k : Nat, k < 77 → μ 202 k = v k) (hT : (T : Int) < v 0) (hW : ∀ f : Nat, f < 8 → 0 ≤ W f ∧ W f ≤ 171072) (hP : ∀ f : Nat, f < 8 → μ 212 (16 + f) = W f) (hrw : ∀ i : Nat, i < 2 → μ 213 i = row i) (hB : hx_bR B μ) (hdn : dn < 8) (hpc : hs_pc dn = 2) (hc : 0 ≤ c9 ∧ c9 ≤ 328458240) (hs : ¬ hx_sm W 8 = 0) (kx : ∀ ν : xw_M, hx_bR (hx_kp (hx_sd v T 1 2 W dn c9 row 2 B) (2 + 1) (c9 + hx_sm W 8 * 120) (hx_ru row 2 3)) ν → xw_F [(212, 24, 31), (213, 2, 3), (214, 0, 3), (200, 30, 31)] μ ν → xw_W p l e { frames := 4, cells := 0, slots := 0, locals := 170 } s m args below meth c Q D dA A 8 vwCl tb_KT0 al 0 0 ν 172 [] []) : xw_W p l e { frames := 4, cells := 0, slots := 0, locals := 170 } s m args below meth c Q D dA A 8 vwCl tb_KT0 al 0 0 μ 23 [(0, .ref (xw_ad al 200)), (1, .int (Int32.ofInt (T : Int))), (2, .int (Int32.ofInt 2)), (3, .int (Int32.ofInt (dn : Int))), (4, .int (Int32.ofInt c9)), (5, .int (Int32.ofInt (hx_sm W 8))), (6, .int (Int32.ofInt 2))] [] := by
  have k0 := hK.1
  have s9 := hx_smB (W := W) 8 hW
  have s9 : 0 ≤ hx_sm W 8 ∧ hx_sm W 8 ≤ 1368576 := ⟨s9.1, by have q := s9.2; omega⟩
  refine xw_iload (pc := 23) C0 6 dX12_planFrom_23 rfl ?_
  refine xw_iconst (pc := 25) C0 dX12_planFrom_25 ?_
  refine xw_icmp_ge (pc := 26) (tgt := 146) C0 (by omega) (by omega) dX12_planFrom_26 rfl (fun b1 => ?_) (fun b1 => ?_)
  · exfalso
    omega
  · refine xw_iload_n (pc := 29) C0 3 dX12_planFrom_29 rfl rfl ?_
    refine xw_iload (pc := 30) C0 6 dX12_planFrom_30 rfl ?_
    rcases hx_tf (dn.testBit 2) with b9 | b9
    · have n9 : tb_hb (Int32.ofInt (dn : Int)) (Int32.ofInt 2) = Int32.ofInt 1 := (xb_prB (u := 2) hdn (by decide +kernel)).trans (by rw [b9]; rfl)
      refine xw_bitS (pc := 32) (rest := []) (r := 1) C0 sa_Tg (pu_X12_has (l := l)) tv_1660 dX12_planFrom_32 tv_1658 tv_1659 tv_13 yb_X12_has (by decide +kernel) (by decide +kernel) (Nat.le_of_ble_eq_true rfl) n9 ?_
      refine xw_if_eq (pc := 35) (tgt := 41) C0 (by omega) dX12_planFrom_35 rfl (fun b2 => ?_) (fun b2 => ?_)
      · exfalso
        omega
      · refine xw_goto (pc := 38) (tgt := 140) C0 dX12_planFrom_38 rfl ?_
        refine xw_iinc (pc := 140) (L' := [(6, .int (Int32.ofInt 3)), (0, .ref (xw_ad al 200)), (1, .int (Int32.ofInt (T : Int))), (2, .int (Int32.ofInt 2)), (3, .int (Int32.ofInt (dn : Int))), (4, .int (Int32.ofInt c9)), (5, .int (Int32.ofInt (hx_sm W 8)))]) C0 6 dX12_planFrom_140 rfl (by decide +kernel) rfl ?_
        refine xw_goto (pc := 143) (tgt := 23) C0 dX12_planFrom_143 rfl ?_
        refine xw_pk [1, 2, 3, 4, 5, 6, 0] (L' := [(0, .ref (xw_ad al 200)), (1, .int (Int32.ofInt (T : Int))), (2, .int (Int32.ofInt 2)), (3, .int (Int32.ofInt (dn : Int))), (4, .int (Int32.ofInt c9)), (5, .int (Int32.ofInt (hx_sm W 8))), (6, .int (Int32.ofInt 3))]) rfl ?_
        rw [hx_sdT b9] at kx
        exact xr_tr2_3 (v := v) (nm := nm) (W := W) (row := row) (T := T) (dn := dn) (B := B) (c9 := c9) (μ := μ) C0 hU hO hKL hG hK hN hT hW hP hrw hB hdn hpc hc hs kx
    · have n9 : tb_hb (Int32.ofInt (dn : Int)) (Int32.ofInt 2) = Int32.ofInt 0 := (xb_prB (u := 2) hdn (by decide +kernel)).trans (by rw [b9]; rfl)
      refine xw_bitS (pc := 32) (rest := []) (r := 0) C0 sa_Tg (pu_X12_has (l := l)) tv_1660 dX12_planFrom_32 tv_1658 tv_1659 tv_13 yb_X12_has (by decide +kernel) (by decide +kernel) (Nat.le_of_ble_eq_true rfl) n9 ?_
      refine xw_if_eq (pc := 35) (tgt := 41) C0 (by omega) dX12_planFrom_35 rfl (fun b3 => ?_) (fun b3 => ?_)
      · refine xw_aload_n (pc := 41) C0 0 dX12_planFrom_41 rfl rfl ?_
        refine xw_getR (pc := 42) (f := 28) C0 213 kcX12 dX12_planFrom_42 (by decide +kernel) tv_1289 (xj_200 hKL) xk_0 rfl ((rfl).trans (xe_200_28 hG)) ?_
        refine xw_iload_n (pc := 45) C0 2 dX12_planFrom_45 rfl rfl ?_
        refine xw_iload (pc := 46) C0 6 dX12_planFrom_46 rfl ?_
        refine xw_iast (pc := 48) C0 dX12_planFrom_48 (xj_213 hKL) xk_83 (by omega) (by decide +kernel) (xw_rl (by omega)) (by omega) (by omega) ?_
        refine xw_mu (μ' := (xw_u μ 213 2 2)) rfl ?_
        refine xw_iconst (pc := 49) C0 dX12_planFrom_49 ?_
        refine xw_istore (pc := 50) (L' := [(7, .int (Int32.ofInt 0)), (0, .ref (xw_ad al 200)), (1, .int (Int32.ofInt (T : Int))), (2, .int (Int32.ofInt 2)), (3, .int (Int32.ofInt (dn : Int))), (4, .int (Int32.ofInt c9)), (5, .int (Int32.ofInt (hx_sm W 8))), (6, .int (Int32.ofInt 2))]) C0 dX12_planFrom_50 (by decide +kernel) rfl ?_
        have Ft1 : xw_F [(213, 2, 2)] μ (xw_u μ 213 2 2) := ((xw_F.rf (ML := [(213, 2, 2)])).u (show (213, 2, 2) ∈ _ by decide) ⟨by decide, by decide⟩)
        have vt1_213_2 : (xw_u μ 213 2 2) 213 2 = 2 := xw_ug
        generalize (xw_u μ 213 2 2) = t1 at Ft1 vt1_213_2 ⊢
        have hG_t1 := xw_GF hG Ft1 (by decide +kernel)
        have hN_t1 : ∀ k : Nat, k < 77 → t1 202 k = v k := fun k hk => (Ft1 202 k (xw_oj (by decide +kernel) k)).trans (hN k hk)
        have hP_t1 : ∀ f : Nat, f < 8 → t1 212 (16 + f) = W f := fun f hf => (Ft1 212 _ (xw_oj (by decide +kernel) _)).trans (hP f hf)
        refine xw_pk [1, 2, 3, 4, 5, 6, 7, 0] (L' := [(0, .ref (xw_ad al 200)), (1, .int (Int32.ofInt (T : Int))), (2, .int (Int32.ofInt 2)), (3, .int (Int32.ofInt (dn : Int))), (4, .int (Int32.ofInt c9)), (5, .int (Int32.ofInt (hx_sm W 8))), (6, .int (Int32.ofInt 2)), (7, .int (Int32.ofInt ((0 : Nat) : Int)))]) rfl ?_
        refine xr_wn22 (v := v) (nm := nm) (W := W) (T := T) (dn := dn) (c9 := c9) (μ := t1) C0 hU hO hKL hG_t1 hK hN_t1 hW hP_t1 (fun ν hz hF hG_ν => ?_) 9 0 t1 (by omega) (Nat.zero_le _) (fun i h => absurd h (Nat.not_lt_zero i)) xw_F.rf hG_t1
        have hN_ν : ∀ k : Nat, k < 77 → ν 202 k = v k := fun k hk => (hF 202 k (xw_oj (by decide +kernel) k)).trans (hN_t1 k hk)
        have o9 := xb_prO (u := 2) hdn (by decide +kernel) b9
        refine xw_aload_n (pc := 113) C0 0 dX12_planFrom_113 rfl rfl ?_
        refine xw_iload_n (pc := 114) C0 1 dX12_planFrom_114 rfl rfl ?_
        refine xw_iload_n (pc := 115) C0 2 dX12_planFrom_115 rfl rfl ?_
        refine xw_iconst (pc := 116) C0 dX12_planFrom_116 ?_
        refine xw_iadd (pc := 117) C0 dX12_planFrom_117 ?_
        refine  xw_nI (congrArg Int32.ofInt (show 2 + 1 = (3 : Int) by decide)) ?_
        refine xw_iload_n (pc := 118) C0 3 dX12_planFrom_118 rfl rfl ?_
        refine xw_iconst (pc := 119) C0 dX12_planFrom_119 ?_
        refine xw_iload (pc := 120) C0 6 dX12_planFrom_120 rfl ?_
        refine xw_ishl (pc := 122) C0 dX12_planFrom_122 (xb_shN (f := 2) (by decide +kernel)) ?_
        refine xw_ior (pc := 123) C0 dX12_planFrom_123 o9.1 ?_
        refine xw_iload (pc := 124) C0 4 dX12_planFrom_124 rfl ?_
        refine xw_iload (pc := 126) C0 5 dX12_planFrom_126 rfl ?_
        refine xw_aload_n (pc := 128) C0 0 dX12_planFrom_128 rfl rfl ?_
        refine xw_iload_n (pc := 129) C0 1 dX12_planFrom_129 rfl rfl ?_
        refine xw_iload (pc := 130) C0 6 dX12_planFrom_130 rfl ?_
        refine xw_callVI (pc := 132) (μ := ν) (ci := 12) (rest := [.int (Int32.ofInt (hx_sm W 8)), .int (Int32.ofInt c9), .int (Int32.ofInt ((dn + 2 ^ 2 : Nat) : Int)), .int (Int32.ofInt 3), .int (Int32.ofInt (T : Int)), .ref (xw_ad al 200)]) (As := [.int (Int32.ofInt (T : Int)), .int (Int32.ofInt 2)]) C0 hU hO sa_Tg hKL (xr_mo2 (l := l) (v := v) (nm := nm) (T := T) (μ := ν) hG_ν hK hN_ν hT) tv_1684 dX12_planFrom_132 tv_1681 tv_1683 tq_X12_minutesOf tv_13 rfl yb_X12_minutesOf (by decide +kernel) rfl rfl rfl (by decide +kernel) (Nat.le_of_ble_eq_true rfl) (xj_200 hKL) xk_0 (fun r61 m61 w61 => ?_)
        obtain ⟨rfl, w61⟩ := w61
        subst w61
        have v9 := hx_mul s9 (hx_pmB hK hT 2)
        refine xw_imul (pc := 135) C0 dX12_planFrom_135 ?_
        refine xw_iadd (pc := 136) C0 dX12_planFrom_136 ?_
        have hr9 : ∀ i : Nat, i < 3 → ν 213 i = hx_ru row 2 (2 : Int) i := fun i hi => by
          by_cases e9 : i = 2
          · subst e9; exact ((hF 213 _ (xw_oj (by decide +kernel) _)).trans vt1_213_2).trans (if_pos rfl).symm
          · exact ((hF 213 i (xw_oj (by decide +kernel) i)).trans ((Ft1 213 i (xw_oB (a := 0) (b := 1) (by decide +kernel) (Nat.zero_le _) (by omega))).trans (hrw i (by omega)))).trans (if_neg e9).symm
        have hB9 : hx_bR B ν := ⟨⟨hB.1.1, hB.1.2.1, (hF 200 31 (by decide +kernel)).trans ((Ft1 200 31 (by decide +kernel)).trans hB.1.2.2)⟩, fun q => ⟨(hF 200 30 (by decide +kernel)).trans ((Ft1 200 30 (by decide +kernel)).trans (hB.2 q).1), fun i h4 hi => (hF 214 i (xw_oj (by decide +kernel) i)).trans ((Ft1 214 i (xw_oj (by decide +kernel) i)).trans ((hB.2 q).2 i h4 hi))⟩⟩
        refine xw_callVV (pc := 137) (μ := ν) (ci := 12) (rest := []) (As := [.int (Int32.ofInt (T : Int)), .int (Int32.ofInt 3), .int (Int32.ofInt ((dn + 2 ^ 2 : Nat) : Int)), .int (Int32.ofInt (c9 + ((hx_sm W 8) * (hx_pm v T 2))))]) C0 hU hO sa_Tg hKL (xr_tr3 (l := l) (v := v) (nm := nm) (W := hx_nw v W 2) (row := hx_ru row 2 (2 : Int)) (T := T) (dn := dn + 2 ^ 2) (B := B) (c9 := c9 + hx_sm W 8 * hx_pm v T 2) (μ := ν) hG_ν hK hN_ν hT (fun f hf => hx_nwB hK (by decide +kernel) hf (hW f hf)) hz hr9 hB9 o9.2.1 (by rw [o9.2.2, hpc]) (by omega)) tv_1676 dX12_planFrom_137 tv_1673 tv_1675 tq_X12_planFrom tv_13 rfl yb_X12_planFrom (by decide +kernel) rfl rfl rfl (by decide +kernel) (Nat.le_of_ble_eq_true rfl) (xj_200 hKL) xk_0 (fun m62 w62 => ?_)
        obtain ⟨H62, F62⟩ := w62
        have hG_m62 := xw_GF hG_ν F62 (by decide +kernel)
        refine xw_iinc (pc := 140) (L' := [(6, .int (Int32.ofInt 3)), (0, .ref (xw_ad al 200)), (1, .int (Int32.ofInt (T : Int))), (2, .int (Int32.ofInt 2)), (3, .int (Int32.ofInt (dn : Int))), (4, .int (Int32.ofInt c9)), (5, .int (Int32.ofInt (hx_sm W 8)))]) C0 6 dX12_planFrom_140 rfl (by decide +kernel) rfl ?_
        refine xw_goto (pc := 143) (tgt := 23) C0 dX12_planFrom_143 rfl ?_
        have F9 : xw_F [(212, 24, 31), (213, 2, 3), (214, 0, 3), (200, 30, 31)] μ m62 := ((((xw_F.rf (ML := [(212, 24, 31), (213, 2, 3), (214, 0, 3), (200, 30, 31)])).tr Ft1 (fun j i h => xw_o_sub (by decide +kernel) j i h)).tr hF (fun j i h => xw_o_sub (by decide +kernel) j i h)).tr F62 (fun j i h => xw_o_sub (by decide +kernel) j i h))
        refine xw_pk [1, 2, 3, 4, 5, 6, 0] (L' := [(0, .ref (xw_ad al 200)), (1, .int (Int32.ofInt (T : Int))), (2, .int (Int32.ofInt 2)), (3, .int (Int32.ofInt (dn : Int))), (4, .int (Int32.ofInt c9)), (5, .int (Int32.ofInt (hx_sm W 8))), (6, .int (Int32.ofInt 3))]) rfl ?_
        rw [hx_sdF b9] at kx
        exact xr_tr2_3 (v := v) (nm := nm) (W := W) (row := row) (T := T) (dn := dn) (c9 := c9) (μ := m62) C0 hU hO hKL hG_m62 hK (fun k hk => (F9 202 k (xw_oj (by decide +kernel) k)).trans (hN k hk)) hT hW (fun f hf => (F9 212 _ (xw_oB (a := 16) (b := 23) (by decide +kernel) (by omega) (by omega))).trans (hP f hf)) (fun i hi => (F9 213 i (xw_oB (a := 0) (b := 1) (by decide +kernel) (Nat.zero_le _) (by omega))).trans (hrw i hi)) H62 hdn hpc hc hs (fun ν h1 h2 => kx ν h1 (F9.tr h2 (fun j i h => h)))
      · exfalso
        omega
set_option maxRecDepth 20000 in
set_option maxHeartbeats 20000000 in
theorem xr_tr2_1 {l : Launch} {p : Program} {e : Env} {s : State} {m : MethodId} {args : Array Value} {below : List Frame} {meth : Method} {c : Code} {Q : State → Prop} {D : va_G} {dA : Nat → ClassId} {A : Nat → Prop} {al : List (Nat × Nat)} (C0 : sa_C p s m args c D dA A 8 vwCl sa_Ts cX12_planFrom yX12_planFrom.cls) (hU : sa_U D vwCl dA s) (hO : tb_Ou A s s.heap) (hKL : al.map Prod.snd = tc_KL) {v nm W row : Nat → Int} {T dn : Nat} {B : hx_pB} {c9 : Int} {μ : xw_M} (hG : xw_G xw_GL μ) (hK : hp_ok v nm) (hN : ∀ k : Nat, k < 77 → μ 202 k = v k) (hT : (T : Int) < v 0) (hW : ∀ f : Nat, f < 8 → 0 ≤ W f ∧ W f ≤ 171072) (hP : ∀ f : Nat, f < 8 → μ 212 (16 + f) = W f) (hrw : ∀ i : Nat, i < 2 → μ 213 i = row i) (hB : hx_bR B μ) (hdn : dn < 8) (hpc : hs_pc dn = 2) (hc : 0 ≤ c9 ∧ c9 ≤ 328458240) (hs : ¬ hx_sm W 8 = 0) (kx : ∀ ν : xw_M, hx_bR (hx_kp (hx_sd v T 1 2 W dn c9 row 2 (hx_sd v T 1 2 W dn c9 row 1 B)) (2 + 1) (c9 + hx_sm W 8 * 120) (hx_ru row 2 3)) ν → xw_F [(212, 24, 31), (213, 2, 3), (214, 0, 3), (200, 30, 31)] μ ν → xw_W p l e { frames := 4, cells := 0, slots := 0, locals := 170 } s m args below meth c Q D dA A 8 vwCl tb_KT0 al 0 0 ν 172 [] []) : xw_W p l e { frames := 4, cells := 0, slots := 0, locals := 170 } s m args below meth c Q D dA A 8 vwCl tb_KT0 al 0 0 μ 23 [(0, .ref (xw_ad al 200)), (1, .int (Int32.ofInt (T : Int))), (2, .int (Int32.ofInt 2)), (3, .int (Int32.ofInt (dn : Int))), (4, .int (Int32.ofInt c9)), (5, .int (Int32.ofInt (hx_sm W 8))), (6, .int (Int32.ofInt 1))] [] := by
  have k0 := hK.1
  have s9 := hx_smB (W := W) 8 hW
  have s9 : 0 ≤ hx_sm W 8 ∧ hx_sm W 8 ≤ 1368576 := ⟨s9.1, by have q := s9.2; omega⟩
  refine xw_iload (pc := 23) C0 6 dX12_planFrom_23 rfl ?_
  refine xw_iconst (pc := 25) C0 dX12_planFrom_25 ?_
  refine xw_icmp_ge (pc := 26) (tgt := 146) C0 (by omega) (by omega) dX12_planFrom_26 rfl (fun b1 => ?_) (fun b1 => ?_)
  · exfalso
    omega
  · refine xw_iload_n (pc := 29) C0 3 dX12_planFrom_29 rfl rfl ?_
    refine xw_iload (pc := 30) C0 6 dX12_planFrom_30 rfl ?_
    rcases hx_tf (dn.testBit 1) with b9 | b9
    · have n9 : tb_hb (Int32.ofInt (dn : Int)) (Int32.ofInt 1) = Int32.ofInt 1 := (xb_prB (u := 1) hdn (by decide +kernel)).trans (by rw [b9]; rfl)
      refine xw_bitS (pc := 32) (rest := []) (r := 1) C0 sa_Tg (pu_X12_has (l := l)) tv_1660 dX12_planFrom_32 tv_1658 tv_1659 tv_13 yb_X12_has (by decide +kernel) (by decide +kernel) (Nat.le_of_ble_eq_true rfl) n9 ?_
      refine xw_if_eq (pc := 35) (tgt := 41) C0 (by omega) dX12_planFrom_35 rfl (fun b2 => ?_) (fun b2 => ?_)
      · exfalso
        omega
      · refine xw_goto (pc := 38) (tgt := 140) C0 dX12_planFrom_38 rfl ?_
        refine xw_iinc (pc := 140) (L' := [(6, .int (Int32.ofInt 2)), (0, .ref (xw_ad al 200)), (1, .int (Int32.ofInt (T : Int))), (2, .int (Int32.ofInt 2)), (3, .int (Int32.ofInt (dn : Int))), (4, .int (Int32.ofInt c9)), (5, .int (Int32.ofInt (hx_sm W 8)))]) C0 6 dX12_planFrom_140 rfl (by decide +kernel) rfl ?_
        refine xw_goto (pc := 143) (tgt := 23) C0 dX12_planFrom_143 rfl ?_
        refine xw_pk [1, 2, 3, 4, 5, 6, 0] (L' := [(0, .ref (xw_ad al 200)), (1, .int (Int32.ofInt (T : Int))), (2, .int (Int32.ofInt 2)), (3, .int (Int32.ofInt (dn : Int))), (4, .int (Int32.ofInt c9)), (5, .int (Int32.ofInt (hx_sm W 8))), (6, .int (Int32.ofInt 2))]) rfl ?_
        rw [hx_sdT b9] at kx
        exact xr_tr2_2 (v := v) (nm := nm) (W := W) (row := row) (T := T) (dn := dn) (B := B) (c9 := c9) (μ := μ) C0 hU hO hKL hG hK hN hT hW hP hrw hB hdn hpc hc hs kx
    · have n9 : tb_hb (Int32.ofInt (dn : Int)) (Int32.ofInt 1) = Int32.ofInt 0 := (xb_prB (u := 1) hdn (by decide +kernel)).trans (by rw [b9]; rfl)
      refine xw_bitS (pc := 32) (rest := []) (r := 0) C0 sa_Tg (pu_X12_has (l := l)) tv_1660 dX12_planFrom_32 tv_1658 tv_1659 tv_13 yb_X12_has (by decide +kernel) (by decide +kernel) (Nat.le_of_ble_eq_true rfl) n9 ?_
      refine xw_if_eq (pc := 35) (tgt := 41) C0 (by omega) dX12_planFrom_35 rfl (fun b3 => ?_) (fun b3 => ?_)
      · refine xw_aload_n (pc := 41) C0 0 dX12_planFrom_41 rfl rfl ?_
        refine xw_getR (pc := 42) (f := 28) C0 213 kcX12 dX12_planFrom_42 (by decide +kernel) tv_1289 (xj_200 hKL) xk_0 rfl ((rfl).trans (xe_200_28 hG)) ?_
        refine xw_iload_n (pc := 45) C0 2 dX12_planFrom_45 rfl rfl ?_
        refine xw_iload (pc := 46) C0 6 dX12_planFrom_46 rfl ?_
        refine xw_iast (pc := 48) C0 dX12_planFrom_48 (xj_213 hKL) xk_83 (by omega) (by decide +kernel) (xw_rl (by omega)) (by omega) (by omega) ?_
        refine xw_mu (μ' := (xw_u μ 213 2 1)) rfl ?_
        refine xw_iconst (pc := 49) C0 dX12_planFrom_49 ?_
        refine xw_istore (pc := 50) (L' := [(7, .int (Int32.ofInt 0)), (0, .ref (xw_ad al 200)), (1, .int (Int32.ofInt (T : Int))), (2, .int (Int32.ofInt 2)), (3, .int (Int32.ofInt (dn : Int))), (4, .int (Int32.ofInt c9)), (5, .int (Int32.ofInt (hx_sm W 8))), (6, .int (Int32.ofInt 1))]) C0 dX12_planFrom_50 (by decide +kernel) rfl ?_
        have Ft1 : xw_F [(213, 2, 2)] μ (xw_u μ 213 2 1) := ((xw_F.rf (ML := [(213, 2, 2)])).u (show (213, 2, 2) ∈ _ by decide) ⟨by decide, by decide⟩)
        have vt1_213_2 : (xw_u μ 213 2 1) 213 2 = 1 := xw_ug
        generalize (xw_u μ 213 2 1) = t1 at Ft1 vt1_213_2 ⊢
        have hG_t1 := xw_GF hG Ft1 (by decide +kernel)
        have hN_t1 : ∀ k : Nat, k < 77 → t1 202 k = v k := fun k hk => (Ft1 202 k (xw_oj (by decide +kernel) k)).trans (hN k hk)
        have hP_t1 : ∀ f : Nat, f < 8 → t1 212 (16 + f) = W f := fun f hf => (Ft1 212 _ (xw_oj (by decide +kernel) _)).trans (hP f hf)
        refine xw_pk [1, 2, 3, 4, 5, 6, 7, 0] (L' := [(0, .ref (xw_ad al 200)), (1, .int (Int32.ofInt (T : Int))), (2, .int (Int32.ofInt 2)), (3, .int (Int32.ofInt (dn : Int))), (4, .int (Int32.ofInt c9)), (5, .int (Int32.ofInt (hx_sm W 8))), (6, .int (Int32.ofInt 1)), (7, .int (Int32.ofInt ((0 : Nat) : Int)))]) rfl ?_
        refine xr_wn21 (v := v) (nm := nm) (W := W) (T := T) (dn := dn) (c9 := c9) (μ := t1) C0 hU hO hKL hG_t1 hK hN_t1 hW hP_t1 (fun ν hz hF hG_ν => ?_) 9 0 t1 (by omega) (Nat.zero_le _) (fun i h => absurd h (Nat.not_lt_zero i)) xw_F.rf hG_t1
        have hN_ν : ∀ k : Nat, k < 77 → ν 202 k = v k := fun k hk => (hF 202 k (xw_oj (by decide +kernel) k)).trans (hN_t1 k hk)
        have o9 := xb_prO (u := 1) hdn (by decide +kernel) b9
        refine xw_aload_n (pc := 113) C0 0 dX12_planFrom_113 rfl rfl ?_
        refine xw_iload_n (pc := 114) C0 1 dX12_planFrom_114 rfl rfl ?_
        refine xw_iload_n (pc := 115) C0 2 dX12_planFrom_115 rfl rfl ?_
        refine xw_iconst (pc := 116) C0 dX12_planFrom_116 ?_
        refine xw_iadd (pc := 117) C0 dX12_planFrom_117 ?_
        refine  xw_nI (congrArg Int32.ofInt (show 2 + 1 = (3 : Int) by decide)) ?_
        refine xw_iload_n (pc := 118) C0 3 dX12_planFrom_118 rfl rfl ?_
        refine xw_iconst (pc := 119) C0 dX12_planFrom_119 ?_
        refine xw_iload (pc := 120) C0 6 dX12_planFrom_120 rfl ?_
        refine xw_ishl (pc := 122) C0 dX12_planFrom_122 (xb_shN (f := 1) (by decide +kernel)) ?_
        refine xw_ior (pc := 123) C0 dX12_planFrom_123 o9.1 ?_
        refine xw_iload (pc := 124) C0 4 dX12_planFrom_124 rfl ?_
        refine xw_iload (pc := 126) C0 5 dX12_planFrom_126 rfl ?_
        refine xw_aload_n (pc := 128) C0 0 dX12_planFrom_128 rfl rfl ?_
        refine xw_iload_n (pc := 129) C0 1 dX12_planFrom_129 rfl rfl ?_
        refine xw_iload (pc := 130) C0 6 dX12_planFrom_130 rfl ?_
        refine xw_callVI (pc := 132) (μ := ν) (ci := 12) (rest := [.int (Int32.ofInt (hx_sm W 8)), .int (Int32.ofInt c9), .int (Int32.ofInt ((dn + 2 ^ 1 : Nat) : Int)), .int (Int32.ofInt 3), .int (Int32.ofInt (T : Int)), .ref (xw_ad al 200)]) (As := [.int (Int32.ofInt (T : Int)), .int (Int32.ofInt 1)]) C0 hU hO sa_Tg hKL (xr_mo1 (l := l) (v := v) (nm := nm) (T := T) (μ := ν) hG_ν hK hN_ν hT) tv_1684 dX12_planFrom_132 tv_1681 tv_1683 tq_X12_minutesOf tv_13 rfl yb_X12_minutesOf (by decide +kernel) rfl rfl rfl (by decide +kernel) (Nat.le_of_ble_eq_true rfl) (xj_200 hKL) xk_0 (fun r61 m61 w61 => ?_)
        obtain ⟨rfl, w61⟩ := w61
        subst w61
        have v9 := hx_mul s9 (hx_pmB hK hT 1)
        refine xw_imul (pc := 135) C0 dX12_planFrom_135 ?_
        refine xw_iadd (pc := 136) C0 dX12_planFrom_136 ?_
        have hr9 : ∀ i : Nat, i < 3 → ν 213 i = hx_ru row 2 (1 : Int) i := fun i hi => by
          by_cases e9 : i = 2
          · subst e9; exact ((hF 213 _ (xw_oj (by decide +kernel) _)).trans vt1_213_2).trans (if_pos rfl).symm
          · exact ((hF 213 i (xw_oj (by decide +kernel) i)).trans ((Ft1 213 i (xw_oB (a := 0) (b := 1) (by decide +kernel) (Nat.zero_le _) (by omega))).trans (hrw i (by omega)))).trans (if_neg e9).symm
        have hB9 : hx_bR B ν := ⟨⟨hB.1.1, hB.1.2.1, (hF 200 31 (by decide +kernel)).trans ((Ft1 200 31 (by decide +kernel)).trans hB.1.2.2)⟩, fun q => ⟨(hF 200 30 (by decide +kernel)).trans ((Ft1 200 30 (by decide +kernel)).trans (hB.2 q).1), fun i h4 hi => (hF 214 i (xw_oj (by decide +kernel) i)).trans ((Ft1 214 i (xw_oj (by decide +kernel) i)).trans ((hB.2 q).2 i h4 hi))⟩⟩
        refine xw_callVV (pc := 137) (μ := ν) (ci := 12) (rest := []) (As := [.int (Int32.ofInt (T : Int)), .int (Int32.ofInt 3), .int (Int32.ofInt ((dn + 2 ^ 1 : Nat) : Int)), .int (Int32.ofInt (c9 + ((hx_sm W 8) * (hx_pm v T 1))))]) C0 hU hO sa_Tg hKL (xr_tr3 (l := l) (v := v) (nm := nm) (W := hx_nw v W 1) (row := hx_ru row 2 (1 : Int)) (T := T) (dn := dn + 2 ^ 1) (B := B) (c9 := c9 + hx_sm W 8 * hx_pm v T 1) (μ := ν) hG_ν hK hN_ν hT (fun f hf => hx_nwB hK (by decide +kernel) hf (hW f hf)) hz hr9 hB9 o9.2.1 (by rw [o9.2.2, hpc]) (by omega)) tv_1676 dX12_planFrom_137 tv_1673 tv_1675 tq_X12_planFrom tv_13 rfl yb_X12_planFrom (by decide +kernel) rfl rfl rfl (by decide +kernel) (Nat.le_of_ble_eq_true rfl) (xj_200 hKL) xk_0 (fun m62 w62 => ?_)
        obtain ⟨H62, F62⟩ := w62
        have hG_m62 := xw_GF hG_ν F62 (by decide +kernel)
        refine xw_iinc (pc := 140) (L' := [(6, .int (Int32.ofInt 2)), (0, .ref (xw_ad al 200)), (1, .int (Int32.ofInt (T : Int))), (2, .int (Int32.ofInt 2)), (3, .int (Int32.ofInt (dn : Int))), (4, .int (Int32.ofInt c9)), (5, .int (Int32.ofInt (hx_sm W 8)))]) C0 6 dX12_planFrom_140 rfl (by decide +kernel) rfl ?_
        refine xw_goto (pc := 143) (tgt := 23) C0 dX12_planFrom_143 rfl ?_
        have F9 : xw_F [(212, 24, 31), (213, 2, 3), (214, 0, 3), (200, 30, 31)] μ m62 := ((((xw_F.rf (ML := [(212, 24, 31), (213, 2, 3), (214, 0, 3), (200, 30, 31)])).tr Ft1 (fun j i h => xw_o_sub (by decide +kernel) j i h)).tr hF (fun j i h => xw_o_sub (by decide +kernel) j i h)).tr F62 (fun j i h => xw_o_sub (by decide +kernel) j i h))
        refine xw_pk [1, 2, 3, 4, 5, 6, 0] (L' := [(0, .ref (xw_ad al 200)), (1, .int (Int32.ofInt (T : Int))), (2, .int (Int32.ofInt 2)), (3, .int (Int32.ofInt (dn : Int))), (4, .int (Int32.ofInt c9)), (5, .int (Int32.ofInt (hx_sm W 8))), (6, .int (Int32.ofInt 2))]) rfl ?_
        rw [hx_sdF b9] at kx
        exact xr_tr2_2 (v := v) (nm := nm) (W := W) (row := row) (T := T) (dn := dn) (c9 := c9) (μ := m62) C0 hU hO hKL hG_m62 hK (fun k hk => (F9 202 k (xw_oj (by decide +kernel) k)).trans (hN k hk)) hT hW (fun f hf => (F9 212 _ (xw_oB (a := 16) (b := 23) (by decide +kernel) (by omega) (by omega))).trans (hP f hf)) (fun i hi => (F9 213 i (xw_oB (a := 0) (b := 1) (by decide +kernel) (Nat.zero_le _) (by omega))).trans (hrw i hi)) H62 hdn hpc hc hs (fun ν h1 h2 => kx ν h1 (F9.tr h2 (fun j i h => h)))
      · exfalso
        omega
set_option maxRecDepth 20000 in
set_option maxHeartbeats 20000000 in
theorem xr_tr2_0 {l : Launch} {p : Program} {e : Env} {s : State} {m : MethodId} {args : Array Value} {below : List Frame} {meth : Method} {c : Code} {Q : State → Prop} {D : va_G} {dA : Nat → ClassId} {A : Nat → Prop} {al : List (Nat × Nat)} (C0 : sa_C p s m args c D dA A 8 vwCl sa_Ts cX12_planFrom yX12_planFrom.cls) (hU : sa_U D vwCl dA s) (hO : tb_Ou A s s.heap) (hKL : al.map Prod.snd = tc_KL) {v nm W row : Nat → Int} {T dn : Nat} {B : hx_pB} {c9 : Int} {μ : xw_M} (hG : xw_G xw_GL μ) (hK : hp_ok v nm) (hN : ∀ k : Nat, k < 77 → μ 202 k = v k) (hT : (T : Int) < v 0) (hW : ∀ f : Nat, f < 8 → 0 ≤ W f ∧ W f ≤ 171072) (hP : ∀ f : Nat, f < 8 → μ 212 (16 + f) = W f) (hrw : ∀ i : Nat, i < 2 → μ 213 i = row i) (hB : hx_bR B μ) (hdn : dn < 8) (hpc : hs_pc dn = 2) (hc : 0 ≤ c9 ∧ c9 ≤ 328458240) (hs : ¬ hx_sm W 8 = 0) (kx : ∀ ν : xw_M, hx_bR (hx_kp (hx_sd v T 1 2 W dn c9 row 2 (hx_sd v T 1 2 W dn c9 row 1 (hx_sd v T 1 2 W dn c9 row 0 B))) (2 + 1) (c9 + hx_sm W 8 * 120) (hx_ru row 2 3)) ν → xw_F [(212, 24, 31), (213, 2, 3), (214, 0, 3), (200, 30, 31)] μ ν → xw_W p l e { frames := 4, cells := 0, slots := 0, locals := 170 } s m args below meth c Q D dA A 8 vwCl tb_KT0 al 0 0 ν 172 [] []) : xw_W p l e { frames := 4, cells := 0, slots := 0, locals := 170 } s m args below meth c Q D dA A 8 vwCl tb_KT0 al 0 0 μ 23 [(0, .ref (xw_ad al 200)), (1, .int (Int32.ofInt (T : Int))), (2, .int (Int32.ofInt 2)), (3, .int (Int32.ofInt (dn : Int))), (4, .int (Int32.ofInt c9)), (5, .int (Int32.ofInt (hx_sm W 8))), (6, .int (Int32.ofInt 0))] [] := by
  have k0 := hK.1
  have s9 := hx_smB (W := W) 8 hW
  have s9 : 0 ≤ hx_sm W 8 ∧ hx_sm W 8 ≤ 1368576 := ⟨s9.1, by have q := s9.2; omega⟩
  refine xw_iload (pc := 23) C0 6 dX12_planFrom_23 rfl ?_
  refine xw_iconst (pc := 25) C0 dX12_planFrom_25 ?_
  refine xw_icmp_ge (pc := 26) (tgt := 146) C0 (by omega) (by omega) dX12_planFrom_26 rfl (fun b1 => ?_) (fun b1 => ?_)
  · exfalso
    omega
  · refine xw_iload_n (pc := 29) C0 3 dX12_planFrom_29 rfl rfl ?_
    refine xw_iload (pc := 30) C0 6 dX12_planFrom_30 rfl ?_
    rcases hx_tf (dn.testBit 0) with b9 | b9
    · have n9 : tb_hb (Int32.ofInt (dn : Int)) (Int32.ofInt 0) = Int32.ofInt 1 := (xb_prB (u := 0) hdn (by decide +kernel)).trans (by rw [b9]; rfl)
      refine xw_bitS (pc := 32) (rest := []) (r := 1) C0 sa_Tg (pu_X12_has (l := l)) tv_1660 dX12_planFrom_32 tv_1658 tv_1659 tv_13 yb_X12_has (by decide +kernel) (by decide +kernel) (Nat.le_of_ble_eq_true rfl) n9 ?_
      refine xw_if_eq (pc := 35) (tgt := 41) C0 (by omega) dX12_planFrom_35 rfl (fun b2 => ?_) (fun b2 => ?_)
      · exfalso
        omega
      · refine xw_goto (pc := 38) (tgt := 140) C0 dX12_planFrom_38 rfl ?_
        refine xw_iinc (pc := 140) (L' := [(6, .int (Int32.ofInt 1)), (0, .ref (xw_ad al 200)), (1, .int (Int32.ofInt (T : Int))), (2, .int (Int32.ofInt 2)), (3, .int (Int32.ofInt (dn : Int))), (4, .int (Int32.ofInt c9)), (5, .int (Int32.ofInt (hx_sm W 8)))]) C0 6 dX12_planFrom_140 rfl (by decide +kernel) rfl ?_
        refine xw_goto (pc := 143) (tgt := 23) C0 dX12_planFrom_143 rfl ?_
        refine xw_pk [1, 2, 3, 4, 5, 6, 0] (L' := [(0, .ref (xw_ad al 200)), (1, .int (Int32.ofInt (T : Int))), (2, .int (Int32.ofInt 2)), (3, .int (Int32.ofInt (dn : Int))), (4, .int (Int32.ofInt c9)), (5, .int (Int32.ofInt (hx_sm W 8))), (6, .int (Int32.ofInt 1))]) rfl ?_
        rw [hx_sdT b9] at kx
        exact xr_tr2_1 (v := v) (nm := nm) (W := W) (row := row) (T := T) (dn := dn) (B := B) (c9 := c9) (μ := μ) C0 hU hO hKL hG hK hN hT hW hP hrw hB hdn hpc hc hs kx
    · have n9 : tb_hb (Int32.ofInt (dn : Int)) (Int32.ofInt 0) = Int32.ofInt 0 := (xb_prB (u := 0) hdn (by decide +kernel)).trans (by rw [b9]; rfl)
      refine xw_bitS (pc := 32) (rest := []) (r := 0) C0 sa_Tg (pu_X12_has (l := l)) tv_1660 dX12_planFrom_32 tv_1658 tv_1659 tv_13 yb_X12_has (by decide +kernel) (by decide +kernel) (Nat.le_of_ble_eq_true rfl) n9 ?_
      refine xw_if_eq (pc := 35) (tgt := 41) C0 (by omega) dX12_planFrom_35 rfl (fun b3 => ?_) (fun b3 => ?_)
      · refine xw_aload_n (pc := 41) C0 0 dX12_planFrom_41 rfl rfl ?_
        refine xw_getR (pc := 42) (f := 28) C0 213 kcX12 dX12_planFrom_42 (by decide +kernel) tv_1289 (xj_200 hKL) xk_0 rfl ((rfl).trans (xe_200_28 hG)) ?_
        refine xw_iload_n (pc := 45) C0 2 dX12_planFrom_45 rfl rfl ?_
        refine xw_iload (pc := 46) C0 6 dX12_planFrom_46 rfl ?_
        refine xw_iast (pc := 48) C0 dX12_planFrom_48 (xj_213 hKL) xk_83 (by omega) (by decide +kernel) (xw_rl (by omega)) (by omega) (by omega) ?_
        refine xw_mu (μ' := (xw_u μ 213 2 0)) rfl ?_
        refine xw_iconst (pc := 49) C0 dX12_planFrom_49 ?_
        refine xw_istore (pc := 50) (L' := [(7, .int (Int32.ofInt 0)), (0, .ref (xw_ad al 200)), (1, .int (Int32.ofInt (T : Int))), (2, .int (Int32.ofInt 2)), (3, .int (Int32.ofInt (dn : Int))), (4, .int (Int32.ofInt c9)), (5, .int (Int32.ofInt (hx_sm W 8))), (6, .int (Int32.ofInt 0))]) C0 dX12_planFrom_50 (by decide +kernel) rfl ?_
        have Ft1 : xw_F [(213, 2, 2)] μ (xw_u μ 213 2 0) := ((xw_F.rf (ML := [(213, 2, 2)])).u (show (213, 2, 2) ∈ _ by decide) ⟨by decide, by decide⟩)
        have vt1_213_2 : (xw_u μ 213 2 0) 213 2 = 0 := xw_ug
        generalize (xw_u μ 213 2 0) = t1 at Ft1 vt1_213_2 ⊢
        have hG_t1 := xw_GF hG Ft1 (by decide +kernel)
        have hN_t1 : ∀ k : Nat, k < 77 → t1 202 k = v k := fun k hk => (Ft1 202 k (xw_oj (by decide +kernel) k)).trans (hN k hk)
        have hP_t1 : ∀ f : Nat, f < 8 → t1 212 (16 + f) = W f := fun f hf => (Ft1 212 _ (xw_oj (by decide +kernel) _)).trans (hP f hf)
        refine xw_pk [1, 2, 3, 4, 5, 6, 7, 0] (L' := [(0, .ref (xw_ad al 200)), (1, .int (Int32.ofInt (T : Int))), (2, .int (Int32.ofInt 2)), (3, .int (Int32.ofInt (dn : Int))), (4, .int (Int32.ofInt c9)), (5, .int (Int32.ofInt (hx_sm W 8))), (6, .int (Int32.ofInt 0)), (7, .int (Int32.ofInt ((0 : Nat) : Int)))]) rfl ?_
        refine xr_wn20 (v := v) (nm := nm) (W := W) (T := T) (dn := dn) (c9 := c9) (μ := t1) C0 hU hO hKL hG_t1 hK hN_t1 hW hP_t1 (fun ν hz hF hG_ν => ?_) 9 0 t1 (by omega) (Nat.zero_le _) (fun i h => absurd h (Nat.not_lt_zero i)) xw_F.rf hG_t1
        have hN_ν : ∀ k : Nat, k < 77 → ν 202 k = v k := fun k hk => (hF 202 k (xw_oj (by decide +kernel) k)).trans (hN_t1 k hk)
        have o9 := xb_prO (u := 0) hdn (by decide +kernel) b9
        refine xw_aload_n (pc := 113) C0 0 dX12_planFrom_113 rfl rfl ?_
        refine xw_iload_n (pc := 114) C0 1 dX12_planFrom_114 rfl rfl ?_
        refine xw_iload_n (pc := 115) C0 2 dX12_planFrom_115 rfl rfl ?_
        refine xw_iconst (pc := 116) C0 dX12_planFrom_116 ?_
        refine xw_iadd (pc := 117) C0 dX12_planFrom_117 ?_
        refine  xw_nI (congrArg Int32.ofInt (show 2 + 1 = (3 : Int) by decide)) ?_
        refine xw_iload_n (pc := 118) C0 3 dX12_planFrom_118 rfl rfl ?_
        refine xw_iconst (pc := 119) C0 dX12_planFrom_119 ?_
        refine xw_iload (pc := 120) C0 6 dX12_planFrom_120 rfl ?_
        refine xw_ishl (pc := 122) C0 dX12_planFrom_122 (xb_shN (f := 0) (by decide +kernel)) ?_
        refine xw_ior (pc := 123) C0 dX12_planFrom_123 o9.1 ?_
        refine xw_iload (pc := 124) C0 4 dX12_planFrom_124 rfl ?_
        refine xw_iload (pc := 126) C0 5 dX12_planFrom_126 rfl ?_
        refine xw_aload_n (pc := 128) C0 0 dX12_planFrom_128 rfl rfl ?_
        refine xw_iload_n (pc := 129) C0 1 dX12_planFrom_129 rfl rfl ?_
        refine xw_iload (pc := 130) C0 6 dX12_planFrom_130 rfl ?_
        refine xw_callVI (pc := 132) (μ := ν) (ci := 12) (rest := [.int (Int32.ofInt (hx_sm W 8)), .int (Int32.ofInt c9), .int (Int32.ofInt ((dn + 2 ^ 0 : Nat) : Int)), .int (Int32.ofInt 3), .int (Int32.ofInt (T : Int)), .ref (xw_ad al 200)]) (As := [.int (Int32.ofInt (T : Int)), .int (Int32.ofInt 0)]) C0 hU hO sa_Tg hKL (xr_mo0 (l := l) (v := v) (nm := nm) (T := T) (μ := ν) hG_ν hK hN_ν hT) tv_1684 dX12_planFrom_132 tv_1681 tv_1683 tq_X12_minutesOf tv_13 rfl yb_X12_minutesOf (by decide +kernel) rfl rfl rfl (by decide +kernel) (Nat.le_of_ble_eq_true rfl) (xj_200 hKL) xk_0 (fun r61 m61 w61 => ?_)
        obtain ⟨rfl, w61⟩ := w61
        subst w61
        have v9 := hx_mul s9 (hx_pmB hK hT 0)
        refine xw_imul (pc := 135) C0 dX12_planFrom_135 ?_
        refine xw_iadd (pc := 136) C0 dX12_planFrom_136 ?_
        have hr9 : ∀ i : Nat, i < 3 → ν 213 i = hx_ru row 2 (0 : Int) i := fun i hi => by
          by_cases e9 : i = 2
          · subst e9; exact ((hF 213 _ (xw_oj (by decide +kernel) _)).trans vt1_213_2).trans (if_pos rfl).symm
          · exact ((hF 213 i (xw_oj (by decide +kernel) i)).trans ((Ft1 213 i (xw_oB (a := 0) (b := 1) (by decide +kernel) (Nat.zero_le _) (by omega))).trans (hrw i (by omega)))).trans (if_neg e9).symm
        have hB9 : hx_bR B ν := ⟨⟨hB.1.1, hB.1.2.1, (hF 200 31 (by decide +kernel)).trans ((Ft1 200 31 (by decide +kernel)).trans hB.1.2.2)⟩, fun q => ⟨(hF 200 30 (by decide +kernel)).trans ((Ft1 200 30 (by decide +kernel)).trans (hB.2 q).1), fun i h4 hi => (hF 214 i (xw_oj (by decide +kernel) i)).trans ((Ft1 214 i (xw_oj (by decide +kernel) i)).trans ((hB.2 q).2 i h4 hi))⟩⟩
        refine xw_callVV (pc := 137) (μ := ν) (ci := 12) (rest := []) (As := [.int (Int32.ofInt (T : Int)), .int (Int32.ofInt 3), .int (Int32.ofInt ((dn + 2 ^ 0 : Nat) : Int)), .int (Int32.ofInt (c9 + ((hx_sm W 8) * (hx_pm v T 0))))]) C0 hU hO sa_Tg hKL (xr_tr3 (l := l) (v := v) (nm := nm) (W := hx_nw v W 0) (row := hx_ru row 2 (0 : Int)) (T := T) (dn := dn + 2 ^ 0) (B := B) (c9 := c9 + hx_sm W 8 * hx_pm v T 0) (μ := ν) hG_ν hK hN_ν hT (fun f hf => hx_nwB hK (by decide +kernel) hf (hW f hf)) hz hr9 hB9 o9.2.1 (by rw [o9.2.2, hpc]) (by omega)) tv_1676 dX12_planFrom_137 tv_1673 tv_1675 tq_X12_planFrom tv_13 rfl yb_X12_planFrom (by decide +kernel) rfl rfl rfl (by decide +kernel) (Nat.le_of_ble_eq_true rfl) (xj_200 hKL) xk_0 (fun m62 w62 => ?_)
        obtain ⟨H62, F62⟩ := w62
        have hG_m62 := xw_GF hG_ν F62 (by decide +kernel)
        refine xw_iinc (pc := 140) (L' := [(6, .int (Int32.ofInt 1)), (0, .ref (xw_ad al 200)), (1, .int (Int32.ofInt (T : Int))), (2, .int (Int32.ofInt 2)), (3, .int (Int32.ofInt (dn : Int))), (4, .int (Int32.ofInt c9)), (5, .int (Int32.ofInt (hx_sm W 8)))]) C0 6 dX12_planFrom_140 rfl (by decide +kernel) rfl ?_
        refine xw_goto (pc := 143) (tgt := 23) C0 dX12_planFrom_143 rfl ?_
        have F9 : xw_F [(212, 24, 31), (213, 2, 3), (214, 0, 3), (200, 30, 31)] μ m62 := ((((xw_F.rf (ML := [(212, 24, 31), (213, 2, 3), (214, 0, 3), (200, 30, 31)])).tr Ft1 (fun j i h => xw_o_sub (by decide +kernel) j i h)).tr hF (fun j i h => xw_o_sub (by decide +kernel) j i h)).tr F62 (fun j i h => xw_o_sub (by decide +kernel) j i h))
        refine xw_pk [1, 2, 3, 4, 5, 6, 0] (L' := [(0, .ref (xw_ad al 200)), (1, .int (Int32.ofInt (T : Int))), (2, .int (Int32.ofInt 2)), (3, .int (Int32.ofInt (dn : Int))), (4, .int (Int32.ofInt c9)), (5, .int (Int32.ofInt (hx_sm W 8))), (6, .int (Int32.ofInt 1))]) rfl ?_
        rw [hx_sdF b9] at kx
        exact xr_tr2_1 (v := v) (nm := nm) (W := W) (row := row) (T := T) (dn := dn) (c9 := c9) (μ := m62) C0 hU hO hKL hG_m62 hK (fun k hk => (F9 202 k (xw_oj (by decide +kernel) k)).trans (hN k hk)) hT hW (fun f hf => (F9 212 _ (xw_oB (a := 16) (b := 23) (by decide +kernel) (by omega) (by omega))).trans (hP f hf)) (fun i hi => (F9 213 i (xw_oB (a := 0) (b := 1) (by decide +kernel) (Nat.zero_le _) (by omega))).trans (hrw i hi)) H62 hdn hpc hc hs (fun ν h1 h2 => kx ν h1 (F9.tr h2 (fun j i h => h)))
      · exfalso
        omega
set_option maxRecDepth 20000 in
set_option maxHeartbeats 20000000 in
theorem xr_tr2 {l : Launch} {v nm W row : Nat → Int} {T dn : Nat} {B : hx_pB} {c9 : Int} {μ : xw_M} (hG : xw_G xw_GL μ) (hK : hp_ok v nm) (hN : ∀ k : Nat, k < 77 → μ 202 k = v k) (hT : (T : Int) < v 0) (hW : ∀ f : Nat, f < 8 → 0 ≤ W f ∧ W f ≤ 171072) (hP : ∀ f : Nat, f < 8 → μ 212 (16 + f) = W f) (hrw : ∀ i : Nat, i < 2 → μ 213 i = row i) (hB : hx_bR B μ) (hdn : dn < 8) (hpc : hs_pc dn = 2) (hc : 0 ≤ c9 ∧ c9 ≤ 328458240) : xw_MetV l vwCl sa_Ts tb_KT0 tc_KL yX12_planFrom cX12_planFrom 8 none 4 170 (fun ad => [.ref (ad 200), .int (Int32.ofInt (T : Int)), .int (Int32.ofInt 2), .int (Int32.ofInt (dn : Int)), .int (Int32.ofInt c9)]) μ (fun μ' => hx_bR (hx_S v T 2 2 W dn c9 row B) μ' ∧ xw_F [(212, 24, 31), (213, 2, 3), (214, 0, 3), (200, 30, 31)] μ μ') :=
  xw_of (by decide +kernel) (fun _ => Nat.le_of_ble_eq_true rfl) (fun p e s m args below meth c D dA A al w0 sz C0 hU hO hKL hr hlk hA => by
    have k0 := hK.1
    have s9 := hx_smB (W := W) 8 hW
    have s9 : 0 ≤ hx_sm W 8 ∧ hx_sm W 8 ≤ 1368576 := ⟨s9.1, by have q := s9.2; omega⟩
    refine xw_aload_n (pc := 0) C0 0 dX12_planFrom_0 rfl rfl ?_
    refine xw_iload_n (pc := 1) C0 2 dX12_planFrom_1 rfl rfl ?_
    refine xw_callVI (pc := 2) (μ := μ) (ci := 12) (rest := []) (As := [.int (Int32.ofInt 2)]) C0 hU hO sa_Tg hKL (xr_la (l := l) (W := W) (k := 2) (μ := μ) hG (by decide +kernel) hP) tv_1671 dX12_planFrom_2 tv_1668 tv_1670 tq_X12_leftAt tv_13 rfl yb_X12_leftAt (by decide +kernel) rfl rfl rfl (by decide +kernel) (Nat.le_of_ble_eq_true rfl) (xj_200 hKL) xk_0 (fun r1 m1 w1 => ?_)
    obtain ⟨rfl, rfl⟩ := w1
    refine xw_istore (pc := 5) (L' := [(5, .int (Int32.ofInt (hx_sm W 8))), (0, .ref (xw_ad al 200)), (1, .int (Int32.ofInt (T : Int))), (2, .int (Int32.ofInt 2)), (3, .int (Int32.ofInt (dn : Int))), (4, .int (Int32.ofInt c9))]) C0 dX12_planFrom_5 (by decide +kernel) rfl ?_
    refine xw_iload (pc := 7) C0 0 dX12_planFrom_7 rfl ?_
    refine xw_if_ne (pc := 9) (tgt := 20) C0 (by omega) dX12_planFrom_9 rfl (fun b2 => ?_) (fun b2 => ?_)
    · refine xw_iconst (pc := 20) C0 dX12_planFrom_20 ?_
      refine xw_istore (pc := 21) (L' := [(6, .int (Int32.ofInt 0)), (5, .int (Int32.ofInt (hx_sm W 8))), (0, .ref (xw_ad al 200)), (1, .int (Int32.ofInt (T : Int))), (2, .int (Int32.ofInt 2)), (3, .int (Int32.ofInt (dn : Int))), (4, .int (Int32.ofInt c9))]) C0 dX12_planFrom_21 (by decide +kernel) rfl ?_
      have hs : ¬ hx_sm W 8 = 0 := by omega
      refine xw_pk [2, 3, 4, 5, 6, 1, 0] (L' := [(0, .ref (xw_ad al 200)), (1, .int (Int32.ofInt (T : Int))), (2, .int (Int32.ofInt 2)), (3, .int (Int32.ofInt (dn : Int))), (4, .int (Int32.ofInt c9)), (5, .int (Int32.ofInt (hx_sm W 8))), (6, .int (Int32.ofInt 0))]) rfl ?_
      refine xr_tr2_0 (v := v) (nm := nm) (W := W) (row := row) (T := T) (c9 := c9) (μ := μ) C0 hU hO hKL hG hK hN hT hW hP hrw hB hdn hpc hc hs (fun ν h1 h2 => ?_)
      refine xw_vret C0 hA hr hlk dX12_planFrom_172 ?_
      refine ⟨rfl, ?_, h2⟩
      rw [hx_Se (n := 1) hs]
      exact h1
    · refine xw_aload_n (pc := 12) C0 1 dX12_planFrom_12 rfl rfl ?_
      refine xw_iload_n (pc := 13) C0 3 dX12_planFrom_13 rfl rfl ?_
      refine xw_iload (pc := 14) C0 5 dX12_planFrom_14 rfl ?_
      refine xw_callVV (pc := 16) (μ := μ) (ci := 12) (rest := []) (As := [.int (Int32.ofInt 2), .int (Int32.ofInt c9)]) C0 hU hO sa_Tg hKL (xr_kp2 (l := l) (B := B) (c9 := c9) (row := row) (μ := μ) hG (by omega) hrw hB) tv_1680 dX12_planFrom_16 tv_1677 tv_1679 tq_X12_keepPlan tv_13 rfl yb_X12_keepPlan (by decide +kernel) rfl rfl rfl (by decide +kernel) (Nat.le_of_ble_eq_true rfl) (xj_200 hKL) xk_0 (fun m3 w3 => ?_)
      obtain ⟨H3, F3⟩ := w3
      refine xw_vret C0 hA hr hlk dX12_planFrom_19 ?_
      have hz9 : hx_sm W 8 = 0 := by omega
      refine ⟨rfl, ?_, ((xw_F.rf (ML := [(212, 24, 31), (213, 2, 3), (214, 0, 3), (200, 30, 31)])).tr F3 (fun j i h => xw_o_sub (by decide +kernel) j i h))⟩
      rw [hx_Sz hz9]
      exact H3)
