set_option maxRecDepth 20000 in
set_option maxHeartbeats 20000000 in
theorem xq_tr0_1 {l : Launch} {p : Program} {e : Env} {s : State} {m : MethodId} {args : Array Value} {below : List Frame} {meth : Method} {c : Code} {Q : State → Prop} {D : va_G} {dA : Nat → ClassId} {A : Nat → Prop} {al : List (Nat × Nat)} (C0 : sa_C p s m args c D dA A 7 vwCl sa_Ts cX5_tryRows yX5_tryRows.cls) (hU : sa_U D vwCl dA s) (hO : tb_Ou A s s.heap) (hKL : al.map Prod.snd = tc_KL) {v nm W row : Nat → Int} {T dn : Nat} {B : hx_pB} {c9 : Int} {μ : xw_M} (hG : xw_G xw_GL μ) (hK : hp_ok v nm) (hE : hx_E v 4 μ) (hT : (T : Int) < v 0) (hC : ∀ d : Nat, d < 4 → μ 141 d = hx_pm v T d) (hW : ∀ f : Nat, f < 8 → 0 ≤ W f ∧ W f ≤ 171072) (hP : ∀ f : Nat, f < 8 → μ 140 (0 + f) = W f) (hrw : ∀ i : Nat, i < 0 → μ 139 i = row i) (hB : hx_bC B μ) (hdn : dn < 8) (hpc : hs_pc dn = 0) (hc : 0 ≤ c9 ∧ c9 ≤ 0) (hs : ¬ hx_sm W 8 = 0) (kx : ∀ ν : xw_M, hx_bC (hx_kp (hx_sd v T 3 0 W dn c9 row 2 (hx_sd v T 3 0 W dn c9 row 1 B)) (0 + 1) (c9 + hx_sm W 8 * 120) (hx_ru row 0 3)) ν → xw_F [(140, 8, 31), (139, 0, 3), (138, 0, 3), (137, 1, 2)] μ ν → xw_W p l e { frames := 9, cells := 0, slots := 0, locals := 296 } s m args below meth c Q D dA A 7 vwCl tb_KT0 al 0 0 ν 97 [] []) : xw_W p l e { frames := 9, cells := 0, slots := 0, locals := 296 } s m args below meth c Q D dA A 7 vwCl tb_KT0 al 0 0 μ 23 [(0, .ref (xw_ad al 137)), (1, .ref (xw_ad al 4)), (2, .int (Int32.ofInt 0)), (3, .int (Int32.ofInt (dn : Int))), (4, .int (Int32.ofInt c9)), (5, .int (Int32.ofInt (hx_sm W 8))), (6, .int (Int32.ofInt 1))] [] := by
  have k0 := hK.1
  have s9 := hx_smB (W := W) 8 hW
  have s9 : 0 ≤ hx_sm W 8 ∧ hx_sm W 8 ≤ 1368576 := ⟨s9.1, by have q := s9.2; omega⟩
  refine xw_iload (pc := 23) C0 6 dX5_tryRows_23 rfl ?_
  refine xw_iconst (pc := 25) C0 dX5_tryRows_25 ?_
  refine xw_icmp_ge (pc := 26) (tgt := 71) C0 (by omega) (by omega) dX5_tryRows_26 rfl (fun b1 => ?_) (fun b1 => ?_)
  · exfalso
    omega
  · refine xw_iload_n (pc := 29) C0 2 dX5_tryRows_29 rfl rfl ?_
    refine xw_iconst (pc := 30) C0 dX5_tryRows_30 ?_
    refine xw_icmp_ge (pc := 31) (tgt := 71) C0 (by omega) (by omega) dX5_tryRows_31 rfl (fun b2 => ?_) (fun b2 => ?_)
    · exfalso
      omega
    · refine xw_iload_n (pc := 34) C0 3 dX5_tryRows_34 rfl rfl ?_
      refine xw_iload (pc := 35) C0 6 dX5_tryRows_35 rfl ?_
      rcases hx_tf (dn.testBit 1) with b9 | b9
      · have n9 : tb_hb (Int32.ofInt (dn : Int)) (Int32.ofInt 1) = Int32.ofInt 1 := (xb_prB (u := 1) hdn (by decide +kernel)).trans (by rw [b9]; rfl)
        refine xw_bitN (pc := 37) (host := "OffThenOn") (rest := []) C0 hU sa_Tg (pu_X11_bit (l := l)) tv_589 dX5_tryRows_37 (by decide +kernel) tv_588 tv_1 yb_X11_bit (by decide +kernel) (by decide +kernel) (Nat.le_of_ble_eq_true rfl) n9 ?_
        refine xw_if_ne (pc := 40) (tgt := 65) C0 (by omega) dX5_tryRows_40 rfl (fun b3 => ?_) (fun b3 => ?_)
        · refine xw_iinc (pc := 65) (L' := [(6, .int (Int32.ofInt 2)), (0, .ref (xw_ad al 137)), (1, .ref (xw_ad al 4)), (2, .int (Int32.ofInt 0)), (3, .int (Int32.ofInt (dn : Int))), (4, .int (Int32.ofInt c9)), (5, .int (Int32.ofInt (hx_sm W 8)))]) C0 6 dX5_tryRows_65 rfl (by decide +kernel) rfl ?_
          refine xw_goto (pc := 68) (tgt := 23) C0 dX5_tryRows_68 rfl ?_
          refine xw_pk [1, 2, 3, 4, 5, 6, 0] (L' := [(0, .ref (xw_ad al 137)), (1, .ref (xw_ad al 4)), (2, .int (Int32.ofInt 0)), (3, .int (Int32.ofInt (dn : Int))), (4, .int (Int32.ofInt c9)), (5, .int (Int32.ofInt (hx_sm W 8))), (6, .int (Int32.ofInt 2))]) rfl ?_
          rw [hx_sdT b9] at kx
          exact xq_tr0_2 (v := v) (nm := nm) (W := W) (row := row) (T := T) (dn := dn) (B := B) (c9 := c9) (μ := μ) C0 hU hO hKL hG hK hE hT hC hW hP hrw hB hdn hpc hc hs kx
        · exfalso
          omega
      · have n9 : tb_hb (Int32.ofInt (dn : Int)) (Int32.ofInt 1) = Int32.ofInt 0 := (xb_prB (u := 1) hdn (by decide +kernel)).trans (by rw [b9]; rfl)
        refine xw_bitN (pc := 37) (host := "OffThenOn") (rest := []) C0 hU sa_Tg (pu_X11_bit (l := l)) tv_589 dX5_tryRows_37 (by decide +kernel) tv_588 tv_1 yb_X11_bit (by decide +kernel) (by decide +kernel) (Nat.le_of_ble_eq_true rfl) n9 ?_
        refine xw_if_ne (pc := 40) (tgt := 65) C0 (by omega) dX5_tryRows_40 rfl (fun b4 => ?_) (fun b4 => ?_)
        · exfalso
          omega
        · refine xw_aload_n (pc := 43) C0 0 dX5_tryRows_43 rfl rfl ?_
          refine xw_aload_n (pc := 44) C0 1 dX5_tryRows_44 rfl rfl ?_
          refine xw_iload_n (pc := 45) C0 2 dX5_tryRows_45 rfl rfl ?_
          refine xw_iload_n (pc := 46) C0 3 dX5_tryRows_46 rfl rfl ?_
          refine xw_iload (pc := 47) C0 6 dX5_tryRows_47 rfl ?_
          refine xw_iload (pc := 49) C0 4 dX5_tryRows_49 rfl ?_
          refine xw_iload (pc := 51) C0 5 dX5_tryRows_51 rfl ?_
          refine xw_aload_n (pc := 53) C0 0 dX5_tryRows_53 rfl rfl ?_
          refine xw_getR (pc := 54) (f := 6) C0 141 kcX5 dX5_tryRows_54 (by decide +kernel) tv_406 (xj_137 hKL) xk_69 rfl ((rfl).trans (xe_137_6 hG)) ?_
          refine xw_iload (pc := 57) C0 6 dX5_tryRows_57 rfl ?_
          have p5 : μ 141 1 = hx_pm v T 1 := hC 1 (by decide +kernel)
          refine xw_iald (pc := 59) (z := hx_pm v T 1) C0 dX5_tryRows_59 (xj_141 hKL) xk_73 (by decide +kernel) (by decide +kernel) rfl p5 (fun g5 k5 => ?_)
          have v9 := hx_mul s9 (hx_pmB hK hT 1)
          refine xw_imul (pc := 60) C0 dX5_tryRows_60 ?_
          refine xw_iadd (pc := 61) C0 dX5_tryRows_61 ?_
          refine xw_callVV (pc := 62) (μ := μ) (ci := 5) (rest := []) (As := [.ref (xw_ad al 4), .int (Int32.ofInt 0), .int (Int32.ofInt (dn : Int)), .int (Int32.ofInt 1), .int (Int32.ofInt (c9 + ((hx_sm W 8) * (hx_pm v T 1))))]) C0 hU hO sa_Tg hKL (xq_td0 (l := l) (v := v) (nm := nm) (W := W) (row := row) (T := T) (dn := dn) (d := 1) (B := B) (c9 := c9 + hx_sm W 8 * hx_pm v T 1) (μ := μ) hG hK hE hT hC hW hP hrw hB hdn hpc (by decide +kernel) b9 (by omega)) tv_1230 dX5_tryRows_62 tv_1227 tv_1229 tq_X5_tryDeed tv_12 rfl yb_X5_tryDeed (by decide +kernel) rfl rfl rfl (by decide +kernel) (Nat.le_of_ble_eq_true rfl) (xj_137 hKL) xk_69 (fun m6 w6 => ?_)
          obtain ⟨H6, F6⟩ := w6
          have hG_m6 := xw_GF hG F6 (by decide +kernel)
          refine xw_iinc (pc := 65) (L' := [(6, .int (Int32.ofInt 2)), (0, .ref (xw_ad al 137)), (1, .ref (xw_ad al 4)), (2, .int (Int32.ofInt 0)), (3, .int (Int32.ofInt (dn : Int))), (4, .int (Int32.ofInt c9)), (5, .int (Int32.ofInt (hx_sm W 8)))]) C0 6 dX5_tryRows_65 rfl (by decide +kernel) rfl ?_
          refine xw_goto (pc := 68) (tgt := 23) C0 dX5_tryRows_68 rfl ?_
          refine xw_pk [1, 2, 3, 4, 5, 6, 0] (L' := [(0, .ref (xw_ad al 137)), (1, .ref (xw_ad al 4)), (2, .int (Int32.ofInt 0)), (3, .int (Int32.ofInt (dn : Int))), (4, .int (Int32.ofInt c9)), (5, .int (Int32.ofInt (hx_sm W 8))), (6, .int (Int32.ofInt 2))]) rfl ?_
          rw [hx_sdF b9] at kx
          exact xq_tr0_2 (v := v) (nm := nm) (W := W) (row := row) (T := T) (dn := dn) (c9 := c9) (μ := m6) C0 hU hO hKL hG_m6 hK (hx_EF hE (xw_Frg (a := 4) (b := 17) F6 (by decide +kernel))) hT (fun d hd => (F6 141 d (xw_oj (by decide +kernel) d)).trans (hC d hd)) hW (fun f hf => (F6 140 _ (xw_oB (a := 0) (b := 7) (by decide +kernel) (by omega) (by omega))).trans (hP f hf)) (fun i hi => absurd hi (Nat.not_lt_zero i)) H6 hdn hpc hc hs (fun ν h1 h2 => kx ν h1 (F6.tr h2 (fun j i h => h)))
set_option maxRecDepth 20000 in
set_option maxHeartbeats 20000000 in
theorem xq_tr0_0 {l : Launch} {p : Program} {e : Env} {s : State} {m : MethodId} {args : Array Value} {below : List Frame} {meth : Method} {c : Code} {Q : State → Prop} {D : va_G} {dA : Nat → ClassId} {A : Nat → Prop} {al : List (Nat × Nat)} (C0 : sa_C p s m args c D dA A 7 vwCl sa_Ts cX5_tryRows yX5_tryRows.cls) (hU : sa_U D vwCl dA s) (hO : tb_Ou A s s.heap) (hKL : al.map Prod.snd = tc_KL) {v nm W row : Nat → Int} {T dn : Nat} {B : hx_pB} {c9 : Int} {μ : xw_M} (hG : xw_G xw_GL μ) (hK : hp_ok v nm) (hE : hx_E v 4 μ) (hT : (T : Int) < v 0) (hC : ∀ d : Nat, d < 4 → μ 141 d = hx_pm v T d) (hW : ∀ f : Nat, f < 8 → 0 ≤ W f ∧ W f ≤ 171072) (hP : ∀ f : Nat, f < 8 → μ 140 (0 + f) = W f) (hrw : ∀ i : Nat, i < 0 → μ 139 i = row i) (hB : hx_bC B μ) (hdn : dn < 8) (hpc : hs_pc dn = 0) (hc : 0 ≤ c9 ∧ c9 ≤ 0) (hs : ¬ hx_sm W 8 = 0) (kx : ∀ ν : xw_M, hx_bC (hx_kp (hx_sd v T 3 0 W dn c9 row 2 (hx_sd v T 3 0 W dn c9 row 1 (hx_sd v T 3 0 W dn c9 row 0 B))) (0 + 1) (c9 + hx_sm W 8 * 120) (hx_ru row 0 3)) ν → xw_F [(140, 8, 31), (139, 0, 3), (138, 0, 3), (137, 1, 2)] μ ν → xw_W p l e { frames := 9, cells := 0, slots := 0, locals := 296 } s m args below meth c Q D dA A 7 vwCl tb_KT0 al 0 0 ν 97 [] []) : xw_W p l e { frames := 9, cells := 0, slots := 0, locals := 296 } s m args below meth c Q D dA A 7 vwCl tb_KT0 al 0 0 μ 23 [(0, .ref (xw_ad al 137)), (1, .ref (xw_ad al 4)), (2, .int (Int32.ofInt 0)), (3, .int (Int32.ofInt (dn : Int))), (4, .int (Int32.ofInt c9)), (5, .int (Int32.ofInt (hx_sm W 8))), (6, .int (Int32.ofInt 0))] [] := by
  have k0 := hK.1
  have s9 := hx_smB (W := W) 8 hW
  have s9 : 0 ≤ hx_sm W 8 ∧ hx_sm W 8 ≤ 1368576 := ⟨s9.1, by have q := s9.2; omega⟩
  refine xw_iload (pc := 23) C0 6 dX5_tryRows_23 rfl ?_
  refine xw_iconst (pc := 25) C0 dX5_tryRows_25 ?_
  refine xw_icmp_ge (pc := 26) (tgt := 71) C0 (by omega) (by omega) dX5_tryRows_26 rfl (fun b1 => ?_) (fun b1 => ?_)
  · exfalso
    omega
  · refine xw_iload_n (pc := 29) C0 2 dX5_tryRows_29 rfl rfl ?_
    refine xw_iconst (pc := 30) C0 dX5_tryRows_30 ?_
    refine xw_icmp_ge (pc := 31) (tgt := 71) C0 (by omega) (by omega) dX5_tryRows_31 rfl (fun b2 => ?_) (fun b2 => ?_)
    · exfalso
      omega
    · refine xw_iload_n (pc := 34) C0 3 dX5_tryRows_34 rfl rfl ?_
      refine xw_iload (pc := 35) C0 6 dX5_tryRows_35 rfl ?_
      rcases hx_tf (dn.testBit 0) with b9 | b9
      · have n9 : tb_hb (Int32.ofInt (dn : Int)) (Int32.ofInt 0) = Int32.ofInt 1 := (xb_prB (u := 0) hdn (by decide +kernel)).trans (by rw [b9]; rfl)
        refine xw_bitN (pc := 37) (host := "OffThenOn") (rest := []) C0 hU sa_Tg (pu_X11_bit (l := l)) tv_589 dX5_tryRows_37 (by decide +kernel) tv_588 tv_1 yb_X11_bit (by decide +kernel) (by decide +kernel) (Nat.le_of_ble_eq_true rfl) n9 ?_
        refine xw_if_ne (pc := 40) (tgt := 65) C0 (by omega) dX5_tryRows_40 rfl (fun b3 => ?_) (fun b3 => ?_)
        · refine xw_iinc (pc := 65) (L' := [(6, .int (Int32.ofInt 1)), (0, .ref (xw_ad al 137)), (1, .ref (xw_ad al 4)), (2, .int (Int32.ofInt 0)), (3, .int (Int32.ofInt (dn : Int))), (4, .int (Int32.ofInt c9)), (5, .int (Int32.ofInt (hx_sm W 8)))]) C0 6 dX5_tryRows_65 rfl (by decide +kernel) rfl ?_
          refine xw_goto (pc := 68) (tgt := 23) C0 dX5_tryRows_68 rfl ?_
          refine xw_pk [1, 2, 3, 4, 5, 6, 0] (L' := [(0, .ref (xw_ad al 137)), (1, .ref (xw_ad al 4)), (2, .int (Int32.ofInt 0)), (3, .int (Int32.ofInt (dn : Int))), (4, .int (Int32.ofInt c9)), (5, .int (Int32.ofInt (hx_sm W 8))), (6, .int (Int32.ofInt 1))]) rfl ?_
          rw [hx_sdT b9] at kx
          exact xq_tr0_1 (v := v) (nm := nm) (W := W) (row := row) (T := T) (dn := dn) (B := B) (c9 := c9) (μ := μ) C0 hU hO hKL hG hK hE hT hC hW hP hrw hB hdn hpc hc hs kx
        · exfalso
          omega
      · have n9 : tb_hb (Int32.ofInt (dn : Int)) (Int32.ofInt 0) = Int32.ofInt 0 := (xb_prB (u := 0) hdn (by decide +kernel)).trans (by rw [b9]; rfl)
        refine xw_bitN (pc := 37) (host := "OffThenOn") (rest := []) C0 hU sa_Tg (pu_X11_bit (l := l)) tv_589 dX5_tryRows_37 (by decide +kernel) tv_588 tv_1 yb_X11_bit (by decide +kernel) (by decide +kernel) (Nat.le_of_ble_eq_true rfl) n9 ?_
        refine xw_if_ne (pc := 40) (tgt := 65) C0 (by omega) dX5_tryRows_40 rfl (fun b4 => ?_) (fun b4 => ?_)
        · exfalso
          omega
        · refine xw_aload_n (pc := 43) C0 0 dX5_tryRows_43 rfl rfl ?_
          refine xw_aload_n (pc := 44) C0 1 dX5_tryRows_44 rfl rfl ?_
          refine xw_iload_n (pc := 45) C0 2 dX5_tryRows_45 rfl rfl ?_
          refine xw_iload_n (pc := 46) C0 3 dX5_tryRows_46 rfl rfl ?_
          refine xw_iload (pc := 47) C0 6 dX5_tryRows_47 rfl ?_
          refine xw_iload (pc := 49) C0 4 dX5_tryRows_49 rfl ?_
          refine xw_iload (pc := 51) C0 5 dX5_tryRows_51 rfl ?_
          refine xw_aload_n (pc := 53) C0 0 dX5_tryRows_53 rfl rfl ?_
          refine xw_getR (pc := 54) (f := 6) C0 141 kcX5 dX5_tryRows_54 (by decide +kernel) tv_406 (xj_137 hKL) xk_69 rfl ((rfl).trans (xe_137_6 hG)) ?_
          refine xw_iload (pc := 57) C0 6 dX5_tryRows_57 rfl ?_
          have p5 : μ 141 0 = hx_pm v T 0 := hC 0 (by decide +kernel)
          refine xw_iald (pc := 59) (z := hx_pm v T 0) C0 dX5_tryRows_59 (xj_141 hKL) xk_73 (by decide +kernel) (by decide +kernel) rfl p5 (fun g5 k5 => ?_)
          have v9 := hx_mul s9 (hx_pmB hK hT 0)
          refine xw_imul (pc := 60) C0 dX5_tryRows_60 ?_
          refine xw_iadd (pc := 61) C0 dX5_tryRows_61 ?_
          refine xw_callVV (pc := 62) (μ := μ) (ci := 5) (rest := []) (As := [.ref (xw_ad al 4), .int (Int32.ofInt 0), .int (Int32.ofInt (dn : Int)), .int (Int32.ofInt 0), .int (Int32.ofInt (c9 + ((hx_sm W 8) * (hx_pm v T 0))))]) C0 hU hO sa_Tg hKL (xq_td0 (l := l) (v := v) (nm := nm) (W := W) (row := row) (T := T) (dn := dn) (d := 0) (B := B) (c9 := c9 + hx_sm W 8 * hx_pm v T 0) (μ := μ) hG hK hE hT hC hW hP hrw hB hdn hpc (by decide +kernel) b9 (by omega)) tv_1230 dX5_tryRows_62 tv_1227 tv_1229 tq_X5_tryDeed tv_12 rfl yb_X5_tryDeed (by decide +kernel) rfl rfl rfl (by decide +kernel) (Nat.le_of_ble_eq_true rfl) (xj_137 hKL) xk_69 (fun m6 w6 => ?_)
          obtain ⟨H6, F6⟩ := w6
          have hG_m6 := xw_GF hG F6 (by decide +kernel)
          refine xw_iinc (pc := 65) (L' := [(6, .int (Int32.ofInt 1)), (0, .ref (xw_ad al 137)), (1, .ref (xw_ad al 4)), (2, .int (Int32.ofInt 0)), (3, .int (Int32.ofInt (dn : Int))), (4, .int (Int32.ofInt c9)), (5, .int (Int32.ofInt (hx_sm W 8)))]) C0 6 dX5_tryRows_65 rfl (by decide +kernel) rfl ?_
          refine xw_goto (pc := 68) (tgt := 23) C0 dX5_tryRows_68 rfl ?_
          refine xw_pk [1, 2, 3, 4, 5, 6, 0] (L' := [(0, .ref (xw_ad al 137)), (1, .ref (xw_ad al 4)), (2, .int (Int32.ofInt 0)), (3, .int (Int32.ofInt (dn : Int))), (4, .int (Int32.ofInt c9)), (5, .int (Int32.ofInt (hx_sm W 8))), (6, .int (Int32.ofInt 1))]) rfl ?_
          rw [hx_sdF b9] at kx
          exact xq_tr0_1 (v := v) (nm := nm) (W := W) (row := row) (T := T) (dn := dn) (c9 := c9) (μ := m6) C0 hU hO hKL hG_m6 hK (hx_EF hE (xw_Frg (a := 4) (b := 17) F6 (by decide +kernel))) hT (fun d hd => (F6 141 d (xw_oj (by decide +kernel) d)).trans (hC d hd)) hW (fun f hf => (F6 140 _ (xw_oB (a := 0) (b := 7) (by decide +kernel) (by omega) (by omega))).trans (hP f hf)) (fun i hi => absurd hi (Nat.not_lt_zero i)) H6 hdn hpc hc hs (fun ν h1 h2 => kx ν h1 (F6.tr h2 (fun j i h => h)))
set_option maxRecDepth 20000 in
set_option maxHeartbeats 20000000 in
theorem xq_tr0 {l : Launch} {v nm W row : Nat → Int} {T dn : Nat} {B : hx_pB} {c9 : Int} {μ : xw_M} (hG : xw_G xw_GL μ) (hK : hp_ok v nm) (hE : hx_E v 4 μ) (hT : (T : Int) < v 0) (hC : ∀ d : Nat, d < 4 → μ 141 d = hx_pm v T d) (hW : ∀ f : Nat, f < 8 → 0 ≤ W f ∧ W f ≤ 171072) (hP : ∀ f : Nat, f < 8 → μ 140 (0 + f) = W f) (hrw : ∀ i : Nat, i < 0 → μ 139 i = row i) (hB : hx_bC B μ) (hdn : dn < 8) (hpc : hs_pc dn = 0) (hc : 0 ≤ c9 ∧ c9 ≤ 0) (hs0 : ¬ hx_sm W 8 = 0) : xw_MetV l vwCl sa_Ts tb_KT0 tc_KL yX5_tryRows cX5_tryRows 7 none 9 296 (fun ad => [.ref (ad 137), .ref (ad 4), .int (Int32.ofInt 0), .int (Int32.ofInt (dn : Int)), .int (Int32.ofInt c9)]) μ (fun μ' => hx_bC (hx_S v T 4 0 W dn c9 row B) μ' ∧ xw_F [(140, 8, 31), (139, 0, 3), (138, 0, 3), (137, 1, 2)] μ μ') :=
  xw_of (by decide +kernel) (fun _ => Nat.le_of_ble_eq_true rfl) (fun p e s m args below meth c D dA A al w0 sz C0 hU hO hKL hr hlk hA => by
    have k0 := hK.1
    have s9 := hx_smB (W := W) 8 hW
    have s9 : 0 ≤ hx_sm W 8 ∧ hx_sm W 8 ≤ 1368576 := ⟨s9.1, by have q := s9.2; omega⟩
    refine xw_aload_n (pc := 0) C0 0 dX5_tryRows_0 rfl rfl ?_
    refine xw_iload_n (pc := 1) C0 2 dX5_tryRows_1 rfl rfl ?_
    refine xw_callVI (pc := 2) (μ := μ) (ci := 5) (rest := []) (As := [.int (Int32.ofInt 0)]) C0 hU hO sa_Tg hKL (xq_wb (l := l) (W := W) (k := 0) (μ := μ) hG (by decide +kernel) hP) tv_1217 dX5_tryRows_2 tv_1214 tv_1216 tq_X5_weightBehind tv_12 rfl yb_X5_weightBehind (by decide +kernel) rfl rfl rfl (by decide +kernel) (Nat.le_of_ble_eq_true rfl) (xj_137 hKL) xk_69 (fun r1 m1 w1 => ?_)
    obtain ⟨rfl, rfl⟩ := w1
    refine xw_istore (pc := 5) (L' := [(5, .int (Int32.ofInt (hx_sm W 8))), (0, .ref (xw_ad al 137)), (1, .ref (xw_ad al 4)), (2, .int (Int32.ofInt 0)), (3, .int (Int32.ofInt (dn : Int))), (4, .int (Int32.ofInt c9))]) C0 dX5_tryRows_5 (by decide +kernel) rfl ?_
    refine xw_iload (pc := 7) C0 0 dX5_tryRows_7 rfl ?_
    refine xw_if_ne (pc := 9) (tgt := 20) C0 (by omega) dX5_tryRows_9 rfl (fun b2 => ?_) (fun b2 => ?_)
    · refine xw_iconst (pc := 20) C0 dX5_tryRows_20 ?_
      refine xw_istore (pc := 21) (L' := [(6, .int (Int32.ofInt 0)), (5, .int (Int32.ofInt (hx_sm W 8))), (0, .ref (xw_ad al 137)), (1, .ref (xw_ad al 4)), (2, .int (Int32.ofInt 0)), (3, .int (Int32.ofInt (dn : Int))), (4, .int (Int32.ofInt c9))]) C0 dX5_tryRows_21 (by decide +kernel) rfl ?_
      have hs : ¬ hx_sm W 8 = 0 := by omega
      refine xw_pk [2, 3, 4, 5, 6, 1, 0] (L' := [(0, .ref (xw_ad al 137)), (1, .ref (xw_ad al 4)), (2, .int (Int32.ofInt 0)), (3, .int (Int32.ofInt (dn : Int))), (4, .int (Int32.ofInt c9)), (5, .int (Int32.ofInt (hx_sm W 8))), (6, .int (Int32.ofInt 0))]) rfl ?_
      refine xq_tr0_0 (v := v) (nm := nm) (W := W) (row := row) (T := T) (c9 := c9) (μ := μ) C0 hU hO hKL hG hK hE hT hC hW hP hrw hB hdn hpc hc hs (fun ν h1 h2 => ?_)
      refine xw_vret C0 hA hr hlk dX5_tryRows_97 ?_
      refine ⟨rfl, ?_, h2⟩
      rw [hx_Se (n := 3) hs]
      exact h1
    · exfalso
      omega)
set_option maxRecDepth 20000 in
set_option maxHeartbeats 20000000 in
theorem xq_mpL {l : Launch} {p : Program} {e : Env} {s : State} {m : MethodId} {args : Array Value} {below : List Frame} {meth : Method} {c : Code} {Q : State → Prop} {D : va_G} {dA : Nat → ClassId} {A : Nat → Prop} {al : List (Nat × Nat)} (C0 : sa_C p s m args c D dA A 5 vwCl sa_Ts cX5_makePlan yX5_makePlan.cls) (hU : sa_U D vwCl dA s) (hO : tb_Ou A s s.heap) (hKL : al.map Prod.snd = tc_KL) {v nm : Nat → Int} {ps : Nat → Bool} {T : Nat} {μ : xw_M} (hG : xw_G xw_GL μ) (hK : hp_ok v nm) (hE : hx_E v 4 μ) (hT : (T : Int) < v 0) (kx : ∀ ν : xw_M, (∀ i : Nat, i < 8 → ν 140 i = hx_w0 v ps (v 1).toNat i) → xw_F [(140, 0, 7)] μ ν → xw_G xw_GL ν → xw_W p l e { frames := 10, cells := 0, slots := 0, locals := 322 } s m args below meth c Q D dA A 5 vwCl tb_KT0 al 0 0 ν 83 [(0, .ref (xw_ad al 137)), (1, .ref (xw_ad al 4)), (2, .int (Int32.ofInt (T : Int)))] []) : ∀ (fu9 : Nat) (f : Nat) (ν : xw_M), 8 - (f : Int) < (fu9 : Int) → f ≤ 8 → (∀ i : Nat, i < f → ν 140 i = hx_w0 v ps (v 1).toNat i) → xw_F [(140, 0, 7)] μ ν → xw_G xw_GL ν → xw_W p l e { frames := 10, cells := 0, slots := 0, locals := 322 } s m args below meth c Q D dA A 5 vwCl tb_KT0 al 0 0 ν 45 [(0, .ref (xw_ad al 137)), (1, .ref (xw_ad al 4)), (2, .int (Int32.ofInt (T : Int))), (3, .int (Int32.ofInt ((hx_bs ps (v 1).toNat : Nat) : Int))), (4, .int (Int32.ofInt (f : Int)))] [] := by
  intro fu9
  induction fu9 with
  | zero => intro f ν hm hf hz hF hG_ν; exfalso; omega
  | succ fu9 ih =>
    intro f ν hm hf hz hF hG_ν
    have k1 := hK.2.1
    have n8 : f < 8 → 0 ≤ hx_w0 v ps (v 1).toNat f ∧ hx_w0 v ps (v 1).toNat f ≤ 171072 := fun q => hx_w0B hK q
    refine xw_iload (pc := 45) C0 4 dX5_makePlan_45 rfl ?_
    refine xw_bipush (pc := 47) C0 dX5_makePlan_47 (by decide +kernel) ?_
    refine xw_icmp_ge (pc := 49) (tgt := 83) C0 (by omega) (by omega) dX5_makePlan_49 rfl (fun b1 => ?_) (fun b1 => ?_)
    · have e9 : f = 8 := by omega
      subst e9
      refine xw_pk [0, 1, 2] (L' := [(0, .ref (xw_ad al 137)), (1, .ref (xw_ad al 4)), (2, .int (Int32.ofInt (T : Int)))]) rfl ?_
      exact kx ν hz hF hG_ν
    · refine xw_aload_n (pc := 52) C0 0 dX5_makePlan_52 rfl rfl ?_
      refine xw_getR (pc := 53) (f := 5) C0 140 kcX5 dX5_makePlan_53 (by decide +kernel) tv_405 (xj_137 hKL) xk_69 rfl ((rfl).trans (xe_137_5 hG_ν)) ?_
      refine xw_iload (pc := 56) C0 4 dX5_makePlan_56 rfl ?_
      refine xw_iload_n (pc := 58) C0 3 dX5_makePlan_58 rfl rfl ?_
      refine xw_iload (pc := 59) C0 4 dX5_makePlan_59 rfl ?_
      rcases hx_tf (decide (f < (v 1).toNat) && ps f) with c9 | c9
      · have n9 : tb_hb (Int32.ofInt ((hx_bs ps (v 1).toNat : Nat) : Int)) (Int32.ofInt (f : Int)) = Int32.ofInt 1 := by
          rw [xb_b9 (by omega) (by omega), c9]
          rfl
        refine xw_bitN (pc := 61) (host := "OffThenOn") (rest := [.int (Int32.ofInt (f : Int)), .ref (xw_ad al 140)]) C0 hU sa_Tg (pu_X11_bit (l := l)) tv_589 dX5_makePlan_61 (by decide +kernel) tv_588 tv_1 yb_X11_bit (by decide +kernel) (by decide +kernel) (Nat.le_of_ble_eq_true rfl) n9 ?_
        refine xw_aload_n (pc := 64) C0 1 dX5_makePlan_64 rfl rfl ?_
        refine xw_getR (pc := 65) (f := 10) C0 15 kcX2 dX5_makePlan_65 (by decide +kernel) tv_90 (xj_4 hKL) xk_28 rfl ((rfl).trans (xe_4_10 hG_ν)) ?_
        refine xw_iload (pc := 68) C0 4 dX5_makePlan_68 rfl ?_
        have f9 : f < (v 1).toNat := by
          rw [Bool.and_eq_true] at c9
          exact of_decide_eq_true c9.1
        have a9 : ν 15 ((f : Int)).toNat = v (37 + f) := (hF 15 _ (xw_oj (by decide +kernel) _)).trans (hE.2.2.1 f (by omega) (by omega)).2.2.1
        refine xw_iald (pc := 70) (z := v (37 + f)) C0 dX5_makePlan_70 (xj_15 hKL) xk_39 (by omega) (by decide +kernel) (xw_rl (by omega)) a9 (fun g2 k2 => ?_)
        refine xw_imul (pc := 71) C0 dX5_makePlan_71 ?_
        refine xw_sipush (pc := 72) C0 dX5_makePlan_72 (by decide +kernel) ?_
        refine xw_imul (pc := 75) C0 dX5_makePlan_75 ?_
        have w9 : (1 * (v (37 + f))) * 1728 = hx_w0 v ps (v 1).toNat f := by
          unfold hx_w0
          rw [c9]
          rw [if_pos rfl]
          omega
        refine xw_nI (congrArg Int32.ofInt w9) ?_
        have n9 := n8 (by omega)
        refine xw_iast (pc := 76) C0 dX5_makePlan_76 (xj_140 hKL) xk_72 (by omega) (by decide +kernel) (xw_rl (by omega)) (by omega) (by omega) ?_
        refine xw_iinc (pc := 77) (L' := [(4, .int (Int32.ofInt ((f : Int) + 1))), (0, .ref (xw_ad al 137)), (1, .ref (xw_ad al 4)), (2, .int (Int32.ofInt (T : Int))), (3, .int (Int32.ofInt ((hx_bs ps (v 1).toNat : Nat) : Int)))]) C0 4 dX5_makePlan_77 rfl (by decide +kernel) rfl ?_
        refine xw_goto (pc := 80) (tgt := 45) C0 dX5_makePlan_80 rfl ?_
        have hz9 : ∀ i : Nat, i < f + 1 → (xw_u ν 140 ((f : Int)).toNat (hx_w0 v ps (v 1).toNat f)) 140 i = hx_w0 v ps (v 1).toNat i := fun i h2 => by
          by_cases e9 : i = f
          · subst e9; exact xw_ug
          · exact (xw_un (fun q => e9 (by have q2 := q.2; omega))).trans (hz i (by omega))
        have Fz9 : xw_F [(140, 0, 7)] ν (xw_u ν 140 ((f : Int)).toNat (hx_w0 v ps (v 1).toNat f)) := ((xw_F.rf (ML := [(140, 0, 7)])).u (show (140, 0, 7) ∈ _ by decide) ⟨by omega, by omega⟩)
        generalize (xw_u ν 140 ((f : Int)).toNat (hx_w0 v ps (v 1).toNat f)) = z9 at Fz9 hz9 ⊢
        have e1 : (f : Int) + 1 = ((f + 1 : Nat) : Int) := by omega
        rw [e1]
        refine xw_pk [1, 2, 3, 4, 0] (L' := [(0, .ref (xw_ad al 137)), (1, .ref (xw_ad al 4)), (2, .int (Int32.ofInt (T : Int))), (3, .int (Int32.ofInt ((hx_bs ps (v 1).toNat : Nat) : Int))), (4, .int (Int32.ofInt ((f + 1 : Nat) : Int)))]) rfl ?_
        exact ih (f + 1) z9 (by omega) (by omega) hz9 (hF.tr Fz9 (fun j i h => h)) (xw_GF hG_ν Fz9 (by decide +kernel))
      · have n9 : tb_hb (Int32.ofInt ((hx_bs ps (v 1).toNat : Nat) : Int)) (Int32.ofInt (f : Int)) = Int32.ofInt 0 := by
          rw [xb_b9 (by omega) (by omega), c9]
          rfl
        refine xw_bitN (pc := 61) (host := "OffThenOn") (rest := [.int (Int32.ofInt (f : Int)), .ref (xw_ad al 140)]) C0 hU sa_Tg (pu_X11_bit (l := l)) tv_589 dX5_makePlan_61 (by decide +kernel) tv_588 tv_1 yb_X11_bit (by decide +kernel) (by decide +kernel) (Nat.le_of_ble_eq_true rfl) n9 ?_
        refine xw_aload_n (pc := 64) C0 1 dX5_makePlan_64 rfl rfl ?_
        refine xw_getR (pc := 65) (f := 10) C0 15 kcX2 dX5_makePlan_65 (by decide +kernel) tv_90 (xj_4 hKL) xk_28 rfl ((rfl).trans (xe_4_10 hG_ν)) ?_
        refine xw_iload (pc := 68) C0 4 dX5_makePlan_68 rfl ?_
        refine xw_iald (pc := 70) (z := ν 15 ((f : Int)).toNat) C0 dX5_makePlan_70 (xj_15 hKL) xk_39 (by omega) (by decide +kernel) (xw_rl (by omega)) rfl (fun g3 k3 => ?_)
        refine xw_imul (pc := 71) C0 dX5_makePlan_71 ?_
        refine xw_sipush (pc := 72) C0 dX5_makePlan_72 (by decide +kernel) ?_
        refine xw_imul (pc := 75) C0 dX5_makePlan_75 ?_
        have w9 : (0 * (ν 15 ((f : Int)).toNat)) * 1728 = hx_w0 v ps (v 1).toNat f := by
          unfold hx_w0
          rw [c9]
          rw [if_neg Bool.false_ne_true]
          omega
        refine xw_nI (congrArg Int32.ofInt w9) ?_
        have n9 := n8 (by omega)
        refine xw_iast (pc := 76) C0 dX5_makePlan_76 (xj_140 hKL) xk_72 (by omega) (by decide +kernel) (xw_rl (by omega)) (by omega) (by omega) ?_
        refine xw_iinc (pc := 77) (L' := [(4, .int (Int32.ofInt ((f : Int) + 1))), (0, .ref (xw_ad al 137)), (1, .ref (xw_ad al 4)), (2, .int (Int32.ofInt (T : Int))), (3, .int (Int32.ofInt ((hx_bs ps (v 1).toNat : Nat) : Int)))]) C0 4 dX5_makePlan_77 rfl (by decide +kernel) rfl ?_
        refine xw_goto (pc := 80) (tgt := 45) C0 dX5_makePlan_80 rfl ?_
        have hz9 : ∀ i : Nat, i < f + 1 → (xw_u ν 140 ((f : Int)).toNat (hx_w0 v ps (v 1).toNat f)) 140 i = hx_w0 v ps (v 1).toNat i := fun i h2 => by
          by_cases e9 : i = f
          · subst e9; exact xw_ug
          · exact (xw_un (fun q => e9 (by have q2 := q.2; omega))).trans (hz i (by omega))
        have Fz9 : xw_F [(140, 0, 7)] ν (xw_u ν 140 ((f : Int)).toNat (hx_w0 v ps (v 1).toNat f)) := ((xw_F.rf (ML := [(140, 0, 7)])).u (show (140, 0, 7) ∈ _ by decide) ⟨by omega, by omega⟩)
        generalize (xw_u ν 140 ((f : Int)).toNat (hx_w0 v ps (v 1).toNat f)) = z9 at Fz9 hz9 ⊢
        have e1 : (f : Int) + 1 = ((f + 1 : Nat) : Int) := by omega
        rw [e1]
        refine xw_pk [1, 2, 3, 4, 0] (L' := [(0, .ref (xw_ad al 137)), (1, .ref (xw_ad al 4)), (2, .int (Int32.ofInt (T : Int))), (3, .int (Int32.ofInt ((hx_bs ps (v 1).toNat : Nat) : Int))), (4, .int (Int32.ofInt ((f + 1 : Nat) : Int)))]) rfl ?_
        exact ih (f + 1) z9 (by omega) (by omega) hz9 (hF.tr Fz9 (fun j i h => h)) (xw_GF hG_ν Fz9 (by decide +kernel))
set_option maxRecDepth 20000 in
set_option maxHeartbeats 20000000 in
theorem xq_mp {l : Launch} {v nm : Nat → Int} {ps : Nat → Bool} {T : Nat} {μ : xw_M} (hG : xw_G xw_GL μ) (hK : hp_ok v nm) (hE : hx_E v 4 μ) (hT : (T : Int) < v 0) (hs0 : ¬ hx_sm (hx_w0 v ps (v 1).toNat) 8 = 0) : xw_MetV l vwCl sa_Ts tb_KT0 tc_KL yX5_makePlan cX5_makePlan 5 none 10 322 (fun ad => [.ref (ad 137), .ref (ad 4), .int (Int32.ofInt (T : Int)), .int (Int32.ofInt ((hx_bs ps (v 1).toNat : Nat) : Int))]) μ (fun μ' => μ' 137 3 = hx_sm (hx_w0 v ps (v 1).toNat) 8 ∧ hx_bC (hx_pS v ps T) μ' ∧ xw_F [(137, 1, 3), (138, 0, 3), (139, 0, 3), (140, 0, 31), (141, 0, 3)] μ μ') :=
  xw_of (by decide +kernel) (fun _ => Nat.le_of_ble_eq_true rfl) (fun p e s m args below meth c D dA A al w0 sz C0 hU hO hKL hr hlk hA => by
    have k0 := hK.1
    have q8 := hK.2.2.2.2.1 T (by omega) hT
    have q9 := q8.1
    have q7 := q8.2.1
    clear q8
    refine xw_aload_n (pc := 0) C0 0 dX5_makePlan_0 rfl rfl ?_
    refine xw_getR (pc := 1) (f := 6) C0 141 kcX5 dX5_makePlan_1 (by decide +kernel) tv_406 (xj_137 hKL) xk_69 rfl ((rfl).trans (xe_137_6 hG)) ?_
    refine xw_iconst (pc := 4) C0 dX5_makePlan_4 ?_
    refine xw_aload_n (pc := 5) C0 1 dX5_makePlan_5 rfl rfl ?_
    refine xw_getR (pc := 6) (f := 2) C0 7 kcX2 dX5_makePlan_6 (by decide +kernel) tv_68 (xj_4 hKL) xk_28 rfl ((rfl).trans (xe_4_2 hG)) ?_
    refine xw_iload_n (pc := 9) C0 2 dX5_makePlan_9 rfl rfl ?_
    have a1 : μ 7 ((T : Int)).toNat = v (9 + T) := (hE.2.1 T (by omega) hT).2.1
    refine xw_iald (pc := 10) (z := v (9 + T)) C0 dX5_makePlan_10 (xj_7 hKL) xk_31 (by omega) (by decide +kernel) (xw_rl (by omega)) a1 (fun g1 k1 => ?_)
    refine xw_aload_n (pc := 11) C0 1 dX5_makePlan_11 rfl rfl ?_
    refine xw_getR (pc := 12) (f := 1) C0 6 kcX2 dX5_makePlan_12 (by decide +kernel) tv_64 (xj_4 hKL) xk_28 rfl ((rfl).trans (xe_4_1 hG)) ?_
    refine xw_iload_n (pc := 15) C0 2 dX5_makePlan_15 rfl rfl ?_
    have a2 : μ 6 ((T : Int)).toNat = v (3 + T) := (hE.2.1 T (by omega) hT).1
    refine xw_iald (pc := 16) (z := v (3 + T)) C0 dX5_makePlan_16 (xj_6 hKL) xk_30 (by omega) (by decide +kernel) (xw_rl (by omega)) a2 (fun g2 k2 => ?_)
    refine xw_iadd (pc := 17) C0 dX5_makePlan_17 ?_
    refine xw_iast (pc := 18) C0 dX5_makePlan_18 (xj_141 hKL) xk_73 (by omega) (by decide +kernel) (xw_rl (by omega)) (by omega) (by omega) ?_
    refine xw_mu (μ' := (xw_u μ 141 0 ((v (9 + T)) + (v (3 + T))))) rfl ?_
    refine xw_aload_n (pc := 19) C0 0 dX5_makePlan_19 rfl rfl ?_
    refine xw_getR (pc := 20) (f := 6) C0 141 kcX5 dX5_makePlan_20 (by decide +kernel) tv_406 (xj_137 hKL) xk_69 rfl (((xw_un (fun q => absurd q.1 (by decide +kernel))).trans rfl).trans (xe_137_6 hG)) ?_
    refine xw_iconst (pc := 23) C0 dX5_makePlan_23 ?_
    refine xw_iconst (pc := 24) C0 dX5_makePlan_24 ?_
    refine xw_iast (pc := 25) C0 dX5_makePlan_25 (xj_141 hKL) xk_73 (by omega) (by decide +kernel) (xw_rl (by omega)) (by omega) (by omega) ?_
    refine xw_mu (μ' := (xw_u (xw_u μ 141 0 ((v (9 + T)) + (v (3 + T)))) 141 1 2)) rfl ?_
    refine xw_aload_n (pc := 26) C0 0 dX5_makePlan_26 rfl rfl ?_
    refine xw_getR (pc := 27) (f := 6) C0 141 kcX5 dX5_makePlan_27 (by decide +kernel) tv_406 (xj_137 hKL) xk_69 rfl (((xw_un (fun q => absurd q.1 (by decide +kernel))).trans ((xw_un (fun q => absurd q.1 (by decide +kernel))).trans rfl)).trans (xe_137_6 hG)) ?_
    refine xw_iconst (pc := 30) C0 dX5_makePlan_30 ?_
    refine xw_bipush (pc := 31) C0 dX5_makePlan_31 (by decide +kernel) ?_
    refine xw_iast (pc := 33) C0 dX5_makePlan_33 (xj_141 hKL) xk_73 (by omega) (by decide +kernel) (xw_rl (by omega)) (by omega) (by omega) ?_
    refine xw_mu (μ' := (xw_u (xw_u (xw_u μ 141 0 ((v (9 + T)) + (v (3 + T)))) 141 1 2) 141 2 60)) rfl ?_
    refine xw_aload_n (pc := 34) C0 0 dX5_makePlan_34 rfl rfl ?_
    refine xw_getR (pc := 35) (f := 6) C0 141 kcX5 dX5_makePlan_35 (by decide +kernel) tv_406 (xj_137 hKL) xk_69 rfl (((xw_un (fun q => absurd q.1 (by decide +kernel))).trans ((xw_un (fun q => absurd q.1 (by decide +kernel))).trans ((xw_un (fun q => absurd q.1 (by decide +kernel))).trans rfl))).trans (xe_137_6 hG)) ?_
    refine xw_iconst (pc := 38) C0 dX5_makePlan_38 ?_
    refine xw_bipush (pc := 39) C0 dX5_makePlan_39 (by decide +kernel) ?_
    refine xw_iast (pc := 41) C0 dX5_makePlan_41 (xj_141 hKL) xk_73 (by omega) (by decide +kernel) (xw_rl (by omega)) (by omega) (by omega) ?_
    refine xw_mu (μ' := (xw_u (xw_u (xw_u (xw_u μ 141 0 ((v (9 + T)) + (v (3 + T)))) 141 1 2) 141 2 60) 141 3 120)) rfl ?_
    refine xw_iconst (pc := 42) C0 dX5_makePlan_42 ?_
    refine xw_istore (pc := 43) (L' := [(4, .int (Int32.ofInt 0)), (0, .ref (xw_ad al 137)), (1, .ref (xw_ad al 4)), (2, .int (Int32.ofInt (T : Int))), (3, .int (Int32.ofInt ((hx_bs ps (v 1).toNat : Nat) : Int)))]) C0 dX5_makePlan_43 (by decide +kernel) rfl ?_
    have Ft1 : xw_F [(141, 0, 0), (141, 1, 1), (141, 2, 2), (141, 3, 3)] μ (xw_u (xw_u (xw_u (xw_u μ 141 0 ((v (9 + T)) + (v (3 + T)))) 141 1 2) 141 2 60) 141 3 120) := (((((xw_F.rf (ML := [(141, 0, 0), (141, 1, 1), (141, 2, 2), (141, 3, 3)])).u (show (141, 0, 0) ∈ _ by decide) ⟨by decide, by decide⟩).u (show (141, 1, 1) ∈ _ by decide) ⟨by decide, by decide⟩).u (show (141, 2, 2) ∈ _ by decide) ⟨by decide, by decide⟩).u (show (141, 3, 3) ∈ _ by decide) ⟨by decide, by decide⟩)
    have vt1_141_3 : (xw_u (xw_u (xw_u (xw_u μ 141 0 ((v (9 + T)) + (v (3 + T)))) 141 1 2) 141 2 60) 141 3 120) 141 3 = 120 := xw_ug
    have vt1_141_2 : (xw_u (xw_u (xw_u (xw_u μ 141 0 ((v (9 + T)) + (v (3 + T)))) 141 1 2) 141 2 60) 141 3 120) 141 2 = 60 := (xw_un (by decide +kernel)).trans xw_ug
    have vt1_141_1 : (xw_u (xw_u (xw_u (xw_u μ 141 0 ((v (9 + T)) + (v (3 + T)))) 141 1 2) 141 2 60) 141 3 120) 141 1 = 2 := (xw_un (by decide +kernel)).trans ((xw_un (by decide +kernel)).trans xw_ug)
    have vt1_141_0 : (xw_u (xw_u (xw_u (xw_u μ 141 0 ((v (9 + T)) + (v (3 + T)))) 141 1 2) 141 2 60) 141 3 120) 141 0 = (v (9 + T)) + (v (3 + T)) := (xw_un (by decide +kernel)).trans ((xw_un (by decide +kernel)).trans ((xw_un (by decide +kernel)).trans xw_ug))
    generalize (xw_u (xw_u (xw_u (xw_u μ 141 0 ((v (9 + T)) + (v (3 + T)))) 141 1 2) 141 2 60) 141 3 120) = t1 at Ft1 vt1_141_3 vt1_141_2 vt1_141_1 vt1_141_0 ⊢
    have hG_t1 := xw_GF hG Ft1 (by decide +kernel)
    have hE8 : hx_E v 4 t1 := hx_EF hE (xw_Frg (a := 4) (b := 17) Ft1 (by decide +kernel))
    refine xw_pk [1, 2, 3, 4, 0] (L' := [(0, .ref (xw_ad al 137)), (1, .ref (xw_ad al 4)), (2, .int (Int32.ofInt (T : Int))), (3, .int (Int32.ofInt ((hx_bs ps (v 1).toNat : Nat) : Int))), (4, .int (Int32.ofInt ((0 : Nat) : Int)))]) rfl ?_
    refine xq_mpL (v := v) (nm := nm) (ps := ps) (T := T) (μ := t1) C0 hU hO hKL hG_t1 hK hE8 hT (fun ν hz hF hG_ν => ?_) 9 0 t1 (by omega) (Nat.zero_le _) (fun i h => absurd h (Nat.not_lt_zero i)) xw_F.rf hG_t1
    have hP9 : ∀ f : Nat, f < 8 → ν 140 (8 * 0 + f) = hx_w0 v ps (v 1).toNat f := fun f hf => by rw [show 8 * 0 + f = f by omega]; exact hz f hf
    refine xw_aload_n (pc := 83) C0 0 dX5_makePlan_83 rfl rfl ?_
    refine xw_aload_n (pc := 84) C0 0 dX5_makePlan_84 rfl rfl ?_
    refine xw_iconst (pc := 85) C0 dX5_makePlan_85 ?_
    refine xw_callVI (pc := 86) (μ := ν) (ci := 5) (rest := [.ref (xw_ad al 137)]) (As := [.int (Int32.ofInt 0)]) C0 hU hO sa_Tg hKL (xq_wb (l := l) (W := (hx_w0 v ps (v 1).toNat)) (k := 0) (μ := ν) hG_ν (by decide +kernel) hP9) tv_1217 dX5_makePlan_86 tv_1214 tv_1216 tq_X5_weightBehind tv_12 rfl yb_X5_weightBehind (by decide +kernel) rfl rfl rfl (by decide +kernel) (Nat.le_of_ble_eq_true rfl) (xj_137 hKL) xk_69 (fun r51 m51 w51 => ?_)
    obtain ⟨rfl, rfl⟩ := w51
    have s9 := hx_smB (W := (hx_w0 v ps (v 1).toNat)) 8 (fun f hf => hx_w0B hK hf)
    refine xw_putI (pc := 89) (f := 3) C0 kcX5 dX5_makePlan_89 (by decide +kernel) tv_402 rfl rfl (xj_137 hKL) xk_69 rfl (by omega) (by omega) ?_
    refine xw_aload_n (pc := 92) C0 0 dX5_makePlan_92 rfl rfl ?_
    refine xw_iconst (pc := 93) C0 dX5_makePlan_93 ?_
    refine xw_putI (pc := 94) (f := 2) C0 kcX5 dX5_makePlan_94 (by decide +kernel) tv_400 rfl rfl (xj_137 hKL) xk_69 rfl (by omega) (by omega) ?_
    refine xw_aload_n (pc := 97) C0 0 dX5_makePlan_97 rfl rfl ?_
    refine xw_aload_n (pc := 98) C0 1 dX5_makePlan_98 rfl rfl ?_
    refine xw_iconst (pc := 99) C0 dX5_makePlan_99 ?_
    refine xw_iconst (pc := 100) C0 dX5_makePlan_100 ?_
    refine xw_iconst (pc := 101) C0 dX5_makePlan_101 ?_
    have Ft11 : xw_F [(137, 2, 2), (137, 3, 3)] ν (xw_u (xw_u ν 137 3 (hx_sm (hx_w0 v ps (v 1).toNat) 8)) 137 2 (-1)) := (((xw_F.rf (ML := [(137, 2, 2), (137, 3, 3)])).u (show (137, 3, 3) ∈ _ by decide) ⟨by decide, by decide⟩).u (show (137, 2, 2) ∈ _ by decide) ⟨by decide, by decide⟩)
    have vt11_137_2 : (xw_u (xw_u ν 137 3 (hx_sm (hx_w0 v ps (v 1).toNat) 8)) 137 2 (-1)) 137 2 = (-1) := xw_ug
    have vt11_137_3 : (xw_u (xw_u ν 137 3 (hx_sm (hx_w0 v ps (v 1).toNat) 8)) 137 2 (-1)) 137 3 = hx_sm (hx_w0 v ps (v 1).toNat) 8 := (xw_un (by decide +kernel)).trans xw_ug
    generalize (xw_u (xw_u ν 137 3 (hx_sm (hx_w0 v ps (v 1).toNat) 8)) 137 2 (-1)) = t11 at Ft11 vt11_137_2 vt11_137_3 ⊢
    have hG_t11 := xw_GF hG_ν Ft11 (by decide +kernel)
    have hE9 : hx_E v 4 t11 := hx_EF (hx_EF (hx_EF hE (xw_Frg (a := 4) (b := 17) Ft1 (by decide +kernel))) (xw_Frg (a := 4) (b := 17) hF (by decide +kernel))) (xw_Frg (a := 4) (b := 17) Ft11 (by decide +kernel))
    have hC9 : ∀ d : Nat, d < 4 → t11 141 d = hx_pm v T d := fun d hd => by
      rw [Ft11 141 d (xw_oj (by decide +kernel) d), hF 141 d (xw_oj (by decide +kernel) d)]
      rcases (show d = 0 ∨ d = 1 ∨ d = 2 ∨ d = 3 by omega) with rfl | rfl | rfl | rfl
      · exact vt1_141_0
      · exact vt1_141_1
      · exact vt1_141_2
      · exact vt1_141_3
    have hB9 : hx_bC (((2000000000 : Int), (0 : Int), (fun _ => 0 : Nat → Int)) : hx_pB) t11 := ⟨Or.inl ⟨rfl, vt11_137_2⟩, fun q => absurd q (by decide +kernel)⟩
    refine xw_callVV (pc := 102) (μ := t11) (ci := 5) (rest := []) (As := [.ref (xw_ad al 4), .int (Int32.ofInt 0), .int (Int32.ofInt 0), .int (Int32.ofInt 0)]) C0 hU hO sa_Tg hKL (xq_tr0 (l := l) (v := v) (nm := nm) (W := (hx_w0 v ps (v 1).toNat)) (row := fun _ => 0) (T := T) (dn := 0) (B := (((2000000000 : Int), (0 : Int), (fun _ => 0 : Nat → Int)) : hx_pB)) (c9 := 0) (μ := t11) hG_t11 hK hE9 hT hC9 (fun f hf => hx_w0B hK hf) (fun f hf => (Ft11 140 (0 + f) (xw_oj (by decide +kernel) _)).trans (by rw [Nat.zero_add]; exact hz f hf)) (fun i hi => absurd hi (Nat.not_lt_zero i)) hB9 (by decide +kernel) rfl (by decide +kernel) hs0) tv_1221 dX5_makePlan_102 tv_1218 tv_1220 tq_X5_tryRows tv_12 rfl yb_X5_tryRows (by decide +kernel) rfl rfl rfl (by decide +kernel) (Nat.le_of_ble_eq_true rfl) (xj_137 hKL) xk_69 (fun m52 w52 => ?_)
    obtain ⟨H52, F52⟩ := w52
    refine xw_vret C0 hA hr hlk dX5_makePlan_105 ?_
    exact ⟨rfl, (F52 137 3 (by decide +kernel)).trans vt11_137_3, H52, (((Ft1.mono (fun j i h => xw_o_sub (by decide +kernel) j i h)).tr hF (fun j i h => xw_o_sub (by decide +kernel) j i h)).tr Ft11 (fun j i h => xw_o_sub (by decide +kernel) j i h)).tr F52 (fun j i h => xw_o_sub (by decide +kernel) j i h)⟩)
