set_option maxRecDepth 20000 in
set_option maxHeartbeats 20000000 in
theorem xq_tr1_1 {l : Launch} {p : Program} {e : Env} {s : State} {m : MethodId} {args : Array Value} {below : List Frame} {meth : Method} {c : Code} {Q : State → Prop} {D : va_G} {dA : Nat → ClassId} {A : Nat → Prop} {al : List (Nat × Nat)} (C0 : sa_C p s m args c D dA A 7 vwCl sa_Ts cX5_tryRows yX5_tryRows.cls) (hU : sa_U D vwCl dA s) (hO : tb_Ou A s s.heap) (hKL : al.map Prod.snd = tc_KL) {v nm W row : Nat → Int} {T dn : Nat} {B : hx_pB} {c9 : Int} {μ : xw_M} (hG : xw_G xw_GL μ) (hK : hp_ok v nm) (hE : hx_E v 4 μ) (hT : (T : Int) < v 0) (hC : ∀ d : Nat, d < 4 → μ 141 d = hx_pm v T d) (hW : ∀ f : Nat, f < 8 → 0 ≤ W f ∧ W f ≤ 171072) (hP : ∀ f : Nat, f < 8 → μ 140 (8 + f) = W f) (hrw : ∀ i : Nat, i < 1 → μ 139 i = row i) (hB : hx_bC B μ) (hdn : dn < 8) (hpc : hs_pc dn = 1) (hc : 0 ≤ c9 ∧ c9 ≤ 164229120) (hs : ¬ hx_sm W 8 = 0) (kx : ∀ ν : xw_M, hx_bC (hx_kp (hx_sd v T 2 1 W dn c9 row 2 (hx_sd v T 2 1 W dn c9 row 1 B)) (1 + 1) (c9 + hx_sm W 8 * 120) (hx_ru row 1 3)) ν → xw_F [(140, 16, 31), (139, 1, 3), (138, 0, 3), (137, 1, 2)] μ ν → xw_W p l e { frames := 7, cells := 0, slots := 0, locals := 245 } s m args below meth c Q D dA A 7 vwCl tb_KT0 al 0 0 ν 97 [] []) : xw_W p l e { frames := 7, cells := 0, slots := 0, locals := 245 } s m args below meth c Q D dA A 7 vwCl tb_KT0 al 0 0 μ 23 [(0, .ref (xw_ad al 137)), (1, .ref (xw_ad al 4)), (2, .int (Int32.ofInt 1)), (3, .int (Int32.ofInt (dn : Int))), (4, .int (Int32.ofInt c9)), (5, .int (Int32.ofInt (hx_sm W 8))), (6, .int (Int32.ofInt 1))] [] := by
  have k0 := hK.1
  have s9 := hx_smB (W := W) 8 hW
  have s9 : 0 ≤ hx_sm W 8 ∧ hx_sm W 8 ≤ 1368576 := ⟨s9.1, by have q := s9.2; omega⟩
  refine xw_iload (pc := 23) C0 6 dX5_tryRows_23 rfl ?_
  refine xw_iconst (pc := 25) C0 dX5_tryRows_25 ?_
  refine xw_icmp_ge (pc := 26) (tgt := 71) C0 (by omega) (by omega) dX5_tryRows_26 rfl (fun b1 => ?_) (fun b1 => ?_)
  · exfalso
    omega
  · refine xw_iload_n (pc := 29) C0 2 dX5_tryRows_29 rfl rfl ?_
    refine xw_iconst (pc := 30) C0 dX5_tryRows_30 ?_
    refine xw_icmp_ge (pc := 31) (tgt := 71) C0 (by omega) (by omega) dX5_tryRows_31 rfl (fun b2 => ?_) (fun b2 => ?_)
    · exfalso
      omega
    · refine xw_iload_n (pc := 34) C0 3 dX5_tryRows_34 rfl rfl ?_
      refine xw_iload (pc := 35) C0 6 dX5_tryRows_35 rfl ?_
      rcases hx_tf (dn.testBit 1) with b9 | b9
      · have n9 : tb_hb (Int32.ofInt (dn : Int)) (Int32.ofInt 1) = Int32.ofInt 1 := (xb_prB (u := 1) hdn (by decide +kernel)).trans (by rw [b9]; rfl)
        refine xw_bitN (pc := 37) (host := "OffThenOn") (rest := []) C0 hU sa_Tg (pu_X11_bit (l := l)) tv_589 dX5_tryRows_37 (by decide +kernel) tv_588 tv_1 yb_X11_bit (by decide +kernel) (by decide +kernel) (Nat.le_of_ble_eq_true rfl) n9 ?_
        refine xw_if_ne (pc := 40) (tgt := 65) C0 (by omega) dX5_tryRows_40 rfl (fun b3 => ?_) (fun b3 => ?_)
        · refine xw_iinc (pc := 65) (L' := [(6, .int (Int32.ofInt 2)), (0, .ref (xw_ad al 137)), (1, .ref (xw_ad al 4)), (2, .int (Int32.ofInt 1)), (3, .int (Int32.ofInt (dn : Int))), (4, .int (Int32.ofInt c9)), (5, .int (Int32.ofInt (hx_sm W 8)))]) C0 6 dX5_tryRows_65 rfl (by decide +kernel) rfl ?_
          refine xw_goto (pc := 68) (tgt := 23) C0 dX5_tryRows_68 rfl ?_
          refine xw_pk [1, 2, 3, 4, 5, 6, 0] (L' := [(0, .ref (xw_ad al 137)), (1, .ref (xw_ad al 4)), (2, .int (Int32.ofInt 1)), (3, .int (Int32.ofInt (dn : Int))), (4, .int (Int32.ofInt c9)), (5, .int (Int32.ofInt (hx_sm W 8))), (6, .int (Int32.ofInt 2))]) rfl ?_
          rw [hx_sdT b9] at kx
          exact xq_tr1_2 (v := v) (nm := nm) (W := W) (row := row) (T := T) (dn := dn) (B := B) (c9 := c9) (μ := μ) C0 hU hO hKL hG hK hE hT hC hW hP hrw hB hdn hpc hc hs kx
        · exfalso
          omega
      · have n9 : tb_hb (Int32.ofInt (dn : Int)) (Int32.ofInt 1) = Int32.ofInt 0 := (xb_prB (u := 1) hdn (by decide +kernel)).trans (by rw [b9]; rfl)
        refine xw_bitN (pc := 37) (host := "OffThenOn") (rest := []) C0 hU sa_Tg (pu_X11_bit (l := l)) tv_589 dX5_tryRows_37 (by decide +kernel) tv_588 tv_1 yb_X11_bit (by decide +kernel) (by decide +kernel) (Nat.le_of_ble_eq_true rfl) n9 ?_
        refine xw_if_ne (pc := 40) (tgt := 65) C0 (by omega) dX5_tryRows_40 rfl (fun b4 => ?_) (fun b4 => ?_)
        · exfalso
          omega
        · refine xw_aload_n (pc := 43) C0 0 dX5_tryRows_43 rfl rfl ?_
          refine xw_aload_n (pc := 44) C0 1 dX5_tryRows_44 rfl rfl ?_
          refine xw_iload_n (pc := 45) C0 2 dX5_tryRows_45 rfl rfl ?_
          refine xw_iload_n (pc := 46) C0 3 dX5_tryRows_46 rfl rfl ?_
          refine xw_iload (pc := 47) C0 6 dX5_tryRows_47 rfl ?_
          refine xw_iload (pc := 49) C0 4 dX5_tryRows_49 rfl ?_
          refine xw_iload (pc := 51) C0 5 dX5_tryRows_51 rfl ?_
          refine xw_aload_n (pc := 53) C0 0 dX5_tryRows_53 rfl rfl ?_
          refine xw_getR (pc := 54) (f := 6) C0 141 kcX5 dX5_tryRows_54 (by decide +kernel) tv_406 (xj_137 hKL) xk_69 rfl ((rfl).trans (xe_137_6 hG)) ?_
          refine xw_iload (pc := 57) C0 6 dX5_tryRows_57 rfl ?_
          have p5 : μ 141 1 = hx_pm v T 1 := hC 1 (by decide +kernel)
          refine xw_iald (pc := 59) (z := hx_pm v T 1) C0 dX5_tryRows_59 (xj_141 hKL) xk_73 (by decide +kernel) (by decide +kernel) rfl p5 (fun g5 k5 => ?_)
          have v9 := hx_mul s9 (hx_pmB hK hT 1)
          refine xw_imul (pc := 60) C0 dX5_tryRows_60 ?_
          refine xw_iadd (pc := 61) C0 dX5_tryRows_61 ?_
          refine xw_callVV (pc := 62) (μ := μ) (ci := 5) (rest := []) (As := [.ref (xw_ad al 4), .int (Int32.ofInt 1), .int (Int32.ofInt (dn : Int)), .int (Int32.ofInt 1), .int (Int32.ofInt (c9 + ((hx_sm W 8) * (hx_pm v T 1))))]) C0 hU hO sa_Tg hKL (xq_td1 (l := l) (v := v) (nm := nm) (W := W) (row := row) (T := T) (dn := dn) (d := 1) (B := B) (c9 := c9 + hx_sm W 8 * hx_pm v T 1) (μ := μ) hG hK hE hT hC hW hP hrw hB hdn hpc (by decide +kernel) b9 (by omega)) tv_1230 dX5_tryRows_62 tv_1227 tv_1229 tq_X5_tryDeed tv_12 rfl yb_X5_tryDeed (by decide +kernel) rfl rfl rfl (by decide +kernel) (Nat.le_of_ble_eq_true rfl) (xj_137 hKL) xk_69 (fun m6 w6 => ?_)
          obtain ⟨H6, F6⟩ := w6
          have hG_m6 := xw_GF hG F6 (by decide +kernel)
          refine xw_iinc (pc := 65) (L' := [(6, .int (Int32.ofInt 2)), (0, .ref (xw_ad al 137)), (1, .ref (xw_ad al 4)), (2, .int (Int32.ofInt 1)), (3, .int (Int32.ofInt (dn : Int))), (4, .int (Int32.ofInt c9)), (5, .int (Int32.ofInt (hx_sm W 8)))]) C0 6 dX5_tryRows_65 rfl (by decide +kernel) rfl ?_
          refine xw_goto (pc := 68) (tgt := 23) C0 dX5_tryRows_68 rfl ?_
          refine xw_pk [1, 2, 3, 4, 5, 6, 0] (L' := [(0, .ref (xw_ad al 137)), (1, .ref (xw_ad al 4)), (2, .int (Int32.ofInt 1)), (3, .int (Int32.ofInt (dn : Int))), (4, .int (Int32.ofInt c9)), (5, .int (Int32.ofInt (hx_sm W 8))), (6, .int (Int32.ofInt 2))]) rfl ?_
          rw [hx_sdF b9] at kx
          exact xq_tr1_2 (v := v) (nm := nm) (W := W) (row := row) (T := T) (dn := dn) (c9 := c9) (μ := m6) C0 hU hO hKL hG_m6 hK (hx_EF hE (xw_Frg (a := 4) (b := 17) F6 (by decide +kernel))) hT (fun d hd => (F6 141 d (xw_oj (by decide +kernel) d)).trans (hC d hd)) hW (fun f hf => (F6 140 _ (xw_oB (a := 8) (b := 15) (by decide +kernel) (by omega) (by omega))).trans (hP f hf)) (fun i hi => (F6 139 i (xw_oB (a := 0) (b := 0) (by decide +kernel) (Nat.zero_le _) (by omega))).trans (hrw i hi)) H6 hdn hpc hc hs (fun ν h1 h2 => kx ν h1 (F6.tr h2 (fun j i h => h)))
set_option maxRecDepth 20000 in
set_option maxHeartbeats 20000000 in
theorem xq_tr1_0 {l : Launch} {p : Program} {e : Env} {s : State} {m : MethodId} {args : Array Value} {below : List Frame} {meth : Method} {c : Code} {Q : State → Prop} {D : va_G} {dA : Nat → ClassId} {A : Nat → Prop} {al : List (Nat × Nat)} (C0 : sa_C p s m args c D dA A 7 vwCl sa_Ts cX5_tryRows yX5_tryRows.cls) (hU : sa_U D vwCl dA s) (hO : tb_Ou A s s.heap) (hKL : al.map Prod.snd = tc_KL) {v nm W row : Nat → Int} {T dn : Nat} {B : hx_pB} {c9 : Int} {μ : xw_M} (hG : xw_G xw_GL μ) (hK : hp_ok v nm) (hE : hx_E v 4 μ) (hT : (T : Int) < v 0) (hC : ∀ d : Nat, d < 4 → μ 141 d = hx_pm v T d) (hW : ∀ f : Nat, f < 8 → 0 ≤ W f ∧ W f ≤ 171072) (hP : ∀ f : Nat, f < 8 → μ 140 (8 + f) = W f) (hrw : ∀ i : Nat, i < 1 → μ 139 i = row i) (hB : hx_bC B μ) (hdn : dn < 8) (hpc : hs_pc dn = 1) (hc : 0 ≤ c9 ∧ c9 ≤ 164229120) (hs : ¬ hx_sm W 8 = 0) (kx : ∀ ν : xw_M, hx_bC (hx_kp (hx_sd v T 2 1 W dn c9 row 2 (hx_sd v T 2 1 W dn c9 row 1 (hx_sd v T 2 1 W dn c9 row 0 B))) (1 + 1) (c9 + hx_sm W 8 * 120) (hx_ru row 1 3)) ν → xw_F [(140, 16, 31), (139, 1, 3), (138, 0, 3), (137, 1, 2)] μ ν → xw_W p l e { frames := 7, cells := 0, slots := 0, locals := 245 } s m args below meth c Q D dA A 7 vwCl tb_KT0 al 0 0 ν 97 [] []) : xw_W p l e { frames := 7, cells := 0, slots := 0, locals := 245 } s m args below meth c Q D dA A 7 vwCl tb_KT0 al 0 0 μ 23 [(0, .ref (xw_ad al 137)), (1, .ref (xw_ad al 4)), (2, .int (Int32.ofInt 1)), (3, .int (Int32.ofInt (dn : Int))), (4, .int (Int32.ofInt c9)), (5, .int (Int32.ofInt (hx_sm W 8))), (6, .int (Int32.ofInt 0))] [] := by
  have k0 := hK.1
  have s9 := hx_smB (W := W) 8 hW
  have s9 : 0 ≤ hx_sm W 8 ∧ hx_sm W 8 ≤ 1368576 := ⟨s9.1, by have q := s9.2; omega⟩
  refine xw_iload (pc := 23) C0 6 dX5_tryRows_23 rfl ?_
  refine xw_iconst (pc := 25) C0 dX5_tryRows_25 ?_
  refine xw_icmp_ge (pc := 26) (tgt := 71) C0 (by omega) (by omega) dX5_tryRows_26 rfl (fun b1 => ?_) (fun b1 => ?_)
  · exfalso
    omega
  · refine xw_iload_n (pc := 29) C0 2 dX5_tryRows_29 rfl rfl ?_
    refine xw_iconst (pc := 30) C0 dX5_tryRows_30 ?_
    refine xw_icmp_ge (pc := 31) (tgt := 71) C0 (by omega) (by omega) dX5_tryRows_31 rfl (fun b2 => ?_) (fun b2 => ?_)
    · exfalso
      omega
    · refine xw_iload_n (pc := 34) C0 3 dX5_tryRows_34 rfl rfl ?_
      refine xw_iload (pc := 35) C0 6 dX5_tryRows_35 rfl ?_
      rcases hx_tf (dn.testBit 0) with b9 | b9
      · have n9 : tb_hb (Int32.ofInt (dn : Int)) (Int32.ofInt 0) = Int32.ofInt 1 := (xb_prB (u := 0) hdn (by decide +kernel)).trans (by rw [b9]; rfl)
        refine xw_bitN (pc := 37) (host := "OffThenOn") (rest := []) C0 hU sa_Tg (pu_X11_bit (l := l)) tv_589 dX5_tryRows_37 (by decide +kernel) tv_588 tv_1 yb_X11_bit (by decide +kernel) (by decide +kernel) (Nat.le_of_ble_eq_true rfl) n9 ?_
        refine xw_if_ne (pc := 40) (tgt := 65) C0 (by omega) dX5_tryRows_40 rfl (fun b3 => ?_) (fun b3 => ?_)
        · refine xw_iinc (pc := 65) (L' := [(6, .int (Int32.ofInt 1)), (0, .ref (xw_ad al 137)), (1, .ref (xw_ad al 4)), (2, .int (Int32.ofInt 1)), (3, .int (Int32.ofInt (dn : Int))), (4, .int (Int32.ofInt c9)), (5, .int (Int32.ofInt (hx_sm W 8)))]) C0 6 dX5_tryRows_65 rfl (by decide +kernel) rfl ?_
          refine xw_goto (pc := 68) (tgt := 23) C0 dX5_tryRows_68 rfl ?_
          refine xw_pk [1, 2, 3, 4, 5, 6, 0] (L' := [(0, .ref (xw_ad al 137)), (1, .ref (xw_ad al 4)), (2, .int (Int32.ofInt 1)), (3, .int (Int32.ofInt (dn : Int))), (4, .int (Int32.ofInt c9)), (5, .int (Int32.ofInt (hx_sm W 8))), (6, .int (Int32.ofInt 1))]) rfl ?_
          rw [hx_sdT b9] at kx
          exact xq_tr1_1 (v := v) (nm := nm) (W := W) (row := row) (T := T) (dn := dn) (B := B) (c9 := c9) (μ := μ) C0 hU hO hKL hG hK hE hT hC hW hP hrw hB hdn hpc hc hs kx
        · exfalso
          omega
      · have n9 : tb_hb (Int32.ofInt (dn : Int)) (Int32.ofInt 0) = Int32.ofInt 0 := (xb_prB (u := 0) hdn (by decide +kernel)).trans (by rw [b9]; rfl)
        refine xw_bitN (pc := 37) (host := "OffThenOn") (rest := []) C0 hU sa_Tg (pu_X11_bit (l := l)) tv_589 dX5_tryRows_37 (by decide +kernel) tv_588 tv_1 yb_X11_bit (by decide +kernel) (by decide +kernel) (Nat.le_of_ble_eq_true rfl) n9 ?_
        refine xw_if_ne (pc := 40) (tgt := 65) C0 (by omega) dX5_tryRows_40 rfl (fun b4 => ?_) (fun b4 => ?_)
        · exfalso
          omega
        · refine xw_aload_n (pc := 43) C0 0 dX5_tryRows_43 rfl rfl ?_
          refine xw_aload_n (pc := 44) C0 1 dX5_tryRows_44 rfl rfl ?_
          refine xw_iload_n (pc := 45) C0 2 dX5_tryRows_45 rfl rfl ?_
          refine xw_iload_n (pc := 46) C0 3 dX5_tryRows_46 rfl rfl ?_
          refine xw_iload (pc := 47) C0 6 dX5_tryRows_47 rfl ?_
          refine xw_iload (pc := 49) C0 4 dX5_tryRows_49 rfl ?_
          refine xw_iload (pc := 51) C0 5 dX5_tryRows_51 rfl ?_
          refine xw_aload_n (pc := 53) C0 0 dX5_tryRows_53 rfl rfl ?_
          refine xw_getR (pc := 54) (f := 6) C0 141 kcX5 dX5_tryRows_54 (by decide +kernel) tv_406 (xj_137 hKL) xk_69 rfl ((rfl).trans (xe_137_6 hG)) ?_
          refine xw_iload (pc := 57) C0 6 dX5_tryRows_57 rfl ?_
          have p5 : μ 141 0 = hx_pm v T 0 := hC 0 (by decide +kernel)
          refine xw_iald (pc := 59) (z := hx_pm v T 0) C0 dX5_tryRows_59 (xj_141 hKL) xk_73 (by decide +kernel) (by decide +kernel) rfl p5 (fun g5 k5 => ?_)
          have v9 := hx_mul s9 (hx_pmB hK hT 0)
          refine xw_imul (pc := 60) C0 dX5_tryRows_60 ?_
          refine xw_iadd (pc := 61) C0 dX5_tryRows_61 ?_
          refine xw_callVV (pc := 62) (μ := μ) (ci := 5) (rest := []) (As := [.ref (xw_ad al 4), .int (Int32.ofInt 1), .int (Int32.ofInt (dn : Int)), .int (Int32.ofInt 0), .int (Int32.ofInt (c9 + ((hx_sm W 8) * (hx_pm v T 0))))]) C0 hU hO sa_Tg hKL (xq_td1 (l := l) (v := v) (nm := nm) (W := W) (row := row) (T := T) (dn := dn) (d := 0) (B := B) (c9 := c9 + hx_sm W 8 * hx_pm v T 0) (μ := μ) hG hK hE hT hC hW hP hrw hB hdn hpc (by decide +kernel) b9 (by omega)) tv_1230 dX5_tryRows_62 tv_1227 tv_1229 tq_X5_tryDeed tv_12 rfl yb_X5_tryDeed (by decide +kernel) rfl rfl rfl (by decide +kernel) (Nat.le_of_ble_eq_true rfl) (xj_137 hKL) xk_69 (fun m6 w6 => ?_)
          obtain ⟨H6, F6⟩ := w6
          have hG_m6 := xw_GF hG F6 (by decide +kernel)
          refine xw_iinc (pc := 65) (L' := [(6, .int (Int32.ofInt 1)), (0, .ref (xw_ad al 137)), (1, .ref (xw_ad al 4)), (2, .int (Int32.ofInt 1)), (3, .int (Int32.ofInt (dn : Int))), (4, .int (Int32.ofInt c9)), (5, .int (Int32.ofInt (hx_sm W 8)))]) C0 6 dX5_tryRows_65 rfl (by decide +kernel) rfl ?_
          refine xw_goto (pc := 68) (tgt := 23) C0 dX5_tryRows_68 rfl ?_
          refine xw_pk [1, 2, 3, 4, 5, 6, 0] (L' := [(0, .ref (xw_ad al 137)), (1, .ref (xw_ad al 4)), (2, .int (Int32.ofInt 1)), (3, .int (Int32.ofInt (dn : Int))), (4, .int (Int32.ofInt c9)), (5, .int (Int32.ofInt (hx_sm W 8))), (6, .int (Int32.ofInt 1))]) rfl ?_
          rw [hx_sdF b9] at kx
          exact xq_tr1_1 (v := v) (nm := nm) (W := W) (row := row) (T := T) (dn := dn) (c9 := c9) (μ := m6) C0 hU hO hKL hG_m6 hK (hx_EF hE (xw_Frg (a := 4) (b := 17) F6 (by decide +kernel))) hT (fun d hd => (F6 141 d (xw_oj (by decide +kernel) d)).trans (hC d hd)) hW (fun f hf => (F6 140 _ (xw_oB (a := 8) (b := 15) (by decide +kernel) (by omega) (by omega))).trans (hP f hf)) (fun i hi => (F6 139 i (xw_oB (a := 0) (b := 0) (by decide +kernel) (Nat.zero_le _) (by omega))).trans (hrw i hi)) H6 hdn hpc hc hs (fun ν h1 h2 => kx ν h1 (F6.tr h2 (fun j i h => h)))
set_option maxRecDepth 20000 in
set_option maxHeartbeats 20000000 in
theorem xq_tr1 {l : Launch} {v nm W row : Nat → Int} {T dn : Nat} {B : hx_pB} {c9 : Int} {μ : xw_M} (hG : xw_G xw_GL μ) (hK : hp_ok v nm) (hE : hx_E v 4 μ) (hT : (T : Int) < v 0) (hC : ∀ d : Nat, d < 4 → μ 141 d = hx_pm v T d) (hW : ∀ f : Nat, f < 8 → 0 ≤ W f ∧ W f ≤ 171072) (hP : ∀ f : Nat, f < 8 → μ 140 (8 + f) = W f) (hrw : ∀ i : Nat, i < 1 → μ 139 i = row i) (hB : hx_bC B μ) (hdn : dn < 8) (hpc : hs_pc dn = 1) (hc : 0 ≤ c9 ∧ c9 ≤ 164229120) : xw_MetV l vwCl sa_Ts tb_KT0 tc_KL yX5_tryRows cX5_tryRows 7 none 7 245 (fun ad => [.ref (ad 137), .ref (ad 4), .int (Int32.ofInt 1), .int (Int32.ofInt (dn : Int)), .int (Int32.ofInt c9)]) μ (fun μ' => hx_bC (hx_S v T 3 1 W dn c9 row B) μ' ∧ xw_F [(140, 16, 31), (139, 1, 3), (138, 0, 3), (137, 1, 2)] μ μ') :=
  xw_of (by decide +kernel) (fun _ => Nat.le_of_ble_eq_true rfl) (fun p e s m args below meth c D dA A al w0 sz C0 hU hO hKL hr hlk hA => by
    have k0 := hK.1
    have s9 := hx_smB (W := W) 8 hW
    have s9 : 0 ≤ hx_sm W 8 ∧ hx_sm W 8 ≤ 1368576 := ⟨s9.1, by have q := s9.2; omega⟩
    refine xw_aload_n (pc := 0) C0 0 dX5_tryRows_0 rfl rfl ?_
    refine xw_iload_n (pc := 1) C0 2 dX5_tryRows_1 rfl rfl ?_
    refine xw_callVI (pc := 2) (μ := μ) (ci := 5) (rest := []) (As := [.int (Int32.ofInt 1)]) C0 hU hO sa_Tg hKL (xq_wb (l := l) (W := W) (k := 1) (μ := μ) hG (by decide +kernel) hP) tv_1217 dX5_tryRows_2 tv_1214 tv_1216 tq_X5_weightBehind tv_12 rfl yb_X5_weightBehind (by decide +kernel) rfl rfl rfl (by decide +kernel) (Nat.le_of_ble_eq_true rfl) (xj_137 hKL) xk_69 (fun r1 m1 w1 => ?_)
    obtain ⟨rfl, rfl⟩ := w1
    refine xw_istore (pc := 5) (L' := [(5, .int (Int32.ofInt (hx_sm W 8))), (0, .ref (xw_ad al 137)), (1, .ref (xw_ad al 4)), (2, .int (Int32.ofInt 1)), (3, .int (Int32.ofInt (dn : Int))), (4, .int (Int32.ofInt c9))]) C0 dX5_tryRows_5 (by decide +kernel) rfl ?_
    refine xw_iload (pc := 7) C0 0 dX5_tryRows_7 rfl ?_
    refine xw_if_ne (pc := 9) (tgt := 20) C0 (by omega) dX5_tryRows_9 rfl (fun b2 => ?_) (fun b2 => ?_)
    · refine xw_iconst (pc := 20) C0 dX5_tryRows_20 ?_
      refine xw_istore (pc := 21) (L' := [(6, .int (Int32.ofInt 0)), (5, .int (Int32.ofInt (hx_sm W 8))), (0, .ref (xw_ad al 137)), (1, .ref (xw_ad al 4)), (2, .int (Int32.ofInt 1)), (3, .int (Int32.ofInt (dn : Int))), (4, .int (Int32.ofInt c9))]) C0 dX5_tryRows_21 (by decide +kernel) rfl ?_
      have hs : ¬ hx_sm W 8 = 0 := by omega
      refine xw_pk [2, 3, 4, 5, 6, 1, 0] (L' := [(0, .ref (xw_ad al 137)), (1, .ref (xw_ad al 4)), (2, .int (Int32.ofInt 1)), (3, .int (Int32.ofInt (dn : Int))), (4, .int (Int32.ofInt c9)), (5, .int (Int32.ofInt (hx_sm W 8))), (6, .int (Int32.ofInt 0))]) rfl ?_
      refine xq_tr1_0 (v := v) (nm := nm) (W := W) (row := row) (T := T) (c9 := c9) (μ := μ) C0 hU hO hKL hG hK hE hT hC hW hP hrw hB hdn hpc hc hs (fun ν h1 h2 => ?_)
      refine xw_vret C0 hA hr hlk dX5_tryRows_97 ?_
      refine ⟨rfl, ?_, h2⟩
      rw [hx_Se (n := 2) hs]
      exact h1
    · refine xw_aload_n (pc := 12) C0 1 dX5_tryRows_12 rfl rfl ?_
      refine xw_iload_n (pc := 13) C0 3 dX5_tryRows_13 rfl rfl ?_
      refine xw_iload (pc := 14) C0 5 dX5_tryRows_14 rfl ?_
      refine xw_callVV (pc := 16) (μ := μ) (ci := 5) (rest := []) (As := [.int (Int32.ofInt 1), .int (Int32.ofInt c9)]) C0 hU hO sa_Tg hKL (xq_kb1 (l := l) (B := B) (c9 := c9) (row := row) (μ := μ) hG (by omega) hrw hB) tv_1225 dX5_tryRows_16 tv_1222 tv_1224 tq_X5_keepBetter tv_12 rfl yb_X5_keepBetter (by decide +kernel) rfl rfl rfl (by decide +kernel) (Nat.le_of_ble_eq_true rfl) (xj_137 hKL) xk_69 (fun m3 w3 => ?_)
      obtain ⟨H3, F3⟩ := w3
      refine xw_vret C0 hA hr hlk dX5_tryRows_19 ?_
      have hz9 : hx_sm W 8 = 0 := by omega
      refine ⟨rfl, ?_, ((xw_F.rf (ML := [(140, 16, 31), (139, 1, 3), (138, 0, 3), (137, 1, 2)])).tr F3 (fun j i h => xw_o_sub (by decide +kernel) j i h))⟩
      rw [hx_Sz hz9]
      exact H3)
set_option maxRecDepth 20000 in
set_option maxHeartbeats 20000000 in
theorem xq_td0 {l : Launch} {v nm W row : Nat → Int} {T dn d : Nat} {B : hx_pB} {c9 : Int} {μ : xw_M} (hG : xw_G xw_GL μ) (hK : hp_ok v nm) (hE : hx_E v 4 μ) (hT : (T : Int) < v 0) (hC : ∀ d : Nat, d < 4 → μ 141 d = hx_pm v T d) (hW : ∀ f : Nat, f < 8 → 0 ≤ W f ∧ W f ≤ 171072) (hP : ∀ f : Nat, f < 8 → μ 140 (0 + f) = W f) (hrw : ∀ i : Nat, i < 0 → μ 139 i = row i) (hB : hx_bC B μ) (hdn : dn < 8) (hpc : hs_pc dn = 0) (hd : d < 3) (hb : dn.testBit d = false) (hc : 0 ≤ c9 ∧ c9 ≤ 164229120) : xw_MetV l vwCl sa_Ts tb_KT0 tc_KL yX5_tryDeed cX5_tryDeed 6 none 8 271 (fun ad => [.ref (ad 137), .ref (ad 4), .int (Int32.ofInt 0), .int (Int32.ofInt (dn : Int)), .int (Int32.ofInt (d : Int)), .int (Int32.ofInt c9)]) μ (fun μ' => hx_bC (hx_S v T 3 1 (hx_nw v W d) (dn + 2 ^ d) c9 (hx_ru row 0 (d : Int)) B) μ' ∧ xw_F [(140, 8, 31), (139, 0, 3), (138, 0, 3), (137, 1, 2)] μ μ') :=
  xw_of (by decide +kernel) (fun _ => Nat.le_of_ble_eq_true rfl) (fun p e s m args below meth c D dA A al w0 sz C0 hU hO hKL hr hlk hA => by
    have o9 := xb_prO hdn hd hb
    refine xw_aload_n (pc := 0) C0 0 dX5_tryDeed_0 rfl rfl ?_
    refine xw_getR (pc := 1) (f := 4) C0 139 kcX5 dX5_tryDeed_1 (by decide +kernel) tv_404 (xj_137 hKL) xk_69 rfl ((rfl).trans (xe_137_4 hG)) ?_
    refine xw_iload_n (pc := 4) C0 2 dX5_tryDeed_4 rfl rfl ?_
    refine xw_iload (pc := 5) C0 4 dX5_tryDeed_5 rfl ?_
    refine xw_iast (pc := 7) C0 dX5_tryDeed_7 (xj_139 hKL) xk_71 (by omega) (by decide +kernel) (xw_rl (by omega)) (by omega) (by omega) ?_
    refine xw_mu (μ' := (xw_u μ 139 0 (d : Int))) rfl ?_
    refine xw_aload_n (pc := 8) C0 0 dX5_tryDeed_8 rfl rfl ?_
    refine xw_aload_n (pc := 9) C0 1 dX5_tryDeed_9 rfl rfl ?_
    refine xw_iload_n (pc := 10) C0 2 dX5_tryDeed_10 rfl rfl ?_
    refine xw_iload (pc := 11) C0 4 dX5_tryDeed_11 rfl ?_
    have Ft1 : xw_F [(139, 0, 0)] μ (xw_u μ 139 0 (d : Int)) := ((xw_F.rf (ML := [(139, 0, 0)])).u (show (139, 0, 0) ∈ _ by decide) ⟨by decide, by decide⟩)
    have vt1_139_0 : (xw_u μ 139 0 (d : Int)) 139 0 = (d : Int) := xw_ug
    generalize (xw_u μ 139 0 (d : Int)) = t1 at Ft1 vt1_139_0 ⊢
    have hG_t1 := xw_GF hG Ft1 (by decide +kernel)
    refine xw_callVV (pc := 13) (μ := t1) (ci := 5) (rest := []) (As := [.ref (xw_ad al 4), .int (Int32.ofInt 0), .int (Int32.ofInt (d : Int))]) C0 hU hO sa_Tg hKL (xq_wd0 (l := l) (v := v) (nm := nm) (W := W) (d := d) (μ := t1) hG_t1 hK (hx_EF hE (xw_Frg (a := 4) (b := 17) Ft1 (by decide +kernel))) hW (by omega) (fun f hf => (Ft1 140 _ (xw_oj (by decide +kernel) _)).trans (hP f hf))) tv_1234 dX5_tryDeed_13 tv_1231 tv_1233 tq_X5_weighDeed tv_12 rfl yb_X5_weighDeed (by decide +kernel) rfl rfl rfl (by decide +kernel) (Nat.le_of_ble_eq_true rfl) (xj_137 hKL) xk_69 (fun m1 w1 => ?_)
    obtain ⟨H1, F1⟩ := w1
    have hG_m1 := xw_GF hG_t1 F1 (by decide +kernel)
    refine xw_aload_n (pc := 16) C0 0 dX5_tryDeed_16 rfl rfl ?_
    refine xw_aload_n (pc := 17) C0 1 dX5_tryDeed_17 rfl rfl ?_
    refine xw_iload_n (pc := 18) C0 2 dX5_tryDeed_18 rfl rfl ?_
    refine xw_iconst (pc := 19) C0 dX5_tryDeed_19 ?_
    refine xw_iadd (pc := 20) C0 dX5_tryDeed_20 ?_
    refine  xw_nI (congrArg Int32.ofInt (show 0 + 1 = (1 : Int) by decide)) ?_
    refine xw_iload_n (pc := 21) C0 3 dX5_tryDeed_21 rfl rfl ?_
    refine xw_iconst (pc := 22) C0 dX5_tryDeed_22 ?_
    refine xw_iload (pc := 23) C0 4 dX5_tryDeed_23 rfl ?_
    refine xw_ishl (pc := 25) C0 dX5_tryDeed_25 (xb_shN (f := d) (by omega)) ?_
    refine xw_ior (pc := 26) C0 dX5_tryDeed_26 o9.1 ?_
    refine xw_iload (pc := 27) C0 5 dX5_tryDeed_27 rfl ?_
    have hE9 : hx_E v 4 m1 := hx_EF (hx_EF hE (xw_Frg (a := 4) (b := 17) Ft1 (by decide +kernel))) (xw_Frg (a := 4) (b := 17) F1 (by decide +kernel))
    have hr9 : ∀ i : Nat, i < 1 → m1 139 i = hx_ru row 0 (d : Int) i := fun i hi => by
      by_cases e9 : i = 0
      · subst e9; exact ((F1 139 _ (xw_oj (by decide +kernel) _)).trans vt1_139_0).trans (if_pos rfl).symm
      · exact absurd hi (by omega)
    have hB9 : hx_bC B m1 := ⟨by rw [F1 137 2 (by decide +kernel), Ft1 137 2 (by decide +kernel)]; exact hB.1, fun q => ⟨(F1 137 1 (by decide +kernel)).trans ((Ft1 137 1 (by decide +kernel)).trans (hB.2 q).1), fun i h4 hi => (F1 138 i (xw_oj (by decide +kernel) i)).trans ((Ft1 138 i (xw_oj (by decide +kernel) i)).trans ((hB.2 q).2 i h4 hi))⟩⟩
    refine xw_callVV (pc := 29) (μ := m1) (ci := 5) (rest := []) (As := [.ref (xw_ad al 4), .int (Int32.ofInt 1), .int (Int32.ofInt ((dn + 2 ^ d : Nat) : Int)), .int (Int32.ofInt c9)]) C0 hU hO sa_Tg hKL (xq_tr1 (l := l) (v := v) (nm := nm) (W := hx_nw v W d) (row := hx_ru row 0 (d : Int)) (T := T) (dn := dn + 2 ^ d) (B := B) (c9 := c9) (μ := m1) hG_m1 hK hE9 hT (fun d hd => (F1 141 d (xw_oj (by decide +kernel) d)).trans ((Ft1 141 d (xw_oj (by decide +kernel) d)).trans (hC d hd))) (fun f hf => hx_nwB hK (by omega) hf (hW f hf)) H1 hr9 hB9 o9.2.1 (by rw [o9.2.2, hpc]) (by omega)) tv_1221 dX5_tryDeed_29 tv_1218 tv_1220 tq_X5_tryRows tv_12 rfl yb_X5_tryRows (by decide +kernel) rfl rfl rfl (by decide +kernel) (Nat.le_of_ble_eq_true rfl) (xj_137 hKL) xk_69 (fun m2 w2 => ?_)
    obtain ⟨H2, F2⟩ := w2
    refine xw_vret C0 hA hr hlk dX5_tryDeed_32 ?_
    exact ⟨rfl, H2, ((((xw_F.rf (ML := [(140, 8, 31), (139, 0, 3), (138, 0, 3), (137, 1, 2)])).tr Ft1 (fun j i h => xw_o_sub (by decide +kernel) j i h)).tr F1 (fun j i h => xw_o_sub (by decide +kernel) j i h)).tr F2 (fun j i h => xw_o_sub (by decide +kernel) j i h))⟩)
set_option maxRecDepth 20000 in
set_option maxHeartbeats 20000000 in
theorem xq_tr0_3 {l : Launch} {p : Program} {e : Env} {s : State} {m : MethodId} {args : Array Value} {below : List Frame} {meth : Method} {c : Code} {Q : State → Prop} {D : va_G} {dA : Nat → ClassId} {A : Nat → Prop} {al : List (Nat × Nat)} (C0 : sa_C p s m args c D dA A 7 vwCl sa_Ts cX5_tryRows yX5_tryRows.cls) (hU : sa_U D vwCl dA s) (hO : tb_Ou A s s.heap) (hKL : al.map Prod.snd = tc_KL) {v nm W row : Nat → Int} {T dn : Nat} {B : hx_pB} {c9 : Int} {μ : xw_M} (hG : xw_G xw_GL μ) (hK : hp_ok v nm) (hE : hx_E v 4 μ) (hT : (T : Int) < v 0) (hC : ∀ d : Nat, d < 4 → μ 141 d = hx_pm v T d) (hW : ∀ f : Nat, f < 8 → 0 ≤ W f ∧ W f ≤ 171072) (hP : ∀ f : Nat, f < 8 → μ 140 (0 + f) = W f) (hrw : ∀ i : Nat, i < 0 → μ 139 i = row i) (hB : hx_bC B μ) (hdn : dn < 8) (hpc : hs_pc dn = 0) (hc : 0 ≤ c9 ∧ c9 ≤ 0) (hs : ¬ hx_sm W 8 = 0) (kx : ∀ ν : xw_M, hx_bC (hx_kp B (0 + 1) (c9 + hx_sm W 8 * 120) (hx_ru row 0 3)) ν → xw_F [(140, 8, 31), (139, 0, 3), (138, 0, 3), (137, 1, 2)] μ ν → xw_W p l e { frames := 9, cells := 0, slots := 0, locals := 296 } s m args below meth c Q D dA A 7 vwCl tb_KT0 al 0 0 ν 97 [] []) : xw_W p l e { frames := 9, cells := 0, slots := 0, locals := 296 } s m args below meth c Q D dA A 7 vwCl tb_KT0 al 0 0 μ 23 [(0, .ref (xw_ad al 137)), (1, .ref (xw_ad al 4)), (2, .int (Int32.ofInt 0)), (3, .int (Int32.ofInt (dn : Int))), (4, .int (Int32.ofInt c9)), (5, .int (Int32.ofInt (hx_sm W 8))), (6, .int (Int32.ofInt 3))] [] := by
  have k0 := hK.1
  have s9 := hx_smB (W := W) 8 hW
  have s9 : 0 ≤ hx_sm W 8 ∧ hx_sm W 8 ≤ 1368576 := ⟨s9.1, by have q := s9.2; omega⟩
  refine xw_iload (pc := 23) C0 6 dX5_tryRows_23 rfl ?_
  refine xw_iconst (pc := 25) C0 dX5_tryRows_25 ?_
  refine xw_icmp_ge (pc := 26) (tgt := 71) C0 (by omega) (by omega) dX5_tryRows_26 rfl (fun b1 => ?_) (fun b1 => ?_)
  · refine xw_aload_n (pc := 71) C0 0 dX5_tryRows_71 rfl rfl ?_
    refine xw_getR (pc := 72) (f := 4) C0 139 kcX5 dX5_tryRows_72 (by decide +kernel) tv_404 (xj_137 hKL) xk_69 rfl ((rfl).trans (xe_137_4 hG)) ?_
    refine xw_iload_n (pc := 75) C0 2 dX5_tryRows_75 rfl rfl ?_
    refine xw_iconst (pc := 76) C0 dX5_tryRows_76 ?_
    refine xw_iast (pc := 77) C0 dX5_tryRows_77 (xj_139 hKL) xk_71 (by omega) (by decide +kernel) (xw_rl (by omega)) (by omega) (by omega) ?_
    refine xw_mu (μ' := (xw_u μ 139 0 3)) rfl ?_
    refine xw_aload_n (pc := 78) C0 0 dX5_tryRows_78 rfl rfl ?_
    refine xw_iload_n (pc := 79) C0 2 dX5_tryRows_79 rfl rfl ?_
    refine xw_iconst (pc := 80) C0 dX5_tryRows_80 ?_
    refine xw_iadd (pc := 81) C0 dX5_tryRows_81 ?_
    refine  xw_nI (congrArg Int32.ofInt (show 0 + 1 = (1 : Int) by decide)) ?_
    refine xw_iload (pc := 82) C0 4 dX5_tryRows_82 rfl ?_
    refine xw_iload (pc := 84) C0 5 dX5_tryRows_84 rfl ?_
    refine xw_aload_n (pc := 86) C0 0 dX5_tryRows_86 rfl rfl ?_
    refine xw_getR (pc := 87) (f := 6) C0 141 kcX5 dX5_tryRows_87 (by decide +kernel) tv_406 (xj_137 hKL) xk_69 rfl (((xw_un (fun q => absurd q.1 (by decide +kernel))).trans rfl).trans (xe_137_6 hG)) ?_
    refine xw_iconst (pc := 90) C0 dX5_tryRows_90 ?_
    have p2 : (xw_u μ 139 0 3) 141 3 = 120 := (xw_un (fun q => absurd q.1 (by decide +kernel))).trans (hC 3 (by decide +kernel))
    refine xw_iald (pc := 91) (z := 120) C0 dX5_tryRows_91 (xj_141 hKL) xk_73 (by decide +kernel) (by decide +kernel) rfl p2 (fun g2 k2 => ?_)
    refine xw_imul (pc := 92) C0 dX5_tryRows_92 ?_
    refine xw_iadd (pc := 93) C0 dX5_tryRows_93 ?_
    have Ft1 : xw_F [(139, 0, 0)] μ (xw_u μ 139 0 3) := ((xw_F.rf (ML := [(139, 0, 0)])).u (show (139, 0, 0) ∈ _ by decide) ⟨by decide, by decide⟩)
    have vt1_139_0 : (xw_u μ 139 0 3) 139 0 = 3 := xw_ug
    generalize (xw_u μ 139 0 3) = t1 at Ft1 vt1_139_0 ⊢
    have hG_t1 := xw_GF hG Ft1 (by decide +kernel)
    have hr9 : ∀ i : Nat, i < 1 → t1 139 i = hx_ru row 0 3 i := fun i hi => by
      by_cases e9 : i = 0
      · subst e9; exact vt1_139_0.trans (if_pos rfl).symm
      · exact absurd hi (by omega)
    have hB9 : hx_bC B t1 := ⟨by rw [Ft1 137 2 (by decide +kernel)]; exact hB.1, fun q => ⟨(Ft1 137 1 (by decide +kernel)).trans (hB.2 q).1, fun i h4 hi => (Ft1 138 i (xw_oj (by decide +kernel) i)).trans ((hB.2 q).2 i h4 hi)⟩⟩
    refine xw_callVV (pc := 94) (μ := t1) (ci := 5) (rest := []) (As := [.int (Int32.ofInt 1), .int (Int32.ofInt (c9 + ((hx_sm W 8) * 120)))]) C0 hU hO sa_Tg hKL (xq_kb1 (l := l) (B := B) (c9 := c9 + hx_sm W 8 * 120) (row := hx_ru row 0 3) (μ := t1) hG_t1 (by omega) hr9 hB9) tv_1225 dX5_tryRows_94 tv_1222 tv_1224 tq_X5_keepBetter tv_12 rfl yb_X5_keepBetter (by decide +kernel) rfl rfl rfl (by decide +kernel) (Nat.le_of_ble_eq_true rfl) (xj_137 hKL) xk_69 (fun m3 w3 => ?_)
    obtain ⟨H3, F3⟩ := w3
    refine xw_pk [] (L' := []) rfl ?_
    exact kx m3 H3 (((xw_F.rf (ML := [(140, 8, 31), (139, 0, 3), (138, 0, 3), (137, 1, 2)])).tr Ft1 (fun j i h => xw_o_sub (by decide +kernel) j i h)).tr F3 (fun j i h => xw_o_sub (by decide +kernel) j i h))
  · exfalso
    omega
set_option maxRecDepth 20000 in
set_option maxHeartbeats 20000000 in
theorem xq_tr0_2 {l : Launch} {p : Program} {e : Env} {s : State} {m : MethodId} {args : Array Value} {below : List Frame} {meth : Method} {c : Code} {Q : State → Prop} {D : va_G} {dA : Nat → ClassId} {A : Nat → Prop} {al : List (Nat × Nat)} (C0 : sa_C p s m args c D dA A 7 vwCl sa_Ts cX5_tryRows yX5_tryRows.cls) (hU : sa_U D vwCl dA s) (hO : tb_Ou A s s.heap) (hKL : al.map Prod.snd = tc_KL) {v nm W row : Nat → Int} {T dn : Nat} {B : hx_pB} {c9 : Int} {μ : xw_M} (hG : xw_G xw_GL μ) (hK : hp_ok v nm) (hE : hx_E v 4 μ) (hT : (T : Int) < v 0) (hC : ∀ d : Nat, d < 4 → μ 141 d = hx_pm v T d) (hW : ∀ f : Nat, f < 8 → 0 ≤ W f ∧ W f ≤ 171072) (hP : ∀ f : Nat, f < 8 → μ 140 (0 + f) = W f) (hrw : ∀ i : Nat, i < 0 → μ 139 i = row i) (hB : hx_bC B μ) (hdn : dn < 8) (hpc : hs_pc dn = 0) (hc : 0 ≤ c9 ∧ c9 ≤ 0) (hs : ¬ hx_sm W 8 = 0) (kx : ∀ ν : xw_M, hx_bC (hx_kp (hx_sd v T 3 0 W dn c9 row 2 B) (0 + 1) (c9 + hx_sm W 8 * 120) (hx_ru row 0 3)) ν → xw_F [(140, 8, 31), (139, 0, 3), (138, 0, 3), (137, 1, 2)] μ ν → xw_W p l e { frames := 9, cells := 0, slots := 0, locals := 296 } s m args below meth c Q D dA A 7 vwCl tb_KT0 al 0 0 ν 97 [] []) : xw_W p l e { frames := 9, cells := 0, slots := 0, locals := 296 } s m args below meth c Q D dA A 7 vwCl tb_KT0 al 0 0 μ 23 [(0, .ref (xw_ad al 137)), (1, .ref (xw_ad al 4)), (2, .int (Int32.ofInt 0)), (3, .int (Int32.ofInt (dn : Int))), (4, .int (Int32.ofInt c9)), (5, .int (Int32.ofInt (hx_sm W 8))), (6, .int (Int32.ofInt 2))] [] := by
  have k0 := hK.1
  have s9 := hx_smB (W := W) 8 hW
  have s9 : 0 ≤ hx_sm W 8 ∧ hx_sm W 8 ≤ 1368576 := ⟨s9.1, by have q := s9.2; omega⟩
  refine xw_iload (pc := 23) C0 6 dX5_tryRows_23 rfl ?_
  refine xw_iconst (pc := 25) C0 dX5_tryRows_25 ?_
  refine xw_icmp_ge (pc := 26) (tgt := 71) C0 (by omega) (by omega) dX5_tryRows_26 rfl (fun b1 => ?_) (fun b1 => ?_)
  · exfalso
    omega
  · refine xw_iload_n (pc := 29) C0 2 dX5_tryRows_29 rfl rfl ?_
    refine xw_iconst (pc := 30) C0 dX5_tryRows_30 ?_
    refine xw_icmp_ge (pc := 31) (tgt := 71) C0 (by omega) (by omega) dX5_tryRows_31 rfl (fun b2 => ?_) (fun b2 => ?_)
    · exfalso
      omega
    · refine xw_iload_n (pc := 34) C0 3 dX5_tryRows_34 rfl rfl ?_
      refine xw_iload (pc := 35) C0 6 dX5_tryRows_35 rfl ?_
      rcases hx_tf (dn.testBit 2) with b9 | b9
      · have n9 : tb_hb (Int32.ofInt (dn : Int)) (Int32.ofInt 2) = Int32.ofInt 1 := (xb_prB (u := 2) hdn (by decide +kernel)).trans (by rw [b9]; rfl)
        refine xw_bitN (pc := 37) (host := "OffThenOn") (rest := []) C0 hU sa_Tg (pu_X11_bit (l := l)) tv_589 dX5_tryRows_37 (by decide +kernel) tv_588 tv_1 yb_X11_bit (by decide +kernel) (by decide +kernel) (Nat.le_of_ble_eq_true rfl) n9 ?_
        refine xw_if_ne (pc := 40) (tgt := 65) C0 (by omega) dX5_tryRows_40 rfl (fun b3 => ?_) (fun b3 => ?_)
        · refine xw_iinc (pc := 65) (L' := [(6, .int (Int32.ofInt 3)), (0, .ref (xw_ad al 137)), (1, .ref (xw_ad al 4)), (2, .int (Int32.ofInt 0)), (3, .int (Int32.ofInt (dn : Int))), (4, .int (Int32.ofInt c9)), (5, .int (Int32.ofInt (hx_sm W 8)))]) C0 6 dX5_tryRows_65 rfl (by decide +kernel) rfl ?_
          refine xw_goto (pc := 68) (tgt := 23) C0 dX5_tryRows_68 rfl ?_
          refine xw_pk [1, 2, 3, 4, 5, 6, 0] (L' := [(0, .ref (xw_ad al 137)), (1, .ref (xw_ad al 4)), (2, .int (Int32.ofInt 0)), (3, .int (Int32.ofInt (dn : Int))), (4, .int (Int32.ofInt c9)), (5, .int (Int32.ofInt (hx_sm W 8))), (6, .int (Int32.ofInt 3))]) rfl ?_
          rw [hx_sdT b9] at kx
          exact xq_tr0_3 (v := v) (nm := nm) (W := W) (row := row) (T := T) (dn := dn) (B := B) (c9 := c9) (μ := μ) C0 hU hO hKL hG hK hE hT hC hW hP hrw hB hdn hpc hc hs kx
        · exfalso
          omega
      · have n9 : tb_hb (Int32.ofInt (dn : Int)) (Int32.ofInt 2) = Int32.ofInt 0 := (xb_prB (u := 2) hdn (by decide +kernel)).trans (by rw [b9]; rfl)
        refine xw_bitN (pc := 37) (host := "OffThenOn") (rest := []) C0 hU sa_Tg (pu_X11_bit (l := l)) tv_589 dX5_tryRows_37 (by decide +kernel) tv_588 tv_1 yb_X11_bit (by decide +kernel) (by decide +kernel) (Nat.le_of_ble_eq_true rfl) n9 ?_
        refine xw_if_ne (pc := 40) (tgt := 65) C0 (by omega) dX5_tryRows_40 rfl (fun b4 => ?_) (fun b4 => ?_)
        · exfalso
          omega
        · refine xw_aload_n (pc := 43) C0 0 dX5_tryRows_43 rfl rfl ?_
          refine xw_aload_n (pc := 44) C0 1 dX5_tryRows_44 rfl rfl ?_
          refine xw_iload_n (pc := 45) C0 2 dX5_tryRows_45 rfl rfl ?_
          refine xw_iload_n (pc := 46) C0 3 dX5_tryRows_46 rfl rfl ?_
          refine xw_iload (pc := 47) C0 6 dX5_tryRows_47 rfl ?_
          refine xw_iload (pc := 49) C0 4 dX5_tryRows_49 rfl ?_
          refine xw_iload (pc := 51) C0 5 dX5_tryRows_51 rfl ?_
          refine xw_aload_n (pc := 53) C0 0 dX5_tryRows_53 rfl rfl ?_
          refine xw_getR (pc := 54) (f := 6) C0 141 kcX5 dX5_tryRows_54 (by decide +kernel) tv_406 (xj_137 hKL) xk_69 rfl ((rfl).trans (xe_137_6 hG)) ?_
          refine xw_iload (pc := 57) C0 6 dX5_tryRows_57 rfl ?_
          have p5 : μ 141 2 = hx_pm v T 2 := hC 2 (by decide +kernel)
          refine xw_iald (pc := 59) (z := hx_pm v T 2) C0 dX5_tryRows_59 (xj_141 hKL) xk_73 (by decide +kernel) (by decide +kernel) rfl p5 (fun g5 k5 => ?_)
          have v9 := hx_mul s9 (hx_pmB hK hT 2)
          refine xw_imul (pc := 60) C0 dX5_tryRows_60 ?_
          refine xw_iadd (pc := 61) C0 dX5_tryRows_61 ?_
          refine xw_callVV (pc := 62) (μ := μ) (ci := 5) (rest := []) (As := [.ref (xw_ad al 4), .int (Int32.ofInt 0), .int (Int32.ofInt (dn : Int)), .int (Int32.ofInt 2), .int (Int32.ofInt (c9 + ((hx_sm W 8) * (hx_pm v T 2))))]) C0 hU hO sa_Tg hKL (xq_td0 (l := l) (v := v) (nm := nm) (W := W) (row := row) (T := T) (dn := dn) (d := 2) (B := B) (c9 := c9 + hx_sm W 8 * hx_pm v T 2) (μ := μ) hG hK hE hT hC hW hP hrw hB hdn hpc (by decide +kernel) b9 (by omega)) tv_1230 dX5_tryRows_62 tv_1227 tv_1229 tq_X5_tryDeed tv_12 rfl yb_X5_tryDeed (by decide +kernel) rfl rfl rfl (by decide +kernel) (Nat.le_of_ble_eq_true rfl) (xj_137 hKL) xk_69 (fun m6 w6 => ?_)
          obtain ⟨H6, F6⟩ := w6
          have hG_m6 := xw_GF hG F6 (by decide +kernel)
          refine xw_iinc (pc := 65) (L' := [(6, .int (Int32.ofInt 3)), (0, .ref (xw_ad al 137)), (1, .ref (xw_ad al 4)), (2, .int (Int32.ofInt 0)), (3, .int (Int32.ofInt (dn : Int))), (4, .int (Int32.ofInt c9)), (5, .int (Int32.ofInt (hx_sm W 8)))]) C0 6 dX5_tryRows_65 rfl (by decide +kernel) rfl ?_
          refine xw_goto (pc := 68) (tgt := 23) C0 dX5_tryRows_68 rfl ?_
          refine xw_pk [1, 2, 3, 4, 5, 6, 0] (L' := [(0, .ref (xw_ad al 137)), (1, .ref (xw_ad al 4)), (2, .int (Int32.ofInt 0)), (3, .int (Int32.ofInt (dn : Int))), (4, .int (Int32.ofInt c9)), (5, .int (Int32.ofInt (hx_sm W 8))), (6, .int (Int32.ofInt 3))]) rfl ?_
          rw [hx_sdF b9] at kx
          exact xq_tr0_3 (v := v) (nm := nm) (W := W) (row := row) (T := T) (dn := dn) (c9 := c9) (μ := m6) C0 hU hO hKL hG_m6 hK (hx_EF hE (xw_Frg (a := 4) (b := 17) F6 (by decide +kernel))) hT (fun d hd => (F6 141 d (xw_oj (by decide +kernel) d)).trans (hC d hd)) hW (fun f hf => (F6 140 _ (xw_oB (a := 0) (b := 7) (by decide +kernel) (by omega) (by omega))).trans (hP f hf)) (fun i hi => absurd hi (Nat.not_lt_zero i)) H6 hdn hpc hc hs (fun ν h1 h2 => kx ν h1 (F6.tr h2 (fun j i h => h)))
