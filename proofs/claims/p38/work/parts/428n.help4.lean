set_option maxRecDepth 20000 in
set_option maxHeartbeats 1000000 in
theorem xm_hrA {l : Launch} {p : Program} {e : Env} {s : State} {m : MethodId} {args : Array Value} {below : List Frame} {meth : Method} {c : Code} {Q : State → Prop} {D : va_G} {dA : Nat → ClassId} {A : Nat → Prop} {al : List (Nat × Nat)} (C0 : sa_C p s m args c D dA A 8 vwCl sa_Ts cX12_helped yX12_helped.cls) (hU : sa_U D vwCl dA s) (hO : tb_Ou A s s.heap) (hKL : al.map Prod.snd = tc_KL) {μ : xw_M} {n9 : Int} (hG : xw_G xw_GL μ) (hn : n9 % 2 = 0 ∧ 4 ≤ n9 ∧ n9 ≤ 20) (kx : ∀ k : Nat, 2 * (k : Int) = n9 → (∀ q : Nat, q < k → μ 201 (2 * q) ≤ 1) → xw_W p l e { frames := 3, cells := 0, slots := 0, locals := 150 } s m args below meth c Q D dA A 8 vwCl tb_KT0 al 0 0 μ 98 [(0, .ref (xw_ad al 200)), (1, .int (Int32.ofInt n9)), (2, .int (Int32.ofInt (hs_S (fun i => μ 201 i) k))), (3, .int (Int32.ofInt (hs_P (fun i => μ 201 i) k)))] []) (kw : ∀ k : Nat, 2 * (k : Int) < n9 → 1 < μ 201 (2 * k) → xw_W p l e { frames := 3, cells := 0, slots := 0, locals := 150 } s m args below meth c Q D dA A 8 vwCl tb_KT0 al 0 0 μ 57 [(0, .ref (xw_ad al 200))] []) : ∀ (fu9 : Nat) (k : Nat), n9 - 2 * (k : Int) < (fu9 : Int) → 2 * (k : Int) ≤ n9 → (∀ q : Nat, q < k → μ 201 (2 * q) ≤ 1) → xw_W p l e { frames := 3, cells := 0, slots := 0, locals := 150 } s m args below meth c Q D dA A 8 vwCl tb_KT0 al 0 0 μ 40 [(2, .int (Int32.ofInt (hs_S (fun i => μ 201 i) k))), (3, .int (Int32.ofInt (hs_P (fun i => μ 201 i) k))), (4, .int (Int32.ofInt (2 * (k : Int)))), (0, .ref (xw_ad al 200)), (1, .int (Int32.ofInt n9))] [] := by
  intro fu9
  induction fu9 with
  | zero => intro k hm hk h1; exfalso; omega
  | succ fu9 ih =>
    intro k hm hk h1
    refine xw_iload (pc := 40) C0 2 dX12_helped_40 rfl ?_
    refine xw_iload_n (pc := 42) C0 4 dX12_helped_42 rfl rfl ?_
    refine xw_icmp_ge (pc := 43) (tgt := 98) C0 (by omega) (by omega) dX12_helped_43 rfl (fun b1 => ?_) (fun b1 => ?_)
    · refine xw_pk [3, 4, 0, 1] (L' := [(0, .ref (xw_ad al 200)), (1, .int (Int32.ofInt n9)), (2, .int (Int32.ofInt (hs_S (fun i => μ 201 i) k))), (3, .int (Int32.ofInt (hs_P (fun i => μ 201 i) k)))]) rfl ?_
      exact kx k (by omega) h1
    · refine xw_aload_n (pc := 46) C0 3 dX12_helped_46 rfl rfl ?_
      refine xw_getR (pc := 47) (f := 1) C0 201 kcX12 dX12_helped_47 (by decide) tv_1262 (xj_200 hKL) xk_0 rfl ((rfl).trans (xe_200_1 hG)) ?_
      refine xw_iload (pc := 50) C0 2 dX12_helped_50 rfl ?_
      refine xw_iald (pc := 52) (z := μ 201 (2 * (k : Int)).toNat) C0 dX12_helped_52 (xj_201 hKL) xk_2 (by omega) (by decide) (xw_rl (by omega)) (rfl) (fun g2 k2 => ?_)
      refine xw_iconst (pc := 53) C0 dX12_helped_53 ?_
      refine xw_icmp_le (pc := 54) (tgt := 62) C0 (by omega) (by omega) dX12_helped_54 rfl (fun b3 => ?_) (fun b3 => ?_)
      · refine xw_iload_n (pc := 62) C0 0 dX12_helped_62 rfl rfl ?_
        refine xw_aload_n (pc := 63) C0 3 dX12_helped_63 rfl rfl ?_
        refine xw_getR (pc := 64) (f := 1) C0 201 kcX12 dX12_helped_64 (by decide) tv_1262 (xj_200 hKL) xk_0 rfl ((rfl).trans (xe_200_1 hG)) ?_
        refine xw_iload (pc := 67) C0 2 dX12_helped_67 rfl ?_
        refine xw_iald (pc := 69) (z := μ 201 (2 * (k : Int)).toNat) C0 dX12_helped_69 (xj_201 hKL) xk_2 (by omega) (by decide) (xw_rl (by omega)) (rfl) (fun g4 k4 => ?_)
        refine xw_iadd (pc := 70) C0 dX12_helped_70 ?_
        refine xw_istore_n (pc := 71) (L' := [(2, .int (Int32.ofInt ((hs_S (fun i => μ 201 i) k) + (μ 201 (2 * (k : Int)).toNat)))), (3, .int (Int32.ofInt (hs_P (fun i => μ 201 i) k))), (4, .int (Int32.ofInt (2 * (k : Int)))), (0, .ref (xw_ad al 200)), (1, .int (Int32.ofInt n9))]) C0 dX12_helped_71 rfl (by decide) rfl ?_
        refine xw_iload_n (pc := 72) C0 1 dX12_helped_72 rfl rfl ?_
        refine xw_aload_n (pc := 73) C0 3 dX12_helped_73 rfl rfl ?_
        refine xw_getR (pc := 74) (f := 1) C0 201 kcX12 dX12_helped_74 (by decide) tv_1262 (xj_200 hKL) xk_0 rfl ((rfl).trans (xe_200_1 hG)) ?_
        refine xw_iload (pc := 77) C0 2 dX12_helped_77 rfl ?_
        refine xw_iald (pc := 79) (z := μ 201 (2 * (k : Int)).toNat) C0 dX12_helped_79 (xj_201 hKL) xk_2 (by omega) (by decide) (xw_rl (by omega)) (rfl) (fun g5 k5 => ?_)
        refine xw_aload_n (pc := 80) C0 3 dX12_helped_80 rfl rfl ?_
        refine xw_getR (pc := 81) (f := 1) C0 201 kcX12 dX12_helped_81 (by decide) tv_1262 (xj_200 hKL) xk_0 rfl ((rfl).trans (xe_200_1 hG)) ?_
        refine xw_iload (pc := 84) C0 2 dX12_helped_84 rfl ?_
        refine xw_iconst (pc := 86) C0 dX12_helped_86 ?_
        refine xw_iadd (pc := 87) C0 dX12_helped_87 ?_
        refine xw_iald (pc := 88) (z := μ 201 ((2 * (k : Int)) + 1).toNat) C0 dX12_helped_88 (xj_201 hKL) xk_2 (by omega) (by decide) (xw_rl (by omega)) (rfl) (fun g6 k6 => ?_)
        refine xw_imul (pc := 89) C0 dX12_helped_89 ?_
        refine xw_iadd (pc := 90) C0 dX12_helped_90 ?_
        refine xw_istore_n (pc := 91) (L' := [(3, .int (Int32.ofInt ((hs_P (fun i => μ 201 i) k) + ((μ 201 (2 * (k : Int)).toNat) * (μ 201 ((2 * (k : Int)) + 1).toNat))))), (2, .int (Int32.ofInt ((hs_S (fun i => μ 201 i) k) + (μ 201 (2 * (k : Int)).toNat)))), (4, .int (Int32.ofInt (2 * (k : Int)))), (0, .ref (xw_ad al 200)), (1, .int (Int32.ofInt n9))]) C0 dX12_helped_91 rfl (by decide) rfl ?_
        refine xw_iinc (pc := 92) (L' := [(4, .int (Int32.ofInt ((2 * (k : Int)) + 2))), (3, .int (Int32.ofInt ((hs_P (fun i => μ 201 i) k) + ((μ 201 (2 * (k : Int)).toNat) * (μ 201 ((2 * (k : Int)) + 1).toNat))))), (2, .int (Int32.ofInt ((hs_S (fun i => μ 201 i) k) + (μ 201 (2 * (k : Int)).toNat)))), (0, .ref (xw_ad al 200)), (1, .int (Int32.ofInt n9))]) C0 2 dX12_helped_92 rfl (by decide) rfl ?_
        refine xw_goto (pc := 95) (tgt := 40) C0 dX12_helped_95 rfl ?_
        have e1 : 2 * (k : Int) + 2 = 2 * ((k + 1 : Nat) : Int) := by omega
        have e2 : (2 * (k : Int)).toNat = 2 * k := by omega
        have e5 : (2 * (k : Int) + 1).toNat = 2 * k + 1 := by omega
        have e9 : μ 201 (2 * (k : Int)).toNat = μ 201 (2 * k) := by rw [e2]
        rw [e2, e5]
        have e3 : hs_S (fun i => μ 201 i) k + μ 201 (2 * k) = hs_S (fun i => μ 201 i) (k + 1) := rfl
        have e4 : hs_P (fun i => μ 201 i) k + μ 201 (2 * k) * μ 201 (2 * k + 1) = hs_P (fun i => μ 201 i) (k + 1) := rfl
        rw [e1, e3, e4]
        refine xw_pk [2, 1, 0, 3, 4] (L' := [(2, .int (Int32.ofInt (hs_S (fun i => μ 201 i) (k + 1)))), (3, .int (Int32.ofInt (hs_P (fun i => μ 201 i) (k + 1)))), (4, .int (Int32.ofInt (2 * ((k + 1 : Nat) : Int)))), (0, .ref (xw_ad al 200)), (1, .int (Int32.ofInt n9))]) rfl ?_
        refine ih (k + 1) (by omega) (by omega) (fun q hq => ?_)
        rcases Nat.lt_succ_iff_lt_or_eq.mp hq with hq | hq
        · exact h1 q hq
        · rw [hq]; omega
      · have e2 : (2 * (k : Int)).toNat = 2 * k := by omega
        have e9 : μ 201 (2 * (k : Int)).toNat = μ 201 (2 * k) := by rw [e2]
        refine xw_pk [3] (L' := [(0, .ref (xw_ad al 200))]) rfl ?_
        exact kw k (by omega) (by omega)
set_option maxRecDepth 20000 in
set_option maxHeartbeats 1000000 in
theorem xm_hrC {l : Launch} {p : Program} {e : Env} {s : State} {m : MethodId} {args : Array Value} {below : List Frame} {meth : Method} {c : Code} {Q : State → Prop} {D : va_G} {dA : Nat → ClassId} {A : Nat → Prop} {al : List (Nat × Nat)} (C0 : sa_C p s m args c D dA A 8 vwCl sa_Ts cX12_helped yX12_helped.cls) (hU : sa_U D vwCl dA s) (hO : tb_Ou A s s.heap) (hKL : al.map Prod.snd = tc_KL) {μ : xw_M} {w ev : Nat} {d b9 f9 : Int} (hG : xw_G xw_GL μ) (hw : w < 1024) (hev : ev ≤ 10) (kx : xw_W p l e { frames := 3, cells := 0, slots := 0, locals := 150 } s m args below meth c Q D dA A 8 vwCl tb_KT0 al 0 0 μ 201 [(6, .int (Int32.ofInt (hs_M (fun i => μ 201 i) w ev))), (0, .ref (xw_ad al 200)), (1, .int (Int32.ofInt (ev : Int))), (2, .int (Int32.ofInt d)), (3, .int (Int32.ofInt b9)), (4, .int (Int32.ofInt f9)), (5, .int (Int32.ofInt (w : Int)))] []) : ∀ (fu9 : Nat) (i : Nat), (ev : Int) - (i : Int) < (fu9 : Int) → i ≤ ev → xw_W p l e { frames := 3, cells := 0, slots := 0, locals := 150 } s m args below meth c Q D dA A 8 vwCl tb_KT0 al 0 0 μ 163 [(6, .int (Int32.ofInt (hs_M (fun i => μ 201 i) w i))), (7, .int (Int32.ofInt (i : Int))), (0, .ref (xw_ad al 200)), (1, .int (Int32.ofInt (ev : Int))), (2, .int (Int32.ofInt d)), (3, .int (Int32.ofInt b9)), (4, .int (Int32.ofInt f9)), (5, .int (Int32.ofInt (w : Int)))] [] := by
  intro fu9
  induction fu9 with
  | zero => intro i hm hi; exfalso; omega
  | succ fu9 ih =>
    intro i hm hi
    refine xw_iload (pc := 163) C0 1 dX12_helped_163 rfl ?_
    refine xw_iload_n (pc := 165) C0 3 dX12_helped_165 rfl rfl ?_
    refine xw_icmp_ge (pc := 166) (tgt := 201) C0 (by omega) (by omega) dX12_helped_166 rfl (fun b1 => ?_) (fun b1 => ?_)
    · have e9 : i = ev := by omega
      subst e9
      refine xw_pk [0, 2, 3, 4, 5, 6, 7] (L' := [(6, .int (Int32.ofInt (hs_M (fun i => μ 201 i) w i))), (0, .ref (xw_ad al 200)), (1, .int (Int32.ofInt (i : Int))), (2, .int (Int32.ofInt d)), (3, .int (Int32.ofInt b9)), (4, .int (Int32.ofInt f9)), (5, .int (Int32.ofInt (w : Int)))]) rfl ?_
      exact kx
    · refine xw_iload (pc := 169) C0 7 dX12_helped_169 rfl ?_
      refine xw_iload (pc := 171) C0 1 dX12_helped_171 rfl ?_
      refine xw_bitS (pc := 173) (rest := []) (r := ((w / 2 ^ i % 2 : Nat) : Int)) C0 sa_Tg (pu_X12_has (l := l)) tv_1660 dX12_helped_173 tv_1658 tv_1659 tv_13 yb_X12_has (by decide) (by decide) (Nat.le_of_ble_eq_true rfl) (hs_bit (by omega) (by omega)) ?_
      refine xw_if_eq (pc := 176) (tgt := 195) C0 (by omega) dX12_helped_176 rfl (fun b2 => ?_) (fun b2 => ?_)
      · refine xw_iinc (pc := 195) (L' := [(7, .int (Int32.ofInt ((i : Int) + 1))), (6, .int (Int32.ofInt (hs_M (fun i => μ 201 i) w i))), (0, .ref (xw_ad al 200)), (1, .int (Int32.ofInt (ev : Int))), (2, .int (Int32.ofInt d)), (3, .int (Int32.ofInt b9)), (4, .int (Int32.ofInt f9)), (5, .int (Int32.ofInt (w : Int)))]) C0 1 dX12_helped_195 rfl (by decide) rfl ?_
        refine xw_goto (pc := 198) (tgt := 163) C0 dX12_helped_198 rfl ?_
        have e1 : (i : Int) + 1 = ((i + 1 : Nat) : Int) := by omega
        have e3 : hs_M (fun i => μ 201 i) w i = hs_M (fun i => μ 201 i) w (i + 1) := (hs_M0 (by omega)).symm
        rw [e1, e3]
        refine xw_pk [1, 0, 2, 3, 4, 5, 6, 7] (L' := [(6, .int (Int32.ofInt (hs_M (fun i => μ 201 i) w (i + 1)))), (7, .int (Int32.ofInt ((i + 1 : Nat) : Int))), (0, .ref (xw_ad al 200)), (1, .int (Int32.ofInt (ev : Int))), (2, .int (Int32.ofInt d)), (3, .int (Int32.ofInt b9)), (4, .int (Int32.ofInt f9)), (5, .int (Int32.ofInt (w : Int)))]) rfl ?_
        exact ih (i + 1) (by omega) (by omega)
      · refine xw_iload (pc := 179) C0 0 dX12_helped_179 rfl ?_
        refine xw_aload_n (pc := 181) C0 2 dX12_helped_181 rfl rfl ?_
        refine xw_getR (pc := 182) (f := 1) C0 201 kcX12 dX12_helped_182 (by decide) tv_1262 (xj_200 hKL) xk_0 rfl ((rfl).trans (xe_200_1 hG)) ?_
        refine xw_iconst (pc := 185) C0 dX12_helped_185 ?_
        refine xw_iload (pc := 186) C0 1 dX12_helped_186 rfl ?_
        refine xw_imul (pc := 188) C0 dX12_helped_188 ?_
        refine xw_iconst (pc := 189) C0 dX12_helped_189 ?_
        refine xw_iadd (pc := 190) C0 dX12_helped_190 ?_
        refine xw_iald (pc := 191) (z := μ 201 ((2 * (i : Int)) + 1).toNat) C0 dX12_helped_191 (xj_201 hKL) xk_2 (by omega) (by decide) (xw_rl (by omega)) (rfl) (fun g3 k3 => ?_)
        refine xw_iadd (pc := 192) C0 dX12_helped_192 ?_
        refine xw_istore (pc := 193) (L' := [(6, .int (Int32.ofInt ((hs_M (fun i => μ 201 i) w i) + (μ 201 ((2 * (i : Int)) + 1).toNat)))), (7, .int (Int32.ofInt (i : Int))), (0, .ref (xw_ad al 200)), (1, .int (Int32.ofInt (ev : Int))), (2, .int (Int32.ofInt d)), (3, .int (Int32.ofInt b9)), (4, .int (Int32.ofInt f9)), (5, .int (Int32.ofInt (w : Int)))]) C0 dX12_helped_193 (by decide) rfl ?_
        refine xw_iinc (pc := 195) (L' := [(7, .int (Int32.ofInt ((i : Int) + 1))), (6, .int (Int32.ofInt ((hs_M (fun i => μ 201 i) w i) + (μ 201 ((2 * (i : Int)) + 1).toNat)))), (0, .ref (xw_ad al 200)), (1, .int (Int32.ofInt (ev : Int))), (2, .int (Int32.ofInt d)), (3, .int (Int32.ofInt b9)), (4, .int (Int32.ofInt f9)), (5, .int (Int32.ofInt (w : Int)))]) C0 1 dX12_helped_195 rfl (by decide) rfl ?_
        refine xw_goto (pc := 198) (tgt := 163) C0 dX12_helped_198 rfl ?_
        have e1 : (i : Int) + 1 = ((i + 1 : Nat) : Int) := by omega
        have e2 : (2 * (i : Int) + 1).toNat = 2 * i + 1 := by omega
        rw [e2]
        have e3 : hs_M (fun i => μ 201 i) w i + μ 201 (2 * i + 1) = hs_M (fun i => μ 201 i) w (i + 1) := (hs_M1 (t := (fun i => μ 201 i)) (by omega)).symm
        rw [e1, e3]
        refine xw_pk [1, 0, 2, 3, 4, 5, 6, 7] (L' := [(6, .int (Int32.ofInt (hs_M (fun i => μ 201 i) w (i + 1)))), (7, .int (Int32.ofInt ((i + 1 : Nat) : Int))), (0, .ref (xw_ad al 200)), (1, .int (Int32.ofInt (ev : Int))), (2, .int (Int32.ofInt d)), (3, .int (Int32.ofInt b9)), (4, .int (Int32.ofInt f9)), (5, .int (Int32.ofInt (w : Int)))]) rfl ?_
        exact ih (i + 1) (by omega) (by omega)
set_option maxRecDepth 20000 in
set_option maxHeartbeats 1000000 in
theorem xm_hrB {l : Launch} {p : Program} {e : Env} {s : State} {m : MethodId} {args : Array Value} {below : List Frame} {meth : Method} {c : Code} {Q : State → Prop} {D : va_G} {dA : Nat → ClassId} {A : Nat → Prop} {al : List (Nat × Nat)} (C0 : sa_C p s m args c D dA A 8 vwCl sa_Ts cX12_helped yX12_helped.cls) (hU : sa_U D vwCl dA s) (hO : tb_Ou A s s.heap) (hKL : al.map Prod.snd = tc_KL) {μ : xw_M} {ev : Nat} {d b8 : Int} (hG : xw_G xw_GL μ) (hT : ∀ i : Nat, 0 ≤ μ 201 i ∧ μ 201 i ≤ 255) (hev : ev ≤ 10) (hd : 0 ≤ d ∧ d ≤ 3000) (hb8 : 0 ≤ b8 ∧ b8 ≤ 3000) (kx : xw_W p l e { frames := 3, cells := 0, slots := 0, locals := 150 } s m args below meth c Q D dA A 8 vwCl tb_KT0 al 0 0 (xw_u μ 200 32 (hs_cnt d (2 ^ ev))) 216 [(4, .int (Int32.ofInt (hs_few (fun i => μ 201 i) ev d b8 (2 ^ ev))))] []) : ∀ (fu9 : Nat) (w : Nat), ((2 ^ ev : Nat) : Int) - (w : Int) < (fu9 : Int) → w ≤ 2 ^ ev → xw_W p l e { frames := 3, cells := 0, slots := 0, locals := 150 } s m args below meth c Q D dA A 8 vwCl tb_KT0 al 0 0 (xw_u μ 200 32 (hs_cnt d w)) 127 [(5, .int (Int32.ofInt (w : Int))), (4, .int (Int32.ofInt (hs_few (fun i => μ 201 i) ev d b8 w))), (0, .ref (xw_ad al 200)), (1, .int (Int32.ofInt (ev : Int))), (2, .int (Int32.ofInt d)), (3, .int (Int32.ofInt b8))] [] := by
  intro fu9
  induction fu9 with
  | zero => intro w hm hw; exfalso; omega
  | succ fu9 ih =>
    intro w hm hw
    have hp := hs_p2 hev
    have hc := hs_cntb d w
    have hf := hs_fewb (fun i => μ 201 i) ev d b8 w
    have hpc := hs_pcb w
    have hGu : ∀ x9 : Int, xw_G xw_GL (xw_u μ 200 32 x9) := fun x9 => xw_GF hG (xw_F.rf.u (ML := [(200, 32, 32)]) List.mem_cons_self ⟨Nat.le_refl _, Nat.le_refl _⟩) (by decide)
    refine xw_iload (pc := 127) C0 0 dX12_helped_127 rfl ?_
    refine xw_iconst (pc := 129) C0 dX12_helped_129 ?_
    refine xw_iload_n (pc := 130) C0 3 dX12_helped_130 rfl rfl ?_
    refine xw_ishl (pc := 131) C0 dX12_helped_131 (hs_shl (i := ev) (by omega)) ?_
    refine xw_icmp_ge (pc := 132) (tgt := 216) C0 (by omega) (by omega) dX12_helped_132 rfl (fun b1 => ?_) (fun b1 => ?_)
    · have e9 : w = 2 ^ ev := by omega
      subst e9
      refine xw_pk [1] (L' := [(4, .int (Int32.ofInt (hs_few (fun i => μ 201 i) ev d b8 (2 ^ ev))))]) rfl ?_
      exact kx
    · refine xw_iload (pc := 135) C0 0 dX12_helped_135 rfl ?_
      refine xw_callSI (pc := 137) (rest := []) (As := [.int (Int32.ofInt (w : Int))]) C0 hU hO sa_Tg hKL (xm_bits (l := l) (w := w) (by omega)) tv_1707 dX12_helped_137 tv_1705 tv_1706 tv_13 yb_X12_bits (by decide) rfl rfl rfl (by decide) (Nat.le_of_ble_eq_true rfl) (fun r2 m2 w2 => ?_)
      obtain ⟨rfl, rfl⟩ := w2
      refine xw_iload_n (pc := 140) C0 4 dX12_helped_140 rfl rfl ?_
      refine xw_icmp_eq (pc := 141) (tgt := 147) C0 (by omega) (by omega) dX12_helped_141 rfl (fun b4 => ?_) (fun b4 => ?_)
      · refine xw_aload_n (pc := 147) C0 2 dX12_helped_147 rfl rfl ?_
        refine xw_dup (pc := 148) C0 dX12_helped_148 rfl ?_
        refine xw_getI (pc := 149) (f := 32) (z := hs_cnt d w) C0 kcX12 dX12_helped_149 (by decide) tv_1293 (xj_200 hKL) xk_0 rfl (xw_ug) (fun g5 k5 => ?_)
        refine xw_iconst (pc := 152) C0 dX12_helped_152 ?_
        refine xw_iadd (pc := 153) C0 dX12_helped_153 ?_
        refine xw_putI (pc := 154) (f := 32) C0 kcX12 dX12_helped_154 (by decide) tv_1293 rfl rfl (xj_200 hKL) xk_0 rfl (by omega) (by omega) ?_
        rw [xw_uu]
        refine xw_iconst (pc := 157) C0 dX12_helped_157 ?_
        refine xw_istore (pc := 158) (L' := [(6, .int (Int32.ofInt 0)), (5, .int (Int32.ofInt (w : Int))), (4, .int (Int32.ofInt (hs_few (fun i => μ 201 i) ev d b8 w))), (0, .ref (xw_ad al 200)), (1, .int (Int32.ofInt (ev : Int))), (2, .int (Int32.ofInt d)), (3, .int (Int32.ofInt b8))]) C0 dX12_helped_158 (by decide) rfl ?_
        refine xw_iconst (pc := 160) C0 dX12_helped_160 ?_
        refine xw_istore (pc := 161) (L' := [(7, .int (Int32.ofInt 0)), (6, .int (Int32.ofInt 0)), (5, .int (Int32.ofInt (w : Int))), (4, .int (Int32.ofInt (hs_few (fun i => μ 201 i) ev d b8 w))), (0, .ref (xw_ad al 200)), (1, .int (Int32.ofInt (ev : Int))), (2, .int (Int32.ofInt d)), (3, .int (Int32.ofInt b8))]) C0 dX12_helped_161 (by decide) rfl ?_
        have t9 : (fun i => (xw_u μ 200 32 ((hs_cnt d w) + 1)) 201 i) = (fun i => μ 201 i) := funext (fun i => xw_un (fun q => absurd q.1 (by decide)))
        have hm9 := hs_Mb (fun i => μ 201 i) hT w ev
        refine xw_pk [1, 0, 4, 5, 6, 7, 3, 2] (L' := [(6, .int (Int32.ofInt (hs_M (fun i => (xw_u μ 200 32 ((hs_cnt d w) + 1)) 201 i) w 0))), (7, .int (Int32.ofInt ((0 : Nat) : Int))), (0, .ref (xw_ad al 200)), (1, .int (Int32.ofInt (ev : Int))), (2, .int (Int32.ofInt d)), (3, .int (Int32.ofInt b8)), (4, .int (Int32.ofInt (hs_few (fun i => μ 201 i) ev d b8 w))), (5, .int (Int32.ofInt (w : Int)))]) rfl ?_
        refine xm_hrC (μ := (xw_u μ 200 32 ((hs_cnt d w) + 1))) (w := w) (ev := ev) C0 hU hO hKL (hGu _) (by omega) hev ?_ 100 0 (by omega) (Nat.zero_le _)
        rw [t9]
        refine xw_iload (pc := 201) C0 0 dX12_helped_201 rfl ?_
        refine xw_iload_n (pc := 203) C0 4 dX12_helped_203 rfl rfl ?_
        refine xw_icmp_gt (pc := 204) (tgt := 210) C0 (by omega) (by omega) dX12_helped_204 rfl (fun b501 => ?_) (fun b501 => ?_)
        · refine xw_iinc (pc := 210) (L' := [(5, .int (Int32.ofInt ((w : Int) + 1))), (6, .int (Int32.ofInt (hs_M (fun i => μ 201 i) w ev))), (0, .ref (xw_ad al 200)), (1, .int (Int32.ofInt (ev : Int))), (2, .int (Int32.ofInt d)), (3, .int (Int32.ofInt b8)), (4, .int (Int32.ofInt (hs_few (fun i => μ 201 i) ev d b8 w)))]) C0 6 dX12_helped_210 rfl (by decide) rfl ?_
          refine xw_goto (pc := 213) (tgt := 127) C0 dX12_helped_213 rfl ?_
          have e1 : (w : Int) + 1 = ((w + 1 : Nat) : Int) := by omega
          have e3 := hs_cn1 (d := d) (m := w) (by omega)
          have e4 := hs_fw2 (t := (fun i => μ 201 i)) (ev := ev) (d := d) (b := b8) (m := w) (by omega)
          rw [e1, e3, e4]
          refine xw_pk [0, 6, 2, 3, 4, 5] (L' := [(5, .int (Int32.ofInt ((w + 1 : Nat) : Int))), (4, .int (Int32.ofInt (hs_few (fun i => μ 201 i) ev d b8 (w + 1)))), (0, .ref (xw_ad al 200)), (1, .int (Int32.ofInt (ev : Int))), (2, .int (Int32.ofInt d)), (3, .int (Int32.ofInt b8))]) rfl ?_
          exact ih (w + 1) (by omega) (by omega)
        · refine xw_iinc (pc := 207) (L' := [(4, .int (Int32.ofInt ((hs_few (fun i => μ 201 i) ev d b8 w) + 1))), (6, .int (Int32.ofInt (hs_M (fun i => μ 201 i) w ev))), (0, .ref (xw_ad al 200)), (1, .int (Int32.ofInt (ev : Int))), (2, .int (Int32.ofInt d)), (3, .int (Int32.ofInt b8)), (5, .int (Int32.ofInt (w : Int)))]) C0 5 dX12_helped_207 rfl (by decide) rfl ?_
          refine xw_iinc (pc := 210) (L' := [(5, .int (Int32.ofInt ((w : Int) + 1))), (4, .int (Int32.ofInt ((hs_few (fun i => μ 201 i) ev d b8 w) + 1))), (6, .int (Int32.ofInt (hs_M (fun i => μ 201 i) w ev))), (0, .ref (xw_ad al 200)), (1, .int (Int32.ofInt (ev : Int))), (2, .int (Int32.ofInt d)), (3, .int (Int32.ofInt b8))]) C0 6 dX12_helped_210 rfl (by decide) rfl ?_
          refine xw_goto (pc := 213) (tgt := 127) C0 dX12_helped_213 rfl ?_
          have e1 : (w : Int) + 1 = ((w + 1 : Nat) : Int) := by omega
          have e3 := hs_cn1 (d := d) (m := w) (by omega)
          have e4 := hs_fw1 (t := (fun i => μ 201 i)) (ev := ev) (d := d) (b := b8) (m := w) (by omega) (by omega)
          rw [e1, e3, e4]
          refine xw_pk [0, 1, 3, 4, 5, 6] (L' := [(5, .int (Int32.ofInt ((w + 1 : Nat) : Int))), (4, .int (Int32.ofInt (hs_few (fun i => μ 201 i) ev d b8 (w + 1)))), (0, .ref (xw_ad al 200)), (1, .int (Int32.ofInt (ev : Int))), (2, .int (Int32.ofInt d)), (3, .int (Int32.ofInt b8))]) rfl ?_
          exact ih (w + 1) (by omega) (by omega)
      · refine xw_goto (pc := 144) (tgt := 210) C0 dX12_helped_144 rfl ?_
        refine xw_iinc (pc := 210) (L' := [(5, .int (Int32.ofInt ((w : Int) + 1))), (4, .int (Int32.ofInt (hs_few (fun i => μ 201 i) ev d b8 w))), (0, .ref (xw_ad al 200)), (1, .int (Int32.ofInt (ev : Int))), (2, .int (Int32.ofInt d)), (3, .int (Int32.ofInt b8))]) C0 0 dX12_helped_210 rfl (by decide) rfl ?_
        refine xw_goto (pc := 213) (tgt := 127) C0 dX12_helped_213 rfl ?_
        have e1 : (w : Int) + 1 = ((w + 1 : Nat) : Int) := by omega
        have e3 := hs_cn0 (d := d) (m := w) (by omega)
        have e4 := hs_fw0 (t := (fun i => μ 201 i)) (ev := ev) (d := d) (b := b8) (m := w) (by omega)
        rw [e1, e3, e4]
        refine xw_pk [0, 1, 2, 3, 4, 5] (L' := [(5, .int (Int32.ofInt ((w + 1 : Nat) : Int))), (4, .int (Int32.ofInt (hs_few (fun i => μ 201 i) ev d b8 (w + 1)))), (0, .ref (xw_ad al 200)), (1, .int (Int32.ofInt (ev : Int))), (2, .int (Int32.ofInt d)), (3, .int (Int32.ofInt b8))]) rfl ?_
        exact ih (w + 1) (by omega) (by omega)
set_option maxRecDepth 20000 in
set_option maxHeartbeats 1000000 in
theorem xm_helpR {l : Launch} {μ : xw_M} (hG : xw_G xw_GL μ) (hT : ∀ i : Nat, 0 ≤ μ 201 i ∧ μ 201 i ≤ 255) (hN : 0 ≤ μ 200 2 ∧ μ 200 2 ≤ 940) : xw_MetI l vwCl sa_Ts tb_KT0 tc_KL yX12_helped cX12_helped 8 (some .int) 3 150 (fun ad => [.ref (ad 200)]) μ (fun r μ' => (hs_acc (fun i => μ 201 i) (μ 200 2) ∧ xw_u (xw_u (xw_u μ 200 0 0) 200 2 0) 200 32 (hs_R (fun i => μ 201 i) (μ 200 2)) = μ' ∧ r = hs_Fw (fun i => μ 201 i) (μ 200 2)) ∨ (¬ hs_acc (fun i => μ 201 i) (μ 200 2) ∧ xw_u (xw_u (xw_u μ 200 0 0) 200 2 0) 200 0 1 = μ' ∧ r = 0)) :=
  xw_of (by decide) (fun _ => Nat.le_of_ble_eq_true rfl) (fun p e s m args below meth c D dA A al w0 sz C0 hU hO hKL hr hlk hA => by
    have hG1 : xw_G xw_GL (xw_u μ 200 0 0) := xw_GF hG (xw_F.rf.u (ML := [(200, 0, 0)]) List.mem_cons_self ⟨Nat.le_refl _, Nat.le_refl _⟩) (by decide)
    have hG0 : xw_G xw_GL (xw_u (xw_u μ 200 0 0) 200 2 0) := xw_GF hG1 (xw_F.rf.u (ML := [(200, 2, 2)]) List.mem_cons_self ⟨Nat.le_refl _, Nat.le_refl _⟩) (by decide)
    refine xw_aload_n (pc := 0) C0 0 dX12_helped_0 rfl rfl ?_
    refine xw_iconst (pc := 1) C0 dX12_helped_1 ?_
    refine xw_putI (pc := 2) (f := 0) C0 kcX12 dX12_helped_2 (by decide) tv_1261 rfl rfl (xj_200 hKL) xk_0 rfl (by omega) (by omega) ?_
    refine xw_aload_n (pc := 5) C0 0 dX12_helped_5 rfl rfl ?_
    refine xw_callVI (pc := 6) (ci := 12) (rest := []) (As := []) C0 hU hO sa_Tg hKL (xm_take (l := l) (μ := (xw_u μ 200 0 0)) hG1) tv_1421 dX12_helped_6 tv_1418 tv_1420 tq_X12_take tv_13 rfl yb_X12_take (by decide) rfl rfl rfl (by decide) (Nat.le_of_ble_eq_true rfl) (xj_200 hKL) xk_0 (fun r1 m1 w1 => ?_)
    obtain ⟨q1, s1⟩ := w1
    have z1 : (xw_u μ 200 0 0) 200 2 = μ 200 2 := xw_un (by decide)
    rw [z1] at s1
    subst q1
    subst s1
    have hn1 : 0 ≤ μ 200 2 ∧ μ 200 2 ≤ 940 := hN
    generalize eM : (xw_u (xw_u μ 200 0 0) 200 2 0) = ν
    have hG2 : xw_G xw_GL ν := by rw [← eM]; exact hG0
    have tT : (fun i => ν 201 i) = (fun i => μ 201 i) := by rw [← eM]; exact funext (fun i => (xw_un (fun q => absurd q.1 (by decide))).trans (xw_un (fun q => absurd q.1 (by decide))))
    have hT2 : ∀ i : Nat, 0 ≤ ν 201 i ∧ ν 201 i ≤ 255 := fun i => by have z9 : ν 201 i = μ 201 i := congrFun tT i; rw [z9]; exact hT i
    refine xw_istore_n (pc := 9) (L' := [(1, .int (Int32.ofInt (μ 200 2))), (0, .ref (xw_ad al 200))]) C0 dX12_helped_9 rfl (by decide) rfl ?_
    refine xw_iload_n (pc := 10) C0 0 dX12_helped_10 rfl rfl ?_
    refine xw_iconst (pc := 11) C0 dX12_helped_11 ?_
    refine xw_irem (pc := 12) C0 (by omega) (by omega) dX12_helped_12 ?_
    refine xw_if_ne (pc := 13) (tgt := 28) C0 (by omega) dX12_helped_13 rfl (fun b3 => ?_) (fun b3 => ?_)
    · refine xw_aload_n (pc := 28) C0 1 dX12_helped_28 rfl rfl ?_
      refine xw_callVI (pc := 29) (ci := 12) (rest := []) (As := []) C0 hU hO sa_Tg hKL (xm_refuse (l := l) (μ := ν) hG2) tv_1525 dX12_helped_29 tv_1522 tv_1524 tq_X12_refuse tv_13 rfl yb_X12_refuse (by decide) rfl rfl rfl (by decide) (Nat.le_of_ble_eq_true rfl) (xj_200 hKL) xk_0 (fun r4 m4 w4 => ?_)
      obtain ⟨q4, rfl⟩ := w4
      refine xw_iret C0 hA hr hlk rfl dX12_helped_32 ?_
      exact ⟨_, rfl, Or.inr ⟨hs_no3 (by omega), q4, rfl⟩⟩
    · refine xw_iload_n (pc := 16) C0 0 dX12_helped_16 rfl rfl ?_
      refine xw_iconst (pc := 17) C0 dX12_helped_17 ?_
      refine xw_idiv (pc := 18) C0 (by omega) (by omega) dX12_helped_18 ?_
      refine xw_iconst (pc := 19) C0 dX12_helped_19 ?_
      refine xw_bipush (pc := 20) C0 dX12_helped_20 (by decide) ?_
      refine xw_callSI (pc := 22) (rest := []) (As := [.int (Int32.ofInt ((μ 200 2) / 2)), .int (Int32.ofInt 2), .int (Int32.ofInt 10)]) C0 hU hO sa_Tg hKL (xm_isIn (l := l) (v := (μ 200 2) / 2) (a := 2) (b := 10) (by omega) (by omega) (by omega)) tv_1481 dX12_helped_22 tv_1479 tv_1480 tv_13 yb_X12_isIn (by decide) rfl rfl rfl (by decide) (Nat.le_of_ble_eq_true rfl) (fun r6 m6 w6 => ?_)
      obtain ⟨rfl, w6⟩ := w6
      refine xw_if_ne (pc := 25) (tgt := 33) C0 (by omega) dX12_helped_25 rfl (fun b8 => ?_) (fun b8 => ?_)
      · refine xw_iconst (pc := 33) C0 dX12_helped_33 ?_
        refine xw_istore_n (pc := 34) (L' := [(2, .int (Int32.ofInt 0)), (1, .int (Int32.ofInt (μ 200 2))), (0, .ref (xw_ad al 200))]) C0 dX12_helped_34 rfl (by decide) rfl ?_
        refine xw_iconst (pc := 35) C0 dX12_helped_35 ?_
        refine xw_istore_n (pc := 36) (L' := [(3, .int (Int32.ofInt 0)), (2, .int (Int32.ofInt 0)), (1, .int (Int32.ofInt (μ 200 2))), (0, .ref (xw_ad al 200))]) C0 dX12_helped_36 rfl (by decide) rfl ?_
        refine xw_iconst (pc := 37) C0 dX12_helped_37 ?_
        refine xw_istore (pc := 38) (L' := [(4, .int (Int32.ofInt 0)), (3, .int (Int32.ofInt 0)), (2, .int (Int32.ofInt 0)), (1, .int (Int32.ofInt (μ 200 2))), (0, .ref (xw_ad al 200))]) C0 dX12_helped_38 (by decide) rfl ?_
        have kA := @xm_hrA
        clear kA
        refine xw_pk [2, 1, 0, 4, 3] (L' := [(2, .int (Int32.ofInt (hs_S (fun i => ν 201 i) 0))), (3, .int (Int32.ofInt (hs_P (fun i => ν 201 i) 0))), (4, .int (Int32.ofInt (2 * ((0 : Nat) : Int)))), (0, .ref (xw_ad al 200)), (1, .int (Int32.ofInt (μ 200 2)))]) rfl ?_
        refine xm_hrA (μ := ν) (n9 := μ 200 2) C0 hU hO hKL hG2 ⟨by omega, by omega, by omega⟩ (fun k hk hv => ?_) (fun k hk hv => ?_) 100 0 (by omega) (by omega) (fun q hq => absurd hq (Nat.not_lt_zero _))
        · rw [tT]
          have hv : ∀ q : Nat, q < k → μ 201 (2 * q) ≤ 1 := fun q hq => by have z9 : ν 201 (2 * q) = μ 201 (2 * q) := congrFun tT (2 * q); rw [← z9]; exact hv q hq
          have hb := hs_Sb (fun i => μ 201 i) hT k
          refine xw_iload_n (pc := 98) C0 1 dX12_helped_98 rfl rfl ?_
          refine xw_iconst (pc := 99) C0 dX12_helped_99 ?_
          refine xw_idiv (pc := 100) C0 (by omega) (by omega) dX12_helped_100 ?_
          refine xw_istore_n (pc := 101) (L' := [(1, .int (Int32.ofInt ((μ 200 2) / 2))), (0, .ref (xw_ad al 200)), (2, .int (Int32.ofInt (hs_S (fun i => μ 201 i) k))), (3, .int (Int32.ofInt (hs_P (fun i => μ 201 i) k)))]) C0 dX12_helped_101 rfl (by decide) rfl ?_
          refine xw_iload_n (pc := 102) C0 2 dX12_helped_102 rfl rfl ?_
          refine xw_if_eq (pc := 103) (tgt := 111) C0 (by omega) dX12_helped_103 rfl (fun b201 => ?_) (fun b201 => ?_)
          · refine xw_aload_n (pc := 111) C0 1 dX12_helped_111 rfl rfl ?_
            refine xw_callVI (pc := 112) (ci := 12) (rest := []) (As := []) C0 hU hO sa_Tg hKL (xm_refuse (l := l) (μ := ν) hG2) tv_1525 dX12_helped_112 tv_1522 tv_1524 tq_X12_refuse tv_13 rfl yb_X12_refuse (by decide) rfl rfl rfl (by decide) (Nat.le_of_ble_eq_true rfl) (xj_200 hKL) xk_0 (fun r202 m202 w202 => ?_)
            obtain ⟨q202, rfl⟩ := w202
            refine xw_iret C0 hA hr hlk rfl dX12_helped_115 ?_
            exact ⟨_, rfl, Or.inr ⟨hs_no2 hk (fun q hq => hv q hq) (by omega), q202, rfl⟩⟩
          · refine xw_iload_n (pc := 106) C0 2 dX12_helped_106 rfl rfl ?_
            refine xw_iload_n (pc := 107) C0 0 dX12_helped_107 rfl rfl ?_
            refine xw_icmp_ne (pc := 108) (tgt := 116) C0 (by omega) (by omega) dX12_helped_108 rfl (fun b204 => ?_) (fun b204 => ?_)
            · refine xw_iconst (pc := 116) C0 dX12_helped_116 ?_
              refine xw_istore (pc := 117) (L' := [(4, .int (Int32.ofInt 0)), (1, .int (Int32.ofInt ((μ 200 2) / 2))), (0, .ref (xw_ad al 200)), (2, .int (Int32.ofInt (hs_S (fun i => μ 201 i) k))), (3, .int (Int32.ofInt (hs_P (fun i => μ 201 i) k)))]) C0 dX12_helped_117 (by decide) rfl ?_
              refine xw_aload_n (pc := 119) C0 2 dX12_helped_119 rfl rfl ?_
              refine xw_iconst (pc := 120) C0 dX12_helped_120 ?_
              refine xw_putI (pc := 121) (f := 32) C0 kcX12 dX12_helped_121 (by decide) tv_1293 rfl rfl (xj_200 hKL) xk_0 rfl (by omega) (by omega) ?_
              refine xw_iconst (pc := 124) C0 dX12_helped_124 ?_
              refine xw_istore (pc := 125) (L' := [(5, .int (Int32.ofInt 0)), (4, .int (Int32.ofInt 0)), (1, .int (Int32.ofInt ((μ 200 2) / 2))), (0, .ref (xw_ad al 200)), (2, .int (Int32.ofInt (hs_S (fun i => μ 201 i) k))), (3, .int (Int32.ofInt (hs_P (fun i => μ 201 i) k)))]) C0 dX12_helped_125 (by decide) rfl ?_
              obtain ⟨e1, e2⟩ := hs_half hk
              rw [e2]
              have hP := hs_PM (t := (fun i => μ 201 i)) k (fun q hq => ⟨(hT _).1, hv q hq⟩)
              have hB := hs_Mb (fun i => μ 201 i) hT (hs_A (fun i => μ 201 i) k) k
              rw [hP]
              have hc0 : (0 : Int) = hs_cnt (hs_S (fun i => μ 201 i) k) 0 := rfl
              have hf0 : (0 : Int) = hs_few (fun i => ν 201 i) k (hs_S (fun i => μ 201 i) k) (hs_M (fun i => μ 201 i) (hs_A (fun i => μ 201 i) k) k) 0 := rfl
              refine xw_mu (μ' := xw_u ν 200 32 (hs_cnt (hs_S (fun i => μ 201 i) k) 0)) rfl ?_
              refine xw_pk [0, 1, 3, 2, 4, 5] (L' := [(5, .int (Int32.ofInt ((0 : Nat) : Int))), (4, .int (Int32.ofInt (hs_few (fun i => ν 201 i) k (hs_S (fun i => μ 201 i) k) (hs_M (fun i => μ 201 i) (hs_A (fun i => μ 201 i) k) k) 0))), (0, .ref (xw_ad al 200)), (1, .int (Int32.ofInt (k : Int))), (2, .int (Int32.ofInt (hs_S (fun i => μ 201 i) k))), (3, .int (Int32.ofInt (hs_M (fun i => μ 201 i) (hs_A (fun i => μ 201 i) k) k)))]) rfl ?_
              refine xm_hrB (μ := ν) (ev := k) (d := hs_S (fun i => μ 201 i) k) (b8 := hs_M (fun i => μ 201 i) (hs_A (fun i => μ 201 i) k) k) C0 hU hO hKL hG2 hT2 (by omega) (by omega) (by omega) ?_ 2000 0 (by have := hs_p2 (k := k) (by omega); omega) (Nat.zero_le _)
              rw [tT]
              refine xw_iload (pc := 216) C0 0 dX12_helped_216 rfl ?_
              refine xw_iret C0 hA hr hlk rfl dX12_helped_218 ?_
              exact ⟨_, rfl, Or.inl ⟨hs_yes hk (by omega) (by omega) (by omega) hv (by omega) (by omega), by unfold hs_R; rw [e1], by unfold hs_Fw; rw [e1]⟩⟩
            · refine xw_aload_n (pc := 111) C0 1 dX12_helped_111 rfl rfl ?_
              refine xw_callVI (pc := 112) (ci := 12) (rest := []) (As := []) C0 hU hO sa_Tg hKL (xm_refuse (l := l) (μ := ν) hG2) tv_1525 dX12_helped_112 tv_1522 tv_1524 tq_X12_refuse tv_13 rfl yb_X12_refuse (by decide) rfl rfl rfl (by decide) (Nat.le_of_ble_eq_true rfl) (xj_200 hKL) xk_0 (fun r205 m205 w205 => ?_)
              obtain ⟨q205, rfl⟩ := w205
              refine xw_iret C0 hA hr hlk rfl dX12_helped_115 ?_
              exact ⟨_, rfl, Or.inr ⟨hs_no2 hk (fun q hq => hv q hq) (by omega), q205, rfl⟩⟩
        · have hv : 1 < μ 201 (2 * k) := by have z9 : ν 201 (2 * k) = μ 201 (2 * k) := congrFun tT (2 * k); rw [← z9]; exact hv
          refine xw_aload_n (pc := 57) C0 0 dX12_helped_57 rfl rfl ?_
          refine xw_callVI (pc := 58) (ci := 12) (rest := []) (As := []) C0 hU hO sa_Tg hKL (xm_refuse (l := l) (μ := ν) hG2) tv_1525 dX12_helped_58 tv_1522 tv_1524 tq_X12_refuse tv_13 rfl yb_X12_refuse (by decide) rfl rfl rfl (by decide) (Nat.le_of_ble_eq_true rfl) (xj_200 hKL) xk_0 (fun r901 m901 w901 => ?_)
          obtain ⟨q901, rfl⟩ := w901
          refine xw_iret C0 hA hr hlk rfl dX12_helped_61 ?_
          exact ⟨_, rfl, Or.inr ⟨hs_no1 hk hv, q901, rfl⟩⟩
      · refine xw_aload_n (pc := 28) C0 1 dX12_helped_28 rfl rfl ?_
        refine xw_callVI (pc := 29) (ci := 12) (rest := []) (As := []) C0 hU hO sa_Tg hKL (xm_refuse (l := l) (μ := ν) hG2) tv_1525 dX12_helped_29 tv_1522 tv_1524 tq_X12_refuse tv_13 rfl yb_X12_refuse (by decide) rfl rfl rfl (by decide) (Nat.le_of_ble_eq_true rfl) (xj_200 hKL) xk_0 (fun r10 m10 w10 => ?_)
        obtain ⟨q10, rfl⟩ := w10
        refine xw_iret C0 hA hr hlk rfl dX12_helped_32 ?_
        exact ⟨_, rfl, Or.inr ⟨hs_no3 (by omega), q10, rfl⟩⟩)
