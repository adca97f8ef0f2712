set_option maxRecDepth 20000 in
set_option maxHeartbeats 20000000 in
theorem xr_gaI {l : Launch} {p : Program} {e : Env} {s : State} {m : MethodId} {args : Array Value} {below : List Frame} {meth : Method} {c : Code} {Q : State → Prop} {D : va_G} {dA : Nat → ClassId} {A : Nat → Prop} {al : List (Nat × Nat)} (C0 : sa_C p s m args c D dA A 7 vwCl sa_Ts cX12_groupAt yX12_groupAt.cls) (hU : sa_U D vwCl dA s) (hO : tb_Ou A s s.heap) (hKL : al.map Prod.snd = tc_KL) {v nm : Nat → Int} {ps : Nat → Bool} {T k : Nat} {μ : xw_M} (hG : xw_G xw_GL μ) (hK : hp_ok v nm) (hN : ∀ k : Nat, k < 77 → μ 202 k = v k) (hT : T < 6) (hk : k < (v 1).toNat) (kx : xw_W p l e { frames := 3, cells := 0, slots := 0, locals := 142 } s m args below meth c Q D dA A 7 vwCl tb_KT0 al 0 0 μ 113 [(0, .ref (xw_ad al 200)), (1, .int (Int32.ofInt (T : Int))), (2, .int (Int32.ofInt ((hx_bs ps (v 1).toNat : Nat) : Int))), (3, .int (Int32.ofInt (hx_gm v ps T (v 1).toNat k))), (4, .int (Int32.ofInt (k : Int))), (5, .int (Int32.ofInt ((hx_pc (hx_gp v ps T k) (v 1).toNat : Nat) : Int)))] []) : ∀ (fu9 : Nat) (j : Nat), ((v 1).toNat : Int) - (j : Int) < (fu9 : Int) → j ≤ (v 1).toNat → xw_W p l e { frames := 3, cells := 0, slots := 0, locals := 142 } s m args below meth c Q D dA A 7 vwCl tb_KT0 al 0 0 μ 22 [(0, .ref (xw_ad al 200)), (1, .int (Int32.ofInt (T : Int))), (2, .int (Int32.ofInt ((hx_bs ps (v 1).toNat : Nat) : Int))), (3, .int (Int32.ofInt (hx_gm v ps T (v 1).toNat k))), (4, .int (Int32.ofInt (k : Int))), (5, .int (Int32.ofInt ((hx_pc (hx_gp v ps T k) j : Nat) : Int))), (6, .int (Int32.ofInt (j : Int)))] [] := by
  intro fu9
  induction fu9 with
  | zero => intro j hm hj; exfalso; omega
  | succ fu9 ih =>
    intro j hm hj
    have k1 := hK.2.1
    have hn1 : μ 202 1 = v 1 := hN 1 (by decide +kernel)
    have b9 := hx_pcB (p := hx_gp v ps T k) j
    refine xw_iload (pc := 22) C0 6 dX12_groupAt_22 rfl ?_
    refine xw_aload_n (pc := 24) C0 0 dX12_groupAt_24 rfl rfl ?_
    refine xw_getR (pc := 25) (f := 14) C0 202 kcX12 dX12_groupAt_25 (by decide +kernel) tv_1275 (xj_200 hKL) xk_0 rfl ((rfl).trans (xe_200_14 hG)) ?_
    refine xw_iconst (pc := 28) C0 dX12_groupAt_28 ?_
    refine xw_iald (pc := 29) (z := v 1) C0 dX12_groupAt_29 (xj_202 hKL) xk_1 (by omega) (by decide +kernel) rfl hn1 (fun g1 k1 => ?_)
    refine xw_icmp_ge (pc := 30) (tgt := 113) C0 (by omega) (by omega) dX12_groupAt_30 rfl (fun b2 => ?_) (fun b2 => ?_)
    · have e9 : j = (v 1).toNat := by omega
      subst e9
      refine xw_pk [0, 1, 2, 3, 4, 5] (L' := [(0, .ref (xw_ad al 200)), (1, .int (Int32.ofInt (T : Int))), (2, .int (Int32.ofInt ((hx_bs ps (v 1).toNat : Nat) : Int))), (3, .int (Int32.ofInt (hx_gm v ps T (v 1).toNat k))), (4, .int (Int32.ofInt (k : Int))), (5, .int (Int32.ofInt ((hx_pc (hx_gp v ps T k) (v 1).toNat : Nat) : Int)))]) rfl ?_
      exact kx
    · refine xw_iload_n (pc := 33) C0 2 dX12_groupAt_33 rfl rfl ?_
      refine xw_iload (pc := 34) C0 4 dX12_groupAt_34 rfl ?_
      rcases hx_tf (ps k) with c8 | c8
      · have n8 : tb_hb (Int32.ofInt ((hx_bs ps (v 1).toNat : Nat) : Int)) (Int32.ofInt (k : Int)) = Int32.ofInt 1 := by
          rw [xb_b8 (by omega) (by omega), c8]
          rfl
        refine xw_bitS (pc := 36) (rest := []) (r := 1) C0 sa_Tg (pu_X12_has (l := l)) tv_1660 dX12_groupAt_36 tv_1658 tv_1659 tv_13 yb_X12_has (by decide +kernel) (by decide +kernel) (Nat.le_of_ble_eq_true rfl) n8 ?_
        refine xw_if_eq (pc := 39) (tgt := 107) C0 (by omega) dX12_groupAt_39 rfl (fun b3 => ?_) (fun b3 => ?_)
        · exfalso
          omega
        · refine xw_iload_n (pc := 42) C0 2 dX12_groupAt_42 rfl rfl ?_
          refine xw_iload (pc := 43) C0 6 dX12_groupAt_43 rfl ?_
          rcases hx_tf (ps j) with c7 | c7
          · have n7 : tb_hb (Int32.ofInt ((hx_bs ps (v 1).toNat : Nat) : Int)) (Int32.ofInt (j : Int)) = Int32.ofInt 1 := by
              rw [xb_b8 (by omega) (by omega), c7]
              rfl
            refine xw_bitS (pc := 45) (rest := []) (r := 1) C0 sa_Tg (pu_X12_has (l := l)) tv_1660 dX12_groupAt_45 tv_1658 tv_1659 tv_13 yb_X12_has (by decide +kernel) (by decide +kernel) (Nat.le_of_ble_eq_true rfl) n7 ?_
            refine xw_if_eq (pc := 48) (tgt := 107) C0 (by omega) dX12_groupAt_48 rfl (fun b4 => ?_) (fun b4 => ?_)
            · exfalso
              omega
            · refine xw_aload_n (pc := 51) C0 0 dX12_groupAt_51 rfl rfl ?_
              refine xw_iload (pc := 52) C0 4 dX12_groupAt_52 rfl ?_
              refine xw_iload (pc := 54) C0 6 dX12_groupAt_54 rfl ?_
              refine xw_callVI (pc := 56) (μ := μ) (ci := 12) (rest := []) (As := [.int (Int32.ofInt (k : Int)), .int (Int32.ofInt (j : Int))]) C0 hU hO sa_Tg hKL (xr_areAlike (l := l) (v := v) (nm := nm) (F := k) (G := j) hG hK hN (by omega) (by omega)) tv_1719 dX12_groupAt_56 tv_1716 tv_1718 tq_X12_areAlike tv_13 rfl yb_X12_areAlike (by decide +kernel) rfl rfl rfl (by decide +kernel) (Nat.le_of_ble_eq_true rfl) (xj_200 hKL) xk_0 (fun r5 m5 w5 => ?_)
              obtain ⟨rfl, w5⟩ := w5
              rcases w5 with ⟨a9, rfl⟩ | ⟨a9, rfl⟩
              · refine xw_if_eq (pc := 59) (tgt := 76) C0 (by omega) dX12_groupAt_59 rfl (fun b6 => ?_) (fun b6 => ?_)
                · exfalso
                  omega
                · refine xw_aload_n (pc := 62) C0 0 dX12_groupAt_62 rfl rfl ?_
                  refine xw_getR (pc := 63) (f := 14) C0 202 kcX12 dX12_groupAt_63 (by decide +kernel) tv_1275 (xj_200 hKL) xk_0 rfl ((rfl).trans (xe_200_14 hG)) ?_
                  refine xw_bipush (pc := 66) C0 dX12_groupAt_66 (by decide +kernel) ?_
                  refine xw_iload (pc := 68) C0 4 dX12_groupAt_68 rfl ?_
                  refine xw_iadd (pc := 70) C0 dX12_groupAt_70 ?_
                  refine xw_nI (pc := 71) (congrArg Int32.ofInt (show 21 + (k : Int) = ((21 + k : Nat) : Int) by omega)) ?_
                  obtain ⟨lo7, hi7, rl7, bl7, bh7⟩ := hx_n379 ⟨21 + k, by omega⟩
                  refine xw_iald (pc := 71) (z := v (21 + k)) C0 dX12_groupAt_71 (xj_202 hKL) xk_1 (by omega) (by decide +kernel) rl7 (hN (21 + k) (by omega)) (fun g7 k7 => ?_)
                  refine xw_iload_n (pc := 72) C0 1 dX12_groupAt_72 rfl rfl ?_
                  refine xw_icmp_eq (pc := 73) (tgt := 104) C0 (by omega) (by omega) dX12_groupAt_73 rfl (fun b8 => ?_) (fun b8 => ?_)
                  · refine xw_iinc (pc := 104) (L' := [(5, .int (Int32.ofInt (((hx_pc (hx_gp v ps T k) j : Nat) : Int) + 1))), (0, .ref (xw_ad al 200)), (1, .int (Int32.ofInt (T : Int))), (2, .int (Int32.ofInt ((hx_bs ps (v 1).toNat : Nat) : Int))), (3, .int (Int32.ofInt (hx_gm v ps T (v 1).toNat k))), (4, .int (Int32.ofInt (k : Int))), (6, .int (Int32.ofInt (j : Int)))]) C0 5 dX12_groupAt_104 rfl (by decide +kernel) rfl ?_
                    refine xw_iinc (pc := 107) (L' := [(6, .int (Int32.ofInt ((j : Int) + 1))), (5, .int (Int32.ofInt (((hx_pc (hx_gp v ps T k) j : Nat) : Int) + 1))), (0, .ref (xw_ad al 200)), (1, .int (Int32.ofInt (T : Int))), (2, .int (Int32.ofInt ((hx_bs ps (v 1).toNat : Nat) : Int))), (3, .int (Int32.ofInt (hx_gm v ps T (v 1).toNat k))), (4, .int (Int32.ofInt (k : Int)))]) C0 6 dX12_groupAt_107 rfl (by decide +kernel) rfl ?_
                    refine xw_goto (pc := 110) (tgt := 22) C0 dX12_groupAt_110 rfl ?_
                    have e2 : hx_gp v ps T k j = true := by
                      first
                        | exact hx_gp1 c8 c7 a9 (by omega)
                        | exact hx_gp2 c8 c7 (by omega) (by omega)
                    have e3 : ((hx_pc (hx_gp v ps T k) (j + 1) : Nat) : Int) = ((hx_pc (hx_gp v ps T k) j : Nat) : Int) + 1 := by
                      rw [hx_pce, e2]
                      rw [if_pos rfl]
                      omega
                    have e1 : (j : Int) + 1 = ((j + 1 : Nat) : Int) := by omega
                    rw [e1, ← e3]
                    refine xw_pk [2, 3, 4, 5, 6, 1, 0] (L' := [(0, .ref (xw_ad al 200)), (1, .int (Int32.ofInt (T : Int))), (2, .int (Int32.ofInt ((hx_bs ps (v 1).toNat : Nat) : Int))), (3, .int (Int32.ofInt (hx_gm v ps T (v 1).toNat k))), (4, .int (Int32.ofInt (k : Int))), (5, .int (Int32.ofInt ((hx_pc (hx_gp v ps T k) (j + 1) : Nat) : Int))), (6, .int (Int32.ofInt ((j + 1 : Nat) : Int)))]) rfl ?_
                    exact ih (j + 1) (by omega) (by omega)
                  · refine xw_aload_n (pc := 76) C0 0 dX12_groupAt_76 rfl rfl ?_
                    refine xw_getR (pc := 77) (f := 14) C0 202 kcX12 dX12_groupAt_77 (by decide +kernel) tv_1275 (xj_200 hKL) xk_0 rfl ((rfl).trans (xe_200_14 hG)) ?_
                    refine xw_bipush (pc := 80) C0 dX12_groupAt_80 (by decide +kernel) ?_
                    refine xw_iload (pc := 82) C0 4 dX12_groupAt_82 rfl ?_
                    refine xw_iadd (pc := 84) C0 dX12_groupAt_84 ?_
                    refine xw_nI (pc := 85) (congrArg Int32.ofInt (show 21 + (k : Int) = ((21 + k : Nat) : Int) by omega)) ?_
                    obtain ⟨lo10, hi10, rl10, bl10, bh10⟩ := hx_n379 ⟨21 + k, by omega⟩
                    refine xw_iald (pc := 85) (z := v (21 + k)) C0 dX12_groupAt_85 (xj_202 hKL) xk_1 (by omega) (by decide +kernel) rl10 (hN (21 + k) (by omega)) (fun g10 k10 => ?_)
                    refine xw_iload_n (pc := 86) C0 1 dX12_groupAt_86 rfl rfl ?_
                    refine xw_icmp_eq (pc := 87) (tgt := 107) C0 (by omega) (by omega) dX12_groupAt_87 rfl (fun b11 => ?_) (fun b11 => ?_)
                    · refine xw_iinc (pc := 107) (L' := [(6, .int (Int32.ofInt ((j : Int) + 1))), (0, .ref (xw_ad al 200)), (1, .int (Int32.ofInt (T : Int))), (2, .int (Int32.ofInt ((hx_bs ps (v 1).toNat : Nat) : Int))), (3, .int (Int32.ofInt (hx_gm v ps T (v 1).toNat k))), (4, .int (Int32.ofInt (k : Int))), (5, .int (Int32.ofInt ((hx_pc (hx_gp v ps T k) j : Nat) : Int)))]) C0 6 dX12_groupAt_107 rfl (by decide +kernel) rfl ?_
                      refine xw_goto (pc := 110) (tgt := 22) C0 dX12_groupAt_110 rfl ?_
                      have e2 : hx_gp v ps T k j = false := by
                        first
                          | exact hx_gp3 c8
                          | exact hx_gp4 c7
                          | exact hx_gp5 a9 (by omega)
                          | exact hx_gp6 (by omega) (by omega)
                      have e3 : ((hx_pc (hx_gp v ps T k) (j + 1) : Nat) : Int) = ((hx_pc (hx_gp v ps T k) j : Nat) : Int) := by
                        rw [hx_pce, e2]
                        rw [if_neg Bool.false_ne_true, Nat.add_zero]
                      have e1 : (j : Int) + 1 = ((j + 1 : Nat) : Int) := by omega
                      rw [e1, ← e3]
                      refine xw_pk [1, 2, 3, 4, 5, 6, 0] (L' := [(0, .ref (xw_ad al 200)), (1, .int (Int32.ofInt (T : Int))), (2, .int (Int32.ofInt ((hx_bs ps (v 1).toNat : Nat) : Int))), (3, .int (Int32.ofInt (hx_gm v ps T (v 1).toNat k))), (4, .int (Int32.ofInt (k : Int))), (5, .int (Int32.ofInt ((hx_pc (hx_gp v ps T k) (j + 1) : Nat) : Int))), (6, .int (Int32.ofInt ((j + 1 : Nat) : Int)))]) rfl ?_
                      exact ih (j + 1) (by omega) (by omega)
                    · refine xw_aload_n (pc := 90) C0 0 dX12_groupAt_90 rfl rfl ?_
                      refine xw_getR (pc := 91) (f := 14) C0 202 kcX12 dX12_groupAt_91 (by decide +kernel) tv_1275 (xj_200 hKL) xk_0 rfl ((rfl).trans (xe_200_14 hG)) ?_
                      refine xw_bipush (pc := 94) C0 dX12_groupAt_94 (by decide +kernel) ?_
                      refine xw_iload (pc := 96) C0 6 dX12_groupAt_96 rfl ?_
                      refine xw_iadd (pc := 98) C0 dX12_groupAt_98 ?_
                      refine xw_nI (pc := 99) (congrArg Int32.ofInt (show 21 + (j : Int) = ((21 + j : Nat) : Int) by omega)) ?_
                      obtain ⟨lo12, hi12, rl12, bl12, bh12⟩ := hx_n379 ⟨21 + j, by omega⟩
                      refine xw_iald (pc := 99) (z := v (21 + j)) C0 dX12_groupAt_99 (xj_202 hKL) xk_1 (by omega) (by decide +kernel) rl12 (hN (21 + j) (by omega)) (fun g12 k12 => ?_)
                      refine xw_iload_n (pc := 100) C0 1 dX12_groupAt_100 rfl rfl ?_
                      refine xw_icmp_eq (pc := 101) (tgt := 107) C0 (by omega) (by omega) dX12_groupAt_101 rfl (fun b13 => ?_) (fun b13 => ?_)
                      · refine xw_iinc (pc := 107) (L' := [(6, .int (Int32.ofInt ((j : Int) + 1))), (0, .ref (xw_ad al 200)), (1, .int (Int32.ofInt (T : Int))), (2, .int (Int32.ofInt ((hx_bs ps (v 1).toNat : Nat) : Int))), (3, .int (Int32.ofInt (hx_gm v ps T (v 1).toNat k))), (4, .int (Int32.ofInt (k : Int))), (5, .int (Int32.ofInt ((hx_pc (hx_gp v ps T k) j : Nat) : Int)))]) C0 6 dX12_groupAt_107 rfl (by decide +kernel) rfl ?_
                        refine xw_goto (pc := 110) (tgt := 22) C0 dX12_groupAt_110 rfl ?_
                        have e2 : hx_gp v ps T k j = false := by
                          first
                            | exact hx_gp3 c8
                            | exact hx_gp4 c7
                            | exact hx_gp5 a9 (by omega)
                            | exact hx_gp6 (by omega) (by omega)
                        have e3 : ((hx_pc (hx_gp v ps T k) (j + 1) : Nat) : Int) = ((hx_pc (hx_gp v ps T k) j : Nat) : Int) := by
                          rw [hx_pce, e2]
                          rw [if_neg Bool.false_ne_true, Nat.add_zero]
                        have e1 : (j : Int) + 1 = ((j + 1 : Nat) : Int) := by omega
                        rw [e1, ← e3]
                        refine xw_pk [1, 2, 3, 4, 5, 6, 0] (L' := [(0, .ref (xw_ad al 200)), (1, .int (Int32.ofInt (T : Int))), (2, .int (Int32.ofInt ((hx_bs ps (v 1).toNat : Nat) : Int))), (3, .int (Int32.ofInt (hx_gm v ps T (v 1).toNat k))), (4, .int (Int32.ofInt (k : Int))), (5, .int (Int32.ofInt ((hx_pc (hx_gp v ps T k) (j + 1) : Nat) : Int))), (6, .int (Int32.ofInt ((j + 1 : Nat) : Int)))]) rfl ?_
                        exact ih (j + 1) (by omega) (by omega)
                      · refine xw_iinc (pc := 104) (L' := [(5, .int (Int32.ofInt (((hx_pc (hx_gp v ps T k) j : Nat) : Int) + 1))), (0, .ref (xw_ad al 200)), (1, .int (Int32.ofInt (T : Int))), (2, .int (Int32.ofInt ((hx_bs ps (v 1).toNat : Nat) : Int))), (3, .int (Int32.ofInt (hx_gm v ps T (v 1).toNat k))), (4, .int (Int32.ofInt (k : Int))), (6, .int (Int32.ofInt (j : Int)))]) C0 5 dX12_groupAt_104 rfl (by decide +kernel) rfl ?_
                        refine xw_iinc (pc := 107) (L' := [(6, .int (Int32.ofInt ((j : Int) + 1))), (5, .int (Int32.ofInt (((hx_pc (hx_gp v ps T k) j : Nat) : Int) + 1))), (0, .ref (xw_ad al 200)), (1, .int (Int32.ofInt (T : Int))), (2, .int (Int32.ofInt ((hx_bs ps (v 1).toNat : Nat) : Int))), (3, .int (Int32.ofInt (hx_gm v ps T (v 1).toNat k))), (4, .int (Int32.ofInt (k : Int)))]) C0 6 dX12_groupAt_107 rfl (by decide +kernel) rfl ?_
                        refine xw_goto (pc := 110) (tgt := 22) C0 dX12_groupAt_110 rfl ?_
                        have e2 : hx_gp v ps T k j = true := by
                          first
                            | exact hx_gp1 c8 c7 a9 (by omega)
                            | exact hx_gp2 c8 c7 (by omega) (by omega)
                        have e3 : ((hx_pc (hx_gp v ps T k) (j + 1) : Nat) : Int) = ((hx_pc (hx_gp v ps T k) j : Nat) : Int) + 1 := by
                          rw [hx_pce, e2]
                          rw [if_pos rfl]
                          omega
                        have e1 : (j : Int) + 1 = ((j + 1 : Nat) : Int) := by omega
                        rw [e1, ← e3]
                        refine xw_pk [2, 3, 4, 5, 6, 1, 0] (L' := [(0, .ref (xw_ad al 200)), (1, .int (Int32.ofInt (T : Int))), (2, .int (Int32.ofInt ((hx_bs ps (v 1).toNat : Nat) : Int))), (3, .int (Int32.ofInt (hx_gm v ps T (v 1).toNat k))), (4, .int (Int32.ofInt (k : Int))), (5, .int (Int32.ofInt ((hx_pc (hx_gp v ps T k) (j + 1) : Nat) : Int))), (6, .int (Int32.ofInt ((j + 1 : Nat) : Int)))]) rfl ?_
                        exact ih (j + 1) (by omega) (by omega)
              · refine xw_if_eq (pc := 59) (tgt := 76) C0 (by omega) dX12_groupAt_59 rfl (fun b14 => ?_) (fun b14 => ?_)
                · refine xw_aload_n (pc := 76) C0 0 dX12_groupAt_76 rfl rfl ?_
                  refine xw_getR (pc := 77) (f := 14) C0 202 kcX12 dX12_groupAt_77 (by decide +kernel) tv_1275 (xj_200 hKL) xk_0 rfl ((rfl).trans (xe_200_14 hG)) ?_
                  refine xw_bipush (pc := 80) C0 dX12_groupAt_80 (by decide +kernel) ?_
                  refine xw_iload (pc := 82) C0 4 dX12_groupAt_82 rfl ?_
                  refine xw_iadd (pc := 84) C0 dX12_groupAt_84 ?_
                  refine xw_nI (pc := 85) (congrArg Int32.ofInt (show 21 + (k : Int) = ((21 + k : Nat) : Int) by omega)) ?_
                  obtain ⟨lo15, hi15, rl15, bl15, bh15⟩ := hx_n379 ⟨21 + k, by omega⟩
                  refine xw_iald (pc := 85) (z := v (21 + k)) C0 dX12_groupAt_85 (xj_202 hKL) xk_1 (by omega) (by decide +kernel) rl15 (hN (21 + k) (by omega)) (fun g15 k15 => ?_)
                  refine xw_iload_n (pc := 86) C0 1 dX12_groupAt_86 rfl rfl ?_
                  refine xw_icmp_eq (pc := 87) (tgt := 107) C0 (by omega) (by omega) dX12_groupAt_87 rfl (fun b16 => ?_) (fun b16 => ?_)
                  · refine xw_iinc (pc := 107) (L' := [(6, .int (Int32.ofInt ((j : Int) + 1))), (0, .ref (xw_ad al 200)), (1, .int (Int32.ofInt (T : Int))), (2, .int (Int32.ofInt ((hx_bs ps (v 1).toNat : Nat) : Int))), (3, .int (Int32.ofInt (hx_gm v ps T (v 1).toNat k))), (4, .int (Int32.ofInt (k : Int))), (5, .int (Int32.ofInt ((hx_pc (hx_gp v ps T k) j : Nat) : Int)))]) C0 6 dX12_groupAt_107 rfl (by decide +kernel) rfl ?_
                    refine xw_goto (pc := 110) (tgt := 22) C0 dX12_groupAt_110 rfl ?_
                    have e2 : hx_gp v ps T k j = false := by
                      first
                        | exact hx_gp3 c8
                        | exact hx_gp4 c7
                        | exact hx_gp5 a9 (by omega)
                        | exact hx_gp6 (by omega) (by omega)
                    have e3 : ((hx_pc (hx_gp v ps T k) (j + 1) : Nat) : Int) = ((hx_pc (hx_gp v ps T k) j : Nat) : Int) := by
                      rw [hx_pce, e2]
                      rw [if_neg Bool.false_ne_true, Nat.add_zero]
                    have e1 : (j : Int) + 1 = ((j + 1 : Nat) : Int) := by omega
                    rw [e1, ← e3]
                    refine xw_pk [1, 2, 3, 4, 5, 6, 0] (L' := [(0, .ref (xw_ad al 200)), (1, .int (Int32.ofInt (T : Int))), (2, .int (Int32.ofInt ((hx_bs ps (v 1).toNat : Nat) : Int))), (3, .int (Int32.ofInt (hx_gm v ps T (v 1).toNat k))), (4, .int (Int32.ofInt (k : Int))), (5, .int (Int32.ofInt ((hx_pc (hx_gp v ps T k) (j + 1) : Nat) : Int))), (6, .int (Int32.ofInt ((j + 1 : Nat) : Int)))]) rfl ?_
                    exact ih (j + 1) (by omega) (by omega)
                  · refine xw_aload_n (pc := 90) C0 0 dX12_groupAt_90 rfl rfl ?_
                    refine xw_getR (pc := 91) (f := 14) C0 202 kcX12 dX12_groupAt_91 (by decide +kernel) tv_1275 (xj_200 hKL) xk_0 rfl ((rfl).trans (xe_200_14 hG)) ?_
                    refine xw_bipush (pc := 94) C0 dX12_groupAt_94 (by decide +kernel) ?_
                    refine xw_iload (pc := 96) C0 6 dX12_groupAt_96 rfl ?_
                    refine xw_iadd (pc := 98) C0 dX12_groupAt_98 ?_
                    refine xw_nI (pc := 99) (congrArg Int32.ofInt (show 21 + (j : Int) = ((21 + j : Nat) : Int) by omega)) ?_
                    obtain ⟨lo17, hi17, rl17, bl17, bh17⟩ := hx_n379 ⟨21 + j, by omega⟩
                    refine xw_iald (pc := 99) (z := v (21 + j)) C0 dX12_groupAt_99 (xj_202 hKL) xk_1 (by omega) (by decide +kernel) rl17 (hN (21 + j) (by omega)) (fun g17 k17 => ?_)
                    refine xw_iload_n (pc := 100) C0 1 dX12_groupAt_100 rfl rfl ?_
                    refine xw_icmp_eq (pc := 101) (tgt := 107) C0 (by omega) (by omega) dX12_groupAt_101 rfl (fun b18 => ?_) (fun b18 => ?_)
                    · refine xw_iinc (pc := 107) (L' := [(6, .int (Int32.ofInt ((j : Int) + 1))), (0, .ref (xw_ad al 200)), (1, .int (Int32.ofInt (T : Int))), (2, .int (Int32.ofInt ((hx_bs ps (v 1).toNat : Nat) : Int))), (3, .int (Int32.ofInt (hx_gm v ps T (v 1).toNat k))), (4, .int (Int32.ofInt (k : Int))), (5, .int (Int32.ofInt ((hx_pc (hx_gp v ps T k) j : Nat) : Int)))]) C0 6 dX12_groupAt_107 rfl (by decide +kernel) rfl ?_
                      refine xw_goto (pc := 110) (tgt := 22) C0 dX12_groupAt_110 rfl ?_
                      have e2 : hx_gp v ps T k j = false := by
                        first
                          | exact hx_gp3 c8
                          | exact hx_gp4 c7
                          | exact hx_gp5 a9 (by omega)
                          | exact hx_gp6 (by omega) (by omega)
                      have e3 : ((hx_pc (hx_gp v ps T k) (j + 1) : Nat) : Int) = ((hx_pc (hx_gp v ps T k) j : Nat) : Int) := by
                        rw [hx_pce, e2]
                        rw [if_neg Bool.false_ne_true, Nat.add_zero]
                      have e1 : (j : Int) + 1 = ((j + 1 : Nat) : Int) := by omega
                      rw [e1, ← e3]
                      refine xw_pk [1, 2, 3, 4, 5, 6, 0] (L' := [(0, .ref (xw_ad al 200)), (1, .int (Int32.ofInt (T : Int))), (2, .int (Int32.ofInt ((hx_bs ps (v 1).toNat : Nat) : Int))), (3, .int (Int32.ofInt (hx_gm v ps T (v 1).toNat k))), (4, .int (Int32.ofInt (k : Int))), (5, .int (Int32.ofInt ((hx_pc (hx_gp v ps T k) (j + 1) : Nat) : Int))), (6, .int (Int32.ofInt ((j + 1 : Nat) : Int)))]) rfl ?_
                      exact ih (j + 1) (by omega) (by omega)
                    · refine xw_iinc (pc := 104) (L' := [(5, .int (Int32.ofInt (((hx_pc (hx_gp v ps T k) j : Nat) : Int) + 1))), (0, .ref (xw_ad al 200)), (1, .int (Int32.ofInt (T : Int))), (2, .int (Int32.ofInt ((hx_bs ps (v 1).toNat : Nat) : Int))), (3, .int (Int32.ofInt (hx_gm v ps T (v 1).toNat k))), (4, .int (Int32.ofInt (k : Int))), (6, .int (Int32.ofInt (j : Int)))]) C0 5 dX12_groupAt_104 rfl (by decide +kernel) rfl ?_
                      refine xw_iinc (pc := 107) (L' := [(6, .int (Int32.ofInt ((j : Int) + 1))), (5, .int (Int32.ofInt (((hx_pc (hx_gp v ps T k) j : Nat) : Int) + 1))), (0, .ref (xw_ad al 200)), (1, .int (Int32.ofInt (T : Int))), (2, .int (Int32.ofInt ((hx_bs ps (v 1).toNat : Nat) : Int))), (3, .int (Int32.ofInt (hx_gm v ps T (v 1).toNat k))), (4, .int (Int32.ofInt (k : Int)))]) C0 6 dX12_groupAt_107 rfl (by decide +kernel) rfl ?_
                      refine xw_goto (pc := 110) (tgt := 22) C0 dX12_groupAt_110 rfl ?_
                      have e2 : hx_gp v ps T k j = true := by
                        first
                          | exact hx_gp1 c8 c7 a9 (by omega)
                          | exact hx_gp2 c8 c7 (by omega) (by omega)
                      have e3 : ((hx_pc (hx_gp v ps T k) (j + 1) : Nat) : Int) = ((hx_pc (hx_gp v ps T k) j : Nat) : Int) + 1 := by
                        rw [hx_pce, e2]
                        rw [if_pos rfl]
                        omega
                      have e1 : (j : Int) + 1 = ((j + 1 : Nat) : Int) := by omega
                      rw [e1, ← e3]
                      refine xw_pk [2, 3, 4, 5, 6, 1, 0] (L' := [(0, .ref (xw_ad al 200)), (1, .int (Int32.ofInt (T : Int))), (2, .int (Int32.ofInt ((hx_bs ps (v 1).toNat : Nat) : Int))), (3, .int (Int32.ofInt (hx_gm v ps T (v 1).toNat k))), (4, .int (Int32.ofInt (k : Int))), (5, .int (Int32.ofInt ((hx_pc (hx_gp v ps T k) (j + 1) : Nat) : Int))), (6, .int (Int32.ofInt ((j + 1 : Nat) : Int)))]) rfl ?_
                      exact ih (j + 1) (by omega) (by omega)
                · exfalso
                  omega
          · have n7 : tb_hb (Int32.ofInt ((hx_bs ps (v 1).toNat : Nat) : Int)) (Int32.ofInt (j : Int)) = Int32.ofInt 0 := by
              rw [xb_b8 (by omega) (by omega), c7]
              rfl
            refine xw_bitS (pc := 45) (rest := []) (r := 0) C0 sa_Tg (pu_X12_has (l := l)) tv_1660 dX12_groupAt_45 tv_1658 tv_1659 tv_13 yb_X12_has (by decide +kernel) (by decide +kernel) (Nat.le_of_ble_eq_true rfl) n7 ?_
            refine xw_if_eq (pc := 48) (tgt := 107) C0 (by omega) dX12_groupAt_48 rfl (fun b19 => ?_) (fun b19 => ?_)
            · refine xw_iinc (pc := 107) (L' := [(6, .int (Int32.ofInt ((j : Int) + 1))), (0, .ref (xw_ad al 200)), (1, .int (Int32.ofInt (T : Int))), (2, .int (Int32.ofInt ((hx_bs ps (v 1).toNat : Nat) : Int))), (3, .int (Int32.ofInt (hx_gm v ps T (v 1).toNat k))), (4, .int (Int32.ofInt (k : Int))), (5, .int (Int32.ofInt ((hx_pc (hx_gp v ps T k) j : Nat) : Int)))]) C0 6 dX12_groupAt_107 rfl (by decide +kernel) rfl ?_
              refine xw_goto (pc := 110) (tgt := 22) C0 dX12_groupAt_110 rfl ?_
              have e2 : hx_gp v ps T k j = false := by
                first
                  | exact hx_gp3 c8
                  | exact hx_gp4 c7
                  | exact hx_gp5 a9 (by omega)
                  | exact hx_gp6 (by omega) (by omega)
              have e3 : ((hx_pc (hx_gp v ps T k) (j + 1) : Nat) : Int) = ((hx_pc (hx_gp v ps T k) j : Nat) : Int) := by
                rw [hx_pce, e2]
                rw [if_neg Bool.false_ne_true, Nat.add_zero]
              have e1 : (j : Int) + 1 = ((j + 1 : Nat) : Int) := by omega
              rw [e1, ← e3]
              refine xw_pk [1, 2, 3, 4, 5, 6, 0] (L' := [(0, .ref (xw_ad al 200)), (1, .int (Int32.ofInt (T : Int))), (2, .int (Int32.ofInt ((hx_bs ps (v 1).toNat : Nat) : Int))), (3, .int (Int32.ofInt (hx_gm v ps T (v 1).toNat k))), (4, .int (Int32.ofInt (k : Int))), (5, .int (Int32.ofInt ((hx_pc (hx_gp v ps T k) (j + 1) : Nat) : Int))), (6, .int (Int32.ofInt ((j + 1 : Nat) : Int)))]) rfl ?_
              exact ih (j + 1) (by omega) (by omega)
            · exfalso
              omega
      · have n8 : tb_hb (Int32.ofInt ((hx_bs ps (v 1).toNat : Nat) : Int)) (Int32.ofInt (k : Int)) = Int32.ofInt 0 := by
          rw [xb_b8 (by omega) (by omega), c8]
          rfl
        refine xw_bitS (pc := 36) (rest := []) (r := 0) C0 sa_Tg (pu_X12_has (l := l)) tv_1660 dX12_groupAt_36 tv_1658 tv_1659 tv_13 yb_X12_has (by decide +kernel) (by decide +kernel) (Nat.le_of_ble_eq_true rfl) n8 ?_
        refine xw_if_eq (pc := 39) (tgt := 107) C0 (by omega) dX12_groupAt_39 rfl (fun b20 => ?_) (fun b20 => ?_)
        · refine xw_iinc (pc := 107) (L' := [(6, .int (Int32.ofInt ((j : Int) + 1))), (0, .ref (xw_ad al 200)), (1, .int (Int32.ofInt (T : Int))), (2, .int (Int32.ofInt ((hx_bs ps (v 1).toNat : Nat) : Int))), (3, .int (Int32.ofInt (hx_gm v ps T (v 1).toNat k))), (4, .int (Int32.ofInt (k : Int))), (5, .int (Int32.ofInt ((hx_pc (hx_gp v ps T k) j : Nat) : Int)))]) C0 6 dX12_groupAt_107 rfl (by decide +kernel) rfl ?_
          refine xw_goto (pc := 110) (tgt := 22) C0 dX12_groupAt_110 rfl ?_
          have e2 : hx_gp v ps T k j = false := by
            first
              | exact hx_gp3 c8
              | exact hx_gp4 c7
              | exact hx_gp5 a9 (by omega)
              | exact hx_gp6 (by omega) (by omega)
          have e3 : ((hx_pc (hx_gp v ps T k) (j + 1) : Nat) : Int) = ((hx_pc (hx_gp v ps T k) j : Nat) : Int) := by
            rw [hx_pce, e2]
            rw [if_neg Bool.false_ne_true, Nat.add_zero]
          have e1 : (j : Int) + 1 = ((j + 1 : Nat) : Int) := by omega
          rw [e1, ← e3]
          refine xw_pk [1, 2, 3, 4, 5, 6, 0] (L' := [(0, .ref (xw_ad al 200)), (1, .int (Int32.ofInt (T : Int))), (2, .int (Int32.ofInt ((hx_bs ps (v 1).toNat : Nat) : Int))), (3, .int (Int32.ofInt (hx_gm v ps T (v 1).toNat k))), (4, .int (Int32.ofInt (k : Int))), (5, .int (Int32.ofInt ((hx_pc (hx_gp v ps T k) (j + 1) : Nat) : Int))), (6, .int (Int32.ofInt ((j + 1 : Nat) : Int)))]) rfl ?_
          exact ih (j + 1) (by omega) (by omega)
        · exfalso
          omega
set_option maxRecDepth 20000 in
set_option maxHeartbeats 20000000 in
theorem xr_gaO {l : Launch} {p : Program} {e : Env} {s : State} {m : MethodId} {args : Array Value} {below : List Frame} {meth : Method} {c : Code} {Q : State → Prop} {D : va_G} {dA : Nat → ClassId} {A : Nat → Prop} {al : List (Nat × Nat)} (C0 : sa_C p s m args c D dA A 7 vwCl sa_Ts cX12_groupAt yX12_groupAt.cls) (hU : sa_U D vwCl dA s) (hO : tb_Ou A s s.heap) (hKL : al.map Prod.snd = tc_KL) {v nm : Nat → Int} {ps : Nat → Bool} {T : Nat} {μ : xw_M} (hG : xw_G xw_GL μ) (hK : hp_ok v nm) (hN : ∀ k : Nat, k < 77 → μ 202 k = v k) (hT : T < 6) (kx : xw_W p l e { frames := 3, cells := 0, slots := 0, locals := 142 } s m args below meth c Q D dA A 7 vwCl tb_KT0 al 0 0 μ 128 [(3, .int (Int32.ofInt (hx_gm v ps T (v 1).toNat (v 1).toNat)))] []) : ∀ (fu9 : Nat) (k : Nat), ((v 1).toNat : Int) - (k : Int) < (fu9 : Int) → k ≤ (v 1).toNat → xw_W p l e { frames := 3, cells := 0, slots := 0, locals := 142 } s m args below meth c Q D dA A 7 vwCl tb_KT0 al 0 0 μ 5 [(0, .ref (xw_ad al 200)), (1, .int (Int32.ofInt (T : Int))), (2, .int (Int32.ofInt ((hx_bs ps (v 1).toNat : Nat) : Int))), (3, .int (Int32.ofInt (hx_gm v ps T (v 1).toNat k))), (4, .int (Int32.ofInt (k : Int)))] [] := by
  intro fu9
  induction fu9 with
  | zero => intro k hm hk; exfalso; omega
  | succ fu9 ih =>
    intro k hm hk
    have k1 := hK.2.1
    have hn1 : μ 202 1 = v 1 := hN 1 (by decide +kernel)
    refine xw_iload (pc := 5) C0 4 dX12_groupAt_5 rfl ?_
    refine xw_aload_n (pc := 7) C0 0 dX12_groupAt_7 rfl rfl ?_
    refine xw_getR (pc := 8) (f := 14) C0 202 kcX12 dX12_groupAt_8 (by decide +kernel) tv_1275 (xj_200 hKL) xk_0 rfl ((rfl).trans (xe_200_14 hG)) ?_
    refine xw_iconst (pc := 11) C0 dX12_groupAt_11 ?_
    refine xw_iald (pc := 12) (z := v 1) C0 dX12_groupAt_12 (xj_202 hKL) xk_1 (by omega) (by decide +kernel) rfl hn1 (fun g1 k1 => ?_)
    refine xw_icmp_ge (pc := 13) (tgt := 128) C0 (by omega) (by omega) dX12_groupAt_13 rfl (fun b2 => ?_) (fun b2 => ?_)
    · have e9 : k = (v 1).toNat := by omega
      subst e9
      refine xw_pk [3] (L' := [(3, .int (Int32.ofInt (hx_gm v ps T (v 1).toNat (v 1).toNat)))]) rfl ?_
      exact kx
    · refine xw_iconst (pc := 16) C0 dX12_groupAt_16 ?_
      refine xw_istore (pc := 17) (L' := [(5, .int (Int32.ofInt 0)), (0, .ref (xw_ad al 200)), (1, .int (Int32.ofInt (T : Int))), (2, .int (Int32.ofInt ((hx_bs ps (v 1).toNat : Nat) : Int))), (3, .int (Int32.ofInt (hx_gm v ps T (v 1).toNat k))), (4, .int (Int32.ofInt (k : Int)))]) C0 dX12_groupAt_17 (by decide +kernel) rfl ?_
      refine xw_iconst (pc := 19) C0 dX12_groupAt_19 ?_
      refine xw_istore (pc := 20) (L' := [(6, .int (Int32.ofInt 0)), (5, .int (Int32.ofInt 0)), (0, .ref (xw_ad al 200)), (1, .int (Int32.ofInt (T : Int))), (2, .int (Int32.ofInt ((hx_bs ps (v 1).toNat : Nat) : Int))), (3, .int (Int32.ofInt (hx_gm v ps T (v 1).toNat k))), (4, .int (Int32.ofInt (k : Int)))]) C0 dX12_groupAt_20 (by decide +kernel) rfl ?_
      have b9 := hx_gmB (v := v) (p := ps) (T := T) (M := (v 1).toNat) k
      have b8 := hx_pcB (p := hx_gp v ps T k) (v 1).toNat
      refine xw_pk [2, 3, 4, 5, 6, 1, 0] (L' := [(0, .ref (xw_ad al 200)), (1, .int (Int32.ofInt (T : Int))), (2, .int (Int32.ofInt ((hx_bs ps (v 1).toNat : Nat) : Int))), (3, .int (Int32.ofInt (hx_gm v ps T (v 1).toNat k))), (4, .int (Int32.ofInt (k : Int))), (5, .int (Int32.ofInt ((hx_pc (hx_gp v ps T k) 0 : Nat) : Int))), (6, .int (Int32.ofInt ((0 : Nat) : Int)))]) rfl ?_
      refine xr_gaI (v := v) (nm := nm) (ps := ps) (T := T) (k := k) (μ := μ) C0 hU hO hKL hG hK hN hT (by omega) ?_ 9 0 (by omega) (Nat.zero_le _)
      refine xw_iload (pc := 113) C0 5 dX12_groupAt_113 rfl ?_
      refine xw_iload_n (pc := 115) C0 3 dX12_groupAt_115 rfl rfl ?_
      refine xw_icmp_le (pc := 116) (tgt := 122) C0 (by omega) (by omega) dX12_groupAt_116 rfl (fun b51 => ?_) (fun b51 => ?_)
      · refine xw_iinc (pc := 122) (L' := [(4, .int (Int32.ofInt ((k : Int) + 1))), (0, .ref (xw_ad al 200)), (1, .int (Int32.ofInt (T : Int))), (2, .int (Int32.ofInt ((hx_bs ps (v 1).toNat : Nat) : Int))), (3, .int (Int32.ofInt (hx_gm v ps T (v 1).toNat k))), (5, .int (Int32.ofInt ((hx_pc (hx_gp v ps T k) (v 1).toNat : Nat) : Int)))]) C0 4 dX12_groupAt_122 rfl (by decide +kernel) rfl ?_
        refine xw_goto (pc := 125) (tgt := 5) C0 dX12_groupAt_125 rfl ?_
        have e3 : hx_gm v ps T (v 1).toNat (k + 1) = hx_gm v ps T (v 1).toNat k := by
          have hs := hx_mS (hx_gm v ps T (v 1).toNat k) ((hx_pc (hx_gp v ps T k) (v 1).toNat : Nat) : Int)
          rw [hx_gme]
          omega
        have e1 : (k : Int) + 1 = ((k + 1 : Nat) : Int) := by omega
        rw [e1, ← e3]
        refine xw_pk [1, 2, 3, 4, 0] (L' := [(0, .ref (xw_ad al 200)), (1, .int (Int32.ofInt (T : Int))), (2, .int (Int32.ofInt ((hx_bs ps (v 1).toNat : Nat) : Int))), (3, .int (Int32.ofInt (hx_gm v ps T (v 1).toNat (k + 1)))), (4, .int (Int32.ofInt ((k + 1 : Nat) : Int)))]) rfl ?_
        exact ih (k + 1) (by omega) (by omega)
      · refine xw_iload (pc := 119) C0 5 dX12_groupAt_119 rfl ?_
        refine xw_istore_n (pc := 121) (L' := [(3, .int (Int32.ofInt ((hx_pc (hx_gp v ps T k) (v 1).toNat : Nat) : Int))), (0, .ref (xw_ad al 200)), (1, .int (Int32.ofInt (T : Int))), (2, .int (Int32.ofInt ((hx_bs ps (v 1).toNat : Nat) : Int))), (4, .int (Int32.ofInt (k : Int))), (5, .int (Int32.ofInt ((hx_pc (hx_gp v ps T k) (v 1).toNat : Nat) : Int)))]) C0 dX12_groupAt_121 rfl (by decide +kernel) rfl ?_
        refine xw_iinc (pc := 122) (L' := [(4, .int (Int32.ofInt ((k : Int) + 1))), (3, .int (Int32.ofInt ((hx_pc (hx_gp v ps T k) (v 1).toNat : Nat) : Int))), (0, .ref (xw_ad al 200)), (1, .int (Int32.ofInt (T : Int))), (2, .int (Int32.ofInt ((hx_bs ps (v 1).toNat : Nat) : Int))), (5, .int (Int32.ofInt ((hx_pc (hx_gp v ps T k) (v 1).toNat : Nat) : Int)))]) C0 4 dX12_groupAt_122 rfl (by decide +kernel) rfl ?_
        refine xw_goto (pc := 125) (tgt := 5) C0 dX12_groupAt_125 rfl ?_
        have e3 : hx_gm v ps T (v 1).toNat (k + 1) = ((hx_pc (hx_gp v ps T k) (v 1).toNat : Nat) : Int) := by
          have hs := hx_mS (hx_gm v ps T (v 1).toNat k) ((hx_pc (hx_gp v ps T k) (v 1).toNat : Nat) : Int)
          rw [hx_gme]
          omega
        have e1 : (k : Int) + 1 = ((k + 1 : Nat) : Int) := by omega
        rw [e1, ← e3]
        refine xw_pk [2, 3, 4, 1, 0] (L' := [(0, .ref (xw_ad al 200)), (1, .int (Int32.ofInt (T : Int))), (2, .int (Int32.ofInt ((hx_bs ps (v 1).toNat : Nat) : Int))), (3, .int (Int32.ofInt (hx_gm v ps T (v 1).toNat (k + 1)))), (4, .int (Int32.ofInt ((k + 1 : Nat) : Int)))]) rfl ?_
        exact ih (k + 1) (by omega) (by omega)
set_option maxRecDepth 20000 in
set_option maxHeartbeats 20000000 in
theorem xr_groupAt {l : Launch} {v nm : Nat → Int} {ps : Nat → Bool} {T : Nat} {μ : xw_M} (hG : xw_G xw_GL μ) (hK : hp_ok v nm) (hN : ∀ k : Nat, k < 77 → μ 202 k = v k) (hT : T < 6) : xw_MetI l vwCl sa_Ts tb_KT0 tc_KL yX12_groupAt cX12_groupAt 7 (some .int) 3 142 (fun ad => [.ref (ad 200), .int (Int32.ofInt (T : Int)), .int (Int32.ofInt ((hx_bs ps (v 1).toNat : Nat) : Int))]) μ (fun r μ' => μ = μ' ∧ r = hx_ml v ps T (v 1).toNat (v 1).toNat) :=
  xw_of (by decide +kernel) (fun _ => Nat.le_of_ble_eq_true rfl) (fun p e s m args below meth c D dA A al w0 sz C0 hU hO hKL hr hlk hA => by
    have k1 := hK.2.1
    have hn1 : μ 202 1 = v 1 := hN 1 (by decide +kernel)
    refine xw_iconst (pc := 0) C0 dX12_groupAt_0 ?_
    refine xw_istore_n (pc := 1) (L' := [(3, .int (Int32.ofInt 0)), (0, .ref (xw_ad al 200)), (1, .int (Int32.ofInt (T : Int))), (2, .int (Int32.ofInt ((hx_bs ps (v 1).toNat : Nat) : Int)))]) C0 dX12_groupAt_1 rfl (by decide +kernel) rfl ?_
    refine xw_iconst (pc := 2) C0 dX12_groupAt_2 ?_
    refine xw_istore (pc := 3) (L' := [(4, .int (Int32.ofInt 0)), (3, .int (Int32.ofInt 0)), (0, .ref (xw_ad al 200)), (1, .int (Int32.ofInt (T : Int))), (2, .int (Int32.ofInt ((hx_bs ps (v 1).toNat : Nat) : Int)))]) C0 dX12_groupAt_3 (by decide +kernel) rfl ?_
    refine xw_pk [2, 3, 4, 1, 0] (L' := [(0, .ref (xw_ad al 200)), (1, .int (Int32.ofInt (T : Int))), (2, .int (Int32.ofInt ((hx_bs ps (v 1).toNat : Nat) : Int))), (3, .int (Int32.ofInt (hx_gm v ps T (v 1).toNat 0))), (4, .int (Int32.ofInt ((0 : Nat) : Int)))]) rfl ?_
    refine xr_gaO (v := v) (nm := nm) (ps := ps) (T := T) (μ := μ) C0 hU hO hKL hG hK hN hT ?_ 9 0 (by omega) (Nat.zero_le _)
    refine xw_iload_n (pc := 128) C0 0 dX12_groupAt_128 rfl rfl ?_
    refine xw_iret C0 hA hr hlk rfl dX12_groupAt_129 ?_
    exact ⟨_, rfl, rfl, hx_gml⟩)
