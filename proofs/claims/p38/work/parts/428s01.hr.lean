set_option maxRecDepth 20000 in
set_option maxHeartbeats 20000000 in
theorem xr_goF {l : Launch} {p : Program} {e : Env} {s : State} {m : MethodId} {args : Array Value} {below : List Frame} {meth : Method} {c : Code} {Q : State → Prop} {D : va_G} {dA : Nat → ClassId} {A : Nat → Prop} {al : List (Nat × Nat)} (C0 : sa_C p s m args c D dA A 5 vwCl sa_Ts cX12_go yX12_go.cls) (hU : sa_U D vwCl dA s) (hO : tb_Ou A s s.heap) (hKL : al.map Prod.snd = tc_KL) {t : Nat → Int} {n lim q : Nat} {ν : xw_M} (hS_ν : hr_S t n lim ν) (h5 : ν 200 5 = (q : Int)) (kx : (lim < n ∧ lim ≤ q) → xw_W p l e { frames := 3, cells := 0, slots := 0, locals := 141 } s m args below meth c Q D dA A 5 vwCl tb_KT0 al 0 0 (xw_u ν 200 6 (q : Int)) 82 [(0, .ref (xw_ad al 200))] []) (ky : ¬ (lim < n ∧ lim ≤ q) → xw_W p l e { frames := 3, cells := 0, slots := 0, locals := 141 } s m args below meth c Q D dA A 5 vwCl tb_KT0 al 0 0 (xw_u ν 200 6 (q : Int)) 96 [(0, .ref (xw_ad al 200))] []) : xw_W p l e { frames := 3, cells := 0, slots := 0, locals := 141 } s m args below meth c Q D dA A 5 vwCl tb_KT0 al 0 0 ν 52 [(0, .ref (xw_ad al 200))] [] := by
  have n_ν := hS_ν.2.2.1
  have l_ν := hS_ν.2.2.2.1
  have b_ν := hS_ν.2.2.2.2
  refine xw_aload_n (pc := 52) C0 0 dX12_go_52 rfl rfl ?_
  refine xw_aload_n (pc := 53) C0 0 dX12_go_53 rfl rfl ?_
  refine xw_getI (pc := 54) (f := 5) (z := ν 200 5) C0 kcX12 dX12_go_54 (by decide) tv_1266 (xj_200 hKL) xk_0 rfl (rfl) (fun g1 k1 => ?_)
  refine xw_nI (congrArg Int32.ofInt h5) ?_
  refine xw_putI (pc := 57) (f := 6) C0 kcX12 dX12_go_57 (by decide) tv_1267 rfl rfl (xj_200 hKL) xk_0 rfl (by omega) (by omega) ?_
  refine xw_aload_n (pc := 60) C0 0 dX12_go_60 rfl rfl ?_
  refine xw_getI (pc := 61) (f := 3) (z := ν 200 3) C0 kcX12 dX12_go_61 (by decide) tv_1264 (xj_200 hKL) xk_0 rfl ((xw_un (by decide)).trans rfl) (fun g2 k2 => ?_)
  refine xw_aload_n (pc := 64) C0 0 dX12_go_64 rfl rfl ?_
  refine xw_getI (pc := 65) (f := 4) (z := ν 200 4) C0 kcX12 dX12_go_65 (by decide) tv_1265 (xj_200 hKL) xk_0 rfl ((xw_un (by decide)).trans rfl) (fun g3 k3 => ?_)
  refine xw_icmp_le (pc := 68) (tgt := 96) C0 (by omega) (by omega) dX12_go_68 rfl (fun b4 => ?_) (fun b4 => ?_)
  · refine xw_pk [0] (L' := [(0, .ref (xw_ad al 200))]) rfl ?_
    exact ky (by omega)
  · refine xw_aload_n (pc := 71) C0 0 dX12_go_71 rfl rfl ?_
    refine xw_getI (pc := 72) (f := 6) (z := (q : Int)) C0 kcX12 dX12_go_72 (by decide) tv_1267 (xj_200 hKL) xk_0 rfl (xw_ug) (fun g5 k5 => ?_)
    refine xw_aload_n (pc := 75) C0 0 dX12_go_75 rfl rfl ?_
    refine xw_getI (pc := 76) (f := 4) (z := ν 200 4) C0 kcX12 dX12_go_76 (by decide) tv_1265 (xj_200 hKL) xk_0 rfl ((xw_un (by decide)).trans rfl) (fun g6 k6 => ?_)
    refine xw_icmp_lt (pc := 79) (tgt := 96) C0 (by omega) (by omega) dX12_go_79 rfl (fun b7 => ?_) (fun b7 => ?_)
    · refine xw_pk [0] (L' := [(0, .ref (xw_ad al 200))]) rfl ?_
      exact ky (by omega)
    · refine xw_pk [0] (L' := [(0, .ref (xw_ad al 200))]) rfl ?_
      exact kx ⟨by omega, by omega⟩
set_option maxRecDepth 20000 in
set_option maxHeartbeats 20000000 in
theorem xr_goD {l : Launch} {p : Program} {e : Env} {s : State} {m : MethodId} {args : Array Value} {below : List Frame} {meth : Method} {c : Code} {Q : State → Prop} {D : va_G} {dA : Nat → ClassId} {A : Nat → Prop} {al : List (Nat × Nat)} (C0 : sa_C p s m args c D dA A 5 vwCl sa_Ts cX12_go yX12_go.cls) (hU : sa_U D vwCl dA s) (hO : tb_Ou A s s.heap) (hKL : al.map Prod.snd = tc_KL) {ν : xw_M} {T9 : Int} (hT9 : 0 ≤ T9 ∧ T9 ≤ 255) (kk : ∀ v9 : Int, ((v9 = 4 ∧ (T9 = 59 ∨ T9 = 60 ∨ T9 = 61 ∨ T9 = 62 ∨ T9 = 40 ∨ T9 = 41)) ∨ (v9 = 1 ∧ ¬ (T9 = 59 ∨ T9 = 60 ∨ T9 = 61 ∨ T9 = 62 ∨ T9 = 40 ∨ T9 = 41))) → xw_W p l e { frames := 3, cells := 0, slots := 0, locals := 141 } s m args below meth c Q D dA A 5 vwCl tb_KT0 al 0 0 ν 179 [(1, .int (Int32.ofInt T9)), (0, .ref (xw_ad al 200))] [.int (Int32.ofInt v9), .ref (xw_ad al 200)]) : xw_W p l e { frames := 3, cells := 0, slots := 0, locals := 141 } s m args below meth c Q D dA A 5 vwCl tb_KT0 al 0 0 ν 137 [(1, .int (Int32.ofInt T9)), (0, .ref (xw_ad al 200))] [] := by
  refine xw_aload_n (pc := 137) C0 1 dX12_go_137 rfl rfl ?_
  refine xw_iload_n (pc := 138) C0 0 dX12_go_138 rfl rfl ?_
  refine xw_bipush (pc := 139) C0 dX12_go_139 (by decide) ?_
  refine xw_icmp_eq (pc := 141) (tgt := 174) C0 (by omega) (by omega) dX12_go_141 rfl (fun b1 => ?_) (fun b1 => ?_)
  · refine xw_iconst (pc := 174) C0 dX12_go_174 ?_
    refine xw_goto (pc := 175) (tgt := 179) C0 dX12_go_175 rfl ?_
    refine xw_pk [0, 1] (L' := [(1, .int (Int32.ofInt T9)), (0, .ref (xw_ad al 200))]) rfl ?_
    exact kk 4 (by omega)
  · refine xw_iload_n (pc := 144) C0 0 dX12_go_144 rfl rfl ?_
    refine xw_bipush (pc := 145) C0 dX12_go_145 (by decide) ?_
    refine xw_icmp_eq (pc := 147) (tgt := 174) C0 (by omega) (by omega) dX12_go_147 rfl (fun b2 => ?_) (fun b2 => ?_)
    · refine xw_iconst (pc := 174) C0 dX12_go_174 ?_
      refine xw_goto (pc := 175) (tgt := 179) C0 dX12_go_175 rfl ?_
      refine xw_pk [0, 1] (L' := [(1, .int (Int32.ofInt T9)), (0, .ref (xw_ad al 200))]) rfl ?_
      exact kk 4 (by omega)
    · refine xw_iload_n (pc := 150) C0 0 dX12_go_150 rfl rfl ?_
      refine xw_bipush (pc := 151) C0 dX12_go_151 (by decide) ?_
      refine xw_icmp_eq (pc := 153) (tgt := 174) C0 (by omega) (by omega) dX12_go_153 rfl (fun b3 => ?_) (fun b3 => ?_)
      · refine xw_iconst (pc := 174) C0 dX12_go_174 ?_
        refine xw_goto (pc := 175) (tgt := 179) C0 dX12_go_175 rfl ?_
        refine xw_pk [0, 1] (L' := [(1, .int (Int32.ofInt T9)), (0, .ref (xw_ad al 200))]) rfl ?_
        exact kk 4 (by omega)
      · refine xw_iload_n (pc := 156) C0 0 dX12_go_156 rfl rfl ?_
        refine xw_bipush (pc := 157) C0 dX12_go_157 (by decide) ?_
        refine xw_icmp_eq (pc := 159) (tgt := 174) C0 (by omega) (by omega) dX12_go_159 rfl (fun b4 => ?_) (fun b4 => ?_)
        · refine xw_iconst (pc := 174) C0 dX12_go_174 ?_
          refine xw_goto (pc := 175) (tgt := 179) C0 dX12_go_175 rfl ?_
          refine xw_pk [0, 1] (L' := [(1, .int (Int32.ofInt T9)), (0, .ref (xw_ad al 200))]) rfl ?_
          exact kk 4 (by omega)
        · refine xw_iload_n (pc := 162) C0 0 dX12_go_162 rfl rfl ?_
          refine xw_bipush (pc := 163) C0 dX12_go_163 (by decide) ?_
          refine xw_icmp_eq (pc := 165) (tgt := 174) C0 (by omega) (by omega) dX12_go_165 rfl (fun b5 => ?_) (fun b5 => ?_)
          · refine xw_iconst (pc := 174) C0 dX12_go_174 ?_
            refine xw_goto (pc := 175) (tgt := 179) C0 dX12_go_175 rfl ?_
            refine xw_pk [0, 1] (L' := [(1, .int (Int32.ofInt T9)), (0, .ref (xw_ad al 200))]) rfl ?_
            exact kk 4 (by omega)
          · refine xw_iload_n (pc := 168) C0 0 dX12_go_168 rfl rfl ?_
            refine xw_bipush (pc := 169) C0 dX12_go_169 (by decide) ?_
            refine xw_icmp_ne (pc := 171) (tgt := 178) C0 (by omega) (by omega) dX12_go_171 rfl (fun b6 => ?_) (fun b6 => ?_)
            · refine xw_iconst (pc := 178) C0 dX12_go_178 ?_
              refine xw_pk [0, 1] (L' := [(1, .int (Int32.ofInt T9)), (0, .ref (xw_ad al 200))]) rfl ?_
              exact kk 1 (by omega)
            · refine xw_iconst (pc := 174) C0 dX12_go_174 ?_
              refine xw_goto (pc := 175) (tgt := 179) C0 dX12_go_175 rfl ?_
              refine xw_pk [0, 1] (L' := [(1, .int (Int32.ofInt T9)), (0, .ref (xw_ad al 200))]) rfl ?_
              exact kk 4 (by omega)
theorem hp_dgA {t : Nat → Int} {i : Nat} (h : ¬ (48 ≤ t i ∧ t i ≤ 57)) : ∀ k : Nat, hp_dg t i (k + 1) ≤ k
  | 0 => by
    rw [hp_dg0 (t := t) (i := i) (k := 0) h]
    exact Nat.le_refl 0
  | k + 1 => by
    have h1 := hp_dgA h k
    by_cases c : 48 ≤ t (i + (k + 1)) ∧ t (i + (k + 1)) ≤ 57
    · rw [hp_dg1 (t := t) (i := i) (k := k + 1) c]
      omega
    · rw [hp_dg0 (t := t) (i := i) (k := k + 1) c]
      omega
theorem hp_dgB {t : Nat → Int} {i : Nat} (h : 48 ≤ t i ∧ t i ≤ 57) : ∀ k : Nat, 1 ≤ hp_dg t i (k + 1)
  | 0 => by
    rw [hp_dg1 (t := t) (i := i) (k := 0) h]
    exact Nat.le_add_left 1 _
  | k + 1 => by
    have h1 := hp_dgB h k
    by_cases c : 48 ≤ t (i + (k + 1)) ∧ t (i + (k + 1)) ≤ 57
    · rw [hp_dg1 (t := t) (i := i) (k := k + 1) c]
      omega
    · rw [hp_dg0 (t := t) (i := i) (k := k + 1) c]
      omega
