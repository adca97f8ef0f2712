section XWM
/-- what class and reference agree in, in numbers -/
noncomputable def xl_Φ0 (μ : xw_M) : Prop := xw_G xw_GL μ ∧ (∀ i : Nat, μ 2 i % 256 = μ 201 i) ∧ μ 1 1 = μ 200 2 ∧ μ 0 14 = μ 200 32
noncomputable def xl_Φ (μ : xw_M) : Prop := xl_Φ0 μ ∧ hx_P μ
noncomputable def xl_I (D : va_G) (dA : Nat → ClassId) (A : Nat → Prop) (al : List (Nat × Nat)) (H : Heap) : Prop := ∃ (w : va_W) (μ : xw_M), va_P D vwCl w H ∧ va_D A w ∧ xw_R dA al tb_KT0 w μ ∧ (∀ (i : Nat) (r : tb_ru), tb_RU0[i]? = some r → tb_rh al w r) ∧ xl_Φ μ
noncomputable def xl_E (al : List (Nat × Nat)) (w : va_W) : tb_E := (al, w, tb_modL, tb_Z0)
theorem xl_1_19 : ∀ q : Nat, tc_KL[q]? = some 19 → q = 1 := by
  intro q h
  have h1 : q < 220 := by
    have := (List.getElem?_eq_some_iff.mp h).1
    have h2 : tc_KL.length = 220 := by decide +kernel
    omega
  have h3 : ∀ q : Fin 220, tc_KL[(q : Nat)]? = some 19 → (q : Nat) = 1 := by decide +kernel
  exact h3 ⟨q, h1⟩ h
theorem xl_1_0 : ∀ q : Nat, tc_KL[q]? = some 0 → q = 200 := by
  intro q h
  have h1 : q < 220 := by
    have := (List.getElem?_eq_some_iff.mp h).1
    have h2 : tc_KL.length = 220 := by decide +kernel
    omega
  have h3 : ∀ q : Fin 220, tc_KL[(q : Nat)]? = some 0 → (q : Nat) = 200 := by decide +kernel
  exact h3 ⟨q, h1⟩ h
theorem xl_1_27 : ∀ q : Nat, tc_KL[q]? = some 27 → q = 0 := by
  intro q h
  have h1 : q < 220 := by
    have := (List.getElem?_eq_some_iff.mp h).1
    have h2 : tc_KL.length = 220 := by decide +kernel
    omega
  have h3 : ∀ q : Fin 220, tc_KL[(q : Nat)]? = some 27 → (q : Nat) = 0 := by decide +kernel
  exact h3 ⟨q, h1⟩ h
noncomputable def xl_Uz (z0 z1 : Int) (k : Nat) : Int := if k = 13 then tb_KB + 19 else if k = 14 then tb_KB + 0 else if k = 15 then tb_KB + 27 else if k = 16 then z0 else if k = 17 then z1 else 0
noncomputable def xl_Ua (a13 a14 a15 k : Nat) : Nat := if k = 13 then a13 else if k = 14 then a14 else if k = 15 then a15 else 0
noncomputable def xl_Uv (z0 z1 : Int) (a13 a14 a15 : Nat) : sa_V := fun k => (xl_Uz z0 z1 k, Int64.ofInt (xl_Uz z0 z1 k), fun _ => 0, xl_Ua a13 a14 a15 k)
theorem xl_h1 (z0 z1 : Int) (a13 a14 a15 : Nat) (g0 : 0 ≤ z0 ∧ z0 ≤ 940) (g1 : -2147483648 ≤ z1 ∧ z1 ≤ 2147483647) : ∀ (j : Nat) (q : Int × Int), tl_R9[j]? = some q → q.1 ≤ (xl_Uv z0 z1 a13 a14 a15 (13 + j)).1 ∧ (xl_Uv z0 z1 a13 a14 a15 (13 + j)).1 ≤ q.2 := by
  intro j q hq
  match j, hq with
  | 0, hq => cases hq; exact ⟨Int.le_refl _, Int.le_refl _⟩
  | 1, hq => cases hq; exact ⟨Int.le_refl _, Int.le_refl _⟩
  | 2, hq => cases hq; exact ⟨Int.le_refl _, Int.le_refl _⟩
  | 3, hq => cases hq; exact g0
  | 4, hq => cases hq; exact g1
  | j + 5, hq => simp [tl_R9] at hq
theorem xl_h2 {al : List (Nat × Nat)} (z0 z1 : Int) (a13 a14 a15 k : Nat) (g0 : z0 ≤ 2147483647) (g1 : z1 ≤ 2147483647) (m13 : al[1]? = some (a13, 19)) (m14 : al[200]? = some (a14, 0)) (m15 : al[0]? = some (a15, 27)) (hk : tb_KB ≤ (xl_Uv z0 z1 a13 a14 a15 k).1) : ∃ j : Nat, al[j]? = some (sa_ad (xl_Uv z0 z1 a13 a14 a15) k, ((xl_Uv z0 z1 a13 a14 a15 k).1 - tb_KB).toNat) := by
  by_cases k13 : k = 13
  · subst k13
    exact ⟨1, m13⟩
  by_cases k14 : k = 14
  · subst k14
    exact ⟨200, m14⟩
  by_cases k15 : k = 15
  · subst k15
    exact ⟨0, m15⟩
  exfalso
  have hk : tb_KB ≤ xl_Uz z0 z1 k := hk
  unfold xl_Uz tb_KB at hk
  rw [if_neg k13, if_neg k14, if_neg k15] at hk
  split at hk
  · omega
  split at hk
  · omega
  omega
theorem xl_U {dA : Nat → ClassId} {al : List (Nat × Nat)} {w : va_W} {μ : xw_M} (hKL : al.map Prod.snd = tc_KL) (hR : xw_R dA al tb_KT0 w μ) (h3 : ∀ κ : Nat, tb_sg (xl_E al w) κ = true → ∀ (i j a b : Nat), al[i]? = some (a, κ) → al[j]? = some (b, κ) → i = j) (hΦ : xl_Φ μ) : ∃ U : sa_V, (∀ (j : Nat) (q : Int × Int), tl_R9[j]? = some q → q.1 ≤ (U (13 + j)).1 ∧ (U (13 + j)).1 ≤ q.2) ∧ (U 0).1 = 0 ∧ tb_X (xl_E al w) U ∧ ∀ f ∈ tl_F9, tb_fa U w f := by
  have m13 : al[1]? = some (xw_ad al 1, 19) := xw_al hKL (by decide +kernel)
  have m14 : al[200]? = some (xw_ad al 200, 0) := xw_al hKL (by decide +kernel)
  have m15 : al[0]? = some (xw_ad al 0, 27) := xw_al hKL (by decide +kernel)
  obtain ⟨⟨-, -, e0, e1⟩, -⟩ := hΦ
  obtain ⟨t0, u0, v0⟩ := xl_at (i := 1) hR m13 xk_19 (show tb_ty _ 1 = some (0, _, _) from rfl)
  obtain ⟨t1, u1, v1⟩ := xl_at (i := 2) hR m14 xk_0 (show tb_ty _ 2 = some (0, _, _) from rfl)
  obtain ⟨t2, u2, v2⟩ := xl_at (i := 14) hR m15 xk_27 (show tb_ty _ 14 = some (0, _, _) from rfl)
  obtain ⟨t3, u3, v3⟩ := xl_at (i := 32) hR m14 xk_0 (show tb_ty _ 32 = some (0, _, _) from rfl)
  refine ⟨(xl_Uv (μ 1 1) (μ 0 14) (xw_ad al 1) (xw_ad al 200) (xw_ad al 0)), xl_h1 (μ 1 1) (μ 0 14) (xw_ad al 1) (xw_ad al 200) (xw_ad al 0) ⟨by omega, by omega⟩ ⟨by omega, by omega⟩, rfl, ⟨fun k => rfl, fun k hk => xl_h2 (μ 1 1) (μ 0 14) (xw_ad al 1) (xw_ad al 200) (xw_ad al 0) k (by omega) (by omega) m13 m14 m15 hk, h3⟩, fun f hf => ?_⟩
  simp only [tl_F9, List.mem_cons, List.not_mem_nil, or_false] at hf
  rcases hf with rfl | rfl | rfl | rfl
  · refine ⟨show (0 : Int) ≤ 0 + 1 by decide, ?_⟩
    show tb_at w (xw_ad al 1) 1 (.int (Int32.ofInt (μ 1 1 + 0)))
    rw [Int.add_zero]; exact t0
  · refine ⟨show (0 : Int) ≤ 0 + 2 by decide, ?_⟩
    rw [← e0] at t1; show tb_at w (xw_ad al 200) 2 (.int (Int32.ofInt (μ 1 1 + 0)))
    rw [Int.add_zero]; exact t1
  · refine ⟨show (0 : Int) ≤ 0 + 14 by decide, ?_⟩
    show tb_at w (xw_ad al 0) 14 (.int (Int32.ofInt (μ 0 14 + 0)))
    rw [Int.add_zero]; exact t2
  · refine ⟨show (0 : Int) ≤ 0 + 32 by decide, ?_⟩
    rw [← e1] at t3; show tb_at w (xw_ad al 200) 32 (.int (Int32.ofInt (μ 0 14 + 0)))
    rw [Int.add_zero]; exact t3
theorem xl_fv {dA : Nat → ClassId} {A : Nat → Prop} {al : List (Nat × Nat)} {KT : List tb_kd} {KL : List Nat} {w : va_W} {μ : xw_M} {E : tb_E} {U : sa_V} (hD : va_D A w) (hR : xw_R dA al KT w μ) (hKL : al.map Prod.snd = KL) (hE : tb_al E = al) (hX : tb_X E U) (h0 : (U 0).1 = 0) {k v i κ j : Nat} (hk : (U k).1 = tb_KB + (κ : Int)) (h1 : ∀ q : Nat, KL[q]? = some κ → q = j) {kd : tb_kd} {lo hi : Int} (hKT : KT[κ]? = some kd) (hty : tb_ty kd i = some (0, lo, hi)) (hf : tb_fa U w (k, (0, (i : Int)), .inl (v, 0))) : (sa_i U (v, 0)).toInt = μ j i := by
  obtain ⟨q, hq⟩ := hX.2.1 k (by rw [hk]; omega)
  rw [hk, show (tb_KB + (κ : Int) - tb_KB).toNat = κ by omega, hE] at hq
  have e9 := xl_one hKL h1 hq
  subst e9
  have hf2 : tb_at w (sa_ad U k) (tb_ix U (0, (i : Int))).toNat (.int (sa_i U (v, 0))) := hf.2
  rw [show (tb_ix U (0, (i : Int))).toNat = i by show ((U 0).1 + (i : Int)).toNat = i; rw [h0]; omega] at hf2
  exact xl_ad hD hR hq hKT hty hf2
theorem xl_mdn {mod : List (Nat × Nat × Nat)} {κ : Nat} (h : mod.all (fun q => !(Nat.beq q.1 κ)) = true) (i : Nat) : tb_md mod κ i = false := by
  unfold tb_md
  rw [List.any_eq_false]
  intro q hq h2
  have h1 := List.all_eq_true.mp h q hq
  have h3 := (of_decide_eq_true h2).1
  rw [h3, Nat.beq_refl] at h1
  cases h1
theorem xl_md2 : ∀ κ : Nat, tc_KL[2]? = some κ → ∀ i : Nat, tb_md tb_modL κ i = false := by
  intro κ h i
  have e9 : tc_KL[2]? = some 22 := by decide +kernel
  rw [e9] at h
  cases h
  exact xl_mdn (by decide +kernel) i
theorem xl_md201 : ∀ κ : Nat, tc_KL[201]? = some κ → ∀ i : Nat, tb_md tb_modL κ i = false := by
  intro κ h i
  have e9 : tc_KL[201]? = some 2 := by decide +kernel
  rw [e9] at h
  cases h
  exact xl_mdn (by decide +kernel) i
theorem xl_mdG : xw_GL.all (fun q => match tc_KL[q.1]? with
  | some κ => !(tb_md tb_modL κ q.2.1)
  | none => false) = true := by decide +kernel
theorem xl_kq {j κ0 : Nat} {P : Nat → Prop} (h : tc_KL[j]? = some κ0) (hp : P κ0) : ∀ κ : Nat, tc_KL[j]? = some κ → P κ := fun κ q => by
  rw [h] at q
  cases q
  exact hp
noncomputable def xl_mc (mod : List (Nat × Nat × Nat)) (j : Nat) : Bool := match tc_KL[j]? with
  | some κ => mod.all (fun q => !(Nat.beq q.1 κ))
  | none => true
theorem xl_mdR {a : Nat} (h : ∀ d : Fin 14, xl_mc tb_modL (a + (d : Nat)) = true) {j κ : Nat} (h1 : a ≤ j) (h2 : j ≤ a + 13) (hκ : tc_KL[j]? = some κ) (i : Nat) : tb_md tb_modL κ i = false := by
  have q : xl_mc tb_modL (a + (j - a)) = true := h ⟨j - a, by omega⟩
  rw [show a + (j - a) = j by omega] at q
  unfold xl_mc at q
  rw [hκ] at q
  exact xl_mdn q i
theorem xl_mdA : ∀ k : Fin 77, tb_md tb_modL 1 (k : Nat) = false := by decide +kernel
theorem xl_mdB : ∀ k : Fin 77, tb_md tb_modL 10 (k : Nat) = false := by decide +kernel
theorem xl_mdC : ∀ k : Fin 77, tb_md tb_modL 10 ((k : Nat) + 379) = false := by decide +kernel
theorem xl_mdD4 : ∀ d : Fin 14, xl_mc tb_modL (4 + (d : Nat)) = true := by decide +kernel
theorem xl_mdD147 : ∀ d : Fin 14, xl_mc tb_modL (147 + (d : Nat)) = true := by decide +kernel
theorem xl_mdD174 : ∀ d : Fin 14, xl_mc tb_modL (174 + (d : Nat)) = true := by decide +kernel
theorem xl_mdE : tb_md tb_modL 25 3 = false ∧ tb_md tb_modL 26 3 = false ∧ tb_md tb_modL 81 0 = false ∧ tb_md tb_modL 81 1 = false := by decide +kernel
theorem xl_mdN : ∀ k : Fin 14, tb_md tb_modL 78 (k : Nat) = false := by decide +kernel
theorem xl_mdM : ∀ k : Fin 28, tb_md tb_modL 80 (k : Nat) = false := by decide +kernel
theorem xl_back {D : va_G} {dA : Nat → ClassId} {A : Nat → Prop} {al : List (Nat × Nat)} {w : va_W} {μ : xw_M} {H : Heap} {V : sa_V} {cs : tb_c} {G : sa_B} {g : Nat → Nat × Int} (hKL : al.map Prod.snd = tc_KL) (hR : xw_R dA al tb_KT0 w μ) (hΦ : xl_Φ μ) (hI : sa_I V G) (hX : tb_X (xl_E al w) V) (hN : tb_N D dA A vwCl (xl_E al w) V cs H) (hop : cs.2.1 = []) (h : tb_fit tb_Z0 (tb_gn (tl_G9 (-2147483648) 2147483647).length g) [] [] tl_F9 [] (tl_G9 (-2147483648) 2147483647) cs G = true) : xl_I D dA A al H := by
  obtain ⟨w2, n1, n2, n3, n4, n5, n6, n7⟩ := hN
  obtain ⟨f1, f2, -, f4, -⟩ := tb_fit_ok (E := xl_E al w) rfl hI hX n5 n7 h
  generalize tb_pl V (tb_gn (tl_G9 (-2147483648) 2147483647).length g) = U at f1 f2 f4
  obtain ⟨μ2, hR2, hF⟩ := xw_next (mod := tb_modL) hR n3 n4
  have hb : ∀ (j : Nat) (q : Int × Int), tl_R9[j]? = some q → q.1 ≤ (U (13 + j)).1 ∧ (U (13 + j)).1 ≤ q.2 := by
    intro j q hq
    refine f1.1 (13 + j) q ?_
    unfold tl_G9
    rw [List.getElem?_append_right (show (tl_G (-2147483648) 2147483647).length ≤ 13 + j from Nat.le_add_right 13 j)]
    show tl_R9[13 + j - 13]? = some q
    rw [Nat.add_sub_cancel_left]
    exact hq
  have k13 : (U 13).1 = tb_KB + ((19 : Nat) : Int) := by
    have q9 : (1180591620717411303424 + 19 : Int) ≤ (U 13).1 ∧ (U 13).1 ≤ 1180591620717411303424 + 19 := hb 0 (1180591620717411303424 + 19, 1180591620717411303424 + 19) rfl
    have q8 : tb_KB = 1180591620717411303424 := rfl
    omega
  have k14 : (U 14).1 = tb_KB + ((0 : Nat) : Int) := by
    have q9 : (1180591620717411303424 + 0 : Int) ≤ (U 14).1 ∧ (U 14).1 ≤ 1180591620717411303424 + 0 := hb 1 (1180591620717411303424 + 0, 1180591620717411303424 + 0) rfl
    have q8 : tb_KB = 1180591620717411303424 := rfl
    omega
  have k15 : (U 15).1 = tb_KB + ((27 : Nat) : Int) := by
    have q9 : (1180591620717411303424 + 27 : Int) ≤ (U 15).1 ∧ (U 15).1 ≤ 1180591620717411303424 + 27 := hb 2 (1180591620717411303424 + 27, 1180591620717411303424 + 27) rfl
    have q8 : tb_KB = 1180591620717411303424 := rfl
    omega
  have y0 := xl_fv (i := 1) (v := 16) n2 hR2 hKL rfl f2 f1.2 k13 xl_1_19 xk_19 (show tb_ty _ 1 = some (0, _, _) from rfl) (f4 _ (by first | (simp [tl_F9]; done) | (unfold tl_F9; decide)))
  have y1 := xl_fv (i := 2) (v := 16) n2 hR2 hKL rfl f2 f1.2 k14 xl_1_0 xk_0 (show tb_ty _ 2 = some (0, _, _) from rfl) (f4 _ (by first | (simp [tl_F9]; done) | (unfold tl_F9; decide)))
  have y2 := xl_fv (i := 14) (v := 17) n2 hR2 hKL rfl f2 f1.2 k15 xl_1_27 xk_27 (show tb_ty _ 14 = some (0, _, _) from rfl) (f4 _ (by first | (simp [tl_F9]; done) | (unfold tl_F9; decide)))
  have y3 := xl_fv (i := 32) (v := 17) n2 hR2 hKL rfl f2 f1.2 k14 xl_1_0 xk_0 (show tb_ty _ 32 = some (0, _, _) from rfl) (f4 _ (by first | (simp [tl_F9]; done) | (unfold tl_F9; decide)))
  have hm : ∀ j i : Nat, (∀ κ : Nat, tc_KL[j]? = some κ → tb_md tb_modL κ i = false) → μ2 j i = μ j i := fun j i hq => hF j i (fun a κ q => hq κ (by rw [← hKL, List.getElem?_map, q]; rfl))
  refine ⟨w2, μ2, n1, n2, hR2, fun i r hr => n6 i r hr (by rw [hop]; exact List.not_mem_nil), ⟨?_, fun i => ?_, y0.symm.trans y1, y2.symm.trans y3⟩, hx_PF hΦ.2 (fun k hk => hm 202 k (xl_kq (P := fun κ => tb_md tb_modL κ k = false) (show tc_KL[202]? = some 1 by decide +kernel) (xl_mdA ⟨k, hk⟩))) (fun k hk => hm 204 k (xl_kq (P := fun κ => tb_md tb_modL κ k = false) (show tc_KL[204]? = some 10 by decide +kernel) (xl_mdB ⟨k, hk⟩))) (fun k hk => hm 204 (k + 379) (xl_kq (P := fun κ => tb_md tb_modL κ (k + 379) = false) (show tc_KL[204]? = some 10 by decide +kernel) (xl_mdC ⟨k, hk⟩))) (fun j i h1 h2 => hm j i (fun κ hκ => xl_mdR xl_mdD4 h1 h2 hκ i)) (fun j i h1 h2 => hm j i (fun κ hκ => xl_mdR xl_mdD147 h1 h2 hκ i)) (fun j i h1 h2 => hm j i (fun κ hκ => xl_mdR xl_mdD174 h1 h2 hκ i)) (fun k hk => hm 207 k (xl_kq (P := fun κ => tb_md tb_modL κ k = false) (show tc_KL[207]? = some 78 by decide +kernel) (xl_mdN ⟨k, hk⟩))) (fun k hk => hm 209 k (xl_kq (P := fun κ => tb_md tb_modL κ k = false) (show tc_KL[209]? = some 80 by decide +kernel) (xl_mdM ⟨k, by omega⟩))) (fun k hk => hm 209 (k + 14) (xl_kq (P := fun κ => tb_md tb_modL κ (k + 14) = false) (show tc_KL[209]? = some 80 by decide +kernel) (xl_mdM ⟨k + 14, by omega⟩))) ⟨hm 146 3 (xl_kq (P := fun κ => tb_md tb_modL κ 3 = false) (show tc_KL[146]? = some 25 by decide +kernel) xl_mdE.1), hm 173 3 (xl_kq (P := fun κ => tb_md tb_modL κ 3 = false) (show tc_KL[173]? = some 26 by decide +kernel) xl_mdE.2.1), hm 210 0 (xl_kq (P := fun κ => tb_md tb_modL κ 0 = false) (show tc_KL[210]? = some 81 by decide +kernel) xl_mdE.2.2.1), hm 210 1 (xl_kq (P := fun κ => tb_md tb_modL κ 1 = false) (show tc_KL[210]? = some 81 by decide +kernel) xl_mdE.2.2.2)⟩⟩
  · intro q hq
    rw [← hΦ.1.1 q hq]
    refine hm _ _ (fun κ hκ => ?_)
    have h9 := List.all_eq_true.mp xl_mdG q hq
    simp only [hκ] at h9
    simpa using h9
  · rw [hm 2 i (fun κ hκ => xl_md2 κ hκ i), hm 201 i (fun κ hκ => xl_md201 κ hκ i)]
    exact hΦ.1.2.1 i
noncomputable def xl_leaf0 (S : tb_S) : Bool := ((Nat.beq S.1 23 && (decide (S.2.2.2.2.2.1 ≤ 1) && (decide (S.2.2.2.2.2.2 ≤ 6) && decide (sa_look 4 S.2.1 = some (.inl (3, 6)))))) || ((Nat.beq S.1 220 || (Nat.beq S.1 865 || (Nat.beq S.1 318 || (Nat.beq S.1 1269 || (Nat.beq S.1 1294 || Nat.beq S.1 1231))))) && (decide (S.2.2.2.2.2.1 = 0) && (decide (S.2.2.2.2.2.2 = 0) && decide (sa_look 4 S.2.1 = some (.inl (3, 0))))))) && (decide (S.2.2.1 = []) && (decide (S.2.2.2.1.2.1 = []) && (decide (sa_look 0 S.2.1 = some (.inr (.inl (some 1)))) && (decide (sa_look 1 S.2.1 = some (.inr (.inl (some 10)))) && (decide (sa_look 2 S.2.1 = some (.inr (.inl (some 11)))) && (decide (sa_look 3 S.2.1 = some (.inr (.inl (some 12)))) && (tb_tab (tl_G9 (-2147483648) 2147483647).length 16 (tb_bind tb_Z0 16 [] [] tl_F9 S.2.2.2.1.1 S.2.2.2.2.1) (fun g => tb_fit tb_Z0 g [] [] tl_F9 [] (tl_G9 (-2147483648) 2147483647) S.2.2.2.1 S.2.2.2.2.1))))))))
noncomputable def xl_leaf (S : tb_S) : Bool := tb_ent S.2.2.2.2.1 S.2.2.2.1.2.2 2 [] (-1) || xl_leaf0 S
set_option maxHeartbeats 4000000 in
set_option maxRecDepth 100000 in
theorem xl_loop {p : Program} {l : Launch} {e : Env} {s : State} {m : MethodId} {below : List Frame} {meth : Method} {c : Code} {D : va_G} {dA : Nat → ClassId} {b L : Nat} {xs : Nat → Int32} {al : List (Nat × Nat)} {kc0 ks0 ax am ao jx jm jo : Nat} {tab : List (Nat × tb_op)} (hKL : al.map Prod.snd = tc_KL) (hL : L ≤ 3072) (hk0 : kc0 ≤ 1000) (hs0 : ks0 ≤ 20000) (C0 : sa_C p s m #[Value.ref b] c D dA (fun q : Nat => s.heap.size ≤ q) 7 vwCl sa_Ts code R_law) (hr : meth.sig.returnType = ret) (hlocks : meth.locks = false) (hX : va_X b L xs s s.heap) (hbl : b < s.heap.size)
    (h3 : ∀ (w : va_W) (κ : Nat), tb_sg (xl_E al w) κ = true → ∀ (i j a b : Nat), al[i]? = some (a, κ) → al[j]? = some (b, κ) → i = j) (ex : al[jx]? = some (ax, 27)) (em : al[jm]? = some (am, 0)) (eo : al[jo]? = some (ao, 87))
    (hrows : ∀ (w : va_W) (i : Nat), i + 6 ≤ L → ∀ q ∈ tab, tb_sndU p l e room_1 s m #[Value.ref b] below meth c (lw_Z below #[Value.ref b] s) D dA (fun q : Nat => s.heap.size ≤ q) 7 vwCl 13 (tb_VL b L i xs ax am ao) (xl_E al w) 2000 40000 q.1 q.2)
    (hsp : ∀ (pc i kc ks : Nat), (pc = 220 ∨ pc = 865 ∨ pc = 318 ∨ pc = 1269 ∨ pc = 1294 ∨ pc = 1231) → i + 6 ≤ L → kc ≤ 2000 → ks ≤ 40000 → (∀ (H : Heap) (locs : List Loc) (ls : Array Slot), lv_has ls 7 [(0, .ref b), (1, .ref ax), (2, .ref am), (3, .ref ao), (4, .int (Int32.ofInt ((i + 6 : Nat) : Int)))] → xl_I D dA (fun q : Nat => s.heap.size ≤ q) al H → va_S (fun q : Nat => s.heap.size ≤ q) s.heap H locs → W p l e room_1 s m #[Value.ref b] below meth c H locs (kc + 1) (ks + 6) (lw_Z below #[Value.ref b] s) (F0 m 23 ls [])) → ∀ (H : Heap) (locs : List Loc) (ls : Array Slot), lv_has ls 7 [(0, .ref b), (1, .ref ax), (2, .ref am), (3, .ref ao), (4, .int (Int32.ofInt (i : Int)))] → xl_I D dA (fun q : Nat => s.heap.size ≤ q) al H → va_S (fun q : Nat => s.heap.size ≤ q) s.heap H locs → W p l e room_1 s m #[Value.ref b] below meth c H locs kc ks (lw_Z below #[Value.ref b] s) (F0 m pc ls []))
    (hr0 : tb_run (fun pc => tb_as pc tab) xl_leaf 3000 (tl_S33 (-2147483648) (-1)) = true) (hr1 : tb_run (fun pc => tb_as pc tab) xl_leaf 3000 (tl_S33 0 0) = true) (hr2 : tb_run (fun pc => tb_as pc tab) xl_leaf 3000 (tl_S33 1 1) = true) (hr3 : tb_run (fun pc => tb_as pc tab) xl_leaf 3000 (tl_S33 2 2147483647) = true) :
    ∀ (N i n : Nat), 3072 < N + i → i ≤ 3072 → n * 6 ≤ i → ∀ (H : Heap) (locs : List Loc) (ls : Array Slot), lv_has ls 7 [(0, .ref b), (1, .ref ax), (2, .ref am), (3, .ref ao), (4, .int (Int32.ofInt (i : Int)))] → xl_I D dA (fun q : Nat => s.heap.size ≤ q) al H → va_S (fun q : Nat => s.heap.size ≤ q) s.heap H locs → W p l e room_1 s m #[Value.ref b] below meth c H locs (0 + (kc0 + n)) (0 + (ks0 + n * 6)) (lw_Z below #[Value.ref b] s) (F0 m 23 ls []) := by
  obtain ⟨hx, hb, hts, hown, hml, hK, hA⟩ := id C0
  have hnA : ¬ (fun q : Nat => s.heap.size ≤ q) b := Nat.not_le.mpr hbl
  intro N
  induction N with
  | zero => intro i n h1 h2; omega
  | succ N ih =>
    intro i n h1 h2 hn H locs ls hlv hN hS
    have l0 : ls[0]? = some (.val (.ref b)) := hlv.2.2 (0, .ref b) List.mem_cons_self
    have l1 : ls[1]? = some (.val (.ref ax)) := hlv.2.2 (1, .ref ax) (List.mem_cons_of_mem _ List.mem_cons_self)
    have l2 : ls[2]? = some (.val (.ref am)) := hlv.2.2 (2, .ref am) (List.mem_cons_of_mem _ (List.mem_cons_of_mem _ List.mem_cons_self))
    have l3 : ls[3]? = some (.val (.ref ao)) := hlv.2.2 (3, .ref ao) (List.mem_cons_of_mem _ (List.mem_cons_of_mem _ (List.mem_cons_of_mem _ List.mem_cons_self)))
    have l4 : ls[4]? = some (.val (.int (Int32.ofInt (i : Int)))) := hlv.2.2 (4, .int (Int32.ofInt (i : Int))) (List.mem_cons_of_mem _ (List.mem_cons_of_mem _ (List.mem_cons_of_mem _ (List.mem_cons_of_mem _ List.mem_cons_self))))
    have ti : (Int32.ofInt (i : Int)).toInt = (i : Int) := sa_ofInt_toInt (by omega) (by omega)
    have tL : (Int32.ofNat L - 6).toInt = (L : Int) - 6 := by
      have e6 : (6 : Int32) = Int32.ofInt 6 := rfl
      rw [← Int32.ofInt_eq_ofNat, e6, ← Int32.ofInt_sub, sa_ofInt_toInt (by omega) (by omega)]
    refine lv_iload hx hb dL_law_23 l4 ?_
    refine lv_aload_n hx hb dL_law_25 rfl l0 ?_
    refine va_slen hx hb hX hbl hnA hS dL_law_26 ?_
    refine lv_bipush (v := 6) hx hb dL_law_27 (by decide) ?_
    refine lv_isub hx hb dL_law_29 ?_
    refine lv_icmp_gt (tgt := 1350) hx hb dL_law_30 rfl (fun _ => ?_) (fun hlt => ?_)
    · refine lv_iconst (v := 1) hx hb dL_law_1350 rfl ?_
      refine va_forget (fun q hq => hS.2.2 q hq) ?_
      refine W.widen (k := 601024) (n := 7293034) (by omega) (by omega) ?_
      exact lw_ret hx hb hr hlocks dL_law_1351
    · rw [Int32.lt_iff_toInt_lt, tL, ti] at hlt
      have hi6 : i + 6 ≤ L := by omega
      obtain ⟨w, μ, hP, hD, hR, hru, hΦ⟩ := hN
      have hXV : tb_X (xl_E al w) (tb_VL b L i xs ax am ao) := by
        refine ⟨fun k => rfl, fun k hk => ?_, h3 w⟩
        have hk : tb_KB ≤ tl_z L i xs k := hk
        show ∃ j : Nat, al[j]? = some (tl_a b ax am ao k, (tl_z L i xs k - tb_KB).toNat)
        have hKB : tb_KB = 1180591620717411303424 := rfl
        by_cases k10 : k = 10
        · subst k10
          exact ⟨jx, ex⟩
        · by_cases k11 : k = 11
          · subst k11
            exact ⟨jm, em⟩
          · by_cases k12 : k = 12
            · subst k12
              exact ⟨jo, eo⟩
            · exfalso
              unfold tl_z at hk
              rw [hKB] at hk
              split at hk
              · omega
              · split at hk
                · omega
                · split at hk
                  · have := Int32.toInt_lt (xs (i + (k - 4)))
                    simp at this
                    omega
                  · omega
      have hI : ∀ a c9 : Int, a ≤ (xs (i + 1)).toInt → (xs (i + 1)).toInt ≤ c9 → sa_I (tb_VL b L i xs ax am ao) (tl_G a c9) := by
        intro a c9 ha hc
        have hx9 : ∀ x : Int32, (-2147483648 : Int) ≤ x.toInt ∧ x.toInt ≤ 2147483647 := fun x => sa_is_top (tb_VL b L i xs ax am ao) x
        refine ⟨fun k q hq => ?_, rfl⟩
        match k, hq with
        | 0, hq => cases hq; exact ⟨Int.le_refl _, Int.le_refl _⟩
        | 1, hq => cases hq; exact ⟨Int.le_refl _, Int.le_refl _⟩
        | 2, hq => cases hq; exact ⟨by show (6 : Int) ≤ (L : Int); omega, by show (L : Int) ≤ 3072; omega⟩
        | 3, hq => cases hq; exact ⟨by show (0 : Int) ≤ (i : Int); omega, by show (i : Int) ≤ 3066; omega⟩
        | 4, hq => cases hq; exact hx9 _
        | 5, hq => cases hq; exact ⟨ha, hc⟩
        | 6, hq => cases hq; exact hx9 _
        | 7, hq => cases hq; exact hx9 _
        | 8, hq => cases hq; exact hx9 _
        | 9, hq => cases hq; exact hx9 _
        | 10, hq => cases hq; exact ⟨Int.le_refl _, Int.le_refl _⟩
        | 11, hq => cases hq; exact ⟨Int.le_refl _, Int.le_refl _⟩
        | 12, hq => cases hq; exact ⟨Int.le_refl _, Int.le_refl _⟩
        | k + 13, hq => simp [tl_G] at hq
      have body : ∀ a c9 : Int, a ≤ (xs (i + 1)).toInt → (xs (i + 1)).toInt ≤ c9 → tb_run (fun pc => tb_as pc tab) xl_leaf 3000 (tl_S33 a c9) = true → W p l e room_1 s m #[Value.ref b] below meth c H locs (0 + (kc0 + n)) (0 + (ks0 + n * 6)) (lw_Z below #[Value.ref b] s) (F0 m 33 ls []) := by
        intro a c9 ha hc hrun
        have hW := tl_run_ok (p := p) (l := l) (e := e) (R := room_1) (s := s) (m := m) (args := #[Value.ref b]) (below := below) (meth := meth) (c := c) (Q := lw_Z below #[Value.ref b] s) (D := D) (dA := dA) (A := fun q : Nat => s.heap.size ≤ q) (nL := 7) (cl := vwCl) (n0 := 13) (V0 := tb_VL b L i xs ax am ao) (E := xl_E al w) (B := 2000) (BS := 40000) (b := kc0 + n) (bs := ks0 + n * 6) (by omega) (by omega) (fun pc op h => hrows w i hi6 (pc, op) (tb_as_mem h)) (fun S hS9 => by
          unfold xl_leaf at hS9
          rw [Bool.or_eq_true] at hS9
          rcases hS9 with hS9 | hS9
          · intro V2 H2 locs2 ls2 hG2
            obtain ⟨w9, n1, n2, n3, n4, n5, n6, n7⟩ := hG2.2.2.1
            have h9 := tb_ent_ok hG2.1.1 n7 2 [] (-1) hS9
            have h9 : (0 : Int) ≤ -1 := h9
            exact absurd h9 (by decide)
          · obtain ⟨pc, lo, st, cs, G, kc, ks⟩ := S
            simp only [xl_leaf0, Bool.and_eq_true, Bool.or_eq_true, decide_eq_true_eq] at hS9
            obtain ⟨qq, q2, q3, q6, q7, q8, q9, q11⟩ := hS9
            subst q2
            intro V2 H2 locs2 ls2 hG2
            have hG2 : tb_G D dA (fun q : Nat => s.heap.size ≤ q) 7 vwCl 13 (tb_VL b L i xs ax am ao) (xl_E al w) s.heap V2 lo cs G H2 locs2 ls2 := hG2
            have a0 := sa_look_at hG2.2.1 q6
            have a1 := sa_look_at hG2.2.1 q7
            have a2 := sa_look_at hG2.2.1 q8
            have a3 := sa_look_at hG2.2.1 q9
            have z0 : sa_val V2 (.inr (.inl (some 1))) = .ref b := by
              show Value.ref (V2 1).2.2.2 = _
              rw [hG2.1.2.2 1 (by decide)]
              rfl
            have z1 : sa_val V2 (.inr (.inl (some 10))) = .ref ax := by
              show Value.ref (V2 10).2.2.2 = _
              rw [hG2.1.2.2 10 (by decide)]
              rfl
            have z2 : sa_val V2 (.inr (.inl (some 11))) = .ref am := by
              show Value.ref (V2 11).2.2.2 = _
              rw [hG2.1.2.2 11 (by decide)]
              rfl
            have z3 : sa_val V2 (.inr (.inl (some 12))) = .ref ao := by
              show Value.ref (V2 12).2.2.2 = _
              rw [hG2.1.2.2 12 (by decide)]
              rfl
            rw [z0] at a0
            rw [z1] at a1
            rw [z2] at a2
            rw [z3] at a3
            rw [tb_tab_eq] at q11
            have hI2 := xl_back hKL hR hΦ hG2.1.1 hG2.2.2.2.1 hG2.2.2.1 q3 q11
            have hlv : ∀ x : Value, ls2[4]? = some (.val x) → lv_has ls2 7 [(0, .ref b), (1, .ref ax), (2, .ref am), (3, .ref ao), (4, x)] := fun x hx => ⟨hG2.2.1.1, hG2.2.1.2.1, by
              intro q hq
              simp only [List.mem_cons, List.not_mem_nil, or_false] at hq
              rcases hq with rfl | rfl | rfl | rfl | rfl
              · exact a0
              · exact a1
              · exact a2
              · exact a3
              · exact hx⟩
            have hgo : ∀ (H : Heap) (locs : List Loc) (ls : Array Slot), lv_has ls 7 [(0, .ref b), (1, .ref ax), (2, .ref am), (3, .ref ao), (4, .int (Int32.ofInt ((i + 6 : Nat) : Int)))] → xl_I D dA (fun q : Nat => s.heap.size ≤ q) al H → va_S (fun q : Nat => s.heap.size ≤ q) s.heap H locs → W p l e room_1 s m #[Value.ref b] below meth c H locs (0 + (kc0 + (n + 1))) (0 + (ks0 + (n + 1) * 6)) (lw_Z below #[Value.ref b] s) (F0 m 23 ls []) := fun H9 locs9 ls9 g1 g2 g3 => ih (i + 6) (n + 1) (by omega) (by omega) (by omega) H9 locs9 ls9 g1 g2 g3
            rcases qq with ⟨q1, q4, q5, q10⟩ | ⟨q1, q4, q5, q10⟩
            · have q1 : pc = 23 := Nat.eq_of_beq_eq_true q1
              subst q1
              have a4 := sa_look_at hG2.2.1 q10
              have z4 : sa_val V2 (.inl (3, 6)) = .int (Int32.ofInt ((i + 6 : Nat) : Int)) := by
                show Value.int (Int32.ofInt ((V2 3).1 + 6)) = _
                rw [hG2.1.2.2 3 (by decide)]
                show Value.int (Int32.ofInt ((i : Int) + 6)) = _
                rw [show ((i + 6 : Nat) : Int) = (i : Int) + 6 by omega]
              rw [z4] at a4
              have q4 : kc ≤ 1 := q4
              have q5 : ks ≤ 6 := q5
              show W p l e room_1 s m #[Value.ref b] below meth c H2 locs2 (kc + (kc0 + n)) (ks + (ks0 + n * 6)) (lw_Z below #[Value.ref b] s) (F0 m 23 ls2 [])
              refine W.widen (k := 0 + (kc0 + (n + 1))) (n := 0 + (ks0 + (n + 1) * 6)) (by omega) (by omega) ?_
              exact hgo H2 locs2 ls2 (hlv _ a4) hI2 hG2.2.2.2.2
            · have a4 := sa_look_at hG2.2.1 q10
              have z4 : sa_val V2 (.inl (3, 0)) = .int (Int32.ofInt (i : Int)) := by
                show Value.int (Int32.ofInt ((V2 3).1 + 0)) = _
                rw [hG2.1.2.2 3 (by decide)]
                show Value.int (Int32.ofInt ((i : Int) + 0)) = _
                rw [Int.add_zero]
              rw [z4] at a4
              have q4 : kc = 0 := q4
              have q5 : ks = 0 := q5
              subst q4 q5
              have hpc : pc = 220 ∨ pc = 865 ∨ pc = 318 ∨ pc = 1269 ∨ pc = 1294 ∨ pc = 1231 := by
                simpa [Nat.beq_eq] using q1
              show W p l e room_1 s m #[Value.ref b] below meth c H2 locs2 (0 + (kc0 + n)) (0 + (ks0 + n * 6)) (lw_Z below #[Value.ref b] s) (F0 m pc ls2 [])
              refine hsp pc i (0 + (kc0 + n)) (0 + (ks0 + n * 6)) hpc hi6 (by omega) (by omega) (fun H9 locs9 ls9 g1 g2 g3 => ?_) H2 locs2 ls2 (hlv _ a4) hI2 hG2.2.2.2.2
              refine W.widen (k := 0 + (kc0 + (n + 1))) (n := 0 + (ks0 + (n + 1) * 6)) (by omega) (by omega) ?_
              exact hgo H9 locs9 ls9 g1 g2 g3) 3000 (tl_S33 a c9) hrun
        obtain ⟨U, u1, u2, u3, n5⟩ := xl_U hKL hR (h3 w) hΦ
        have n4 : tb_fm (xl_E al w) w := fun j a κ e0 e i g1 g2 g3 g4 => by
          have g2 : w[j]? = some (a, e0) := g2
          rw [g2] at g3
          cases g3
          rfl
        have n6 : ∀ (i : Nat) (r : tb_ru), (tb_z (xl_E al w)).2.2[i]? = some r → i ∉ ([] : List Nat) → tb_rh (tb_al (xl_E al w)) w r := fun i r hr _ => hru i r hr
        have hlvV : sa_lv (tl_mix (tb_VL b L i xs ax am ao) U) [(0, .inr (.inl (some 1))), (1, .inr (.inl (some 10))), (2, .inr (.inl (some 11))), (3, .inr (.inl (some 12))), (4, .inl (3, 0))] = [(0, .ref b), (1, .ref ax), (2, .ref am), (3, .ref ao), (4, .int (Int32.ofInt (i : Int)))] := by
          show [(0, Value.ref b), (1, Value.ref ax), (2, Value.ref am), (3, Value.ref ao), (4, Value.int (Int32.ofInt ((i : Int) + 0)))] = _
          rw [Int.add_zero]
        have hI9 : sa_I (tl_mix (tb_VL b L i xs ax am ao) U) (tl_G9 a c9) := by
          refine ⟨fun k q hq => ?_, rfl⟩
          by_cases hk : k < 13
          · rw [tl_mix_lt hk]
            refine (hI a c9 ha hc).1 k q ?_
            unfold tl_G9 at hq
            rw [List.getElem?_append_left (show k < (tl_G a c9).length from hk)] at hq
            exact hq
          · have hk : 13 ≤ k := by omega
            obtain ⟨j, rfl⟩ : ∃ j, k = 13 + j := ⟨k - 13, by omega⟩
            rw [tl_mix_ge hk]
            refine u1 j q ?_
            unfold tl_G9 at hq
            rw [List.getElem?_append_right (show (tl_G a c9).length ≤ 13 + j from Nat.le_add_right 13 j)] at hq
            have hq : tl_R9[13 + j - 13]? = some q := hq
            rw [Nat.add_sub_cancel_left] at hq
            exact hq
        have hn9 : 13 ≤ (tl_G9 a c9).length := by
          unfold tl_G9
          rw [List.length_append]
          exact Nat.le_add_right (tl_G a c9).length _
        have hX9 : tb_X (xl_E al w) (tl_mix (tb_VL b L i xs ax am ao) U) := by
          refine ⟨fun k => ?_, fun k hk => ?_, h3 w⟩
          · by_cases h13 : k < 13
            · rw [tl_mix_lt h13]
              exact hXV.1 k
            · have h13 : 13 ≤ k := by omega
              rw [tl_mix_ge h13]
              exact u3.1 k
          · show ∃ j : Nat, al[j]? = some ((tl_mix (tb_VL b L i xs ax am ao) U k).2.2.2, ((tl_mix (tb_VL b L i xs ax am ao) U k).1 - tb_KB).toNat)
            by_cases h13 : k < 13
            · rw [tl_mix_lt h13] at hk ⊢
              exact hXV.2.1 k hk
            · have h13 : 13 ≤ k := by omega
              rw [tl_mix_ge h13] at hk ⊢
              exact u3.2.1 k hk
        exact hW (tl_mix (tb_VL b L i xs ax am ao) U) H locs ls ⟨⟨hI9, hn9, fun k hk => tl_mix_lt hk⟩, by rw [show (tb_up (kc0 + n) (ks0 + n * 6) (tl_S33 a c9)).2.1 = [(0, .inr (.inl (some 1))), (1, .inr (.inl (some 10))), (2, .inr (.inl (some 11))), (3, .inr (.inl (some 12))), (4, .inl (3, 0))] from rfl, hlvV]; exact hlv, ⟨w, hP, hD, hR.1, n4, fun f hf => tl_fa_mix (by rw [u2]; rfl) (List.all_eq_true.mp tl_F9_ok f hf) (n5 f hf), n6, fun x hx => absurd hx List.not_mem_nil⟩, hX9, hS⟩
      have hb9 : (-2147483648 : Int) ≤ (xs (i + 1)).toInt ∧ (xs (i + 1)).toInt ≤ 2147483647 := sa_is_top (tb_VL b L i xs ax am ao) (xs (i + 1))
      by_cases c1 : (xs (i + 1)).toInt ≤ -1
      · exact body _ _ hb9.1 c1 hr0
      · by_cases c2 : (xs (i + 1)).toInt ≤ 0
        · exact body _ _ (by omega) c2 hr1
        · by_cases c3 : (xs (i + 1)).toInt ≤ 1
          · exact body _ _ (by omega) c3 hr2
          · exact body _ _ (by omega) hb9.2 hr3
end XWM
