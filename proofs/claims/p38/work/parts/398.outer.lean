section TYO
abbrev sa_NSE : String := "java/util/NoSuchElementException"
noncomputable def sa_nm : List String := ["java/lang/RuntimeException", "java/lang/Exception"]
noncomputable def sa_XW : List Cond := [.castable sa_NSE sa_NSE, .declares (Bundle.init0 "java/lang/RuntimeException"), .declares (Bundle.init0 "java/lang/Exception"), .declares (Bundle.init0 "java/lang/Throwable")]
theorem sa_XW_on : ∀ w ∈ sa_XW, w.onTables = true := by decide +kernel
theorem sa_XW_warm {s U : State} (hW : s.WarmedH U.vm) (h : ∀ w ∈ sa_XW, va_Nw w s) : ∀ w ∈ sa_XW, va_Nw w U := by
  intro w hw
  have hz := h w hw
  simp only [sa_XW, List.mem_cons, List.not_mem_nil, or_false] at hw
  rcases hw with rfl | rfl | rfl | rfl
  · exact va_Nw.warmC hW hz
  · exact va_Nw.warmD hW hz
  · exact va_Nw.warmD hW hz
  · exact va_Nw.warmD hW hz
noncomputable def sa_Z (A : Nat → Prop) (U : State) (H : Heap) : Prop := vx_Zq Bundle.tN "UNASSIGNED_STACK" Bundle.steD A U H ∧ vx_Zq Bundle.tN "SUPPRESSED_SENTINEL" Bundle.listD A U H
noncomputable def sa_ZZ (A : Nat → Prop) (U : State) (H : Heap) : Prop := sa_Z A U H ∧ ∀ w ∈ sa_XW, va_Nw w U
/-- where a call begins -/
theorem sa_ZZ.call {A B : Nat → Prop} {s U : State} {H : Heap} {locs : List Loc} (h : sa_ZZ A s s.heap) (hS : va_S A s.heap H locs) (hAB : ∀ q, B q → A q) (hUH : U.heap = H) (hW : s.WarmedH U.vm) : sa_ZZ B U U.heap := by
  refine ⟨⟨?_, ?_⟩, sa_XW_warm hW h.2⟩
  · rw [hUH]; exact (vx_Zq.kept (vx_Zq.moved hW.alike h.1.1) (fun a h1 h2 => hS.2.1 a h1 h2)).narrow hAB
  · rw [hUH]; exact (vx_Zq.kept (vx_Zq.moved hW.alike h.1.2) (fun a h1 h2 => hS.2.1 a h1 h2)).narrow hAB
/-! what lies outside: keywords, texts -/
noncomputable def tb_len : List Nat := [7, 7, 14, 6, 6, 5]
noncomputable def tb_byt : List (List Int32) := [[32, 105, 115, 32, 111, 102, 102], [32, 98, 111, 111, 116, 115, 32], [32, 104, 97, 115, 32, 110, 111, 32, 110, 117, 109, 98, 101, 114], [32, 119, 111, 114, 107, 115], [32, 119, 97, 105, 116, 115], [32, 104, 97, 115, 32]]
noncomputable def tb_lix : List Nat := [338, 344, 349, 351, 353, 355]
noncomputable def tb_ltx : List String := [" is off", " boots ", " has no number", " works", " waits", " has "]
noncomputable def tb_kwN : Cond := .fieldLinkNest "OffThenOn$Reader" 79 "OffThenOn" "KEYWORDS" "[J" "OffThenOn"
noncomputable def tb_kwl : List Int64 := [499967946343, 108187682958948, 439721749620, 427172193651, 7300710, 426835602533, 7367022, 28526, 32497657065465203, 120299592184933, 28530, 6385252, 7237492, 512970877811, 30064, 422776370291, 6840691, 1818324336, 1685026670, 121450625394034]
noncomputable def tb_okO (tk : Nat) (adK adV : Nat → Nat) (A : Nat → Prop) (U : State) (H : Heap) : Prop :=
  va_Z "OffThenOn" "KEYWORDS" "[J" (.ref tk) A U H ∧ (∃ f : Nat → Int64, va_T .long tk 20 (fun j => .long (f j)) A U H ∧ ∀ j, j < 20 → f j = tb_kwl.getD j 0) ∧ vk_S 6 tb_len tb_byt adK adV A U H ∧ va_Z "java/lang/String" "COMPACT_STRINGS" "Z" (.int 1) A U H ∧ (∀ i, i < 6 → vk_R "OffThenOn" (tb_lix.getD i 0) (tb_ltx.getD i "") (adK i) U) ∧ va_Nw tb_kwN U ∧ va_Zq "jdk/internal/util/Preconditions" "SIOOBE_FORMATTER" "Ljava/util/function/BiFunction;" A U H
theorem tb_okO.call {tk : Nat} {adK adV : Nat → Nat} {A B : Nat → Prop} {s U : State} {H : Heap} {locs : List Loc} (h : tb_okO tk adK adV A s s.heap) (hS : va_S A s.heap H locs) (hAB : ∀ q, B q → A q) (hUH : U.heap = H) (hW : s.WarmedH U.vm) : tb_okO tk adK adV B U U.heap := by
  obtain ⟨h1, ⟨f, h2, h9⟩, h3, h4, h5, h6, h7⟩ := h
  have hk : ∀ a : Nat, a < s.heap.size → ¬ A a → H[a]? = s.heap[a]? := fun a x y => hS.2.1 a x y
  rw [hUH]
  exact ⟨((va_Z.moved hW.alike h1).kept hk).narrow hAB, ⟨f, ((va_T.moved hW.alike h2).kept hk).narrow hAB, h9⟩, ((vk_S.moved hW.alike h3).kept hk).narrow hAB, ((va_Z.moved hW.alike h4).kept hk).narrow hAB, fun i hi => vk_R.warm hW (h5 i hi), va_Nw.warmF hW h6, ((va_Zq.moved hW.alike h7).kept hk).narrow hAB⟩
theorem tb_okO.same {tk : Nat} {adK adV : Nat → Nat} {A : Nat → Prop} {u U : State} {H : Heap} (hv : u.vm = U.vm) (h : tb_okO tk adK adV A u H) : tb_okO tk adK adV A U H := by
  obtain ⟨h1, ⟨f, h2, h9⟩, h3, h4, h5, h6, h7⟩ := h
  have hal : u.vm.Alike U.vm := by rw [hv]; exact Vm.Alike.refl _
  exact ⟨va_Z.moved hal h1, ⟨f, va_T.moved hal h2, h9⟩, vk_S.moved hal h3, va_Z.moved hal h4, fun i hi => vk_R.same hv.symm (h5 i hi), va_Nw.same rfl hv h6, va_Zq.moved hal h7⟩
noncomputable def tb_Ou (A : Nat → Prop) (U : State) (H : Heap) : Prop := sa_ZZ A U H ∧ ∃ (tk : Nat) (adK adV : Nat → Nat), tb_okO tk adK adV A U H
theorem tb_Ou.call {A B : Nat → Prop} {s U : State} {H : Heap} {locs : List Loc} (h : tb_Ou A s s.heap) (hS : va_S A s.heap H locs) (hAB : ∀ q, B q → A q) (hUH : U.heap = H) (hW : s.WarmedH U.vm) : tb_Ou B U U.heap := by
  obtain ⟨h1, tk, adK, adV, h2⟩ := h
  exact ⟨sa_ZZ.call h1 hS hAB hUH hW, tk, adK, adV, tb_okO.call h2 hS hAB hUH hW⟩
theorem sa_ZZ.same {A : Nat → Prop} {u U : State} {H : Heap} (hv : u.vm = U.vm) (h : sa_ZZ A u H) : sa_ZZ A U H := by
  obtain ⟨⟨z1, z2⟩, z3⟩ := h
  have hal : u.vm.Alike U.vm := by rw [hv]; exact Vm.Alike.refl _
  exact ⟨⟨vx_Zq.moved hal z1, vx_Zq.moved hal z2⟩, fun w hw => va_Nw.same (sa_XW_on w hw) hv (z3 w hw)⟩
/-- what a method is given beside its own cells -/
abbrev tb_Xt : Type := sa_V → (Nat → Prop) → State → Prop
noncomputable def tb_X0 : tb_Xt := fun _ A U => tb_Ou A U U.heap
noncomputable def tb_Xs (i : Nat) : tb_Xt := fun V A U => sa_ZZ A U U.heap ∧ ∃ (tk : Nat) (adK adV : Nat → Nat), tb_okO tk adK adV A U U.heap ∧ sa_ad V 2 = adK i
noncomputable def tb_bli (X : tb_Xt) : Prop := ∀ (V : sa_V) (A : Nat → Prop) (u U : State), u.vm = U.vm → u.heap = U.heap → X V A u → X V A U
theorem tb_X0_bl : tb_bli tb_X0 := by
  rintro V A u U hv hh ⟨h1, tk, adK, adV, h2⟩
  unfold tb_X0
  rw [hh] at h1 h2
  exact ⟨h1.same hv, tk, adK, adV, h2.same hv⟩
theorem tb_Xs_bl (i : Nat) : tb_bli (tb_Xs i) := by
  rintro V A u U hv hh ⟨h1, tk, adK, adV, h2, h3⟩
  rw [hh] at h1 h2
  exact ⟨h1.same hv, tk, adK, adV, h2.same hv, h3⟩
end TYO
