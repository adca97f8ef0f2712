section XWA
/-! the exact machine: memory as numbers by cell and slot, each step as it is (own work) -/
abbrev xw_M : Type := Nat → Nat → Int
noncomputable def xw_u (μ : xw_M) (j i : Nat) (x : Int) : xw_M := fun j' i' => if j' = j ∧ i' = i then x else μ j' i'
theorem xw_ug {μ : xw_M} {j i : Nat} {x : Int} : xw_u μ j i x j i = x := if_pos ⟨rfl, rfl⟩
theorem xw_un {μ : xw_M} {j i j' i' : Nat} {x : Int} (h : ¬ (j' = j ∧ i' = i)) : xw_u μ j i x j' i' = μ j' i' := if_neg h
noncomputable def xw_ad (al : List (Nat × Nat)) (j : Nat) : Nat := (al.getD j (0, 0)).1
theorem xw_al {al : List (Nat × Nat)} {KL : List Nat} (h : al.map Prod.snd = KL) {j κ : Nat} (hj : KL[j]? = some κ) : al[j]? = some (xw_ad al j, κ) := by
  subst h
  rw [List.getElem?_map] at hj
  cases ha : al[j]? with
  | none => rw [ha] at hj; cases hj
  | some q =>
    rw [ha] at hj
    have h1 : q.2 = κ := Option.some.inj hj
    unfold xw_ad
    rw [List.getD_eq_getElem?_getD, ha]
    show some q = some (q.1, κ)
    rw [← h1]
theorem xw_ada {al : List (Nat × Nat)} {j a κ : Nat} (h : al[j]? = some (a, κ)) : xw_ad al j = a := by
  unfold xw_ad
  rw [List.getD_eq_getElem?_getD, h]
  rfl
noncomputable def xw_v (al : List (Nat × Nat)) (t : tb_t) (v : Value) (z : Int) : Prop := match t.1, v with
  | 0, .int x => x.toInt = z
  | 1, .long x => x.toInt = z
  | 2, .ref a => ∃ (j κ : Nat), z = (j : Int) ∧ al[j]? = some (a, κ)
  | _, _ => False
/-- the world's cells are of their kinds, and hold these numbers -/
noncomputable def xw_R (dA : Nat → ClassId) (al : List (Nat × Nat)) (KT : List tb_kd) (w : va_W) (μ : xw_M) : Prop := tb_wk dA al KT w ∧ ∀ (j a κ : Nat) (k : tb_kd) (e : va_E), al[j]? = some (a, κ) → KT[κ]? = some k → w[j]? = some (a, e) → ∀ (i : Nat) (t : tb_t) (v : Value), tb_ty k i = some t → tb_rd e i = some v → xw_v al t v (μ j i)
theorem xw_ld {dA : Nat → ClassId} {al : List (Nat × Nat)} {KT : List tb_kd} {w : va_W} {μ : xw_M} {j a κ i : Nat} {k : tb_kd} {t : tb_t} (h : xw_R dA al KT w μ) (hj : al[j]? = some (a, κ)) (hk : KT[κ]? = some k) (ht : tb_ty k i = some t) : ∃ (e : va_E) (v : Value), w[j]? = some (a, e) ∧ tb_sh dA k e ∧ tb_rd e i = some v ∧ tb_vt al t v ∧ xw_v al t v (μ j i) := by
  obtain ⟨⟨h0, h1⟩, h2⟩ := h
  obtain ⟨k', e, c1, c2, c3, c4⟩ := h1 j a κ hj
  rw [hk] at c1
  cases c1
  obtain ⟨v, d1, d2⟩ := c4 i t ht
  exact ⟨e, v, c2, c3, d1, d2, h2 j a κ k e hj hk c2 i t v ht d1⟩
theorem xw_cell {dA : Nat → ClassId} {al : List (Nat × Nat)} {KT : List tb_kd} {w : va_W} {μ : xw_M} {j a κ : Nat} {k : tb_kd} (h : xw_R dA al KT w μ) (hj : al[j]? = some (a, κ)) (hk : KT[κ]? = some k) : ∃ e : va_E, w[j]? = some (a, e) ∧ tb_sh dA k e := by
  obtain ⟨k', e, c1, c2, c3, c4⟩ := h.1.2 j a κ hj
  rw [hk] at c1
  cases c1
  exact ⟨e, c2, c3⟩
theorem xw_int {al : List (Nat × Nat)} {lo hi z : Int} {v : Value} (h1 : tb_vt al (0, lo, hi) v) (h2 : xw_v al (0, lo, hi) v z) : v = .int (Int32.ofInt z) ∧ lo ≤ z ∧ z ≤ hi := by
  cases v with
  | int x =>
    have h1 : lo ≤ x.toInt ∧ x.toInt ≤ hi := h1
    have h2 : x.toInt = z := h2
    subst h2
    exact ⟨by rw [Int32.ofInt_toInt], h1⟩
  | _ => exact h1.elim
theorem xw_lng {al : List (Nat × Nat)} {lo hi z : Int} {v : Value} (h1 : tb_vt al (1, lo, hi) v) (h2 : xw_v al (1, lo, hi) v z) : v = .long (Int64.ofInt z) ∧ lo ≤ z ∧ z ≤ hi := by
  cases v with
  | long x =>
    have h1 : lo ≤ x.toInt ∧ x.toInt ≤ hi := h1
    have h2 : x.toInt = z := h2
    subst h2
    exact ⟨by rw [Int64.ofInt_toInt], h1⟩
  | _ => exact h1.elim
theorem xw_ref {al : List (Nat × Nat)} {lo hi : Int} {v : Value} {j : Nat} (h1 : tb_vt al (2, lo, hi) v) (h2 : xw_v al (2, lo, hi) v (j : Int)) : v = .ref (xw_ad al j) := by
  cases v with
  | ref a =>
    obtain ⟨j', κ, g1, g2⟩ := h2
    have hj : j = j' := by omega
    subst hj
    rw [xw_ada g2]
  | _ => exact h1.elim
/-- one slot changed -/
theorem xw_st {dA : Nat → ClassId} {al : List (Nat × Nat)} {KT : List tb_kd} {w : va_W} {μ : xw_M} {j a κ i : Nat} {k : tb_kd} {e e' : va_E} {v0 : Value} {z : Int} (h : xw_R dA al KT w μ) (hj : al[j]? = some (a, κ)) (hk : KT[κ]? = some k) (hw : w[j]? = some (a, e)) (hs : tb_sh dA k e') (hr : ∀ i', tb_rd e' i' = if i' = i then some v0 else tb_rd e i') (ht : ∀ t, tb_ty k i = some t → tb_vt al t v0 ∧ xw_v al t v0 z) : xw_R dA al KT (w.set j (a, e')) (xw_u μ j i z) := by
  refine ⟨tb_set_wk h.1 hw hj hk hr hs (fun t ht' => (ht t ht').1), fun j' a' κ' k' e9 g1 g2 g3 i' t v g4 g5 => ?_⟩
  by_cases hjj : j' = j
  · subst hjj
    have q1 := Option.some.inj (g1.symm.trans hj)
    have q2 : a' = a := congrArg Prod.fst q1
    have q3 : κ' = κ := congrArg Prod.snd q1
    subst q2 q3
    have q4 : k' = k := Option.some.inj (g2.symm.trans hk)
    subst q4
    rw [List.getElem?_set_self (List.getElem?_eq_some_iff.mp hw).1] at g3
    have q5 : e' = e9 := congrArg Prod.snd (Option.some.inj g3)
    subst q5
    rw [hr] at g5
    by_cases hii : i' = i
    · subst hii
      rw [if_pos rfl] at g5
      cases g5
      rw [xw_ug]
      exact (ht t g4).2
    · rw [if_neg hii] at g5
      rw [xw_un (fun q => hii q.2)]
      exact h.2 j' a' κ' k' e hj hk hw i' t v g4 g5
  · rw [List.getElem?_set_ne (Ne.symm hjj)] at g3
    rw [xw_un (fun q => hjj q.1)]
    exact h.2 j' a' κ' k' e9 g1 g2 g3 i' t v g4 g5
theorem xw_ti {a : Int} (h : -2147483648 ≤ a ∧ a ≤ 2147483647) : (Int32.ofInt a).toInt = a := sa_ofInt_toInt h.1 h.2
theorem xw_tl {a : Int} (h : -9223372036854775808 ≤ a ∧ a ≤ 9223372036854775807) : (Int64.ofInt a).toInt = a := Int64.toInt_ofInt_of_le (by simpa using h.1) (by simp; omega)
theorem xw_eq {a b : Int} (ha : -2147483648 ≤ a ∧ a ≤ 2147483647) (hb : -2147483648 ≤ b ∧ b ≤ 2147483647) : Int32.ofInt a = Int32.ofInt b ↔ a = b := ⟨fun h => by rw [← xw_ti ha, ← xw_ti hb, h], fun h => by rw [h]⟩
theorem xw_lt {a b : Int} (ha : -2147483648 ≤ a ∧ a ≤ 2147483647) (hb : -2147483648 ≤ b ∧ b ≤ 2147483647) : Int32.ofInt a < Int32.ofInt b ↔ a < b := by rw [Int32.lt_iff_toInt_lt, xw_ti ha, xw_ti hb]
theorem xw_le {a b : Int} (ha : -2147483648 ≤ a ∧ a ≤ 2147483647) (hb : -2147483648 ≤ b ∧ b ≤ 2147483647) : Int32.ofInt a ≤ Int32.ofInt b ↔ a ≤ b := by rw [Int32.le_iff_toInt_le, xw_ti ha, xw_ti hb]
theorem xw_0 : (0 : Int32) = Int32.ofInt 0 := rfl
/-- where the machine stands: place, locals, stack, memory -/
noncomputable def xw_W (p : Program) (l : Launch) (e : Env) (R : Room) (s : State) (m : MethodId) (args : Array Value) (below : List Frame) (meth : Method) (c : Code) (Q : State → Prop) (D : va_G) (dA : Nat → ClassId) (A : Nat → Prop) (nL : Nat) (cl : List vw_C) (KT : List tb_kd) (al : List (Nat × Nat)) (kc ks : Nat) (μ : xw_M) (pc : Nat) (lo : List (Nat × Value)) (st : List Value) : Prop :=
  ∀ (H : Heap) (locs : List Loc) (ls : Array Slot) (w : va_W), lv_has ls nL lo → va_P D cl w H → va_D A w → xw_R dA al KT w μ → va_S A s.heap H locs → W p l e R s m args below meth c H locs kc ks Q (F0 m pc ls st)
end XWA
section XWB
variable {p : Program} {l : Launch} {e : Env} {R : Room} {s : State} {m : MethodId} {args : Array Value} {below : List Frame} {meth : Method} {c : Code} {Q : State → Prop} {D : va_G} {dA : Nat → ClassId} {A : Nat → Prop} {nL : Nat} {cl : List vw_C} {KT : List tb_kd} {al : List (Nat × Nat)} {kc ks : Nat} {μ : xw_M} {Ts : List Cond} {cc : ByteArray} {own : String} {pc : Nat} {L L' : List (Nat × Value)} {st : List Value}
/-! locals, constants, the stack -/
theorem xw_iload_n (C0 : sa_C p s m args c D dA A nL cl Ts cc own) {k : Fin 4} {i : Nat} {x : Int32} (q : Nat) (hd : decode cc pc = .ok (.iload_n k, 1)) (hi : (k : Nat) = i) (hl : L[q]? = some (i, .int x)) (kk : xw_W p l e R s m args below meth c Q D dA A nL cl KT al kc ks μ (pc + 1) L (.int x :: st)) : xw_W p l e R s m args below meth c Q D dA A nL cl KT al kc ks μ pc L st :=
  fun H locs ls w h1 h2 h3 h4 h5 => lv_iload_n C0.1 C0.2.1 hd hi (lv_at h1 q hl) (kk H locs ls w h1 h2 h3 h4 h5)
theorem xw_iload (C0 : sa_C p s m args c D dA A nL cl Ts cc own) {i : Nat} {x : Int32} (q : Nat) (hd : decode cc pc = .ok (.iload i, 2)) (hl : L[q]? = some (i, .int x)) (kk : xw_W p l e R s m args below meth c Q D dA A nL cl KT al kc ks μ (pc + 2) L (.int x :: st)) : xw_W p l e R s m args below meth c Q D dA A nL cl KT al kc ks μ pc L st :=
  fun H locs ls w h1 h2 h3 h4 h5 => lv_iload C0.1 C0.2.1 hd (lv_at h1 q hl) (kk H locs ls w h1 h2 h3 h4 h5)
theorem xw_aload_n (C0 : sa_C p s m args c D dA A nL cl Ts cc own) {k : Fin 4} {i : Nat} {x : Nat} (q : Nat) (hd : decode cc pc = .ok (.aload_n k, 1)) (hi : (k : Nat) = i) (hl : L[q]? = some (i, .ref x)) (kk : xw_W p l e R s m args below meth c Q D dA A nL cl KT al kc ks μ (pc + 1) L (.ref x :: st)) : xw_W p l e R s m args below meth c Q D dA A nL cl KT al kc ks μ pc L st :=
  fun H locs ls w h1 h2 h3 h4 h5 => lv_aload_n C0.1 C0.2.1 hd hi (lv_at h1 q hl) (kk H locs ls w h1 h2 h3 h4 h5)
theorem xw_aload (C0 : sa_C p s m args c D dA A nL cl Ts cc own) {i : Nat} {x : Nat} (q : Nat) (hd : decode cc pc = .ok (.aload i, 2)) (hl : L[q]? = some (i, .ref x)) (kk : xw_W p l e R s m args below meth c Q D dA A nL cl KT al kc ks μ (pc + 2) L (.ref x :: st)) : xw_W p l e R s m args below meth c Q D dA A nL cl KT al kc ks μ pc L st :=
  fun H locs ls w h1 h2 h3 h4 h5 => lv_aload C0.1 C0.2.1 hd (lv_at h1 q hl) (kk H locs ls w h1 h2 h3 h4 h5)
theorem xw_lload_n (C0 : sa_C p s m args c D dA A nL cl Ts cc own) {k : Fin 4} {i : Nat} {x : Int64} (q : Nat) (hd : decode cc pc = .ok (.lload_n k, 1)) (hi : (k : Nat) = i) (hl : L[q]? = some (i, .long x)) (kk : xw_W p l e R s m args below meth c Q D dA A nL cl KT al kc ks μ (pc + 1) L (.long x :: st)) : xw_W p l e R s m args below meth c Q D dA A nL cl KT al kc ks μ pc L st :=
  fun H locs ls w h1 h2 h3 h4 h5 => lv_lload_n C0.1 C0.2.1 hd hi (lv_at h1 q hl) (kk H locs ls w h1 h2 h3 h4 h5)
theorem xw_lload (C0 : sa_C p s m args c D dA A nL cl Ts cc own) {i : Nat} {x : Int64} (q : Nat) (hd : decode cc pc = .ok (.lload i, 2)) (hl : L[q]? = some (i, .long x)) (kk : xw_W p l e R s m args below meth c Q D dA A nL cl KT al kc ks μ (pc + 2) L (.long x :: st)) : xw_W p l e R s m args below meth c Q D dA A nL cl KT al kc ks μ pc L st :=
  fun H locs ls w h1 h2 h3 h4 h5 => lv_lload C0.1 C0.2.1 hd (lv_at h1 q hl) (kk H locs ls w h1 h2 h3 h4 h5)
theorem xw_istore_n (C0 : sa_C p s m args c D dA A nL cl Ts cc own) {k : Fin 4} {i : Nat} {x : Int32} (hd : decode cc pc = .ok (.istore_n k, 1)) (hi : (k : Nat) = i) (hn : i < nL) (hl : (i, Value.int x) :: L.filter (fun q => !(q.1 == i) && !(q.1 + 1 == i && q.2.category == 2)) = L') (kk : xw_W p l e R s m args below meth c Q D dA A nL cl KT al kc ks μ (pc + 1) L' st) : xw_W p l e R s m args below meth c Q D dA A nL cl KT al kc ks μ pc L (.int x :: st) :=
  fun H locs ls w h1 h2 h3 h4 h5 => lv_istore_n C0.1 C0.2.1 hd hi h1 hn hl (fun ls' hl' => kk H locs ls' w hl' h2 h3 h4 h5)
theorem xw_istore (C0 : sa_C p s m args c D dA A nL cl Ts cc own) {i : Nat} {x : Int32} (hd : decode cc pc = .ok (.istore i, 2)) (hn : i < nL) (hl : (i, Value.int x) :: L.filter (fun q => !(q.1 == i) && !(q.1 + 1 == i && q.2.category == 2)) = L') (kk : xw_W p l e R s m args below meth c Q D dA A nL cl KT al kc ks μ (pc + 2) L' st) : xw_W p l e R s m args below meth c Q D dA A nL cl KT al kc ks μ pc L (.int x :: st) :=
  fun H locs ls w h1 h2 h3 h4 h5 => lv_istore C0.1 C0.2.1 hd h1 hn hl (fun ls' hl' => kk H locs ls' w hl' h2 h3 h4 h5)
theorem xw_astore_n (C0 : sa_C p s m args c D dA A nL cl Ts cc own) {k : Fin 4} {i : Nat} {x : Nat} (hd : decode cc pc = .ok (.astore_n k, 1)) (hi : (k : Nat) = i) (hn : i < nL) (hl : (i, Value.ref x) :: L.filter (fun q => !(q.1 == i) && !(q.1 + 1 == i && q.2.category == 2)) = L') (kk : xw_W p l e R s m args below meth c Q D dA A nL cl KT al kc ks μ (pc + 1) L' st) : xw_W p l e R s m args below meth c Q D dA A nL cl KT al kc ks μ pc L (.ref x :: st) :=
  fun H locs ls w h1 h2 h3 h4 h5 => lv_astore_n C0.1 C0.2.1 hd hi h1 hn hl (fun ls' hl' => kk H locs ls' w hl' h2 h3 h4 h5)
theorem xw_astore (C0 : sa_C p s m args c D dA A nL cl Ts cc own) {i : Nat} {x : Nat} (hd : decode cc pc = .ok (.astore i, 2)) (hn : i < nL) (hl : (i, Value.ref x) :: L.filter (fun q => !(q.1 == i) && !(q.1 + 1 == i && q.2.category == 2)) = L') (kk : xw_W p l e R s m args below meth c Q D dA A nL cl KT al kc ks μ (pc + 2) L' st) : xw_W p l e R s m args below meth c Q D dA A nL cl KT al kc ks μ pc L (.ref x :: st) :=
  fun H locs ls w h1 h2 h3 h4 h5 => lv_astore C0.1 C0.2.1 hd h1 hn hl (fun ls' hl' => kk H locs ls' w hl' h2 h3 h4 h5)
theorem xw_lstore_n (C0 : sa_C p s m args c D dA A nL cl Ts cc own) {k : Fin 4} {i : Nat} {x : Int64} (hd : decode cc pc = .ok (.lstore_n k, 1)) (hi : (k : Nat) = i) (hn : i + 1 < nL) (hl : (i, Value.long x) :: L.filter (fun q => !(q.1 == i) && (!(q.1 == i + 1) && !(q.1 + 1 == i && q.2.category == 2))) = L') (kk : xw_W p l e R s m args below meth c Q D dA A nL cl KT al kc ks μ (pc + 1) L' st) : xw_W p l e R s m args below meth c Q D dA A nL cl KT al kc ks μ pc L (.long x :: st) :=
  fun H locs ls w h1 h2 h3 h4 h5 => lv_lstore_n C0.1 C0.2.1 hd hi h1 hn hl (fun ls' hl' => kk H locs ls' w hl' h2 h3 h4 h5)
theorem xw_lstore (C0 : sa_C p s m args c D dA A nL cl Ts cc own) {i : Nat} {x : Int64} (hd : decode cc pc = .ok (.lstore i, 2)) (hn : i + 1 < nL) (hl : (i, Value.long x) :: L.filter (fun q => !(q.1 == i) && (!(q.1 == i + 1) && !(q.1 + 1 == i && q.2.category == 2))) = L') (kk : xw_W p l e R s m args below meth c Q D dA A nL cl KT al kc ks μ (pc + 2) L' st) : xw_W p l e R s m args below meth c Q D dA A nL cl KT al kc ks μ pc L (.long x :: st) :=
  fun H locs ls w h1 h2 h3 h4 h5 => lv_lstore C0.1 C0.2.1 hd h1 hn hl (fun ls' hl' => kk H locs ls' w hl' h2 h3 h4 h5)
theorem xw_iinc (C0 : sa_C p s m args c D dA A nL cl Ts cc own) {i : Nat} {n z : Int} (q : Nat) (hd : decode cc pc = .ok (.iinc i n, 3)) (hq : L[q]? = some (i, .int (Int32.ofInt z))) (hn : i < nL) (hl : (i, Value.int (Int32.ofInt (z + n))) :: L.filter (fun q => !(q.1 == i) && !(q.1 + 1 == i && q.2.category == 2)) = L') (kk : xw_W p l e R s m args below meth c Q D dA A nL cl KT al kc ks μ (pc + 3) L' st) : xw_W p l e R s m args below meth c Q D dA A nL cl KT al kc ks μ pc L st :=
  fun H locs ls w h1 h2 h3 h4 h5 => lv_iinc C0.1 C0.2.1 hd h1 hq (Int32.ofInt_add z n).symm hn hl (fun ls' hl' => kk H locs ls' w hl' h2 h3 h4 h5)
theorem xw_iconst (C0 : sa_C p s m args c D dA A nL cl Ts cc own) {n : Int} (hd : decode cc pc = .ok (.iconst n, 1)) (kk : xw_W p l e R s m args below meth c Q D dA A nL cl KT al kc ks μ (pc + 1) L (.int (Int32.ofInt n) :: st)) : xw_W p l e R s m args below meth c Q D dA A nL cl KT al kc ks μ pc L st :=
  fun H locs ls w h1 h2 h3 h4 h5 => lv_iconst C0.1 C0.2.1 hd rfl (kk H locs ls w h1 h2 h3 h4 h5)
theorem xw_bipush (C0 : sa_C p s m args c D dA A nL cl Ts cc own) {n : Int} (hd : decode cc pc = .ok (.bipush n, 2)) (hv : (Int8.ofInt n).toInt32 = Int32.ofInt n) (kk : xw_W p l e R s m args below meth c Q D dA A nL cl KT al kc ks μ (pc + 2) L (.int (Int32.ofInt n) :: st)) : xw_W p l e R s m args below meth c Q D dA A nL cl KT al kc ks μ pc L st :=
  fun H locs ls w h1 h2 h3 h4 h5 => lv_bipush C0.1 C0.2.1 hd hv (kk H locs ls w h1 h2 h3 h4 h5)
theorem xw_sipush (C0 : sa_C p s m args c D dA A nL cl Ts cc own) {n : Int} (hd : decode cc pc = .ok (.sipush n, 3)) (hv : (Int16.ofInt n).toInt32 = Int32.ofInt n) (kk : xw_W p l e R s m args below meth c Q D dA A nL cl KT al kc ks μ (pc + 3) L (.int (Int32.ofInt n) :: st)) : xw_W p l e R s m args below meth c Q D dA A nL cl KT al kc ks μ pc L st :=
  fun H locs ls w h1 h2 h3 h4 h5 => lv_sipush C0.1 C0.2.1 hd hv (kk H locs ls w h1 h2 h3 h4 h5)
theorem xw_lconst (C0 : sa_C p s m args c D dA A nL cl Ts cc own) {n : Fin 2} {z : Int} (hd : decode cc pc = .ok (.lconst n, 1)) (hv : Int64.ofNat (n : Nat) = Int64.ofInt z) (kk : xw_W p l e R s m args below meth c Q D dA A nL cl KT al kc ks μ (pc + 1) L (.long (Int64.ofInt z) :: st)) : xw_W p l e R s m args below meth c Q D dA A nL cl KT al kc ks μ pc L st :=
  fun H locs ls w h1 h2 h3 h4 h5 => lv_lconst C0.1 C0.2.1 hd hv (kk H locs ls w h1 h2 h3 h4 h5)
theorem xw_dup (C0 : sa_C p s m args c D dA A nL cl Ts cc own) {v : Value} (hd : decode cc pc = .ok (.dup, 1)) (hv : v.category = 1) (kk : xw_W p l e R s m args below meth c Q D dA A nL cl KT al kc ks μ (pc + 1) L (v :: v :: st)) : xw_W p l e R s m args below meth c Q D dA A nL cl KT al kc ks μ pc L (v :: st) :=
  fun H locs ls w h1 h2 h3 h4 h5 => lv_dup C0.1 C0.2.1 hd hv (kk H locs ls w h1 h2 h3 h4 h5)
theorem xw_pop (C0 : sa_C p s m args c D dA A nL cl Ts cc own) {v : Value} (hd : decode cc pc = .ok (.pop, 1)) (hv : v.category = 1) (kk : xw_W p l e R s m args below meth c Q D dA A nL cl KT al kc ks μ (pc + 1) L st) : xw_W p l e R s m args below meth c Q D dA A nL cl KT al kc ks μ pc L (v :: st) :=
  fun H locs ls w h1 h2 h3 h4 h5 => lv_pop C0.1 C0.2.1 hd hv (kk H locs ls w h1 h2 h3 h4 h5)
/-! numbers -/
theorem xw_iadd (C0 : sa_C p s m args c D dA A nL cl Ts cc own) {a b : Int} (hd : decode cc pc = .ok (.iadd, 1)) (kk : xw_W p l e R s m args below meth c Q D dA A nL cl KT al kc ks μ (pc + 1) L (.int (Int32.ofInt (a + b)) :: st)) : xw_W p l e R s m args below meth c Q D dA A nL cl KT al kc ks μ pc L (.int (Int32.ofInt b) :: .int (Int32.ofInt a) :: st) :=
  fun H locs ls w h1 h2 h3 h4 h5 => lv_iadd C0.1 C0.2.1 hd (by have h9 := kk H locs ls w h1 h2 h3 h4 h5; rw [Int32.ofInt_add] at h9; exact h9)
theorem xw_isub (C0 : sa_C p s m args c D dA A nL cl Ts cc own) {a b : Int} (hd : decode cc pc = .ok (.isub, 1)) (kk : xw_W p l e R s m args below meth c Q D dA A nL cl KT al kc ks μ (pc + 1) L (.int (Int32.ofInt (a - b)) :: st)) : xw_W p l e R s m args below meth c Q D dA A nL cl KT al kc ks μ pc L (.int (Int32.ofInt b) :: .int (Int32.ofInt a) :: st) :=
  fun H locs ls w h1 h2 h3 h4 h5 => lv_isub C0.1 C0.2.1 hd (by have h9 := kk H locs ls w h1 h2 h3 h4 h5; rw [Int32.ofInt_sub] at h9; exact h9)
theorem xw_imul (C0 : sa_C p s m args c D dA A nL cl Ts cc own) {a b : Int} (hd : decode cc pc = .ok (.imul, 1)) (kk : xw_W p l e R s m args below meth c Q D dA A nL cl KT al kc ks μ (pc + 1) L (.int (Int32.ofInt (a * b)) :: st)) : xw_W p l e R s m args below meth c Q D dA A nL cl KT al kc ks μ pc L (.int (Int32.ofInt b) :: .int (Int32.ofInt a) :: st) :=
  fun H locs ls w h1 h2 h3 h4 h5 => lv_imul C0.1 C0.2.1 hd (by have h9 := kk H locs ls w h1 h2 h3 h4 h5; rw [Int32.ofInt_mul] at h9; exact h9)
theorem xw_ne0 {b : Int} (h : 0 < b ∧ b ≤ 2147483647) : ¬ Int32.ofInt b = 0 := fun q => by
  have h1 := xw_ti (a := b) (by omega)
  rw [q] at h1
  have h2 : (0 : Int32).toInt = 0 := rfl
  omega
/-- a quotient of numbers that are not below 0 -/
theorem xw_idiv (C0 : sa_C p s m args c D dA A nL cl Ts cc own) {a b : Int} (ha : 0 ≤ a ∧ a ≤ 2147483647) (hb : 0 < b ∧ b ≤ 2147483647) (hd : decode cc pc = .ok (.idiv, 1)) (kk : xw_W p l e R s m args below meth c Q D dA A nL cl KT al kc ks μ (pc + 1) L (.int (Int32.ofInt (a / b)) :: st)) : xw_W p l e R s m args below meth c Q D dA A nL cl KT al kc ks μ pc L (.int (Int32.ofInt b) :: .int (Int32.ofInt a) :: st) :=
  fun H locs ls w h1 h2 h3 h4 h5 => lv_idiv C0.1 C0.2.1 hd (xw_ne0 hb) (by
    have h9 := kk H locs ls w h1 h2 h3 h4 h5
    have e1 := tf_divI (x := Int32.ofInt a) (y := Int32.ofInt b) (by rw [xw_ti (by omega)]; omega)
    rw [xw_ti (by omega), xw_ti (by omega), Int.tdiv_eq_ediv_of_nonneg ha.1] at e1
    have e2 : Int32.ofInt a / Int32.ofInt b = Int32.ofInt (a / b) := by rw [← e1, Int32.ofInt_toInt]
    rw [e2]
    exact h9)
theorem xw_irem (C0 : sa_C p s m args c D dA A nL cl Ts cc own) {a b : Int} (ha : 0 ≤ a ∧ a ≤ 2147483647) (hb : 0 < b ∧ b ≤ 2147483647) (hd : decode cc pc = .ok (.irem, 1)) (kk : xw_W p l e R s m args below meth c Q D dA A nL cl KT al kc ks μ (pc + 1) L (.int (Int32.ofInt (a % b)) :: st)) : xw_W p l e R s m args below meth c Q D dA A nL cl KT al kc ks μ pc L (.int (Int32.ofInt b) :: .int (Int32.ofInt a) :: st) :=
  fun H locs ls w h1 h2 h3 h4 h5 => lv_irem C0.1 C0.2.1 hd (xw_ne0 hb) (by
    have h9 := kk H locs ls w h1 h2 h3 h4 h5
    have e1 := tf_remI (x := Int32.ofInt a) (y := Int32.ofInt b) (by rw [xw_ti (by omega)]; omega)
    rw [xw_ti (by omega), xw_ti (by omega), Int.tmod_eq_emod_of_nonneg ha.1] at e1
    have e2 : Int32.ofInt a - Int32.ofInt a / Int32.ofInt b * Int32.ofInt b = Int32.ofInt (a % b) := by rw [← e1, Int32.ofInt_toInt]
    rw [e2]
    exact h9)
theorem xw_iand (C0 : sa_C p s m args c D dA A nL cl Ts cc own) {a b r : Int} (hd : decode cc pc = .ok (.iand, 1)) (hv : Int32.ofInt a &&& Int32.ofInt b = Int32.ofInt r) (kk : xw_W p l e R s m args below meth c Q D dA A nL cl KT al kc ks μ (pc + 1) L (.int (Int32.ofInt r) :: st)) : xw_W p l e R s m args below meth c Q D dA A nL cl KT al kc ks μ pc L (.int (Int32.ofInt b) :: .int (Int32.ofInt a) :: st) :=
  fun H locs ls w h1 h2 h3 h4 h5 => lv_iand C0.1 C0.2.1 hd (by rw [hv]; exact kk H locs ls w h1 h2 h3 h4 h5)
theorem xw_ior (C0 : sa_C p s m args c D dA A nL cl Ts cc own) {a b r : Int} (hd : decode cc pc = .ok (.ior, 1)) (hv : Int32.ofInt a ||| Int32.ofInt b = Int32.ofInt r) (kk : xw_W p l e R s m args below meth c Q D dA A nL cl KT al kc ks μ (pc + 1) L (.int (Int32.ofInt r) :: st)) : xw_W p l e R s m args below meth c Q D dA A nL cl KT al kc ks μ pc L (.int (Int32.ofInt b) :: .int (Int32.ofInt a) :: st) :=
  fun H locs ls w h1 h2 h3 h4 h5 => lv_ior C0.1 C0.2.1 hd (by rw [hv]; exact kk H locs ls w h1 h2 h3 h4 h5)
theorem xw_ixor (C0 : sa_C p s m args c D dA A nL cl Ts cc own) {a b r : Int} (hd : decode cc pc = .ok (.ixor, 1)) (hv : Int32.ofInt a ^^^ Int32.ofInt b = Int32.ofInt r) (kk : xw_W p l e R s m args below meth c Q D dA A nL cl KT al kc ks μ (pc + 1) L (.int (Int32.ofInt r) :: st)) : xw_W p l e R s m args below meth c Q D dA A nL cl KT al kc ks μ pc L (.int (Int32.ofInt b) :: .int (Int32.ofInt a) :: st) :=
  fun H locs ls w h1 h2 h3 h4 h5 => lv_ixor C0.1 C0.2.1 hd (by rw [hv]; exact kk H locs ls w h1 h2 h3 h4 h5)
theorem xw_ishl (C0 : sa_C p s m args c D dA A nL cl Ts cc own) {a b r : Int} (hd : decode cc pc = .ok (.ishl, 1)) (hv : Int32.ofInt a <<< (Int32.ofInt b &&& 31) = Int32.ofInt r) (kk : xw_W p l e R s m args below meth c Q D dA A nL cl KT al kc ks μ (pc + 1) L (.int (Int32.ofInt r) :: st)) : xw_W p l e R s m args below meth c Q D dA A nL cl KT al kc ks μ pc L (.int (Int32.ofInt b) :: .int (Int32.ofInt a) :: st) :=
  fun H locs ls w h1 h2 h3 h4 h5 => lv_ishl C0.1 C0.2.1 hd (by rw [hv]; exact kk H locs ls w h1 h2 h3 h4 h5)
theorem xw_ishr (C0 : sa_C p s m args c D dA A nL cl Ts cc own) {a b r : Int} (hd : decode cc pc = .ok (.ishr, 1)) (hv : Int32.ofInt a >>> (Int32.ofInt b &&& 31) = Int32.ofInt r) (kk : xw_W p l e R s m args below meth c Q D dA A nL cl KT al kc ks μ (pc + 1) L (.int (Int32.ofInt r) :: st)) : xw_W p l e R s m args below meth c Q D dA A nL cl KT al kc ks μ pc L (.int (Int32.ofInt b) :: .int (Int32.ofInt a) :: st) :=
  fun H locs ls w h1 h2 h3 h4 h5 => lv_ishr C0.1 C0.2.1 hd (by rw [hv]; exact kk H locs ls w h1 h2 h3 h4 h5)
theorem xw_iushr (C0 : sa_C p s m args c D dA A nL cl Ts cc own) {a b r : Int} (hd : decode cc pc = .ok (.iushr, 1)) (hv : ((Int32.ofInt a).toUInt32 >>> ((Int32.ofInt b).toUInt32 &&& Int32.toUInt32 31)).toInt32 = Int32.ofInt r) (kk : xw_W p l e R s m args below meth c Q D dA A nL cl KT al kc ks μ (pc + 1) L (.int (Int32.ofInt r) :: st)) : xw_W p l e R s m args below meth c Q D dA A nL cl KT al kc ks μ pc L (.int (Int32.ofInt b) :: .int (Int32.ofInt a) :: st) :=
  fun H locs ls w h1 h2 h3 h4 h5 => lv_iushr C0.1 C0.2.1 hd hv (kk H locs ls w h1 h2 h3 h4 h5)
theorem xw_i2b (C0 : sa_C p s m args c D dA A nL cl Ts cc own) {a r : Int} (hd : decode cc pc = .ok (.i2b, 1)) (hv : (Int32.ofInt a).toInt8.toInt32 = Int32.ofInt r) (kk : xw_W p l e R s m args below meth c Q D dA A nL cl KT al kc ks μ (pc + 1) L (.int (Int32.ofInt r) :: st)) : xw_W p l e R s m args below meth c Q D dA A nL cl KT al kc ks μ pc L (.int (Int32.ofInt a) :: st) :=
  fun H locs ls w h1 h2 h3 h4 h5 => lv_i2b C0.1 C0.2.1 hd hv (kk H locs ls w h1 h2 h3 h4 h5)
theorem xw_i2l (C0 : sa_C p s m args c D dA A nL cl Ts cc own) {a : Int} (ha : -2147483648 ≤ a ∧ a ≤ 2147483647) (hd : decode cc pc = .ok (.i2l, 1)) (kk : xw_W p l e R s m args below meth c Q D dA A nL cl KT al kc ks μ (pc + 1) L (.long (Int64.ofInt a) :: st)) : xw_W p l e R s m args below meth c Q D dA A nL cl KT al kc ks μ pc L (.int (Int32.ofInt a) :: st) :=
  fun H locs ls w h1 h2 h3 h4 h5 => lv_i2l C0.1 C0.2.1 hd (by
    apply Int64.toInt_inj.mp
    rw [Int32.toInt_toInt64, xw_ti ha, xw_tl (by omega)]) (kk H locs ls w h1 h2 h3 h4 h5)
theorem xw_l2i (C0 : sa_C p s m args c D dA A nL cl Ts cc own) {a r : Int} (hd : decode cc pc = .ok (.l2i, 1)) (hv : (Int64.ofInt a).toInt32 = Int32.ofInt r) (kk : xw_W p l e R s m args below meth c Q D dA A nL cl KT al kc ks μ (pc + 1) L (.int (Int32.ofInt r) :: st)) : xw_W p l e R s m args below meth c Q D dA A nL cl KT al kc ks μ pc L (.long (Int64.ofInt a) :: st) :=
  fun H locs ls w h1 h2 h3 h4 h5 => lv_l2i C0.1 C0.2.1 hd hv (kk H locs ls w h1 h2 h3 h4 h5)
theorem xw_ladd (C0 : sa_C p s m args c D dA A nL cl Ts cc own) {a b : Int} (hd : decode cc pc = .ok (.ladd, 1)) (kk : xw_W p l e R s m args below meth c Q D dA A nL cl KT al kc ks μ (pc + 1) L (.long (Int64.ofInt (a + b)) :: st)) : xw_W p l e R s m args below meth c Q D dA A nL cl KT al kc ks μ pc L (.long (Int64.ofInt b) :: .long (Int64.ofInt a) :: st) :=
  fun H locs ls w h1 h2 h3 h4 h5 => lv_ladd C0.1 C0.2.1 hd (by have h9 := kk H locs ls w h1 h2 h3 h4 h5; rw [Int64.ofInt_add] at h9; exact h9)
theorem xw_lsub (C0 : sa_C p s m args c D dA A nL cl Ts cc own) {a b : Int} (hd : decode cc pc = .ok (.lsub, 1)) (kk : xw_W p l e R s m args below meth c Q D dA A nL cl KT al kc ks μ (pc + 1) L (.long (Int64.ofInt (a - b)) :: st)) : xw_W p l e R s m args below meth c Q D dA A nL cl KT al kc ks μ pc L (.long (Int64.ofInt b) :: .long (Int64.ofInt a) :: st) :=
  fun H locs ls w h1 h2 h3 h4 h5 => lv_lsub C0.1 C0.2.1 hd (by have h9 := kk H locs ls w h1 h2 h3 h4 h5; rw [Int64.ofInt_sub] at h9; exact h9)
theorem xw_lmul (C0 : sa_C p s m args c D dA A nL cl Ts cc own) {a b : Int} (hd : decode cc pc = .ok (.lmul, 1)) (kk : xw_W p l e R s m args below meth c Q D dA A nL cl KT al kc ks μ (pc + 1) L (.long (Int64.ofInt (a * b)) :: st)) : xw_W p l e R s m args below meth c Q D dA A nL cl KT al kc ks μ pc L (.long (Int64.ofInt b) :: .long (Int64.ofInt a) :: st) :=
  fun H locs ls w h1 h2 h3 h4 h5 => lv_lmul C0.1 C0.2.1 hd (by have h9 := kk H locs ls w h1 h2 h3 h4 h5; rw [Int64.ofInt_mul] at h9; exact h9)
theorem xw_lshl (C0 : sa_C p s m args c D dA A nL cl Ts cc own) {a b r : Int} (hd : decode cc pc = .ok (.lshl, 1)) (hv : Int64.ofInt a <<< ((Int32.ofInt b).toInt64 &&& 63) = Int64.ofInt r) (kk : xw_W p l e R s m args below meth c Q D dA A nL cl KT al kc ks μ (pc + 1) L (.long (Int64.ofInt r) :: st)) : xw_W p l e R s m args below meth c Q D dA A nL cl KT al kc ks μ pc L (.int (Int32.ofInt b) :: .long (Int64.ofInt a) :: st) :=
  fun H locs ls w h1 h2 h3 h4 h5 => lv_lshl C0.1 C0.2.1 hd hv (kk H locs ls w h1 h2 h3 h4 h5)
theorem xw_lor (C0 : sa_C p s m args c D dA A nL cl Ts cc own) {a b r : Int} (hd : decode cc pc = .ok (.lor, 1)) (hv : Int64.ofInt a ||| Int64.ofInt b = Int64.ofInt r) (kk : xw_W p l e R s m args below meth c Q D dA A nL cl KT al kc ks μ (pc + 1) L (.long (Int64.ofInt r) :: st)) : xw_W p l e R s m args below meth c Q D dA A nL cl KT al kc ks μ pc L (.long (Int64.ofInt b) :: .long (Int64.ofInt a) :: st) :=
  fun H locs ls w h1 h2 h3 h4 h5 => lv_lor C0.1 C0.2.1 hd (by rw [hv]; exact kk H locs ls w h1 h2 h3 h4 h5)
/-- two longs set side by side: 0 only where they are the same -/
theorem xw_lcmp (C0 : sa_C p s m args c D dA A nL cl Ts cc own) {a b : Int} (ha : -9223372036854775808 ≤ a ∧ a ≤ 9223372036854775807) (hb : -9223372036854775808 ≤ b ∧ b ≤ 9223372036854775807) (hd : decode cc pc = .ok (.lcmp, 1)) (kk : ∀ r : Int, -1 ≤ r → r ≤ 1 → (r = 0 ↔ a = b) → xw_W p l e R s m args below meth c Q D dA A nL cl KT al kc ks μ (pc + 1) L (.int (Int32.ofInt r) :: st)) : xw_W p l e R s m args below meth c Q D dA A nL cl KT al kc ks μ pc L (.long (Int64.ofInt b) :: .long (Int64.ofInt a) :: st) := by
  intro H locs ls w h1 h2 h3 h4 h5
  refine W.lcmp C0.1 C0.2.1 hd ?_
  by_cases hab : a = b
  · subst hab
    have e1 : lg_cmp (Int64.ofInt a) (Int64.ofInt a) = Int32.ofInt 0 := by simp [lg_cmp]
    rw [e1]
    exact kk 0 (by omega) (by omega) ⟨fun _ => rfl, fun _ => rfl⟩ H locs ls w h1 h2 h3 h4 h5
  · have hne : ¬ Int64.ofInt a = Int64.ofInt b := fun q => hab (by rw [← xw_tl ha, ← xw_tl hb, q])
    by_cases hlt : Int64.ofInt b < Int64.ofInt a
    · have e1 : lg_cmp (Int64.ofInt a) (Int64.ofInt b) = Int32.ofInt 1 := by simp [lg_cmp, hlt]
      rw [e1]
      exact kk 1 (by omega) (by omega) ⟨fun q => by omega, fun q => absurd q hab⟩ H locs ls w h1 h2 h3 h4 h5
    · have e1 : lg_cmp (Int64.ofInt a) (Int64.ofInt b) = Int32.ofInt (-1) := by simp [lg_cmp, hlt, hne]
      rw [e1]
      exact kk (-1) (by omega) (by omega) ⟨fun q => by omega, fun q => absurd q hab⟩ H locs ls w h1 h2 h3 h4 h5
/-! branches -/
theorem xw_r0 : (-2147483648 : Int) ≤ 0 ∧ (0 : Int) ≤ 2147483647 := ⟨by decide, by decide⟩
theorem xw_icmp_eq (C0 : sa_C p s m args c D dA A nL cl Ts cc own) {a b off : Int} {tgt : Nat} (ha : -2147483648 ≤ a ∧ a ≤ 2147483647) (hb : -2147483648 ≤ b ∧ b ≤ 2147483647) (hd : decode cc pc = .ok (.if_icmp .eq off, 3)) (ht : (pc : Int) + off = (tgt : Int)) (kt : a = b → xw_W p l e R s m args below meth c Q D dA A nL cl KT al kc ks μ tgt L st) (kf : ¬ a = b → xw_W p l e R s m args below meth c Q D dA A nL cl KT al kc ks μ (pc + 3) L st) : xw_W p l e R s m args below meth c Q D dA A nL cl KT al kc ks μ pc L (.int (Int32.ofInt b) :: .int (Int32.ofInt a) :: st) :=
  fun H locs ls w h1 h2 h3 h4 h5 => lv_icmp_eq C0.1 C0.2.1 hd ht (fun q => kt ((xw_eq ha hb).mp q) H locs ls w h1 h2 h3 h4 h5) (fun q => kf (fun z => q ((xw_eq ha hb).mpr z)) H locs ls w h1 h2 h3 h4 h5)
theorem xw_if_eq (C0 : sa_C p s m args c D dA A nL cl Ts cc own) {a off : Int} {tgt : Nat} (ha : -2147483648 ≤ a ∧ a ≤ 2147483647) (hd : decode cc pc = .ok (.ifCond .eq off, 3)) (ht : (pc : Int) + off = (tgt : Int)) (kt : a = 0 → xw_W p l e R s m args below meth c Q D dA A nL cl KT al kc ks μ tgt L st) (kf : ¬ a = 0 → xw_W p l e R s m args below meth c Q D dA A nL cl KT al kc ks μ (pc + 3) L st) : xw_W p l e R s m args below meth c Q D dA A nL cl KT al kc ks μ pc L (.int (Int32.ofInt a) :: st) :=
  fun H locs ls w h1 h2 h3 h4 h5 => lv_if_eq C0.1 C0.2.1 hd ht (fun q => kt ((xw_eq ha xw_r0).mp q) H locs ls w h1 h2 h3 h4 h5) (fun q => kf (fun z => q ((xw_eq ha xw_r0).mpr z)) H locs ls w h1 h2 h3 h4 h5)
theorem xw_icmp_ne (C0 : sa_C p s m args c D dA A nL cl Ts cc own) {a b off : Int} {tgt : Nat} (ha : -2147483648 ≤ a ∧ a ≤ 2147483647) (hb : -2147483648 ≤ b ∧ b ≤ 2147483647) (hd : decode cc pc = .ok (.if_icmp .ne off, 3)) (ht : (pc : Int) + off = (tgt : Int)) (kt : ¬ a = b → xw_W p l e R s m args below meth c Q D dA A nL cl KT al kc ks μ tgt L st) (kf : a = b → xw_W p l e R s m args below meth c Q D dA A nL cl KT al kc ks μ (pc + 3) L st) : xw_W p l e R s m args below meth c Q D dA A nL cl KT al kc ks μ pc L (.int (Int32.ofInt b) :: .int (Int32.ofInt a) :: st) :=
  fun H locs ls w h1 h2 h3 h4 h5 => lv_icmp_ne C0.1 C0.2.1 hd ht (fun q => kt (fun z => q ((xw_eq ha hb).mpr z)) H locs ls w h1 h2 h3 h4 h5) (fun q => kf ((xw_eq ha hb).mp q) H locs ls w h1 h2 h3 h4 h5)
theorem xw_if_ne (C0 : sa_C p s m args c D dA A nL cl Ts cc own) {a off : Int} {tgt : Nat} (ha : -2147483648 ≤ a ∧ a ≤ 2147483647) (hd : decode cc pc = .ok (.ifCond .ne off, 3)) (ht : (pc : Int) + off = (tgt : Int)) (kt : ¬ a = 0 → xw_W p l e R s m args below meth c Q D dA A nL cl KT al kc ks μ tgt L st) (kf : a = 0 → xw_W p l e R s m args below meth c Q D dA A nL cl KT al kc ks μ (pc + 3) L st) : xw_W p l e R s m args below meth c Q D dA A nL cl KT al kc ks μ pc L (.int (Int32.ofInt a) :: st) :=
  fun H locs ls w h1 h2 h3 h4 h5 => lv_if_ne C0.1 C0.2.1 hd ht (fun q => kt (fun z => q ((xw_eq ha xw_r0).mpr z)) H locs ls w h1 h2 h3 h4 h5) (fun q => kf ((xw_eq ha xw_r0).mp q) H locs ls w h1 h2 h3 h4 h5)
theorem xw_icmp_lt (C0 : sa_C p s m args c D dA A nL cl Ts cc own) {a b off : Int} {tgt : Nat} (ha : -2147483648 ≤ a ∧ a ≤ 2147483647) (hb : -2147483648 ≤ b ∧ b ≤ 2147483647) (hd : decode cc pc = .ok (.if_icmp .lt off, 3)) (ht : (pc : Int) + off = (tgt : Int)) (kt : a < b → xw_W p l e R s m args below meth c Q D dA A nL cl KT al kc ks μ tgt L st) (kf : ¬ a < b → xw_W p l e R s m args below meth c Q D dA A nL cl KT al kc ks μ (pc + 3) L st) : xw_W p l e R s m args below meth c Q D dA A nL cl KT al kc ks μ pc L (.int (Int32.ofInt b) :: .int (Int32.ofInt a) :: st) :=
  fun H locs ls w h1 h2 h3 h4 h5 => lv_icmp_lt C0.1 C0.2.1 hd ht (fun q => kt ((xw_lt ha hb).mp q) H locs ls w h1 h2 h3 h4 h5) (fun q => kf (fun z => q ((xw_lt ha hb).mpr z)) H locs ls w h1 h2 h3 h4 h5)
theorem xw_if_lt (C0 : sa_C p s m args c D dA A nL cl Ts cc own) {a off : Int} {tgt : Nat} (ha : -2147483648 ≤ a ∧ a ≤ 2147483647) (hd : decode cc pc = .ok (.ifCond .lt off, 3)) (ht : (pc : Int) + off = (tgt : Int)) (kt : a < 0 → xw_W p l e R s m args below meth c Q D dA A nL cl KT al kc ks μ tgt L st) (kf : ¬ a < 0 → xw_W p l e R s m args below meth c Q D dA A nL cl KT al kc ks μ (pc + 3) L st) : xw_W p l e R s m args below meth c Q D dA A nL cl KT al kc ks μ pc L (.int (Int32.ofInt a) :: st) :=
  fun H locs ls w h1 h2 h3 h4 h5 => lv_if_lt C0.1 C0.2.1 hd ht (fun q => kt ((xw_lt ha xw_r0).mp q) H locs ls w h1 h2 h3 h4 h5) (fun q => kf (fun z => q ((xw_lt ha xw_r0).mpr z)) H locs ls w h1 h2 h3 h4 h5)
theorem xw_icmp_ge (C0 : sa_C p s m args c D dA A nL cl Ts cc own) {a b off : Int} {tgt : Nat} (ha : -2147483648 ≤ a ∧ a ≤ 2147483647) (hb : -2147483648 ≤ b ∧ b ≤ 2147483647) (hd : decode cc pc = .ok (.if_icmp .ge off, 3)) (ht : (pc : Int) + off = (tgt : Int)) (kt : b ≤ a → xw_W p l e R s m args below meth c Q D dA A nL cl KT al kc ks μ tgt L st) (kf : ¬ b ≤ a → xw_W p l e R s m args below meth c Q D dA A nL cl KT al kc ks μ (pc + 3) L st) : xw_W p l e R s m args below meth c Q D dA A nL cl KT al kc ks μ pc L (.int (Int32.ofInt b) :: .int (Int32.ofInt a) :: st) :=
  fun H locs ls w h1 h2 h3 h4 h5 => lv_icmp_ge C0.1 C0.2.1 hd ht (fun q => kt ((xw_le hb ha).mp q) H locs ls w h1 h2 h3 h4 h5) (fun q => kf (fun z => q ((xw_le hb ha).mpr z)) H locs ls w h1 h2 h3 h4 h5)
theorem xw_if_ge (C0 : sa_C p s m args c D dA A nL cl Ts cc own) {a off : Int} {tgt : Nat} (ha : -2147483648 ≤ a ∧ a ≤ 2147483647) (hd : decode cc pc = .ok (.ifCond .ge off, 3)) (ht : (pc : Int) + off = (tgt : Int)) (kt : 0 ≤ a → xw_W p l e R s m args below meth c Q D dA A nL cl KT al kc ks μ tgt L st) (kf : ¬ 0 ≤ a → xw_W p l e R s m args below meth c Q D dA A nL cl KT al kc ks μ (pc + 3) L st) : xw_W p l e R s m args below meth c Q D dA A nL cl KT al kc ks μ pc L (.int (Int32.ofInt a) :: st) :=
  fun H locs ls w h1 h2 h3 h4 h5 => lv_if_ge C0.1 C0.2.1 hd ht (fun q => kt ((xw_le xw_r0 ha).mp q) H locs ls w h1 h2 h3 h4 h5) (fun q => kf (fun z => q ((xw_le xw_r0 ha).mpr z)) H locs ls w h1 h2 h3 h4 h5)
theorem xw_icmp_gt (C0 : sa_C p s m args c D dA A nL cl Ts cc own) {a b off : Int} {tgt : Nat} (ha : -2147483648 ≤ a ∧ a ≤ 2147483647) (hb : -2147483648 ≤ b ∧ b ≤ 2147483647) (hd : decode cc pc = .ok (.if_icmp .gt off, 3)) (ht : (pc : Int) + off = (tgt : Int)) (kt : b < a → xw_W p l e R s m args below meth c Q D dA A nL cl KT al kc ks μ tgt L st) (kf : ¬ b < a → xw_W p l e R s m args below meth c Q D dA A nL cl KT al kc ks μ (pc + 3) L st) : xw_W p l e R s m args below meth c Q D dA A nL cl KT al kc ks μ pc L (.int (Int32.ofInt b) :: .int (Int32.ofInt a) :: st) :=
  fun H locs ls w h1 h2 h3 h4 h5 => lv_icmp_gt C0.1 C0.2.1 hd ht (fun q => kt ((xw_lt hb ha).mp q) H locs ls w h1 h2 h3 h4 h5) (fun q => kf (fun z => q ((xw_lt hb ha).mpr z)) H locs ls w h1 h2 h3 h4 h5)
theorem xw_if_gt (C0 : sa_C p s m args c D dA A nL cl Ts cc own) {a off : Int} {tgt : Nat} (ha : -2147483648 ≤ a ∧ a ≤ 2147483647) (hd : decode cc pc = .ok (.ifCond .gt off, 3)) (ht : (pc : Int) + off = (tgt : Int)) (kt : 0 < a → xw_W p l e R s m args below meth c Q D dA A nL cl KT al kc ks μ tgt L st) (kf : ¬ 0 < a → xw_W p l e R s m args below meth c Q D dA A nL cl KT al kc ks μ (pc + 3) L st) : xw_W p l e R s m args below meth c Q D dA A nL cl KT al kc ks μ pc L (.int (Int32.ofInt a) :: st) :=
  fun H locs ls w h1 h2 h3 h4 h5 => lv_if_gt C0.1 C0.2.1 hd ht (fun q => kt ((xw_lt xw_r0 ha).mp q) H locs ls w h1 h2 h3 h4 h5) (fun q => kf (fun z => q ((xw_lt xw_r0 ha).mpr z)) H locs ls w h1 h2 h3 h4 h5)
theorem xw_icmp_le (C0 : sa_C p s m args c D dA A nL cl Ts cc own) {a b off : Int} {tgt : Nat} (ha : -2147483648 ≤ a ∧ a ≤ 2147483647) (hb : -2147483648 ≤ b ∧ b ≤ 2147483647) (hd : decode cc pc = .ok (.if_icmp .le off, 3)) (ht : (pc : Int) + off = (tgt : Int)) (kt : a ≤ b → xw_W p l e R s m args below meth c Q D dA A nL cl KT al kc ks μ tgt L st) (kf : ¬ a ≤ b → xw_W p l e R s m args below meth c Q D dA A nL cl KT al kc ks μ (pc + 3) L st) : xw_W p l e R s m args below meth c Q D dA A nL cl KT al kc ks μ pc L (.int (Int32.ofInt b) :: .int (Int32.ofInt a) :: st) :=
  fun H locs ls w h1 h2 h3 h4 h5 => lv_icmp_le C0.1 C0.2.1 hd ht (fun q => kt ((xw_le ha hb).mp q) H locs ls w h1 h2 h3 h4 h5) (fun q => kf (fun z => q ((xw_le ha hb).mpr z)) H locs ls w h1 h2 h3 h4 h5)
theorem xw_if_le (C0 : sa_C p s m args c D dA A nL cl Ts cc own) {a off : Int} {tgt : Nat} (ha : -2147483648 ≤ a ∧ a ≤ 2147483647) (hd : decode cc pc = .ok (.ifCond .le off, 3)) (ht : (pc : Int) + off = (tgt : Int)) (kt : a ≤ 0 → xw_W p l e R s m args below meth c Q D dA A nL cl KT al kc ks μ tgt L st) (kf : ¬ a ≤ 0 → xw_W p l e R s m args below meth c Q D dA A nL cl KT al kc ks μ (pc + 3) L st) : xw_W p l e R s m args below meth c Q D dA A nL cl KT al kc ks μ pc L (.int (Int32.ofInt a) :: st) :=
  fun H locs ls w h1 h2 h3 h4 h5 => lv_if_le C0.1 C0.2.1 hd ht (fun q => kt ((xw_le ha xw_r0).mp q) H locs ls w h1 h2 h3 h4 h5) (fun q => kf (fun z => q ((xw_le ha xw_r0).mpr z)) H locs ls w h1 h2 h3 h4 h5)
theorem xw_goto (C0 : sa_C p s m args c D dA A nL cl Ts cc own) {off : Int} {tgt : Nat} (hd : decode cc pc = .ok (.goto off, 3)) (ht : (pc : Int) + off = (tgt : Int)) (kk : xw_W p l e R s m args below meth c Q D dA A nL cl KT al kc ks μ tgt L st) : xw_W p l e R s m args below meth c Q D dA A nL cl KT al kc ks μ pc L st :=
  fun H locs ls w h1 h2 h3 h4 h5 => lv_goto C0.1 C0.2.1 hd ht (kk H locs ls w h1 h2 h3 h4 h5)
theorem xw_tabI (C0 : sa_C p s m args c D dA A nL cl Ts cc own) {a dflt lo hi off : Int} {offs : Array Int} {len tgt : Nat} (ha : -2147483648 ≤ a ∧ a ≤ 2147483647) (hd : decode cc pc = .ok (.tableswitch dflt lo hi offs, len)) (h1 : ¬ a < lo) (h2 : ¬ hi < a) (ho : offs[(a - lo).toNat]? = some off) (ht : (pc : Int) + off = (tgt : Int)) (kk : xw_W p l e R s m args below meth c Q D dA A nL cl KT al kc ks μ tgt L st) : xw_W p l e R s m args below meth c Q D dA A nL cl KT al kc ks μ pc L (.int (Int32.ofInt a) :: st) :=
  fun H locs ls w g1 g2 g3 g4 g5 => lv_tableIn C0.1 C0.2.1 hd (by rw [xw_ti ha]; exact h1) (by rw [xw_ti ha]; exact h2) (by rw [xw_ti ha]; exact ho) ht (kk H locs ls w g1 g2 g3 g4 g5)
theorem xw_tabO (C0 : sa_C p s m args c D dA A nL cl Ts cc own) {a dflt lo hi : Int} {offs : Array Int} {len tgt : Nat} (ha : -2147483648 ≤ a ∧ a ≤ 2147483647) (hd : decode cc pc = .ok (.tableswitch dflt lo hi offs, len)) (h : a < lo ∨ hi < a) (ht : (pc : Int) + dflt = (tgt : Int)) (kk : xw_W p l e R s m args below meth c Q D dA A nL cl KT al kc ks μ tgt L st) : xw_W p l e R s m args below meth c Q D dA A nL cl KT al kc ks μ pc L (.int (Int32.ofInt a) :: st) :=
  fun H locs ls w g1 g2 g3 g4 g5 => lv_tableOut C0.1 C0.2.1 hd (by rw [xw_ti ha]; exact h) ht (kk H locs ls w g1 g2 g3 g4 g5)
theorem xw_look (C0 : sa_C p s m args c D dA A nL cl Ts cc own) {a dflt off : Int} {ps : Array (Int × Int)} {len tgt : Nat} (ha : -2147483648 ≤ a ∧ a ≤ 2147483647) (hd : decode cc pc = .ok (.lookupswitch dflt ps, len)) (hp : (ps.toList.zip (ps.toList.drop 1)).all (fun (a, next) => a.1 < next.1) = true) (ho : Op.lookupswitch.offset ps.toList dflt a = off) (ht : (pc : Int) + off = (tgt : Int)) (kk : xw_W p l e R s m args below meth c Q D dA A nL cl KT al kc ks μ tgt L st) : xw_W p l e R s m args below meth c Q D dA A nL cl KT al kc ks μ pc L (.int (Int32.ofInt a) :: st) :=
  fun H locs ls w g1 g2 g3 g4 g5 => lv_lookup C0.1 C0.2.1 hd hp (by rw [xw_ti ha]; exact ho) ht (kk H locs ls w g1 g2 g3 g4 g5)
end XWB
