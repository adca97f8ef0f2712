section TYC
/-! steps that stay where they are -/
noncomputable def tb_sil (p : Program) (l : Launch) (e : Env) (R : Room) (s : State) (m : MethodId) (args : Array Value) (below : List Frame) (meth : Method) (c : Code) (Q : State → Prop) (D : va_G) (dA : Nat → ClassId) (A : Nat → Prop) (nL : Nat) (cl : List vw_C) (n0 : Nat) (V0 : sa_V) (E : tb_E) (op : tb_op) : Prop :=
  ∀ (S : tb_S) (sts : List tb_S), op S = some sts → (∀ S' ∈ sts, tb_W p l e R s m args below meth c Q D dA A nL cl n0 V0 E S') → tb_W p l e R s m args below meth c Q D dA A nL cl n0 V0 E S
noncomputable def tb_cat (op : tb_op) (pc : Nat) : List tb_S → Option (List tb_S)
  | [] => some []
  | S :: l => if S.1 = pc then match op S, tb_cat op pc l with
    | some a, some b => some (a ++ b)
    | _, _ => none
    else none
noncomputable def tb_seq (h op : tb_op) : tb_op := fun S => match h S with
  | some sts => tb_cat op S.1 sts
  | none => none
theorem tb_cat_ok {p : Program} {l : Launch} {e : Env} {R : Room} {s : State} {m : MethodId} {args : Array Value} {below : List Frame} {meth : Method} {c : Code} {Q : State → Prop} {D : va_G} {dA : Nat → ClassId} {A : Nat → Prop} {nL : Nat} {cl : List vw_C} {n0 : Nat} {V0 : sa_V} {E : tb_E} {op : tb_op} {pc : Nat} (h : tb_snd p l e R s m args below meth c Q D dA A nL cl n0 V0 E pc op) : ∀ {l9 r : List tb_S}, tb_cat op pc l9 = some r → (∀ S' ∈ r, tb_W p l e R s m args below meth c Q D dA A nL cl n0 V0 E S') → ∀ S ∈ l9, tb_W p l e R s m args below meth c Q D dA A nL cl n0 V0 E S
  | [], _, _, _, S, hS => by cases hS
  | S0 :: l9, r, hc, hr, S, hS => by
    unfold tb_cat at hc
    split at hc
    · rename_i hpc
      split at hc
      · rename_i a b ha hb
        cases hc
        rcases List.mem_cons.mp hS with rfl | hS
        · exact h S a hpc ha (fun S' h' => hr S' (List.mem_append_left _ h'))
        · exact tb_cat_ok h hb (fun S' h' => hr S' (List.mem_append_right _ h')) S hS
      · cases hc
    · cases hc
theorem tn_seq {p : Program} {l : Launch} {e : Env} {R : Room} {s : State} {m : MethodId} {args : Array Value} {below : List Frame} {meth : Method} {c : Code} {Q : State → Prop} {D : va_G} {dA : Nat → ClassId} {A : Nat → Prop} {nL : Nat} {cl : List vw_C} {n0 : Nat} {V0 : sa_V} {E : tb_E} {h op : tb_op} {pc : Nat} (h1 : tb_sil p l e R s m args below meth c Q D dA A nL cl n0 V0 E h) (h2 : tb_snd p l e R s m args below meth c Q D dA A nL cl n0 V0 E pc op) : tb_snd p l e R s m args below meth c Q D dA A nL cl n0 V0 E pc (tb_seq h op) := by
  intro S sts hpc hs k
  unfold tb_seq at hs
  split at hs
  · rename_i ss hss
    rw [hpc] at hs
    exact h1 S ss hss (tb_cat_ok h2 hs k)
  · cases hs
/-- a chain of places -/
noncomputable def tb_walk (Z : tb_Z) (rs : List Nat) (lo : sa_L) (st : List sa_v) : List Nat → sa_v × tb_c × sa_B → Option (sa_v × tb_c × sa_B)
  | [], x => some x
  | i :: l, x => match x.1 with
    | .inr (.inl (some k)) => if tb_wf x.2.2.length lo st x.2.1 = true then match tb_load Z rs x.2.1 x.2.2 k (0, (i : Int)) with
      | some y => tb_walk Z rs lo st l y
      | none => none
      else none
    | _ => none
theorem tb_walk_ok {D : va_G} {dA : Nat → ClassId} {A : Nat → Prop} {nL : Nat} {cl : List vw_C} {n0 : Nat} {V0 : sa_V} {E : tb_E} {H0 : Heap} {lo : sa_L} {st : List sa_v} {H : Heap} {locs : List Loc} {ls : Array Slot} {Z : tb_Z} {rs : List Nat} (hz : tb_z E = Z) (hcv : Z.1.all tb_cv = true) : ∀ (l : List Nat) (x y : sa_v × tb_c × sa_B) (V : sa_V), tb_G D dA A nL cl n0 V0 E H0 V lo x.2.1 x.2.2 H locs ls → tb_walk Z rs lo st l x = some y → ∃ V' : sa_V, tb_G D dA A nL cl n0 V0 E H0 V' lo y.2.1 y.2.2 H locs ls ∧ st.map (sa_val V') = st.map (sa_val V)
  | [], x, y, V, hG, h => by cases h; exact ⟨V, hG, rfl⟩
  | i :: l, x, y, V, hG, h => by
    unfold tb_walk at h
    split at h
    · split at h
      · rename_i hw
        split at h
        · rename_i z hl
          obtain ⟨V1, g1, g2⟩ := tb_load_sil hz hcv hG hw (show _ = some (z.1, z.2.1, z.2.2) from hl)
          obtain ⟨V2, g3, g4⟩ := tb_walk_ok hz hcv l z y V1 g1 h
          exact ⟨V2, g3, g4.trans g2⟩
        · cases h
      · cases h
    · cases h
noncomputable def tb_ld (Z : tb_Z) (rs : List Nat) (i : Nat) (path : List Nat) : tb_op := fun S => match sa_look i S.2.1 with
  | some v => match tb_walk Z rs S.2.1 S.2.2.1 path (v, S.2.2.2.1, S.2.2.2.2.1) with
    | some y => some [(S.1, S.2.1, S.2.2.1, y.2.1, y.2.2, S.2.2.2.2.2)]
    | none => none
  | none => none
theorem tn_ld {p : Program} {l : Launch} {e : Env} {R : Room} {s : State} {m : MethodId} {args : Array Value} {below : List Frame} {meth : Method} {c : Code} {Q : State → Prop} {D : va_G} {dA : Nat → ClassId} {A : Nat → Prop} {nL : Nat} {cl : List vw_C} {n0 : Nat} {V0 : sa_V} {E : tb_E} {Z : tb_Z} {rs : List Nat} (hz : tb_z E = Z) (hcv : Z.1.all tb_cv = true) {i : Nat} {path : List Nat} : tb_sil p l e R s m args below meth c Q D dA A nL cl n0 V0 E (tb_ld Z rs i path) := by
  rintro ⟨pc, lo, st, cs, G, kc, ks⟩ sts h k V H locs ls hG
  unfold tb_ld at h
  dsimp only at h
  split at h
  · rename_i v hv
    split at h
    · rename_i y hy
      cases h
      obtain ⟨V', g1, g2⟩ := tb_walk_ok hz hcv path _ y V hG hy
      have h9 := k _ List.mem_cons_self V' H locs ls g1
      dsimp only at h9
      rw [g2] at h9
      exact h9
    · cases h
  · cases h
/-- each value of a number -/
noncomputable def tb_vals (G : sa_B) (s : Nat) : Nat → Int → List sa_B
  | 0, _ => []
  | n + 1, z => sa_hi (sa_lw G s z) s z :: tb_vals G s n (z + 1)
theorem tb_vals_ok {V : sa_V} {G : sa_B} {s : Nat} (hI : sa_I V G) : ∀ (n : Nat) (z : Int), z ≤ (V s).1 → (V s).1 < z + n → ∃ G' ∈ tb_vals G s n z, sa_I V G' ∧ G'.length = G.length
  | 0, z, h1, h2 => by omega
  | n + 1, z, h1, h2 => by
    by_cases h : (V s).1 = z
    · exact ⟨_, List.mem_cons_self, sa_I_hi (sa_I_lw hI (by omega)) (by omega), by rw [sa_hi_len, sa_lw_len]⟩
    · obtain ⟨G', g1, g2⟩ := tb_vals_ok (s := s) hI n (z + 1) (by omega) (by omega)
      exact ⟨G', List.mem_cons_of_mem _ g1, g2⟩
noncomputable def tb_spl0 (s : Nat) : tb_op := fun S => match S.2.2.2.2.1[s]? with
  | some b => some ((tb_vals S.2.2.2.2.1 s (b.2 - b.1 + 1).toNat b.1).map (fun G' => (S.1, S.2.1, S.2.2.1, S.2.2.2.1, G', S.2.2.2.2.2)))
  | none => none
theorem tb_spl0_ok {p : Program} {l : Launch} {e : Env} {R : Room} {s : State} {m : MethodId} {args : Array Value} {below : List Frame} {meth : Method} {c : Code} {Q : State → Prop} {D : va_G} {dA : Nat → ClassId} {A : Nat → Prop} {nL : Nat} {cl : List vw_C} {n0 : Nat} {V0 : sa_V} {E : tb_E} {s0 : Nat} : tb_sil p l e R s m args below meth c Q D dA A nL cl n0 V0 E (tb_spl0 s0) := by
  rintro ⟨pc, lo, st, cs, G, kc, ks⟩ sts h k V H locs ls hG
  unfold tb_spl0 at h
  dsimp only at h
  split at h
  · rename_i b hb
    cases h
    obtain ⟨h1, h2⟩ := hG.1.1.1 _ _ hb
    obtain ⟨G', g1, g2, g3⟩ := tb_vals_ok hG.1.1 (b.2 - b.1 + 1).toNat b.1 h1 (by omega)
    exact k _ (List.mem_map.mpr ⟨G', g1, rfl⟩) V H locs ls ⟨⟨g2, by show n0 ≤ G'.length; rw [g3]; exact hG.1.2.1, hG.1.2.2⟩, hG.2⟩
  · cases h
/-- each value of what stands at a place -/
noncomputable def tb_spl (Z : tb_Z) (i : Nat) (path : List Nat) : tb_op := fun S => match sa_look i S.2.1 with
  | some v => match tb_walk Z [] S.2.1 S.2.2.1 path (v, S.2.2.2.1, S.2.2.2.2.1) with
    | some y => match y.1 with
      | .inl q => tb_spl0 q.1 (S.1, S.2.1, S.2.2.1, y.2.1, y.2.2, S.2.2.2.2.2)
      | _ => none
    | none => none
  | none => none
theorem tn_spl {p : Program} {l : Launch} {e : Env} {R : Room} {s : State} {m : MethodId} {args : Array Value} {below : List Frame} {meth : Method} {c : Code} {Q : State → Prop} {D : va_G} {dA : Nat → ClassId} {A : Nat → Prop} {nL : Nat} {cl : List vw_C} {n0 : Nat} {V0 : sa_V} {E : tb_E} {Z : tb_Z} (hz : tb_z E = Z) (hcv : Z.1.all tb_cv = true) {i : Nat} {path : List Nat} : tb_sil p l e R s m args below meth c Q D dA A nL cl n0 V0 E (tb_spl Z i path) := by
  rintro ⟨pc, lo, st, cs, G, kc, ks⟩ sts h k V H locs ls hG
  unfold tb_spl at h
  dsimp only at h
  split at h
  · rename_i v hv
    split at h
    · rename_i y hy
      split at h
      · rename_i q hq
        obtain ⟨V', g1, g2⟩ := tb_walk_ok hz hcv path _ y V hG hy
        have h9 := tb_spl0_ok (p := p) (l := l) (e := e) (R := R) (s := s) (m := m) (args := args) (below := below) (meth := meth) (c := c) (Q := Q) (D := D) (dA := dA) (A := A) (nL := nL) (cl := cl) (n0 := n0) (V0 := V0) (E := E) _ _ h k V' H locs ls g1
        dsimp only at h9
        rw [g2] at h9
        exact h9
      · cases h
    · cases h
  · cases h
/-- each kind of a reference on the stack -/
noncomputable def tb_ksp (d : Nat) : tb_op := fun S => match S.2.2.1[d]? with
  | some (.inr (.inl (some k))) => tb_spl0 k S
  | _ => none
theorem tn_ksp {p : Program} {l : Launch} {e : Env} {R : Room} {s : State} {m : MethodId} {args : Array Value} {below : List Frame} {meth : Method} {c : Code} {Q : State → Prop} {D : va_G} {dA : Nat → ClassId} {A : Nat → Prop} {nL : Nat} {cl : List vw_C} {n0 : Nat} {V0 : sa_V} {E : tb_E} {d : Nat} : tb_sil p l e R s m args below meth c Q D dA A nL cl n0 V0 E (tb_ksp d) := by
  intro S sts h k
  unfold tb_ksp at h
  split at h
  · exact tb_spl0_ok S sts h k
  · cases h
/-- bounds by rules, of slots that are known already -/
noncomputable def tb_ar (Z : tb_Z) (cs : tb_c) : List Nat → sa_B → sa_B
  | [], G => G
  | r :: l, G => match Z.2.2[r]? with
    | some ru => match tb_sv G ru.2.1 ru.2.2.1 cs.1 with
      | some v => if ¬ r ∈ cs.2.1 ∧ ru.1.all (tb_pin G cs.1) = true ∧ Z.2.1.getD ru.2.1 false = true ∧ (sa_iv G v).isSome = true then tb_ar Z cs l (sa_hi (sa_lw G v.1 (ru.2.2.2.1 - v.2)) v.1 (ru.2.2.2.2 - v.2)) else tb_ar Z cs l G
      | none => tb_ar Z cs l G
    | none => tb_ar Z cs l G
theorem tb_ar_ok {E : tb_E} {A : Nat → Prop} {V : sa_V} {w : va_W} {Z : tb_Z} {cs : tb_c} (hz : tb_z E = Z) (hX : tb_X E V) (hD : va_D A w) (hf : ∀ f ∈ cs.1, tb_fa V w f) (hr : ∀ (i : Nat) (r : tb_ru), Z.2.2[i]? = some r → i ∉ cs.2.1 → tb_rh (tb_al E) w r) : ∀ (l : List Nat) (G : sa_B), sa_I V G → sa_I V (tb_ar Z cs l G) ∧ (tb_ar Z cs l G).length = G.length
  | [], G, h => ⟨h, rfl⟩
  | r :: l, G, h => by
    unfold tb_ar
    split
    · rename_i ru hru
      split
      · rename_i v hv
        split
        · rename_i hh
          obtain ⟨h1, h2, h3, h4⟩ := hh
          obtain ⟨b, hb⟩ := Option.isSome_iff_exists.mp h4
          obtain ⟨j, a, g1, g2⟩ := tb_sv_ok h hX hf hv
          obtain ⟨x, g3, g4, g5⟩ := tb_in_slt.mp (hr r ru hru h1 (fun p hp => tb_pin_ok h hX hf (List.all_eq_true.mp h2 p hp)))
          have := tb_slt_one hX hD (by unfold tb_sg; rw [hz]; exact h3) g3 ⟨j, a, g1, g2⟩
          subst this
          obtain ⟨e1, -, -⟩ := sa_iv_ok h hb
          obtain ⟨r1, r2⟩ := tb_ar_ok hz hX hD hf hr l _ (sa_I_hi (s := v.1) (z := ru.2.2.2.2 - v.2) (sa_I_lw (s := v.1) (z := ru.2.2.2.1 - v.2) h (by omega)) (by omega))
          exact ⟨r1, by rw [r2, sa_hi_len, sa_lw_len]⟩
        · exact tb_ar_ok hz hX hD hf hr l G h
      · exact tb_ar_ok hz hX hD hf hr l G h
    · exact tb_ar_ok hz hX hD hf hr l G h
noncomputable def tb_rul (Z : tb_Z) (rs : List Nat) : tb_op := fun S => match (tb_ar Z S.2.2.2.1 rs S.2.2.2.2.1).all (fun b => decide (b.1 ≤ b.2)) with
  | true => some [(S.1, S.2.1, S.2.2.1, S.2.2.2.1, tb_ar Z S.2.2.2.1 rs S.2.2.2.2.1, S.2.2.2.2.2)]
  | false => some []
theorem tb_all_ok {V : sa_V} {G : sa_B} (h : sa_I V G) : G.all (fun b => decide (b.1 ≤ b.2)) = true := List.all_eq_true.mpr (fun b hb => decide_eq_true (by
  obtain ⟨i, hi⟩ := List.getElem?_of_mem hb
  have := h.1 i b hi
  omega))
theorem tn_rul {p : Program} {l : Launch} {e : Env} {R : Room} {s : State} {m : MethodId} {args : Array Value} {below : List Frame} {meth : Method} {c : Code} {Q : State → Prop} {D : va_G} {dA : Nat → ClassId} {A : Nat → Prop} {nL : Nat} {cl : List vw_C} {n0 : Nat} {V0 : sa_V} {E : tb_E} {Z : tb_Z} {rs : List Nat} (hz : tb_z E = Z) : tb_sil p l e R s m args below meth c Q D dA A nL cl n0 V0 E (tb_rul Z rs) := by
  rintro ⟨pc, lo, st, cs, G, kc, ks⟩ sts h k V H locs ls hG
  obtain ⟨w, n1, n2, n3, n4, n5, n6, n7⟩ := hG.2.2.1
  obtain ⟨r1, r2⟩ := tb_ar_ok hz hG.2.2.2.1 n2 n5 (by rw [← hz]; exact n6) rs G hG.1.1
  unfold tb_rul at h
  dsimp only at h
  rw [tb_all_ok r1] at h
  cases h
  exact k _ List.mem_cons_self V H locs ls ⟨⟨r1, by show n0 ≤ (tb_ar Z cs rs G).length; rw [r2]; exact hG.1.2.1, hG.1.2.2⟩, hG.2⟩
/-- bounds of a sign by the relations -/
noncomputable def tb_drop (s : Nat) : List (Nat × Int) → Option (Int × List (Nat × Int))
  | [] => none
  | q :: l => if q.1 = s then some (q.2, l) else match tb_drop s l with
    | some r => some (r.1, q :: r.2)
    | none => none
theorem tb_drop_ev {V : sa_V} {s : Nat} : ∀ {l : List (Nat × Int)} {r : Int × List (Nat × Int)}, tb_drop s l = some r → tb_ev V l = r.1 * (V s).1 + tb_ev V r.2
  | [], _, h => by cases h
  | q :: l, r, h => by
    unfold tb_drop at h
    split at h
    · rename_i h1
      cases h
      subst h1
      rfl
    · split at h
      · rename_i r' hr
        cases h
        have ih := tb_drop_ev (V := V) hr
        show q.2 * (V q.1).1 + tb_ev V l = r'.1 * (V s).1 + (q.2 * (V q.1).1 + tb_ev V r'.2)
        rw [ih]
        omega
      · cases h
noncomputable def tb_neg (l : List (Nat × Int)) : List (Nat × Int) := l.map (fun q => (q.1, -q.2))
theorem tb_neg_ev {V : sa_V} : ∀ l : List (Nat × Int), tb_ev V (tb_neg l) = - tb_ev V l
  | [] => rfl
  | q :: l => by
    show -q.2 * (V q.1).1 + tb_ev V (tb_neg l) = -(q.2 * (V q.1).1 + tb_ev V l)
    rw [tb_neg_ev l, Int.neg_mul]
    omega
noncomputable def tb_tg1 (s : Nat) (G : sa_B) (r : tb_l) : sa_B := match tb_drop s r.1 with
  | some x => match tb_mx G (tb_neg x.2) with
    | some m => if x.1 = 1 then sa_hi G s (r.2 + m) else if x.1 = -1 then sa_lw G s (-(r.2 + m)) else G
    | none => G
  | none => G
theorem tb_tg1_ok {V : sa_V} {s : Nat} {G : sa_B} {r : tb_l} (hI : sa_I V G) (hr : tb_lo V r) : sa_I V (tb_tg1 s G r) ∧ (tb_tg1 s G r).length = G.length := by
  unfold tb_tg1
  split
  · rename_i x hx
    split
    · rename_i m hm
      have h1 := tb_mx_ok hI hm
      rw [tb_neg_ev] at h1
      have h2 := tb_drop_ev (V := V) hx
      have h3 : tb_ev V r.1 ≤ r.2 := hr
      split
      · rename_i h4
        rw [h4, Int.one_mul] at h2
        exact ⟨sa_I_hi hI (by omega), sa_hi_len _ _ _⟩
      · split
        · rename_i h4
          rw [h4] at h2
          exact ⟨sa_I_lw hI (by omega), sa_lw_len _ _ _⟩
        · exact ⟨hI, rfl⟩
    · exact ⟨hI, rfl⟩
  · exact ⟨hI, rfl⟩
noncomputable def tb_tgs (s : Nat) : List tb_l → sa_B → sa_B
  | [], G => G
  | r :: l, G => tb_tgs s l (tb_tg1 s G r)
theorem tb_tgs_ok {V : sa_V} {s : Nat} : ∀ (l : List tb_l) (G : sa_B), sa_I V G → (∀ r ∈ l, tb_lo V r) → sa_I V (tb_tgs s l G) ∧ (tb_tgs s l G).length = G.length
  | [], G, h, _ => ⟨h, rfl⟩
  | r :: l, G, h, hr => by
    obtain ⟨h1, h2⟩ := tb_tg1_ok (s := s) h (hr r List.mem_cons_self)
    obtain ⟨h3, h4⟩ := tb_tgs_ok (s := s) l _ h1 (fun x hx => hr x (List.mem_cons_of_mem _ hx))
    exact ⟨h3, h4.trans h2⟩
noncomputable def tb_tig (Z : tb_Z) (i : Nat) (path : List Nat) : tb_op := fun S => match sa_look i S.2.1 with
  | some v => match tb_walk Z [] S.2.1 S.2.2.1 path (v, S.2.2.2.1, S.2.2.2.2.1) with
    | some y => match y.1 with
      | .inl q => match (tb_tgs q.1 y.2.1.2.2 y.2.2).all (fun b => decide (b.1 ≤ b.2)) with
        | true => some [(S.1, S.2.1, S.2.2.1, y.2.1, tb_tgs q.1 y.2.1.2.2 y.2.2, S.2.2.2.2.2)]
        | false => some []
      | _ => none
    | none => none
  | none => none
theorem tn_tig {p : Program} {l : Launch} {e : Env} {R : Room} {s : State} {m : MethodId} {args : Array Value} {below : List Frame} {meth : Method} {c : Code} {Q : State → Prop} {D : va_G} {dA : Nat → ClassId} {A : Nat → Prop} {nL : Nat} {cl : List vw_C} {n0 : Nat} {V0 : sa_V} {E : tb_E} {Z : tb_Z} (hz : tb_z E = Z) (hcv : Z.1.all tb_cv = true) {i : Nat} {path : List Nat} : tb_sil p l e R s m args below meth c Q D dA A nL cl n0 V0 E (tb_tig Z i path) := by
  rintro ⟨pc, lo, st, cs, G, kc, ks⟩ sts h k V H locs ls hG
  unfold tb_tig at h
  dsimp only at h
  split at h
  · rename_i v hv
    split at h
    · rename_i y hy
      split at h
      · rename_i q hq
        obtain ⟨V', g1, g2⟩ := tb_walk_ok hz hcv path _ y V hG hy
        obtain ⟨w, n1, n2, n3, n4, n5, n6, n7⟩ := g1.2.2.1
        obtain ⟨r1, r2⟩ := tb_tgs_ok (s := q.1) y.2.1.2.2 y.2.2 g1.1.1 n7
        rw [tb_all_ok r1] at h
        cases h
        have h9 := k _ List.mem_cons_self V' H locs ls ⟨⟨r1, by show n0 ≤ (tb_tgs q.1 y.2.1.2.2 y.2.2).length; rw [r2]; exact g1.1.2.1, g1.1.2.2⟩, g1.2⟩
        dsimp only at h9
        rw [g2] at h9
        exact h9
      · cases h
    · cases h
  · cases h
/-- two of them, one behind the other -/
noncomputable def tb_hh (h1 h2 : tb_op) : tb_op := fun S => match h1 S with
  | some sts => tb_cat h2 S.1 sts
  | none => none
theorem tn_hh {p : Program} {l : Launch} {e : Env} {R : Room} {s : State} {m : MethodId} {args : Array Value} {below : List Frame} {meth : Method} {c : Code} {Q : State → Prop} {D : va_G} {dA : Nat → ClassId} {A : Nat → Prop} {nL : Nat} {cl : List vw_C} {n0 : Nat} {V0 : sa_V} {E : tb_E} {h1 h2 : tb_op} (g1 : tb_sil p l e R s m args below meth c Q D dA A nL cl n0 V0 E h1) (g2 : tb_sil p l e R s m args below meth c Q D dA A nL cl n0 V0 E h2) : tb_sil p l e R s m args below meth c Q D dA A nL cl n0 V0 E (tb_hh h1 h2) := by
  intro S sts h k
  exact tn_seq (pc := S.1) g1 (fun S' sts' _ h' k' => g2 S' sts' h' k') S sts rfl h k
end TYC
