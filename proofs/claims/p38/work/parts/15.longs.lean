section SA5
noncomputable def sa_ixin (G : sa_B) (x : Nat × Int) (N : Nat) : Bool := match sa_ixn G x with
  | some j => decide (j < N)
  | none => false
noncomputable def so_i2b : sa_op := fun S => match S.2.2.1 with
  | .inl x :: rest => sa_push (S.1 + 1) S.2.1 rest S.2.2.2.1 S.2.2.2.2.1 S.2.2.2.2.2.1 S.2.2.2.2.2.2 (if x.1 = 0 then .inl (0, (Int32.ofInt x.2).toInt8.toInt32.toInt) else .inr (-128, 127))
  | _ => none
theorem sn_i2b {p : Program} {l : Launch} {e : Env} {R : Room} {s : State} {m : MethodId} {args : Array Value} {below : List Frame} {meth : Method} {c : Code} {Q : State → Prop} {D : va_G} {dA : Nat → ClassId} {A : Nat → Prop} {nL : Nat} {cl : List vw_C} {n0 : Nat} {V0 : sa_V} {Ts : List Cond} {cc : ByteArray} {own : String} (C0 : sa_C p s m args c D dA A nL cl Ts cc own) {pc : Nat}  (hd : decode cc pc = .ok (.i2b, 1)) : sa_snd p l e R s m args below meth c Q D dA A nL cl n0 V0 pc so_i2b := by
  obtain ⟨hx, hb, hts, hown, hml, hK, hA⟩ := C0
  rintro ⟨pc, lo, st, cs, G, kc, ks⟩ sts rfl h k V H locs ls hG
  unfold so_i2b at h
  dsimp only at h
  split at h
  · rename_i x rest
    refine lv_i2b (v := (sa_i V x).toInt8.toInt32) hx hb hd rfl (sa_push_ok hG ?_ h k)
    split
    · rename_i h1
      rw [sa_k0 hG.1.1 h1]
      exact sa_is_c hG.1.1 _
    · refine ⟨?_, ?_⟩
      · show -128 ≤ (sa_i V x).toInt8.toInt32.toInt
        rw [Int8.toInt_toInt32]
        exact Int8.le_toInt _
      · show (sa_i V x).toInt8.toInt32.toInt ≤ 127
        rw [Int8.toInt_toInt32]
        have := Int8.toInt_lt (sa_i V x).toInt8
        omega
  · cases h
theorem sa_pushl_ok {p : Program} {l : Launch} {e : Env} {R : Room} {s : State} {m : MethodId} {args : Array Value} {below : List Frame} {meth : Method} {c : Code} {Q : State → Prop} {D : va_G} {dA : Nat → ClassId} {A : Nat → Prop} {nL : Nat} {cl : List vw_C} {n0 : Nat} {V0 : sa_V} {V : sa_V} {H : Heap} {locs : List Loc} {ls : Array Slot} {pc : Nat} {lo : sa_L} {rest : List sa_v} {cs : List sa_c} {G : sa_B} {kc ks : Nat} {x : Int64} (hG : sa_G D dA A nL cl n0 V0 s.heap V lo cs G H locs ls) (hw : sa_wf G.length lo rest cs = true) (k : sa_W p l e R s m args below meth c Q D dA A nL cl n0 V0 (pc, lo, .inr (.inr G.length) :: rest, cs, G ++ [(0, 0)], kc, ks)) : W p l e R s m args below meth c H locs kc ks Q (F0 m pc ls (.long x :: rest.map (sa_val V))) := by
  obtain ⟨g1, g2⟩ := sa_G_upd (x := (0, x, fun _ => 0, 0)) (b := (0, 0)) hG hw ⟨Int.le_refl _, Int.le_refl _⟩
  have h := k _ H locs ls g1
  have e1 : (List.map (sa_val (sa_upd V G.length (0, x, fun _ => 0, 0))) (.inr (.inr G.length) :: rest)) = Value.long x :: rest.map (sa_val V) := by
    rw [List.map_cons, g2]
    congr 1
    show Value.long (sa_upd V G.length _ G.length).2.1 = _
    rw [sa_upd_eq]
  dsimp only at h
  rw [e1] at h
  exact h
noncomputable def so_lald : sa_op := fun S => match S.2.2.1 with
  | .inl x :: .inr (.inl (some a)) :: rest => match sa_find a S.2.2.2.1 0 with
    | some (_, .inr (tt, .inr (.inl q))) => if tt = 2 ∧ sa_ixin S.2.2.2.2.1 x q.1 = true ∧ sa_wf S.2.2.2.2.1.length S.2.1 rest S.2.2.2.1 = true then some [(S.1 + 1, S.2.1, .inr (.inr S.2.2.2.2.1.length) :: rest, S.2.2.2.1, S.2.2.2.2.1 ++ [(0, 0)], S.2.2.2.2.2)] else none
    | _ => none
  | _ => none
theorem sn_lald {p : Program} {l : Launch} {e : Env} {R : Room} {s : State} {m : MethodId} {args : Array Value} {below : List Frame} {meth : Method} {c : Code} {Q : State → Prop} {D : va_G} {dA : Nat → ClassId} {A : Nat → Prop} {nL : Nat} {cl : List vw_C} {n0 : Nat} {V0 : sa_V} {Ts : List Cond} {cc : ByteArray} {own : String} (C0 : sa_C p s m args c D dA A nL cl Ts cc own) {pc : Nat}  (hd : decode cc pc = .ok (.laload, 1)) : sa_snd p l e R s m args below meth c Q D dA A nL cl n0 V0 pc so_lald := by
  obtain ⟨hx, hb, hts, hown, hml, hK, hA⟩ := C0
  rintro ⟨pc, lo, st, cs, G, kc, ks⟩ sts rfl h k V H locs ls hG
  unfold so_lald at h
  dsimp only at h
  split at h
  · rename_i x a rest
    split at h
    · rename_i j tt q hj
      split at h
      · rename_i hh
        obtain ⟨h1, h2, h4⟩ := hh
        subst h1
        cases h
        unfold sa_ixin at h2
        split at h2
        rotate_left
        · cases h2
        rename_i jx hjx
        obtain ⟨i1, i2⟩ := sa_ixk hG.1.1 hjx
        have i2 := i2 _ (of_decide_eq_true h2)
        exact va_lald (D := D) hx hb hK hG.2.2.1 j 2 (sa_find_0 hj) rfl i2 hd (sa_pushl_ok hG h4 (k _ List.mem_cons_self))
      · cases h
    · cases h
  · cases h
/-- a row of longs holds something new -/
theorem sa_G_lrow {D : va_G} {dA : Nat → ClassId} {A : Nat → Prop} {nL : Nat} {cl : List vw_C} {n0 : Nat} {V0 : sa_V} {H0 : Heap} {V : sa_V} {lo : sa_L} {st : List sa_v} {cs : List sa_c} {G : sa_B} {H H1 : Heap} {locs locs1 : List Loc} {ls : Array Slot} {a i N b : Nat} {f : Nat → Int64}
    (h : sa_G D dA A nL cl n0 V0 H0 V lo cs G H locs ls) (hw : sa_wf G.length lo st cs = true) (hj : sa_find a cs 0 = some (i, .inr (2, .inr (.inl (N, b))))) (hP : va_P D cl ((cs.map (sa_e V dA)).set i (sa_ad V a, .inl (dA 2, N, .inr (.inl f)))) H1) (hD : va_D A ((cs.map (sa_e V dA)).set i (sa_ad V a, .inl (dA 2, N, .inr (.inl f))))) (hS : va_S A H0 H1 locs1) :
    sa_G D dA A nL cl n0 V0 H0 (sa_upd V G.length (0, 0, f, 0)) lo (cs.set i (a, .inr (2, .inr (.inl (N, G.length))))) (G ++ [(0, 0)]) H1 locs1 ls ∧ st.map (sa_val (sa_upd V G.length (0, 0, f, 0))) = st.map (sa_val V) := by
  have hw2 := hw
  simp only [sa_wf, Bool.and_eq_true, decide_eq_true_eq] at hw
  obtain ⟨⟨⟨h0, h1⟩, h2⟩, h3⟩ := hw
  obtain ⟨g1, g2, g3, g4, g5⟩ := h
  obtain ⟨d, hd1, hd2⟩ := sa_find_at hj
  have ha : a < G.length := by
    have := List.all_eq_true.mp h3 _ (List.mem_of_getElem? hd2)
    simp only [sa_wfc, Bool.and_eq_true, decide_eq_true_eq] at this
    exact this.1
  have he2 : (cs.set i (a, .inr (2, .inr (.inl (N, G.length))))).map (sa_e (sa_upd V G.length (0, 0, f, 0)) dA) = (cs.map (sa_e V dA)).set i (sa_ad V a, .inl (dA 2, N, .inr (.inl f))) := by
    rw [List.map_set, sa_cs_upd h3]
    congr 1
    show (sa_ad _ a, Sum.inl (dA 2, N, Sum.inr (Sum.inl (sa_upd V G.length (0, 0, f, 0) G.length).2.2.1))) = _
    unfold sa_ad
    rw [sa_upd_eq, sa_upd_ne ha]
  exact ⟨⟨sa_J_upd g1 h0 ⟨Int.le_refl _, Int.le_refl _⟩, by rw [sa_lv_upd h1]; exact g2, by rw [he2]; exact hP, by rw [he2]; exact hD, hS⟩, sa_st_upd h2⟩
noncomputable def so_last : sa_op := fun S => match S.2.2.1 with
  | .inr (.inr _) :: .inl x :: .inr (.inl (some a)) :: rest => match sa_find a S.2.2.2.1 0 with
    | some (i, .inr (tt, .inr (.inl (N, _)))) => if tt = 2 ∧ sa_ixin S.2.2.2.2.1 x N = true ∧ sa_wf S.2.2.2.2.1.length S.2.1 rest S.2.2.2.1 = true then some [(S.1 + 1, S.2.1, rest, S.2.2.2.1.set i (a, .inr (2, .inr (.inl (N, S.2.2.2.2.1.length)))), S.2.2.2.2.1 ++ [(0, 0)], S.2.2.2.2.2)] else none
    | _ => none
  | _ => none
theorem sn_last {p : Program} {l : Launch} {e : Env} {R : Room} {s : State} {m : MethodId} {args : Array Value} {below : List Frame} {meth : Method} {c : Code} {Q : State → Prop} {D : va_G} {dA : Nat → ClassId} {A : Nat → Prop} {nL : Nat} {cl : List vw_C} {n0 : Nat} {V0 : sa_V} {Ts : List Cond} {cc : ByteArray} {own : String} (C0 : sa_C p s m args c D dA A nL cl Ts cc own) {pc : Nat}  (hd : decode cc pc = .ok (.lastore, 1)) : sa_snd p l e R s m args below meth c Q D dA A nL cl n0 V0 pc so_last := by
  obtain ⟨hx, hb, hts, hown, hml, hK, hA⟩ := C0
  rintro ⟨pc, lo, st, cs, G, kc, ks⟩ sts rfl h k V H locs ls hG
  unfold so_last at h
  dsimp only at h
  split at h
  · rename_i jv x a rest
    split at h
    · rename_i i tt N b hj
      split at h
      · rename_i hh
        obtain ⟨h1, h2, h4⟩ := hh
        subst h1
        cases h
        unfold sa_ixin at h2
        split at h2
        rotate_left
        · cases h2
        rename_i jx hjx
        obtain ⟨i1, i2⟩ := sa_ixk hG.1.1 hjx
        have i2 := i2 _ (of_decide_eq_true h2)
        refine va_last (D := D) (x := (V jv).2.1) hx hb hK hG.2.2.1 hG.2.2.2.1 hG.2.2.2.2 i 2 (sa_find_0 hj) rfl i2 hd (fun H1 locs1 hP hD hS => ?_)
        obtain ⟨g1, g2⟩ := sa_G_lrow hG h4 hj hP hD hS
        have h9 := k _ List.mem_cons_self _ H1 locs1 ls g1
        dsimp only at h9
        rw [g2] at h9
        exact h9
      · cases h
    · cases h
  · cases h
/-- a row of ints is copied whole -/
noncomputable def so_acpi : sa_op := fun S => match S.2.2.1 with
  | .inl n :: .inl dp :: .inr (.inl (some a1)) :: .inl sp :: .inr (.inl (some a0)) :: [] => match sa_find a0 S.2.2.2.1 0, sa_find a1 S.2.2.2.1 0 with
    | some (_, .inr (t0, .inl l0)), some (i1, .inr (t1, .inl l1)) => if t0 = 0 ∧ t1 = 0 ∧ dp = (0, 0) ∧ sp = (0, 0) ∧ sa_ok_ix n = true ∧ n.2.toNat = l0.length ∧ l0.length = l1.length then some [(S.1 + 3, S.2.1, [], S.2.2.2.1.set i1 (a1, .inr (0, .inl l0)), S.2.2.2.2)] else none
    | _, _ => none
  | _ => none
theorem sa_cpy {V : sa_V} {l0 l1 : List (Nat × Int)} (h : l0.length = l1.length) : va_cpy (sa_f V l0) (sa_f V l1) 0 0 l0.length = sa_f V l0 := by
  funext j
  unfold va_cpy
  split
  · rw [Nat.sub_zero, Nat.zero_add]
  · rename_i hj
    have hj : l0.length ≤ j := by omega
    unfold sa_f
    rw [List.getElem?_eq_none (by omega), List.getElem?_eq_none hj]
theorem sn_acpi {p : Program} {l : Launch} {e : Env} {R : Room} {s : State} {m : MethodId} {args : Array Value} {below : List Frame} {meth : Method} {c : Code} {Q : State → Prop} {D : va_G} {dA : Nat → ClassId} {A : Nat → Prop} {nL : Nat} {cl : List vw_C} {n0 : Nat} {V0 : sa_V} {Ts : List Cond} {cc : ByteArray} {own : String} (C0 : sa_C p s m args c D dA A nL cl Ts cc own) {pc : Nat} {idx : Nat} (hd : decode cc pc = .ok (.invokestatic idx, 3)) (hl : Cond.methodLink own idx arraycopyName ∈ Ts) (hn1 : Cond.native arraycopyName ∈ Ts) (hn2 : Cond.static arraycopyName ∈ Ts) (hn3 : Cond.initialized "java/lang/System" ∈ Ts) (hR1 : 1 ≤ R.frames) (hR2 : nativeFrameWords "java/lang/System" "arraycopy" 5 + 11 ≤ R.locals) : sa_snd p l e R s m args below meth c Q D dA A nL cl n0 V0 pc so_acpi := by
  obtain ⟨hx, hb, hts, hown, hml, hK, hA⟩ := C0
  rintro ⟨pc, lo, st, cs, G, kc, ks⟩ sts rfl h k V H locs ls hG
  unfold so_acpi at h
  dsimp only at h
  split at h
  · rename_i n dp a1 sp a0
    split at h
    · rename_i i0 t0 l0 i1 t1 l1 hj0 hj1
      split at h
      · rename_i hh
        obtain ⟨h1, h2, h3, h4, h5, h6, h7⟩ := hh
        subst h1 h2 h3 h4
        have h5 := of_decide_eq_true h5
        cases h
        obtain ⟨n1, n2⟩ := sa_nn hG.1.1 h5
        have e0 : sa_i V (0, 0) = 0 := (sa_i_0 hG.1.1 0).trans rfl
        have z1 : ¬ sa_i V (0, 0) < 0 := by rw [e0]; decide
        have z2 : (sa_i V (0, 0)).toNatClampNeg = 0 := by rw [e0]; rfl
        refine va_copyi (D := D) (ty := .int) (sp := sa_i V (0, 0)) (dp := sa_i V (0, 0)) (n := sa_i V n) hx hb (by rw [hml]; exact hG.2.1.1.symm) hown (hts _ hl) (hts _ hn1) (hts _ hn2) (hts _ hn3) hK hG.2.2.1 hG.2.2.2.1 hG.2.2.2.2 i0 i1 0 0 (sa_find_0 hj0) (sa_find_0 hj1) rfl rfl rfl z1 z1 n1 (by rw [n2, z2]; omega) (by rw [n2, z2]; omega) (fun _ _ => rfl) hR1 (by rw [List.map_nil, List.map_nil]; exact (Nat.zero_add _).symm ▸ hR2) hd (fun H1 locs1 hP hD hS => ?_)
        have e9 : (cs.map (sa_e V dA)).set i1 (sa_ad V a1, .inl (dA 0, l1.length, .inl (sa_f V l0))) = (cs.set i1 (a1, .inr (0, .inl l0))).map (sa_e V dA) := by
          rw [List.map_set, ← h7]
          rfl
        rw [n2, z2, h6, sa_cpy h7, e9] at hP hD
        exact k _ List.mem_cons_self V H1 locs1 ls ⟨hG.1, hG.2.1, hP, hD, hS⟩
      · cases h
    · cases h
  · cases h
noncomputable def so_acpl : sa_op := fun S => match S.2.2.1 with
  | .inl n :: .inl dp :: .inr (.inl (some a1)) :: .inl sp :: .inr (.inl (some a0)) :: [] => match sa_find a0 S.2.2.2.1 0, sa_find a1 S.2.2.2.1 0 with
    | some (_, .inr (t0, .inr (.inl (N0, _)))), some (i1, .inr (t1, .inr (.inl (N1, _)))) => if t0 = 2 ∧ t1 = 2 ∧ dp = (0, 0) ∧ sp = (0, 0) ∧ sa_ok_ix n = true ∧ n.2.toNat ≤ N0 ∧ n.2.toNat ≤ N1 ∧ sa_wf S.2.2.2.2.1.length S.2.1 [] S.2.2.2.1 = true then some [(S.1 + 3, S.2.1, [], S.2.2.2.1.set i1 (a1, .inr (2, .inr (.inl (N1, S.2.2.2.2.1.length)))), S.2.2.2.2.1 ++ [(0, 0)], S.2.2.2.2.2)] else none
    | _, _ => none
  | _ => none
theorem sn_acpl {p : Program} {l : Launch} {e : Env} {R : Room} {s : State} {m : MethodId} {args : Array Value} {below : List Frame} {meth : Method} {c : Code} {Q : State → Prop} {D : va_G} {dA : Nat → ClassId} {A : Nat → Prop} {nL : Nat} {cl : List vw_C} {n0 : Nat} {V0 : sa_V} {Ts : List Cond} {cc : ByteArray} {own : String} (C0 : sa_C p s m args c D dA A nL cl Ts cc own) {pc : Nat} {idx : Nat} (hd : decode cc pc = .ok (.invokestatic idx, 3)) (hl : Cond.methodLink own idx arraycopyName ∈ Ts) (hn1 : Cond.native arraycopyName ∈ Ts) (hn2 : Cond.static arraycopyName ∈ Ts) (hn3 : Cond.initialized "java/lang/System" ∈ Ts) (hR1 : 1 ≤ R.frames) (hR2 : nativeFrameWords "java/lang/System" "arraycopy" 5 + 11 ≤ R.locals) : sa_snd p l e R s m args below meth c Q D dA A nL cl n0 V0 pc so_acpl := by
  obtain ⟨hx, hb, hts, hown, hml, hK, hA⟩ := C0
  rintro ⟨pc, lo, st, cs, G, kc, ks⟩ sts rfl h k V H locs ls hG
  unfold so_acpl at h
  dsimp only at h
  split at h
  · rename_i n dp a1 sp a0
    split at h
    · rename_i i0 t0 N0 b0 i1 t1 N1 b1 hj0 hj1
      split at h
      · rename_i hh
        obtain ⟨h1, h2, h3, h4, h5, h6, h7, h8⟩ := hh
        subst h1 h2 h3 h4
        have h5 := of_decide_eq_true h5
        cases h
        obtain ⟨n1, n2⟩ := sa_nn hG.1.1 h5
        have e0 : sa_i V (0, 0) = 0 := (sa_i_0 hG.1.1 0).trans rfl
        have z1 : ¬ sa_i V (0, 0) < 0 := by rw [e0]; decide
        have z2 : (sa_i V (0, 0)).toNatClampNeg = 0 := by rw [e0]; rfl
        refine va_copyl (D := D) (ty := .long) (sp := sa_i V (0, 0)) (dp := sa_i V (0, 0)) (n := sa_i V n) hx hb (by rw [hml]; exact hG.2.1.1.symm) hown (hts _ hl) (hts _ hn1) (hts _ hn2) (hts _ hn3) hK hG.2.2.1 hG.2.2.2.1 hG.2.2.2.2 i0 i1 2 2 (sa_find_0 hj0) (sa_find_0 hj1) rfl rfl rfl z1 z1 n1 (by rw [n2, z2]; omega) (by rw [n2, z2]; omega) (fun _ _ => rfl) hR1 (by rw [List.map_nil, List.map_nil]; exact (Nat.zero_add _).symm ▸ hR2) hd (fun H1 locs1 hP hD hS => ?_)
        obtain ⟨g1, g2⟩ := sa_G_lrow (st := []) hG h8 hj1 hP hD hS
        have h9 := k _ List.mem_cons_self _ H1 locs1 ls g1
        exact h9
      · cases h
    · cases h
  · cases h
end SA5
