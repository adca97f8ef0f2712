section SA3
noncomputable def sa_find (a : Nat) : List sa_c → Nat → Option (Nat × ((Nat × List sa_v) ⊕ (Nat × sa_a)))
  | [], _ => none
  | q :: l, i => if q.1 = a then some (i, q.2) else sa_find a l (i + 1)
theorem sa_find_at {a : Nat} {x : (Nat × List sa_v) ⊕ (Nat × sa_a)} : ∀ {cs : List sa_c} {i j : Nat}, sa_find a cs i = some (j, x) → ∃ d, j = i + d ∧ cs[d]? = some (a, x)
  | [], _, _, h => by cases h
  | q :: l, i, j, h => by
    unfold sa_find at h
    split at h
    · rename_i h1
      cases h
      exact ⟨0, rfl, by rw [← h1]; rfl⟩
    · obtain ⟨d, h1, h2⟩ := sa_find_at h
      exact ⟨d + 1, by omega, by simpa using h2⟩
theorem sa_find_0 {V : sa_V} {dA : Nat → ClassId} {a j : Nat} {x : (Nat × List sa_v) ⊕ (Nat × sa_a)} {cs : List sa_c} (h : sa_find a cs 0 = some (j, x)) : (cs.map (sa_e V dA))[j]? = some (sa_ad V a, sa_el V dA x) := by
  obtain ⟨d, h1, h2⟩ := sa_find_at h
  rw [Nat.zero_add] at h1
  subst h1
  rw [List.getElem?_map, h2]
  rfl
/-- what the rows need of a class -/
noncomputable def sa_cls (cl : List vw_C) (Ts : List Cond) (ci : Nat) (C : String) (T : u_T) (N : Nat) (ty : Nat → FieldType) : Prop := cl[ci]? = some (C, T, N) ∧ (∀ w ∈ u_ws C T N, w ∈ Ts) ∧ (∀ k, k < N → parseFieldDescriptor (T k).2.2.1 = some (ty k)) ∧ ∀ a, a < N → ∀ b, b < N → a ≠ b → (T a).2.1 ≠ (T b).2.1
noncomputable def so_get (ci f : Nat) : sa_op := fun S => match S.2.2.1 with
  | .inr (.inl (some a)) :: rest => match sa_find a S.2.2.2.1 0 with
    | some (_, .inl (cj, fs)) => if cj = ci then match fs[f]? with
      | some v => some [(S.1 + 3, S.2.1, v :: rest, S.2.2.2)]
      | none => none
      else none
    | _ => none
  | _ => none
theorem sn_get {p : Program} {l : Launch} {e : Env} {R : Room} {s : State} {m : MethodId} {args : Array Value} {below : List Frame} {meth : Method} {c : Code} {Q : State → Prop} {D : va_G} {dA : Nat → ClassId} {A : Nat → Prop} {nL : Nat} {cl : List vw_C} {n0 : Nat} {V0 : sa_V} {Ts : List Cond} {cc : ByteArray} {own : String} (C0 : sa_C p s m args c D dA A nL cl Ts cc own) {pc : Nat} {ci f N idx : Nat} {C : String} {T : u_T} {ty : Nat → FieldType} (hc : sa_cls cl Ts ci C T N ty) (hd : decode cc pc = .ok (.getfield idx, 3)) (hf : f < N) (hl : Cond.fieldLink own idx (T f).1 (T f).2.1 (T f).2.2.1 ∈ Ts) : sa_snd p l e R s m args below meth c Q D dA A nL cl n0 V0 pc (so_get ci f) := by
  obtain ⟨hx, hb, hts, hown, hml, hK, hA⟩ := C0
  rintro ⟨pc, lo, st, cs, G, kc, ks⟩ sts rfl h k V H locs ls hG
  unfold so_get at h
  dsimp only at h
  split at h
  · rename_i a rest
    split at h
    · rename_i j cj fs hj
      split at h
      · rename_i hcj
        subst hcj
        split at h
        · rename_i v hv
          cases h
          exact va_get (D := D) (v := sa_val V v) hx hb hts hc.2.1 hown hK hG.2.2.1 j (sa_find_0 hj) hc.1 f hf (hts _ hl) (fun _ h9 => h9) (by rw [List.getElem?_map, hv]; rfl) hd (k _ List.mem_cons_self V H locs ls hG)
        · cases h
      · cases h
    · cases h
  · cases h
/-- may this value stand in a field of this type -/
noncomputable def sa_fit (G : sa_B) (t : FieldType) (v : sa_v) : Bool := match t, v with
  | .int, .inl _ => true
  | .boolean, .inl q => match sa_iv G q with
    | some b => decide (0 ≤ b.1 ∧ b.2 ≤ 1)
    | none => false
  | .long, .inr (.inr _) => true
  | .object _, .inr (.inl _) => true
  | .array _, .inr (.inl _) => true
  | _, _ => false
theorem sa_01 {x : Int32} (h0 : 0 ≤ x.toInt) (h1 : x.toInt ≤ 1) : x = 0 ∨ x = 1 := by
  have h : x.toInt = 0 ∨ x.toInt = 1 := by omega
  rcases h with h | h
  · exact Or.inl (Int32.toInt_inj.mp (by rw [h]; rfl))
  · exact Or.inr (Int32.toInt_inj.mp (by rw [h]; rfl))
theorem sa_fit_ok {V : sa_V} {G : sa_B} {t : FieldType} {v : sa_v} (hI : sa_I V G) (h : sa_fit G t v = true) : narrow t (sa_val V v) = sa_val V v ∧ fits t (sa_val V v) = true := by
  rcases v with q | (_ | r) | j <;> cases t <;> first | (cases h; done) | exact ⟨rfl, rfl⟩ | skip
  · unfold sa_fit at h
    dsimp only at h
    split at h
    · rename_i b hb
      obtain ⟨e1, l1, u1⟩ := sa_iv_ok hI hb
      have h := of_decide_eq_true h
      show narrow .boolean (.int (sa_i V q)) = .int (sa_i V q) ∧ fits .boolean (.int (sa_i V q)) = true
      rcases sa_01 (x := sa_i V q) (by omega) (by omega) with h2 | h2 <;> rw [h2] <;> exact ⟨rfl, rfl⟩
    · cases h
noncomputable def so_put (ci f : Nat) (t : FieldType) : sa_op := fun S => match S.2.2.1 with
  | v :: .inr (.inl (some a)) :: rest => match sa_find a S.2.2.2.1 0 with
    | some (j, .inl (cj, fs)) => if cj = ci ∧ f < fs.length ∧ sa_fit S.2.2.2.2.1 t v = true then some [(S.1 + 3, S.2.1, rest, S.2.2.2.1.set j (a, .inl (cj, fs.set f v)), S.2.2.2.2)] else none
    | _ => none
  | _ => none
theorem sa_set_map {V : sa_V} {dA : Nat → ClassId} {cs : List sa_c} {j a ci f : Nat} {fs : List sa_v} {v : sa_v} : (cs.map (sa_e V dA)).set j (sa_ad V a, .inr (ci, (fs.map (sa_val V)).set f (sa_val V v))) = (cs.set j (a, .inl (ci, fs.set f v))).map (sa_e V dA) := by
  rw [List.map_set]
  congr 1
  show _ = (sa_ad V a, Sum.inr (ci, (fs.set f v).map (sa_val V)))
  rw [List.map_set]
theorem sn_put {p : Program} {l : Launch} {e : Env} {R : Room} {s : State} {m : MethodId} {args : Array Value} {below : List Frame} {meth : Method} {c : Code} {Q : State → Prop} {D : va_G} {dA : Nat → ClassId} {A : Nat → Prop} {nL : Nat} {cl : List vw_C} {n0 : Nat} {V0 : sa_V} {Ts : List Cond} {cc : ByteArray} {own : String} (C0 : sa_C p s m args c D dA A nL cl Ts cc own) {pc : Nat} {ci f N idx : Nat} {C : String} {T : u_T} {ty : Nat → FieldType} {t : FieldType} (hc : sa_cls cl Ts ci C T N ty) (hd : decode cc pc = .ok (.putfield idx, 3)) (hf : f < N) (hl : Cond.fieldLink own idx (T f).1 (T f).2.1 (T f).2.2.1 ∈ Ts) (hfin : (T f).2.2.2 = false) (hty : ty f = t) : sa_snd p l e R s m args below meth c Q D dA A nL cl n0 V0 pc (so_put ci f t) := by
  obtain ⟨hx, hb, hts, hown, hml, hK, hA⟩ := C0
  rintro ⟨pc, lo, st, cs, G, kc, ks⟩ sts rfl h k V H locs ls hG
  unfold so_put at h
  dsimp only at h
  split at h
  · rename_i v a rest
    split at h
    · rename_i j cj fs hj
      split at h
      · rename_i hh
        obtain ⟨h1, h2, h3⟩ := hh
        subst h1
        cases h
        have hfit := sa_fit_ok hG.1.1 h3
        refine va_put (D := D) (v := sa_val V v) (ty := t) hx hb hts hc.2.1 ty hc.2.2.1 hc.2.2.2 hown hK hG.2.2.1 hG.2.2.2.1 hG.2.2.2.2 j (sa_find_0 hj) hc.1 f hf (hts _ hl) (fun _ h9 => h9) hfin (by rw [← hty]; exact hc.2.2.1 f hf) hfit.1 hfit.2 (by rw [List.length_map]; exact h2) hd (fun H1 locs1 hP hD hS => ?_)
        rw [sa_set_map] at hP hD
        exact k _ List.mem_cons_self V H1 locs1 ls ⟨hG.1, hG.2.1, hP, hD, hS⟩
      · cases h
    · cases h
  · cases h
theorem sn_putF {p : Program} {l : Launch} {e : Env} {R : Room} {s : State} {m : MethodId} {args : Array Value} {below : List Frame} {meth : Method} {c : Code} {Q : State → Prop} {D : va_G} {dA : Nat → ClassId} {A : Nat → Prop} {nL : Nat} {cl : List vw_C} {n0 : Nat} {V0 : sa_V} {Ts : List Cond} {cc : ByteArray} {own : String} (C0 : sa_C p s m args c D dA A nL cl Ts cc own) {pc : Nat} {ci f N idx : Nat} {C : String} {T : u_T} {ty : Nat → FieldType} {t : FieldType} (hc : sa_cls cl Ts ci C T N ty) (hd : decode cc pc = .ok (.putfield idx, 3)) (hf : f < N) (hl : Cond.fieldLink own idx (T f).1 (T f).2.1 (T f).2.2.1 ∈ Ts) (hfin : (T f).2.2.2 = true) (hin2 : meth.name = "<init>") (hdecl : (T f).1 = own) (hty : ty f = t) : sa_snd p l e R s m args below meth c Q D dA A nL cl n0 V0 pc (so_put ci f t) := by
  obtain ⟨hx, hb, hts, hown, hml, hK, hA⟩ := C0
  rintro ⟨pc, lo, st, cs, G, kc, ks⟩ sts rfl h k V H locs ls hG
  unfold so_put at h
  dsimp only at h
  split at h
  · rename_i v a rest
    split at h
    · rename_i j cj fs hj
      split at h
      · rename_i hh
        obtain ⟨h1, h2, h3⟩ := hh
        subst h1
        cases h
        have hfit := sa_fit_ok hG.1.1 h3
        refine va_putF (D := D) (v := sa_val V v) (ty := t) hx hb hts hc.2.1 ty hc.2.2.1 hc.2.2.2 hown hK hG.2.2.1 hG.2.2.2.1 hG.2.2.2.2 j (sa_find_0 hj) hc.1 f hf (hts _ hl) (fun _ h9 => h9) hfin hin2 hdecl (by rw [← hty]; exact hc.2.2.1 f hf) hfit.1 hfit.2 (by rw [List.length_map]; exact h2) hd (fun H1 locs1 hP hD hS => ?_)
        rw [sa_set_map] at hP hD
        exact k _ List.mem_cons_self V H1 locs1 ls ⟨hG.1, hG.2.1, hP, hD, hS⟩
      · cases h
    · cases h
  · cases h
theorem sa_ix {V : sa_V} {G : sa_B} (hI : sa_I V G) {x : Nat × Int} {n : Nat} (h : x.1 = 0 ∧ 0 ≤ x.2 ∧ x.2 ≤ 2147483647) (hn : x.2.toNat < n) : (sa_i V x).toNatClampNeg = x.2.toNat ∧ vp_in (sa_i V x) n := by
  have e1 : (sa_i V x).toInt = x.2 := by rw [sa_k0 hI h.1]; exact sa_ofInt_toInt (by omega) h.2.2
  have e2 : (sa_i V x).toNatClampNeg = x.2.toNat := by rw [← e1]; rfl
  refine ⟨e2, fun q => ?_⟩
  rcases q with q | q
  · rw [Int32.lt_iff_toInt_lt, e1] at q
    have : x.2 < 0 := q
    omega
  · rw [e2] at q
    omega
noncomputable def sa_ok_ix (x : Nat × Int) : Bool := decide (x.1 = 0 ∧ 0 ≤ x.2 ∧ x.2 ≤ 2147483647)
/-- a place in a row, where it is known -/
noncomputable def sa_ixn (G : sa_B) (x : Nat × Int) : Option Nat := match sa_iv G x with
  | some b => if b.1 = b.2 ∧ 0 ≤ b.1 then some b.1.toNat else none
  | none => none
theorem sa_ixk {V : sa_V} {G : sa_B} (hI : sa_I V G) {x : Nat × Int} {j : Nat} (h : sa_ixn G x = some j) : (sa_i V x).toNatClampNeg = j ∧ ∀ n, j < n → vp_in (sa_i V x) n := by
  unfold sa_ixn at h
  split at h
  · rename_i b hb
    split at h
    · rename_i h1
      cases h
      obtain ⟨e1, l1, u1⟩ := sa_iv_ok hI hb
      have e0 : (sa_i V x).toInt = b.1 := by omega
      have e2 : (sa_i V x).toNatClampNeg = b.1.toNat := by rw [← e0]; rfl
      refine ⟨e2, fun n hn q => ?_⟩
      rcases q with q | q
      · rw [Int32.lt_iff_toInt_lt, e0] at q
        have : b.1 < 0 := q
        omega
      · rw [e2] at q
        omega
    · cases h
  · cases h
noncomputable def so_iald (t : Nat) : sa_op := fun S => match S.2.2.1 with
  | .inl x :: .inr (.inl (some a)) :: rest => match sa_find a S.2.2.2.1 0 with
    | some (_, .inr (tt, .inl l)) => if tt = t then match sa_ixn S.2.2.2.2.1 x with
      | some j => match l[j]? with
        | some q => some [(S.1 + 1, S.2.1, .inl q :: rest, S.2.2.2)]
        | none => none
      | none => none
      else none
    | _ => none
  | _ => none
theorem sn_iald {p : Program} {l : Launch} {e : Env} {R : Room} {s : State} {m : MethodId} {args : Array Value} {below : List Frame} {meth : Method} {c : Code} {Q : State → Prop} {D : va_G} {dA : Nat → ClassId} {A : Nat → Prop} {nL : Nat} {cl : List vw_C} {n0 : Nat} {V0 : sa_V} {Ts : List Cond} {cc : ByteArray} {own : String} (C0 : sa_C p s m args c D dA A nL cl Ts cc own) {pc : Nat}  (hd : decode cc pc = .ok (.iaload, 1)) : sa_snd p l e R s m args below meth c Q D dA A nL cl n0 V0 pc (so_iald 0) := by
  obtain ⟨hx, hb, hts, hown, hml, hK, hA⟩ := C0
  rintro ⟨pc, lo, st, cs, G, kc, ks⟩ sts rfl h k V H locs ls hG
  unfold so_iald at h
  dsimp only at h
  split at h
  · rename_i x a rest
    split at h
    · rename_i j tt l9 hj
      split at h
      · rename_i h1
        subst h1
        split at h
        · rename_i jx hjx
          split at h
          · rename_i q hq
            cases h
            have hlt := (List.getElem?_eq_some_iff.mp hq).1
            obtain ⟨i1, i2⟩ := sa_ixk hG.1.1 hjx
            refine va_iald (D := D) hx hb hK hG.2.2.1 j 0 (sa_find_0 hj) rfl (i2 _ hlt) hd ?_
            rw [i1, show sa_f V l9 jx = sa_i V q by unfold sa_f; rw [hq]]
            exact k _ List.mem_cons_self V H locs ls hG
          · cases h
        · cases h
      · cases h
    · cases h
  · cases h
theorem sn_bald {p : Program} {l : Launch} {e : Env} {R : Room} {s : State} {m : MethodId} {args : Array Value} {below : List Frame} {meth : Method} {c : Code} {Q : State → Prop} {D : va_G} {dA : Nat → ClassId} {A : Nat → Prop} {nL : Nat} {cl : List vw_C} {n0 : Nat} {V0 : sa_V} {Ts : List Cond} {cc : ByteArray} {own : String} (C0 : sa_C p s m args c D dA A nL cl Ts cc own) {pc : Nat}  (hd : decode cc pc = .ok (.baload, 1)) : sa_snd p l e R s m args below meth c Q D dA A nL cl n0 V0 pc (so_iald 1) := by
  obtain ⟨hx, hb, hts, hown, hml, hK, hA⟩ := C0
  rintro ⟨pc, lo, st, cs, G, kc, ks⟩ sts rfl h k V H locs ls hG
  unfold so_iald at h
  dsimp only at h
  split at h
  · rename_i x a rest
    split at h
    · rename_i j tt l9 hj
      split at h
      · rename_i h1
        subst h1
        split at h
        · rename_i jx hjx
          split at h
          · rename_i q hq
            cases h
            have hlt := (List.getElem?_eq_some_iff.mp hq).1
            obtain ⟨i1, i2⟩ := sa_ixk hG.1.1 hjx
            refine va_bald (D := D) hx hb hK hG.2.2.1 j 1 (sa_find_0 hj) rfl (i2 _ hlt) hd ?_
            rw [i1, show sa_f V l9 jx = sa_i V q by unfold sa_f; rw [hq]]
            exact k _ List.mem_cons_self V H locs ls hG
          · cases h
        · cases h
      · cases h
    · cases h
  · cases h
theorem sn_zald {p : Program} {l : Launch} {e : Env} {R : Room} {s : State} {m : MethodId} {args : Array Value} {below : List Frame} {meth : Method} {c : Code} {Q : State → Prop} {D : va_G} {dA : Nat → ClassId} {A : Nat → Prop} {nL : Nat} {cl : List vw_C} {n0 : Nat} {V0 : sa_V} {Ts : List Cond} {cc : ByteArray} {own : String} (C0 : sa_C p s m args c D dA A nL cl Ts cc own) {pc : Nat}  (hd : decode cc pc = .ok (.baload, 1)) : sa_snd p l e R s m args below meth c Q D dA A nL cl n0 V0 pc (so_iald 3) := by
  obtain ⟨hx, hb, hts, hown, hml, hK, hA⟩ := C0
  rintro ⟨pc, lo, st, cs, G, kc, ks⟩ sts rfl h k V H locs ls hG
  unfold so_iald at h
  dsimp only at h
  split at h
  · rename_i x a rest
    split at h
    · rename_i j tt l9 hj
      split at h
      · rename_i h1
        subst h1
        split at h
        · rename_i jx hjx
          split at h
          · rename_i q hq
            cases h
            have hlt := (List.getElem?_eq_some_iff.mp hq).1
            obtain ⟨i1, i2⟩ := sa_ixk hG.1.1 hjx
            refine va_zald (D := D) hx hb hK hG.2.2.1 j 3 (sa_find_0 hj) rfl (i2 _ hlt) hd ?_
            rw [i1, show sa_f V l9 jx = sa_i V q by unfold sa_f; rw [hq]]
            exact k _ List.mem_cons_self V H locs ls hG
          · cases h
        · cases h
      · cases h
    · cases h
  · cases h
theorem sa_f_set {V : sa_V} {l : List (Nat × Int)} {j : Nat} {q : Nat × Int} (h : j < l.length) : upd (sa_f V l) j (sa_i V q) = sa_f V (l.set j q) := by
  funext i
  by_cases hi : i = j
  · subst hi
    rw [pk_us]
    unfold sa_f
    rw [List.getElem?_set_self h]
  · rw [pk_un hi]
    unfold sa_f
    rw [List.getElem?_set_ne (Ne.symm hi)]
theorem sa_set_arr {V : sa_V} {dA : Nat → ClassId} {cs : List sa_c} {i a t j : Nat} {l : List (Nat × Int)} {q : Nat × Int} (h : j < l.length) : (cs.map (sa_e V dA)).set i (sa_ad V a, .inl (dA t, l.length, .inl (upd (sa_f V l) j (sa_i V q)))) = (cs.set i (a, .inr (t, .inl (l.set j q)))).map (sa_e V dA) := by
  rw [List.map_set, sa_f_set h]
  congr 1
  show _ = (sa_ad V a, Sum.inl (dA t, (l.set j q).length, Sum.inl (sa_f V (l.set j q))))
  rw [List.length_set]
noncomputable def so_iast (t : Nat) (bl bh : Int) : sa_op := fun S => match S.2.2.1 with
  | .inl v :: .inl x :: .inr (.inl (some a)) :: rest => match sa_find a S.2.2.2.1 0, sa_iv S.2.2.2.2.1 v, sa_ixn S.2.2.2.2.1 x with
    | some (i, .inr (tt, .inl l)), some b, some j => if tt = t ∧ j < l.length ∧ bl ≤ b.1 ∧ b.2 ≤ bh then some [(S.1 + 1, S.2.1, rest, S.2.2.2.1.set i (a, .inr (tt, .inl (l.set j v))), S.2.2.2.2)] else none
    | _, _, _ => none
  | _ => none
theorem sa_nar_b {x : Int32} (h0 : -128 ≤ x.toInt) (h1 : x.toInt ≤ 127) : vp_nar .byte x = x := by
  rw [vp_nar_byte]
  apply Int32.toInt_inj.mp
  rw [Int8.toInt_toInt32]
  show (x.toInt8).toInt = x.toInt
  rw [Int32.toInt_toInt8]
  exact Int.bmod_eq_of_le (by omega) (by omega)
theorem sa_nar_z {x : Int32} (h0 : 0 ≤ x.toInt) (h1 : x.toInt ≤ 1) : vp_nar .boolean x = x := by
  rcases sa_01 h0 h1 with h | h <;> rw [h] <;> rfl
theorem sn_iast {p : Program} {l : Launch} {e : Env} {R : Room} {s : State} {m : MethodId} {args : Array Value} {below : List Frame} {meth : Method} {c : Code} {Q : State → Prop} {D : va_G} {dA : Nat → ClassId} {A : Nat → Prop} {nL : Nat} {cl : List vw_C} {n0 : Nat} {V0 : sa_V} {Ts : List Cond} {cc : ByteArray} {own : String} (C0 : sa_C p s m args c D dA A nL cl Ts cc own) {pc : Nat}  (hd : decode cc pc = .ok (.iastore, 1)) : sa_snd p l e R s m args below meth c Q D dA A nL cl n0 V0 pc (so_iast 0 (-2147483648) 2147483647) := by
  obtain ⟨hx, hb, hts, hown, hml, hK, hA⟩ := C0
  rintro ⟨pc, lo, st, cs, G, kc, ks⟩ sts rfl h k V H locs ls hG
  unfold so_iast at h
  dsimp only at h
  split at h
  · rename_i v x a rest
    split at h
    · rename_i i tt l9 b jx hj hbv hjx
      split at h
      · rename_i hh
        obtain ⟨h1, h3, h4, h5⟩ := hh
        subst h1
        cases h
        obtain ⟨e1, l1, u1⟩ := sa_iv_ok hG.1.1 hbv
        obtain ⟨i1, i2⟩ := sa_ixk hG.1.1 hjx
        have i2 := i2 _ h3
        refine va_iast (D := D) (x := sa_i V v) hx hb hK hG.2.2.1 hG.2.2.2.1 hG.2.2.2.2 i 0 (sa_find_0 hj) rfl i2 hd (fun H1 locs1 hP hD hS => ?_)
        rw [i1, sa_set_arr h3] at hP hD
        exact k _ List.mem_cons_self V H1 locs1 ls ⟨hG.1, hG.2.1, hP, hD, hS⟩
      · cases h
    · cases h
  · cases h
theorem sn_bast {p : Program} {l : Launch} {e : Env} {R : Room} {s : State} {m : MethodId} {args : Array Value} {below : List Frame} {meth : Method} {c : Code} {Q : State → Prop} {D : va_G} {dA : Nat → ClassId} {A : Nat → Prop} {nL : Nat} {cl : List vw_C} {n0 : Nat} {V0 : sa_V} {Ts : List Cond} {cc : ByteArray} {own : String} (C0 : sa_C p s m args c D dA A nL cl Ts cc own) {pc : Nat}  (hd : decode cc pc = .ok (.bastore, 1)) : sa_snd p l e R s m args below meth c Q D dA A nL cl n0 V0 pc (so_iast 1 (-128) 127) := by
  obtain ⟨hx, hb, hts, hown, hml, hK, hA⟩ := C0
  rintro ⟨pc, lo, st, cs, G, kc, ks⟩ sts rfl h k V H locs ls hG
  unfold so_iast at h
  dsimp only at h
  split at h
  · rename_i v x a rest
    split at h
    · rename_i i tt l9 b jx hj hbv hjx
      split at h
      · rename_i hh
        obtain ⟨h1, h3, h4, h5⟩ := hh
        subst h1
        cases h
        obtain ⟨e1, l1, u1⟩ := sa_iv_ok hG.1.1 hbv
        obtain ⟨i1, i2⟩ := sa_ixk hG.1.1 hjx
        have i2 := i2 _ h3
        refine va_bast (D := D) (x := sa_i V v) hx hb hK hG.2.2.1 hG.2.2.2.1 hG.2.2.2.2 i 1 (sa_find_0 hj) rfl i2 hd (fun H1 locs1 hP hD hS => ?_)
        rw [i1, sa_nar_b (by omega) (by omega), sa_set_arr h3] at hP hD
        exact k _ List.mem_cons_self V H1 locs1 ls ⟨hG.1, hG.2.1, hP, hD, hS⟩
      · cases h
    · cases h
  · cases h
theorem sn_zast {p : Program} {l : Launch} {e : Env} {R : Room} {s : State} {m : MethodId} {args : Array Value} {below : List Frame} {meth : Method} {c : Code} {Q : State → Prop} {D : va_G} {dA : Nat → ClassId} {A : Nat → Prop} {nL : Nat} {cl : List vw_C} {n0 : Nat} {V0 : sa_V} {Ts : List Cond} {cc : ByteArray} {own : String} (C0 : sa_C p s m args c D dA A nL cl Ts cc own) {pc : Nat}  (hd : decode cc pc = .ok (.bastore, 1)) : sa_snd p l e R s m args below meth c Q D dA A nL cl n0 V0 pc (so_iast 3 0 1) := by
  obtain ⟨hx, hb, hts, hown, hml, hK, hA⟩ := C0
  rintro ⟨pc, lo, st, cs, G, kc, ks⟩ sts rfl h k V H locs ls hG
  unfold so_iast at h
  dsimp only at h
  split at h
  · rename_i v x a rest
    split at h
    · rename_i i tt l9 b jx hj hbv hjx
      split at h
      · rename_i hh
        obtain ⟨h1, h3, h4, h5⟩ := hh
        subst h1
        cases h
        obtain ⟨e1, l1, u1⟩ := sa_iv_ok hG.1.1 hbv
        obtain ⟨i1, i2⟩ := sa_ixk hG.1.1 hjx
        have i2 := i2 _ h3
        refine va_zast (D := D) (x := sa_i V v) hx hb hK hG.2.2.1 hG.2.2.2.1 hG.2.2.2.2 i 3 (sa_find_0 hj) rfl i2 hd (fun H1 locs1 hP hD hS => ?_)
        rw [i1, sa_nar_z (by omega) (by omega), sa_set_arr h3] at hP hD
        exact k _ List.mem_cons_self V H1 locs1 ls ⟨hG.1, hG.2.1, hP, hD, hS⟩
      · cases h
    · cases h
  · cases h
noncomputable def sa_len : sa_a → Nat
  | .inl l => l.length
  | .inr (.inl q) => q.1
  | .inr (.inr l) => l.length
theorem sa_len_ok (V : sa_V) (a : sa_a) : (sa_arr V a).1 = sa_len a := by
  rcases a with l | q | l <;> rfl
noncomputable def so_alen : sa_op := fun S => match S.2.2.1 with
  | .inr (.inl (some a)) :: rest => match sa_find a S.2.2.2.1 0 with
    | some (_, .inr (tt, x)) => if tt < 6 then some [(S.1 + 1, S.2.1, .inl (0, (sa_len x : Int)) :: rest, S.2.2.2)] else none
    | _ => none
  | _ => none
theorem sa_tys_at {dA : Nat → ClassId} {t : Nat} (h : t < 6) : ∃ ty, (sa_tys dA)[t]? = some (dA t, ty) := by
  rcases (show t = 0 ∨ t = 1 ∨ t = 2 ∨ t = 3 ∨ t = 4 ∨ t = 5 by omega) with rfl | rfl | rfl | rfl | rfl | rfl <;> exact ⟨_, rfl⟩
theorem sn_alen {p : Program} {l : Launch} {e : Env} {R : Room} {s : State} {m : MethodId} {args : Array Value} {below : List Frame} {meth : Method} {c : Code} {Q : State → Prop} {D : va_G} {dA : Nat → ClassId} {A : Nat → Prop} {nL : Nat} {cl : List vw_C} {n0 : Nat} {V0 : sa_V} {Ts : List Cond} {cc : ByteArray} {own : String} (C0 : sa_C p s m args c D dA A nL cl Ts cc own) {pc : Nat}  (hd : decode cc pc = .ok (.arraylength, 1)) : sa_snd p l e R s m args below meth c Q D dA A nL cl n0 V0 pc so_alen := by
  obtain ⟨hx, hb, hts, hown, hml, hK, hA⟩ := C0
  rintro ⟨pc, lo, st, cs, G, kc, ks⟩ sts rfl h k V H locs ls hG
  unfold so_alen at h
  dsimp only at h
  split at h
  · rename_i a rest
    split at h
    · rename_i j tt x hj
      split at h
      · rename_i h1
        cases h
        obtain ⟨ty, hty⟩ := sa_tys_at (dA := dA) h1
        refine va_alen (D := D) (v := Int32.ofInt (sa_len x : Int)) hx hb hK hG.2.2.1 j tt (sa_find_0 hj) hty ?_ hd (sa_k_int hG (k _ List.mem_cons_self))
        rw [sa_len_ok]
        exact (Int32.ofInt_eq_ofNat).symm
      · cases h
    · cases h
  · cases h
/-- a place that may be one of some: one after the other -/
noncomputable def sa_spl (S : sa_S) (x : Nat × Int) : Nat → Int → List sa_S
  | 0, _ => []
  | n + 1, a => (sr_eq S.2.2.2.2.1 x (0, a)).map (fun G' => (S.1, S.2.1, S.2.2.1, S.2.2.2.1, G', S.2.2.2.2.2)) ++ sa_spl S x n (a + 1)
theorem sa_spl_in {S : sa_S} {x : Nat × Int} : ∀ (n : Nat) (a : Int) (j : Nat), j < n → ∀ G' ∈ sr_eq S.2.2.2.2.1 x (0, a + j), (S.1, S.2.1, S.2.2.1, S.2.2.2.1, G', S.2.2.2.2.2) ∈ sa_spl S x n a
  | 0, _, _, h, _, _ => absurd h (Nat.not_lt_zero _)
  | n + 1, a, 0, _, G', hG => by
    rw [show a + ((0 : Nat) : Int) = a by omega] at hG
    exact List.mem_append_left _ (List.mem_map.mpr ⟨G', hG, rfl⟩)
  | n + 1, a, j + 1, h, G', hG => by
    rw [show a + ((j + 1 : Nat) : Int) = (a + 1) + (j : Int) by omega] at hG
    exact List.mem_append_right _ (sa_spl_in n (a + 1) j (by omega) G' hG)
noncomputable def so_spl (d : Nat) (op : sa_op) : sa_op := fun S => match S.2.2.1[d]? with
  | some (.inl x) => match sa_iv S.2.2.2.2.1 x with
    | some b => if b.1 = b.2 then op S else if b.2 - b.1 ≤ 64 then some (sa_spl S x (b.2 - b.1 + 1).toNat b.1) else none
    | none => op S
  | _ => op S
theorem sn_spl {p : Program} {l : Launch} {e : Env} {R : Room} {s : State} {m : MethodId} {args : Array Value} {below : List Frame} {meth : Method} {c : Code} {Q : State → Prop} {D : va_G} {dA : Nat → ClassId} {A : Nat → Prop} {nL : Nat} {cl : List vw_C} {n0 : Nat} {V0 : sa_V} {pc d : Nat} {op : sa_op} (ho : sa_snd p l e R s m args below meth c Q D dA A nL cl n0 V0 pc op) : sa_snd p l e R s m args below meth c Q D dA A nL cl n0 V0 pc (so_spl d op) := by
  intro S sts h0 h k
  unfold so_spl at h
  split at h
  · rename_i x hx
    split at h
    · rename_i b hb
      split at h
      · exact ho S sts h0 h k
      · split at h
        · cases h
          intro V H locs ls hG
          obtain ⟨e1, l1, u1⟩ := sa_iv_ok hG.1.1 hb
          obtain ⟨G', g1, g2, g3⟩ := sr_eq_ok V S.2.2.2.2.1 x (0, b.1 + (((sa_i V x).toInt - b.1).toNat : Int)) hG.1.1 (by
            show sa_i V x = sa_i V _
            rw [sa_i_0 hG.1.1, show b.1 + (((sa_i V x).toInt - b.1).toNat : Int) = (sa_i V x).toInt by omega, Int32.ofInt_toInt])
          exact k _ (sa_spl_in _ b.1 _ (by omega) G' g1) V H locs ls ⟨⟨g2, by show n0 ≤ G'.length; rw [g3]; exact hG.1.2.1, hG.1.2.2⟩, hG.2⟩
        · cases h
    · exact ho S sts h0 h k
  · exact ho S sts h0 h k
end SA3
