section TY1
noncomputable def to_iload (i len : Nat) : tb_op := fun S => match sa_look i S.2.1 with
  | some (.inl q) => some [(S.1 + len, S.2.1, .inl q :: S.2.2.1, S.2.2.2)]
  | _ => none
theorem tn_iload_n {p : Program} {l : Launch} {e : Env} {R : Room} {s : State} {m : MethodId} {args : Array Value} {below : List Frame} {meth : Method} {c : Code} {Q : State → Prop} {D : va_G} {dA : Nat → ClassId} {A : Nat → Prop} {nL : Nat} {cl : List vw_C} {n0 : Nat} {V0 : sa_V} {E : tb_E} {Ts : List Cond} {cc : ByteArray} {own : String} (C0 : sa_C p s m args c D dA A nL cl Ts cc own) {pc : Nat} {n : Fin 4} (hd : decode cc pc = .ok (.iload_n n, 1)) : tb_snd p l e R s m args below meth c Q D dA A nL cl n0 V0 E pc (to_iload n 1) := by
  obtain ⟨hx, hb, hts, hown, hml, hK, hA⟩ := C0
  rintro ⟨pc, lo, st, cs, G, kc, ks⟩ sts rfl h k V H locs ls hG
  unfold to_iload at h
  dsimp only at h
  split at h
  · rename_i q hq
    cases h
    exact lv_iload_n hx hb hd rfl (sa_look_at hG.2.1 hq) (k _ List.mem_cons_self V H locs ls hG)
  · cases h
theorem tn_iload {p : Program} {l : Launch} {e : Env} {R : Room} {s : State} {m : MethodId} {args : Array Value} {below : List Frame} {meth : Method} {c : Code} {Q : State → Prop} {D : va_G} {dA : Nat → ClassId} {A : Nat → Prop} {nL : Nat} {cl : List vw_C} {n0 : Nat} {V0 : sa_V} {E : tb_E} {Ts : List Cond} {cc : ByteArray} {own : String} (C0 : sa_C p s m args c D dA A nL cl Ts cc own) {pc : Nat} {i : Nat} (hd : decode cc pc = .ok (.iload i, 2)) : tb_snd p l e R s m args below meth c Q D dA A nL cl n0 V0 E pc (to_iload i 2) := by
  obtain ⟨hx, hb, hts, hown, hml, hK, hA⟩ := C0
  rintro ⟨pc, lo, st, cs, G, kc, ks⟩ sts rfl h k V H locs ls hG
  unfold to_iload at h
  dsimp only at h
  split at h
  · rename_i q hq
    cases h
    exact lv_iload hx hb hd (sa_look_at hG.2.1 hq) (k _ List.mem_cons_self V H locs ls hG)
  · cases h
noncomputable def to_aload (i len : Nat) : tb_op := fun S => match sa_look i S.2.1 with
  | some (.inr (.inl (some q))) => some [(S.1 + len, S.2.1, .inr (.inl (some q)) :: S.2.2.1, S.2.2.2)]
  | _ => none
theorem tn_aload_n {p : Program} {l : Launch} {e : Env} {R : Room} {s : State} {m : MethodId} {args : Array Value} {below : List Frame} {meth : Method} {c : Code} {Q : State → Prop} {D : va_G} {dA : Nat → ClassId} {A : Nat → Prop} {nL : Nat} {cl : List vw_C} {n0 : Nat} {V0 : sa_V} {E : tb_E} {Ts : List Cond} {cc : ByteArray} {own : String} (C0 : sa_C p s m args c D dA A nL cl Ts cc own) {pc : Nat} {n : Fin 4} (hd : decode cc pc = .ok (.aload_n n, 1)) : tb_snd p l e R s m args below meth c Q D dA A nL cl n0 V0 E pc (to_aload n 1) := by
  obtain ⟨hx, hb, hts, hown, hml, hK, hA⟩ := C0
  rintro ⟨pc, lo, st, cs, G, kc, ks⟩ sts rfl h k V H locs ls hG
  unfold to_aload at h
  dsimp only at h
  split at h
  · rename_i q hq
    cases h
    exact lv_aload_n hx hb hd rfl (sa_look_at hG.2.1 hq) (k _ List.mem_cons_self V H locs ls hG)
  · cases h
theorem tn_aload {p : Program} {l : Launch} {e : Env} {R : Room} {s : State} {m : MethodId} {args : Array Value} {below : List Frame} {meth : Method} {c : Code} {Q : State → Prop} {D : va_G} {dA : Nat → ClassId} {A : Nat → Prop} {nL : Nat} {cl : List vw_C} {n0 : Nat} {V0 : sa_V} {E : tb_E} {Ts : List Cond} {cc : ByteArray} {own : String} (C0 : sa_C p s m args c D dA A nL cl Ts cc own) {pc : Nat} {i : Nat} (hd : decode cc pc = .ok (.aload i, 2)) : tb_snd p l e R s m args below meth c Q D dA A nL cl n0 V0 E pc (to_aload i 2) := by
  obtain ⟨hx, hb, hts, hown, hml, hK, hA⟩ := C0
  rintro ⟨pc, lo, st, cs, G, kc, ks⟩ sts rfl h k V H locs ls hG
  unfold to_aload at h
  dsimp only at h
  split at h
  · rename_i q hq
    cases h
    exact lv_aload hx hb hd (sa_look_at hG.2.1 hq) (k _ List.mem_cons_self V H locs ls hG)
  · cases h
noncomputable def to_lload (i len : Nat) : tb_op := fun S => match sa_look i S.2.1 with
  | some (.inr (.inr q)) => some [(S.1 + len, S.2.1, .inr (.inr q) :: S.2.2.1, S.2.2.2)]
  | _ => none
theorem tn_lload_n {p : Program} {l : Launch} {e : Env} {R : Room} {s : State} {m : MethodId} {args : Array Value} {below : List Frame} {meth : Method} {c : Code} {Q : State → Prop} {D : va_G} {dA : Nat → ClassId} {A : Nat → Prop} {nL : Nat} {cl : List vw_C} {n0 : Nat} {V0 : sa_V} {E : tb_E} {Ts : List Cond} {cc : ByteArray} {own : String} (C0 : sa_C p s m args c D dA A nL cl Ts cc own) {pc : Nat} {n : Fin 4} (hd : decode cc pc = .ok (.lload_n n, 1)) : tb_snd p l e R s m args below meth c Q D dA A nL cl n0 V0 E pc (to_lload n 1) := by
  obtain ⟨hx, hb, hts, hown, hml, hK, hA⟩ := C0
  rintro ⟨pc, lo, st, cs, G, kc, ks⟩ sts rfl h k V H locs ls hG
  unfold to_lload at h
  dsimp only at h
  split at h
  · rename_i q hq
    cases h
    exact lv_lload_n hx hb hd rfl (sa_look_at hG.2.1 hq) (k _ List.mem_cons_self V H locs ls hG)
  · cases h
theorem tn_lload {p : Program} {l : Launch} {e : Env} {R : Room} {s : State} {m : MethodId} {args : Array Value} {below : List Frame} {meth : Method} {c : Code} {Q : State → Prop} {D : va_G} {dA : Nat → ClassId} {A : Nat → Prop} {nL : Nat} {cl : List vw_C} {n0 : Nat} {V0 : sa_V} {E : tb_E} {Ts : List Cond} {cc : ByteArray} {own : String} (C0 : sa_C p s m args c D dA A nL cl Ts cc own) {pc : Nat} {i : Nat} (hd : decode cc pc = .ok (.lload i, 2)) : tb_snd p l e R s m args below meth c Q D dA A nL cl n0 V0 E pc (to_lload i 2) := by
  obtain ⟨hx, hb, hts, hown, hml, hK, hA⟩ := C0
  rintro ⟨pc, lo, st, cs, G, kc, ks⟩ sts rfl h k V H locs ls hG
  unfold to_lload at h
  dsimp only at h
  split at h
  · rename_i q hq
    cases h
    exact lv_lload hx hb hd (sa_look_at hG.2.1 hq) (k _ List.mem_cons_self V H locs ls hG)
  · cases h
noncomputable def to_istore (nL i len : Nat) : tb_op := fun S => match S.2.2.1 with
  | .inl q :: rest => if i < nL then some [(S.1 + len, sa_set1 i (.inl q) S.2.1, rest, S.2.2.2)] else none
  | _ => none
theorem tn_istore_n {p : Program} {l : Launch} {e : Env} {R : Room} {s : State} {m : MethodId} {args : Array Value} {below : List Frame} {meth : Method} {c : Code} {Q : State → Prop} {D : va_G} {dA : Nat → ClassId} {A : Nat → Prop} {nL : Nat} {cl : List vw_C} {n0 : Nat} {V0 : sa_V} {E : tb_E} {Ts : List Cond} {cc : ByteArray} {own : String} (C0 : sa_C p s m args c D dA A nL cl Ts cc own) {pc : Nat} {n : Fin 4} (hd : decode cc pc = .ok (.istore_n n, 1)) : tb_snd p l e R s m args below meth c Q D dA A nL cl n0 V0 E pc (to_istore nL n 1) := by
  obtain ⟨hx, hb, hts, hown, hml, hK, hA⟩ := C0
  rintro ⟨pc, lo, st, cs, G, kc, ks⟩ sts rfl h k V H locs ls hG
  unfold to_istore at h
  dsimp only at h
  split at h
  · rename_i q rest
    split at h
    · rename_i hi
      cases h
      exact lv_istore_n hx hb hd rfl hG.2.1 hi (sa_set1_lv V _ (.inl q) lo) (fun ls' hl' => k _ List.mem_cons_self V H locs ls' ⟨hG.1, hl', hG.2.2⟩)
    · cases h
  · cases h
theorem tn_istore {p : Program} {l : Launch} {e : Env} {R : Room} {s : State} {m : MethodId} {args : Array Value} {below : List Frame} {meth : Method} {c : Code} {Q : State → Prop} {D : va_G} {dA : Nat → ClassId} {A : Nat → Prop} {nL : Nat} {cl : List vw_C} {n0 : Nat} {V0 : sa_V} {E : tb_E} {Ts : List Cond} {cc : ByteArray} {own : String} (C0 : sa_C p s m args c D dA A nL cl Ts cc own) {pc : Nat} {i : Nat} (hd : decode cc pc = .ok (.istore i, 2)) : tb_snd p l e R s m args below meth c Q D dA A nL cl n0 V0 E pc (to_istore nL i 2) := by
  obtain ⟨hx, hb, hts, hown, hml, hK, hA⟩ := C0
  rintro ⟨pc, lo, st, cs, G, kc, ks⟩ sts rfl h k V H locs ls hG
  unfold to_istore at h
  dsimp only at h
  split at h
  · rename_i q rest
    split at h
    · rename_i hi
      cases h
      exact lv_istore hx hb hd hG.2.1 hi (sa_set1_lv V _ (.inl q) lo) (fun ls' hl' => k _ List.mem_cons_self V H locs ls' ⟨hG.1, hl', hG.2.2⟩)
    · cases h
  · cases h
noncomputable def to_astore (nL i len : Nat) : tb_op := fun S => match S.2.2.1 with
  | .inr (.inl (some q)) :: rest => if i < nL then some [(S.1 + len, sa_set1 i (.inr (.inl (some q))) S.2.1, rest, S.2.2.2)] else none
  | _ => none
theorem tn_astore_n {p : Program} {l : Launch} {e : Env} {R : Room} {s : State} {m : MethodId} {args : Array Value} {below : List Frame} {meth : Method} {c : Code} {Q : State → Prop} {D : va_G} {dA : Nat → ClassId} {A : Nat → Prop} {nL : Nat} {cl : List vw_C} {n0 : Nat} {V0 : sa_V} {E : tb_E} {Ts : List Cond} {cc : ByteArray} {own : String} (C0 : sa_C p s m args c D dA A nL cl Ts cc own) {pc : Nat} {n : Fin 4} (hd : decode cc pc = .ok (.astore_n n, 1)) : tb_snd p l e R s m args below meth c Q D dA A nL cl n0 V0 E pc (to_astore nL n 1) := by
  obtain ⟨hx, hb, hts, hown, hml, hK, hA⟩ := C0
  rintro ⟨pc, lo, st, cs, G, kc, ks⟩ sts rfl h k V H locs ls hG
  unfold to_astore at h
  dsimp only at h
  split at h
  · rename_i q rest
    split at h
    · rename_i hi
      cases h
      exact lv_astore_n hx hb hd rfl hG.2.1 hi (sa_set1_lv V _ (.inr (.inl (some q))) lo) (fun ls' hl' => k _ List.mem_cons_self V H locs ls' ⟨hG.1, hl', hG.2.2⟩)
    · cases h
  · cases h
theorem tn_astore {p : Program} {l : Launch} {e : Env} {R : Room} {s : State} {m : MethodId} {args : Array Value} {below : List Frame} {meth : Method} {c : Code} {Q : State → Prop} {D : va_G} {dA : Nat → ClassId} {A : Nat → Prop} {nL : Nat} {cl : List vw_C} {n0 : Nat} {V0 : sa_V} {E : tb_E} {Ts : List Cond} {cc : ByteArray} {own : String} (C0 : sa_C p s m args c D dA A nL cl Ts cc own) {pc : Nat} {i : Nat} (hd : decode cc pc = .ok (.astore i, 2)) : tb_snd p l e R s m args below meth c Q D dA A nL cl n0 V0 E pc (to_astore nL i 2) := by
  obtain ⟨hx, hb, hts, hown, hml, hK, hA⟩ := C0
  rintro ⟨pc, lo, st, cs, G, kc, ks⟩ sts rfl h k V H locs ls hG
  unfold to_astore at h
  dsimp only at h
  split at h
  · rename_i q rest
    split at h
    · rename_i hi
      cases h
      exact lv_astore hx hb hd hG.2.1 hi (sa_set1_lv V _ (.inr (.inl (some q))) lo) (fun ls' hl' => k _ List.mem_cons_self V H locs ls' ⟨hG.1, hl', hG.2.2⟩)
    · cases h
  · cases h
noncomputable def to_lstore (nL i len : Nat) : tb_op := fun S => match S.2.2.1 with
  | .inr (.inr q) :: rest => if i + 1 < nL then some [(S.1 + len, sa_set2 i (.inr (.inr q)) S.2.1, rest, S.2.2.2)] else none
  | _ => none
theorem tn_lstore_n {p : Program} {l : Launch} {e : Env} {R : Room} {s : State} {m : MethodId} {args : Array Value} {below : List Frame} {meth : Method} {c : Code} {Q : State → Prop} {D : va_G} {dA : Nat → ClassId} {A : Nat → Prop} {nL : Nat} {cl : List vw_C} {n0 : Nat} {V0 : sa_V} {E : tb_E} {Ts : List Cond} {cc : ByteArray} {own : String} (C0 : sa_C p s m args c D dA A nL cl Ts cc own) {pc : Nat} {n : Fin 4} (hd : decode cc pc = .ok (.lstore_n n, 1)) : tb_snd p l e R s m args below meth c Q D dA A nL cl n0 V0 E pc (to_lstore nL n 1) := by
  obtain ⟨hx, hb, hts, hown, hml, hK, hA⟩ := C0
  rintro ⟨pc, lo, st, cs, G, kc, ks⟩ sts rfl h k V H locs ls hG
  unfold to_lstore at h
  dsimp only at h
  split at h
  · rename_i q rest
    split at h
    · rename_i hi
      cases h
      exact lv_lstore_n hx hb hd rfl hG.2.1 hi (sa_set2_lv V _ (.inr (.inr q)) lo) (fun ls' hl' => k _ List.mem_cons_self V H locs ls' ⟨hG.1, hl', hG.2.2⟩)
    · cases h
  · cases h
theorem tn_lstore {p : Program} {l : Launch} {e : Env} {R : Room} {s : State} {m : MethodId} {args : Array Value} {below : List Frame} {meth : Method} {c : Code} {Q : State → Prop} {D : va_G} {dA : Nat → ClassId} {A : Nat → Prop} {nL : Nat} {cl : List vw_C} {n0 : Nat} {V0 : sa_V} {E : tb_E} {Ts : List Cond} {cc : ByteArray} {own : String} (C0 : sa_C p s m args c D dA A nL cl Ts cc own) {pc : Nat} {i : Nat} (hd : decode cc pc = .ok (.lstore i, 2)) : tb_snd p l e R s m args below meth c Q D dA A nL cl n0 V0 E pc (to_lstore nL i 2) := by
  obtain ⟨hx, hb, hts, hown, hml, hK, hA⟩ := C0
  rintro ⟨pc, lo, st, cs, G, kc, ks⟩ sts rfl h k V H locs ls hG
  unfold to_lstore at h
  dsimp only at h
  split at h
  · rename_i q rest
    split at h
    · rename_i hi
      cases h
      exact lv_lstore hx hb hd hG.2.1 hi (sa_set2_lv V _ (.inr (.inr q)) lo) (fun ls' hl' => k _ List.mem_cons_self V H locs ls' ⟨hG.1, hl', hG.2.2⟩)
    · cases h
  · cases h
noncomputable def to_int (n : Int) (len : Nat) : tb_op := fun S => some [(S.1 + len, S.2.1, .inl (0, n) :: S.2.2.1, S.2.2.2)]
theorem tb_k_int {p : Program} {l : Launch} {e : Env} {R : Room} {s : State} {m : MethodId} {args : Array Value} {below : List Frame} {meth : Method} {c : Code} {Q : State → Prop} {D : va_G} {dA : Nat → ClassId} {A : Nat → Prop} {nL : Nat} {cl : List vw_C} {n0 : Nat} {V0 : sa_V} {E : tb_E} {V : sa_V} {H : Heap} {locs : List Loc} {ls : Array Slot} {pc : Nat} {lo : sa_L} {st : List sa_v} {cs : tb_c} {G : sa_B} {kc ks : Nat} {n : Int} (hG : tb_G D dA A nL cl n0 V0 E s.heap V lo cs G H locs ls) (k : tb_W p l e R s m args below meth c Q D dA A nL cl n0 V0 E (pc, lo, .inl (0, n) :: st, cs, G, kc, ks)) : W p l e R s m args below meth c H locs kc ks Q (F0 m pc ls (.int (Int32.ofInt n) :: st.map (sa_val V))) := by
  have h := k V H locs ls hG
  rw [← sa_i_0 hG.1.1 n]
  exact h
theorem tn_iconst {p : Program} {l : Launch} {e : Env} {R : Room} {s : State} {m : MethodId} {args : Array Value} {below : List Frame} {meth : Method} {c : Code} {Q : State → Prop} {D : va_G} {dA : Nat → ClassId} {A : Nat → Prop} {nL : Nat} {cl : List vw_C} {n0 : Nat} {V0 : sa_V} {E : tb_E} {Ts : List Cond} {cc : ByteArray} {own : String} (C0 : sa_C p s m args c D dA A nL cl Ts cc own) {pc : Nat} {n : Int} (hd : decode cc pc = .ok (.iconst n, 1)) : tb_snd p l e R s m args below meth c Q D dA A nL cl n0 V0 E pc (to_int n 1) := by
  obtain ⟨hx, hb, hts, hown, hml, hK, hA⟩ := C0
  rintro ⟨pc, lo, st, cs, G, kc, ks⟩ sts rfl h k V H locs ls hG
  cases h
  exact lv_iconst hx hb hd rfl (tb_k_int hG (k _ List.mem_cons_self))
theorem tn_bipush {p : Program} {l : Launch} {e : Env} {R : Room} {s : State} {m : MethodId} {args : Array Value} {below : List Frame} {meth : Method} {c : Code} {Q : State → Prop} {D : va_G} {dA : Nat → ClassId} {A : Nat → Prop} {nL : Nat} {cl : List vw_C} {n0 : Nat} {V0 : sa_V} {E : tb_E} {Ts : List Cond} {cc : ByteArray} {own : String} (C0 : sa_C p s m args c D dA A nL cl Ts cc own) {pc : Nat} {n : Int} (hd : decode cc pc = .ok (.bipush n, 2)) (hv : (Int8.ofInt n).toInt32 = Int32.ofInt n) : tb_snd p l e R s m args below meth c Q D dA A nL cl n0 V0 E pc (to_int n 2) := by
  obtain ⟨hx, hb, hts, hown, hml, hK, hA⟩ := C0
  rintro ⟨pc, lo, st, cs, G, kc, ks⟩ sts rfl h k V H locs ls hG
  cases h
  exact lv_bipush hx hb hd hv (tb_k_int hG (k _ List.mem_cons_self))
theorem tn_sipush {p : Program} {l : Launch} {e : Env} {R : Room} {s : State} {m : MethodId} {args : Array Value} {below : List Frame} {meth : Method} {c : Code} {Q : State → Prop} {D : va_G} {dA : Nat → ClassId} {A : Nat → Prop} {nL : Nat} {cl : List vw_C} {n0 : Nat} {V0 : sa_V} {E : tb_E} {Ts : List Cond} {cc : ByteArray} {own : String} (C0 : sa_C p s m args c D dA A nL cl Ts cc own) {pc : Nat} {n : Int} (hd : decode cc pc = .ok (.sipush n, 3)) (hv : (Int16.ofInt n).toInt32 = Int32.ofInt n) : tb_snd p l e R s m args below meth c Q D dA A nL cl n0 V0 E pc (to_int n 3) := by
  obtain ⟨hx, hb, hts, hown, hml, hK, hA⟩ := C0
  rintro ⟨pc, lo, st, cs, G, kc, ks⟩ sts rfl h k V H locs ls hG
  cases h
  exact lv_sipush hx hb hd hv (tb_k_int hG (k _ List.mem_cons_self))
theorem tn_ldc {p : Program} {l : Launch} {e : Env} {R : Room} {s : State} {m : MethodId} {args : Array Value} {below : List Frame} {meth : Method} {c : Code} {Q : State → Prop} {D : va_G} {dA : Nat → ClassId} {A : Nat → Prop} {nL : Nat} {cl : List vw_C} {n0 : Nat} {V0 : sa_V} {E : tb_E} {Ts : List Cond} {cc : ByteArray} {own : String} (C0 : sa_C p s m args c D dA A nL cl Ts cc own) {pc : Nat} {n : Int} {idx : Nat} (hd : decode cc pc = .ok (.ldc idx, 2)) (hc : Cond.constant own idx (Int32.ofInt n) ∈ Ts) : tb_snd p l e R s m args below meth c Q D dA A nL cl n0 V0 E pc (to_int n 2) := by
  obtain ⟨hx, hb, hts, hown, hml, hK, hA⟩ := C0
  rintro ⟨pc, lo, st, cs, G, kc, ks⟩ sts rfl h k V H locs ls hG
  cases h
  exact lv_ldc hx hb hown (hts _ hc) hd (tb_k_int hG (k _ List.mem_cons_self))
noncomputable def to_dup : tb_op := fun S => match S.2.2.1 with
  | v :: rest => if sa_cat v = 1 then some [(S.1 + 1, S.2.1, v :: v :: rest, S.2.2.2)] else none
  | _ => none
theorem tn_dup {p : Program} {l : Launch} {e : Env} {R : Room} {s : State} {m : MethodId} {args : Array Value} {below : List Frame} {meth : Method} {c : Code} {Q : State → Prop} {D : va_G} {dA : Nat → ClassId} {A : Nat → Prop} {nL : Nat} {cl : List vw_C} {n0 : Nat} {V0 : sa_V} {E : tb_E} {Ts : List Cond} {cc : ByteArray} {own : String} (C0 : sa_C p s m args c D dA A nL cl Ts cc own) {pc : Nat}  (hd : decode cc pc = .ok (.dup, 1)) : tb_snd p l e R s m args below meth c Q D dA A nL cl n0 V0 E pc to_dup := by
  obtain ⟨hx, hb, hts, hown, hml, hK, hA⟩ := C0
  rintro ⟨pc, lo, st, cs, G, kc, ks⟩ sts rfl h k V H locs ls hG
  unfold to_dup at h
  dsimp only at h
  split at h
  · rename_i v rest
    split at h
    · rename_i hv
      cases h
      exact lv_dup hx hb hd (by rw [sa_cat_val]; exact hv) (k _ List.mem_cons_self V H locs ls hG)
    · cases h
  · cases h
noncomputable def to_pop : tb_op := fun S => match S.2.2.1 with
  | v :: rest => if sa_cat v = 1 then some [(S.1 + 1, S.2.1, rest, S.2.2.2)] else none
  | _ => none
theorem tn_pop {p : Program} {l : Launch} {e : Env} {R : Room} {s : State} {m : MethodId} {args : Array Value} {below : List Frame} {meth : Method} {c : Code} {Q : State → Prop} {D : va_G} {dA : Nat → ClassId} {A : Nat → Prop} {nL : Nat} {cl : List vw_C} {n0 : Nat} {V0 : sa_V} {E : tb_E} {Ts : List Cond} {cc : ByteArray} {own : String} (C0 : sa_C p s m args c D dA A nL cl Ts cc own) {pc : Nat}  (hd : decode cc pc = .ok (.pop, 1)) : tb_snd p l e R s m args below meth c Q D dA A nL cl n0 V0 E pc to_pop := by
  obtain ⟨hx, hb, hts, hown, hml, hK, hA⟩ := C0
  rintro ⟨pc, lo, st, cs, G, kc, ks⟩ sts rfl h k V H locs ls hG
  unfold to_pop at h
  dsimp only at h
  split at h
  · rename_i v rest
    split at h
    · rename_i hv
      cases h
      exact lv_pop hx hb hd (by rw [sa_cat_val]; exact hv) (k _ List.mem_cons_self V H locs ls hG)
    · cases h
  · cases h
noncomputable def to_dup2 : tb_op := fun S => match S.2.2.1 with
  | v :: u :: rest => if sa_cat v = 1 ∧ sa_cat u = 1 then some [(S.1 + 1, S.2.1, v :: u :: v :: u :: rest, S.2.2.2)] else none
  | _ => none
theorem tn_dup2 {p : Program} {l : Launch} {e : Env} {R : Room} {s : State} {m : MethodId} {args : Array Value} {below : List Frame} {meth : Method} {c : Code} {Q : State → Prop} {D : va_G} {dA : Nat → ClassId} {A : Nat → Prop} {nL : Nat} {cl : List vw_C} {n0 : Nat} {V0 : sa_V} {E : tb_E} {Ts : List Cond} {cc : ByteArray} {own : String} (C0 : sa_C p s m args c D dA A nL cl Ts cc own) {pc : Nat}  (hd : decode cc pc = .ok (.dup2, 1)) : tb_snd p l e R s m args below meth c Q D dA A nL cl n0 V0 E pc to_dup2 := by
  obtain ⟨hx, hb, hts, hown, hml, hK, hA⟩ := C0
  rintro ⟨pc, lo, st, cs, G, kc, ks⟩ sts rfl h k V H locs ls hG
  unfold to_dup2 at h
  dsimp only at h
  split at h
  · rename_i v u rest
    split at h
    · rename_i hv
      cases h
      exact lv_dup2_11 hx hb hd (by rw [sa_cat_val]; exact hv.1) (by rw [sa_cat_val]; exact hv.2) (k _ List.mem_cons_self V H locs ls hG)
    · cases h
  · cases h
noncomputable def to_goto (tgt : Nat) : tb_op := fun S => some [(tgt, S.2)]
theorem tn_goto {p : Program} {l : Launch} {e : Env} {R : Room} {s : State} {m : MethodId} {args : Array Value} {below : List Frame} {meth : Method} {c : Code} {Q : State → Prop} {D : va_G} {dA : Nat → ClassId} {A : Nat → Prop} {nL : Nat} {cl : List vw_C} {n0 : Nat} {V0 : sa_V} {E : tb_E} {Ts : List Cond} {cc : ByteArray} {own : String} (C0 : sa_C p s m args c D dA A nL cl Ts cc own) {pc : Nat} {off : Int} {tgt : Nat} (hd : decode cc pc = .ok (.goto off, 3)) (ht : (pc : Int) + off = (tgt : Int)) : tb_snd p l e R s m args below meth c Q D dA A nL cl n0 V0 E pc (to_goto tgt) := by
  obtain ⟨hx, hb, hts, hown, hml, hK, hA⟩ := C0
  rintro ⟨pc, lo, st, cs, G, kc, ks⟩ sts rfl h k V H locs ls hG
  cases h
  exact lv_goto hx hb hd ht (k _ List.mem_cons_self V H locs ls hG)
noncomputable def to_bin (f : sa_B → Nat × Int → Nat × Int → Option sa_r) : tb_op := fun S => match S.2.2.1 with
  | .inl y :: .inl x :: rest => match f S.2.2.2.2.1 x y with
    | some r => tb_push (S.1 + 1) S.2.1 rest S.2.2.2.1 S.2.2.2.2.1 S.2.2.2.2.2.1 S.2.2.2.2.2.2 r
    | none => none
  | _ => none
theorem tn_iadd {p : Program} {l : Launch} {e : Env} {R : Room} {s : State} {m : MethodId} {args : Array Value} {below : List Frame} {meth : Method} {c : Code} {Q : State → Prop} {D : va_G} {dA : Nat → ClassId} {A : Nat → Prop} {nL : Nat} {cl : List vw_C} {n0 : Nat} {V0 : sa_V} {E : tb_E} {Ts : List Cond} {cc : ByteArray} {own : String} (C0 : sa_C p s m args c D dA A nL cl Ts cc own) {pc : Nat} {f : sa_B → Nat × Int → Nat × Int → Option sa_r} (hf : sa_bok f (fun x y => x + y)) (hd : decode cc pc = .ok (.iadd, 1)) : tb_snd p l e R s m args below meth c Q D dA A nL cl n0 V0 E pc (to_bin f) := by
  obtain ⟨hx, hb, hts, hown, hml, hK, hA⟩ := C0
  rintro ⟨pc, lo, st, cs, G, kc, ks⟩ sts rfl h k V H locs ls hG
  unfold to_bin at h
  dsimp only at h
  split at h
  · rename_i y x rest
    split at h
    · rename_i r hr
      exact lv_iadd hx hb hd (tb_push_ok hG (hf V G x y r hG.1.1 hr) h k)
    · cases h
  · cases h
theorem tn_isub {p : Program} {l : Launch} {e : Env} {R : Room} {s : State} {m : MethodId} {args : Array Value} {below : List Frame} {meth : Method} {c : Code} {Q : State → Prop} {D : va_G} {dA : Nat → ClassId} {A : Nat → Prop} {nL : Nat} {cl : List vw_C} {n0 : Nat} {V0 : sa_V} {E : tb_E} {Ts : List Cond} {cc : ByteArray} {own : String} (C0 : sa_C p s m args c D dA A nL cl Ts cc own) {pc : Nat} {f : sa_B → Nat × Int → Nat × Int → Option sa_r} (hf : sa_bok f (fun x y => x - y)) (hd : decode cc pc = .ok (.isub, 1)) : tb_snd p l e R s m args below meth c Q D dA A nL cl n0 V0 E pc (to_bin f) := by
  obtain ⟨hx, hb, hts, hown, hml, hK, hA⟩ := C0
  rintro ⟨pc, lo, st, cs, G, kc, ks⟩ sts rfl h k V H locs ls hG
  unfold to_bin at h
  dsimp only at h
  split at h
  · rename_i y x rest
    split at h
    · rename_i r hr
      exact lv_isub hx hb hd (tb_push_ok hG (hf V G x y r hG.1.1 hr) h k)
    · cases h
  · cases h
theorem tn_imul {p : Program} {l : Launch} {e : Env} {R : Room} {s : State} {m : MethodId} {args : Array Value} {below : List Frame} {meth : Method} {c : Code} {Q : State → Prop} {D : va_G} {dA : Nat → ClassId} {A : Nat → Prop} {nL : Nat} {cl : List vw_C} {n0 : Nat} {V0 : sa_V} {E : tb_E} {Ts : List Cond} {cc : ByteArray} {own : String} (C0 : sa_C p s m args c D dA A nL cl Ts cc own) {pc : Nat} {f : sa_B → Nat × Int → Nat × Int → Option sa_r} (hf : sa_bok f (fun x y => x * y)) (hd : decode cc pc = .ok (.imul, 1)) : tb_snd p l e R s m args below meth c Q D dA A nL cl n0 V0 E pc (to_bin f) := by
  obtain ⟨hx, hb, hts, hown, hml, hK, hA⟩ := C0
  rintro ⟨pc, lo, st, cs, G, kc, ks⟩ sts rfl h k V H locs ls hG
  unfold to_bin at h
  dsimp only at h
  split at h
  · rename_i y x rest
    split at h
    · rename_i r hr
      exact lv_imul hx hb hd (tb_push_ok hG (hf V G x y r hG.1.1 hr) h k)
    · cases h
  · cases h
theorem tn_iand {p : Program} {l : Launch} {e : Env} {R : Room} {s : State} {m : MethodId} {args : Array Value} {below : List Frame} {meth : Method} {c : Code} {Q : State → Prop} {D : va_G} {dA : Nat → ClassId} {A : Nat → Prop} {nL : Nat} {cl : List vw_C} {n0 : Nat} {V0 : sa_V} {E : tb_E} {Ts : List Cond} {cc : ByteArray} {own : String} (C0 : sa_C p s m args c D dA A nL cl Ts cc own) {pc : Nat} {f : sa_B → Nat × Int → Nat × Int → Option sa_r} (hf : sa_bok f (fun x y => x &&& y)) (hd : decode cc pc = .ok (.iand, 1)) : tb_snd p l e R s m args below meth c Q D dA A nL cl n0 V0 E pc (to_bin f) := by
  obtain ⟨hx, hb, hts, hown, hml, hK, hA⟩ := C0
  rintro ⟨pc, lo, st, cs, G, kc, ks⟩ sts rfl h k V H locs ls hG
  unfold to_bin at h
  dsimp only at h
  split at h
  · rename_i y x rest
    split at h
    · rename_i r hr
      exact lv_iand hx hb hd (tb_push_ok hG (hf V G x y r hG.1.1 hr) h k)
    · cases h
  · cases h
theorem tn_ior {p : Program} {l : Launch} {e : Env} {R : Room} {s : State} {m : MethodId} {args : Array Value} {below : List Frame} {meth : Method} {c : Code} {Q : State → Prop} {D : va_G} {dA : Nat → ClassId} {A : Nat → Prop} {nL : Nat} {cl : List vw_C} {n0 : Nat} {V0 : sa_V} {E : tb_E} {Ts : List Cond} {cc : ByteArray} {own : String} (C0 : sa_C p s m args c D dA A nL cl Ts cc own) {pc : Nat} {f : sa_B → Nat × Int → Nat × Int → Option sa_r} (hf : sa_bok f (fun x y => x ||| y)) (hd : decode cc pc = .ok (.ior, 1)) : tb_snd p l e R s m args below meth c Q D dA A nL cl n0 V0 E pc (to_bin f) := by
  obtain ⟨hx, hb, hts, hown, hml, hK, hA⟩ := C0
  rintro ⟨pc, lo, st, cs, G, kc, ks⟩ sts rfl h k V H locs ls hG
  unfold to_bin at h
  dsimp only at h
  split at h
  · rename_i y x rest
    split at h
    · rename_i r hr
      exact lv_ior hx hb hd (tb_push_ok hG (hf V G x y r hG.1.1 hr) h k)
    · cases h
  · cases h
theorem tn_ixor {p : Program} {l : Launch} {e : Env} {R : Room} {s : State} {m : MethodId} {args : Array Value} {below : List Frame} {meth : Method} {c : Code} {Q : State → Prop} {D : va_G} {dA : Nat → ClassId} {A : Nat → Prop} {nL : Nat} {cl : List vw_C} {n0 : Nat} {V0 : sa_V} {E : tb_E} {Ts : List Cond} {cc : ByteArray} {own : String} (C0 : sa_C p s m args c D dA A nL cl Ts cc own) {pc : Nat} {f : sa_B → Nat × Int → Nat × Int → Option sa_r} (hf : sa_bok f (fun x y => x ^^^ y)) (hd : decode cc pc = .ok (.ixor, 1)) : tb_snd p l e R s m args below meth c Q D dA A nL cl n0 V0 E pc (to_bin f) := by
  obtain ⟨hx, hb, hts, hown, hml, hK, hA⟩ := C0
  rintro ⟨pc, lo, st, cs, G, kc, ks⟩ sts rfl h k V H locs ls hG
  unfold to_bin at h
  dsimp only at h
  split at h
  · rename_i y x rest
    split at h
    · rename_i r hr
      exact lv_ixor hx hb hd (tb_push_ok hG (hf V G x y r hG.1.1 hr) h k)
    · cases h
  · cases h
theorem tn_ishl {p : Program} {l : Launch} {e : Env} {R : Room} {s : State} {m : MethodId} {args : Array Value} {below : List Frame} {meth : Method} {c : Code} {Q : State → Prop} {D : va_G} {dA : Nat → ClassId} {A : Nat → Prop} {nL : Nat} {cl : List vw_C} {n0 : Nat} {V0 : sa_V} {E : tb_E} {Ts : List Cond} {cc : ByteArray} {own : String} (C0 : sa_C p s m args c D dA A nL cl Ts cc own) {pc : Nat} {f : sa_B → Nat × Int → Nat × Int → Option sa_r} (hf : sa_bok f (fun x y => x <<< (y &&& 31))) (hd : decode cc pc = .ok (.ishl, 1)) : tb_snd p l e R s m args below meth c Q D dA A nL cl n0 V0 E pc (to_bin f) := by
  obtain ⟨hx, hb, hts, hown, hml, hK, hA⟩ := C0
  rintro ⟨pc, lo, st, cs, G, kc, ks⟩ sts rfl h k V H locs ls hG
  unfold to_bin at h
  dsimp only at h
  split at h
  · rename_i y x rest
    split at h
    · rename_i r hr
      exact lv_ishl hx hb hd (tb_push_ok hG (hf V G x y r hG.1.1 hr) h k)
    · cases h
  · cases h
theorem tn_ishr {p : Program} {l : Launch} {e : Env} {R : Room} {s : State} {m : MethodId} {args : Array Value} {below : List Frame} {meth : Method} {c : Code} {Q : State → Prop} {D : va_G} {dA : Nat → ClassId} {A : Nat → Prop} {nL : Nat} {cl : List vw_C} {n0 : Nat} {V0 : sa_V} {E : tb_E} {Ts : List Cond} {cc : ByteArray} {own : String} (C0 : sa_C p s m args c D dA A nL cl Ts cc own) {pc : Nat} {f : sa_B → Nat × Int → Nat × Int → Option sa_r} (hf : sa_bok f (fun x y => x >>> (y &&& 31))) (hd : decode cc pc = .ok (.ishr, 1)) : tb_snd p l e R s m args below meth c Q D dA A nL cl n0 V0 E pc (to_bin f) := by
  obtain ⟨hx, hb, hts, hown, hml, hK, hA⟩ := C0
  rintro ⟨pc, lo, st, cs, G, kc, ks⟩ sts rfl h k V H locs ls hG
  unfold to_bin at h
  dsimp only at h
  split at h
  · rename_i y x rest
    split at h
    · rename_i r hr
      exact lv_ishr hx hb hd (tb_push_ok hG (hf V G x y r hG.1.1 hr) h k)
    · cases h
  · cases h
theorem tn_iushr {p : Program} {l : Launch} {e : Env} {R : Room} {s : State} {m : MethodId} {args : Array Value} {below : List Frame} {meth : Method} {c : Code} {Q : State → Prop} {D : va_G} {dA : Nat → ClassId} {A : Nat → Prop} {nL : Nat} {cl : List vw_C} {n0 : Nat} {V0 : sa_V} {E : tb_E} {Ts : List Cond} {cc : ByteArray} {own : String} (C0 : sa_C p s m args c D dA A nL cl Ts cc own) {pc : Nat} {f : sa_B → Nat × Int → Nat × Int → Option sa_r} (hf : sa_bok f (fun x y => (x.toUInt32 >>> (y.toUInt32 &&& Int32.toUInt32 31)).toInt32)) (hd : decode cc pc = .ok (.iushr, 1)) : tb_snd p l e R s m args below meth c Q D dA A nL cl n0 V0 E pc (to_bin f) := by
  obtain ⟨hx, hb, hts, hown, hml, hK, hA⟩ := C0
  rintro ⟨pc, lo, st, cs, G, kc, ks⟩ sts rfl h k V H locs ls hG
  unfold to_bin at h
  dsimp only at h
  split at h
  · rename_i y x rest
    split at h
    · rename_i r hr
      exact lv_iushr hx hb hd rfl (tb_push_ok hG (hf V G x y r hG.1.1 hr) h k)
    · cases h
  · cases h
theorem tn_idiv {p : Program} {l : Launch} {e : Env} {R : Room} {s : State} {m : MethodId} {args : Array Value} {below : List Frame} {meth : Method} {c : Code} {Q : State → Prop} {D : va_G} {dA : Nat → ClassId} {A : Nat → Prop} {nL : Nat} {cl : List vw_C} {n0 : Nat} {V0 : sa_V} {E : tb_E} {Ts : List Cond} {cc : ByteArray} {own : String} (C0 : sa_C p s m args c D dA A nL cl Ts cc own) {pc : Nat} {f : sa_B → Nat × Int → Nat × Int → Option sa_r} (hf : sa_bok0 f (fun x y => x / y)) (hd : decode cc pc = .ok (.idiv, 1)) : tb_snd p l e R s m args below meth c Q D dA A nL cl n0 V0 E pc (to_bin f) := by
  obtain ⟨hx, hb, hts, hown, hml, hK, hA⟩ := C0
  rintro ⟨pc, lo, st, cs, G, kc, ks⟩ sts rfl h k V H locs ls hG
  unfold to_bin at h
  dsimp only at h
  split at h
  · rename_i y x rest
    split at h
    · rename_i r hr
      have hq := hf V G x y r hG.1.1 hr
      exact lv_idiv hx hb hd hq.1 (tb_push_ok hG hq.2 h k)
    · cases h
  · cases h
theorem tn_irem {p : Program} {l : Launch} {e : Env} {R : Room} {s : State} {m : MethodId} {args : Array Value} {below : List Frame} {meth : Method} {c : Code} {Q : State → Prop} {D : va_G} {dA : Nat → ClassId} {A : Nat → Prop} {nL : Nat} {cl : List vw_C} {n0 : Nat} {V0 : sa_V} {E : tb_E} {Ts : List Cond} {cc : ByteArray} {own : String} (C0 : sa_C p s m args c D dA A nL cl Ts cc own) {pc : Nat} {f : sa_B → Nat × Int → Nat × Int → Option sa_r} (hf : sa_bok0 f (fun x y => x - x / y * y)) (hd : decode cc pc = .ok (.irem, 1)) : tb_snd p l e R s m args below meth c Q D dA A nL cl n0 V0 E pc (to_bin f) := by
  obtain ⟨hx, hb, hts, hown, hml, hK, hA⟩ := C0
  rintro ⟨pc, lo, st, cs, G, kc, ks⟩ sts rfl h k V H locs ls hG
  unfold to_bin at h
  dsimp only at h
  split at h
  · rename_i y x rest
    split at h
    · rename_i r hr
      have hq := hf V G x y r hG.1.1 hr
      exact lv_irem hx hb hd hq.1 (tb_push_ok hG hq.2 h k)
    · cases h
  · cases h
noncomputable def tb_br (r : sa_R) (S : tb_S) (x y : Nat × Int) (pc : Nat) (rest : List sa_v) : List tb_S := (r S.2.2.2.2.1 x y).map (fun G' => (pc, S.2.1, rest, S.2.2.2.1, G', S.2.2.2.2.2))
theorem tb_br_ok {p : Program} {l : Launch} {e : Env} {R : Room} {s : State} {m : MethodId} {args : Array Value} {below : List Frame} {meth : Method} {c : Code} {Q : State → Prop} {D : va_G} {dA : Nat → ClassId} {A : Nat → Prop} {nL : Nat} {cl : List vw_C} {n0 : Nat} {V0 : sa_V} {E : tb_E} {r : sa_R} {P : Int32 → Int32 → Prop} (hr : sa_rok r P) {lo : sa_L} {st : List sa_v} {cs : tb_c} {G : sa_B} {kc ks pc0 pc : Nat} {x y : Nat × Int} {rest : List sa_v} {V : sa_V} {H : Heap} {locs : List Loc} {ls : Array Slot} (hG : tb_G D dA A nL cl n0 V0 E s.heap V lo cs G H locs ls) (hp : P (sa_i V x) (sa_i V y))
    (k : ∀ S' ∈ tb_br r (pc0, lo, st, cs, G, kc, ks) x y pc rest, tb_W p l e R s m args below meth c Q D dA A nL cl n0 V0 E S') : W p l e R s m args below meth c H locs kc ks Q (F0 m pc ls (rest.map (sa_val V))) := by
  obtain ⟨G', h1, h2⟩ := hr V G x y hG.1.1 hp
  exact k (pc, lo, rest, cs, G', kc, ks) (List.mem_map.mpr ⟨G', h1, rfl⟩) V H locs ls ⟨⟨h2.1, by rw [h2.2]; exact hG.1.2.1, hG.1.2.2⟩, hG.2⟩
noncomputable def to_icmp (rt rf : sa_R) (tgt : Nat) : tb_op := fun S => match S.2.2.1 with
  | .inl y :: .inl x :: rest => some (tb_br rt S x y tgt rest ++ tb_br rf S x y (S.1 + 3) rest)
  | _ => none
noncomputable def to_if (rt rf : sa_R) (tgt : Nat) : tb_op := fun S => match S.2.2.1 with
  | .inl x :: rest => some (tb_br rt S x (0, 0) tgt rest ++ tb_br rf S x (0, 0) (S.1 + 3) rest)
  | _ => none
theorem tn_icmp_eq {p : Program} {l : Launch} {e : Env} {R : Room} {s : State} {m : MethodId} {args : Array Value} {below : List Frame} {meth : Method} {c : Code} {Q : State → Prop} {D : va_G} {dA : Nat → ClassId} {A : Nat → Prop} {nL : Nat} {cl : List vw_C} {n0 : Nat} {V0 : sa_V} {E : tb_E} {Ts : List Cond} {cc : ByteArray} {own : String} (C0 : sa_C p s m args c D dA A nL cl Ts cc own) {pc : Nat} {off : Int} {tgt : Nat} (hd : decode cc pc = .ok (.if_icmp .eq off, 3)) (ht : (pc : Int) + off = (tgt : Int)) : tb_snd p l e R s m args below meth c Q D dA A nL cl n0 V0 E pc (to_icmp sr_eq sr_ne tgt) := by
  obtain ⟨hx, hb, hts, hown, hml, hK, hA⟩ := C0
  rintro ⟨pc, lo, st, cs, G, kc, ks⟩ sts rfl h k V H locs ls hG
  unfold to_icmp at h
  dsimp only at h
  split at h
  · rename_i y x rest
    cases h
    exact lv_icmp_eq hx hb hd ht (fun hp => tb_br_ok sr_eq_ok hG hp (fun S' hS => k S' (List.mem_append_left _ hS))) (fun hp => tb_br_ok sr_ne_ok hG hp (fun S' hS => k S' (List.mem_append_right _ hS)))
  · cases h
theorem tn_if_eq {p : Program} {l : Launch} {e : Env} {R : Room} {s : State} {m : MethodId} {args : Array Value} {below : List Frame} {meth : Method} {c : Code} {Q : State → Prop} {D : va_G} {dA : Nat → ClassId} {A : Nat → Prop} {nL : Nat} {cl : List vw_C} {n0 : Nat} {V0 : sa_V} {E : tb_E} {Ts : List Cond} {cc : ByteArray} {own : String} (C0 : sa_C p s m args c D dA A nL cl Ts cc own) {pc : Nat} {off : Int} {tgt : Nat} (hd : decode cc pc = .ok (.ifCond .eq off, 3)) (ht : (pc : Int) + off = (tgt : Int)) : tb_snd p l e R s m args below meth c Q D dA A nL cl n0 V0 E pc (to_if sr_eq sr_ne tgt) := by
  obtain ⟨hx, hb, hts, hown, hml, hK, hA⟩ := C0
  rintro ⟨pc, lo, st, cs, G, kc, ks⟩ sts rfl h k V H locs ls hG
  unfold to_if at h
  dsimp only at h
  split at h
  · rename_i x rest
    cases h
    have e0 : sa_i V (0, 0) = 0 := (sa_i_0 hG.1.1 0).trans rfl
    exact lv_if_eq hx hb hd ht (fun hp => tb_br_ok sr_eq_ok hG (by rw [e0]; exact hp) (fun S' hS => k S' (List.mem_append_left _ hS))) (fun hp => tb_br_ok sr_ne_ok hG (by rw [e0]; exact hp) (fun S' hS => k S' (List.mem_append_right _ hS)))
  · cases h
theorem tn_icmp_ne {p : Program} {l : Launch} {e : Env} {R : Room} {s : State} {m : MethodId} {args : Array Value} {below : List Frame} {meth : Method} {c : Code} {Q : State → Prop} {D : va_G} {dA : Nat → ClassId} {A : Nat → Prop} {nL : Nat} {cl : List vw_C} {n0 : Nat} {V0 : sa_V} {E : tb_E} {Ts : List Cond} {cc : ByteArray} {own : String} (C0 : sa_C p s m args c D dA A nL cl Ts cc own) {pc : Nat} {off : Int} {tgt : Nat} (hd : decode cc pc = .ok (.if_icmp .ne off, 3)) (ht : (pc : Int) + off = (tgt : Int)) : tb_snd p l e R s m args below meth c Q D dA A nL cl n0 V0 E pc (to_icmp sr_ne sr_eq tgt) := by
  obtain ⟨hx, hb, hts, hown, hml, hK, hA⟩ := C0
  rintro ⟨pc, lo, st, cs, G, kc, ks⟩ sts rfl h k V H locs ls hG
  unfold to_icmp at h
  dsimp only at h
  split at h
  · rename_i y x rest
    cases h
    exact lv_icmp_ne hx hb hd ht (fun hp => tb_br_ok sr_ne_ok hG hp (fun S' hS => k S' (List.mem_append_left _ hS))) (fun hp => tb_br_ok sr_eq_ok hG hp (fun S' hS => k S' (List.mem_append_right _ hS)))
  · cases h
theorem tn_if_ne {p : Program} {l : Launch} {e : Env} {R : Room} {s : State} {m : MethodId} {args : Array Value} {below : List Frame} {meth : Method} {c : Code} {Q : State → Prop} {D : va_G} {dA : Nat → ClassId} {A : Nat → Prop} {nL : Nat} {cl : List vw_C} {n0 : Nat} {V0 : sa_V} {E : tb_E} {Ts : List Cond} {cc : ByteArray} {own : String} (C0 : sa_C p s m args c D dA A nL cl Ts cc own) {pc : Nat} {off : Int} {tgt : Nat} (hd : decode cc pc = .ok (.ifCond .ne off, 3)) (ht : (pc : Int) + off = (tgt : Int)) : tb_snd p l e R s m args below meth c Q D dA A nL cl n0 V0 E pc (to_if sr_ne sr_eq tgt) := by
  obtain ⟨hx, hb, hts, hown, hml, hK, hA⟩ := C0
  rintro ⟨pc, lo, st, cs, G, kc, ks⟩ sts rfl h k V H locs ls hG
  unfold to_if at h
  dsimp only at h
  split at h
  · rename_i x rest
    cases h
    have e0 : sa_i V (0, 0) = 0 := (sa_i_0 hG.1.1 0).trans rfl
    exact lv_if_ne hx hb hd ht (fun hp => tb_br_ok sr_ne_ok hG (by rw [e0]; exact hp) (fun S' hS => k S' (List.mem_append_left _ hS))) (fun hp => tb_br_ok sr_eq_ok hG (by rw [e0]; exact hp) (fun S' hS => k S' (List.mem_append_right _ hS)))
  · cases h
theorem tn_icmp_lt {p : Program} {l : Launch} {e : Env} {R : Room} {s : State} {m : MethodId} {args : Array Value} {below : List Frame} {meth : Method} {c : Code} {Q : State → Prop} {D : va_G} {dA : Nat → ClassId} {A : Nat → Prop} {nL : Nat} {cl : List vw_C} {n0 : Nat} {V0 : sa_V} {E : tb_E} {Ts : List Cond} {cc : ByteArray} {own : String} (C0 : sa_C p s m args c D dA A nL cl Ts cc own) {pc : Nat} {off : Int} {tgt : Nat} (hd : decode cc pc = .ok (.if_icmp .lt off, 3)) (ht : (pc : Int) + off = (tgt : Int)) : tb_snd p l e R s m args below meth c Q D dA A nL cl n0 V0 E pc (to_icmp sr_lt (sr_flip sr_le) tgt) := by
  obtain ⟨hx, hb, hts, hown, hml, hK, hA⟩ := C0
  rintro ⟨pc, lo, st, cs, G, kc, ks⟩ sts rfl h k V H locs ls hG
  unfold to_icmp at h
  dsimp only at h
  split at h
  · rename_i y x rest
    cases h
    exact lv_icmp_lt hx hb hd ht (fun hp => tb_br_ok sr_lt_ok hG hp (fun S' hS => k S' (List.mem_append_left _ hS))) (fun hp => tb_br_ok sr_nlt_ok hG hp (fun S' hS => k S' (List.mem_append_right _ hS)))
  · cases h
theorem tn_if_lt {p : Program} {l : Launch} {e : Env} {R : Room} {s : State} {m : MethodId} {args : Array Value} {below : List Frame} {meth : Method} {c : Code} {Q : State → Prop} {D : va_G} {dA : Nat → ClassId} {A : Nat → Prop} {nL : Nat} {cl : List vw_C} {n0 : Nat} {V0 : sa_V} {E : tb_E} {Ts : List Cond} {cc : ByteArray} {own : String} (C0 : sa_C p s m args c D dA A nL cl Ts cc own) {pc : Nat} {off : Int} {tgt : Nat} (hd : decode cc pc = .ok (.ifCond .lt off, 3)) (ht : (pc : Int) + off = (tgt : Int)) : tb_snd p l e R s m args below meth c Q D dA A nL cl n0 V0 E pc (to_if sr_lt (sr_flip sr_le) tgt) := by
  obtain ⟨hx, hb, hts, hown, hml, hK, hA⟩ := C0
  rintro ⟨pc, lo, st, cs, G, kc, ks⟩ sts rfl h k V H locs ls hG
  unfold to_if at h
  dsimp only at h
  split at h
  · rename_i x rest
    cases h
    have e0 : sa_i V (0, 0) = 0 := (sa_i_0 hG.1.1 0).trans rfl
    exact lv_if_lt hx hb hd ht (fun hp => tb_br_ok sr_lt_ok hG (by rw [e0]; exact hp) (fun S' hS => k S' (List.mem_append_left _ hS))) (fun hp => tb_br_ok sr_nlt_ok hG (by rw [e0]; exact hp) (fun S' hS => k S' (List.mem_append_right _ hS)))
  · cases h
theorem tn_icmp_ge {p : Program} {l : Launch} {e : Env} {R : Room} {s : State} {m : MethodId} {args : Array Value} {below : List Frame} {meth : Method} {c : Code} {Q : State → Prop} {D : va_G} {dA : Nat → ClassId} {A : Nat → Prop} {nL : Nat} {cl : List vw_C} {n0 : Nat} {V0 : sa_V} {E : tb_E} {Ts : List Cond} {cc : ByteArray} {own : String} (C0 : sa_C p s m args c D dA A nL cl Ts cc own) {pc : Nat} {off : Int} {tgt : Nat} (hd : decode cc pc = .ok (.if_icmp .ge off, 3)) (ht : (pc : Int) + off = (tgt : Int)) : tb_snd p l e R s m args below meth c Q D dA A nL cl n0 V0 E pc (to_icmp (sr_flip sr_le) sr_lt tgt) := by
  obtain ⟨hx, hb, hts, hown, hml, hK, hA⟩ := C0
  rintro ⟨pc, lo, st, cs, G, kc, ks⟩ sts rfl h k V H locs ls hG
  unfold to_icmp at h
  dsimp only at h
  split at h
  · rename_i y x rest
    cases h
    exact lv_icmp_ge hx hb hd ht (fun hp => tb_br_ok (sr_flip_ok sr_le_ok) hG hp (fun S' hS => k S' (List.mem_append_left _ hS))) (fun hp => tb_br_ok sr_nle'_ok hG hp (fun S' hS => k S' (List.mem_append_right _ hS)))
  · cases h
theorem tn_if_ge {p : Program} {l : Launch} {e : Env} {R : Room} {s : State} {m : MethodId} {args : Array Value} {below : List Frame} {meth : Method} {c : Code} {Q : State → Prop} {D : va_G} {dA : Nat → ClassId} {A : Nat → Prop} {nL : Nat} {cl : List vw_C} {n0 : Nat} {V0 : sa_V} {E : tb_E} {Ts : List Cond} {cc : ByteArray} {own : String} (C0 : sa_C p s m args c D dA A nL cl Ts cc own) {pc : Nat} {off : Int} {tgt : Nat} (hd : decode cc pc = .ok (.ifCond .ge off, 3)) (ht : (pc : Int) + off = (tgt : Int)) : tb_snd p l e R s m args below meth c Q D dA A nL cl n0 V0 E pc (to_if (sr_flip sr_le) sr_lt tgt) := by
  obtain ⟨hx, hb, hts, hown, hml, hK, hA⟩ := C0
  rintro ⟨pc, lo, st, cs, G, kc, ks⟩ sts rfl h k V H locs ls hG
  unfold to_if at h
  dsimp only at h
  split at h
  · rename_i x rest
    cases h
    have e0 : sa_i V (0, 0) = 0 := (sa_i_0 hG.1.1 0).trans rfl
    exact lv_if_ge hx hb hd ht (fun hp => tb_br_ok (sr_flip_ok sr_le_ok) hG (by rw [e0]; exact hp) (fun S' hS => k S' (List.mem_append_left _ hS))) (fun hp => tb_br_ok sr_nle'_ok hG (by rw [e0]; exact hp) (fun S' hS => k S' (List.mem_append_right _ hS)))
  · cases h
theorem tn_icmp_gt {p : Program} {l : Launch} {e : Env} {R : Room} {s : State} {m : MethodId} {args : Array Value} {below : List Frame} {meth : Method} {c : Code} {Q : State → Prop} {D : va_G} {dA : Nat → ClassId} {A : Nat → Prop} {nL : Nat} {cl : List vw_C} {n0 : Nat} {V0 : sa_V} {E : tb_E} {Ts : List Cond} {cc : ByteArray} {own : String} (C0 : sa_C p s m args c D dA A nL cl Ts cc own) {pc : Nat} {off : Int} {tgt : Nat} (hd : decode cc pc = .ok (.if_icmp .gt off, 3)) (ht : (pc : Int) + off = (tgt : Int)) : tb_snd p l e R s m args below meth c Q D dA A nL cl n0 V0 E pc (to_icmp (sr_flip sr_lt) sr_le tgt) := by
  obtain ⟨hx, hb, hts, hown, hml, hK, hA⟩ := C0
  rintro ⟨pc, lo, st, cs, G, kc, ks⟩ sts rfl h k V H locs ls hG
  unfold to_icmp at h
  dsimp only at h
  split at h
  · rename_i y x rest
    cases h
    exact lv_icmp_gt hx hb hd ht (fun hp => tb_br_ok (sr_flip_ok sr_lt_ok) hG hp (fun S' hS => k S' (List.mem_append_left _ hS))) (fun hp => tb_br_ok sr_nlt'_ok hG hp (fun S' hS => k S' (List.mem_append_right _ hS)))
  · cases h
theorem tn_if_gt {p : Program} {l : Launch} {e : Env} {R : Room} {s : State} {m : MethodId} {args : Array Value} {below : List Frame} {meth : Method} {c : Code} {Q : State → Prop} {D : va_G} {dA : Nat → ClassId} {A : Nat → Prop} {nL : Nat} {cl : List vw_C} {n0 : Nat} {V0 : sa_V} {E : tb_E} {Ts : List Cond} {cc : ByteArray} {own : String} (C0 : sa_C p s m args c D dA A nL cl Ts cc own) {pc : Nat} {off : Int} {tgt : Nat} (hd : decode cc pc = .ok (.ifCond .gt off, 3)) (ht : (pc : Int) + off = (tgt : Int)) : tb_snd p l e R s m args below meth c Q D dA A nL cl n0 V0 E pc (to_if (sr_flip sr_lt) sr_le tgt) := by
  obtain ⟨hx, hb, hts, hown, hml, hK, hA⟩ := C0
  rintro ⟨pc, lo, st, cs, G, kc, ks⟩ sts rfl h k V H locs ls hG
  unfold to_if at h
  dsimp only at h
  split at h
  · rename_i x rest
    cases h
    have e0 : sa_i V (0, 0) = 0 := (sa_i_0 hG.1.1 0).trans rfl
    exact lv_if_gt hx hb hd ht (fun hp => tb_br_ok (sr_flip_ok sr_lt_ok) hG (by rw [e0]; exact hp) (fun S' hS => k S' (List.mem_append_left _ hS))) (fun hp => tb_br_ok sr_nlt'_ok hG (by rw [e0]; exact hp) (fun S' hS => k S' (List.mem_append_right _ hS)))
  · cases h
theorem tn_icmp_le {p : Program} {l : Launch} {e : Env} {R : Room} {s : State} {m : MethodId} {args : Array Value} {below : List Frame} {meth : Method} {c : Code} {Q : State → Prop} {D : va_G} {dA : Nat → ClassId} {A : Nat → Prop} {nL : Nat} {cl : List vw_C} {n0 : Nat} {V0 : sa_V} {E : tb_E} {Ts : List Cond} {cc : ByteArray} {own : String} (C0 : sa_C p s m args c D dA A nL cl Ts cc own) {pc : Nat} {off : Int} {tgt : Nat} (hd : decode cc pc = .ok (.if_icmp .le off, 3)) (ht : (pc : Int) + off = (tgt : Int)) : tb_snd p l e R s m args below meth c Q D dA A nL cl n0 V0 E pc (to_icmp sr_le (sr_flip sr_lt) tgt) := by
  obtain ⟨hx, hb, hts, hown, hml, hK, hA⟩ := C0
  rintro ⟨pc, lo, st, cs, G, kc, ks⟩ sts rfl h k V H locs ls hG
  unfold to_icmp at h
  dsimp only at h
  split at h
  · rename_i y x rest
    cases h
    exact lv_icmp_le hx hb hd ht (fun hp => tb_br_ok sr_le_ok hG hp (fun S' hS => k S' (List.mem_append_left _ hS))) (fun hp => tb_br_ok sr_nle_ok hG hp (fun S' hS => k S' (List.mem_append_right _ hS)))
  · cases h
theorem tn_if_le {p : Program} {l : Launch} {e : Env} {R : Room} {s : State} {m : MethodId} {args : Array Value} {below : List Frame} {meth : Method} {c : Code} {Q : State → Prop} {D : va_G} {dA : Nat → ClassId} {A : Nat → Prop} {nL : Nat} {cl : List vw_C} {n0 : Nat} {V0 : sa_V} {E : tb_E} {Ts : List Cond} {cc : ByteArray} {own : String} (C0 : sa_C p s m args c D dA A nL cl Ts cc own) {pc : Nat} {off : Int} {tgt : Nat} (hd : decode cc pc = .ok (.ifCond .le off, 3)) (ht : (pc : Int) + off = (tgt : Int)) : tb_snd p l e R s m args below meth c Q D dA A nL cl n0 V0 E pc (to_if sr_le (sr_flip sr_lt) tgt) := by
  obtain ⟨hx, hb, hts, hown, hml, hK, hA⟩ := C0
  rintro ⟨pc, lo, st, cs, G, kc, ks⟩ sts rfl h k V H locs ls hG
  unfold to_if at h
  dsimp only at h
  split at h
  · rename_i x rest
    cases h
    have e0 : sa_i V (0, 0) = 0 := (sa_i_0 hG.1.1 0).trans rfl
    exact lv_if_le hx hb hd ht (fun hp => tb_br_ok sr_le_ok hG (by rw [e0]; exact hp) (fun S' hS => k S' (List.mem_append_left _ hS))) (fun hp => tb_br_ok sr_nle_ok hG (by rw [e0]; exact hp) (fun S' hS => k S' (List.mem_append_right _ hS)))
  · cases h
noncomputable def tb_tsw (S : tb_S) (x : Nat × Int) (rest : List sa_v) : Int → List Nat → List tb_S
  | _, [] => []
  | a, t :: l => tb_br sr_eq S x (0, a) t rest ++ tb_tsw S x rest (a + 1) l
theorem tb_tsw_in {S : tb_S} {x : Nat × Int} {rest : List sa_v} : ∀ (l : List Nat) (a : Int) (j t : Nat), l[j]? = some t → ∀ S' ∈ tb_br sr_eq S x (0, a + j) t rest, S' ∈ tb_tsw S x rest a l
  | [], _, _, _, h => by simp at h
  | t0 :: l, a, 0, t, h => by
    cases h
    intro S' hS
    rw [show a + ((0 : Nat) : Int) = a by omega] at hS
    exact List.mem_append_left _ hS
  | t0 :: l, a, j + 1, t, h => by
    intro S' hS
    rw [show a + ((j + 1 : Nat) : Int) = (a + 1) + (j : Int) by omega] at hS
    exact List.mem_append_right _ (tb_tsw_in l (a + 1) j t (by simpa using h) S' hS)
noncomputable def to_tsx (a : Int) (tg : List Nat) (df : Nat) : tb_op := fun S => match S.2.2.1 with
  | .inl x :: rest => match sa_iv S.2.2.2.2.1 x with
    | some b => some (tb_tsw S x rest a tg ++ ((if b.1 < a then [(df, S.2.1, rest, S.2.2.2.1, sa_hi S.2.2.2.2.1 x.1 (a - 1 - x.2), S.2.2.2.2.2)] else []) ++ (if a + tg.length ≤ b.2 then [(df, S.2.1, rest, S.2.2.2.1, sa_lw S.2.2.2.2.1 x.1 (a + tg.length - x.2), S.2.2.2.2.2)] else [])))
    | none => none
  | _ => none
theorem tn_tsx {p : Program} {l : Launch} {e : Env} {R : Room} {s : State} {m : MethodId} {args : Array Value} {below : List Frame} {meth : Method} {c : Code} {Q : State → Prop} {D : va_G} {dA : Nat → ClassId} {A : Nat → Prop} {nL : Nat} {cl : List vw_C} {n0 : Nat} {V0 : sa_V} {E : tb_E} {Ts : List Cond} {cc : ByteArray} {own : String} (C0 : sa_C p s m args c D dA A nL cl Ts cc own) {pc : Nat} {dflt a b : Int} {offs : Array Int} {len df : Nat} {tg : List Nat} (hd : decode cc pc = .ok (.tableswitch dflt a b offs, len)) (hb0 : b = a + tg.length - 1) (ha1 : -2147483648 ≤ a) (ha2 : a + tg.length ≤ 2147483647) (ho : offs.toList.map (fun o => (pc : Int) + o) = tg.map Int.ofNat) (ht : (pc : Int) + dflt = (df : Int)) : tb_snd p l e R s m args below meth c Q D dA A nL cl n0 V0 E pc (to_tsx a tg df) := by
  obtain ⟨hx, hb, hts, hown, hml, hK, hA⟩ := C0
  rintro ⟨pc, lo, st, cs, G, kc, ks⟩ sts rfl h k V H locs ls hG
  unfold to_tsx at h
  dsimp only at h
  split at h
  · rename_i x rest
    split at h
    · rename_i bb hbb
      cases h
      obtain ⟨e1, l1, u1⟩ := sa_iv_ok hG.1.1 hbb
      by_cases hin : (sa_i V x).toInt < a ∨ b < (sa_i V x).toInt
      · refine lv_tableOut hx hb hd hin ht ?_
        rcases hin with hin | hin
        · exact k (df, lo, rest, cs, sa_hi G x.1 (a - 1 - x.2), kc, ks) (List.mem_append_right _ (List.mem_append_left _ (by rw [if_pos (by omega)]; exact List.mem_cons_self))) V H locs ls ⟨⟨sa_I_hi hG.1.1 (by omega), by rw [sa_hi_len]; exact hG.1.2.1, hG.1.2.2⟩, hG.2⟩
        · exact k (df, lo, rest, cs, sa_lw G x.1 (a + tg.length - x.2), kc, ks) (List.mem_append_right _ (List.mem_append_right _ (by rw [if_pos (by omega)]; exact List.mem_cons_self))) V H locs ls ⟨⟨sa_I_lw hG.1.1 (by omega), by rw [sa_lw_len]; exact hG.1.2.1, hG.1.2.2⟩, hG.2⟩
      · have hj : ((sa_i V x).toInt - a).toNat < offs.toList.length := by
          have hlen : offs.toList.length = tg.length := by rw [← List.length_map (f := fun o => (pc : Int) + o), ho, List.length_map]
          rw [hlen]
          omega
        obtain ⟨off, hoff⟩ : ∃ off, offs.toList[((sa_i V x).toInt - a).toNat]? = some off := ⟨_, List.getElem?_eq_getElem hj⟩
        have h5 : (offs.toList.map (fun o => (pc : Int) + o))[((sa_i V x).toInt - a).toNat]? = some ((pc : Int) + off) := by rw [List.getElem?_map, hoff]; rfl
        rw [ho, List.getElem?_map] at h5
        cases h6 : tg[((sa_i V x).toInt - a).toNat]? with
        | none => rw [h6] at h5; cases h5
        | some t =>
          rw [h6] at h5
          have h7 : (pc : Int) + off = (t : Int) := (Option.some.inj h5).symm
          refine lv_tableIn hx hb hd (fun q => hin (Or.inl q)) (fun q => hin (Or.inr q)) (by rw [← Array.getElem?_toList]; exact hoff) h7 ?_
          refine tb_br_ok (st := .inl x :: rest) (pc0 := pc) (y := (0, a + (((sa_i V x).toInt - a).toNat : Int))) sr_eq_ok hG ?_ (fun S' hS => k S' (List.mem_append_left _ (tb_tsw_in tg a _ t h6 S' hS)))
          show sa_i V x = sa_i V _
          rw [sa_i_0 hG.1.1, show a + (((sa_i V x).toInt - a).toNat : Int) = (sa_i V x).toInt by omega, Int32.ofInt_toInt]
    · cases h
  · cases h
end TY1
