section SA1
noncomputable def so_iload (i len : Nat) : sa_op := fun S => match sa_look i S.2.1 with
  | some (.inl q) => some [(S.1 + len, S.2.1, .inl q :: S.2.2.1, S.2.2.2)]
  | _ => none
theorem sn_iload_n {p : Program} {l : Launch} {e : Env} {R : Room} {s : State} {m : MethodId} {args : Array Value} {below : List Frame} {meth : Method} {c : Code} {Q : State → Prop} {D : va_G} {dA : Nat → ClassId} {A : Nat → Prop} {nL : Nat} {cl : List vw_C} {n0 : Nat} {V0 : sa_V} {Ts : List Cond} {cc : ByteArray} {own : String} (C0 : sa_C p s m args c D dA A nL cl Ts cc own) {pc : Nat} {n : Fin 4} (hd : decode cc pc = .ok (.iload_n n, 1)) : sa_snd p l e R s m args below meth c Q D dA A nL cl n0 V0 pc (so_iload n 1) := by
  obtain ⟨hx, hb, hts, hown, hml, hK, hA⟩ := C0
  rintro ⟨pc, lo, st, cs, G, kc, ks⟩ sts rfl h k V H locs ls hG
  unfold so_iload at h
  dsimp only at h
  split at h
  · rename_i q hq
    cases h
    exact lv_iload_n hx hb hd rfl (sa_look_at hG.2.1 hq) (k _ List.mem_cons_self V H locs ls hG)
  · cases h
theorem sn_iload {p : Program} {l : Launch} {e : Env} {R : Room} {s : State} {m : MethodId} {args : Array Value} {below : List Frame} {meth : Method} {c : Code} {Q : State → Prop} {D : va_G} {dA : Nat → ClassId} {A : Nat → Prop} {nL : Nat} {cl : List vw_C} {n0 : Nat} {V0 : sa_V} {Ts : List Cond} {cc : ByteArray} {own : String} (C0 : sa_C p s m args c D dA A nL cl Ts cc own) {pc : Nat} {i : Nat} (hd : decode cc pc = .ok (.iload i, 2)) : sa_snd p l e R s m args below meth c Q D dA A nL cl n0 V0 pc (so_iload i 2) := by
  obtain ⟨hx, hb, hts, hown, hml, hK, hA⟩ := C0
  rintro ⟨pc, lo, st, cs, G, kc, ks⟩ sts rfl h k V H locs ls hG
  unfold so_iload at h
  dsimp only at h
  split at h
  · rename_i q hq
    cases h
    exact lv_iload hx hb hd (sa_look_at hG.2.1 hq) (k _ List.mem_cons_self V H locs ls hG)
  · cases h
noncomputable def so_aload (i len : Nat) : sa_op := fun S => match sa_look i S.2.1 with
  | some (.inr (.inl (some q))) => some [(S.1 + len, S.2.1, .inr (.inl (some q)) :: S.2.2.1, S.2.2.2)]
  | _ => none
theorem sn_aload_n {p : Program} {l : Launch} {e : Env} {R : Room} {s : State} {m : MethodId} {args : Array Value} {below : List Frame} {meth : Method} {c : Code} {Q : State → Prop} {D : va_G} {dA : Nat → ClassId} {A : Nat → Prop} {nL : Nat} {cl : List vw_C} {n0 : Nat} {V0 : sa_V} {Ts : List Cond} {cc : ByteArray} {own : String} (C0 : sa_C p s m args c D dA A nL cl Ts cc own) {pc : Nat} {n : Fin 4} (hd : decode cc pc = .ok (.aload_n n, 1)) : sa_snd p l e R s m args below meth c Q D dA A nL cl n0 V0 pc (so_aload n 1) := by
  obtain ⟨hx, hb, hts, hown, hml, hK, hA⟩ := C0
  rintro ⟨pc, lo, st, cs, G, kc, ks⟩ sts rfl h k V H locs ls hG
  unfold so_aload at h
  dsimp only at h
  split at h
  · rename_i q hq
    cases h
    exact lv_aload_n hx hb hd rfl (sa_look_at hG.2.1 hq) (k _ List.mem_cons_self V H locs ls hG)
  · cases h
theorem sn_aload {p : Program} {l : Launch} {e : Env} {R : Room} {s : State} {m : MethodId} {args : Array Value} {below : List Frame} {meth : Method} {c : Code} {Q : State → Prop} {D : va_G} {dA : Nat → ClassId} {A : Nat → Prop} {nL : Nat} {cl : List vw_C} {n0 : Nat} {V0 : sa_V} {Ts : List Cond} {cc : ByteArray} {own : String} (C0 : sa_C p s m args c D dA A nL cl Ts cc own) {pc : Nat} {i : Nat} (hd : decode cc pc = .ok (.aload i, 2)) : sa_snd p l e R s m args below meth c Q D dA A nL cl n0 V0 pc (so_aload i 2) := by
  obtain ⟨hx, hb, hts, hown, hml, hK, hA⟩ := C0
  rintro ⟨pc, lo, st, cs, G, kc, ks⟩ sts rfl h k V H locs ls hG
  unfold so_aload at h
  dsimp only at h
  split at h
  · rename_i q hq
    cases h
    exact lv_aload hx hb hd (sa_look_at hG.2.1 hq) (k _ List.mem_cons_self V H locs ls hG)
  · cases h
noncomputable def so_lload (i len : Nat) : sa_op := fun S => match sa_look i S.2.1 with
  | some (.inr (.inr q)) => some [(S.1 + len, S.2.1, .inr (.inr q) :: S.2.2.1, S.2.2.2)]
  | _ => none
theorem sn_lload_n {p : Program} {l : Launch} {e : Env} {R : Room} {s : State} {m : MethodId} {args : Array Value} {below : List Frame} {meth : Method} {c : Code} {Q : State → Prop} {D : va_G} {dA : Nat → ClassId} {A : Nat → Prop} {nL : Nat} {cl : List vw_C} {n0 : Nat} {V0 : sa_V} {Ts : List Cond} {cc : ByteArray} {own : String} (C0 : sa_C p s m args c D dA A nL cl Ts cc own) {pc : Nat} {n : Fin 4} (hd : decode cc pc = .ok (.lload_n n, 1)) : sa_snd p l e R s m args below meth c Q D dA A nL cl n0 V0 pc (so_lload n 1) := by
  obtain ⟨hx, hb, hts, hown, hml, hK, hA⟩ := C0
  rintro ⟨pc, lo, st, cs, G, kc, ks⟩ sts rfl h k V H locs ls hG
  unfold so_lload at h
  dsimp only at h
  split at h
  · rename_i q hq
    cases h
    exact lv_lload_n hx hb hd rfl (sa_look_at hG.2.1 hq) (k _ List.mem_cons_self V H locs ls hG)
  · cases h
theorem sn_lload {p : Program} {l : Launch} {e : Env} {R : Room} {s : State} {m : MethodId} {args : Array Value} {below : List Frame} {meth : Method} {c : Code} {Q : State → Prop} {D : va_G} {dA : Nat → ClassId} {A : Nat → Prop} {nL : Nat} {cl : List vw_C} {n0 : Nat} {V0 : sa_V} {Ts : List Cond} {cc : ByteArray} {own : String} (C0 : sa_C p s m args c D dA A nL cl Ts cc own) {pc : Nat} {i : Nat} (hd : decode cc pc = .ok (.lload i, 2)) : sa_snd p l e R s m args below meth c Q D dA A nL cl n0 V0 pc (so_lload i 2) := by
  obtain ⟨hx, hb, hts, hown, hml, hK, hA⟩ := C0
  rintro ⟨pc, lo, st, cs, G, kc, ks⟩ sts rfl h k V H locs ls hG
  unfold so_lload at h
  dsimp only at h
  split at h
  · rename_i q hq
    cases h
    exact lv_lload hx hb hd (sa_look_at hG.2.1 hq) (k _ List.mem_cons_self V H locs ls hG)
  · cases h
noncomputable def so_istore (nL i len : Nat) : sa_op := fun S => match S.2.2.1 with
  | .inl q :: rest => if i < nL then some [(S.1 + len, sa_set1 i (.inl q) S.2.1, rest, S.2.2.2)] else none
  | _ => none
theorem sn_istore_n {p : Program} {l : Launch} {e : Env} {R : Room} {s : State} {m : MethodId} {args : Array Value} {below : List Frame} {meth : Method} {c : Code} {Q : State → Prop} {D : va_G} {dA : Nat → ClassId} {A : Nat → Prop} {nL : Nat} {cl : List vw_C} {n0 : Nat} {V0 : sa_V} {Ts : List Cond} {cc : ByteArray} {own : String} (C0 : sa_C p s m args c D dA A nL cl Ts cc own) {pc : Nat} {n : Fin 4} (hd : decode cc pc = .ok (.istore_n n, 1)) : sa_snd p l e R s m args below meth c Q D dA A nL cl n0 V0 pc (so_istore nL n 1) := by
  obtain ⟨hx, hb, hts, hown, hml, hK, hA⟩ := C0
  rintro ⟨pc, lo, st, cs, G, kc, ks⟩ sts rfl h k V H locs ls hG
  unfold so_istore at h
  dsimp only at h
  split at h
  · rename_i q rest
    split at h
    · rename_i hi
      cases h
      exact lv_istore_n hx hb hd rfl hG.2.1 hi (sa_set1_lv V _ (.inl q) lo) (fun ls' hl' => k _ List.mem_cons_self V H locs ls' ⟨hG.1, hl', hG.2.2⟩)
    · cases h
  · cases h
theorem sn_istore {p : Program} {l : Launch} {e : Env} {R : Room} {s : State} {m : MethodId} {args : Array Value} {below : List Frame} {meth : Method} {c : Code} {Q : State → Prop} {D : va_G} {dA : Nat → ClassId} {A : Nat → Prop} {nL : Nat} {cl : List vw_C} {n0 : Nat} {V0 : sa_V} {Ts : List Cond} {cc : ByteArray} {own : String} (C0 : sa_C p s m args c D dA A nL cl Ts cc own) {pc : Nat} {i : Nat} (hd : decode cc pc = .ok (.istore i, 2)) : sa_snd p l e R s m args below meth c Q D dA A nL cl n0 V0 pc (so_istore nL i 2) := by
  obtain ⟨hx, hb, hts, hown, hml, hK, hA⟩ := C0
  rintro ⟨pc, lo, st, cs, G, kc, ks⟩ sts rfl h k V H locs ls hG
  unfold so_istore at h
  dsimp only at h
  split at h
  · rename_i q rest
    split at h
    · rename_i hi
      cases h
      exact lv_istore hx hb hd hG.2.1 hi (sa_set1_lv V _ (.inl q) lo) (fun ls' hl' => k _ List.mem_cons_self V H locs ls' ⟨hG.1, hl', hG.2.2⟩)
    · cases h
  · cases h
noncomputable def so_astore (nL i len : Nat) : sa_op := fun S => match S.2.2.1 with
  | .inr (.inl (some q)) :: rest => if i < nL then some [(S.1 + len, sa_set1 i (.inr (.inl (some q))) S.2.1, rest, S.2.2.2)] else none
  | _ => none
theorem sn_astore_n {p : Program} {l : Launch} {e : Env} {R : Room} {s : State} {m : MethodId} {args : Array Value} {below : List Frame} {meth : Method} {c : Code} {Q : State → Prop} {D : va_G} {dA : Nat → ClassId} {A : Nat → Prop} {nL : Nat} {cl : List vw_C} {n0 : Nat} {V0 : sa_V} {Ts : List Cond} {cc : ByteArray} {own : String} (C0 : sa_C p s m args c D dA A nL cl Ts cc own) {pc : Nat} {n : Fin 4} (hd : decode cc pc = .ok (.astore_n n, 1)) : sa_snd p l e R s m args below meth c Q D dA A nL cl n0 V0 pc (so_astore nL n 1) := by
  obtain ⟨hx, hb, hts, hown, hml, hK, hA⟩ := C0
  rintro ⟨pc, lo, st, cs, G, kc, ks⟩ sts rfl h k V H locs ls hG
  unfold so_astore at h
  dsimp only at h
  split at h
  · rename_i q rest
    split at h
    · rename_i hi
      cases h
      exact lv_astore_n hx hb hd rfl hG.2.1 hi (sa_set1_lv V _ (.inr (.inl (some q))) lo) (fun ls' hl' => k _ List.mem_cons_self V H locs ls' ⟨hG.1, hl', hG.2.2⟩)
    · cases h
  · cases h
theorem sn_astore {p : Program} {l : Launch} {e : Env} {R : Room} {s : State} {m : MethodId} {args : Array Value} {below : List Frame} {meth : Method} {c : Code} {Q : State → Prop} {D : va_G} {dA : Nat → ClassId} {A : Nat → Prop} {nL : Nat} {cl : List vw_C} {n0 : Nat} {V0 : sa_V} {Ts : List Cond} {cc : ByteArray} {own : String} (C0 : sa_C p s m args c D dA A nL cl Ts cc own) {pc : Nat} {i : Nat} (hd : decode cc pc = .ok (.astore i, 2)) : sa_snd p l e R s m args below meth c Q D dA A nL cl n0 V0 pc (so_astore nL i 2) := by
  obtain ⟨hx, hb, hts, hown, hml, hK, hA⟩ := C0
  rintro ⟨pc, lo, st, cs, G, kc, ks⟩ sts rfl h k V H locs ls hG
  unfold so_astore at h
  dsimp only at h
  split at h
  · rename_i q rest
    split at h
    · rename_i hi
      cases h
      exact lv_astore hx hb hd hG.2.1 hi (sa_set1_lv V _ (.inr (.inl (some q))) lo) (fun ls' hl' => k _ List.mem_cons_self V H locs ls' ⟨hG.1, hl', hG.2.2⟩)
    · cases h
  · cases h
noncomputable def so_lstore (nL i len : Nat) : sa_op := fun S => match S.2.2.1 with
  | .inr (.inr q) :: rest => if i + 1 < nL then some [(S.1 + len, sa_set2 i (.inr (.inr q)) S.2.1, rest, S.2.2.2)] else none
  | _ => none
theorem sn_lstore_n {p : Program} {l : Launch} {e : Env} {R : Room} {s : State} {m : MethodId} {args : Array Value} {below : List Frame} {meth : Method} {c : Code} {Q : State → Prop} {D : va_G} {dA : Nat → ClassId} {A : Nat → Prop} {nL : Nat} {cl : List vw_C} {n0 : Nat} {V0 : sa_V} {Ts : List Cond} {cc : ByteArray} {own : String} (C0 : sa_C p s m args c D dA A nL cl Ts cc own) {pc : Nat} {n : Fin 4} (hd : decode cc pc = .ok (.lstore_n n, 1)) : sa_snd p l e R s m args below meth c Q D dA A nL cl n0 V0 pc (so_lstore nL n 1) := by
  obtain ⟨hx, hb, hts, hown, hml, hK, hA⟩ := C0
  rintro ⟨pc, lo, st, cs, G, kc, ks⟩ sts rfl h k V H locs ls hG
  unfold so_lstore at h
  dsimp only at h
  split at h
  · rename_i q rest
    split at h
    · rename_i hi
      cases h
      exact lv_lstore_n hx hb hd rfl hG.2.1 hi (sa_set2_lv V _ (.inr (.inr q)) lo) (fun ls' hl' => k _ List.mem_cons_self V H locs ls' ⟨hG.1, hl', hG.2.2⟩)
    · cases h
  · cases h
theorem sn_lstore {p : Program} {l : Launch} {e : Env} {R : Room} {s : State} {m : MethodId} {args : Array Value} {below : List Frame} {meth : Method} {c : Code} {Q : State → Prop} {D : va_G} {dA : Nat → ClassId} {A : Nat → Prop} {nL : Nat} {cl : List vw_C} {n0 : Nat} {V0 : sa_V} {Ts : List Cond} {cc : ByteArray} {own : String} (C0 : sa_C p s m args c D dA A nL cl Ts cc own) {pc : Nat} {i : Nat} (hd : decode cc pc = .ok (.lstore i, 2)) : sa_snd p l e R s m args below meth c Q D dA A nL cl n0 V0 pc (so_lstore nL i 2) := by
  obtain ⟨hx, hb, hts, hown, hml, hK, hA⟩ := C0
  rintro ⟨pc, lo, st, cs, G, kc, ks⟩ sts rfl h k V H locs ls hG
  unfold so_lstore at h
  dsimp only at h
  split at h
  · rename_i q rest
    split at h
    · rename_i hi
      cases h
      exact lv_lstore hx hb hd hG.2.1 hi (sa_set2_lv V _ (.inr (.inr q)) lo) (fun ls' hl' => k _ List.mem_cons_self V H locs ls' ⟨hG.1, hl', hG.2.2⟩)
    · cases h
  · cases h
theorem sa_i_add (V : sa_V) (q : Nat × Int) (n : Int) : sa_i V q + Int32.ofInt n = sa_i V (q.1, q.2 + n) := by
  unfold sa_i
  rw [← Int32.ofInt_add, Int.add_assoc]
noncomputable def so_iinc (nL i : Nat) (n : Int) : sa_op := fun S => match sa_look i S.2.1 with
  | some (.inl q) => if i < nL then some [(S.1 + 3, sa_set1 i (.inl (q.1, q.2 + n)) S.2.1, S.2.2)] else none
  | _ => none
theorem sn_iinc {p : Program} {l : Launch} {e : Env} {R : Room} {s : State} {m : MethodId} {args : Array Value} {below : List Frame} {meth : Method} {c : Code} {Q : State → Prop} {D : va_G} {dA : Nat → ClassId} {A : Nat → Prop} {nL : Nat} {cl : List vw_C} {n0 : Nat} {V0 : sa_V} {Ts : List Cond} {cc : ByteArray} {own : String} (C0 : sa_C p s m args c D dA A nL cl Ts cc own) {pc : Nat} {i : Nat} {n : Int} (hd : decode cc pc = .ok (.iinc i n, 3)) : sa_snd p l e R s m args below meth c Q D dA A nL cl n0 V0 pc (so_iinc nL i n) := by
  obtain ⟨hx, hb, hts, hown, hml, hK, hA⟩ := C0
  rintro ⟨pc, lo, st, cs, G, kc, ks⟩ sts rfl h k V H locs ls hG
  unfold so_iinc at h
  dsimp only at h
  split at h
  · rename_i q hq
    split at h
    · rename_i hi
      cases h
      obtain ⟨kk, hk⟩ := List.getElem?_of_mem (show (i, Value.int (sa_i V q)) ∈ sa_lv V lo from List.mem_map.mpr ⟨(i, .inl q), sa_look_mem hq, rfl⟩)
      exact lv_iinc hx hb hd hG.2.1 hk (sa_i_add V q n) hi (sa_set1_lv V _ (.inl (q.1, q.2 + n)) lo) (fun ls' hl' => k _ List.mem_cons_self V H locs ls' ⟨hG.1, hl', hG.2.2⟩)
    · cases h
  · cases h
theorem sa_i_0 {V : sa_V} {G : sa_B} (h : sa_I V G) (n : Int) : sa_i V (0, n) = Int32.ofInt n := by
  unfold sa_i
  rw [h.2, Int.zero_add]
noncomputable def so_int (n : Int) (len : Nat) : sa_op := fun S => some [(S.1 + len, S.2.1, .inl (0, n) :: S.2.2.1, S.2.2.2)]
theorem sa_k_int {p : Program} {l : Launch} {e : Env} {R : Room} {s : State} {m : MethodId} {args : Array Value} {below : List Frame} {meth : Method} {c : Code} {Q : State → Prop} {D : va_G} {dA : Nat → ClassId} {A : Nat → Prop} {nL : Nat} {cl : List vw_C} {n0 : Nat} {V0 : sa_V} {V : sa_V} {H : Heap} {locs : List Loc} {ls : Array Slot} {pc : Nat} {lo : sa_L} {st : List sa_v} {cs : List sa_c} {G : sa_B} {kc ks : Nat} {n : Int} (hG : sa_G D dA A nL cl n0 V0 s.heap V lo cs G H locs ls) (k : sa_W p l e R s m args below meth c Q D dA A nL cl n0 V0 (pc, lo, .inl (0, n) :: st, cs, G, kc, ks)) : W p l e R s m args below meth c H locs kc ks Q (F0 m pc ls (.int (Int32.ofInt n) :: st.map (sa_val V))) := by
  have h := k V H locs ls hG
  rw [← sa_i_0 hG.1.1 n]
  exact h
theorem sn_iconst {p : Program} {l : Launch} {e : Env} {R : Room} {s : State} {m : MethodId} {args : Array Value} {below : List Frame} {meth : Method} {c : Code} {Q : State → Prop} {D : va_G} {dA : Nat → ClassId} {A : Nat → Prop} {nL : Nat} {cl : List vw_C} {n0 : Nat} {V0 : sa_V} {Ts : List Cond} {cc : ByteArray} {own : String} (C0 : sa_C p s m args c D dA A nL cl Ts cc own) {pc : Nat} {n : Int} (hd : decode cc pc = .ok (.iconst n, 1)) : sa_snd p l e R s m args below meth c Q D dA A nL cl n0 V0 pc (so_int n 1) := by
  obtain ⟨hx, hb, hts, hown, hml, hK, hA⟩ := C0
  rintro ⟨pc, lo, st, cs, G, kc, ks⟩ sts rfl h k V H locs ls hG
  cases h
  exact lv_iconst hx hb hd rfl (sa_k_int hG (k _ List.mem_cons_self))
theorem sn_bipush {p : Program} {l : Launch} {e : Env} {R : Room} {s : State} {m : MethodId} {args : Array Value} {below : List Frame} {meth : Method} {c : Code} {Q : State → Prop} {D : va_G} {dA : Nat → ClassId} {A : Nat → Prop} {nL : Nat} {cl : List vw_C} {n0 : Nat} {V0 : sa_V} {Ts : List Cond} {cc : ByteArray} {own : String} (C0 : sa_C p s m args c D dA A nL cl Ts cc own) {pc : Nat} {n : Int} (hd : decode cc pc = .ok (.bipush n, 2)) (hv : (Int8.ofInt n).toInt32 = Int32.ofInt n) : sa_snd p l e R s m args below meth c Q D dA A nL cl n0 V0 pc (so_int n 2) := by
  obtain ⟨hx, hb, hts, hown, hml, hK, hA⟩ := C0
  rintro ⟨pc, lo, st, cs, G, kc, ks⟩ sts rfl h k V H locs ls hG
  cases h
  exact lv_bipush hx hb hd hv (sa_k_int hG (k _ List.mem_cons_self))
theorem sn_sipush {p : Program} {l : Launch} {e : Env} {R : Room} {s : State} {m : MethodId} {args : Array Value} {below : List Frame} {meth : Method} {c : Code} {Q : State → Prop} {D : va_G} {dA : Nat → ClassId} {A : Nat → Prop} {nL : Nat} {cl : List vw_C} {n0 : Nat} {V0 : sa_V} {Ts : List Cond} {cc : ByteArray} {own : String} (C0 : sa_C p s m args c D dA A nL cl Ts cc own) {pc : Nat} {n : Int} (hd : decode cc pc = .ok (.sipush n, 3)) (hv : (Int16.ofInt n).toInt32 = Int32.ofInt n) : sa_snd p l e R s m args below meth c Q D dA A nL cl n0 V0 pc (so_int n 3) := by
  obtain ⟨hx, hb, hts, hown, hml, hK, hA⟩ := C0
  rintro ⟨pc, lo, st, cs, G, kc, ks⟩ sts rfl h k V H locs ls hG
  cases h
  exact lv_sipush hx hb hd hv (sa_k_int hG (k _ List.mem_cons_self))
theorem sn_ldc {p : Program} {l : Launch} {e : Env} {R : Room} {s : State} {m : MethodId} {args : Array Value} {below : List Frame} {meth : Method} {c : Code} {Q : State → Prop} {D : va_G} {dA : Nat → ClassId} {A : Nat → Prop} {nL : Nat} {cl : List vw_C} {n0 : Nat} {V0 : sa_V} {Ts : List Cond} {cc : ByteArray} {own : String} (C0 : sa_C p s m args c D dA A nL cl Ts cc own) {pc : Nat} {n : Int} {idx : Nat} (hd : decode cc pc = .ok (.ldc idx, 2)) (hc : Cond.constant own idx (Int32.ofInt n) ∈ Ts) : sa_snd p l e R s m args below meth c Q D dA A nL cl n0 V0 pc (so_int n 2) := by
  obtain ⟨hx, hb, hts, hown, hml, hK, hA⟩ := C0
  rintro ⟨pc, lo, st, cs, G, kc, ks⟩ sts rfl h k V H locs ls hG
  cases h
  exact lv_ldc hx hb hown (hts _ hc) hd (sa_k_int hG (k _ List.mem_cons_self))
noncomputable def so_dup : sa_op := fun S => match S.2.2.1 with
  | v :: rest => if sa_cat v = 1 then some [(S.1 + 1, S.2.1, v :: v :: rest, S.2.2.2)] else none
  | _ => none
theorem sn_dup {p : Program} {l : Launch} {e : Env} {R : Room} {s : State} {m : MethodId} {args : Array Value} {below : List Frame} {meth : Method} {c : Code} {Q : State → Prop} {D : va_G} {dA : Nat → ClassId} {A : Nat → Prop} {nL : Nat} {cl : List vw_C} {n0 : Nat} {V0 : sa_V} {Ts : List Cond} {cc : ByteArray} {own : String} (C0 : sa_C p s m args c D dA A nL cl Ts cc own) {pc : Nat}  (hd : decode cc pc = .ok (.dup, 1)) : sa_snd p l e R s m args below meth c Q D dA A nL cl n0 V0 pc so_dup := by
  obtain ⟨hx, hb, hts, hown, hml, hK, hA⟩ := C0
  rintro ⟨pc, lo, st, cs, G, kc, ks⟩ sts rfl h k V H locs ls hG
  unfold so_dup at h
  dsimp only at h
  split at h
  · rename_i v rest
    split at h
    · rename_i hv
      cases h
      exact lv_dup hx hb hd (by rw [sa_cat_val]; exact hv) (k _ List.mem_cons_self V H locs ls hG)
    · cases h
  · cases h
noncomputable def so_pop : sa_op := fun S => match S.2.2.1 with
  | v :: rest => if sa_cat v = 1 then some [(S.1 + 1, S.2.1, rest, S.2.2.2)] else none
  | _ => none
theorem sn_pop {p : Program} {l : Launch} {e : Env} {R : Room} {s : State} {m : MethodId} {args : Array Value} {below : List Frame} {meth : Method} {c : Code} {Q : State → Prop} {D : va_G} {dA : Nat → ClassId} {A : Nat → Prop} {nL : Nat} {cl : List vw_C} {n0 : Nat} {V0 : sa_V} {Ts : List Cond} {cc : ByteArray} {own : String} (C0 : sa_C p s m args c D dA A nL cl Ts cc own) {pc : Nat}  (hd : decode cc pc = .ok (.pop, 1)) : sa_snd p l e R s m args below meth c Q D dA A nL cl n0 V0 pc so_pop := by
  obtain ⟨hx, hb, hts, hown, hml, hK, hA⟩ := C0
  rintro ⟨pc, lo, st, cs, G, kc, ks⟩ sts rfl h k V H locs ls hG
  unfold so_pop at h
  dsimp only at h
  split at h
  · rename_i v rest
    split at h
    · rename_i hv
      cases h
      exact lv_pop hx hb hd (by rw [sa_cat_val]; exact hv) (k _ List.mem_cons_self V H locs ls hG)
    · cases h
  · cases h
noncomputable def so_dup2 : sa_op := fun S => match S.2.2.1 with
  | v :: u :: rest => if sa_cat v = 1 ∧ sa_cat u = 1 then some [(S.1 + 1, S.2.1, v :: u :: v :: u :: rest, S.2.2.2)] else none
  | _ => none
theorem sn_dup2 {p : Program} {l : Launch} {e : Env} {R : Room} {s : State} {m : MethodId} {args : Array Value} {below : List Frame} {meth : Method} {c : Code} {Q : State → Prop} {D : va_G} {dA : Nat → ClassId} {A : Nat → Prop} {nL : Nat} {cl : List vw_C} {n0 : Nat} {V0 : sa_V} {Ts : List Cond} {cc : ByteArray} {own : String} (C0 : sa_C p s m args c D dA A nL cl Ts cc own) {pc : Nat}  (hd : decode cc pc = .ok (.dup2, 1)) : sa_snd p l e R s m args below meth c Q D dA A nL cl n0 V0 pc so_dup2 := by
  obtain ⟨hx, hb, hts, hown, hml, hK, hA⟩ := C0
  rintro ⟨pc, lo, st, cs, G, kc, ks⟩ sts rfl h k V H locs ls hG
  unfold so_dup2 at h
  dsimp only at h
  split at h
  · rename_i v u rest
    split at h
    · rename_i hv
      cases h
      exact lv_dup2_11 hx hb hd (by rw [sa_cat_val]; exact hv.1) (by rw [sa_cat_val]; exact hv.2) (k _ List.mem_cons_self V H locs ls hG)
    · cases h
  · cases h
noncomputable def so_goto (tgt : Nat) : sa_op := fun S => some [(tgt, S.2)]
theorem sn_goto {p : Program} {l : Launch} {e : Env} {R : Room} {s : State} {m : MethodId} {args : Array Value} {below : List Frame} {meth : Method} {c : Code} {Q : State → Prop} {D : va_G} {dA : Nat → ClassId} {A : Nat → Prop} {nL : Nat} {cl : List vw_C} {n0 : Nat} {V0 : sa_V} {Ts : List Cond} {cc : ByteArray} {own : String} (C0 : sa_C p s m args c D dA A nL cl Ts cc own) {pc : Nat} {off : Int} {tgt : Nat} (hd : decode cc pc = .ok (.goto off, 3)) (ht : (pc : Int) + off = (tgt : Int)) : sa_snd p l e R s m args below meth c Q D dA A nL cl n0 V0 pc (so_goto tgt) := by
  obtain ⟨hx, hb, hts, hown, hml, hK, hA⟩ := C0
  rintro ⟨pc, lo, st, cs, G, kc, ks⟩ sts rfl h k V H locs ls hG
  cases h
  exact lv_goto hx hb hd ht (k _ List.mem_cons_self V H locs ls hG)
noncomputable def so_bin (f : sa_B → Nat × Int → Nat × Int → Option sa_r) : sa_op := fun S => match S.2.2.1 with
  | .inl y :: .inl x :: rest => match f S.2.2.2.2.1 x y with
    | some r => sa_push (S.1 + 1) S.2.1 rest S.2.2.2.1 S.2.2.2.2.1 S.2.2.2.2.2.1 S.2.2.2.2.2.2 r
    | none => none
  | _ => none
/-- what such a function must keep -/
noncomputable def sa_bok (f : sa_B → Nat × Int → Nat × Int → Option sa_r) (g : Int32 → Int32 → Int32) : Prop := ∀ (V : sa_V) (G : sa_B) (x y : Nat × Int) (r : sa_r), sa_I V G → f G x y = some r → sa_is V r (g (sa_i V x) (sa_i V y))
theorem sn_iadd {p : Program} {l : Launch} {e : Env} {R : Room} {s : State} {m : MethodId} {args : Array Value} {below : List Frame} {meth : Method} {c : Code} {Q : State → Prop} {D : va_G} {dA : Nat → ClassId} {A : Nat → Prop} {nL : Nat} {cl : List vw_C} {n0 : Nat} {V0 : sa_V} {Ts : List Cond} {cc : ByteArray} {own : String} (C0 : sa_C p s m args c D dA A nL cl Ts cc own) {pc : Nat} {f : sa_B → Nat × Int → Nat × Int → Option sa_r} (hf : sa_bok f (fun x y => x + y)) (hd : decode cc pc = .ok (.iadd, 1)) : sa_snd p l e R s m args below meth c Q D dA A nL cl n0 V0 pc (so_bin f) := by
  obtain ⟨hx, hb, hts, hown, hml, hK, hA⟩ := C0
  rintro ⟨pc, lo, st, cs, G, kc, ks⟩ sts rfl h k V H locs ls hG
  unfold so_bin at h
  dsimp only at h
  split at h
  · rename_i y x rest
    split at h
    · rename_i r hr
      exact lv_iadd hx hb hd (sa_push_ok hG (hf V G x y r hG.1.1 hr) h k)
    · cases h
  · cases h
theorem sn_isub {p : Program} {l : Launch} {e : Env} {R : Room} {s : State} {m : MethodId} {args : Array Value} {below : List Frame} {meth : Method} {c : Code} {Q : State → Prop} {D : va_G} {dA : Nat → ClassId} {A : Nat → Prop} {nL : Nat} {cl : List vw_C} {n0 : Nat} {V0 : sa_V} {Ts : List Cond} {cc : ByteArray} {own : String} (C0 : sa_C p s m args c D dA A nL cl Ts cc own) {pc : Nat} {f : sa_B → Nat × Int → Nat × Int → Option sa_r} (hf : sa_bok f (fun x y => x - y)) (hd : decode cc pc = .ok (.isub, 1)) : sa_snd p l e R s m args below meth c Q D dA A nL cl n0 V0 pc (so_bin f) := by
  obtain ⟨hx, hb, hts, hown, hml, hK, hA⟩ := C0
  rintro ⟨pc, lo, st, cs, G, kc, ks⟩ sts rfl h k V H locs ls hG
  unfold so_bin at h
  dsimp only at h
  split at h
  · rename_i y x rest
    split at h
    · rename_i r hr
      exact lv_isub hx hb hd (sa_push_ok hG (hf V G x y r hG.1.1 hr) h k)
    · cases h
  · cases h
theorem sn_imul {p : Program} {l : Launch} {e : Env} {R : Room} {s : State} {m : MethodId} {args : Array Value} {below : List Frame} {meth : Method} {c : Code} {Q : State → Prop} {D : va_G} {dA : Nat → ClassId} {A : Nat → Prop} {nL : Nat} {cl : List vw_C} {n0 : Nat} {V0 : sa_V} {Ts : List Cond} {cc : ByteArray} {own : String} (C0 : sa_C p s m args c D dA A nL cl Ts cc own) {pc : Nat} {f : sa_B → Nat × Int → Nat × Int → Option sa_r} (hf : sa_bok f (fun x y => x * y)) (hd : decode cc pc = .ok (.imul, 1)) : sa_snd p l e R s m args below meth c Q D dA A nL cl n0 V0 pc (so_bin f) := by
  obtain ⟨hx, hb, hts, hown, hml, hK, hA⟩ := C0
  rintro ⟨pc, lo, st, cs, G, kc, ks⟩ sts rfl h k V H locs ls hG
  unfold so_bin at h
  dsimp only at h
  split at h
  · rename_i y x rest
    split at h
    · rename_i r hr
      exact lv_imul hx hb hd (sa_push_ok hG (hf V G x y r hG.1.1 hr) h k)
    · cases h
  · cases h
theorem sn_iand {p : Program} {l : Launch} {e : Env} {R : Room} {s : State} {m : MethodId} {args : Array Value} {below : List Frame} {meth : Method} {c : Code} {Q : State → Prop} {D : va_G} {dA : Nat → ClassId} {A : Nat → Prop} {nL : Nat} {cl : List vw_C} {n0 : Nat} {V0 : sa_V} {Ts : List Cond} {cc : ByteArray} {own : String} (C0 : sa_C p s m args c D dA A nL cl Ts cc own) {pc : Nat} {f : sa_B → Nat × Int → Nat × Int → Option sa_r} (hf : sa_bok f (fun x y => x &&& y)) (hd : decode cc pc = .ok (.iand, 1)) : sa_snd p l e R s m args below meth c Q D dA A nL cl n0 V0 pc (so_bin f) := by
  obtain ⟨hx, hb, hts, hown, hml, hK, hA⟩ := C0
  rintro ⟨pc, lo, st, cs, G, kc, ks⟩ sts rfl h k V H locs ls hG
  unfold so_bin at h
  dsimp only at h
  split at h
  · rename_i y x rest
    split at h
    · rename_i r hr
      exact lv_iand hx hb hd (sa_push_ok hG (hf V G x y r hG.1.1 hr) h k)
    · cases h
  · cases h
theorem sn_ior {p : Program} {l : Launch} {e : Env} {R : Room} {s : State} {m : MethodId} {args : Array Value} {below : List Frame} {meth : Method} {c : Code} {Q : State → Prop} {D : va_G} {dA : Nat → ClassId} {A : Nat → Prop} {nL : Nat} {cl : List vw_C} {n0 : Nat} {V0 : sa_V} {Ts : List Cond} {cc : ByteArray} {own : String} (C0 : sa_C p s m args c D dA A nL cl Ts cc own) {pc : Nat} {f : sa_B → Nat × Int → Nat × Int → Option sa_r} (hf : sa_bok f (fun x y => x ||| y)) (hd : decode cc pc = .ok (.ior, 1)) : sa_snd p l e R s m args below meth c Q D dA A nL cl n0 V0 pc (so_bin f) := by
  obtain ⟨hx, hb, hts, hown, hml, hK, hA⟩ := C0
  rintro ⟨pc, lo, st, cs, G, kc, ks⟩ sts rfl h k V H locs ls hG
  unfold so_bin at h
  dsimp only at h
  split at h
  · rename_i y x rest
    split at h
    · rename_i r hr
      exact lv_ior hx hb hd (sa_push_ok hG (hf V G x y r hG.1.1 hr) h k)
    · cases h
  · cases h
theorem sn_ixor {p : Program} {l : Launch} {e : Env} {R : Room} {s : State} {m : MethodId} {args : Array Value} {below : List Frame} {meth : Method} {c : Code} {Q : State → Prop} {D : va_G} {dA : Nat → ClassId} {A : Nat → Prop} {nL : Nat} {cl : List vw_C} {n0 : Nat} {V0 : sa_V} {Ts : List Cond} {cc : ByteArray} {own : String} (C0 : sa_C p s m args c D dA A nL cl Ts cc own) {pc : Nat} {f : sa_B → Nat × Int → Nat × Int → Option sa_r} (hf : sa_bok f (fun x y => x ^^^ y)) (hd : decode cc pc = .ok (.ixor, 1)) : sa_snd p l e R s m args below meth c Q D dA A nL cl n0 V0 pc (so_bin f) := by
  obtain ⟨hx, hb, hts, hown, hml, hK, hA⟩ := C0
  rintro ⟨pc, lo, st, cs, G, kc, ks⟩ sts rfl h k V H locs ls hG
  unfold so_bin at h
  dsimp only at h
  split at h
  · rename_i y x rest
    split at h
    · rename_i r hr
      exact lv_ixor hx hb hd (sa_push_ok hG (hf V G x y r hG.1.1 hr) h k)
    · cases h
  · cases h
theorem sn_ishl {p : Program} {l : Launch} {e : Env} {R : Room} {s : State} {m : MethodId} {args : Array Value} {below : List Frame} {meth : Method} {c : Code} {Q : State → Prop} {D : va_G} {dA : Nat → ClassId} {A : Nat → Prop} {nL : Nat} {cl : List vw_C} {n0 : Nat} {V0 : sa_V} {Ts : List Cond} {cc : ByteArray} {own : String} (C0 : sa_C p s m args c D dA A nL cl Ts cc own) {pc : Nat} {f : sa_B → Nat × Int → Nat × Int → Option sa_r} (hf : sa_bok f (fun x y => x <<< (y &&& 31))) (hd : decode cc pc = .ok (.ishl, 1)) : sa_snd p l e R s m args below meth c Q D dA A nL cl n0 V0 pc (so_bin f) := by
  obtain ⟨hx, hb, hts, hown, hml, hK, hA⟩ := C0
  rintro ⟨pc, lo, st, cs, G, kc, ks⟩ sts rfl h k V H locs ls hG
  unfold so_bin at h
  dsimp only at h
  split at h
  · rename_i y x rest
    split at h
    · rename_i r hr
      exact lv_ishl hx hb hd (sa_push_ok hG (hf V G x y r hG.1.1 hr) h k)
    · cases h
  · cases h
theorem sn_ishr {p : Program} {l : Launch} {e : Env} {R : Room} {s : State} {m : MethodId} {args : Array Value} {below : List Frame} {meth : Method} {c : Code} {Q : State → Prop} {D : va_G} {dA : Nat → ClassId} {A : Nat → Prop} {nL : Nat} {cl : List vw_C} {n0 : Nat} {V0 : sa_V} {Ts : List Cond} {cc : ByteArray} {own : String} (C0 : sa_C p s m args c D dA A nL cl Ts cc own) {pc : Nat} {f : sa_B → Nat × Int → Nat × Int → Option sa_r} (hf : sa_bok f (fun x y => x >>> (y &&& 31))) (hd : decode cc pc = .ok (.ishr, 1)) : sa_snd p l e R s m args below meth c Q D dA A nL cl n0 V0 pc (so_bin f) := by
  obtain ⟨hx, hb, hts, hown, hml, hK, hA⟩ := C0
  rintro ⟨pc, lo, st, cs, G, kc, ks⟩ sts rfl h k V H locs ls hG
  unfold so_bin at h
  dsimp only at h
  split at h
  · rename_i y x rest
    split at h
    · rename_i r hr
      exact lv_ishr hx hb hd (sa_push_ok hG (hf V G x y r hG.1.1 hr) h k)
    · cases h
  · cases h
theorem sn_iushr {p : Program} {l : Launch} {e : Env} {R : Room} {s : State} {m : MethodId} {args : Array Value} {below : List Frame} {meth : Method} {c : Code} {Q : State → Prop} {D : va_G} {dA : Nat → ClassId} {A : Nat → Prop} {nL : Nat} {cl : List vw_C} {n0 : Nat} {V0 : sa_V} {Ts : List Cond} {cc : ByteArray} {own : String} (C0 : sa_C p s m args c D dA A nL cl Ts cc own) {pc : Nat} {f : sa_B → Nat × Int → Nat × Int → Option sa_r} (hf : sa_bok f (fun x y => (x.toUInt32 >>> (y.toUInt32 &&& Int32.toUInt32 31)).toInt32)) (hd : decode cc pc = .ok (.iushr, 1)) : sa_snd p l e R s m args below meth c Q D dA A nL cl n0 V0 pc (so_bin f) := by
  obtain ⟨hx, hb, hts, hown, hml, hK, hA⟩ := C0
  rintro ⟨pc, lo, st, cs, G, kc, ks⟩ sts rfl h k V H locs ls hG
  unfold so_bin at h
  dsimp only at h
  split at h
  · rename_i y x rest
    split at h
    · rename_i r hr
      exact lv_iushr hx hb hd rfl (sa_push_ok hG (hf V G x y r hG.1.1 hr) h k)
    · cases h
  · cases h
noncomputable def sa_bok0 (f : sa_B → Nat × Int → Nat × Int → Option sa_r) (g : Int32 → Int32 → Int32) : Prop := ∀ (V : sa_V) (G : sa_B) (x y : Nat × Int) (r : sa_r), sa_I V G → f G x y = some r → ¬ sa_i V y = 0 ∧ sa_is V r (g (sa_i V x) (sa_i V y))
theorem sn_idiv {p : Program} {l : Launch} {e : Env} {R : Room} {s : State} {m : MethodId} {args : Array Value} {below : List Frame} {meth : Method} {c : Code} {Q : State → Prop} {D : va_G} {dA : Nat → ClassId} {A : Nat → Prop} {nL : Nat} {cl : List vw_C} {n0 : Nat} {V0 : sa_V} {Ts : List Cond} {cc : ByteArray} {own : String} (C0 : sa_C p s m args c D dA A nL cl Ts cc own) {pc : Nat} {f : sa_B → Nat × Int → Nat × Int → Option sa_r} (hf : sa_bok0 f (fun x y => x / y)) (hd : decode cc pc = .ok (.idiv, 1)) : sa_snd p l e R s m args below meth c Q D dA A nL cl n0 V0 pc (so_bin f) := by
  obtain ⟨hx, hb, hts, hown, hml, hK, hA⟩ := C0
  rintro ⟨pc, lo, st, cs, G, kc, ks⟩ sts rfl h k V H locs ls hG
  unfold so_bin at h
  dsimp only at h
  split at h
  · rename_i y x rest
    split at h
    · rename_i r hr
      have hq := hf V G x y r hG.1.1 hr
      exact lv_idiv hx hb hd hq.1 (sa_push_ok hG hq.2 h k)
    · cases h
  · cases h
theorem sn_irem {p : Program} {l : Launch} {e : Env} {R : Room} {s : State} {m : MethodId} {args : Array Value} {below : List Frame} {meth : Method} {c : Code} {Q : State → Prop} {D : va_G} {dA : Nat → ClassId} {A : Nat → Prop} {nL : Nat} {cl : List vw_C} {n0 : Nat} {V0 : sa_V} {Ts : List Cond} {cc : ByteArray} {own : String} (C0 : sa_C p s m args c D dA A nL cl Ts cc own) {pc : Nat} {f : sa_B → Nat × Int → Nat × Int → Option sa_r} (hf : sa_bok0 f (fun x y => x - x / y * y)) (hd : decode cc pc = .ok (.irem, 1)) : sa_snd p l e R s m args below meth c Q D dA A nL cl n0 V0 pc (so_bin f) := by
  obtain ⟨hx, hb, hts, hown, hml, hK, hA⟩ := C0
  rintro ⟨pc, lo, st, cs, G, kc, ks⟩ sts rfl h k V H locs ls hG
  unfold so_bin at h
  dsimp only at h
  split at h
  · rename_i y x rest
    split at h
    · rename_i r hr
      have hq := hf V G x y r hG.1.1 hr
      exact lv_irem hx hb hd hq.1 (sa_push_ok hG hq.2 h k)
    · cases h
  · cases h
theorem sa_k0 {V : sa_V} {G : sa_B} (h : sa_I V G) {q : Nat × Int} (hq : q.1 = 0) : sa_i V q = Int32.ofInt q.2 := by
  obtain ⟨s, n⟩ := q
  subst hq
  exact sa_i_0 h n
theorem sa_is_c {V : sa_V} {G : sa_B} (h : sa_I V G) (x : Int32) : sa_is V (.inl (0, x.toInt)) x := by
  show sa_i V (0, x.toInt) = x
  rw [sa_i_0 h, Int32.ofInt_toInt]
noncomputable def sa_top : sa_r := .inr (-2147483648, 2147483647)
theorem sa_is_top (V : sa_V) (x : Int32) : sa_is V sa_top x := ⟨by have := Int32.le_toInt x; simpa using this, by have := Int32.toInt_lt x; simp at this; show x.toInt ≤ 2147483647; omega⟩
noncomputable def sf_add (G : sa_B) (x y : Nat × Int) : Option sa_r :=
  if x.1 = 0 then some (.inl (y.1, y.2 + x.2)) else if y.1 = 0 then some (.inl (x.1, x.2 + y.2)) else match sa_iv G x, sa_iv G y with
  | some a, some b => if -2147483648 ≤ a.1 + b.1 ∧ a.2 + b.2 ≤ 2147483647 then some (.inr (a.1 + b.1, a.2 + b.2)) else some sa_top
  | _, _ => some sa_top
theorem sf_add_ok : sa_bok sf_add (fun x y => x + y) := by
  intro V G x y r hI h
  unfold sf_add at h
  split at h
  · rename_i h1
    cases h
    show sa_i V _ = _ + _
    rw [sa_k0 hI h1, Int32.add_comm, sa_i_add]
  · split at h
    · rename_i h1
      cases h
      show sa_i V _ = _ + _
      rw [sa_k0 hI h1, sa_i_add]
    · split at h
      · rename_i a b ha hb
        split at h
        · rename_i h2
          cases h
          obtain ⟨e1, l1, u1⟩ := sa_iv_ok hI ha
          obtain ⟨e2, l2, u2⟩ := sa_iv_ok hI hb
          have e3 : (sa_i V x + sa_i V y).toInt = (sa_i V x).toInt + (sa_i V y).toInt := by
            conv => lhs; rw [← Int32.ofInt_toInt (sa_i V x), ← Int32.ofInt_toInt (sa_i V y), ← Int32.ofInt_add]
            exact sa_ofInt_toInt (by omega) (by omega)
          show _ ≤ (sa_i V x + sa_i V y).toInt ∧ (sa_i V x + sa_i V y).toInt ≤ _
          rw [e3]
          exact ⟨by show a.1 + b.1 ≤ _; omega, by show _ ≤ a.2 + b.2; omega⟩
        · cases h; exact sa_is_top V _
      · cases h; exact sa_is_top V _
noncomputable def sf_sub (G : sa_B) (x y : Nat × Int) : Option sa_r :=
  if y.1 = 0 then some (.inl (x.1, x.2 + (-y.2))) else match sa_iv G x, sa_iv G y with
  | some a, some b => if -2147483648 ≤ a.1 - b.2 ∧ a.2 - b.1 ≤ 2147483647 then some (.inr (a.1 - b.2, a.2 - b.1)) else some sa_top
  | _, _ => some sa_top
theorem sf_sub_ok : sa_bok sf_sub (fun x y => x - y) := by
  intro V G x y r hI h
  unfold sf_sub at h
  split at h
  · rename_i h1
    cases h
    show sa_i V _ = _ - _
    rw [← sa_i_add V x (-y.2), sa_k0 hI h1, Int32.ofInt_neg, Int32.sub_eq_add_neg]
  · split at h
    · rename_i a b ha hb
      split at h
      · rename_i h2
        cases h
        obtain ⟨e1, l1, u1⟩ := sa_iv_ok hI ha
        obtain ⟨e2, l2, u2⟩ := sa_iv_ok hI hb
        have e3 : (sa_i V x - sa_i V y).toInt = (sa_i V x).toInt - (sa_i V y).toInt := by
          conv => lhs; rw [← Int32.ofInt_toInt (sa_i V x), ← Int32.ofInt_toInt (sa_i V y), ← Int32.ofInt_sub]
          exact sa_ofInt_toInt (by omega) (by omega)
        show _ ≤ (sa_i V x - sa_i V y).toInt ∧ (sa_i V x - sa_i V y).toInt ≤ _
        rw [e3]
        exact ⟨by show a.1 - b.2 ≤ _; omega, by show _ ≤ a.2 - b.1; omega⟩
      · cases h; exact sa_is_top V _
    · cases h; exact sa_is_top V _
/-- a number that is known -/
noncomputable def sa_kv (G : sa_B) (x : Nat × Int) : Option Int := Option.rec (motive := fun _ => Option Int) none (fun b => Bool.rec (motive := fun _ => Option Int) none (some b.1) (sa_ieq b.1 b.2)) (sa_iv G x)
theorem sa_kv_eq (G : sa_B) (x : Nat × Int) : sa_kv G x = match sa_iv G x with
    | some b => if b.1 = b.2 then some b.1 else none
    | none => none := by
  unfold sa_kv
  cases sa_iv G x with
  | none => rfl
  | some b =>
    show (Bool.rec none (some b.1) (sa_ieq b.1 b.2) : Option Int) = if b.1 = b.2 then some b.1 else none
    cases h : sa_ieq b.1 b.2 with
    | true => rw [if_pos ((sa_ieq_iff _ _).mp h)]
    | false => rw [if_neg (fun hc => by rw [(sa_ieq_iff _ _).mpr hc] at h; cases h)]
theorem sa_kv_ok {V : sa_V} {G : sa_B} {x : Nat × Int} {a : Int} (hI : sa_I V G) (h : sa_kv G x = some a) : sa_i V x = Int32.ofInt a := by
  rw [sa_kv_eq] at h
  split at h
  · rename_i b hb
    split at h
    · rename_i h1
      cases h
      obtain ⟨e1, l1, u1⟩ := sa_iv_ok hI hb
      rw [show b.1 = (sa_i V x).toInt by omega, Int32.ofInt_toInt]
    · cases h
  · cases h
/-- two known numbers: the answer itself; else any number -/
noncomputable def sf_cc (g : Int32 → Int32 → Int32) (G : sa_B) (x y : Nat × Int) : Option sa_r := match sa_kv G x, sa_kv G y with
  | some a, some b => some (.inl (0, (g (Int32.ofInt a) (Int32.ofInt b)).toInt))
  | _, _ => some sa_top
theorem sf_cc_ok (g : Int32 → Int32 → Int32) : sa_bok (sf_cc g) g := by
  intro V G x y r hI h
  unfold sf_cc at h
  split at h
  · rename_i a b ha hb
    cases h
    rw [sa_kv_ok hI ha, sa_kv_ok hI hb]
    exact sa_is_c hI _
  · cases h; exact sa_is_top V _
/-- nothing shifted is nothing -/
theorem sa_shr0 (y : Int32) : (0 : Int32) >>> (y &&& 31) = 0 := by
  apply Int32.toBitVec_inj.mp
  rw [Int32.toBitVec_shiftRight]
  simp
noncomputable def sf_shr (_ : sa_B) (x y : Nat × Int) : Option sa_r :=
  if x.1 = 0 ∧ x.2 = 0 then some (.inl (0, 0)) else if x.1 = 0 ∧ y.1 = 0 then some (.inl (0, (Int32.ofInt x.2 >>> (Int32.ofInt y.2 &&& 31)).toInt)) else some sa_top
theorem sf_shr_ok : sa_bok sf_shr (fun x y => x >>> (y &&& 31)) := by
  intro V G x y r hI h
  unfold sf_shr at h
  split at h
  · rename_i h1
    cases h
    show sa_i V (0, 0) = sa_i V x >>> (sa_i V y &&& 31)
    rw [sa_k0 hI h1.1, h1.2, sa_i_0 hI]
    exact (sa_shr0 _).symm
  · split at h
    · rename_i h1
      cases h
      rw [sa_k0 hI h1.1, sa_k0 hI h1.2]
      exact sa_is_c hI _
    · cases h; exact sa_is_top V _
/-- with a mask: from 0 to the mask -/
noncomputable def sf_and (_ : sa_B) (x y : Nat × Int) : Option sa_r :=
  if x.1 = 0 ∧ y.1 = 0 then some (.inl (0, (Int32.ofInt x.2 &&& Int32.ofInt y.2).toInt)) else if y.1 = 0 ∧ y.2 = -1 then some (.inl x) else if y.1 = 0 ∧ 0 ≤ y.2 ∧ y.2 ≤ 2147483647 then some (.inr (0, y.2)) else some sa_top
theorem sa_and_mask (x : Int32) {n : Int} (h0 : 0 ≤ n) (h1 : n ≤ 2147483647) : 0 ≤ (x &&& Int32.ofInt n).toInt ∧ (x &&& Int32.ofInt n).toInt ≤ n := by
  obtain ⟨k, rfl⟩ := Int.eq_ofNat_of_zero_le h0
  have hk : k < 2147483648 := by omega
  have hb : (Int32.ofInt (k : Int)).toBitVec = BitVec.ofNat 32 k := by
    show BitVec.ofInt 32 (k : Int) = BitVec.ofNat 32 k
    exact BitVec.ofInt_natCast 32 k
  have ht : (x &&& Int32.ofInt (k : Int)).toBitVec.toNat ≤ k := by
    rw [Int32.toBitVec_and, hb, BitVec.toNat_and, BitVec.toNat_ofNat, Nat.mod_eq_of_lt (by omega)]
    exact Nat.and_le_right
  have hi : (x &&& Int32.ofInt (k : Int)).toInt = ((x &&& Int32.ofInt (k : Int)).toBitVec.toNat : Int) := by
    show (x &&& Int32.ofInt (k : Int)).toBitVec.toInt = _
    rw [BitVec.toInt_eq_toNat_of_lt]
    omega
  rw [hi]
  omega
theorem sf_and_ok : sa_bok sf_and (fun x y => x &&& y) := by
  intro V G x y r hI h
  unfold sf_and at h
  split at h
  · rename_i h1
    cases h
    rw [sa_k0 hI h1.1, sa_k0 hI h1.2]
    exact sa_is_c hI _
  · split at h
    · rename_i h1
      cases h
      rw [sa_k0 hI h1.1, h1.2]
      show sa_i V x = sa_i V x &&& Int32.ofInt (-1)
      apply Int32.toBitVec_inj.mp
      rw [Int32.toBitVec_and, show (Int32.ofInt (-1)).toBitVec = BitVec.allOnes 32 from rfl, BitVec.and_allOnes]
    · split at h
      · rename_i h1
        cases h
        rw [sa_k0 hI h1.1]
        exact sa_and_mask _ h1.2.1 h1.2.2
      · cases h; exact sa_is_top V _
/-- a divisor that is a constant, not 0 -/
noncomputable def sf_dd (g : Int32 → Int32 → Int32) (_ : sa_B) (x y : Nat × Int) : Option sa_r :=
  if y.1 = 0 ∧ ¬ Int32.ofInt y.2 = 0 then (if x.1 = 0 then some (.inl (0, (g (Int32.ofInt x.2) (Int32.ofInt y.2)).toInt)) else some sa_top) else none
theorem sf_dd_ok (g : Int32 → Int32 → Int32) : sa_bok0 (sf_dd g) g := by
  intro V G x y r hI h
  unfold sf_dd at h
  split at h
  · rename_i h1
    rw [sa_k0 hI h1.1]
    refine ⟨h1.2, ?_⟩
    split at h
    · rename_i h2
      cases h
      rw [sa_k0 hI h2]
      exact sa_is_c hI _
    · cases h; exact sa_is_top V _
  · cases h
end SA1
