section SA4
theorem sa_G_new {D : va_G} {dA : Nat → ClassId} {A : Nat → Prop} {nL : Nat} {cl : List vw_C} {n0 : Nat} {V0 : sa_V} {H0 : Heap} {V : sa_V} {lo : sa_L} {st : List sa_v} {cs : List sa_c} {G : sa_B} {H H1 : Heap} {locs locs1 : List Loc} {ls : Array Slot} {q : Nat} {x : (Nat × List sa_v) ⊕ (Nat × sa_a)} {el : va_E}
    (h : sa_G D dA A nL cl n0 V0 H0 V lo cs G H locs ls) (hw : sa_wf G.length lo st cs = true) (he : sa_el (sa_upd V G.length (0, 0, fun _ => 0, q)) dA x = el) (hP : va_P D cl (cs.map (sa_e V dA) ++ [(q, el)]) H1) (hD : va_D A (cs.map (sa_e V dA) ++ [(q, el)])) (hS : va_S A H0 H1 locs1) :
    sa_G D dA A nL cl n0 V0 H0 (sa_upd V G.length (0, 0, fun _ => 0, q)) lo (cs ++ [(G.length, x)]) (G ++ [(0, 0)]) H1 locs1 ls ∧ st.map (sa_val (sa_upd V G.length (0, 0, fun _ => 0, q))) = st.map (sa_val V) := by
  have hw2 := hw
  simp only [sa_wf, Bool.and_eq_true, decide_eq_true_eq] at hw
  obtain ⟨⟨⟨h0, h1⟩, h2⟩, h3⟩ := hw
  obtain ⟨g1, g2, g3, g4, g5⟩ := h
  have he2 : (cs ++ [(G.length, x)]).map (sa_e (sa_upd V G.length (0, 0, fun _ => 0, q)) dA) = cs.map (sa_e V dA) ++ [(q, el)] := by
    rw [List.map_append, sa_cs_upd h3]
    congr 1
    show [(sa_ad _ _, sa_el _ _ _)] = _
    rw [he]
    unfold sa_ad
    rw [sa_upd_eq]
  exact ⟨⟨sa_J_upd g1 h0 ⟨Int.le_refl _, Int.le_refl _⟩, by rw [sa_lv_upd h1]; exact g2, by rw [he2]; exact hP, by rw [he2]; exact hD, hS⟩, sa_st_upd h2⟩
theorem sa_k_ref {p : Program} {l : Launch} {e : Env} {R : Room} {s : State} {m : MethodId} {args : Array Value} {below : List Frame} {meth : Method} {c : Code} {Q : State → Prop} {D : va_G} {dA : Nat → ClassId} {A : Nat → Prop} {nL : Nat} {cl : List vw_C} {n0 : Nat} {V0 : sa_V} {V : sa_V} {H1 : Heap} {locs1 : List Loc} {ls : Array Slot} {pc : Nat} {lo : sa_L} {rest : List sa_v} {cs1 : List sa_c} {G : sa_B} {kc ks q : Nat} (hG : sa_G D dA A nL cl n0 V0 s.heap (sa_upd V G.length (0, 0, fun _ => 0, q)) lo cs1 (G ++ [(0, 0)]) H1 locs1 ls ∧ rest.map (sa_val (sa_upd V G.length (0, 0, fun _ => 0, q))) = rest.map (sa_val V)) (k : sa_W p l e R s m args below meth c Q D dA A nL cl n0 V0 (pc, lo, .inr (.inl (some G.length)) :: rest, cs1, G ++ [(0, 0)], kc, ks)) : W p l e R s m args below meth c H1 locs1 kc ks Q (F0 m pc ls (.ref q :: rest.map (sa_val V))) := by
  have h := k _ H1 locs1 ls hG.1
  have e1 : (List.map (sa_val (sa_upd V G.length (0, 0, fun _ => 0, q))) (.inr (.inl (some G.length)) :: rest)) = Value.ref q :: rest.map (sa_val V) := by
    rw [List.map_cons, hG.2]
    congr 1
    show Value.ref (sa_ad _ _) = _
    unfold sa_ad
    rw [sa_upd_eq]
  dsimp only at h
  rw [e1] at h
  exact h
theorem sa_cA {D : va_G} {cl : List vw_C} {dA : Nat → ClassId} {s : State} {cA : ClassId} {t : Nat} {ty : FieldType} (hK : va_K D cl (sa_tys dA) s) (hK' : va_K D cl (sa_tys dA ++ [(cA, ty)]) s) (ht : (sa_tys dA)[t]? = some (dA t, ty)) : cA = dA t := by
  have h1 := (hK.2 t _ ht).2
  have h2 := (hK'.2 6 (cA, ty) rfl).2
  cases ty with
  | object C =>
    obtain ⟨_, _, _, _, _, e1⟩ := h1
    obtain ⟨_, _, _, _, _, e2⟩ := h2
    exact Option.some.inj (e2.symm.trans e1)
  | _ => exact Option.some.inj (h2.symm.trans h1)
theorem sa_f_rep {V : sa_V} (h : (V 0).1 = 0) (n : Nat) : sa_f V (List.replicate n (0, 0)) = fun _ => 0 := by
  funext j
  unfold sa_f
  split
  · rename_i q hq
    have hm := List.mem_of_getElem? hq
    rw [(List.mem_replicate.mp hm).2]
    show Int32.ofInt ((V 0).1 + 0) = 0
    rw [h]
    rfl
  · rfl
noncomputable def sa_n0 (t N n : Nat) : sa_a := if t = 2 then .inr (.inl (N, n)) else .inl (List.replicate N (0, 0))
noncomputable def so_newa (t maxC maxS : Nat) : sa_op := fun S => match S.2.2.1 with
  | .inl x :: rest => if sa_ok_ix x = true ∧ x.2 ≤ 1000000 ∧ S.2.2.2.2.2.1 + 1 ≤ maxC ∧ S.2.2.2.2.2.2 + x.2.toNat ≤ maxS ∧ sa_wf S.2.2.2.2.1.length S.2.1 rest S.2.2.2.1 = true then some [(S.1 + 2, S.2.1, .inr (.inl (some S.2.2.2.2.1.length)) :: rest, S.2.2.2.1 ++ [(S.2.2.2.2.1.length, .inr (t, sa_n0 t x.2.toNat S.2.2.2.2.1.length))], S.2.2.2.2.1 ++ [(0, 0)], S.2.2.2.2.2.1 + 1, S.2.2.2.2.2.2 + x.2.toNat)] else none
  | _ => none
theorem sa_nn {V : sa_V} {G : sa_B} (hI : sa_I V G) {x : Nat × Int} (h : x.1 = 0 ∧ 0 ≤ x.2 ∧ x.2 ≤ 2147483647) : ¬ sa_i V x < 0 ∧ (sa_i V x).toNatClampNeg = x.2.toNat := by
  obtain ⟨h1, h2⟩ := sa_ix hI h (Nat.lt_succ_self _)
  exact ⟨fun q => h2 (Or.inl q), h1⟩
theorem sn_newaI {p : Program} {l : Launch} {e : Env} {R : Room} {s : State} {m : MethodId} {args : Array Value} {below : List Frame} {meth : Method} {c : Code} {Q : State → Prop} {D : va_G} {dA : Nat → ClassId} {A : Nat → Prop} {nL : Nat} {cl : List vw_C} {n0 : Nat} {V0 : sa_V} {Ts : List Cond} {cc : ByteArray} {own : String} (C0 : sa_C p s m args c D dA A nL cl Ts cc own) {pc : Nat} {maxC maxS : Nat} (hd : decode cc pc = .ok (.newarray .int, 2)) (hw0 : Cond.arrayClass .int ∈ Ts) (hC : maxC ≤ R.cells) (hS0 : maxS ≤ R.slots) : sa_snd p l e R s m args below meth c Q D dA A nL cl n0 V0 pc (so_newa 0 maxC maxS) := by
  obtain ⟨hx, hb, hts, hown, hml, hK, hA⟩ := C0
  rintro ⟨pc, lo, st, cs, G, kc, ks⟩ sts rfl h k V H locs ls hG
  unfold so_newa at h
  dsimp only at h
  split at h
  · rename_i x rest
    split at h
    · rename_i hh
      obtain ⟨h1, h2, h3, h4, h5⟩ := hh
      have h1 := of_decide_eq_true h1
      cases h
      obtain ⟨n1, n2⟩ := sa_nn hG.1.1 h1
      have hbytes : x.2.toNat * componentBytes .int ≤ 536870912 := Nat.le_trans (Nat.mul_le_mul (show x.2.toNat ≤ 1000000 by omega) (show componentBytes .int ≤ 8 by decide)) (by decide)
      refine va_newa (D := D) (atype := .int) (ty := .int) (a0 := (x.2.toNat, .inl (fun _ => 0))) hx hb (hts _ hw0) rfl hK hG.2.2.1 hG.2.2.2.1 hG.2.2.2.2 hA (fun _ => rfl) n1 n2 hbytes (Nat.le_trans h3 hC) (Nat.le_trans h4 hS0) hd (fun q cA H1 hK' hP hD hS => ?_)
      have hc := sa_cA (t := 0) hK hK' rfl
      subst hc
      refine sa_k_ref (sa_G_new (q := q) (x := .inr (0, sa_n0 0 x.2.toNat G.length)) hG h5 ?_ hP hD hS) (k _ List.mem_cons_self)
      show Sum.inl (dA 0, (List.replicate x.2.toNat ((0 : Nat), (0 : Int))).length, Sum.inl (sa_f _ _)) = _
      rw [sa_f_rep, List.length_replicate]
      rw [sa_upd_ne (by simp only [sa_wf, Bool.and_eq_true, decide_eq_true_eq] at h5; exact h5.1.1.1)]
      exact hG.1.1.2
    · cases h
  · cases h
theorem sn_newaB {p : Program} {l : Launch} {e : Env} {R : Room} {s : State} {m : MethodId} {args : Array Value} {below : List Frame} {meth : Method} {c : Code} {Q : State → Prop} {D : va_G} {dA : Nat → ClassId} {A : Nat → Prop} {nL : Nat} {cl : List vw_C} {n0 : Nat} {V0 : sa_V} {Ts : List Cond} {cc : ByteArray} {own : String} (C0 : sa_C p s m args c D dA A nL cl Ts cc own) {pc : Nat} {maxC maxS : Nat} (hd : decode cc pc = .ok (.newarray .byte, 2)) (hw0 : Cond.arrayClass .byte ∈ Ts) (hC : maxC ≤ R.cells) (hS0 : maxS ≤ R.slots) : sa_snd p l e R s m args below meth c Q D dA A nL cl n0 V0 pc (so_newa 1 maxC maxS) := by
  obtain ⟨hx, hb, hts, hown, hml, hK, hA⟩ := C0
  rintro ⟨pc, lo, st, cs, G, kc, ks⟩ sts rfl h k V H locs ls hG
  unfold so_newa at h
  dsimp only at h
  split at h
  · rename_i x rest
    split at h
    · rename_i hh
      obtain ⟨h1, h2, h3, h4, h5⟩ := hh
      have h1 := of_decide_eq_true h1
      cases h
      obtain ⟨n1, n2⟩ := sa_nn hG.1.1 h1
      have hbytes : x.2.toNat * componentBytes .byte ≤ 536870912 := Nat.le_trans (Nat.mul_le_mul (show x.2.toNat ≤ 1000000 by omega) (show componentBytes .byte ≤ 8 by decide)) (by decide)
      refine va_newa (D := D) (atype := .byte) (ty := .byte) (a0 := (x.2.toNat, .inl (fun _ => 0))) hx hb (hts _ hw0) rfl hK hG.2.2.1 hG.2.2.2.1 hG.2.2.2.2 hA (fun _ => rfl) n1 n2 hbytes (Nat.le_trans h3 hC) (Nat.le_trans h4 hS0) hd (fun q cA H1 hK' hP hD hS => ?_)
      have hc := sa_cA (t := 1) hK hK' rfl
      subst hc
      refine sa_k_ref (sa_G_new (q := q) (x := .inr (1, sa_n0 1 x.2.toNat G.length)) hG h5 ?_ hP hD hS) (k _ List.mem_cons_self)
      show Sum.inl (dA 1, (List.replicate x.2.toNat ((0 : Nat), (0 : Int))).length, Sum.inl (sa_f _ _)) = _
      rw [sa_f_rep, List.length_replicate]
      rw [sa_upd_ne (by simp only [sa_wf, Bool.and_eq_true, decide_eq_true_eq] at h5; exact h5.1.1.1)]
      exact hG.1.1.2
    · cases h
  · cases h
theorem sn_newaJ {p : Program} {l : Launch} {e : Env} {R : Room} {s : State} {m : MethodId} {args : Array Value} {below : List Frame} {meth : Method} {c : Code} {Q : State → Prop} {D : va_G} {dA : Nat → ClassId} {A : Nat → Prop} {nL : Nat} {cl : List vw_C} {n0 : Nat} {V0 : sa_V} {Ts : List Cond} {cc : ByteArray} {own : String} (C0 : sa_C p s m args c D dA A nL cl Ts cc own) {pc : Nat} {maxC maxS : Nat} (hd : decode cc pc = .ok (.newarray .long, 2)) (hw0 : Cond.arrayClass .long ∈ Ts) (hC : maxC ≤ R.cells) (hS0 : maxS ≤ R.slots) : sa_snd p l e R s m args below meth c Q D dA A nL cl n0 V0 pc (so_newa 2 maxC maxS) := by
  obtain ⟨hx, hb, hts, hown, hml, hK, hA⟩ := C0
  rintro ⟨pc, lo, st, cs, G, kc, ks⟩ sts rfl h k V H locs ls hG
  unfold so_newa at h
  dsimp only at h
  split at h
  · rename_i x rest
    split at h
    · rename_i hh
      obtain ⟨h1, h2, h3, h4, h5⟩ := hh
      have h1 := of_decide_eq_true h1
      cases h
      obtain ⟨n1, n2⟩ := sa_nn hG.1.1 h1
      have hbytes : x.2.toNat * componentBytes .long ≤ 536870912 := Nat.le_trans (Nat.mul_le_mul (show x.2.toNat ≤ 1000000 by omega) (show componentBytes .long ≤ 8 by decide)) (by decide)
      refine va_newa (D := D) (atype := .long) (ty := .long) (a0 := (x.2.toNat, .inr (.inl (fun _ => 0)))) hx hb (hts _ hw0) rfl hK hG.2.2.1 hG.2.2.2.1 hG.2.2.2.2 hA (fun _ => rfl) n1 n2 hbytes (Nat.le_trans h3 hC) (Nat.le_trans h4 hS0) hd (fun q cA H1 hK' hP hD hS => ?_)
      have hc := sa_cA (t := 2) hK hK' rfl
      subst hc
      refine sa_k_ref (sa_G_new (q := q) (x := .inr (2, sa_n0 2 x.2.toNat G.length)) hG h5 ?_ hP hD hS) (k _ List.mem_cons_self)
      show Sum.inl (dA 2, x.2.toNat, Sum.inr (Sum.inl (sa_upd V G.length _ G.length).2.2.1)) = _
      rw [sa_upd_eq]
      
      
    · cases h
  · cases h
theorem sn_newaZ {p : Program} {l : Launch} {e : Env} {R : Room} {s : State} {m : MethodId} {args : Array Value} {below : List Frame} {meth : Method} {c : Code} {Q : State → Prop} {D : va_G} {dA : Nat → ClassId} {A : Nat → Prop} {nL : Nat} {cl : List vw_C} {n0 : Nat} {V0 : sa_V} {Ts : List Cond} {cc : ByteArray} {own : String} (C0 : sa_C p s m args c D dA A nL cl Ts cc own) {pc : Nat} {maxC maxS : Nat} (hd : decode cc pc = .ok (.newarray .boolean, 2)) (hw0 : Cond.arrayClass .boolean ∈ Ts) (hC : maxC ≤ R.cells) (hS0 : maxS ≤ R.slots) : sa_snd p l e R s m args below meth c Q D dA A nL cl n0 V0 pc (so_newa 3 maxC maxS) := by
  obtain ⟨hx, hb, hts, hown, hml, hK, hA⟩ := C0
  rintro ⟨pc, lo, st, cs, G, kc, ks⟩ sts rfl h k V H locs ls hG
  unfold so_newa at h
  dsimp only at h
  split at h
  · rename_i x rest
    split at h
    · rename_i hh
      obtain ⟨h1, h2, h3, h4, h5⟩ := hh
      have h1 := of_decide_eq_true h1
      cases h
      obtain ⟨n1, n2⟩ := sa_nn hG.1.1 h1
      have hbytes : x.2.toNat * componentBytes .boolean ≤ 536870912 := Nat.le_trans (Nat.mul_le_mul (show x.2.toNat ≤ 1000000 by omega) (show componentBytes .boolean ≤ 8 by decide)) (by decide)
      refine va_newa (D := D) (atype := .boolean) (ty := .boolean) (a0 := (x.2.toNat, .inl (fun _ => 0))) hx hb (hts _ hw0) rfl hK hG.2.2.1 hG.2.2.2.1 hG.2.2.2.2 hA (fun _ => rfl) n1 n2 hbytes (Nat.le_trans h3 hC) (Nat.le_trans h4 hS0) hd (fun q cA H1 hK' hP hD hS => ?_)
      have hc := sa_cA (t := 3) hK hK' rfl
      subst hc
      refine sa_k_ref (sa_G_new (q := q) (x := .inr (3, sa_n0 3 x.2.toNat G.length)) hG h5 ?_ hP hD hS) (k _ List.mem_cons_self)
      show Sum.inl (dA 3, (List.replicate x.2.toNat ((0 : Nat), (0 : Int))).length, Sum.inl (sa_f _ _)) = _
      rw [sa_f_rep, List.length_replicate]
      rw [sa_upd_ne (by simp only [sa_wf, Bool.and_eq_true, decide_eq_true_eq] at h5; exact h5.1.1.1)]
      exact hG.1.1.2
    · cases h
  · cases h
noncomputable def so_newq (t maxC maxS : Nat) : sa_op := fun S => match S.2.2.1 with
  | .inl x :: rest => if sa_ok_ix x = true ∧ x.2 ≤ 1000000 ∧ S.2.2.2.2.2.1 + 1 ≤ maxC ∧ S.2.2.2.2.2.2 + x.2.toNat ≤ maxS ∧ sa_wf S.2.2.2.2.1.length S.2.1 rest S.2.2.2.1 = true then some [(S.1 + 3, S.2.1, .inr (.inl (some S.2.2.2.2.1.length)) :: rest, S.2.2.2.1 ++ [(S.2.2.2.2.1.length, .inr (t, .inr (.inr (List.replicate x.2.toNat none))))], S.2.2.2.2.1 ++ [(0, 0)], S.2.2.2.2.2.1 + 1, S.2.2.2.2.2.2 + x.2.toNat)] else none
  | _ => none
theorem sa_g_rep {V : sa_V} (n : Nat) : sa_g V (List.replicate n none) = fun _ => none := by
  funext j
  unfold sa_g
  rw [List.getD_eq_getElem?_getD, List.getElem?_replicate]
  split <;> rfl
theorem sn_newq {p : Program} {l : Launch} {e : Env} {R : Room} {s : State} {m : MethodId} {args : Array Value} {below : List Frame} {meth : Method} {c : Code} {Q : State → Prop} {D : va_G} {dA : Nat → ClassId} {A : Nat → Prop} {nL : Nat} {cl : List vw_C} {n0 : Nat} {V0 : sa_V} {Ts : List Cond} {cc : ByteArray} {own : String} (C0 : sa_C p s m args c D dA A nL cl Ts cc own) {pc : Nat} {maxC maxS t idx : Nat} {C : String} (hd : decode cc pc = .ok (.anewarray idx, 3)) (hl : Cond.classLink own idx C ∈ Ts) (hov : va_AO C s) (ht : (sa_tys dA)[t]? = some (dA t, .object C)) (hC : maxC ≤ R.cells) (hS0 : maxS ≤ R.slots) : sa_snd p l e R s m args below meth c Q D dA A nL cl n0 V0 pc (so_newq t maxC maxS) := by
  obtain ⟨hx, hb, hts, hown, hml, hK, hA⟩ := C0
  rintro ⟨pc, lo, st, cs, G, kc, ks⟩ sts rfl h k V H locs ls hG
  unfold so_newq at h
  dsimp only at h
  split at h
  · rename_i x rest
    split at h
    · rename_i hh
      obtain ⟨h1, h2, h3, h4, h5⟩ := hh
      have h1 := of_decide_eq_true h1
      cases h
      obtain ⟨n1, n2⟩ := sa_nn hG.1.1 h1
      refine va_newq (D := D) hx hb hown (hts _ hl) hov hK hG.2.2.1 hG.2.2.2.1 hG.2.2.2.2 hA n1 n2 (by omega) (Nat.le_trans h3 hC) (Nat.le_trans h4 hS0) hd (fun q cA H1 hK' hP hD hS => ?_)
      have hc := sa_cA (t := t) hK hK' ht
      subst hc
      refine sa_k_ref (sa_G_new (q := q) (x := .inr (t, .inr (.inr (List.replicate x.2.toNat none)))) hG h5 ?_ hP hD hS) (k _ List.mem_cons_self)
      show Sum.inl (dA t, (List.replicate x.2.toNat (none : Option Nat)).length, Sum.inr (Sum.inr (Sum.inr (Sum.inr (sa_g _ _))))) = _
      rw [sa_g_rep, List.length_replicate]
    · cases h
  · cases h
noncomputable def sa_d0 (n : Nat) : Nat → sa_v
  | 0 => .inl (0, 0)
  | 1 => .inr (.inl none)
  | _ => .inr (.inr n)
noncomputable def sa_d1 : Nat → Value
  | 0 => .int 0
  | 1 => .null
  | _ => .long 0
theorem sa_d_ok {V : sa_V} {n q : Nat} (h : (V 0).1 = 0) (h0 : 0 < n) (j : Nat) : sa_val (sa_upd V n (0, 0, fun _ => 0, q)) (sa_d0 n j) = sa_d1 j := by
  match j with
  | 0 =>
    show Value.int (Int32.ofInt ((sa_upd V n _ 0).1 + 0)) = _
    rw [sa_upd_ne h0, h]
    rfl
  | 1 => rfl
  | j + 2 =>
    show Value.long (sa_upd V n _ n).2.1 = _
    rw [sa_upd_eq]
    rfl
noncomputable def so_new (ci N : Nat) (ks0 : List Nat) (maxC maxS : Nat) : sa_op := fun S =>
  if S.2.2.2.2.2.1 + 1 ≤ maxC ∧ S.2.2.2.2.2.2 + N ≤ maxS ∧ sa_wf S.2.2.2.2.1.length S.2.1 S.2.2.1 S.2.2.2.1 = true then some [(S.1 + 3, S.2.1, .inr (.inl (some S.2.2.2.2.1.length)) :: S.2.2.1, S.2.2.2.1 ++ [(S.2.2.2.2.1.length, .inl (ci, ks0.map (sa_d0 S.2.2.2.2.1.length)))], S.2.2.2.2.1 ++ [(0, 0)], S.2.2.2.2.2.1 + 1, S.2.2.2.2.2.2 + N)] else none
theorem sn_new {p : Program} {l : Launch} {e : Env} {R : Room} {s : State} {m : MethodId} {args : Array Value} {below : List Frame} {meth : Method} {c : Code} {Q : State → Prop} {D : va_G} {dA : Nat → ClassId} {A : Nat → Prop} {nL : Nat} {cl : List vw_C} {n0 : Nat} {V0 : sa_V} {Ts : List Cond} {cc : ByteArray} {own : String} (C0 : sa_C p s m args c D dA A nL cl Ts cc own) {pc : Nat} {maxC maxS ci N idx : Nat} {C : String} {T : u_T} {ty : Nat → FieldType} {ks0 : List Nat} (hc : sa_cls cl Ts ci C T N ty) (hd : decode cc pc = .ok (.new idx, 3)) (hl : Cond.classLink own idx C ∈ Ts) (hi : Cond.instantiable C N ∈ Ts) (hin : Cond.initialized C ∈ Ts) (hk0 : ∀ j, j < N → defaultValue (ty j) = vp_V (ks0.map sa_d1) j) (hC : maxC ≤ R.cells) (hS0 : maxS ≤ R.slots) : sa_snd p l e R s m args below meth c Q D dA A nL cl n0 V0 pc (so_new ci N ks0 maxC maxS) := by
  obtain ⟨hx, hb, hts, hown, hml, hK, hA⟩ := C0
  rintro ⟨pc, lo, st, cs, G, kc, ks⟩ sts rfl h k V H locs ls hG
  unfold so_new at h
  dsimp only at h
  split at h
  · rename_i hh
    obtain ⟨h3, h4, h5⟩ := hh
    cases h
    refine va_new (D := D) (fs := ks0.map sa_d1) hx hb hts hc.2.1 ty hc.2.2.1 hown (hts _ hl) (hts _ hi) (hts _ hin) hK hG.2.2.1 hG.2.2.2.1 hG.2.2.2.2 hA hc.1 hk0 (Nat.le_trans h3 hC) (Nat.le_trans h4 hS0) hd (fun q H1 hP hD hS => ?_)
    refine sa_k_ref (sa_G_new (q := q) (x := .inl (ci, ks0.map (sa_d0 G.length))) hG h5 ?_ hP hD hS) (k _ List.mem_cons_self)
    show Sum.inr (ci, (ks0.map (sa_d0 G.length)).map (sa_val _)) = _
    rw [List.map_map]
    congr 2
    apply List.map_congr_left
    intro j _
    exact sa_d_ok hG.1.1.2 (by simp only [sa_wf, Bool.and_eq_true, decide_eq_true_eq] at h5; exact h5.1.1.1) j
  · cases h
/-! rows of references -/
noncomputable def so_aald (t : Nat) : sa_op := fun S => match S.2.2.1 with
  | .inl x :: .inr (.inl (some a)) :: rest => match sa_find a S.2.2.2.1 0 with
    | some (_, .inr (tt, .inr (.inr l))) => if tt = t then match sa_ixn S.2.2.2.2.1 x with
      | some j => match l[j]? with
        | some (some q) => some [(S.1 + 1, S.2.1, .inr (.inl (some q)) :: rest, S.2.2.2)]
        | _ => none
      | none => none
      else none
    | _ => none
  | _ => none
theorem sn_aald {p : Program} {l : Launch} {e : Env} {R : Room} {s : State} {m : MethodId} {args : Array Value} {below : List Frame} {meth : Method} {c : Code} {Q : State → Prop} {D : va_G} {dA : Nat → ClassId} {A : Nat → Prop} {nL : Nat} {cl : List vw_C} {n0 : Nat} {V0 : sa_V} {Ts : List Cond} {cc : ByteArray} {own : String} (C0 : sa_C p s m args c D dA A nL cl Ts cc own) {pc : Nat} {t : Nat} {C : String} (hd : decode cc pc = .ok (.aaload, 1)) (ht : (sa_tys dA)[t]? = some (dA t, .object C)) : sa_snd p l e R s m args below meth c Q D dA A nL cl n0 V0 pc (so_aald t) := by
  obtain ⟨hx, hb, hts, hown, hml, hK, hA⟩ := C0
  rintro ⟨pc, lo, st, cs, G, kc, ks⟩ sts rfl h k V H locs ls hG
  unfold so_aald at h
  dsimp only at h
  split at h
  · rename_i x a rest
    split at h
    · rename_i j tt l9 hj
      split at h
      · rename_i h1
        subst h1
        split at h
        · rename_i jx hjx
          split at h
          · rename_i q hq
            cases h
            have hlt := (List.getElem?_eq_some_iff.mp hq).1
            obtain ⟨i1, i2⟩ := sa_ixk hG.1.1 hjx
            refine va_aldq (D := D) hx hb hK hG.2.2.1 j _ (sa_find_0 hj) ht (i2 _ hlt) hd ?_
            rw [i1, show sa_g V l9 jx = some (sa_ad V q) by unfold sa_g; rw [List.getD_eq_getElem?_getD, hq]; rfl]
            exact k _ List.mem_cons_self V H locs ls hG
          · cases h
        · cases h
      · cases h
    · cases h
  · cases h
theorem sa_g_set {V : sa_V} {l : List (Option Nat)} {j q : Nat} (h : j < l.length) : va_up (sa_g V l) j (some (sa_ad V q)) = sa_g V (l.set j (some q)) := by
  funext i
  unfold va_up sa_g
  rw [List.getD_eq_getElem?_getD, List.getD_eq_getElem?_getD]
  by_cases hi : i = j
  · subst hi
    rw [if_pos rfl, List.getElem?_set_self h]
    rfl
  · rw [if_neg hi, List.getElem?_set_ne (Ne.symm hi)]
noncomputable def so_aast (t ci : Nat) : sa_op := fun S => match S.2.2.1 with
  | .inr (.inl (some q)) :: .inl x :: .inr (.inl (some a)) :: rest => match sa_find a S.2.2.2.1 0, sa_find q S.2.2.2.1 0 with
    | some (i, .inr (tt, .inr (.inr l))), some (_, .inl (cj, _)) => if tt = t ∧ cj = ci ∧ sa_ok_ix x = true ∧ x.2.toNat < l.length then some [(S.1 + 1, S.2.1, rest, S.2.2.2.1.set i (a, .inr (tt, .inr (.inr (l.set x.2.toNat (some q))))), S.2.2.2.2)] else none
    | _, _ => none
  | _ => none
theorem sn_aast {p : Program} {l : Launch} {e : Env} {R : Room} {s : State} {m : MethodId} {args : Array Value} {below : List Frame} {meth : Method} {c : Code} {Q : State → Prop} {D : va_G} {dA : Nat → ClassId} {A : Nat → Prop} {nL : Nat} {cl : List vw_C} {n0 : Nat} {V0 : sa_V} {Ts : List Cond} {cc : ByteArray} {own : String} (C0 : sa_C p s m args c D dA A nL cl Ts cc own) {pc : Nat} {t ci N : Nat} {C : String} {T : u_T} {ty : Nat → FieldType} (hc : sa_cls cl Ts ci C T N ty) (hd : decode cc pc = .ok (.aastore, 1)) (ht : (sa_tys dA)[t]? = some (dA t, .object C)) : sa_snd p l e R s m args below meth c Q D dA A nL cl n0 V0 pc (so_aast t ci) := by
  obtain ⟨hx, hb, hts, hown, hml, hK, hA⟩ := C0
  rintro ⟨pc, lo, st, cs, G, kc, ks⟩ sts rfl h k V H locs ls hG
  unfold so_aast at h
  dsimp only at h
  split at h
  · rename_i q x a rest
    split at h
    · rename_i i tt l9 j9 cj fs hj hq
      split at h
      · rename_i hh
        obtain ⟨h1, h1', h2, h3⟩ := hh
        subst h1
        subst h1'
        have h2 := of_decide_eq_true h2
        cases h
        obtain ⟨i1, i2⟩ := sa_ix hG.1.1 h2 h3
        refine va_astq (D := D) (r := (C, T, N)) hx hb hK hG.2.2.1 hG.2.2.2.1 hG.2.2.2.2 i _ j9 cj (sa_find_0 hj) ht (sa_find_0 hq) hc.1 i2 hd (fun H1 locs1 hP hD hS => ?_)
        have e9 : (cs.map (sa_e V dA)).set i (sa_ad V a, .inl (dA tt, l9.length, .inr (.inr (.inr (.inr (va_up (sa_g V l9) x.2.toNat (some (sa_ad V q)))))))) = (cs.set i (a, .inr (tt, .inr (.inr (l9.set x.2.toNat (some q)))))).map (sa_e V dA) := by
          rw [List.map_set, sa_g_set h3]
          congr 1
          show _ = (sa_ad V a, Sum.inl (dA tt, (l9.set x.2.toNat (some q)).length, Sum.inr (Sum.inr (Sum.inr (Sum.inr (sa_g V (l9.set x.2.toNat (some q))))))))
          rw [List.length_set]
        rw [i1, e9] at hP hD
        exact k _ List.mem_cons_self V H1 locs1 ls ⟨hG.1, hG.2.1, hP, hD, hS⟩
      · cases h
    · cases h
  · cases h
end SA4
