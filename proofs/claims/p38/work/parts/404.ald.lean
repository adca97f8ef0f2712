section TY4
theorem tb_ixin {V : sa_V} {G : sa_B} {q : Nat × Int} {b : Int × Int} {n : Nat} (hI : sa_I V G) (hb : sa_iv G q = some b) (h0 : 0 ≤ b.1) (h1 : b.2 < (n : Int)) : vp_in (sa_i V q) n ∧ (sa_i V q).toNatClampNeg = (tb_ix V q).toNat ∧ 0 ≤ tb_ix V q ∧ (tb_ix V q).toNat < n := by
  obtain ⟨q1, q2, q3⟩ := tb_iv_ix hI hb
  have e2 : (sa_i V q).toNatClampNeg = (tb_ix V q).toNat := by rw [← q3]; rfl
  refine ⟨fun z => ?_, e2, by omega, by omega⟩
  rcases z with z | z
  · rw [Int32.lt_iff_toInt_lt, q3] at z
    have : tb_ix V q < 0 := z
    omega
  · rw [e2] at z
    omega
noncomputable def to_ald (Z : tb_Z) (rs : List Nat) (t : Nat) : tb_op := fun S => match S.2.2.1 with
  | .inl q :: .inr (.inl (some k)) :: rest => match tb_knd S.2.2.2.2.1 k, sa_iv S.2.2.2.2.1 q with
    | some κ, some b => match Z.1[κ]? with
      | some (.inr a) => if a.1 = t ∧ 0 ≤ b.1 ∧ b.2 < (a.2.1 : Int) ∧ tb_wf S.2.2.2.2.1.length S.2.1 rest S.2.2.2.1 = true then match tb_load Z rs S.2.2.2.1 S.2.2.2.2.1 k q with
        | some r => some [(S.1 + 1, S.2.1, r.1 :: rest, r.2.1, r.2.2, S.2.2.2.2.2)]
        | none => none
        else none
      | _ => none
    | _, _ => none
  | _ => none
theorem tn_iald {p : Program} {l : Launch} {e : Env} {R : Room} {s : State} {m : MethodId} {args : Array Value} {below : List Frame} {meth : Method} {c : Code} {Q : State → Prop} {D : va_G} {dA : Nat → ClassId} {A : Nat → Prop} {nL : Nat} {cl : List vw_C} {n0 : Nat} {V0 : sa_V} {E : tb_E} {Ts : List Cond} {cc : ByteArray} {own : String} (C0 : sa_C p s m args c D dA A nL cl Ts cc own) {Z : tb_Z} (hz : tb_z E = Z) (hcv : Z.1.all tb_cv = true) {pc : Nat} {rs : List Nat} (hd : decode cc pc = .ok (.iaload, 1)) : tb_snd p l e R s m args below meth c Q D dA A nL cl n0 V0 E pc (to_ald Z rs 0) := by
  obtain ⟨hx, hb, hts, hown, hml, hK, hA⟩ := C0
  rintro ⟨pc, lo, st, cs, G, kc, ks⟩ sts rfl h k V H locs ls hG
  unfold to_ald at h
  dsimp only at h
  split at h
  · rename_i q k9 rest
    split at h
    · rename_i κ b hκ hbq
      split at h
      · rename_i a9 ha9
        split at h
        · rename_i hh
          obtain ⟨h1, h2, h3, h4⟩ := hh
          split at h
          · rename_i r hr
            cases h
            obtain ⟨w, hN⟩ := hG.2.2.1
            have hN : tb_Nw D dA A cl E V cs H w := hN
            obtain ⟨j, e9, j1, j2, j3, j5⟩ := tb_cell hz hG.1.1 hG.2.2.2.1 hN hκ ha9
            obtain ⟨i1, i2, i3, i4⟩ := tb_ixin hG.1.1 hbq h2 h3
            unfold tb_sh at j3
            dsimp only at j3
            rw [h1] at j3
            rw [if_neg (by decide), if_pos (by decide)] at j3
            obtain ⟨f9, rfl⟩ := j3
            have hv0 : tb_at w (sa_ad V k9) (tb_ix V q).toNat (Value.int (f9 (tb_ix V q).toNat)) := ⟨j, _, j2, by show (if _ < _ then _ else _) = _; rw [if_pos i4]⟩
            obtain ⟨V', g1, g2, g3, -, -⟩ := tb_load_ok hz hcv hG h4 hN (show _ = some (r.1, r.2.1, r.2.2) from hr) i3 hv0
            refine va_iald (D := D) hx hb hK hN.1 j 0 j2 rfl i1 hd ?_
            rw [i2]
            have h9 := k _ List.mem_cons_self V' H locs ls g1
            dsimp only at h9
            rw [List.map_cons, g2, g3] at h9
            exact h9
          · cases h
        · cases h
      · cases h
    · cases h
  · cases h
theorem tn_bald {p : Program} {l : Launch} {e : Env} {R : Room} {s : State} {m : MethodId} {args : Array Value} {below : List Frame} {meth : Method} {c : Code} {Q : State → Prop} {D : va_G} {dA : Nat → ClassId} {A : Nat → Prop} {nL : Nat} {cl : List vw_C} {n0 : Nat} {V0 : sa_V} {E : tb_E} {Ts : List Cond} {cc : ByteArray} {own : String} (C0 : sa_C p s m args c D dA A nL cl Ts cc own) {Z : tb_Z} (hz : tb_z E = Z) (hcv : Z.1.all tb_cv = true) {pc : Nat} {rs : List Nat} (hd : decode cc pc = .ok (.baload, 1)) : tb_snd p l e R s m args below meth c Q D dA A nL cl n0 V0 E pc (to_ald Z rs 1) := by
  obtain ⟨hx, hb, hts, hown, hml, hK, hA⟩ := C0
  rintro ⟨pc, lo, st, cs, G, kc, ks⟩ sts rfl h k V H locs ls hG
  unfold to_ald at h
  dsimp only at h
  split at h
  · rename_i q k9 rest
    split at h
    · rename_i κ b hκ hbq
      split at h
      · rename_i a9 ha9
        split at h
        · rename_i hh
          obtain ⟨h1, h2, h3, h4⟩ := hh
          split at h
          · rename_i r hr
            cases h
            obtain ⟨w, hN⟩ := hG.2.2.1
            have hN : tb_Nw D dA A cl E V cs H w := hN
            obtain ⟨j, e9, j1, j2, j3, j5⟩ := tb_cell hz hG.1.1 hG.2.2.2.1 hN hκ ha9
            obtain ⟨i1, i2, i3, i4⟩ := tb_ixin hG.1.1 hbq h2 h3
            unfold tb_sh at j3
            dsimp only at j3
            rw [h1] at j3
            rw [if_neg (by decide), if_pos (by decide)] at j3
            obtain ⟨f9, rfl⟩ := j3
            have hv0 : tb_at w (sa_ad V k9) (tb_ix V q).toNat (Value.int (f9 (tb_ix V q).toNat)) := ⟨j, _, j2, by show (if _ < _ then _ else _) = _; rw [if_pos i4]⟩
            obtain ⟨V', g1, g2, g3, -, -⟩ := tb_load_ok hz hcv hG h4 hN (show _ = some (r.1, r.2.1, r.2.2) from hr) i3 hv0
            refine va_bald (D := D) hx hb hK hN.1 j 1 j2 rfl i1 hd ?_
            rw [i2]
            have h9 := k _ List.mem_cons_self V' H locs ls g1
            dsimp only at h9
            rw [List.map_cons, g2, g3] at h9
            exact h9
          · cases h
        · cases h
      · cases h
    · cases h
  · cases h
theorem tn_zald {p : Program} {l : Launch} {e : Env} {R : Room} {s : State} {m : MethodId} {args : Array Value} {below : List Frame} {meth : Method} {c : Code} {Q : State → Prop} {D : va_G} {dA : Nat → ClassId} {A : Nat → Prop} {nL : Nat} {cl : List vw_C} {n0 : Nat} {V0 : sa_V} {E : tb_E} {Ts : List Cond} {cc : ByteArray} {own : String} (C0 : sa_C p s m args c D dA A nL cl Ts cc own) {Z : tb_Z} (hz : tb_z E = Z) (hcv : Z.1.all tb_cv = true) {pc : Nat} {rs : List Nat} (hd : decode cc pc = .ok (.baload, 1)) : tb_snd p l e R s m args below meth c Q D dA A nL cl n0 V0 E pc (to_ald Z rs 3) := by
  obtain ⟨hx, hb, hts, hown, hml, hK, hA⟩ := C0
  rintro ⟨pc, lo, st, cs, G, kc, ks⟩ sts rfl h k V H locs ls hG
  unfold to_ald at h
  dsimp only at h
  split at h
  · rename_i q k9 rest
    split at h
    · rename_i κ b hκ hbq
      split at h
      · rename_i a9 ha9
        split at h
        · rename_i hh
          obtain ⟨h1, h2, h3, h4⟩ := hh
          split at h
          · rename_i r hr
            cases h
            obtain ⟨w, hN⟩ := hG.2.2.1
            have hN : tb_Nw D dA A cl E V cs H w := hN
            obtain ⟨j, e9, j1, j2, j3, j5⟩ := tb_cell hz hG.1.1 hG.2.2.2.1 hN hκ ha9
            obtain ⟨i1, i2, i3, i4⟩ := tb_ixin hG.1.1 hbq h2 h3
            unfold tb_sh at j3
            dsimp only at j3
            rw [h1] at j3
            rw [if_neg (by decide), if_pos (by decide)] at j3
            obtain ⟨f9, rfl⟩ := j3
            have hv0 : tb_at w (sa_ad V k9) (tb_ix V q).toNat (Value.int (f9 (tb_ix V q).toNat)) := ⟨j, _, j2, by show (if _ < _ then _ else _) = _; rw [if_pos i4]⟩
            obtain ⟨V', g1, g2, g3, -, -⟩ := tb_load_ok hz hcv hG h4 hN (show _ = some (r.1, r.2.1, r.2.2) from hr) i3 hv0
            refine va_zald (D := D) hx hb hK hN.1 j 3 j2 rfl i1 hd ?_
            rw [i2]
            have h9 := k _ List.mem_cons_self V' H locs ls g1
            dsimp only at h9
            rw [List.map_cons, g2, g3] at h9
            exact h9
          · cases h
        · cases h
      · cases h
    · cases h
  · cases h
theorem tn_lald {p : Program} {l : Launch} {e : Env} {R : Room} {s : State} {m : MethodId} {args : Array Value} {below : List Frame} {meth : Method} {c : Code} {Q : State → Prop} {D : va_G} {dA : Nat → ClassId} {A : Nat → Prop} {nL : Nat} {cl : List vw_C} {n0 : Nat} {V0 : sa_V} {E : tb_E} {Ts : List Cond} {cc : ByteArray} {own : String} (C0 : sa_C p s m args c D dA A nL cl Ts cc own) {Z : tb_Z} (hz : tb_z E = Z) (hcv : Z.1.all tb_cv = true) {pc : Nat} {rs : List Nat} (hd : decode cc pc = .ok (.laload, 1)) : tb_snd p l e R s m args below meth c Q D dA A nL cl n0 V0 E pc (to_ald Z rs 2) := by
  obtain ⟨hx, hb, hts, hown, hml, hK, hA⟩ := C0
  rintro ⟨pc, lo, st, cs, G, kc, ks⟩ sts rfl h k V H locs ls hG
  unfold to_ald at h
  dsimp only at h
  split at h
  · rename_i q k9 rest
    split at h
    · rename_i κ b hκ hbq
      split at h
      · rename_i a9 ha9
        split at h
        · rename_i hh
          obtain ⟨h1, h2, h3, h4⟩ := hh
          split at h
          · rename_i r hr
            cases h
            obtain ⟨w, hN⟩ := hG.2.2.1
            have hN : tb_Nw D dA A cl E V cs H w := hN
            obtain ⟨j, e9, j1, j2, j3, j5⟩ := tb_cell hz hG.1.1 hG.2.2.2.1 hN hκ ha9
            obtain ⟨i1, i2, i3, i4⟩ := tb_ixin hG.1.1 hbq h2 h3
            unfold tb_sh at j3
            dsimp only at j3
            rw [h1] at j3
            rw [if_pos rfl] at j3
            obtain ⟨f9, rfl⟩ := j3
            have hv0 : tb_at w (sa_ad V k9) (tb_ix V q).toNat (Value.long (f9 (tb_ix V q).toNat)) := ⟨j, _, j2, by show (if _ < _ then _ else _) = _; rw [if_pos i4]⟩
            obtain ⟨V', g1, g2, g3, -, -⟩ := tb_load_ok hz hcv hG h4 hN (show _ = some (r.1, r.2.1, r.2.2) from hr) i3 hv0
            refine va_lald (D := D) hx hb hK hN.1 j 2 j2 rfl i1 hd ?_
            rw [i2]
            have h9 := k _ List.mem_cons_self V' H locs ls g1
            dsimp only at h9
            rw [List.map_cons, g2, g3] at h9
            exact h9
          · cases h
        · cases h
      · cases h
    · cases h
  · cases h
theorem tn_aald4 {p : Program} {l : Launch} {e : Env} {R : Room} {s : State} {m : MethodId} {args : Array Value} {below : List Frame} {meth : Method} {c : Code} {Q : State → Prop} {D : va_G} {dA : Nat → ClassId} {A : Nat → Prop} {nL : Nat} {cl : List vw_C} {n0 : Nat} {V0 : sa_V} {E : tb_E} {Ts : List Cond} {cc : ByteArray} {own : String} (C0 : sa_C p s m args c D dA A nL cl Ts cc own) {Z : tb_Z} (hz : tb_z E = Z) (hcv : Z.1.all tb_cv = true) {pc : Nat} {rs : List Nat} (hd : decode cc pc = .ok (.aaload, 1)) : tb_snd p l e R s m args below meth c Q D dA A nL cl n0 V0 E pc (to_ald Z rs 4) := by
  obtain ⟨hx, hb, hts, hown, hml, hK, hA⟩ := C0
  rintro ⟨pc, lo, st, cs, G, kc, ks⟩ sts rfl h k V H locs ls hG
  unfold to_ald at h
  dsimp only at h
  split at h
  · rename_i q k9 rest
    split at h
    · rename_i κ b hκ hbq
      split at h
      · rename_i a9 ha9
        split at h
        · rename_i hh
          obtain ⟨h1, h2, h3, h4⟩ := hh
          split at h
          · rename_i r hr
            cases h
            obtain ⟨w, hN⟩ := hG.2.2.1
            have hN : tb_Nw D dA A cl E V cs H w := hN
            obtain ⟨j, e9, j1, j2, j3, j5⟩ := tb_cell hz hG.1.1 hG.2.2.2.1 hN hκ ha9
            obtain ⟨i1, i2, i3, i4⟩ := tb_ixin hG.1.1 hbq h2 h3
            unfold tb_sh at j3
            dsimp only at j3
            rw [h1] at j3
            rw [if_neg (by decide), if_neg (by decide)] at j3
            obtain ⟨f9, rfl⟩ := j3
            have hv0 : tb_at w (sa_ad V k9) (tb_ix V q).toNat (va_rf (f9 (tb_ix V q).toNat)) := ⟨j, _, j2, by show (if _ < _ then _ else _) = _; rw [if_pos i4]⟩
            obtain ⟨V', g1, g2, g3, -, -⟩ := tb_load_ok hz hcv hG h4 hN (show _ = some (r.1, r.2.1, r.2.2) from hr) i3 hv0
            refine va_aldq (D := D) hx hb hK hN.1 j 4 j2 rfl i1 hd ?_
            rw [i2]
            have h9 := k _ List.mem_cons_self V' H locs ls g1
            dsimp only at h9
            rw [List.map_cons, g2, g3] at h9
            exact h9
          · cases h
        · cases h
      · cases h
    · cases h
  · cases h
theorem tn_aald5 {p : Program} {l : Launch} {e : Env} {R : Room} {s : State} {m : MethodId} {args : Array Value} {below : List Frame} {meth : Method} {c : Code} {Q : State → Prop} {D : va_G} {dA : Nat → ClassId} {A : Nat → Prop} {nL : Nat} {cl : List vw_C} {n0 : Nat} {V0 : sa_V} {E : tb_E} {Ts : List Cond} {cc : ByteArray} {own : String} (C0 : sa_C p s m args c D dA A nL cl Ts cc own) {Z : tb_Z} (hz : tb_z E = Z) (hcv : Z.1.all tb_cv = true) {pc : Nat} {rs : List Nat} (hd : decode cc pc = .ok (.aaload, 1)) : tb_snd p l e R s m args below meth c Q D dA A nL cl n0 V0 E pc (to_ald Z rs 5) := by
  obtain ⟨hx, hb, hts, hown, hml, hK, hA⟩ := C0
  rintro ⟨pc, lo, st, cs, G, kc, ks⟩ sts rfl h k V H locs ls hG
  unfold to_ald at h
  dsimp only at h
  split at h
  · rename_i q k9 rest
    split at h
    · rename_i κ b hκ hbq
      split at h
      · rename_i a9 ha9
        split at h
        · rename_i hh
          obtain ⟨h1, h2, h3, h4⟩ := hh
          split at h
          · rename_i r hr
            cases h
            obtain ⟨w, hN⟩ := hG.2.2.1
            have hN : tb_Nw D dA A cl E V cs H w := hN
            obtain ⟨j, e9, j1, j2, j3, j5⟩ := tb_cell hz hG.1.1 hG.2.2.2.1 hN hκ ha9
            obtain ⟨i1, i2, i3, i4⟩ := tb_ixin hG.1.1 hbq h2 h3
            unfold tb_sh at j3
            dsimp only at j3
            rw [h1] at j3
            rw [if_neg (by decide), if_neg (by decide)] at j3
            obtain ⟨f9, rfl⟩ := j3
            have hv0 : tb_at w (sa_ad V k9) (tb_ix V q).toNat (va_rf (f9 (tb_ix V q).toNat)) := ⟨j, _, j2, by show (if _ < _ then _ else _) = _; rw [if_pos i4]⟩
            obtain ⟨V', g1, g2, g3, -, -⟩ := tb_load_ok hz hcv hG h4 hN (show _ = some (r.1, r.2.1, r.2.2) from hr) i3 hv0
            refine va_aldq (D := D) hx hb hK hN.1 j 5 j2 rfl i1 hd ?_
            rw [i2]
            have h9 := k _ List.mem_cons_self V' H locs ls g1
            dsimp only at h9
            rw [List.map_cons, g2, g3] at h9
            exact h9
          · cases h
        · cases h
      · cases h
    · cases h
  · cases h
noncomputable def to_alen (Z : tb_Z) : tb_op := fun S => match S.2.2.1 with
  | .inr (.inl (some k)) :: rest => match tb_knd S.2.2.2.2.1 k with
    | some κ => match Z.1[κ]? with
      | some (.inr a) => if a.1 < 6 then some [(S.1 + 1, S.2.1, .inl (0, (a.2.1 : Int)) :: rest, S.2.2.2)] else none
      | _ => none
    | none => none
  | _ => none
theorem tb_arr {dA : Nat → ClassId} {a : Nat × Nat × List (Nat × tb_t)} {e : va_E} (h : tb_sh dA (.inr a) e) : ∃ x : vp_A, e = .inl (dA a.1, x) ∧ x.1 = a.2.1 := by
  unfold tb_sh at h
  dsimp only at h
  split at h
  · obtain ⟨f, rfl⟩ := h; exact ⟨_, rfl, rfl⟩
  · split at h
    · obtain ⟨f, rfl⟩ := h; exact ⟨_, rfl, rfl⟩
    · obtain ⟨f, rfl⟩ := h; exact ⟨_, rfl, rfl⟩
theorem tn_alen {p : Program} {l : Launch} {e : Env} {R : Room} {s : State} {m : MethodId} {args : Array Value} {below : List Frame} {meth : Method} {c : Code} {Q : State → Prop} {D : va_G} {dA : Nat → ClassId} {A : Nat → Prop} {nL : Nat} {cl : List vw_C} {n0 : Nat} {V0 : sa_V} {E : tb_E} {Ts : List Cond} {cc : ByteArray} {own : String} (C0 : sa_C p s m args c D dA A nL cl Ts cc own) {Z : tb_Z} (hz : tb_z E = Z) {pc : Nat} (hd : decode cc pc = .ok (.arraylength, 1)) : tb_snd p l e R s m args below meth c Q D dA A nL cl n0 V0 E pc (to_alen Z) := by
  obtain ⟨hx, hb, hts, hown, hml, hK, hA⟩ := C0
  rintro ⟨pc, lo, st, cs, G, kc, ks⟩ sts rfl h k V H locs ls hG
  unfold to_alen at h
  dsimp only at h
  split at h
  · rename_i k9 rest
    split at h
    · rename_i κ hκ
      split at h
      · rename_i a9 ha9
        split at h
        · rename_i h1
          cases h
          obtain ⟨w, hN⟩ := hG.2.2.1
          have hN : tb_Nw D dA A cl E V cs H w := hN
          obtain ⟨j, e9, j1, j2, j3, j5⟩ := tb_cell hz hG.1.1 hG.2.2.2.1 hN hκ ha9
          obtain ⟨x, rfl, hx1⟩ := tb_arr j3
          obtain ⟨ty, hty⟩ := sa_tys_at (dA := dA) h1
          refine va_alen (D := D) (v := Int32.ofInt (a9.2.1 : Int)) hx hb hK hN.1 j a9.1 j2 hty ?_ hd (tb_k_int hG (k _ List.mem_cons_self))
          rw [hx1]
          exact (Int32.ofInt_eq_ofNat).symm
        · cases h
      · cases h
    · cases h
  · cases h
end TY4
