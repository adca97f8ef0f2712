section TY6
noncomputable def to_put (Z : tb_Z) (RT : tb_RT) (mod : List (Nat × Nat × Nat)) (dl : List (Nat × Nat × Int)) (ci f : Nat) (t : FieldType) : tb_op := fun S => match S.2.2.1 with
  | v :: .inr (.inl (some k)) :: rest => match tb_knd S.2.2.2.2.1 k with
    | some κ => match Z.1[κ]? with
      | some (.inl o) => if o.1 = ci ∧ f < o.2.length ∧ sa_fit S.2.2.2.2.1 t v = true then match tb_sto Z RT mod dl S.2.2.2.1 S.2.2.2.2.1 k (0, (f : Int)) v with
        | some cs' => some [(S.1 + 3, S.2.1, rest, cs', S.2.2.2.2)]
        | none => none
        else none
      | _ => none
    | none => none
  | _ => none
theorem tn_put {p : Program} {l : Launch} {e : Env} {R : Room} {s : State} {m : MethodId} {args : Array Value} {below : List Frame} {meth : Method} {c : Code} {Q : State → Prop} {D : va_G} {dA : Nat → ClassId} {A : Nat → Prop} {nL : Nat} {cl : List vw_C} {n0 : Nat} {V0 : sa_V} {E : tb_E} {Ts : List Cond} {cc : ByteArray} {own : String} (C0 : sa_C p s m args c D dA A nL cl Ts cc own) {Z : tb_Z} {RT : tb_RT} {mod : List (Nat × Nat × Nat)} {dl : List (Nat × Nat × Int)} (hz : tb_z E = Z) (hcv : Z.1.all tb_cv = true) (hrt : tb_rtok Z RT = true) (hm : tb_mod E = mod) {pc : Nat} {ci f N idx : Nat} {C : String} {T : u_T} {ty : Nat → FieldType} {t : FieldType} (hc : sa_cls cl Ts ci C T N ty) (hd : decode cc pc = .ok (.putfield idx, 3)) (hf : f < N) (hl : Cond.fieldLink own idx (T f).1 (T f).2.1 (T f).2.2.1 ∈ Ts) (hfin : (T f).2.2.2 = false) (hty : ty f = t) : tb_snd p l e R s m args below meth c Q D dA A nL cl n0 V0 E pc (to_put Z RT mod dl ci f t) := by
  obtain ⟨hx, hb, hts, hown, hml, hK, hA⟩ := C0
  rintro ⟨pc, lo, st, cs, G, kc, ks⟩ sts rfl h k V H locs ls hG
  unfold to_put at h
  dsimp only at h
  split at h
  · rename_i v k9 rest
    split at h
    · rename_i κ hκ
      split at h
      · rename_i o ho
        split at h
        · rename_i hh
          obtain ⟨h1, h2, h3⟩ := hh
          split at h
          · rename_i cs' hcs
            cases h
            obtain ⟨w, hN⟩ := hG.2.2.1
            have hN : tb_Nw D dA A cl E V cs H w := hN
            obtain ⟨j, e9, j1, j2, ⟨fs, rfl, j4⟩, j5⟩ := tb_cell hz hG.1.1 hG.2.2.2.1 hN hκ ho
            have hfl : f < fs.length := by rw [j4]; exact h2
            have ix : tb_ix V (0, (f : Int)) = (f : Int) := by unfold tb_ix; rw [hG.1.1.2]; omega
            have hfit := sa_fit_ok hG.1.1 h3
            subst h1
            refine va_put (D := D) (v := sa_val V v) (ty := t) hx hb hts hc.2.1 ty hc.2.2.1 hc.2.2.2 hown hK hN.1 hN.2.1 hG.2.2.2.2 j j2 hc.1 f hf (hts _ hl) (fun _ h9 => h9) hfin (by rw [← hty]; exact hc.2.2.1 f hf) hfit.1 hfit.2 hfl hd (fun H1 locs1 hP hD hS => ?_)
            refine k _ List.mem_cons_self V H1 locs1 ls ⟨hG.1, hG.2.1, ?_, hG.2.2.2.1, hS⟩
            refine tb_sto_ok hz hcv hrt hm hG.1.1 hG.2.2.2.1 hN hcs hκ ho j1 j2 ⟨_, rfl, by rw [List.length_set]; exact j4⟩ (fun i' => ?_) hP hD
            rw [ix]
            show (fs.set f (sa_val V v))[i']? = if i' = ((f : Int)).toNat then _ else fs[i']?
            rw [Int.toNat_natCast]
            by_cases hi : i' = f
            · subst hi
              rw [if_pos rfl, List.getElem?_set_self hfl]
            · rw [if_neg hi, List.getElem?_set_ne (Ne.symm hi)]
          · cases h
        · cases h
      · cases h
    · cases h
  · cases h
noncomputable def to_ast (Z : tb_Z) (RT : tb_RT) (mod : List (Nat × Nat × Nat)) (dl : List (Nat × Nat × Int)) (t : Nat) : tb_op := fun S => match S.2.2.1 with
  | v :: .inl q :: .inr (.inl (some k)) :: rest => match tb_knd S.2.2.2.2.1 k, sa_iv S.2.2.2.2.1 q with
    | some κ, some b => match Z.1[κ]? with
      | some (.inr a) => if a.1 = t ∧ 0 ≤ b.1 ∧ b.2 < (a.2.1 : Int) then match tb_sto Z RT mod dl S.2.2.2.1 S.2.2.2.2.1 k q v with
        | some cs' => some [(S.1 + 1, S.2.1, rest, cs', S.2.2.2.2)]
        | none => none
        else none
      | _ => none
    | _, _ => none
  | _ => none
theorem tn_iast {p : Program} {l : Launch} {e : Env} {R : Room} {s : State} {m : MethodId} {args : Array Value} {below : List Frame} {meth : Method} {c : Code} {Q : State → Prop} {D : va_G} {dA : Nat → ClassId} {A : Nat → Prop} {nL : Nat} {cl : List vw_C} {n0 : Nat} {V0 : sa_V} {E : tb_E} {Ts : List Cond} {cc : ByteArray} {own : String} (C0 : sa_C p s m args c D dA A nL cl Ts cc own) {Z : tb_Z} {RT : tb_RT} {mod : List (Nat × Nat × Nat)} {dl : List (Nat × Nat × Int)} (hz : tb_z E = Z) (hcv : Z.1.all tb_cv = true) (hrt : tb_rtok Z RT = true) (hm : tb_mod E = mod) {pc : Nat} (hd : decode cc pc = .ok (.iastore, 1)) : tb_snd p l e R s m args below meth c Q D dA A nL cl n0 V0 E pc (fun S => match S.2.2.1 with | .inl x9 :: _ => to_ast Z RT mod dl 0 S | _ => none) := by
  obtain ⟨hx, hb, hts, hown, hml, hK, hA⟩ := C0
  rintro ⟨pc, lo, st, cs, G, kc, ks⟩ sts rfl h k V H locs ls hG
  dsimp only at h
  split at h
  · rename_i x9 tl
    unfold to_ast at h
    dsimp only at h
    split at h
    · rename_i v q k9 rest heq
      cases heq
      split at h
      · rename_i κ b hκ hbq
        split at h
        · rename_i a9 ha9
          split at h
          · rename_i hh
            obtain ⟨h1, h2, h3⟩ := hh
            split at h
            · rename_i cs' hcs
              cases h
              obtain ⟨w, hN⟩ := hG.2.2.1
              have hN : tb_Nw D dA A cl E V cs H w := hN
              obtain ⟨j, e9, j1, j2, j3, j5⟩ := tb_cell hz hG.1.1 hG.2.2.2.1 hN hκ ha9
              obtain ⟨i1, i2, i3, i4⟩ := tb_ixin hG.1.1 hbq h2 h3
              have j9 := j3
              unfold tb_sh at j3
              dsimp only at j3
              rw [h1] at j3
              rw [if_neg (by decide), if_pos (by decide)] at j3
              obtain ⟨f9, rfl⟩ := j3
              refine va_iast (D := D) (x := sa_i V x9) hx hb hK hN.1 hN.2.1 hG.2.2.2.2 j 0 j2 rfl i1 hd (fun H1 locs1 hP hD hS => ?_)
              skip
              rw [i2] at hP hD
              refine k _ List.mem_cons_self V H1 locs1 ls ⟨hG.1, hG.2.1, ?_, hG.2.2.2.1, hS⟩
              refine tb_sto_ok hz hcv hrt hm hG.1.1 hG.2.2.2.1 hN hcs hκ ha9 j1 j2 (by unfold tb_sh; dsimp only; rw [h1]; rw [if_neg (by decide), if_pos (by decide)]; exact ⟨_, rfl⟩) (fun i' => ?_) hP hD
              show (if i' < a9.2.1 then some (Value.int (if i' = (tb_ix V q).toNat then sa_i V x9 else f9 i')) else none) = if i' = (tb_ix V q).toNat then some (Value.int (sa_i V x9)) else (if i' < a9.2.1 then some (Value.int (f9 i')) else none)
              by_cases hi : i' = (tb_ix V q).toNat
              · subst hi
                rw [if_pos i4, if_pos rfl, if_pos rfl]
              · rw [if_neg hi, if_neg hi]
            · cases h
          · cases h
        · cases h
      · cases h
    · cases h
  · cases h
theorem tn_last {p : Program} {l : Launch} {e : Env} {R : Room} {s : State} {m : MethodId} {args : Array Value} {below : List Frame} {meth : Method} {c : Code} {Q : State → Prop} {D : va_G} {dA : Nat → ClassId} {A : Nat → Prop} {nL : Nat} {cl : List vw_C} {n0 : Nat} {V0 : sa_V} {E : tb_E} {Ts : List Cond} {cc : ByteArray} {own : String} (C0 : sa_C p s m args c D dA A nL cl Ts cc own) {Z : tb_Z} {RT : tb_RT} {mod : List (Nat × Nat × Nat)} {dl : List (Nat × Nat × Int)} (hz : tb_z E = Z) (hcv : Z.1.all tb_cv = true) (hrt : tb_rtok Z RT = true) (hm : tb_mod E = mod) {pc : Nat} (hd : decode cc pc = .ok (.lastore, 1)) : tb_snd p l e R s m args below meth c Q D dA A nL cl n0 V0 E pc (fun S => match S.2.2.1 with | .inr (.inr x9) :: _ => to_ast Z RT mod dl 2 S | _ => none) := by
  obtain ⟨hx, hb, hts, hown, hml, hK, hA⟩ := C0
  rintro ⟨pc, lo, st, cs, G, kc, ks⟩ sts rfl h k V H locs ls hG
  dsimp only at h
  split at h
  · rename_i x9 tl
    unfold to_ast at h
    dsimp only at h
    split at h
    · rename_i v q k9 rest heq
      cases heq
      split at h
      · rename_i κ b hκ hbq
        split at h
        · rename_i a9 ha9
          split at h
          · rename_i hh
            obtain ⟨h1, h2, h3⟩ := hh
            split at h
            · rename_i cs' hcs
              cases h
              obtain ⟨w, hN⟩ := hG.2.2.1
              have hN : tb_Nw D dA A cl E V cs H w := hN
              obtain ⟨j, e9, j1, j2, j3, j5⟩ := tb_cell hz hG.1.1 hG.2.2.2.1 hN hκ ha9
              obtain ⟨i1, i2, i3, i4⟩ := tb_ixin hG.1.1 hbq h2 h3
              have j9 := j3
              unfold tb_sh at j3
              dsimp only at j3
              rw [h1] at j3
              rw [if_pos rfl] at j3
              obtain ⟨f9, rfl⟩ := j3
              refine va_last (D := D) (x := (V x9).2.1) hx hb hK hN.1 hN.2.1 hG.2.2.2.2 j 2 j2 rfl i1 hd (fun H1 locs1 hP hD hS => ?_)
              skip
              rw [i2] at hP hD
              refine k _ List.mem_cons_self V H1 locs1 ls ⟨hG.1, hG.2.1, ?_, hG.2.2.2.1, hS⟩
              refine tb_sto_ok hz hcv hrt hm hG.1.1 hG.2.2.2.1 hN hcs hκ ha9 j1 j2 (by unfold tb_sh; dsimp only; rw [h1]; rw [if_pos rfl]; exact ⟨_, rfl⟩) (fun i' => ?_) hP hD
              show (if i' < a9.2.1 then some (Value.long (if i' = (tb_ix V q).toNat then (V x9).2.1 else f9 i')) else none) = if i' = (tb_ix V q).toNat then some (Value.long ((V x9).2.1)) else (if i' < a9.2.1 then some (Value.long (f9 i')) else none)
              by_cases hi : i' = (tb_ix V q).toNat
              · subst hi
                rw [if_pos i4, if_pos rfl, if_pos rfl]
              · rw [if_neg hi, if_neg hi]
            · cases h
          · cases h
        · cases h
      · cases h
    · cases h
  · cases h
theorem tn_bast {p : Program} {l : Launch} {e : Env} {R : Room} {s : State} {m : MethodId} {args : Array Value} {below : List Frame} {meth : Method} {c : Code} {Q : State → Prop} {D : va_G} {dA : Nat → ClassId} {A : Nat → Prop} {nL : Nat} {cl : List vw_C} {n0 : Nat} {V0 : sa_V} {E : tb_E} {Ts : List Cond} {cc : ByteArray} {own : String} (C0 : sa_C p s m args c D dA A nL cl Ts cc own) {Z : tb_Z} {RT : tb_RT} {mod : List (Nat × Nat × Nat)} {dl : List (Nat × Nat × Int)} (hz : tb_z E = Z) (hcv : Z.1.all tb_cv = true) (hrt : tb_rtok Z RT = true) (hm : tb_mod E = mod) {pc : Nat} (hd : decode cc pc = .ok (.bastore, 1)) : tb_snd p l e R s m args below meth c Q D dA A nL cl n0 V0 E pc (fun S => match S.2.2.1 with | .inl x9 :: _ => (match sa_iv S.2.2.2.2.1 x9 with | some b9 => if (-128) ≤ b9.1 ∧ b9.2 ≤ 127 then to_ast Z RT mod dl 1 S else none | none => none) | _ => none) := by
  obtain ⟨hx, hb, hts, hown, hml, hK, hA⟩ := C0
  rintro ⟨pc, lo, st, cs, G, kc, ks⟩ sts rfl h k V H locs ls hG
  dsimp only at h
  split at h
  · rename_i x9 tl
    split at h
    · rename_i b9 hb9
      split at h
      · rename_i hlim
        obtain ⟨e9a, e9b, e9c⟩ := sa_iv_ok hG.1.1 hb9
        unfold to_ast at h
        dsimp only at h
        split at h
        · rename_i v q k9 rest heq
          cases heq
          split at h
          · rename_i κ b hκ hbq
            split at h
            · rename_i a9 ha9
              split at h
              · rename_i hh
                obtain ⟨h1, h2, h3⟩ := hh
                split at h
                · rename_i cs' hcs
                  cases h
                  obtain ⟨w, hN⟩ := hG.2.2.1
                  have hN : tb_Nw D dA A cl E V cs H w := hN
                  obtain ⟨j, e9, j1, j2, j3, j5⟩ := tb_cell hz hG.1.1 hG.2.2.2.1 hN hκ ha9
                  obtain ⟨i1, i2, i3, i4⟩ := tb_ixin hG.1.1 hbq h2 h3
                  have j9 := j3
                  unfold tb_sh at j3
                  dsimp only at j3
                  rw [h1] at j3
                  rw [if_neg (by decide), if_pos (by decide)] at j3
                  obtain ⟨f9, rfl⟩ := j3
                  refine va_bast (D := D) (x := sa_i V x9) hx hb hK hN.1 hN.2.1 hG.2.2.2.2 j 1 j2 rfl i1 hd (fun H1 locs1 hP hD hS => ?_)
                  rw [sa_nar_b (by omega) (by omega)] at hP hD
                  rw [i2] at hP hD
                  refine k _ List.mem_cons_self V H1 locs1 ls ⟨hG.1, hG.2.1, ?_, hG.2.2.2.1, hS⟩
                  refine tb_sto_ok hz hcv hrt hm hG.1.1 hG.2.2.2.1 hN hcs hκ ha9 j1 j2 (by unfold tb_sh; dsimp only; rw [h1]; rw [if_neg (by decide), if_pos (by decide)]; exact ⟨_, rfl⟩) (fun i' => ?_) hP hD
                  show (if i' < a9.2.1 then some (Value.int (if i' = (tb_ix V q).toNat then sa_i V x9 else f9 i')) else none) = if i' = (tb_ix V q).toNat then some (Value.int (sa_i V x9)) else (if i' < a9.2.1 then some (Value.int (f9 i')) else none)
                  by_cases hi : i' = (tb_ix V q).toNat
                  · subst hi
                    rw [if_pos i4, if_pos rfl, if_pos rfl]
                  · rw [if_neg hi, if_neg hi]
                · cases h
              · cases h
            · cases h
          · cases h
        · cases h
      · cases h
    · cases h
  · cases h
theorem tn_zast {p : Program} {l : Launch} {e : Env} {R : Room} {s : State} {m : MethodId} {args : Array Value} {below : List Frame} {meth : Method} {c : Code} {Q : State → Prop} {D : va_G} {dA : Nat → ClassId} {A : Nat → Prop} {nL : Nat} {cl : List vw_C} {n0 : Nat} {V0 : sa_V} {E : tb_E} {Ts : List Cond} {cc : ByteArray} {own : String} (C0 : sa_C p s m args c D dA A nL cl Ts cc own) {Z : tb_Z} {RT : tb_RT} {mod : List (Nat × Nat × Nat)} {dl : List (Nat × Nat × Int)} (hz : tb_z E = Z) (hcv : Z.1.all tb_cv = true) (hrt : tb_rtok Z RT = true) (hm : tb_mod E = mod) {pc : Nat} (hd : decode cc pc = .ok (.bastore, 1)) : tb_snd p l e R s m args below meth c Q D dA A nL cl n0 V0 E pc (fun S => match S.2.2.1 with | .inl x9 :: _ => (match sa_iv S.2.2.2.2.1 x9 with | some b9 => if 0 ≤ b9.1 ∧ b9.2 ≤ 1 then to_ast Z RT mod dl 3 S else none | none => none) | _ => none) := by
  obtain ⟨hx, hb, hts, hown, hml, hK, hA⟩ := C0
  rintro ⟨pc, lo, st, cs, G, kc, ks⟩ sts rfl h k V H locs ls hG
  dsimp only at h
  split at h
  · rename_i x9 tl
    split at h
    · rename_i b9 hb9
      split at h
      · rename_i hlim
        obtain ⟨e9a, e9b, e9c⟩ := sa_iv_ok hG.1.1 hb9
        unfold to_ast at h
        dsimp only at h
        split at h
        · rename_i v q k9 rest heq
          cases heq
          split at h
          · rename_i κ b hκ hbq
            split at h
            · rename_i a9 ha9
              split at h
              · rename_i hh
                obtain ⟨h1, h2, h3⟩ := hh
                split at h
                · rename_i cs' hcs
                  cases h
                  obtain ⟨w, hN⟩ := hG.2.2.1
                  have hN : tb_Nw D dA A cl E V cs H w := hN
                  obtain ⟨j, e9, j1, j2, j3, j5⟩ := tb_cell hz hG.1.1 hG.2.2.2.1 hN hκ ha9
                  obtain ⟨i1, i2, i3, i4⟩ := tb_ixin hG.1.1 hbq h2 h3
                  have j9 := j3
                  unfold tb_sh at j3
                  dsimp only at j3
                  rw [h1] at j3
                  rw [if_neg (by decide), if_pos (by decide)] at j3
                  obtain ⟨f9, rfl⟩ := j3
                  refine va_zast (D := D) (x := sa_i V x9) hx hb hK hN.1 hN.2.1 hG.2.2.2.2 j 3 j2 rfl i1 hd (fun H1 locs1 hP hD hS => ?_)
                  rw [sa_nar_z (by omega) (by omega)] at hP hD
                  rw [i2] at hP hD
                  refine k _ List.mem_cons_self V H1 locs1 ls ⟨hG.1, hG.2.1, ?_, hG.2.2.2.1, hS⟩
                  refine tb_sto_ok hz hcv hrt hm hG.1.1 hG.2.2.2.1 hN hcs hκ ha9 j1 j2 (by unfold tb_sh; dsimp only; rw [h1]; rw [if_neg (by decide), if_pos (by decide)]; exact ⟨_, rfl⟩) (fun i' => ?_) hP hD
                  show (if i' < a9.2.1 then some (Value.int (if i' = (tb_ix V q).toNat then sa_i V x9 else f9 i')) else none) = if i' = (tb_ix V q).toNat then some (Value.int (sa_i V x9)) else (if i' < a9.2.1 then some (Value.int (f9 i')) else none)
                  by_cases hi : i' = (tb_ix V q).toNat
                  · subst hi
                    rw [if_pos i4, if_pos rfl, if_pos rfl]
                  · rw [if_neg hi, if_neg hi]
                · cases h
              · cases h
            · cases h
          · cases h
        · cases h
      · cases h
    · cases h
  · cases h
end TY6
