section TY3
noncomputable def tb_Nw (D : va_G) (dA : Nat → ClassId) (A : Nat → Prop) (cl : List vw_C) (E : tb_E) (V : sa_V) (cs : tb_c) (H : Heap) (w : va_W) : Prop := va_P D cl w H ∧ va_D A w ∧ tb_wk dA (tb_al E) (tb_z E).1 w ∧ tb_fm E w ∧ (∀ f ∈ cs.1, tb_fa V w f) ∧ (∀ (i : Nat) (r : tb_ru), (tb_z E).2.2[i]? = some r → i ∉ cs.2.1 → tb_rh (tb_al E) w r) ∧ ∀ l ∈ cs.2.2, tb_lo V l
theorem tb_at_one {A : Nat → Prop} {w : va_W} (hD : va_D A w) {a i : Nat} {v v' : Value} (h : tb_at w a i v) (h' : tb_at w a i v') : v = v' := by
  obtain ⟨j, e, h1, h2⟩ := h
  obtain ⟨j', e', h3, h4⟩ := h'
  have := hD.1 j j' _ _ h1 h3 rfl
  subst this
  have h5 := congrArg Prod.snd (Option.some.inj (h1.symm.trans h3))
  have h5 : e = e' := h5
  subst h5
  exact Option.some.inj (h2.symm.trans h4)
/-- bounds by rules -/
noncomputable def tb_rf (Z : tb_Z) (F : List tb_f) (sus : List Nat) (G : sa_B) (κ i : Nat) : List Nat → Int × Int → Int × Int
  | [], b => b
  | r :: l, b => match Z.2.2[r]? with
    | some ru => if ru.2.1 = κ ∧ ru.2.2.1 = i ∧ ¬ r ∈ sus ∧ ru.1.all (tb_pin G F) = true then tb_rf Z F sus G κ i l (max b.1 ru.2.2.2.1, min b.2 ru.2.2.2.2) else tb_rf Z F sus G κ i l b
    | none => tb_rf Z F sus G κ i l b
theorem tb_rf_ok {E : tb_E} {V : sa_V} {G : sa_B} {w : va_W} {Z : tb_Z} {F : List tb_f} {sus : List Nat} {κ i j a : Nat} {A : Nat → Prop} {x : Int32} (hz : tb_z E = Z) (hI : sa_I V G) (hX : tb_X E V) (hD : va_D A w) (hf : ∀ f ∈ F, tb_fa V w f) (hr : ∀ (i : Nat) (r : tb_ru), Z.2.2[i]? = some r → i ∉ sus → tb_rh (tb_al E) w r) (hs : Z.2.1.getD κ false = true) (hj : (tb_al E)[j]? = some (a, κ)) (hx : tb_at w a i (.int x)) : ∀ (l : List Nat) (b : Int × Int), b.1 ≤ x.toInt ∧ x.toInt ≤ b.2 → (tb_rf Z F sus G κ i l b).1 ≤ x.toInt ∧ x.toInt ≤ (tb_rf Z F sus G κ i l b).2
  | [], b, h => h
  | r :: l, b, h => by
    unfold tb_rf
    split
    · rename_i ru hru
      split
      · rename_i hh
        obtain ⟨h1, h2, h3, h4⟩ := hh
        obtain ⟨j', a', x', g1, g2, g3, g4⟩ := hr r ru hru h3 (fun p hp => tb_pin_ok hI hX hf (List.all_eq_true.mp h4 p hp))
        rw [h1] at g1
        rw [h2] at g2
        have hij := hX.2.2 κ (by unfold tb_sg; rw [hz]; exact hs) j' j _ _ g1 hj
        subst hij
        have ha : a' = a := congrArg Prod.fst (Option.some.inj (g1.symm.trans hj))
        subst ha
        have hxx := tb_at_one hD hx g2
        cases hxx
        exact tb_rf_ok hz hI hX hD hf hr hs hj hx l _ ⟨by show max _ _ ≤ _; omega, by show _ ≤ min _ _; omega⟩
      · exact tb_rf_ok hz hI hX hD hf hr hs hj hx l b h
    · exact tb_rf_ok hz hI hX hD hf hr hs hj hx l b h
noncomputable def tb_lt (Z : tb_Z) (rs : List Nat) (cs : tb_c) (G : sa_B) (κ : Nat) (b : Int × Int) (u : tb_t) : tb_t :=
  if u.1 = 0 ∧ b.1 = b.2 ∧ ¬ rs = [] ∧ Z.2.1.getD κ false = true then (0, tb_rf Z cs.1 cs.2.1 G κ b.1.toNat rs u.2) else u
/-- a slot's value -/
noncomputable def tb_load (Z : tb_Z) (rs : List Nat) (cs : tb_c) (G : sa_B) (k : Nat) (q : Nat × Int) : Option (sa_v × tb_c × sa_B) := match tb_fact Z G k q cs.1 with
  | some v => some (v, cs, G)
  | none => match tb_knd G k, sa_iv G q with
    | some κ, some b => match Z.1[κ]? with
      | some kd => if tb_ile 0 b.1 = true then match tb_jt (tb_tys kd b.1.toNat b.2.toNat) with
        | some u => some (tb_vn (tb_lt Z rs cs G κ b u) G.length, (cs.1 ++ [(k, q, tb_vn (tb_lt Z rs cs G κ b u) G.length)], cs.2), G ++ [tb_bn (tb_lt Z rs cs G κ b u)])
        | none => none
        else none
      | none => none
    | _, _ => none
theorem tb_load_ok {D : va_G} {dA : Nat → ClassId} {A : Nat → Prop} {nL : Nat} {cl : List vw_C} {n0 : Nat} {V0 : sa_V} {E : tb_E} {H0 : Heap} {V : sa_V} {lo : sa_L} {st : List sa_v} {cs : tb_c} {G : sa_B} {H : Heap} {locs : List Loc} {ls : Array Slot} {Z : tb_Z} {rs : List Nat} {k : Nat} {q : Nat × Int} {v : sa_v} {cs' : tb_c} {G' : sa_B} {v0 : Value} {w : va_W}
    (hz : tb_z E = Z) (hcv : Z.1.all tb_cv = true) (hG : tb_G D dA A nL cl n0 V0 E H0 V lo cs G H locs ls) (hw : tb_wf G.length lo st cs = true) (hN : tb_Nw D dA A cl E V cs H w) (h : tb_load Z rs cs G k q = some (v, cs', G')) (hq0 : 0 ≤ tb_ix V q) (hv0 : tb_at w (sa_ad V k) (tb_ix V q).toNat v0) :
    ∃ V' : sa_V, tb_G D dA A nL cl n0 V0 E H0 V' lo cs' G' H locs ls ∧ sa_val V' v = v0 ∧ st.map (sa_val V') = st.map (sa_val V) ∧ (∀ i, i < G.length → V' i = V i) ∧ cs'.2 = cs.2 := by
  have hI := hG.1.1
  have hX := hG.2.2.2.1
  obtain ⟨n1, n2, n3, n4, n5, n6, n7⟩ := hN
  unfold tb_load at h
  split at h
  · rename_i v1 hv1
    cases h
    obtain ⟨g1, -⟩ := tb_fact_ok hz hI hX n5 hv1
    exact ⟨V, hG, tb_at_one n2 g1.2 hv0, rfl, fun _ _ => rfl, rfl⟩
  · split at h
    · rename_i κ b hκ hb
      split at h
      · rename_i kd hkd
        split at h
        · rename_i hb0
          have hb0 := tb_ile_ok hb0
          split at h
          · rename_i u hu
            cases h
            obtain ⟨⟨j, hj⟩, hkl⟩ := tb_knd_ok hI hX hκ
            obtain ⟨q1, q2, -⟩ := tb_iv_ix hI hb
            obtain ⟨kd', e, c1, c2, c3, c4⟩ := n3.2 j _ κ hj
            rw [hz, hkd] at c1
            cases c1
            obtain ⟨t, ht, hty⟩ := tb_tys_in (k := kd) (a := b.1.toNat) (b := b.2.toNat) (i := (tb_ix V q).toNat) (by omega) (by omega) (List.all_eq_true.mp hcv kd (List.mem_of_getElem? hkd)) (fun hn => by rw [hn] at hu; cases hu)
            obtain ⟨v1, r1, r2⟩ := c4 _ t hty
            obtain ⟨u1, u2, u3⟩ := tb_jt_in hu ht
            have hv1 : v1 = v0 := tb_at_one n2 ⟨j, e, c2, r1⟩ hv0
            subst hv1
            have hql : q.1 < G.length := by
              rw [sa_iv_eq] at hb
              split at hb
              · rename_i b' hb'
                exact (List.getElem?_eq_some_iff.mp hb').1
              · cases hb
            -- the type, cut by rules
            have key : ∃ t' : tb_t, tb_vt (tb_al E) t' v1 ∧ t'.1 = (tb_lt Z rs cs G κ b u).1 ∧ (tb_lt Z rs cs G κ b u).2.1 ≤ t'.2.1 ∧ t'.2.2 ≤ (tb_lt Z rs cs G κ b u).2.2 := by
              unfold tb_lt
              split
              · rename_i hh
                obtain ⟨h1, h2, h3, h4⟩ := hh
                obtain ⟨tt, tl, th⟩ := t
                dsimp only at u1 u2 u3
                rw [u1, h1] at r2
                cases v1 with
                | int x =>
                  have r2 : tl ≤ x.toInt ∧ x.toInt ≤ th := r2
                  have hi : (tb_ix V q).toNat = b.1.toNat := by omega
                  have hr9 := tb_rf_ok (Z := Z) (F := cs.1) (sus := cs.2.1) (G := G) (κ := κ) (i := b.1.toNat) (x := x) hz hI hX n2 n5 (by rw [← hz]; exact n6) h4 hj (by rw [← hi]; exact hv0) rs u.2 ⟨by omega, by omega⟩
                  exact ⟨(0, tb_rf Z cs.1 cs.2.1 G κ b.1.toNat rs u.2), hr9, rfl, Int.le_refl _, Int.le_refl _⟩
                | _ => exact r2.elim
              · exact ⟨t, r2, u1, u2, u3⟩
            obtain ⟨t', k1, k2, k3, k4⟩ := key
            generalize tb_lt Z rs cs G κ b u = u9 at k2 k3 k4
            obtain ⟨x, x1, x2, x3, x4⟩ := tb_slot_new k1 k2 k3 k4
            obtain ⟨⟨g1, g2, g3, g4, g5⟩, g6⟩ := tb_G_upd (x := x) (b := tb_bn u9) hG hw ⟨x2, x3⟩ x1
            have hwc : tb_wfc G.length cs = true := by
              simp only [tb_wf_old, Bool.and_eq_true] at hw
              exact hw.2
            simp only [tb_wfc, Bool.and_eq_true, List.all_eq_true] at hwc
            refine ⟨sa_upd V G.length x, ⟨g1, g2, ⟨w, n1, n2, n3, n4, fun f hf => ?_, n6, fun l hl => (tb_lo_upd (hwc.2 l hl)).mpr (n7 l hl)⟩, g4, g5⟩, x4 V _, g6, fun i hi => sa_upd_ne hi, rfl⟩
            rcases List.mem_append.mp hf with hf | hf
            · exact (tb_fa_upd (hwc.1 f hf)).mpr (n5 f hf)
            · rw [List.mem_singleton.mp hf]
              unfold tb_fa tb_ix sa_ad
              dsimp only
              rw [sa_upd_ne hkl, sa_upd_ne hql, x4 V G.length]
              exact ⟨hq0, hv0⟩
          · cases h
        · cases h
      · cases h
    · cases h
/-- the cell that a reference is of -/
theorem tb_cell {D : va_G} {dA : Nat → ClassId} {A : Nat → Prop} {cl : List vw_C} {E : tb_E} {V : sa_V} {cs : tb_c} {G : sa_B} {H : Heap} {w : va_W} {Z : tb_Z} {k κ : Nat} {kd : tb_kd} (hz : tb_z E = Z) (hI : sa_I V G) (hX : tb_X E V) (hN : tb_Nw D dA A cl E V cs H w) (hκ : tb_knd G k = some κ) (hkd : Z.1[κ]? = some kd) : ∃ (j : Nat) (e : va_E), (tb_al E)[j]? = some (sa_ad V k, κ) ∧ w[j]? = some (sa_ad V k, e) ∧ tb_ck dA (tb_al E) kd e := by
  obtain ⟨⟨j, hj⟩, -⟩ := tb_knd_ok hI hX hκ
  obtain ⟨kd', e, c1, c2, c3⟩ := hN.2.2.1.2 j _ κ hj
  rw [hz, hkd] at c1
  cases c1
  exact ⟨j, e, hj, c2, c3⟩
noncomputable def to_get (Z : tb_Z) (rs : List Nat) (ci f : Nat) : tb_op := fun S => match S.2.2.1 with
  | .inr (.inl (some k)) :: rest => match tb_knd S.2.2.2.2.1 k with
    | some κ => match Z.1[κ]? with
      | some (.inl o) => if Nat.beq o.1 ci = true ∧ (tb_ge o.2 f).isSome = true ∧ tb_wf S.2.2.2.2.1.length S.2.1 rest S.2.2.2.1 = true then match tb_load Z rs S.2.2.2.1 S.2.2.2.2.1 k (0, (f : Int)) with
        | some r => some [(S.1 + 3, S.2.1, r.1 :: rest, r.2.1, r.2.2, S.2.2.2.2.2)]
        | none => none
        else none
      | _ => none
    | none => none
  | _ => none
theorem tn_get {p : Program} {l : Launch} {e : Env} {R : Room} {s : State} {m : MethodId} {args : Array Value} {below : List Frame} {meth : Method} {c : Code} {Q : State → Prop} {D : va_G} {dA : Nat → ClassId} {A : Nat → Prop} {nL : Nat} {cl : List vw_C} {n0 : Nat} {V0 : sa_V} {E : tb_E} {Ts : List Cond} {cc : ByteArray} {own : String} (C0 : sa_C p s m args c D dA A nL cl Ts cc own) {Z : tb_Z} (hz : tb_z E = Z) (hcv : Z.1.all tb_cv = true) {pc : Nat} {ci f N idx : Nat} {C : String} {T : u_T} {ty : Nat → FieldType} {rs : List Nat} (hc : sa_cls cl Ts ci C T N ty) (hd : decode cc pc = .ok (.getfield idx, 3)) (hf : f < N) (hl : Cond.fieldLink own idx (T f).1 (T f).2.1 (T f).2.2.1 ∈ Ts) : tb_snd p l e R s m args below meth c Q D dA A nL cl n0 V0 E pc (to_get Z rs ci f) := by
  obtain ⟨hx, hb, hts, hown, hml, hK, hA⟩ := C0
  rintro ⟨pc, lo, st, cs, G, kc, ks⟩ sts rfl h k V H locs ls hG
  unfold to_get at h
  dsimp only at h
  split at h
  · rename_i k9 rest
    split at h
    · rename_i κ hκ
      split at h
      · rename_i o ho
        split at h
        · rename_i hh
          obtain ⟨h1, h2, h3⟩ := hh
          have h1 := Nat.eq_of_beq_eq_true h1
          have h2 : f < o.2.length := by
            obtain ⟨t9, ht9⟩ := Option.isSome_iff_exists.mp h2
            rw [tb_ge_eq] at ht9
            exact (List.getElem?_eq_some_iff.mp ht9).1
          split at h
          · rename_i r hr
            cases h
            obtain ⟨w, hN⟩ := hG.2.2.1
            have hN : tb_Nw D dA A cl E V cs H w := hN
            obtain ⟨j, e9, j1, j2, ⟨fs, rfl, j4⟩, j5⟩ := tb_cell hz hG.1.1 hG.2.2.2.1 hN hκ ho
            obtain ⟨v0, hv0⟩ : ∃ v0, fs[f]? = some v0 := ⟨_, List.getElem?_eq_getElem (by rw [j4]; exact h2)⟩
            have ix : tb_ix V (0, (f : Int)) = (f : Int) := by unfold tb_ix; rw [hG.1.1.2]; omega
            obtain ⟨V', g1, g2, g3, -, -⟩ := tb_load_ok hz hcv hG h3 hN (show _ = some (r.1, r.2.1, r.2.2) from hr) (by rw [ix]; omega) (v0 := v0) (by rw [ix]; exact ⟨j, _, j2, hv0⟩)
            subst h1
            refine va_get (D := D) (v := v0) hx hb hts hc.2.1 hown hK hN.1 j j2 hc.1 f hf (hts _ hl) (fun _ h9 => h9) hv0 hd ?_
            have h9 := k _ List.mem_cons_self V' H locs ls g1
            dsimp only at h9
            rw [List.map_cons, g2, g3] at h9
            exact h9
          · cases h
        · cases h
      · cases h
    · cases h
  · cases h
end TY3
