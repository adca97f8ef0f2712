section TYB
theorem tb_load_sil {D : va_G} {dA : Nat → ClassId} {A : Nat → Prop} {nL : Nat} {cl : List vw_C} {n0 : Nat} {V0 : sa_V} {E : tb_E} {H0 : Heap} {V : sa_V} {lo : sa_L} {st : List sa_v} {cs : tb_c} {G : sa_B} {H : Heap} {locs : List Loc} {ls : Array Slot} {Z : tb_Z} {rs : List Nat} {k : Nat} {q : Nat × Int} {v : sa_v} {cs' : tb_c} {G' : sa_B}
    (hz : tb_z E = Z) (hcv : Z.1.all tb_cv = true) (hG : tb_G D dA A nL cl n0 V0 E H0 V lo cs G H locs ls) (hw : tb_wf G.length lo st cs = true) (h : tb_load Z rs cs G k q = some (v, cs', G')) : ∃ V' : sa_V, tb_G D dA A nL cl n0 V0 E H0 V' lo cs' G' H locs ls ∧ st.map (sa_val V') = st.map (sa_val V) := by
  obtain ⟨w, hN⟩ := hG.2.2.1
  have hN : tb_Nw D dA A cl E V cs H w := hN
  have hI := hG.1.1
  have hX := hG.2.2.2.1
  have key : ∃ v0, 0 ≤ tb_ix V q ∧ tb_at w (sa_ad V k) (tb_ix V q).toNat v0 := by
    have h2 := h
    unfold tb_load at h2
    split at h2
    · rename_i v1 hv1
      obtain ⟨⟨g1, g2⟩, -⟩ := tb_fact_ok hz hI hX hN.2.2.2.2.1 hv1
      exact ⟨_, g1, g2⟩
    · split at h2
      · rename_i κ b hκ hb
        split at h2
        · rename_i kd hkd
          split at h2
          · rename_i hb0
            have hb0 := tb_ile_ok hb0
            split at h2
            · rename_i u hu
              obtain ⟨q1, q2, -⟩ := tb_iv_ix hI hb
              obtain ⟨j, e, j1, j2, j3⟩ := tb_cell hz hI hX hN hκ hkd
              obtain ⟨t, ht, hty⟩ := tb_tys_in (k := kd) (a := b.1.toNat) (b := b.2.toNat) (i := (tb_ix V q).toNat) (by omega) (by omega) (List.all_eq_true.mp hcv kd (List.mem_of_getElem? hkd)) (fun hn => by rw [hn] at hu; cases hu)
              obtain ⟨v1, r1, -⟩ := j3.2 _ t hty
              exact ⟨v1, by omega, j, e, j2, r1⟩
            · cases h2
          · cases h2
        · cases h2
      · cases h2
  obtain ⟨v0, k1, k2⟩ := key
  obtain ⟨V', g1, -, g3, -, -⟩ := tb_load_ok hz hcv hG hw hN h k1 k2
  exact ⟨V', g1, g3⟩
/-- what the other asks for and isn't known yet, is looked at -/
noncomputable def tb_gh (Z : tb_Z) (lo : sa_L) (st tv uv : List sa_v) : List tb_f → List tb_f → tb_c × sa_B → Option (tb_c × sa_B)
  | [], _, x => some x
  | f :: l, dn, x => if tb_wf x.2.length lo st x.1 = true then match tb_load Z [] x.1 x.2 (tb_sb 1 (tb_bind Z 1 tv uv dn x.1.1 x.2) f.1).1 (sa_sq (tb_sb 1 (tb_bind Z 1 tv uv dn x.1.1 x.2)) f.2.1) with
    | some y => tb_gh Z lo st tv uv l (dn ++ [f]) y.2
    | none => none
    else none
theorem tb_gh_ok {D : va_G} {dA : Nat → ClassId} {A : Nat → Prop} {nL : Nat} {cl : List vw_C} {n0 : Nat} {V0 : sa_V} {E : tb_E} {H0 : Heap} {lo : sa_L} {st tv uv : List sa_v} {H : Heap} {locs : List Loc} {ls : Array Slot} {Z : tb_Z} (hz : tb_z E = Z) (hcv : Z.1.all tb_cv = true) : ∀ (l dn : List tb_f) (x y : tb_c × sa_B) (V : sa_V), tb_G D dA A nL cl n0 V0 E H0 V lo x.1 x.2 H locs ls → tb_gh Z lo st tv uv l dn x = some y → ∃ V' : sa_V, tb_G D dA A nL cl n0 V0 E H0 V' lo y.1 y.2 H locs ls ∧ st.map (sa_val V') = st.map (sa_val V)
  | [], _, x, y, V, hG, h => by cases h; exact ⟨V, hG, rfl⟩
  | f :: l, dn, x, y, V, hG, h => by
    unfold tb_gh at h
    split at h
    · rename_i hw
      split at h
      · rename_i z hl
        obtain ⟨V1, g1, g2⟩ := tb_load_sil hz hcv hG hw (show _ = some (z.1, z.2.1, z.2.2) from hl)
        obtain ⟨V2, g3, g4⟩ := tb_gh_ok hz hcv l (dn ++ [f]) z.2 y V1 g1 h
        exact ⟨V2, g3, g4.trans g2⟩
      · cases h
    · cases h
noncomputable def to_c1 (Z : tb_Z) (mod : List (Nat × Nat × Nat)) (grd : tb_S → Bool) (K : tb_K) : tb_op := fun S => match tb_gh Z S.2.1 S.2.2.1 K.1 (S.2.2.1.take K.1.length).reverse K.2.1 [] (S.2.2.2.1, S.2.2.2.2.1) with
  | some x => match grd (S.1, S.2.1, S.2.2.1, x.1, x.2, S.2.2.2.2.2) with
    | true => tb_nrm (S.1, S.2.1, S.2.2.1, x.1, x.2, S.2.2.2.2.2) (tb_c0 Z mod K)
    | false => none
  | none => none
noncomputable def to_cs (Z : tb_Z) (mod : List (Nat × Nat × Nat)) (grd : tb_S → Bool) : List tb_K → tb_op
  | [] => fun _ => none
  | K :: l => fun S => match to_c1 Z mod grd K S with
    | some r => some r
    | none => to_cs Z mod grd l S
theorem tb_pick {Z : tb_Z} {mod : List (Nat × Nat × Nat)} {grd : tb_S → Bool} {S : tb_S} {sts : List tb_S} : ∀ {Ks : List tb_K}, to_cs Z mod grd Ks S = some sts → ∃ K ∈ Ks, to_c1 Z mod grd K S = some sts
  | [], h => by cases h
  | K :: l, h => by
    unfold to_cs at h
    split at h
    · rename_i r hr
      cases h
      exact ⟨K, List.mem_cons_self, hr⟩
    · obtain ⟨K', h1, h2⟩ := tb_pick h
      exact ⟨K', List.mem_cons_of_mem _ h1, h2⟩
/-- a call of one of some contracts -/
theorem tb_calls_ok {p : Program} {l : Launch} {e : Env} {R : Room} {s : State} {m : MethodId} {args : Array Value} {below : List Frame} {meth : Method} {c : Code} {Q : State → Prop} {D : va_G} {dA : Nat → ClassId} {A : Nat → Prop} {nL : Nat} {cl : List vw_C} {n0 : Nat} {V0 : sa_V} {E : tb_E} {Z : tb_Z} {Ks : List tb_K} {mod : List (Nat × Nat × Nat)} {grd : tb_S → Bool} {pc : Nat} {lo : sa_L} {st : List sa_v} {cs : tb_c} {G : sa_B} {kc ks : Nat} {sts : List tb_S} {V : sa_V} {H : Heap} {locs : List Loc} {ls : Array Slot} {a : Array Value}
    (hz : tb_z E = Z) (hcv : Z.1.all tb_cv = true) (hm : tb_mod E = mod) (hA : ∀ q, s.heap.size ≤ q → A q) (h : to_cs Z mod grd Ks (pc, lo, st, cs, G, kc, ks) = some sts) (k : ∀ S' ∈ sts, tb_W p l e R s m args below meth c Q D dA A nL cl n0 V0 E S') (hG : tb_G D dA A nL cl n0 V0 E s.heap V lo cs G H locs ls)
    (vr : ∀ (K : tb_K) (x : tb_c × sa_B) (V2 : sa_V), K ∈ Ks → grd (pc, lo, st, x.1, x.2, kc, ks) = true → tb_G D dA A nL cl n0 V0 E s.heap V2 lo x.1 x.2 H locs ls → st.map (sa_val V2) = st.map (sa_val V) → ∀ (As rest : List sa_v) (V1 : sa_V) (w : va_W), st = As.reverse ++ rest → As.map (sa_val V2) = K.1.map (sa_val V1) → As.length = K.1.length → sa_I V1 K.2.2.2.1 → tb_X (tb_al E, w, K.2.2.2.2.2, tb_z E) V1 → ((rest.map (sa_val V2)).map (fun v => v.category)).sum ≤ 8 → tb_P0 D dA cl (tb_al E, w, K.2.2.2.2.2, tb_z E) V1 K H → tb_Nw D dA A cl E V2 x.1 H w → (∀ q, va_A w H.size q → A q) →
      va_Run p l e R s m args below meth c H locs kc ks 0 0 (F0 m pc ls (st.map (sa_val V2))) (rest.map (sa_val V2)) (tb_Q D dA cl H.size (tb_al E, w, K.2.2.2.2.2, tb_z E) V1 K a) (va_A w H.size)) :
    W p l e R s m args below meth c H locs kc ks Q (F0 m pc ls (st.map (sa_val V))) := by
  obtain ⟨K, hK, h1⟩ := tb_pick h
  unfold to_c1 at h1
  split at h1
  · rename_i x hx
    split at h1
    · rename_i hgrd
      rw [tb_nrm_eq] at h1
      obtain ⟨V2, g1, g2⟩ := tb_gh_ok hz hcv _ _ _ _ V hG hx
      dsimp only at g1 h1
      rw [← g2]
      subst hm
      exact tb_call_ok hz hA h1 k g1 (vr K x V2 hK hgrd g1 g2)
    · cases h1
  · cases h1
theorem tb_blind {X : tb_Xt} (hB : tb_bli X) {D : va_G} {dA : Nat → ClassId} {cl : List vw_C} {sz : Nat} {E : tb_E} {V : sa_V} {K : tb_K} : FrameBlind (tb_P X D dA cl sz E V K) := by
  intro a U g mk q
  obtain ⟨q0, q1, qP, qU, qX⟩ := q
  exact ⟨q0, q1, qP, sa_U.same (u := U) (U := U.calling g mk a) rfl qU, hB _ _ U (U.calling g mk a) rfl rfl qX⟩
theorem tb_preP {X : tb_Xt} {D : va_G} {dA : Nat → ClassId} {cl : List vw_C} {E : tb_E} {V1 : sa_V} {K : tb_K} {s : State} {H : Heap} {vs : List Value} (hU : sa_U D cl dA s) (hv : vs = K.1.map (sa_val V1)) (hP : tb_P0 D dA cl E V1 K H) (hX : ∀ U : State, U.heap = H → s.WarmedH U.vm → X V1 (va_A (tb_w0 E) H.size) U) : ∀ U : State, U.heap = H → s.WarmedH U.vm → tb_P X D dA cl H.size E V1 K vs.toArray U :=
  fun U hUH hW => ⟨by rw [hv], by rw [hUH], by rw [hUH]; exact hP, sa_U.warm hW hU, hX U hUH hW⟩
noncomputable def tb_gS (maxC maxS : Nat) : tb_S → Bool := fun S => decide (S.2.2.2.2.2.1 ≤ maxC) && decide (S.2.2.2.2.2.2 ≤ maxS)
noncomputable def tb_gV (Z : tb_Z) (ci n maxC maxS : Nat) : tb_S → Bool := fun S => (decide (S.2.2.2.2.2.1 ≤ maxC) && decide (S.2.2.2.2.2.2 ≤ maxS)) && match (S.2.2.1.take n).reverse with
  | .inr (.inl (some k)) :: _ => match tb_knd S.2.2.2.2.1 k with
    | some κ => match Z.1[κ]? with
      | some (.inl o) => decide (o.1 = ci)
      | _ => false
    | none => false
  | _ => false
theorem tn_callS {p : Program} {l : Launch} {e : Env} {R : Room} {s : State} {m : MethodId} {args : Array Value} {below : List Frame} {meth : Method} {c : Code} {Q : State → Prop} {D : va_G} {dA : Nat → ClassId} {A : Nat → Prop} {nL : Nat} {cl : List vw_C} {n0 : Nat} {V0 : sa_V} {E : tb_E} {Ts : List Cond} {cc : ByteArray} {own : String} (C0 : sa_C p s m args c D dA A nL cl Ts cc own) {Z : tb_Z} {mod : List (Nat × Nat × Nat)} (hz : tb_z E = Z) (hcv : Z.1.all tb_cv = true) (hm : tb_mod E = mod) {pc : Nat} {Ks : List tb_K} {y : MethodName} {cy : ByteArray} {mL fr lc idx n maxC maxS : Nat} {ret : Option FieldType} (hU : sa_U D cl dA s) (hO : tb_Ou A s s.heap) (hg : ∀ w ∈ Ts, goodWord w = true) (hM : ∀ K ∈ Ks, tb_Met l cl Ts Z y cy mL ret fr lc K) (hcode : Cond.code y cy mL ret ∈ Ts) (hd : decode cc pc = .ok (.invokestatic idx, 3)) (w1 : Cond.methodLink own idx y ∈ Ts) (w2 : Cond.static y ∈ Ts) (w4 : Cond.initialized y.cls ∈ Ts) (hy : sa_arg y n) (hn : ∀ K ∈ Ks, K.1.length = n) (hR : fr + 1 ≤ R.frames ∧ 8 + (mL + 11) + lc ≤ R.locals) (hC : maxC ≤ R.cells) (hS0 : maxS ≤ R.slots) : tb_snd p l e R s m args below meth c Q D dA A nL cl n0 V0 E pc (to_cs Z mod (tb_gS maxC maxS) Ks) := by
  obtain ⟨hx, hb, hts, hown, hml, hK, hA⟩ := C0
  rintro ⟨pc, lo, st, cs, G, kc, ks⟩ sts rfl h k V H locs ls hG
  refine tb_calls_ok (a := #[]) hz hcv hm hA h k hG (fun K x V2 hKm hgr hG2 _ As rest V1 w hst hargs hAl hI1 hX1 hsum hP0 hNw hF => ?_)
  unfold tb_gS at hgr
  rw [Bool.and_eq_true] at hgr
  have r1 : kc ≤ maxC := of_decide_eq_true hgr.1
  have r2 : ks ≤ maxS := of_decide_eq_true hgr.2
  exact va_runS (bytes := cy) (maxL := mL) (ret := ret) (As := As.map (sa_val V2)) (n := n) ⟨hx, hb, hml, hown, hts⟩ (hM K hKm D dA H.size V1 (tb_al E, w, K.2.2.2.2.2, tb_z E) hI1 hX1 hz rfl) (va_cwS n hts (sa_goodV hg hcode (by intro u hu; simp only [List.mem_cons, List.not_mem_nil, or_false] at hu; rcases hu with rfl | rfl | rfl <;> assumption)) rfl rfl rfl hy hR) ⟨tb_blind tb_X0_bl, tb_preP hU hargs hP0 (fun U hUH hW => tb_Ou.call hO hG2.2.2.2.2 hF hUH hW)⟩ rfl (by rw [List.length_map, hAl, hn K hKm]) hG2.2.1.1 (by show st.map (sa_val V2) = _; rw [show st = _ from hst, List.map_append, List.map_reverse]) (lv_room hsum) hd ⟨Nat.le_trans r1 hC, Nat.le_trans r2 hS0⟩
theorem tn_callV {p : Program} {l : Launch} {e : Env} {R : Room} {s : State} {m : MethodId} {args : Array Value} {below : List Frame} {meth : Method} {c : Code} {Q : State → Prop} {D : va_G} {dA : Nat → ClassId} {A : Nat → Prop} {nL : Nat} {cl : List vw_C} {n0 : Nat} {V0 : sa_V} {E : tb_E} {Ts : List Cond} {cc : ByteArray} {own : String} (C0 : sa_C p s m args c D dA A nL cl Ts cc own) {Z : tb_Z} {mod : List (Nat × Nat × Nat)} (hz : tb_z E = Z) (hcv : Z.1.all tb_cv = true) (hm : tb_mod E = mod) {pc : Nat} {Ks : List tb_K} {y : MethodName} {cy : ByteArray} {mL fr lc idx n maxC maxS : Nat} {ret : Option FieldType} {ci N : Nat} {T : u_T} (hU : sa_U D cl dA s) (hO : tb_Ou A s s.heap) (hg : ∀ w ∈ Ts, goodWord w = true) (hM : ∀ K ∈ Ks, tb_Met l cl Ts Z y cy mL ret fr lc K) (hcode : Cond.code y cy mL ret ∈ Ts) (hd : decode cc pc = .ok (.invokevirtual idx, 3)) (w1 : Cond.methodLink own idx y ∈ Ts) (w2 : Cond.instanceMethod y ∈ Ts) (w3 : Cond.selects y.cls y y ∈ Ts) (w4 : Cond.initialized y.cls ∈ Ts) (hcl : cl[ci]? = some (y.cls, T, N)) (hy : sa_arg y n) (hn : ∀ K ∈ Ks, K.1.length = n + 1) (hR : fr + 1 ≤ R.frames ∧ 8 + (mL + 11) + lc ≤ R.locals) (hC : maxC ≤ R.cells) (hS0 : maxS ≤ R.slots) : tb_snd p l e R s m args below meth c Q D dA A nL cl n0 V0 E pc (to_cs Z mod (tb_gV Z ci (n + 1) maxC maxS) Ks) := by
  obtain ⟨hx, hb, hts, hown, hml, hK, hA⟩ := C0
  rintro ⟨pc, lo, st, cs, G, kc, ks⟩ sts rfl h k V H locs ls hG
  refine tb_calls_ok (a := #[]) hz hcv hm hA h k hG (fun K x V2 hKm hgr hG2 _ As rest V1 w hst hargs hAl hI1 hX1 hsum hP0 hNw hF => ?_)
  unfold tb_gV at hgr
  rw [Bool.and_eq_true, Bool.and_eq_true] at hgr
  obtain ⟨⟨r1, r2⟩, hgr⟩ := hgr
  have r1 : kc ≤ maxC := of_decide_eq_true r1
  have r2 : ks ≤ maxS := of_decide_eq_true r2
  dsimp only at hgr
  split at hgr
  · rename_i b As0 heq
    split at hgr
    · rename_i κ hκ
      split at hgr
      · rename_i o ho
        have ho1 : o.1 = ci := of_decide_eq_true hgr
        have e1 := (sa_take hst (hAl.trans (hn K hKm))).symm.trans heq
        subst e1
        obtain ⟨j, e9, j1, j2, ⟨fs, rfl, j4⟩, j5⟩ := tb_cell hz hG2.1.1 hG2.2.2.2.1 hNw hκ ho
        rw [ho1] at j2
        have rv := va_recv (D := D) hK hNw.1 hcl j2
        exact va_runV (C := y.cls) (bytes := cy) (maxL := mL) (ret := ret) (b := sa_ad V2 b) (As := As0.map (sa_val V2)) (n := n) ⟨hx, hb, hml, hown, hts⟩ (hM K hKm D dA H.size V1 (tb_al E, w, K.2.2.2.2.2, tb_z E) hI1 hX1 hz rfl) (cwV n hts (sa_goodV hg hcode (by intro u hu; simp only [List.mem_cons, List.not_mem_nil, or_false] at hu; rcases hu with rfl | rfl | rfl | rfl <;> assumption)) rfl rfl rfl ⟨rfl, hy⟩ hR) ⟨tb_blind tb_X0_bl, rv, tb_preP hU hargs hP0 (fun U hUH hW => tb_Ou.call hO hG2.2.2.2.2 hF hUH hW)⟩ rfl (by rw [List.length_map]; have := hn K hKm; rw [List.length_cons] at hAl; omega) hG2.2.1.1 (by show st.map (sa_val V2) = _; rw [show st = _ from hst]; exact sa_stk) (lv_room hsum) hd ⟨Nat.le_trans r1 hC, Nat.le_trans r2 hS0⟩
      · cases hgr
    · cases hgr
  · cases hgr
end TYB
