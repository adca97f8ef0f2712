section TYK
/-! keywords and texts in the typed machine -/
theorem tb_Xs.ou {i : Nat} {V : sa_V} {A : Nat → Prop} {s : State} (h : tb_Xs i V A s) : tb_Ou A s s.heap := by
  obtain ⟨h1, tk, adK, adV, h2, -⟩ := h
  exact ⟨h1, tk, adK, adV, h2⟩
theorem tb_ldcwS {p : Program} {l : Launch} {e : Env} {R : Room} {s : State} {m : MethodId} {args : Array Value} {below : List Frame} {meth : Method} {c : Code} {H : Heap} {locs : List Loc} {cells slots : Nat} {Q : State → Prop} {cc : ByteArray} {pc : Nat} {ls : Array Slot} {rest : List Value} (hexec : p.tables.exec = Jvm.exec) (hb : c.code = cc) {own tx : String} {index q : Nat} (hown : s.vm.findClass own = some m.cls) (hZ : vk_R own index tx q s) (hdg : decode cc pc = .ok (.ldc_w index, 3))
    (k : W p l e R s m args below meth c H locs cells slots Q (F0 m (pc + 3) ls (.ref q :: rest))) : W p l e R s m args below meth c H locs cells slots Q (F0 m pc ls rest) := by
  intro T hT X
  obtain ⟨t, a1, b1⟩ := k T hT X
  refine ⟨t, ?_, b1⟩
  obtain ⟨k9, cf, i, a', hk, hcf, hcp, -, hr, hev'⟩ := Cond.stringRef_spec (args := #[]) hown hZ.1
  cases hZ.2.symm.trans hev'
  obtain ⟨k', hk', he⟩ := X.warmed.alike.2.2 _ _ hk
  have hr' : k'.resolved[index]? = some (some (.string q)) := by
    rcases X.warmed.entry hk hk' index with h | ⟨h, -⟩
    · rw [h]; exact hr
    · rw [hr] at h; cases h
  jvm_step X.here [hexec, hb, hdg, ldc_w.wp_string (e := e) (s := T) (f := F0 m pc ls rest) X.here.top hk' (by rw [he]; exact hcf) hcp hr']
  exact a1
noncomputable def to_kwl : tb_op := fun S => some [(S.1 + 4, S.2.1, .inl (0, 20) :: S.2.2.1, S.2.2.2)]
theorem tn_kwl {p : Program} {l : Launch} {e : Env} {R : Room} {s : State} {m : MethodId} {args : Array Value} {below : List Frame} {meth : Method} {c : Code} {Q : State → Prop} {D : va_G} {dA : Nat → ClassId} {A : Nat → Prop} {nL : Nat} {cl : List vw_C} {n0 : Nat} {V0 : sa_V} {E : tb_E} {Ts : List Cond} {cc : ByteArray} (C0 : sa_C p s m args c D dA A nL cl Ts cc "OffThenOn$Reader") (hO : tb_Ou A s s.heap) {pc : Nat} (hd : decode cc pc = .ok (.getstatic 79, 3)) (hd2 : decode cc (pc + 3) = .ok (.arraylength, 1)) : tb_snd p l e R s m args below meth c Q D dA A nL cl n0 V0 E pc to_kwl := by
  obtain ⟨hx, hb, hts, hown, hml, hK, hA⟩ := C0
  obtain ⟨-, tk, adK, adV, o1, ⟨f, o2, -⟩, -, -, -, o6, -⟩ := hO
  rintro ⟨pc, lo, st, cs, G, kc, ks⟩ sts rfl h k V H locs ls hG
  unfold to_kwl at h
  cases h
  refine va_getsN (C := "OffThenOn") (host := "OffThenOn") (ref := "OffThenOn") (own := "OffThenOn$Reader") hx hb o1 hG.2.2.2.2 hown (va_Nw.use rfl o6) (fun _ h => h) hd ?_
  refine va_tlen (v := 20) hx hb o2 hG.2.2.2.2 rfl hd2 ?_
  have h9 := k _ List.mem_cons_self V H locs ls hG
  have e9 : sa_val V (.inl (0, 20)) = .int 20 := by
    show Value.int (sa_i V _) = _
    rw [sa_i_0 hG.1.1]
    rfl
  dsimp only at h9
  rw [List.map_cons, e9] at h9
  exact h9
noncomputable def to_kwa (i : Nat) : tb_op := fun S => match sa_look i S.2.1 with
  | some (.inl q) => match sa_iv S.2.2.2.2.1 q with
    | some b => if 0 ≤ b.1 ∧ b.2 < 20 then tb_pushl (S.1 + 5) S.2.1 S.2.2.1 S.2.2.2.1 S.2.2.2.2.1 S.2.2.2.2.2.1 S.2.2.2.2.2.2 tb_ltop else none
    | none => none
  | _ => none
theorem tn_kwa {p : Program} {l : Launch} {e : Env} {R : Room} {s : State} {m : MethodId} {args : Array Value} {below : List Frame} {meth : Method} {c : Code} {Q : State → Prop} {D : va_G} {dA : Nat → ClassId} {A : Nat → Prop} {nL : Nat} {cl : List vw_C} {n0 : Nat} {V0 : sa_V} {E : tb_E} {Ts : List Cond} {cc : ByteArray} (C0 : sa_C p s m args c D dA A nL cl Ts cc "OffThenOn$Reader") (hO : tb_Ou A s s.heap) {pc : Nat} {i : Fin 4} (hd : decode cc pc = .ok (.getstatic 79, 3)) (hd2 : decode cc (pc + 3) = .ok (.iload_n i, 1)) (hd3 : decode cc (pc + 3 + 1) = .ok (.laload, 1)) : tb_snd p l e R s m args below meth c Q D dA A nL cl n0 V0 E pc (to_kwa i) := by
  obtain ⟨hx, hb, hts, hown, hml, hK, hA⟩ := C0
  obtain ⟨-, tk, adK, adV, o1, ⟨f, o2, -⟩, -, -, -, o6, -⟩ := hO
  rintro ⟨pc, lo, st, cs, G, kc, ks⟩ sts rfl h k V H locs ls hG
  unfold to_kwa at h
  dsimp only at h
  split at h
  · rename_i q hq
    split at h
    · rename_i b hb9
      split at h
      · rename_i hh
        obtain ⟨e1, l1, u1⟩ := sa_iv_ok hG.1.1 hb9
        refine va_getsN (C := "OffThenOn") (host := "OffThenOn") (ref := "OffThenOn") (own := "OffThenOn$Reader") hx hb o1 hG.2.2.2.2 hown (va_Nw.use rfl o6) (fun _ h => h) hd ?_
        refine lv_iload_n hx hb hd2 rfl (sa_look_at hG.2.1 hq) ?_
        refine va_tl (v := .long (f (sa_i V q).toNatClampNeg)) hx hb o2 hG.2.2.2.2 (vp_in_iff.mpr ⟨by omega, by show _ < ((20 : Nat) : Int); omega⟩) rfl hd3 ?_
        exact tb_pushl_ok hG (tb_ltop_ok _) h k
      · cases h
    · cases h
  · cases h
noncomputable def to_slen (n : Nat) : tb_op := fun S => match S.2.2.1 with
  | .inr (.inl (some 2)) :: rest => if S.2.2.2.2.2.1 ≤ 0 ∧ S.2.2.2.2.2.2 ≤ 0 ∧ (rest.map sa_cat).sum ≤ 8 then some [(S.1 + 3, S.2.1, .inl (0, (n : Int)) :: rest, S.2.2.2)] else none
  | _ => none
theorem tn_slen {p : Program} {l : Launch} {e : Env} {R : Room} {s : State} {m : MethodId} {args : Array Value} {below : List Frame} {meth : Method} {c : Code} {Q : State → Prop} {D : va_G} {dA : Nat → ClassId} {A : Nat → Prop} {nL : Nat} {cl : List vw_C} {n0 : Nat} {V0 : sa_V} {E : tb_E} {cc : ByteArray} {own : String} (C0 : sa_C p s m args c D dA A nL cl sa_Ts cc own) {i pc idx : Nat} {VE : sa_V} (hi : i < 6) (hX : tb_Xs i VE A s) (hn : 3 ≤ n0) (hV : ∀ k, k < 3 → V0 k = VE k) (hd : decode cc pc = .ok (.invokevirtual idx, 3)) (w1 : Cond.methodLink own idx yS_len ∈ sa_Ts) (hR : 2 ≤ R.frames ∧ 40 ≤ R.locals) : tb_snd p l e R s m args below meth c Q D dA A nL cl n0 V0 E pc (to_slen (tb_len.getD i 0)) := by
  obtain ⟨hx, hb, hts, hown, hml, hK, hA⟩ := C0
  obtain ⟨-, tk, adK, adV, o, o9⟩ := hX
  rintro ⟨pc, lo, st, cs, G, kc, ks⟩ sts rfl h k V H locs ls hG
  unfold to_slen at h
  dsimp only at h
  split at h
  · rename_i rest
    split at h
    · rename_i hh
      obtain ⟨c1, c2, c3⟩ := hh
      cases h
      have ha : sa_ad V 2 = adK i := by
        show (V 2).2.2.2 = _
        rw [hG.1.2.2 2 (by omega), hV 2 (by decide)]
        exact o9
      show W p l e R s m args below meth c H locs kc ks Q (F0 m pc ls (.ref (sa_ad V 2) :: rest.map (sa_val V)))
      rw [ha]
      refine tb_JV (av := []) (n := 0) (own := own) hx hb hml hown hts hG.2.1.1 (j_len (l := l) (tk := tk) (adK := adK) (adV := adV) (A := A) hi) tb_bO_bl (fun U h8 h9 => tb_okO.call o hG.2.2.2.2 (fun _ h => h) h8 h9) tv_883 hd w1 tv_881 tv_882 tv_21 (vk_recv o.2.2.1 hi hG.2.2.2.2) yb_len rfl ⟨hR.1, hR.2⟩ (by rw [sa_sum]; exact c3) (Nat.le_trans c1 (Nat.zero_le _)) (Nat.le_trans c2 (Nat.zero_le _)) (fun v hv => ?_)
      subst hv
      have h9 := k _ List.mem_cons_self V H locs ls hG
      have e9 : sa_val V (.inl (0, ((tb_len.getD i 0 : Nat) : Int))) = .int (Int32.ofNat (tb_len.getD i 0)) := by
        show Value.int (sa_i V _) = _
        rw [sa_i_0 hG.1.1, Int32.ofInt_eq_ofNat]
      dsimp only at h9
      rw [List.map_cons, e9] at h9
      exact h9
    · cases h
  · cases h
noncomputable def to_sch (n : Nat) : tb_op := fun S => match S.2.2.1 with
  | .inl x :: .inr (.inl (some 2)) :: rest => match sa_iv S.2.2.2.2.1 x with
    | some b => if S.2.2.2.2.2.1 ≤ 0 ∧ S.2.2.2.2.2.2 ≤ 0 ∧ (rest.map sa_cat).sum ≤ 8 ∧ 0 ≤ b.1 ∧ b.2 < (n : Int) then tb_push (S.1 + 3) S.2.1 rest S.2.2.2.1 S.2.2.2.2.1 S.2.2.2.2.2.1 S.2.2.2.2.2.2 (.inr (0, 65535)) else none
    | none => none
  | _ => none
theorem tn_sch {p : Program} {l : Launch} {e : Env} {R : Room} {s : State} {m : MethodId} {args : Array Value} {below : List Frame} {meth : Method} {c : Code} {Q : State → Prop} {D : va_G} {dA : Nat → ClassId} {A : Nat → Prop} {nL : Nat} {cl : List vw_C} {n0 : Nat} {V0 : sa_V} {E : tb_E} {cc : ByteArray} {own : String} (C0 : sa_C p s m args c D dA A nL cl sa_Ts cc own) {i pc idx : Nat} {VE : sa_V} (hi : i < 6) (hX : tb_Xs i VE A s) (hn : 3 ≤ n0) (hV : ∀ k, k < 3 → V0 k = VE k) (hd : decode cc pc = .ok (.invokevirtual idx, 3)) (w1 : Cond.methodLink own idx yS_cha ∈ sa_Ts) (hR : 4 ≤ R.frames ∧ 111 ≤ R.locals) : tb_snd p l e R s m args below meth c Q D dA A nL cl n0 V0 E pc (to_sch (tb_len.getD i 0)) := by
  obtain ⟨hx, hb, hts, hown, hml, hK, hA⟩ := C0
  obtain ⟨-, tk, adK, adV, o, o9⟩ := hX
  rintro ⟨pc, lo, st, cs, G, kc, ks⟩ sts rfl h k V H locs ls hG
  unfold to_sch at h
  dsimp only at h
  split at h
  · rename_i x rest
    split at h
    · rename_i b hb9
      split at h
      · rename_i hh
        obtain ⟨c1, c2, c3, c4, c5⟩ := hh
        obtain ⟨e1, l1, u1⟩ := sa_iv_ok hG.1.1 hb9
        have ha : sa_ad V 2 = adK i := by
          show (V 2).2.2.2 = _
          rw [hG.1.2.2 2 (by omega), hV 2 (by decide)]
          exact o9
        show W p l e R s m args below meth c H locs kc ks Q (F0 m pc ls (.int (sa_i V x) :: .ref (sa_ad V 2) :: rest.map (sa_val V)))
        rw [ha]
        refine tb_JV (av := [.int (sa_i V x)]) (n := 1) (own := own) hx hb hml hown hts hG.2.1.1 (j_cha (l := l) (tk := tk) (adK := adK) (adV := adV) (A := A) hi (by omega) (by omega)) tb_bO_bl (fun U h8 h9 => tb_okO.call o hG.2.2.2.2 (fun _ h => h) h8 h9) tv_893 hd w1 tv_891 tv_892 tv_21 (vk_recv o.2.2.1 hi hG.2.2.2.2) yb_cha rfl ⟨hR.1, hR.2⟩ (by rw [sa_sum]; exact c3) (Nat.le_trans c1 (Nat.zero_le _)) (Nat.le_trans c2 (Nat.zero_le _)) (fun v hv => ?_)
        obtain ⟨c9, rfl, -, q3, q4⟩ := hv
        exact tb_push_ok hG (r := .inr (0, 65535)) (show (0 : Int) ≤ c9.toInt ∧ c9.toInt ≤ 65535 from ⟨q3, q4⟩) h k
      · cases h
    · cases h
  · cases h
noncomputable def to_addT (Z : tb_Z) (mod : List (Nat × Nat × Nat)) (pcI : Nat) (grd : tb_S → Bool) (Ks : List tb_K) : tb_op := fun S => if tb_wf S.2.2.2.2.1.length S.2.1 S.2.2.1 S.2.2.2.1 = true then to_cs Z mod grd Ks (pcI, S.2.1, .inr (.inl (some S.2.2.2.2.1.length)) :: S.2.2.1, S.2.2.2.1, S.2.2.2.2.1 ++ [(0, 0)], S.2.2.2.2.2) else none
theorem tn_addT {p : Program} {l : Launch} {e : Env} {R : Room} {s : State} {m : MethodId} {args : Array Value} {below : List Frame} {meth : Method} {c : Code} {Q : State → Prop} {D : va_G} {dA : Nat → ClassId} {A : Nat → Prop} {nL : Nat} {cl : List vw_C} {n0 : Nat} {V0 : sa_V} {E : tb_E} {cc : ByteArray} {own : String} (C0 : sa_C p s m args c D dA A nL cl sa_Ts cc own) {Z : tb_Z} {mod : List (Nat × Nat × Nat)} (hz : tb_z E = Z) (hcv : Z.1.all tb_cv = true) (hm : tb_mod E = mod) {pc pcI i ixS : Nat} {Ks : List tb_K} {y : MethodName} {cy : ByteArray} {mL fr lc idx maxC maxS : Nat} {ret : Option FieldType} {ci N : Nat} {T : u_T} (hU : sa_U D cl dA s) (hO : tb_Ou A s s.heap) (hi : i < 6) (how : own = "OffThenOn") (hix : tb_lix.getD i 0 = ixS)
    (hM : ∀ K ∈ Ks, tb_MetX l cl sa_Ts Z (tb_Xs i) y cy mL ret fr lc K) (hK2 : ∀ K ∈ Ks, K.1 = [.inr (.inl (some 1)), .inr (.inl (some 2))]) (hcode : Cond.code y cy mL ret ∈ sa_Ts) (hdl : decode cc pc = .ok (.ldc_w ixS, 3)) (hgo : pcI = pc + 3 ∨ ∃ off : Int, decode cc (pc + 3) = .ok (.goto off, 3) ∧ ((pc + 3 : Nat) : Int) + off = (pcI : Int)) (hd : decode cc pcI = .ok (.invokevirtual idx, 3)) (w1 : Cond.methodLink own idx y ∈ sa_Ts) (w2 : Cond.instanceMethod y ∈ sa_Ts) (w3 : Cond.selects y.cls y y ∈ sa_Ts) (w4 : Cond.initialized y.cls ∈ sa_Ts) (hcl : cl[ci]? = some (y.cls, T, N)) (hy : sa_arg y 1) (hR : fr + 1 ≤ R.frames ∧ 8 + (mL + 11) + lc ≤ R.locals) (hC : maxC ≤ R.cells) (hS0 : maxS ≤ R.slots) : tb_snd p l e R s m args below meth c Q D dA A nL cl n0 V0 E pc (to_addT Z mod pcI (tb_gV Z ci 2 maxC maxS) Ks) := by
  obtain ⟨hx, hb, hts, hown, hml, hK, hA⟩ := C0
  obtain ⟨z1, tk, adK, adV, o⟩ := hO
  rintro ⟨pc, lo, st, cs, G, kc, ks⟩ sts rfl h k V H locs ls hG
  unfold to_addT at h
  dsimp only at h
  split at h
  · rename_i hw
    obtain ⟨g1, g2⟩ := tb_G_upd (x := (0, Int64.ofInt 0, fun _ => 0, adK i)) (b := (0, 0)) hG hw ⟨Int.le_refl _, Int.le_refl _⟩ ⟨rfl, fun h => absurd (show (1180591620717411303424 : Int) ≤ 0 from h) (by decide)⟩
    have e1 : (Sum.inr (Sum.inl (some G.length)) :: st : List sa_v).map (sa_val (sa_upd V G.length (0, Int64.ofInt 0, fun _ => 0, adK i))) = Value.ref (adK i) :: st.map (sa_val V) := by
      rw [List.map_cons, g2]
      congr 1
      show Value.ref (sa_ad _ _) = _
      unfold sa_ad
      rw [sa_upd_eq]
    have key : W p l e R s m args below meth c H locs kc ks Q (F0 m pcI ls (.ref (adK i) :: st.map (sa_val V))) := by
      rw [← e1]
      refine tb_calls_ok (a := #[]) hz hcv hm hA h k g1 (fun K x V2 hKm hgr hG2 hsv As rest V1 w hst hargs hAl hI1 hX1 hsum hP0 hNw hF => ?_)
      have hk2 := hK2 K hKm
      rw [hk2] at hAl
      obtain ⟨a1, a2, rfl⟩ : ∃ a1 a2 : sa_v, As = [a1, a2] := by
        match As, hAl with
        | [a1, a2], _ => exact ⟨a1, a2, rfl⟩
      have hst : (Sum.inr (Sum.inl (some G.length)) :: st : List sa_v) = a2 :: a1 :: rest := hst
      obtain ⟨s1, s2⟩ := List.cons.inj hst
      have hadd : sa_ad V1 2 = adK i := by
        rw [hk2] at hargs
        have q1 : [sa_val V2 a1, sa_val V2 a2] = [sa_val V1 (.inr (.inl (some 1))), sa_val V1 (.inr (.inl (some 2)))] := hargs
        have q2 : sa_val V2 a2 = Value.ref (sa_ad V1 2) := (List.cons.inj (List.cons.inj q1).2).1
        have q3 := hsv.trans e1
        rw [List.map_cons, s1] at q3
        have q4 := (List.cons.inj q3).1
        rw [q2] at q4
        exact Value.ref.inj q4
      unfold tb_gV at hgr
      rw [Bool.and_eq_true, Bool.and_eq_true] at hgr
      obtain ⟨⟨r1, r2⟩, hgr⟩ := hgr
      have r1 : kc ≤ maxC := of_decide_eq_true r1
      have r2 : ks ≤ maxS := of_decide_eq_true r2
      dsimp only at hgr
      split at hgr
      · rename_i b As0 heq
        split at hgr
        · rename_i κ hκ
          split at hgr
          · rename_i o9 ho
            have ho1 : o9.1 = ci := of_decide_eq_true hgr
            have e5 : [a1, a2] = .inr (.inl (some b)) :: As0 := by
              rw [hst] at heq
              exact heq
            obtain ⟨e6, e7⟩ := List.cons.inj e5
            subst e6 e7
            obtain ⟨j, e9, j1, j2, ⟨fs, rfl, j4⟩, j5⟩ := tb_cell hz hG2.1.1 hG2.2.2.2.1 hNw hκ ho
            rw [ho1] at j2
            have rv := va_recv (D := D) hK hNw.1 hcl j2
            exact va_runV (C := y.cls) (bytes := cy) (maxL := mL) (ret := ret) (b := sa_ad V2 b) (As := [sa_val V2 a2]) (n := 1) ⟨hx, hb, hml, hown, hts⟩ (hM K hKm D dA H.size V1 (tb_al E, w, K.2.2.2.2.2, tb_z E) hI1 hX1 hz rfl) (cwV 1 hts (sa_goodV sa_Tg hcode (by intro u hu; simp only [List.mem_cons, List.not_mem_nil, or_false] at hu; rcases hu with rfl | rfl | rfl | rfl <;> assumption)) rfl rfl rfl ⟨rfl, hy⟩ hR) ⟨tb_blind (tb_Xs_bl i), rv, tb_preP hU hargs hP0 (fun U hUH hW => ⟨sa_ZZ.call z1 hG2.2.2.2.2 hF hUH hW, tk, adK, adV, tb_okO.call o hG2.2.2.2.2 hF hUH hW, hadd⟩)⟩ rfl rfl hG2.2.1.1 (by show List.map (sa_val V2) _ = _; rw [hst]; rfl) (lv_room hsum) hd ⟨Nat.le_trans r1 hC, Nat.le_trans r2 hS0⟩
          · cases hgr
        · cases hgr
      · cases hgr
    have hR9 := o.2.2.2.2.1 i hi
    rw [hix, ← how] at hR9
    refine tb_ldcwS hx hb hown hR9 hdl ?_
    rcases hgo with h9 | ⟨off, d9, e9⟩
    · rw [← h9]; exact key
    · exact lv_goto hx hb d9 e9 key
  · cases h
end TYK
