section TYT2
/-! throws that leave something known -/
noncomputable def tb_QY (XP : List tb_p) (D : va_G) (dA : Nat → ClassId) (cl : List vw_C) (sz : Nat) (E : tb_E) (V : sa_V) : String → State → State → Prop := fun x st t => x = sa_NSE ∧ (∃ w : va_W, va_P D cl w t.heap ∧ va_D (va_A (tb_w0 E) sz) w ∧ tb_wk dA (tb_al E) (tb_z E).1 w ∧ tb_fm E w ∧ (∀ p ∈ XP, tb_in (tb_al E) w p) ∧ ∀ (i : Nat) (r : tb_ru), (tb_z E).2.2[i]? = some r → tb_rh (tb_al E) w r) ∧ va_F (va_A (tb_w0 E) sz) st t
noncomputable def tb_MetY (XP : List tb_p) (l : Launch) (cl : List vw_C) (Ts : List Cond) (Z : tb_Z) (y : MethodName) (cc : ByteArray) (maxL : Nat) (ret : Option FieldType) (fr lc : Nat) (K : tb_K) : Prop :=
  ∀ (D : va_G) (dA : Nat → ClassId) (sz : Nat) (V : sa_V) (E : tb_E), sa_I V K.2.2.2.1 → tb_X E V → tb_z E = Z → tb_mod E = K.2.2.2.2.2 → vx_Met l y (Cond.code y cc maxL ret :: Ts) { frames := fr, cells := 1, slots := 6, locals := lc } (tb_P tb_X0 D dA cl sz E V K) (tb_Q D dA cl sz E V K) (tb_QY XP D dA cl sz E V) 1 6 (va_A (tb_w0 E) sz)
noncomputable def tb_finY (XP : List tb_p) (tp : List Nat) (S : tb_S) : Bool := tb_finT tp S && XP.all (tb_pin S.2.2.2.2.1 S.2.2.2.1.1)
theorem tb_methodY {l : Launch} (hl : l.stackTraces = false) {Z : tb_Z} {y : MethodName} {cc : ByteArray} {mL : Nat} {ret : Option FieldType} {fr lc : Nat} {K : tb_K} (hy : plainName y.cls = true) (hini : Cond.initialized sa_NSE ∈ sa_Ts) (XP : List tb_p) (rets tp : List Nat) (tab : List (Nat × tb_op)) (TS : List (tb_S × tb_l)) (hs : List Nat) (fuel : Nat) (hfr : 6 ≤ fr) (hlc : 100 ≤ lc)
    (hd : ∀ pc ∈ rets, decode cc pc = .ok (tb_ri ret, 1)) (hthr : ∀ pc ∈ tp, sa_thr sa_Ts y.cls cc pc)
    (hops : ∀ (p : Program) (e : Env) (s : State) (m : MethodId) (args : Array Value) (below : List Frame) (meth : Method) (c : Code) (Q : State → Prop) (D : va_G) (dA : Nat → ClassId) (A : Nat → Prop) (n0 : Nat) (V0 : sa_V) (E : tb_E), sa_C p s m args c D dA A mL vwCl sa_Ts cc y.cls → sa_U D vwCl dA s → tb_Ou A s s.heap → tb_z E = Z → tb_mod E = K.2.2.2.2.2 → ∀ q ∈ tab, tb_snd p l e { frames := fr, cells := 1, slots := 6, locals := lc } s m args below meth c Q D dA A mL vwCl n0 V0 E q.1 q.2)
    (hlen : (K.1.map sa_cat).sum ≤ mL) (hrun : tb_chk Z K TS hs (fun pc => tb_as pc tab) (fun S => tb_fin Z rets ret K S || tb_finY XP tp S) fuel = true) : tb_MetY XP l vwCl sa_Ts Z y cc mL ret fr lc K := by
  intro D dA sz V E hI hX hz hm
  refine vx_ofW (cc := cc) (maxL := mL) (ret := ret) hy rfl ?_
  intro p e s m args below meth c s₁ B hml hno hv
  obtain ⟨hargs, hsz, ⟨hP, hD0, hwk, hfa, hru, hlo⟩, hU, hXX⟩ := hv
  subst hargs
  have hts0 := atoms_spec (ws := Cond.code y cc mL ret :: sa_Ts) B.pre
  have hts : ∀ w ∈ sa_Ts, w.before (K.1.map (sa_val V)).toArray s = true := fun w hw => hts0 w (List.mem_cons_of_mem _ hw)
  have hown : s.vm.findClass y.cls = some m.cls := findClass_of_methodNamed B.named
  subst hsz
  have hD := hD0.self (sz := s.heap.size)
  have hS : va_S (va_A (tb_w0 E) s.heap.size) s.heap s.heap [] := va_S.rf
  have hl9 := lv_entry (K.1.map (sa_val V)) (n := mL) (by rw [sa_sl_len]; exact hlen)
  rw [sa_args_lv] at hl9
  rw [lg_entry_eq]
  have hC : sa_C p s m (K.1.map (sa_val V)).toArray c D dA (va_A (tb_w0 E) s.heap.size) mL vwCl sa_Ts cc y.cls := ⟨B.exec, B.bytes, hts, hown, hml, hU.1, fun q h => Or.inr h⟩
  obtain ⟨⟨⟨hz1, hz2⟩, hz3⟩, hO2⟩ := id hXX
  have hW := tb_chk_ok (p := p) (l := l) (e := e) (R := { frames := fr, cells := 1, slots := 6, locals := lc }) (s := s) (m := m) (args := (K.1.map (sa_val V)).toArray) (below := below) (meth := meth) (c := c) (Q := vx_MQ below (tb_Q D dA vwCl s.heap.size E V K) (tb_QY XP D dA vwCl s.heap.size E V) (K.1.map (sa_val V)).toArray s 1 6 (va_A (tb_w0 E) s.heap.size)) (D := D) (dA := dA) (A := va_A (tb_w0 E) s.heap.size) (nL := mL) (cl := vwCl) (V0 := V) (E := E) hz
    (fun n1 V1 q1 q2 pc op h => hops p e s m _ below meth c _ D dA _ _ _ E hC hU hXX hz hm (pc, op) (tb_as_mem h)) (fun n1 V1 S g1 g2 h => by
      rw [Bool.or_eq_true] at h
      rcases h with h | h
      · have hk := tb_fin_ok (s := s) (p := p) (l := l) (e := e) (R := { frames := fr, cells := 1, slots := 6, locals := lc }) (m := m) (args := (K.1.map (sa_val V)).toArray) (below := below) (nL := mL) (mc := 1) (ms := 6) (D := D) (dA := dA) (cl := vwCl) hz B.exec B.bytes B.notSynchronized B.returns rfl hd g1 g2 S h
        intro V2 H locs ls hG
        exact vx_ret (hk V2 H locs ls hG)
      · obtain ⟨pc, lo, st, cs, G, kc, ks⟩ := S
        intro V2 H locs ls hG
        unfold tb_finY at h
        rw [Bool.and_eq_true] at h
        obtain ⟨h, h9⟩ := h
        have h9 : XP.all (tb_pin G cs.1) = true := h9
        simp only [tb_finT, Bool.and_eq_true, decide_eq_true_eq] at h
        obtain ⟨h1, h2, h3, h5, h4⟩ := h
        have hpc : pc ∈ tp := by simpa using h1
        obtain ⟨ik, ic, d0, d3, d4, d7, hck, hat⟩ := hthr pc hpc
        have hxw : ∀ w ∈ sa_XW, w.before (K.1.map (sa_val V)).toArray s = true := fun w hw => va_Nw.use (sa_XW_on w hw) (hz3 w hw)
        exact vx_throw0 (cls := sa_NSE) (names := sa_nm) B.exec B.bytes hl hown (by decide +kernel) (by decide +kernel) (hts _ hck) (hts _ hini) (fun w hw => (hat w hw).elim (hts w) (hxw w))
          (fun w hw => by
            rcases List.mem_cons.mp hw with rfl | hw
            · rfl
            · rcases List.mem_cons.mp hw with rfl | hw
              · rfl
              · rcases hat w hw with h9 | h9
                · unfold vx_ot; rw [sa_Tg w h9, Bool.or_true]
                · unfold vx_ot; rw [sa_XW_on w h9, Bool.true_or])
          hz1 hz2 hG.2.2.2.2 (by rw [hml]; exact hG.2.1.1) d0 d3 d4 d7 (fun x hx => (hno x hx).elim) (show 2 + 3 < fr by omega) (by
            rw [sa_sum]
            have e9 : (13 * (sa_nm.length + 1) + 42) = 81 := rfl
            rw [e9]
            show (st.map sa_cat).sum + 81 ≤ lc
            have h4 : (st.map sa_cat).sum ≤ 8 := h4
            omega) (show kc + 1 ≤ 1 by omega) (show ks + 6 ≤ 6 by omega) B.notSynchronized (fun t _ t1 t2 => ⟨rfl, by
              obtain ⟨w, n1', n2, n3, n4, n5, n6, n7⟩ := hG.2.2.1
              have h5 : cs.2.1 = [] := h5
              refine ⟨w, n1'.kept (fun k9 q9 hk9 => ?_), n2, n3, n4, fun p9 hp9 => tb_pin_ok hG.1.1 hG.2.2.2.1 n5 (List.all_eq_true.mp h9 p9 hp9), fun i r hr => n6 i r hr (by rw [h5]; exact List.not_mem_nil)⟩
              have hat9 := n1' k9 q9 hk9
              refine t2 _ ?_
              unfold va_at at hat9
              split at hat9
              · exact (Array.getElem?_eq_some_iff.mp hat9).1
              · obtain ⟨r9, -, ob⟩ := hat9
                obtain ⟨cell9, q9, -⟩ := ob
                exact (Array.getElem?_eq_some_iff.mp q9).1, Nat.le_trans hG.2.2.2.2.1 t1, fun q q1 q2 => (t2 q (Nat.lt_of_lt_of_le q1 hG.2.2.2.2.1)).trans (hG.2.2.2.2.2.1 q q1 q2)⟩) (fun z hz => hG.2.2.2.2.2.2 z hz) (show kc + 1 ≤ 1 by omega) (show ks + 6 ≤ 6 by omega)) hrun
  exact hW V s.heap [] _ ⟨⟨hI, Nat.le_refl _, fun _ _ => rfl⟩, hl9, ⟨tb_w0 E, hP, hD, hwk, fun j a κ e0 e9 i h1 h2 h3 _ => by
    have := congrArg Prod.snd (Option.some.inj (h2.symm.trans h3))
    have : e0 = e9 := this
    rw [this], hfa, fun i r hr _ => hru i r hr, hlo⟩, hX, hS⟩
/-- a call that may throw, where the throw is caught, and what is known then -/
noncomputable def tb_xf (XS : List (Nat × tb_p)) : List tb_f := XS.map (fun q => (q.1, (0, (q.2.2.1 : Int)), .inl (0, q.2.2.2.1)))
noncomputable def tb_xk (Z : tb_Z) (G : sa_B) (XP : List tb_p) (q : Nat × tb_p) : Bool := decide (q.2 ∈ XP) && (decide (tb_knd G q.1 = some q.2.1) && (Z.2.1.getD q.2.1 false && decide (q.2.2.2.1 = q.2.2.2.2)))
theorem tb_xf_ok {E : tb_E} {V : sa_V} {G : sa_B} {w : va_W} {Z : tb_Z} {XP : List tb_p} {XS : List (Nat × tb_p)} (hz : tb_z E = Z) (hI : sa_I V G) (hX : tb_X E V) (hp : ∀ p ∈ XP, tb_in (tb_al E) w p) (h : XS.all (tb_xk Z G XP) = true) : ∀ f ∈ tb_xf XS, tb_fa V w f := by
  intro f hf
  obtain ⟨q, hq, rfl⟩ := List.mem_map.mp hf
  obtain ⟨k, κ, i, lo, hi⟩ := q
  have h1 := List.all_eq_true.mp h _ hq
  unfold tb_xk at h1
  simp only [Bool.and_eq_true, decide_eq_true_eq] at h1
  obtain ⟨g1, g2, g3, g4⟩ := h1
  obtain ⟨j, a, x, e1, e2, e3, e4⟩ := hp _ g1
  obtain ⟨⟨j2, hj2⟩, -⟩ := tb_knd_ok hI hX g2
  have hij := hX.2.2 κ (by unfold tb_sg; rw [hz]; exact g3) j j2 _ _ e1 hj2
  subst hij
  have ha : a = sa_ad V k := congrArg Prod.fst (Option.some.inj (e1.symm.trans hj2))
  subst ha
  have e3 : lo ≤ x.toInt := e3
  have e4 : x.toInt ≤ hi := e4
  have g4 : lo = hi := g4
  have hx : x = sa_i V (0, lo) := by
    show x = Int32.ofInt ((V 0).1 + lo)
    rw [hI.2, Int.zero_add, show lo = x.toInt by omega, Int32.ofInt_toInt]
  have hix : tb_ix V (0, (i : Int)) = (i : Int) := by
    show (V 0).1 + (i : Int) = (i : Int)
    rw [hI.2, Int.zero_add]
  show 0 ≤ tb_ix V (0, (i : Int)) ∧ tb_at w (sa_ad V k) (tb_ix V (0, (i : Int))).toNat (.int (sa_i V (0, lo)))
  rw [hix, ← hx]
  exact ⟨Int.natCast_nonneg i, e2⟩
noncomputable def to_cY (Z : tb_Z) (mod : List (Nat × Nat × Nat)) (XP : List tb_p) (XS : List (Nat × tb_p)) (grd : tb_S → Bool) (hp : Nat) (K : tb_K) : tb_op := fun S => match to_cs Z mod grd [K] S with
  | some sts => if tb_wf S.2.2.2.2.1.length S.2.1 [] (tb_xf XS, [], []) = true ∧ K.2.2.2.2.2.all (tb_mi mod) = true ∧ XS.all (tb_xk Z S.2.2.2.2.1 XP) = true then some (sts.map (tb_up 1 6) ++ [(hp, S.2.1, [.inr (.inl (some S.2.2.2.2.1.length))], (tb_xf XS, [], []), S.2.2.2.2.1 ++ [(0, 0)], S.2.2.2.2.2.1 + 1, S.2.2.2.2.2.2 + 6)]) else none
  | none => none
theorem tn_cY {p : Program} {l : Launch} {e : Env} {R : Room} {s : State} {m : MethodId} {args : Array Value} {below : List Frame} {meth : Method} {c : Code} {Q : State → Prop} {D : va_G} {dA : Nat → ClassId} {A : Nat → Prop} {nL : Nat} {cl : List vw_C} {n0 : Nat} {V0 : sa_V} {E : tb_E} {cc : ByteArray} {own : String} (C0 : sa_C p s m args c D dA A nL cl sa_Ts cc own) {Z : tb_Z} {mod : List (Nat × Nat × Nat)} {XP : List tb_p} {XS : List (Nat × tb_p)} (hz : tb_z E = Z) (hcv : Z.1.all tb_cv = true) (hm : tb_mod E = mod) {pc hp : Nat} {K : tb_K} {y : MethodName} {cy : ByteArray} {mL fr lc idx n maxC maxS : Nat} {ret : Option FieldType} {ci N : Nat} {T : u_T} {xe : ExceptionTableEntry} (hU : sa_U D cl dA s) (hO : tb_Ou A s s.heap) (hM : tb_MetY XP l cl sa_Ts Z y cy mL ret fr lc K) (hcode : Cond.code y cy mL ret ∈ sa_Ts) (hd : decode cc pc = .ok (.invokevirtual idx, 3)) (w1 : Cond.methodLink own idx y ∈ sa_Ts) (w2 : Cond.instanceMethod y ∈ sa_Ts) (w3 : Cond.selects y.cls y y ∈ sa_Ts) (w4 : Cond.initialized y.cls ∈ sa_Ts) (hcl : cl[ci]? = some (y.cls, T, N)) (hy : sa_arg y n) (hn : K.1.length = n + 1) (hR : fr + 1 ≤ R.frames ∧ 8 + (mL + 11) + lc ≤ R.locals) (hC : maxC + 1 ≤ R.cells) (hS0 : maxS + 6 ≤ R.slots)
    (hsplit : c.exceptionTable.toList = [xe]) (hcov : covers xe pc = true) (hct : xe.catchType ≠ 0) (hlk : Cond.classLink own xe.catchType sa_NSE ∈ sa_Ts) (hhp : xe.handlerPc = hp) : tb_snd p l e R s m args below meth c Q D dA A nL cl n0 V0 E pc (to_cY Z mod XP XS (tb_gV Z ci (n + 1) maxC maxS) hp K) := by
  obtain ⟨hx, hb, hts, hown, hml, hK, hA⟩ := C0
  rintro ⟨pc, lo, st, cs, G, kc, ks⟩ sts rfl h k V H locs ls hG
  unfold to_cY at h
  split at h
  · rename_i sts0 hsts0
    dsimp only at h
    split at h
    · rename_i hh
      obtain ⟨hwf, hmi, hxs⟩ := hh
      cases h
      refine tb_calls_okG (mc := 1) (ms := 6) (a := #[]) hz hcv hm hA hsts0 (fun S' hS' => k _ (List.mem_append_left _ (List.mem_map.mpr ⟨S', hS', rfl⟩))) hG (fun K9 x V2 hKm hgr hG2 hsv As rest V1 w hst hargs hAl hI1 hX1 hsum hP0 hNw hF => ?_)
      have hK9 : K9 = K := by simpa using hKm
      subst hK9
      unfold tb_gV at hgr
      rw [Bool.and_eq_true, Bool.and_eq_true] at hgr
      obtain ⟨⟨r1, r2⟩, hgr⟩ := hgr
      have r1 : kc ≤ maxC := of_decide_eq_true r1
      have r2 : ks ≤ maxS := of_decide_eq_true r2
      dsimp only at hgr
      split at hgr
      · rename_i b As0 heq
        split at hgr
        · rename_i κ hκ
          split at hgr
          · rename_i o ho
            have ho1 : o.1 = ci := of_decide_eq_true hgr
            have e1 := (sa_take hst (hAl.trans hn)).symm.trans heq
            subst e1
            obtain ⟨j, e9, j1, j2, ⟨fs, rfl, j4⟩, j5⟩ := tb_cell hz hG2.1.1 hG2.2.2.2.1 hNw hκ ho
            rw [ho1] at j2
            have rv := va_recv (D := D) hK hNw.1 hcl j2
            have hrun := vx_runV (p := p) (e := e) (m := m) (below := below) (meth := meth) (c := c) (H := H) (locs := locs) (cells := kc) (slots := ks) (C := y.cls) (bytes := cy) (maxL := mL) (ret := ret) (b := sa_ad V2 b) (As := As0.map (sa_val V2)) (rest := rest.map (sa_val V2)) (n := n) (g := F0 m pc ls (st.map (sa_val V2))) ⟨hx, hb, hml, hown, hts⟩ (hM D dA H.size V1 (tb_al E, w, K9.2.2.2.2.2, tb_z E) hI1 hX1 hz rfl) (cwV n hts (sa_goodV sa_Tg hcode (by intro u hu; simp only [List.mem_cons, List.not_mem_nil, or_false] at hu; rcases hu with rfl | rfl | rfl | rfl <;> assumption)) rfl rfl rfl ⟨rfl, hy⟩ hR) ⟨tb_blind tb_X0_bl, rv, tb_preP hU hargs hP0 (fun U hUH hW => tb_Ou.call hO hG2.2.2.2.2 hF hUH hW)⟩ rfl (by rw [List.length_map]; rw [List.length_cons] at hAl; omega) hG2.2.1.1 (by show st.map (sa_val V2) = _; rw [show st = _ from hst]; exact sa_stk) (lv_room hsum) hd ⟨by omega, by omega⟩
            intro T9 hT9 X9
            rcases hrun T9 hT9 X9 with hret | ⟨q, st₀, t, T', L, Ex, ce, t0, X', hL, e1, e2, ⟨hE, ⟨w', m1, m2, m3, m4, m5, m6⟩, hzz, hkk⟩, hce, hcv9, hcls, stp⟩
            · exact Or.inl hret
            · subst hE
              right
              rw [t0] at hzz hkk
              have hSn : va_S A s.heap T'.heap (locs ++ L) := ⟨Nat.le_trans hG.2.2.2.2.1 (by rw [e1]; exact hzz), fun q h1 h2 => by rw [e1, hkk q (Nat.lt_of_lt_of_le h1 hG.2.2.2.2.1) (fun z => h2 (hF q z))]; exact hG.2.2.2.2.2.1 q h1 h2, fun q hq => by
                rcases List.mem_append.mp hq with h | h
                · exact hG.2.2.2.2.2.2 q h
                · exact hF _ (hL q h)⟩
              have hN9 : tb_N D dA A cl E V (tb_xf XS, [], []) T'.heap := ⟨w', by rw [e1]; exact m1, m2.weaken (fun j q hj hq => hF _ hq), m3, tb_fm_call (E' := (tb_al E, w, K9.2.2.2.2.2, tb_z E)) rfl rfl (by rw [hm]; exact hmi) hNw.2.2.1 hNw.2.2.2.1 m4, fun f hf => tb_xf_ok hz hG.1.1 hG.2.2.2.1 m5 hxs f hf, fun i r hr _ => m6 i r hr, fun x hx => absurd hx List.not_mem_nil⟩
              have hG9 : tb_G D dA A nL cl n0 V0 E s.heap V lo (tb_xf XS, [], []) G T'.heap (locs ++ L) ls := ⟨hG.1, hG.2.1, hN9, hG.2.2.2.1, hSn⟩
              obtain ⟨g1, -⟩ := tb_G_upd (x := (0, Int64.ofInt 0, fun _ => 0, q)) (b := (0, 0)) (st := []) hG9 hwf ⟨Int.le_refl _, Int.le_refl _⟩ ⟨rfl, fun h => absurd (show (1180591620717411303424 : Int) ≤ 0 from h) (by decide)⟩
              have hWk := k _ (List.mem_append_right _ List.mem_cons_self) _ T'.heap (locs ++ L) ls g1
              have hWk2 : W p l e R s m args below meth c T'.heap (locs ++ L) (kc + 1) (ks + 6) Q (F0 m xe.handlerPc ls [.ref q]) := by
                rw [hhp]
                have e5 : sa_val (sa_upd V G.length (0, Int64.ofInt 0, fun _ => 0, q)) (.inr (.inl (some G.length))) = .ref q := by
                  show Value.ref (sa_ad _ _) = _
                  unfold sa_ad
                  rw [sa_upd_eq]
                have h5 : W p l e R s m args below meth c T'.heap (locs ++ L) (kc + 1) (ks + 6) Q (F0 m hp ls [sa_val (sa_upd V G.length (0, Int64.ofInt 0, fun _ => 0, q)) (.inr (.inl (some G.length)))]) := hWk
                rw [e5] at h5
                exact h5
              have hcast : (Cond.castable sa_NSE sa_NSE).before args s = true := va_Nw.use rfl (hO.1.2 _ (List.mem_cons_self))
              obtain ⟨t2, a1, b1⟩ := sa_caught (pc := pc) (rest := rest.map (sa_val V2)) hown hsplit hcov hct (hts _ hlk) hcast (by rw [e1]; exact hce) hcv9 hcls hWk2 T' rfl X'
              exact ⟨t2, stp.trans a1, b1⟩
          · cases hgr
        · cases hgr
      · cases hgr
    · cases h
  · cases h
end TYT2
section TYB2
/-! a comparison kept as a relation -/
noncomputable def tb_rl9 (x y : Nat × Int) (d : Int) : tb_l := (tb_add x.1 1 (tb_add y.1 (-1) []), y.2 - x.2 + d)
noncomputable def tb_rl8 (x y : Nat × Int) (d : Int) (S : tb_S) : tb_S := (S.1, S.2.1, S.2.2.1, (S.2.2.2.1.1, S.2.2.2.1.2.1, S.2.2.2.1.2.2 ++ [tb_rl9 x y d]), S.2.2.2.2)
theorem tb_rl9_ok {V : sa_V} {x y : Nat × Int} {d : Int} (h0 : (V 0).1 = 0) (h : (V x.1).1 + x.2 - ((V y.1).1 + y.2) ≤ d) : tb_lo V (tb_rl9 x y d) := by
  show tb_ev V (tb_add x.1 1 (tb_add y.1 (-1) [])) ≤ y.2 - x.2 + d
  rw [tb_add_ev h0, tb_add_ev h0]
  show 1 * (V x.1).1 + (-1 * (V y.1).1 + 0) ≤ y.2 - x.2 + d
  omega
theorem tb_brL_ok {p : Program} {l : Launch} {e : Env} {R : Room} {s : State} {m : MethodId} {args : Array Value} {below : List Frame} {meth : Method} {c : Code} {Q : State → Prop} {D : va_G} {dA : Nat → ClassId} {A : Nat → Prop} {nL : Nat} {cl : List vw_C} {n0 : Nat} {V0 : sa_V} {E : tb_E} {r : sa_R} {P : Int32 → Int32 → Prop} (hr : sa_rok r P) {lo : sa_L} {st : List sa_v} {cs : tb_c} {G : sa_B} {pc0 pc kc ks : Nat} {x y a b : Nat × Int} {d : Int} {rest : List sa_v} {V : sa_V} {H : Heap} {locs : List Loc} {ls : Array Slot} (hG : tb_G D dA A nL cl n0 V0 E s.heap V lo cs G H locs ls) (hp : P (sa_i V x) (sa_i V y)) (hl : tb_lo V (tb_rl9 a b d))
    (k : ∀ S' ∈ (tb_br r (pc0, lo, st, cs, G, kc, ks) x y pc rest).map (tb_rl8 a b d), tb_W p l e R s m args below meth c Q D dA A nL cl n0 V0 E S') : W p l e R s m args below meth c H locs kc ks Q (F0 m pc ls (rest.map (sa_val V))) := by
  obtain ⟨G', h1, h2⟩ := hr V G x y hG.1.1 hp
  obtain ⟨w, m1, m2, m3, m4, m5, m6, m7⟩ := hG.2.2.1
  exact k (tb_rl8 a b d (pc, lo, rest, cs, G', kc, ks)) (List.mem_map.mpr ⟨_, List.mem_map.mpr ⟨G', h1, rfl⟩, rfl⟩) V H locs ls ⟨⟨h2.1, by show n0 ≤ G'.length; rw [h2.2]; exact hG.1.2.1, hG.1.2.2⟩, hG.2.1, ⟨w, m1, m2, m3, m4, m5, m6, fun q hq => (List.mem_append.mp hq).elim (fun h => m7 q h) (fun h => by rw [List.mem_singleton.mp h]; exact hl)⟩, hG.2.2.2⟩
noncomputable def to_icmpL (tgt : Nat) : tb_op := fun S => match S.2.2.1 with
  | .inl y :: .inl x :: rest => match sa_iv S.2.2.2.2.1 x, sa_iv S.2.2.2.2.1 y with
    | some _, some _ => some ((tb_br tr_le S x y tgt rest).map (tb_rl8 x y 0) ++ (tb_br (sr_flip tr_lt) S x y (S.1 + 3) rest).map (tb_rl8 y x (-1)))
    | _, _ => none
  | _ => none
theorem tx_icmpL {p : Program} {l : Launch} {e : Env} {R : Room} {s : State} {m : MethodId} {args : Array Value} {below : List Frame} {meth : Method} {c : Code} {Q : State → Prop} {D : va_G} {dA : Nat → ClassId} {A : Nat → Prop} {nL : Nat} {cl : List vw_C} {n0 : Nat} {V0 : sa_V} {E : tb_E} {Ts : List Cond} {cc : ByteArray} {own : String} (C0 : sa_C p s m args c D dA A nL cl Ts cc own) {pc : Nat} {off : Int} {tgt : Nat} (hd : decode cc pc = .ok (.if_icmp .le off, 3)) (ht : (pc : Int) + off = (tgt : Int)) : tb_snd p l e R s m args below meth c Q D dA A nL cl n0 V0 E pc (to_icmpL tgt) := by
  obtain ⟨hx, hb, hts, hown, hml, hK, hA⟩ := C0
  rintro ⟨pc, lo, st, cs, G, kc, ks⟩ sts rfl h k V H locs ls hG
  unfold to_icmpL at h
  dsimp only at h
  split at h
  · rename_i y x rest
    split at h
    · rename_i bx by9 hbx hby
      cases h
      obtain ⟨x1, x2, x3⟩ := tb_iv_ix hG.1.1 hbx
      obtain ⟨y1, y2, y3⟩ := tb_iv_ix hG.1.1 hby
      have ex : tb_ix V x = (V x.1).1 + x.2 := rfl
      have ey : tb_ix V y = (V y.1).1 + y.2 := rfl
      refine lv_icmp_le hx hb hd ht (fun hp => tb_brL_ok tr_le_ok hG hp (tb_rl9_ok hG.1.1.2 ?_) (fun S' hS => k S' (List.mem_append_left _ hS))) (fun hp => tb_brL_ok tr_nle_ok hG hp (tb_rl9_ok hG.1.1.2 ?_) (fun S' hS => k S' (List.mem_append_right _ hS)))
      · rw [Int32.le_iff_toInt_le] at hp
        omega
      · rw [Int32.not_le, Int32.lt_iff_toInt_lt] at hp
        omega
    · cases h
  · cases h
end TYB2
