section TYW
/-! the law's loop -/
noncomputable def tl_z (L i : Nat) (xs : Nat → Int32) (k : Nat) : Int := if k = 2 then (L : Int) else if k = 3 then (i : Int) else if 4 ≤ k ∧ k < 10 then (xs (i + (k - 4))).toInt else if k = 10 then tb_KB + 27 else if k = 11 then tb_KB + 0 else if k = 12 then tb_KB + 87 else 0
noncomputable def tl_a (b ax am ao k : Nat) : Nat := if k = 1 then b else if k = 10 then ax else if k = 11 then am else if k = 12 then ao else 0
noncomputable def tb_VL (b L i : Nat) (xs : Nat → Int32) (ax am ao : Nat) : sa_V := fun k => (tl_z L i xs k, Int64.ofInt (tl_z L i xs k), fun _ => 0, tl_a b ax am ao k)
noncomputable def tl_G (a c : Int) : sa_B := [(0, 0), (0, 0), (6, 3072), (0, 3066), (-2147483648, 2147483647), (a, c), (-2147483648, 2147483647), (-2147483648, 2147483647), (-2147483648, 2147483647), (-2147483648, 2147483647), (1180591620717411303424 + 27, 1180591620717411303424 + 27), (1180591620717411303424 + 0, 1180591620717411303424 + 0), (1180591620717411303424 + 87, 1180591620717411303424 + 87)]
/-- what class and reference have in common at the loop's head: cells, values; facts -/
noncomputable def tl_R9 : sa_B := [(1180591620717411303424 + 19, 1180591620717411303424 + 19), (1180591620717411303424 + 0, 1180591620717411303424 + 0), (1180591620717411303424 + 27, 1180591620717411303424 + 27), (0, 940), (-2147483648, 2147483647)]
noncomputable def tl_F9 : List tb_f := [(13, (0, 1), .inl (16, 0)), (14, (0, 2), .inl (16, 0)), (15, (0, 14), .inl (17, 0)), (14, (0, 32), .inl (17, 0))]
noncomputable def tl_G9 (a c : Int) : sa_B := tl_G a c ++ tl_R9
noncomputable def tl_mix (A U : sa_V) : sa_V := fun k => if k < 13 then A k else U k
theorem tl_mix_lt {A U : sa_V} {k : Nat} (h : k < 13) : tl_mix A U k = A k := if_pos h
theorem tl_mix_ge {A U : sa_V} {k : Nat} (h : 13 ≤ k) : tl_mix A U k = U k := if_neg (by omega)
noncomputable def tl_f9 (f : tb_f) : Bool := decide (13 ≤ f.1) && ((decide (f.2.1.1 = 0) || decide (13 ≤ f.2.1.1)) && match f.2.2 with
  | .inl q => decide (13 ≤ q.1)
  | _ => false)
theorem tl_F9_ok : tl_F9.all tl_f9 = true := by decide
theorem tl_fa_mix {A U : sa_V} {w : va_W} {f : tb_f} (h0 : (A 0).1 = (U 0).1) (hf : tl_f9 f = true) (h : tb_fa U w f) : tb_fa (tl_mix A U) w f := by
  obtain ⟨k, ⟨i, o⟩, v⟩ := f
  unfold tl_f9 at hf
  rw [Bool.and_eq_true, Bool.and_eq_true, Bool.or_eq_true] at hf
  obtain ⟨f1, f2, f3⟩ := hf
  have f1 : 13 ≤ k := of_decide_eq_true f1
  have e1 : sa_ad (tl_mix A U) k = sa_ad U k := by
    unfold sa_ad
    rw [tl_mix_ge f1]
  have e2 : tb_ix (tl_mix A U) (i, o) = tb_ix U (i, o) := by
    show (tl_mix A U i).1 + o = (U i).1 + o
    rcases f2 with f2 | f2
    · have f2 : i = 0 := of_decide_eq_true f2
      subst f2
      rw [tl_mix_lt (by decide), h0]
    · have f2 : 13 ≤ i := of_decide_eq_true f2
      rw [tl_mix_ge f2]
  have e3 : sa_val (tl_mix A U) v = sa_val U v := by
    rcases v with q | r
    · have f3 : 13 ≤ q.1 := of_decide_eq_true f3
      show Value.int (Int32.ofInt ((tl_mix A U q.1).1 + q.2)) = Value.int (Int32.ofInt ((U q.1).1 + q.2))
      rw [tl_mix_ge f3]
    · cases f3
  have h : 0 ≤ tb_ix U (i, o) ∧ tb_at w (sa_ad U k) (tb_ix U (i, o)).toNat (sa_val U v) := h
  show 0 ≤ tb_ix (tl_mix A U) (i, o) ∧ tb_at w (sa_ad (tl_mix A U) k) (tb_ix (tl_mix A U) (i, o)).toNat (sa_val (tl_mix A U) v)
  rw [e1, e2, e3]
  exact h
/-- what stands at the loop's head -/
noncomputable def tl_H9 (D : va_G) (dA : Nat → ClassId) (A : Nat → Prop) (E : tb_E) (H : Heap) : Prop := ∃ U : sa_V, (∀ (j : Nat) (q : Int × Int), tl_R9[j]? = some q → q.1 ≤ (U (13 + j)).1 ∧ (U (13 + j)).1 ≤ q.2) ∧ (U 0).1 = 0 ∧ tb_X E U ∧ tb_N D dA A vwCl E U (tl_F9, [], []) H
noncomputable def tl_S33 (a c : Int) : tb_S := (33, [(0, .inr (.inl (some 1))), (1, .inr (.inl (some 10))), (2, .inr (.inl (some 11))), (3, .inr (.inl (some 12))), (4, .inl (3, 0))], [], (tl_F9, [], []), tl_G9 a c, 0, 0)
noncomputable def to_sld : tb_op := fun S => match S.2.2.1 with
  | .inl x :: .inr (.inl (some 1)) :: rest => if x.1 = 3 ∧ 0 ≤ x.2 ∧ x.2 < 6 then some [(S.1 + 1, S.2.1, .inl (4 + x.2.toNat, 0) :: rest, S.2.2.2)] else none
  | _ => none
theorem tp_sld : tb_par to_sld := by
  rintro ⟨pc, lo, st, cs, G, kc, ks⟩ b bs
  unfold to_sld tb_up
  dsimp only
  split
  · split <;> rfl
  · rfl
theorem tn_sld {p : Program} {l : Launch} {e : Env} {R : Room} {s : State} {m : MethodId} {args : Array Value} {below : List Frame} {meth : Method} {c : Code} {Q : State → Prop} {D : va_G} {dA : Nat → ClassId} {A : Nat → Prop} {nL : Nat} {cl : List vw_C} {E : tb_E} {Ts : List Cond} {cc : ByteArray} {own : String} (C0 : sa_C p s m args c D dA A nL cl Ts cc own) {pc b L i ax am ao : Nat} {xs : Nat → Int32} (hX : va_X b L xs s s.heap) (hbl : b < s.heap.size) (hbA : ¬ A b) (hi : i + 6 ≤ L) (hL : L ≤ 3072) (hd : decode cc pc = .ok (.iaload, 1)) : tb_snd p l e R s m args below meth c Q D dA A nL cl 13 (tb_VL b L i xs ax am ao) E pc to_sld := by
  obtain ⟨hx, hb, hts, hown, hml, hK, hA⟩ := C0
  rintro ⟨pc, lo, st, cs, G, kc, ks⟩ sts rfl h k V H locs ls hG
  unfold to_sld at h
  dsimp only at h
  split at h
  · rename_i x rest
    split at h
    · rename_i hh
      obtain ⟨x1, x2, x3⟩ := hh
      cases h
      obtain ⟨xk, xo⟩ := x
      have x1 : xk = 3 := x1
      subst x1
      obtain ⟨j, rfl⟩ : ∃ j : Nat, xo = (j : Int) := ⟨xo.toNat, by have : 0 ≤ xo := x2; omega⟩
      have x3 : (j : Int) < 6 := x3
      have v1 : sa_ad V 1 = b := by
        show (V 1).2.2.2 = b
        rw [hG.1.2.2 1 (by decide)]
        rfl
      have v3 : (V 3).1 = (i : Int) := by
        rw [hG.1.2.2 3 (by decide)]
        rfl
      have vx : (sa_i V (3, (j : Int))).toInt = ((i + j : Nat) : Int) := by
        show (Int32.ofInt ((V 3).1 + (j : Int))).toInt = _
        rw [v3, sa_ofInt_toInt (by omega) (by omega)]
        omega
      have vn : (sa_i V (3, (j : Int))).toNatClampNeg = i + j := by
        show (sa_i V (3, (j : Int))).toInt.toNat = i + j
        rw [vx]
        omega
      have v4 : sa_i V (4 + j, 0) = xs (i + j) := by
        show Int32.ofInt ((V (4 + j)).1 + 0) = _
        rw [hG.1.2.2 (4 + j) (by omega)]
        show Int32.ofInt (tl_z L i xs (4 + j) + 0) = _
        unfold tl_z
        rw [if_neg (by omega), if_neg (by omega), if_pos (by omega), show 4 + j - 4 = j by omega, Int.add_zero, Int32.ofInt_toInt]
      have h9 := k _ List.mem_cons_self V H locs ls hG
      have h8 : W p l e R s m args below meth c H locs kc ks Q (F0 m (pc + 1) ls (.int (xs (sa_i V (3, (j : Int))).toNatClampNeg) :: rest.map (sa_val V))) := by
        rw [vn, ← v4]
        exact h9
      show W p l e R s m args below meth c H locs kc ks Q (F0 m pc ls (.int (sa_i V (3, (j : Int))) :: .ref (sa_ad V 1) :: rest.map (sa_val V)))
      rw [v1]
      exact va_sld hx hb hX hbl hbA hG.2.2.2.2 (vp_in_iff.mpr ⟨by omega, by omega⟩) hd h8
    · cases h
  · cases h
noncomputable def tl_leaf0 (S : tb_S) : Bool := Nat.beq S.1 23 && (decide (S.2.2.1 = []) && (decide (S.2.2.2.1.2.1 = []) && (decide (S.2.2.2.2.2.1 ≤ 1) && (decide (S.2.2.2.2.2.2 ≤ 6) && (decide (sa_look 0 S.2.1 = some (.inr (.inl (some 1)))) && (decide (sa_look 1 S.2.1 = some (.inr (.inl (some 10)))) && (decide (sa_look 2 S.2.1 = some (.inr (.inl (some 11)))) && (decide (sa_look 3 S.2.1 = some (.inr (.inl (some 12)))) && (decide (sa_look 4 S.2.1 = some (.inl (3, 6))) && tb_tab (tl_G9 (-2147483648) 2147483647).length 16 (tb_bind tb_Z0 16 [] [] tl_F9 S.2.2.2.1.1 S.2.2.2.2.1) (fun g => tb_fit tb_Z0 g [] [] tl_F9 [] (tl_G9 (-2147483648) 2147483647) S.2.2.2.1 S.2.2.2.2.1))))))))))
noncomputable def tl_leaf (S : tb_S) : Bool := tb_ent S.2.2.2.2.1 S.2.2.2.1.2.2 2 [] (-1) || tl_leaf0 S
/-- a state whose relations contradict one another -/
theorem tl_or9 {p : Program} {l : Launch} {e : Env} {R : Room} {s : State} {m : MethodId} {args : Array Value} {below : List Frame} {meth : Method} {c : Code} {Q : State → Prop} {D : va_G} {dA : Nat → ClassId} {A : Nat → Prop} {nL : Nat} {cl : List vw_C} {n0 : Nat} {V0 : sa_V} {E : tb_E} {b bs : Nat} (h : ∀ S, tl_leaf0 S = true → tb_W p l e R s m args below meth c Q D dA A nL cl n0 V0 E (tb_up b bs S)) : ∀ S, tl_leaf S = true → tb_W p l e R s m args below meth c Q D dA A nL cl n0 V0 E (tb_up b bs S) := by
  intro S hS
  unfold tl_leaf at hS
  rw [Bool.or_eq_true] at hS
  rcases hS with hS | hS
  · intro V2 H2 locs2 ls2 hG2
    obtain ⟨w, n1, n2, n3, n4, n5, n6, n7⟩ := hG2.2.2.1
    have h9 := tb_ent_ok hG2.1.1 n7 2 [] (-1) hS
    have h9 : (0 : Int) ≤ -1 := h9
    exact absurd h9 (by decide)
  · exact h S hS
noncomputable def R_law : String := "OffThenOnLaw"
noncomputable def lw_P (b : Addr) (xs : List Int32) (args : Array Value) (s : State) : Prop := args = #[.ref b] ∧ s.IntsAt b xs ∧ xs.length ≤ 3072 ∧ (Jvm.Cond.and given_1 narrow_1).before args s = true
noncomputable def lw_Q (_ : Array Value) (s : State) (o : Outcome) (t : State) : Prop := o = .returned (some (.int 1)) ∧ Framed s o t [] 601024 7293034
noncomputable def lw_Z (below : List Frame) (a : Array Value) (s : State) : State → Prop := fun t => ∃ o, t.status = .running ∧ Ended t below o ∧ lw_Q a s o t
theorem lw_ret {p : Program} {l : Launch} {e : Env} {s : State} {m : MethodId} {below : List Frame} {meth : Method} {c : Code} {b : Nat} (hx : p.tables.exec = Jvm.exec) (hb : c.code = code) (hr : meth.sig.returnType = ret) (hlocks : meth.locks = false) {pc : Nat} {H : Heap} {ls : Array Slot} (hdg : decode code pc = .ok (.ireturn, 1)) : W p l e room_1 s m #[Value.ref b] below meth c H [] 601024 7293034 (lw_Z below #[Value.ref b] s) (F0 m pc ls [.int 1]) := by
  intro T hT X
  obtain ⟨fs, hret, hrun, hended, hW, hframe⟩ := X.leave (v := some (.int 1)) (hlocks := hlocks) (fun h => by rw [hr] at h; cases h)
  have hmeth' : T.vm.method? m = some meth := X.method'
  refine ⟨T.setFrames fs, ?_, .returned (some (.int 1)), hrun, hended, rfl, ⟨_, rfl⟩, hW, hframe⟩
  jvm_step X.here [X.here.top, hx, hb, hdg, hmeth', hr, ret, narrow_b1]
  (try refine ⟨rfl, ?_⟩); (try refine ⟨rfl, ?_⟩)
  first | (intro acts; rw [hret _ acts rfl rfl rfl]) | rw [hret _ _ rfl rfl rfl]
  exact Steps.refl _
theorem tl_loop {p : Program} {l : Launch} {e : Env} {s : State} {m : MethodId} {below : List Frame} {meth : Method} {c : Code} {D : va_G} {dA : Nat → ClassId} {b L : Nat} {xs : Nat → Int32} {E : tb_E} {kc0 ks0 ax am ao jx jm jo : Nat} {tab : List (Nat × tb_op)} (hz : tb_z E = tb_Z0) (hL : L ≤ 3072) (hk0 : kc0 ≤ 1000) (hs0 : ks0 ≤ 20000) (C0 : sa_C p s m #[Value.ref b] c D dA (fun q : Nat => s.heap.size ≤ q) 7 vwCl sa_Ts code R_law) (hr : meth.sig.returnType = ret) (hlocks : meth.locks = false) (hX : va_X b L xs s s.heap) (hbl : b < s.heap.size)
    (h3 : ∀ κ : Nat, tb_sg E κ = true → ∀ (i j a b : Nat), (tb_al E)[i]? = some (a, κ) → (tb_al E)[j]? = some (b, κ) → i = j) (ex : (tb_al E)[jx]? = some (ax, 27)) (em : (tb_al E)[jm]? = some (am, 0)) (eo : (tb_al E)[jo]? = some (ao, 87))
    (hrows : ∀ (i : Nat), i + 6 ≤ L → ∀ q ∈ tab, tb_sndU p l e room_1 s m #[Value.ref b] below meth c (lw_Z below #[Value.ref b] s) D dA (fun q : Nat => s.heap.size ≤ q) 7 vwCl 13 (tb_VL b L i xs ax am ao) E 2000 40000 q.1 q.2)
    (hr0 : tb_run (fun pc => tb_as pc tab) tl_leaf 3000 (tl_S33 (-2147483648) (-1)) = true) (hr1 : tb_run (fun pc => tb_as pc tab) tl_leaf 3000 (tl_S33 0 0) = true) (hr2 : tb_run (fun pc => tb_as pc tab) tl_leaf 3000 (tl_S33 1 1) = true) (hr3 : tb_run (fun pc => tb_as pc tab) tl_leaf 3000 (tl_S33 2 2147483647) = true) :
    ∀ (N i n : Nat), 3072 < N + i → i ≤ 3072 → n * 6 ≤ i → ∀ (H : Heap) (locs : List Loc) (ls : Array Slot), lv_has ls 7 [(0, .ref b), (1, .ref ax), (2, .ref am), (3, .ref ao), (4, .int (Int32.ofInt (i : Int)))] → tl_H9 D dA (fun q : Nat => s.heap.size ≤ q) E H → va_S (fun q : Nat => s.heap.size ≤ q) s.heap H locs → W p l e room_1 s m #[Value.ref b] below meth c H locs (0 + (kc0 + n)) (0 + (ks0 + n * 6)) (lw_Z below #[Value.ref b] s) (F0 m 23 ls []) := by
  obtain ⟨hx, hb, hts, hown, hml, hK, hA⟩ := id C0
  have hnA : ¬ (fun q : Nat => s.heap.size ≤ q) b := Nat.not_le.mpr hbl
  intro N
  induction N with
  | zero => intro i n h1 h2; omega
  | succ N ih =>
    intro i n h1 h2 hn H locs ls hlv hN hS
    have l0 : ls[0]? = some (.val (.ref b)) := hlv.2.2 (0, .ref b) List.mem_cons_self
    have l1 : ls[1]? = some (.val (.ref ax)) := hlv.2.2 (1, .ref ax) (List.mem_cons_of_mem _ List.mem_cons_self)
    have l2 : ls[2]? = some (.val (.ref am)) := hlv.2.2 (2, .ref am) (List.mem_cons_of_mem _ (List.mem_cons_of_mem _ List.mem_cons_self))
    have l3 : ls[3]? = some (.val (.ref ao)) := hlv.2.2 (3, .ref ao) (List.mem_cons_of_mem _ (List.mem_cons_of_mem _ (List.mem_cons_of_mem _ List.mem_cons_self)))
    have l4 : ls[4]? = some (.val (.int (Int32.ofInt (i : Int)))) := hlv.2.2 (4, .int (Int32.ofInt (i : Int))) (List.mem_cons_of_mem _ (List.mem_cons_of_mem _ (List.mem_cons_of_mem _ (List.mem_cons_of_mem _ List.mem_cons_self))))
    have ti : (Int32.ofInt (i : Int)).toInt = (i : Int) := sa_ofInt_toInt (by omega) (by omega)
    have tL : (Int32.ofNat L - 6).toInt = (L : Int) - 6 := by
      have e6 : (6 : Int32) = Int32.ofInt 6 := rfl
      rw [← Int32.ofInt_eq_ofNat, e6, ← Int32.ofInt_sub, sa_ofInt_toInt (by omega) (by omega)]
    refine lv_iload hx hb dL_law_23 l4 ?_
    refine lv_aload_n hx hb dL_law_25 rfl l0 ?_
    refine va_slen hx hb hX hbl hnA hS dL_law_26 ?_
    refine lv_bipush (v := 6) hx hb dL_law_27 (by decide) ?_
    refine lv_isub hx hb dL_law_29 ?_
    refine lv_icmp_gt (tgt := 1350) hx hb dL_law_30 rfl (fun _ => ?_) (fun hlt => ?_)
    · refine lv_iconst (v := 1) hx hb dL_law_1350 rfl ?_
      refine va_forget (fun q hq => hS.2.2 q hq) ?_
      refine W.widen (k := 601024) (n := 7293034) (by omega) (by omega) ?_
      exact lw_ret hx hb hr hlocks dL_law_1351
    · rw [Int32.lt_iff_toInt_lt, tL, ti] at hlt
      have hi6 : i + 6 ≤ L := by omega
      have hXV : tb_X E (tb_VL b L i xs ax am ao) := by
        refine ⟨fun k => rfl, fun k hk => ?_, h3⟩
        have hk : tb_KB ≤ tl_z L i xs k := hk
        show ∃ j : Nat, (tb_al E)[j]? = some (tl_a b ax am ao k, (tl_z L i xs k - tb_KB).toNat)
        have hKB : tb_KB = 1180591620717411303424 := rfl
        by_cases k10 : k = 10
        · subst k10
          exact ⟨jx, ex⟩
        · by_cases k11 : k = 11
          · subst k11
            exact ⟨jm, em⟩
          · by_cases k12 : k = 12
            · subst k12
              exact ⟨jo, eo⟩
            · exfalso
              unfold tl_z at hk
              rw [hKB] at hk
              split at hk
              · omega
              · split at hk
                · omega
                · split at hk
                  · have := Int32.toInt_lt (xs (i + (k - 4)))
                    simp at this
                    omega
                  · omega
      have hI : ∀ a c9 : Int, a ≤ (xs (i + 1)).toInt → (xs (i + 1)).toInt ≤ c9 → sa_I (tb_VL b L i xs ax am ao) (tl_G a c9) := by
        intro a c9 ha hc
        have hx9 : ∀ x : Int32, (-2147483648 : Int) ≤ x.toInt ∧ x.toInt ≤ 2147483647 := fun x => sa_is_top (tb_VL b L i xs ax am ao) x
        refine ⟨fun k q hq => ?_, rfl⟩
        match k, hq with
        | 0, hq => cases hq; exact ⟨Int.le_refl _, Int.le_refl _⟩
        | 1, hq => cases hq; exact ⟨Int.le_refl _, Int.le_refl _⟩
        | 2, hq => cases hq; exact ⟨by show (6 : Int) ≤ (L : Int); omega, by show (L : Int) ≤ 3072; omega⟩
        | 3, hq => cases hq; exact ⟨by show (0 : Int) ≤ (i : Int); omega, by show (i : Int) ≤ 3066; omega⟩
        | 4, hq => cases hq; exact hx9 _
        | 5, hq => cases hq; exact ⟨ha, hc⟩
        | 6, hq => cases hq; exact hx9 _
        | 7, hq => cases hq; exact hx9 _
        | 8, hq => cases hq; exact hx9 _
        | 9, hq => cases hq; exact hx9 _
        | 10, hq => cases hq; exact ⟨Int.le_refl _, Int.le_refl _⟩
        | 11, hq => cases hq; exact ⟨Int.le_refl _, Int.le_refl _⟩
        | 12, hq => cases hq; exact ⟨Int.le_refl _, Int.le_refl _⟩
        | k + 13, hq => simp [tl_G] at hq
      have body : ∀ a c9 : Int, a ≤ (xs (i + 1)).toInt → (xs (i + 1)).toInt ≤ c9 → tb_run (fun pc => tb_as pc tab) tl_leaf 3000 (tl_S33 a c9) = true → W p l e room_1 s m #[Value.ref b] below meth c H locs (0 + (kc0 + n)) (0 + (ks0 + n * 6)) (lw_Z below #[Value.ref b] s) (F0 m 33 ls []) := by
        intro a c9 ha hc hrun
        have hW := tl_run_ok (p := p) (l := l) (e := e) (R := room_1) (s := s) (m := m) (args := #[Value.ref b]) (below := below) (meth := meth) (c := c) (Q := lw_Z below #[Value.ref b] s) (D := D) (dA := dA) (A := fun q : Nat => s.heap.size ≤ q) (nL := 7) (cl := vwCl) (n0 := 13) (V0 := tb_VL b L i xs ax am ao) (E := E) (B := 2000) (BS := 40000) (b := kc0 + n) (bs := ks0 + n * 6) (by omega) (by omega) (fun pc op h => hrows i hi6 (pc, op) (tb_as_mem h)) (tl_or9 (fun S hS9 => by
          obtain ⟨pc, lo, st, cs, G, kc, ks⟩ := S
          simp only [tl_leaf0, Bool.and_eq_true, decide_eq_true_eq] at hS9
          obtain ⟨q1, q2, q3, q4, q5, q6, q7, q8, q9, q10, q11⟩ := hS9
          have q1 : pc = 23 := Nat.eq_of_beq_eq_true q1
          subst q1
          subst q2
          intro V2 H2 locs2 ls2 hG2
          have hG2 : tb_G D dA (fun q : Nat => s.heap.size ≤ q) 7 vwCl 13 (tb_VL b L i xs ax am ao) E s.heap V2 lo cs G H2 locs2 ls2 := hG2
          have a0 := sa_look_at hG2.2.1 q6
          have a1 := sa_look_at hG2.2.1 q7
          have a2 := sa_look_at hG2.2.1 q8
          have a3 := sa_look_at hG2.2.1 q9
          have a4 := sa_look_at hG2.2.1 q10
          have z0 : sa_val V2 (.inr (.inl (some 1))) = .ref b := by
            show Value.ref (V2 1).2.2.2 = _
            rw [hG2.1.2.2 1 (by decide)]
            rfl
          have z1 : sa_val V2 (.inr (.inl (some 10))) = .ref ax := by
            show Value.ref (V2 10).2.2.2 = _
            rw [hG2.1.2.2 10 (by decide)]
            rfl
          have z2 : sa_val V2 (.inr (.inl (some 11))) = .ref am := by
            show Value.ref (V2 11).2.2.2 = _
            rw [hG2.1.2.2 11 (by decide)]
            rfl
          have z3 : sa_val V2 (.inr (.inl (some 12))) = .ref ao := by
            show Value.ref (V2 12).2.2.2 = _
            rw [hG2.1.2.2 12 (by decide)]
            rfl
          have z4 : sa_val V2 (.inl (3, 6)) = .int (Int32.ofInt ((i + 6 : Nat) : Int)) := by
            show Value.int (Int32.ofInt ((V2 3).1 + 6)) = _
            rw [hG2.1.2.2 3 (by decide)]
            show Value.int (Int32.ofInt ((i : Int) + 6)) = _
            rw [show ((i + 6 : Nat) : Int) = (i : Int) + 6 by omega]
          rw [z0] at a0
          rw [z1] at a1
          rw [z2] at a2
          rw [z3] at a3
          rw [z4] at a4
          have hN2 : tl_H9 D dA (fun q : Nat => s.heap.size ≤ q) E H2 := by
            obtain ⟨w, n1, n2, n3, n4, n5, n6, n7⟩ := hG2.2.2.1
            rw [tb_tab_eq] at q11
            obtain ⟨f1, f2, -, f4, -⟩ := tb_fit_ok hz hG2.1.1 hG2.2.2.2.1 n5 n7 q11
            refine ⟨tb_pl V2 (tb_gn (tl_G9 (-2147483648) 2147483647).length (tb_sb 16 (tb_bind tb_Z0 16 [] [] tl_F9 cs.1 G))), fun j q hq => ?_, f1.2, f2, w, n1, n2, n3, n4, f4, fun i9 r9 hr9 _ => n6 i9 r9 hr9 (by rw [show cs.2.1 = [] from q3]; exact List.not_mem_nil), fun x hx => absurd hx List.not_mem_nil⟩
            refine f1.1 (13 + j) q ?_
            unfold tl_G9
            rw [List.getElem?_append_right (show (tl_G (-2147483648) 2147483647).length ≤ 13 + j from Nat.le_add_right 13 j)]
            show tl_R9[13 + j - 13]? = some q
            rw [Nat.add_sub_cancel_left]
            exact hq
          have hlv2 : lv_has ls2 7 [(0, .ref b), (1, .ref ax), (2, .ref am), (3, .ref ao), (4, .int (Int32.ofInt ((i + 6 : Nat) : Int)))] := ⟨hG2.2.1.1, hG2.2.1.2.1, by
            intro q hq
            simp only [List.mem_cons, List.not_mem_nil, or_false] at hq
            rcases hq with rfl | rfl | rfl | rfl | rfl
            · exact a0
            · exact a1
            · exact a2
            · exact a3
            · exact a4⟩
          have q4 : kc ≤ 1 := q4
          have q5 : ks ≤ 6 := q5
          show W p l e room_1 s m #[Value.ref b] below meth c H2 locs2 (kc + (kc0 + n)) (ks + (ks0 + n * 6)) (lw_Z below #[Value.ref b] s) (F0 m 23 ls2 [])
          refine W.widen (k := 0 + (kc0 + (n + 1))) (n := 0 + (ks0 + (n + 1) * 6)) (by omega) (by omega) ?_
          exact ih (i + 6) (n + 1) (by omega) (by omega) (by omega) H2 locs2 ls2 hlv2 hN2 hG2.2.2.2.2)) 3000 (tl_S33 a c9) hrun
        obtain ⟨U, u1, u2, u3, w, n1, n2, n3, n4, n5, n6, n7⟩ := hN
        have hlvV : sa_lv (tl_mix (tb_VL b L i xs ax am ao) U) [(0, .inr (.inl (some 1))), (1, .inr (.inl (some 10))), (2, .inr (.inl (some 11))), (3, .inr (.inl (some 12))), (4, .inl (3, 0))] = [(0, .ref b), (1, .ref ax), (2, .ref am), (3, .ref ao), (4, .int (Int32.ofInt (i : Int)))] := by
          show [(0, Value.ref b), (1, Value.ref ax), (2, Value.ref am), (3, Value.ref ao), (4, Value.int (Int32.ofInt ((i : Int) + 0)))] = _
          rw [Int.add_zero]
        have hI9 : sa_I (tl_mix (tb_VL b L i xs ax am ao) U) (tl_G9 a c9) := by
          refine ⟨fun k q hq => ?_, rfl⟩
          by_cases hk : k < 13
          · rw [tl_mix_lt hk]
            refine (hI a c9 ha hc).1 k q ?_
            unfold tl_G9 at hq
            rw [List.getElem?_append_left (show k < (tl_G a c9).length from hk)] at hq
            exact hq
          · have hk : 13 ≤ k := by omega
            obtain ⟨j, rfl⟩ : ∃ j, k = 13 + j := ⟨k - 13, by omega⟩
            rw [tl_mix_ge hk]
            refine u1 j q ?_
            unfold tl_G9 at hq
            rw [List.getElem?_append_right (show (tl_G a c9).length ≤ 13 + j from Nat.le_add_right 13 j)] at hq
            have hq : tl_R9[13 + j - 13]? = some q := hq
            rw [Nat.add_sub_cancel_left] at hq
            exact hq
        have hn9 : 13 ≤ (tl_G9 a c9).length := by
          unfold tl_G9
          rw [List.length_append]
          exact Nat.le_add_right (tl_G a c9).length _
        have hX9 : tb_X E (tl_mix (tb_VL b L i xs ax am ao) U) := by
          refine ⟨fun k => ?_, fun k hk => ?_, h3⟩
          · by_cases h13 : k < 13
            · rw [tl_mix_lt h13]
              exact hXV.1 k
            · have h13 : 13 ≤ k := by omega
              rw [tl_mix_ge h13]
              exact u3.1 k
          · show ∃ j : Nat, (tb_al E)[j]? = some ((tl_mix (tb_VL b L i xs ax am ao) U k).2.2.2, ((tl_mix (tb_VL b L i xs ax am ao) U k).1 - tb_KB).toNat)
            by_cases h13 : k < 13
            · rw [tl_mix_lt h13] at hk ⊢
              exact hXV.2.1 k hk
            · have h13 : 13 ≤ k := by omega
              rw [tl_mix_ge h13] at hk ⊢
              exact u3.2.1 k hk
        exact hW (tl_mix (tb_VL b L i xs ax am ao) U) H locs ls ⟨⟨hI9, hn9, fun k hk => tl_mix_lt hk⟩, by rw [show (tb_up (kc0 + n) (ks0 + n * 6) (tl_S33 a c9)).2.1 = [(0, .inr (.inl (some 1))), (1, .inr (.inl (some 10))), (2, .inr (.inl (some 11))), (3, .inr (.inl (some 12))), (4, .inl (3, 0))] from rfl, hlvV]; exact hlv, ⟨w, n1, n2, n3, n4, fun f hf => tl_fa_mix (by rw [u2]; rfl) (List.all_eq_true.mp tl_F9_ok f hf) (n5 f hf), n6, fun x hx => absurd hx List.not_mem_nil⟩, hX9, hS⟩
      have hb9 : (-2147483648 : Int) ≤ (xs (i + 1)).toInt ∧ (xs (i + 1)).toInt ≤ 2147483647 := sa_is_top (tb_VL b L i xs ax am ao) (xs (i + 1))
      by_cases c1 : (xs (i + 1)).toInt ≤ -1
      · exact body _ _ hb9.1 c1 hr0
      · by_cases c2 : (xs (i + 1)).toInt ≤ 0
        · exact body _ _ (by omega) c2 hr1
        · by_cases c3 : (xs (i + 1)).toInt ≤ 1
          · exact body _ _ (by omega) c3 hr2
          · exact body _ _ (by omega) hb9.2 hr3
end TYW
