/-! the class's reader: its text, what it has read -/
noncomputable def hc_S (t : Nat → Int) (n lim : Nat) (μ : xw_M) : Prop := xw_G xw_GL μ ∧ (∀ i : Nat, μ 2 i % 256 = t i) ∧ μ 1 1 = (n : Int) ∧ μ 104 0 = ((1 : Nat) : Int) ∧ μ 104 1 = (lim : Int) ∧ n ≤ 940 ∧ lim ≤ 900
noncomputable def hc_dj (ML : List (Nat × Nat × Nat)) : Bool := xw_GL.all (fun q => xw_o ML q.1 q.2.1) && (ML.all (fun q => !(Nat.beq q.1 2)) && (xw_o ML 1 1 && (xw_o ML 104 0 && xw_o ML 104 1)))
theorem xw_oj {ML : List (Nat × Nat × Nat)} {j : Nat} (h : ML.all (fun q => !(Nat.beq q.1 j)) = true) (i : Nat) : xw_o ML j i = true := by
  unfold xw_o
  rw [List.all_eq_true]
  intro q hq
  have h1 := List.all_eq_true.mp h q hq
  cases hb : Nat.beq q.1 j with
  | false => rfl
  | true => rw [hb] at h1; cases h1
theorem hc_SF {t : Nat → Int} {n lim : Nat} {ML : List (Nat × Nat × Nat)} {μ μ' : xw_M} (h : hc_S t n lim μ) (hF : xw_F ML μ μ') (hd : hc_dj ML = true) : hc_S t n lim μ' := by
  unfold hc_dj at hd
  simp only [Bool.and_eq_true] at hd
  obtain ⟨d1, d2, d3, d4, d5⟩ := hd
  obtain ⟨h1, h2, h3, h4, h5, h6⟩ := h
  exact ⟨xw_GF h1 hF d1, fun i => by rw [hF 2 i (xw_oj d2 i)]; exact h2 i, (hF _ _ d3).trans h3, (hF _ _ d4).trans h4, (hF _ _ d5).trans h5, h6⟩
noncomputable def hc_T (t : Nat → Int) (n lim pz : Nat) (μ : xw_M) : Prop := pz ≤ n ∧ μ 104 2 = hp_k t n lim pz ∧ μ 104 3 = ((hp_pl t n lim pz : Nat) : Int) ∧ (hp_k t n lim pz = 2 → μ 104 5 = hp_cv (hp_w t n pz) ∧ μ 104 6 = hp_kw (hp_w t n pz)) ∧ (¬ hp_k t n lim pz = 2 → μ 104 6 = -1) ∧ (hp_k t n lim pz = 3 → μ 104 7 = hp_u t n pz) ∧ (hp_k t n lim pz = 4 → μ 104 7 = hp_s t n pz) ∧ (2 ≤ hp_k t n lim pz → μ 104 4 = ((hp_x t n pz : Nat) : Int))
set_option maxRecDepth 20000 in
set_option maxHeartbeats 20000000 in
theorem xh_isBlank {l : Launch} {μ : xw_M} {v : Int} (hv : -2147483648 ≤ v ∧ v ≤ 2147483647) : xw_MetI l vwCl sa_Ts tb_KT0 tc_KL yX6_isBlank cX6_isBlank 1 (some .boolean) 2 120 (fun ad => [.int (Int32.ofInt v)]) μ (fun r μ' => μ = μ' ∧ (((v = 32 ∨ v = 10) ∧ r = 1) ∨ (¬ (v = 32 ∨ v = 10) ∧ r = 0))) :=
  xw_of (by decide) (fun _ => Nat.le_of_ble_eq_true rfl) (fun p e s m args below meth c D dA A al w0 sz C0 hU hO hKL hr hlk hA => by
    refine xw_iload_n (pc := 0) C0 0 dX6_isBlank_0 rfl rfl ?_
    refine xw_bipush (pc := 1) C0 dX6_isBlank_1 (by decide) ?_
    refine xw_icmp_eq (pc := 3) (tgt := 12) C0 (by omega) (by omega) dX6_isBlank_3 rfl (fun b1 => ?_) (fun b1 => ?_)
    · refine xw_iconst (pc := 12) C0 dX6_isBlank_12 ?_
      refine xw_goto (pc := 13) (tgt := 17) C0 dX6_isBlank_13 rfl ?_
      refine xw_iret C0 hA hr hlk rfl dX6_isBlank_17 ?_
      exact ⟨_, rfl, rfl, Or.inl ⟨(by omega), rfl⟩⟩
    · refine xw_iload_n (pc := 6) C0 0 dX6_isBlank_6 rfl rfl ?_
      refine xw_bipush (pc := 7) C0 dX6_isBlank_7 (by decide) ?_
      refine xw_icmp_ne (pc := 9) (tgt := 16) C0 (by omega) (by omega) dX6_isBlank_9 rfl (fun b2 => ?_) (fun b2 => ?_)
      · refine xw_iconst (pc := 16) C0 dX6_isBlank_16 ?_
        refine xw_iret C0 hA hr hlk rfl dX6_isBlank_17 ?_
        exact ⟨_, rfl, rfl, Or.inr ⟨(by omega), rfl⟩⟩
      · refine xw_iconst (pc := 12) C0 dX6_isBlank_12 ?_
        refine xw_goto (pc := 13) (tgt := 17) C0 dX6_isBlank_13 rfl ?_
        refine xw_iret C0 hA hr hlk rfl dX6_isBlank_17 ?_
        exact ⟨_, rfl, rfl, Or.inl ⟨(by omega), rfl⟩⟩)
set_option maxRecDepth 20000 in
set_option maxHeartbeats 20000000 in
theorem xh_isLetter {l : Launch} {μ : xw_M} {v : Int} (hv : -2147483648 ≤ v ∧ v ≤ 2147483647) : xw_MetI l vwCl sa_Ts tb_KT0 tc_KL yX6_isLetter cX6_isLetter 1 (some .boolean) 2 120 (fun ad => [.int (Int32.ofInt v)]) μ (fun r μ' => μ = μ' ∧ (((97 ≤ v ∧ v ≤ 122) ∧ r = 1) ∨ (¬ (97 ≤ v ∧ v ≤ 122) ∧ r = 0))) :=
  xw_of (by decide) (fun _ => Nat.le_of_ble_eq_true rfl) (fun p e s m args below meth c D dA A al w0 sz C0 hU hO hKL hr hlk hA => by
    refine xw_iload_n (pc := 0) C0 0 dX6_isLetter_0 rfl rfl ?_
    refine xw_bipush (pc := 1) C0 dX6_isLetter_1 (by decide) ?_
    refine xw_icmp_lt (pc := 3) (tgt := 16) C0 (by omega) (by omega) dX6_isLetter_3 rfl (fun b1 => ?_) (fun b1 => ?_)
    · refine xw_iconst (pc := 16) C0 dX6_isLetter_16 ?_
      refine xw_iret C0 hA hr hlk rfl dX6_isLetter_17 ?_
      exact ⟨_, rfl, rfl, Or.inr ⟨(by omega), rfl⟩⟩
    · refine xw_iload_n (pc := 6) C0 0 dX6_isLetter_6 rfl rfl ?_
      refine xw_bipush (pc := 7) C0 dX6_isLetter_7 (by decide) ?_
      refine xw_icmp_gt (pc := 9) (tgt := 16) C0 (by omega) (by omega) dX6_isLetter_9 rfl (fun b2 => ?_) (fun b2 => ?_)
      · refine xw_iconst (pc := 16) C0 dX6_isLetter_16 ?_
        refine xw_iret C0 hA hr hlk rfl dX6_isLetter_17 ?_
        exact ⟨_, rfl, rfl, Or.inr ⟨(by omega), rfl⟩⟩
      · refine xw_iconst (pc := 12) C0 dX6_isLetter_12 ?_
        refine xw_goto (pc := 13) (tgt := 17) C0 dX6_isLetter_13 rfl ?_
        refine xw_iret C0 hA hr hlk rfl dX6_isLetter_17 ?_
        exact ⟨_, rfl, rfl, Or.inl ⟨(by omega), rfl⟩⟩)
set_option maxRecDepth 20000 in
set_option maxHeartbeats 20000000 in
theorem xh_isDigit {l : Launch} {μ : xw_M} {v : Int} (hv : -2147483648 ≤ v ∧ v ≤ 2147483647) : xw_MetI l vwCl sa_Ts tb_KT0 tc_KL yX6_isDigit cX6_isDigit 1 (some .boolean) 2 120 (fun ad => [.int (Int32.ofInt v)]) μ (fun r μ' => μ = μ' ∧ (((48 ≤ v ∧ v ≤ 57) ∧ r = 1) ∨ (¬ (48 ≤ v ∧ v ≤ 57) ∧ r = 0))) :=
  xw_of (by decide) (fun _ => Nat.le_of_ble_eq_true rfl) (fun p e s m args below meth c D dA A al w0 sz C0 hU hO hKL hr hlk hA => by
    refine xw_iload_n (pc := 0) C0 0 dX6_isDigit_0 rfl rfl ?_
    refine xw_bipush (pc := 1) C0 dX6_isDigit_1 (by decide) ?_
    refine xw_icmp_lt (pc := 3) (tgt := 16) C0 (by omega) (by omega) dX6_isDigit_3 rfl (fun b1 => ?_) (fun b1 => ?_)
    · refine xw_iconst (pc := 16) C0 dX6_isDigit_16 ?_
      refine xw_iret C0 hA hr hlk rfl dX6_isDigit_17 ?_
      exact ⟨_, rfl, rfl, Or.inr ⟨(by omega), rfl⟩⟩
    · refine xw_iload_n (pc := 6) C0 0 dX6_isDigit_6 rfl rfl ?_
      refine xw_bipush (pc := 7) C0 dX6_isDigit_7 (by decide) ?_
      refine xw_icmp_gt (pc := 9) (tgt := 16) C0 (by omega) (by omega) dX6_isDigit_9 rfl (fun b2 => ?_) (fun b2 => ?_)
      · refine xw_iconst (pc := 16) C0 dX6_isDigit_16 ?_
        refine xw_iret C0 hA hr hlk rfl dX6_isDigit_17 ?_
        exact ⟨_, rfl, rfl, Or.inr ⟨(by omega), rfl⟩⟩
      · refine xw_iconst (pc := 12) C0 dX6_isDigit_12 ?_
        refine xw_goto (pc := 13) (tgt := 17) C0 dX6_isDigit_13 rfl ?_
        refine xw_iret C0 hA hr hlk rfl dX6_isDigit_17 ?_
        exact ⟨_, rfl, rfl, Or.inl ⟨(by omega), rfl⟩⟩)
set_option maxRecDepth 20000 in
set_option maxHeartbeats 20000000 in
theorem xh_isSign {l : Launch} {μ : xw_M} {v : Int} (hv : -2147483648 ≤ v ∧ v ≤ 2147483647) : xw_MetI l vwCl sa_Ts tb_KT0 tc_KL yX6_isSign cX6_isSign 1 (some .boolean) 2 120 (fun ad => [.int (Int32.ofInt v)]) μ (fun r μ' => μ = μ' ∧ (((v = 59 ∨ v = 60 ∨ v = 61 ∨ v = 62 ∨ v = 40 ∨ v = 41) ∧ r = 1) ∨ (¬ (v = 59 ∨ v = 60 ∨ v = 61 ∨ v = 62 ∨ v = 40 ∨ v = 41) ∧ r = 0))) :=
  xw_of (by decide) (fun _ => Nat.le_of_ble_eq_true rfl) (fun p e s m args below meth c D dA A al w0 sz C0 hU hO hKL hr hlk hA => by
    refine xw_iload_n (pc := 0) C0 0 dX6_isSign_0 rfl rfl ?_
    refine xw_bipush (pc := 1) C0 dX6_isSign_1 (by decide) ?_
    refine xw_icmp_eq (pc := 3) (tgt := 36) C0 (by omega) (by omega) dX6_isSign_3 rfl (fun b1 => ?_) (fun b1 => ?_)
    · refine xw_iconst (pc := 36) C0 dX6_isSign_36 ?_
      refine xw_goto (pc := 37) (tgt := 41) C0 dX6_isSign_37 rfl ?_
      refine xw_iret C0 hA hr hlk rfl dX6_isSign_41 ?_
      exact ⟨_, rfl, rfl, Or.inl ⟨(by omega), rfl⟩⟩
    · refine xw_iload_n (pc := 6) C0 0 dX6_isSign_6 rfl rfl ?_
      refine xw_bipush (pc := 7) C0 dX6_isSign_7 (by decide) ?_
      refine xw_icmp_eq (pc := 9) (tgt := 36) C0 (by omega) (by omega) dX6_isSign_9 rfl (fun b2 => ?_) (fun b2 => ?_)
      · refine xw_iconst (pc := 36) C0 dX6_isSign_36 ?_
        refine xw_goto (pc := 37) (tgt := 41) C0 dX6_isSign_37 rfl ?_
        refine xw_iret C0 hA hr hlk rfl dX6_isSign_41 ?_
        exact ⟨_, rfl, rfl, Or.inl ⟨(by omega), rfl⟩⟩
      · refine xw_iload_n (pc := 12) C0 0 dX6_isSign_12 rfl rfl ?_
        refine xw_bipush (pc := 13) C0 dX6_isSign_13 (by decide) ?_
        refine xw_icmp_eq (pc := 15) (tgt := 36) C0 (by omega) (by omega) dX6_isSign_15 rfl (fun b3 => ?_) (fun b3 => ?_)
        · refine xw_iconst (pc := 36) C0 dX6_isSign_36 ?_
          refine xw_goto (pc := 37) (tgt := 41) C0 dX6_isSign_37 rfl ?_
          refine xw_iret C0 hA hr hlk rfl dX6_isSign_41 ?_
          exact ⟨_, rfl, rfl, Or.inl ⟨(by omega), rfl⟩⟩
        · refine xw_iload_n (pc := 18) C0 0 dX6_isSign_18 rfl rfl ?_
          refine xw_bipush (pc := 19) C0 dX6_isSign_19 (by decide) ?_
          refine xw_icmp_eq (pc := 21) (tgt := 36) C0 (by omega) (by omega) dX6_isSign_21 rfl (fun b4 => ?_) (fun b4 => ?_)
          · refine xw_iconst (pc := 36) C0 dX6_isSign_36 ?_
            refine xw_goto (pc := 37) (tgt := 41) C0 dX6_isSign_37 rfl ?_
            refine xw_iret C0 hA hr hlk rfl dX6_isSign_41 ?_
            exact ⟨_, rfl, rfl, Or.inl ⟨(by omega), rfl⟩⟩
          · refine xw_iload_n (pc := 24) C0 0 dX6_isSign_24 rfl rfl ?_
            refine xw_bipush (pc := 25) C0 dX6_isSign_25 (by decide) ?_
            refine xw_icmp_eq (pc := 27) (tgt := 36) C0 (by omega) (by omega) dX6_isSign_27 rfl (fun b5 => ?_) (fun b5 => ?_)
            · refine xw_iconst (pc := 36) C0 dX6_isSign_36 ?_
              refine xw_goto (pc := 37) (tgt := 41) C0 dX6_isSign_37 rfl ?_
              refine xw_iret C0 hA hr hlk rfl dX6_isSign_41 ?_
              exact ⟨_, rfl, rfl, Or.inl ⟨(by omega), rfl⟩⟩
            · refine xw_iload_n (pc := 30) C0 0 dX6_isSign_30 rfl rfl ?_
              refine xw_bipush (pc := 31) C0 dX6_isSign_31 (by decide) ?_
              refine xw_icmp_ne (pc := 33) (tgt := 40) C0 (by omega) (by omega) dX6_isSign_33 rfl (fun b6 => ?_) (fun b6 => ?_)
              · refine xw_iconst (pc := 40) C0 dX6_isSign_40 ?_
                refine xw_iret C0 hA hr hlk rfl dX6_isSign_41 ?_
                exact ⟨_, rfl, rfl, Or.inr ⟨(by omega), rfl⟩⟩
              · refine xw_iconst (pc := 36) C0 dX6_isSign_36 ?_
                refine xw_goto (pc := 37) (tgt := 41) C0 dX6_isSign_37 rfl ?_
                refine xw_iret C0 hA hr hlk rfl dX6_isSign_41 ?_
                exact ⟨_, rfl, rfl, Or.inl ⟨(by omega), rfl⟩⟩)
theorem hp_KCb : ∀ a ∈ hp_KC, 0 ≤ a ∧ a ≤ 9223372036854775807 := by decide +kernel
theorem hp_ixs {l : List Int} {k : Nat} {a v b : Int} (h : l[k]? = some a) (hn : ¬ a = v) : hp_ix (l.drop k) v b = hp_ix (l.drop (k + 1)) v (b + 1) := by
  obtain ⟨h1, h2⟩ := List.getElem?_eq_some_iff.mp h
  rw [List.drop_eq_getElem_cons h1, h2]
  show (if a = v then b else hp_ix (l.drop (k + 1)) v (b + 1)) = _
  rw [if_neg hn]
theorem hp_ixh {l : List Int} {k : Nat} {a v b : Int} (h : l[k]? = some a) (hn : a = v) : hp_ix (l.drop k) v b = b := by
  obtain ⟨h1, h2⟩ := List.getElem?_eq_some_iff.mp h
  rw [List.drop_eq_getElem_cons h1, h2]
  show (if a = v then b else hp_ix (l.drop (k + 1)) v (b + 1)) = _
  rw [if_pos hn]
set_option maxRecDepth 20000 in
set_option maxHeartbeats 20000000 in
theorem xh_kwL {l : Launch} {p : Program} {e : Env} {s : State} {m : MethodId} {args : Array Value} {below : List Frame} {meth : Method} {c : Code} {Q : State → Prop} {D : va_G} {dA : Nat → ClassId} {A : Nat → Prop} {al : List (Nat × Nat)} (C0 : sa_C p s m args c D dA A 3 vwCl sa_Ts cX6_keywordOf yX6_keywordOf.cls) (hU : sa_U D vwCl dA s) (hO : tb_Ou A s s.heap) (hKL : al.map Prod.snd = tc_KL) {μ : xw_M} {z q : Int} (hz : -9223372036854775808 ≤ z ∧ z ≤ 9223372036854775807) (kx : q = -1 → xw_W p l e { frames := 2, cells := 0, slots := 0, locals := 120 } s m args below meth c Q D dA A 3 vwCl tb_KT0 al 0 0 μ 28 [(0, .long (Int64.ofInt z))] []) (kw : ∀ k : Nat, k < 20 → q = (k : Int) → xw_W p l e { frames := 2, cells := 0, slots := 0, locals := 120 } s m args below meth c Q D dA A 3 vwCl tb_KT0 al 0 0 μ 20 [(2, .int (Int32.ofInt (k : Int)))] []) : ∀ (fu9 : Nat) (k : Nat), 20 - (k : Int) < (fu9 : Int) → k ≤ 20 → hp_ix (hp_KC.drop k) z (k : Int) = q → xw_W p l e { frames := 2, cells := 0, slots := 0, locals := 120 } s m args below meth c Q D dA A 3 vwCl tb_KT0 al 0 0 μ 2 [(2, .int (Int32.ofInt (k : Int))), (0, .long (Int64.ofInt z))] [] := by
  intro fu9
  induction fu9 with
  | zero => intro k hm hk hq; exfalso; omega
  | succ fu9 ih =>
    intro k hm hk hq
    refine xw_iload_n (pc := 2) C0 0 dX6_keywordOf_2 rfl rfl ?_
    refine xw_kwl (pc := 3) C0 hO dX6_keywordOf_3 dX6_keywordOf_6 ?_
    refine xw_icmp_ge (pc := 7) (tgt := 28) C0 (by omega) (by omega) dX6_keywordOf_7 rfl (fun b1 => ?_) (fun b1 => ?_)
    · have e9 : k = 20 := by omega
      subst e9
      refine xw_pk [1] (L' := [(0, .long (Int64.ofInt z))]) rfl ?_
      exact kx hq.symm
    · obtain ⟨z9, hz9⟩ : ∃ z9, hp_KC[k]? = some z9 := ⟨_, List.getElem?_eq_getElem (show k < hp_KC.length by have e9 : hp_KC.length = 20 := rfl; omega)⟩
      have q9 := hp_KCb z9 (List.mem_of_getElem? hz9)
      refine xw_kwa (pc := 10) (k := k) (z := z9) C0 hO 0 dX6_keywordOf_10 dX6_keywordOf_13 dX6_keywordOf_14 rfl rfl (by omega) hz9 ?_
      refine xw_lload_n (pc := 15) C0 1 dX6_keywordOf_15 rfl rfl ?_
      refine xw_lcmp (pc := 16) C0 (by omega) (by omega) dX6_keywordOf_16 (fun r2 g2 k2 c2 => ?_)
      refine xw_if_ne (pc := 17) (tgt := 22) C0 (by omega) dX6_keywordOf_17 rfl (fun b3 => ?_) (fun b3 => ?_)
      · refine xw_iinc (pc := 22) (L' := [(2, .int (Int32.ofInt ((k : Int) + 1))), (0, .long (Int64.ofInt z))]) C0 0 dX6_keywordOf_22 rfl (by decide) rfl ?_
        refine xw_goto (pc := 25) (tgt := 2) C0 dX6_keywordOf_25 rfl ?_
        have e1 : (k : Int) + 1 = ((k + 1 : Nat) : Int) := by omega
        rw [e1]
        refine xw_pk [0, 1] (L' := [(2, .int (Int32.ofInt ((k + 1 : Nat) : Int))), (0, .long (Int64.ofInt z))]) rfl ?_
        exact ih (k + 1) (by omega) (by omega) ((hp_ixs hz9 (by omega)).symm.trans hq)
      · have e9 : z9 = z := by omega
        refine xw_pk [0] (L' := [(2, .int (Int32.ofInt (k : Int)))]) rfl ?_
        exact kw k (by omega) (hq.symm.trans (hp_ixh hz9 e9))
set_option maxRecDepth 20000 in
set_option maxHeartbeats 20000000 in
theorem xh_keywordOf {l : Launch} {μ : xw_M} {z : Int} (hz : -9223372036854775808 ≤ z ∧ z ≤ 9223372036854775807) : xw_MetI l vwCl sa_Ts tb_KT0 tc_KL yX6_keywordOf cX6_keywordOf 3 (some .int) 2 120 (fun ad => [.long (Int64.ofInt z)]) μ (fun r μ' => μ = μ' ∧ r = hp_ix hp_KC z 0) :=
  xw_of (by decide) (fun _ => Nat.le_of_ble_eq_true rfl) (fun p e s m args below meth c D dA A al w0 sz C0 hU hO hKL hr hlk hA => by
    refine xw_iconst (pc := 0) C0 dX6_keywordOf_0 ?_
    refine xw_istore_n (pc := 1) (L' := [(2, .int (Int32.ofInt 0)), (0, .long (Int64.ofInt z))]) C0 dX6_keywordOf_1 rfl (by decide) rfl ?_
    refine xw_pk [0, 1] (L' := [(2, .int (Int32.ofInt ((0 : Nat) : Int))), (0, .long (Int64.ofInt z))]) rfl ?_
    refine xh_kwL (q := hp_ix hp_KC z 0) C0 hU hO hKL hz (fun q9 => ?_) (fun k hk q9 => ?_) 21 0 (by omega) (by omega) rfl
    · refine xw_iconst (pc := 28) C0 dX6_keywordOf_28 ?_
      refine xw_iret C0 hA hr hlk rfl dX6_keywordOf_29 ?_
      exact ⟨_, rfl, rfl, q9.symm⟩
    · refine xw_iload_n (pc := 20) C0 0 dX6_keywordOf_20 rfl rfl ?_
      refine xw_iret C0 hA hr hlk rfl dX6_keywordOf_21 ?_
      exact ⟨_, rfl, rfl, q9.symm⟩)
theorem hp_ixb : ∀ (l : List Int) (v b : Int), hp_ix l v b = -1 ∨ (b ≤ hp_ix l v b ∧ hp_ix l v b < b + (l.length : Int))
  | [], _, _ => Or.inl rfl
  | a :: r, v, b => by
    have h := hp_ixb r v (b + 1)
    by_cases e : a = v
    · refine Or.inr ?_
      have e1 : hp_ix (a :: r) v b = b := if_pos e
      rw [e1, List.length_cons]
      push_cast
      omega
    · have e1 : hp_ix (a :: r) v b = hp_ix r v (b + 1) := if_neg e
      rw [e1, List.length_cons]
      push_cast
      omega
/-- letters: how large -/
theorem hp_cfb : ∀ k v : Nat, hp_cf k v < ((256 ^ k : Nat) : Int)
  | 0, _ => by show (0 : Int) < ((1 : Nat) : Int); decide
  | k + 1, v => by
    have h := hp_cfb k (v / 27)
    have h0 := hp_cfn k (v / 27)
    rw [hp_cf1, Nat.pow_succ]
    generalize 256 ^ k = y at h
    split <;> omega
theorem hp_cvb {v : Int} {k : Nat} (hv : 0 ≤ v ∧ v < 10460353203) (hk : k ≤ 6) (h : 0 ≤ v ∧ v < ((27 ^ k : Nat) : Int)) : 0 ≤ hp_cv v ∧ hp_cv v < 281474976710656 := by
  have h6 : 27 ^ k ≤ 27 ^ 6 := Nat.pow_le_pow_right (by decide) hk
  have e6 : (27 : Nat) ^ 6 = 387420489 := by decide
  rw [e6] at h6
  have e8 : hp_cf 8 v.toNat = hp_cf 6 v.toNat := (hp_cfS 7 _ (by rw [hp_p7]; omega)).trans (hp_cfS 6 _ (by rw [e6]; omega))
  have h1 := hp_cfb 6 v.toNat
  have h2 := hp_cfn 6 v.toNat
  have e9 : (256 : Nat) ^ 6 = 281474976710656 := by decide
  rw [e9] at h1
  unfold hp_cv
  rw [e8]
  omega
set_option maxRecDepth 20000 in
set_option maxHeartbeats 20000000 in
theorem xh_rrL {l : Launch} {p : Program} {e : Env} {s : State} {m : MethodId} {args : Array Value} {below : List Frame} {meth : Method} {c : Code} {Q : State → Prop} {D : va_G} {dA : Nat → ClassId} {A : Nat → Prop} {al : List (Nat × Nat)} (C0 : sa_C p s m args c D dA A 5 vwCl sa_Ts cX6_readRun yX6_readRun.cls) (hU : sa_U D vwCl dA s) (hO : tb_Ou A s s.heap) (hKL : al.map Prod.snd = tc_KL) {t : Nat → Int} {n lim f9 : Nat} {μ : xw_M} (kx : ∀ (k d : Nat) (ν : xw_M), f9 + k = hp_e t n f9 → f9 + k ≤ n → d = hp_dg t f9 k → (d = 0 → k ≤ 7 → ν 104 5 = hp_cv (hp_lr t f9 k)) → (d = k → k ≤ 3 → ν 104 7 = hp_nf t f9 k) → xw_F [(104, 5, 5), (104, 7, 7)] μ ν → hc_S t n lim ν → xw_W p l e { frames := 3, cells := 0, slots := 0, locals := 142 } s m args below meth c Q D dA A 5 vwCl tb_KT0 al 0 0 ν 112 [(2, .int (Int32.ofInt ((f9 + k : Nat) : Int))), (3, .int (Int32.ofInt (d : Int))), (0, .ref (xw_ad al 104)), (1, .int (Int32.ofInt (f9 : Int)))] []) : ∀ (fu9 : Nat) (k d : Nat) (ν : xw_M), (n : Int) - ((f9 + k : Nat) : Int) < (fu9 : Int) → f9 + k ≤ n → hp_e t n (f9 + k) = hp_e t n f9 → d = hp_dg t f9 k → (d = 0 → k ≤ 7 → ν 104 5 = hp_cv (hp_lr t f9 k)) → (d = k → k ≤ 3 → ν 104 7 = hp_nf t f9 k) → xw_F [(104, 5, 5), (104, 7, 7)] μ ν → hc_S t n lim ν → xw_W p l e { frames := 3, cells := 0, slots := 0, locals := 142 } s m args below meth c Q D dA A 5 vwCl tb_KT0 al 0 0 ν 14 [(2, .int (Int32.ofInt ((f9 + k : Nat) : Int))), (3, .int (Int32.ofInt (d : Int))), (0, .ref (xw_ad al 104)), (1, .int (Int32.ofInt (f9 : Int)))] [] := by
  intro fu9
  induction fu9 with
  | zero => intro k d ν hm hk he hd hlt hvl hF hS_ν; exfalso; omega
  | succ fu9 ih =>
    intro k d ν hm hk he hd hlt hvl hF hS_ν
    have n_ν := hS_ν.2.2.1
    have l_ν := hS_ν.2.2.2.2.1
    have b_ν := hS_ν.2.2.2.2.2
    have hdl := hp_dgle (t := t) (i := f9) k
    refine xw_iload_n (pc := 14) C0 0 dX6_readRun_14 rfl rfl ?_
    refine xw_aload_n (pc := 15) C0 2 dX6_readRun_15 rfl rfl ?_
    refine xw_getR (pc := 16) (f := 0) C0 1 kcX6 dX6_readRun_16 (by decide) tv_285 (xj_104 hKL) xk_17 rfl ((rfl).trans hS_ν.2.2.2.1) ?_
    refine xw_getI (pc := 19) (f := 1) (z := ν 1 1) C0 kcX0 dX6_readRun_19 (by decide) tv_42 (xj_1 hKL) xk_19 rfl (rfl) (fun g1 k1 => ?_)
    refine xw_icmp_ge (pc := 22) (tgt := 112) C0 (by omega) (by omega) dX6_readRun_22 rfl (fun b2 => ?_) (fun b2 => ?_)
    · have e9 : hp_e t n (f9 + k) = f9 + k := hp_e0 (by omega)
      refine xw_pk [0, 1, 2, 3] (L' := [(2, .int (Int32.ofInt ((f9 + k : Nat) : Int))), (3, .int (Int32.ofInt (d : Int))), (0, .ref (xw_ad al 104)), (1, .int (Int32.ofInt (f9 : Int)))]) rfl ?_
      exact kx k d ν (by omega) hk hd hlt hvl hF hS_ν
    · refine xw_aload_n (pc := 25) C0 2 dX6_readRun_25 rfl rfl ?_
      refine xw_getR (pc := 26) (f := 0) C0 1 kcX6 dX6_readRun_26 (by decide) tv_285 (xj_104 hKL) xk_17 rfl ((rfl).trans hS_ν.2.2.2.1) ?_
      refine xw_iload_n (pc := 29) C0 0 dX6_readRun_29 rfl rfl ?_
      refine xw_callVI (pc := 30) (μ := ν) (ci := 0) (rest := []) (As := [.int (Int32.ofInt ((f9 + k : Nat) : Int))]) C0 hU hO sa_Tg hKL (xm_at (l := l) (i := ((f9 + k : Nat) : Int)) (by omega) hS_ν.1) tv_513 dX6_readRun_30 tv_510 tv_511 tv_512 tv_2 rfl yb_X0_at (by decide) rfl rfl rfl (by decide) (Nat.le_of_ble_eq_true rfl) (xj_1 hKL) xk_19 (fun r3 m3 w3 => ?_)
      obtain ⟨rfl, w3⟩ := w3
      have v3 : r3 = t (f9 + k) := w3.elim (fun q => q.2.2.trans (hS_ν.2.1 _)) (fun q => absurd ⟨by omega, by omega⟩ q.1)
      have u3 : 0 ≤ t (f9 + k) ∧ t (f9 + k) ≤ 255 := by rw [← hS_ν.2.1 (f9 + k)]; omega
      subst v3
      refine xw_callSI (pc := 33) (μ := ν) (rest := []) (As := [.int (Int32.ofInt (t (f9 + k)))]) C0 hU hO sa_Tg hKL (xh_isLetter (l := l) (v := t (f9 + k)) (by omega)) tv_519 dX6_readRun_33 tv_517 tv_518 tv_9 yb_X6_isLetter (by decide) rfl rfl rfl (by decide) (Nat.le_of_ble_eq_true rfl) (fun r4 m4 w4 => ?_)
      obtain ⟨rfl, w4⟩ := w4
      rcases w4 with ⟨w4, rfl⟩ | ⟨w4, rfl⟩
      · refine xw_if_ne (pc := 36) (tgt := 53) C0 (by omega) dX6_readRun_36 rfl (fun b5 => ?_) (fun b5 => ?_)
        · refine xw_aload_n (pc := 53) C0 2 dX6_readRun_53 rfl rfl ?_
          refine xw_getR (pc := 54) (f := 0) C0 1 kcX6 dX6_readRun_54 (by decide) tv_285 (xj_104 hKL) xk_17 rfl ((rfl).trans hS_ν.2.2.2.1) ?_
          refine xw_iload_n (pc := 57) C0 0 dX6_readRun_57 rfl rfl ?_
          refine xw_callVI (pc := 58) (μ := ν) (ci := 0) (rest := []) (As := [.int (Int32.ofInt ((f9 + k : Nat) : Int))]) C0 hU hO sa_Tg hKL (xm_at (l := l) (i := ((f9 + k : Nat) : Int)) (by omega) hS_ν.1) tv_513 dX6_readRun_58 tv_510 tv_511 tv_512 tv_2 rfl yb_X0_at (by decide) rfl rfl rfl (by decide) (Nat.le_of_ble_eq_true rfl) (xj_1 hKL) xk_19 (fun r6 m6 w6 => ?_)
          obtain ⟨rfl, w6⟩ := w6
          have v6 : r6 = t (f9 + k) := w6.elim (fun q => q.2.2.trans (hS_ν.2.1 _)) (fun q => absurd ⟨by omega, by omega⟩ q.1)
          have u6 : 0 ≤ t (f9 + k) ∧ t (f9 + k) ≤ 255 := by rw [← hS_ν.2.1 (f9 + k)]; omega
          subst v6
          refine xw_istore (pc := 61) (L' := [(4, .int (Int32.ofInt (t (f9 + k)))), (2, .int (Int32.ofInt ((f9 + k : Nat) : Int))), (3, .int (Int32.ofInt (d : Int))), (0, .ref (xw_ad al 104)), (1, .int (Int32.ofInt (f9 : Int)))]) C0 dX6_readRun_61 (by decide) rfl ?_
          refine xw_aload_n (pc := 63) C0 3 dX6_readRun_63 rfl rfl ?_
          refine xw_aload_n (pc := 64) C0 3 dX6_readRun_64 rfl rfl ?_
          refine xw_getL (pc := 65) (f := 5) (z := ν 104 5) C0 kcX6 dX6_readRun_65 (by decide) tv_294 (xj_104 hKL) xk_17 rfl (rfl) (fun g7 k7 => ?_)
          refine xw_bipush (pc := 68) C0 dX6_readRun_68 (by decide) ?_
          obtain ⟨y8, e8, f8, i8⟩ := xb_l8 (ν 104 5)
          refine xw_lshl (pc := 70) C0 dX6_readRun_70 i8 ?_
          refine xw_iload (pc := 71) C0 0 dX6_readRun_71 rfl ?_
          refine xw_i2l (pc := 73) C0 (by omega) dX6_readRun_73 ?_
          obtain ⟨y10, e10, f10, i10⟩ := xb_lor y8 (t (f9 + k))
          refine xw_lor (pc := 74) C0 dX6_readRun_74 i10 ?_
          refine xw_putL (pc := 75) (f := 5) C0 kcX6 dX6_readRun_75 (by decide) tv_294 rfl rfl (xj_104 hKL) xk_17 rfl (by omega) (by omega) ?_
          refine xw_iload (pc := 78) C0 0 dX6_readRun_78 rfl ?_
          refine xw_callSI (pc := 80) (μ := (xw_u ν 104 5 y10)) (rest := []) (As := [.int (Int32.ofInt (t (f9 + k)))]) C0 hU hO sa_Tg hKL (xh_isDigit (l := l) (v := t (f9 + k)) (by omega)) tv_522 dX6_readRun_80 tv_520 tv_521 tv_9 yb_X6_isDigit (by decide) rfl rfl rfl (by decide) (Nat.le_of_ble_eq_true rfl) (fun r11 m11 w11 => ?_)
          obtain ⟨rfl, w11⟩ := w11
          rcases w11 with ⟨w11, rfl⟩ | ⟨w11, rfl⟩
          · exfalso
            omega
          refine xw_if_eq (pc := 83) (tgt := 106) C0 (by omega) dX6_readRun_83 rfl (fun b12 => ?_) (fun b12 => ?_)
          · refine xw_iinc (pc := 106) (L' := [(2, .int (Int32.ofInt (((f9 + k : Nat) : Int) + 1))), (4, .int (Int32.ofInt (t (f9 + k)))), (3, .int (Int32.ofInt (d : Int))), (0, .ref (xw_ad al 104)), (1, .int (Int32.ofInt (f9 : Int)))]) C0 1 dX6_readRun_106 rfl (by decide) rfl ?_
            refine xw_goto (pc := 109) (tgt := 14) C0 dX6_readRun_109 rfl ?_
            have Ft1 : xw_F [(104, 5, 5), (104, 7, 7)] ν (xw_u ν 104 5 y10) := ((xw_F.rf (ML := [(104, 5, 5), (104, 7, 7)])).u (show (104, 5, 5) ∈ _ by decide) ⟨by decide, by decide⟩)
            have vt1_104_5 : (xw_u ν 104 5 y10) 104 5 = y10 := xw_ug
            have vt1_104_7 : (xw_u ν 104 5 y10) 104 7 = ν 104 7 := (xw_un (by decide)).trans rfl
            generalize (xw_u ν 104 5 y10) = t1 at Ft1 vt1_104_5 vt1_104_7 ⊢
            have hS_t1 := hc_SF hS_ν Ft1 (by decide)
            have n_t1 := hS_t1.2.2.1
            have l_t1 := hS_t1.2.2.2.2.1
            have b_t1 := hS_t1.2.2.2.2.2
            have e1 : ((f9 + k : Nat) : Int) + 1 = ((f9 + (k + 1) : Nat) : Int) := by omega
            have e3 := hp_dg0 (t := t) (i := f9) (k := k) (by omega)
            rw [e1]
            refine xw_pk [0, 2, 3, 4] (L' := [(2, .int (Int32.ofInt ((f9 + (k + 1) : Nat) : Int))), (3, .int (Int32.ofInt ((d : Nat) : Int))), (0, .ref (xw_ad al 104)), (1, .int (Int32.ofInt (f9 : Int)))]) rfl ?_
            refine ih (k + 1) (d) t1 (by omega) (by omega) ((hp_e1 (t := t) (n := n) (p := f9 + k) (by omega) (by omega)).symm.trans he) (by omega) (fun q1 q2 => ?_) (fun q1 q2 => ?_) (hF.tr Ft1 (fun j i h => xw_o_sub (by decide) j i h)) hS_t1
            · have a1 := hlt (by omega) (by omega)
              have a2 := hp_lrb7 (t := t) (i := f9) (k := k) (by omega) (fun q hq => by
                have a3 := hp_erun (t := t) (n := n) (p := f9) (q := f9 + q) (by omega) (by have := hp_eb (t := t) (n := n) (p := f9 + k) (by omega); omega)
                have a4 := hp_dg0a (t := t) (i := f9) k (by omega) q hq
                omega)
              rw [hp_lr1, hp_cvs a2 (by omega)]
              have a5 := hp_cvb (k := k) a2 (by omega) (hp_lrb k (fun q hq => by
                have a3 := hp_erun (t := t) (n := n) (p := f9) (q := f9 + q) (by omega) (by have := hp_eb (t := t) (n := n) (p := f9 + k) (by omega); omega)
                have a4 := hp_dg0a (t := t) (i := f9) k (by omega) q hq
                omega))
              have a6 := f8 (by omega)
              have a7 := f10 _ a6 (by omega) (by omega)
              omega
            · exfalso
              omega
          · exfalso
            omega
        · exfalso
          omega
      · refine xw_if_ne (pc := 36) (tgt := 53) C0 (by omega) dX6_readRun_36 rfl (fun b13 => ?_) (fun b13 => ?_)
        · exfalso
          omega
        · refine xw_aload_n (pc := 39) C0 2 dX6_readRun_39 rfl rfl ?_
          refine xw_getR (pc := 40) (f := 0) C0 1 kcX6 dX6_readRun_40 (by decide) tv_285 (xj_104 hKL) xk_17 rfl ((rfl).trans hS_ν.2.2.2.1) ?_
          refine xw_iload_n (pc := 43) C0 0 dX6_readRun_43 rfl rfl ?_
          refine xw_callVI (pc := 44) (μ := ν) (ci := 0) (rest := []) (As := [.int (Int32.ofInt ((f9 + k : Nat) : Int))]) C0 hU hO sa_Tg hKL (xm_at (l := l) (i := ((f9 + k : Nat) : Int)) (by omega) hS_ν.1) tv_513 dX6_readRun_44 tv_510 tv_511 tv_512 tv_2 rfl yb_X0_at (by decide) rfl rfl rfl (by decide) (Nat.le_of_ble_eq_true rfl) (xj_1 hKL) xk_19 (fun r14 m14 w14 => ?_)
          obtain ⟨rfl, w14⟩ := w14
          have v14 : r14 = t (f9 + k) := w14.elim (fun q => q.2.2.trans (hS_ν.2.1 _)) (fun q => absurd ⟨by omega, by omega⟩ q.1)
          have u14 : 0 ≤ t (f9 + k) ∧ t (f9 + k) ≤ 255 := by rw [← hS_ν.2.1 (f9 + k)]; omega
          subst v14
          refine xw_callSI (pc := 47) (μ := ν) (rest := []) (As := [.int (Int32.ofInt (t (f9 + k)))]) C0 hU hO sa_Tg hKL (xh_isDigit (l := l) (v := t (f9 + k)) (by omega)) tv_522 dX6_readRun_47 tv_520 tv_521 tv_9 yb_X6_isDigit (by decide) rfl rfl rfl (by decide) (Nat.le_of_ble_eq_true rfl) (fun r15 m15 w15 => ?_)
          obtain ⟨rfl, w15⟩ := w15
          rcases w15 with ⟨w15, rfl⟩ | ⟨w15, rfl⟩
          · refine xw_if_eq (pc := 50) (tgt := 112) C0 (by omega) dX6_readRun_50 rfl (fun b16 => ?_) (fun b16 => ?_)
            · exfalso
              omega
            · refine xw_aload_n (pc := 53) C0 2 dX6_readRun_53 rfl rfl ?_
              refine xw_getR (pc := 54) (f := 0) C0 1 kcX6 dX6_readRun_54 (by decide) tv_285 (xj_104 hKL) xk_17 rfl ((rfl).trans hS_ν.2.2.2.1) ?_
              refine xw_iload_n (pc := 57) C0 0 dX6_readRun_57 rfl rfl ?_
              refine xw_callVI (pc := 58) (μ := ν) (ci := 0) (rest := []) (As := [.int (Int32.ofInt ((f9 + k : Nat) : Int))]) C0 hU hO sa_Tg hKL (xm_at (l := l) (i := ((f9 + k : Nat) : Int)) (by omega) hS_ν.1) tv_513 dX6_readRun_58 tv_510 tv_511 tv_512 tv_2 rfl yb_X0_at (by decide) rfl rfl rfl (by decide) (Nat.le_of_ble_eq_true rfl) (xj_1 hKL) xk_19 (fun r17 m17 w17 => ?_)
              obtain ⟨rfl, w17⟩ := w17
              have v17 : r17 = t (f9 + k) := w17.elim (fun q => q.2.2.trans (hS_ν.2.1 _)) (fun q => absurd ⟨by omega, by omega⟩ q.1)
              have u17 : 0 ≤ t (f9 + k) ∧ t (f9 + k) ≤ 255 := by rw [← hS_ν.2.1 (f9 + k)]; omega
              subst v17
              refine xw_istore (pc := 61) (L' := [(4, .int (Int32.ofInt (t (f9 + k)))), (2, .int (Int32.ofInt ((f9 + k : Nat) : Int))), (3, .int (Int32.ofInt (d : Int))), (0, .ref (xw_ad al 104)), (1, .int (Int32.ofInt (f9 : Int)))]) C0 dX6_readRun_61 (by decide) rfl ?_
              refine xw_aload_n (pc := 63) C0 3 dX6_readRun_63 rfl rfl ?_
              refine xw_aload_n (pc := 64) C0 3 dX6_readRun_64 rfl rfl ?_
              refine xw_getL (pc := 65) (f := 5) (z := ν 104 5) C0 kcX6 dX6_readRun_65 (by decide) tv_294 (xj_104 hKL) xk_17 rfl (rfl) (fun g18 k18 => ?_)
              refine xw_bipush (pc := 68) C0 dX6_readRun_68 (by decide) ?_
              obtain ⟨y19, e19, f19, i19⟩ := xb_l8 (ν 104 5)
              refine xw_lshl (pc := 70) C0 dX6_readRun_70 i19 ?_
              refine xw_iload (pc := 71) C0 0 dX6_readRun_71 rfl ?_
              refine xw_i2l (pc := 73) C0 (by omega) dX6_readRun_73 ?_
              obtain ⟨y20, e20, f20, i20⟩ := xb_lor y19 (t (f9 + k))
              refine xw_lor (pc := 74) C0 dX6_readRun_74 i20 ?_
              refine xw_putL (pc := 75) (f := 5) C0 kcX6 dX6_readRun_75 (by decide) tv_294 rfl rfl (xj_104 hKL) xk_17 rfl (by omega) (by omega) ?_
              refine xw_iload (pc := 78) C0 0 dX6_readRun_78 rfl ?_
              refine xw_callSI (pc := 80) (μ := (xw_u ν 104 5 y20)) (rest := []) (As := [.int (Int32.ofInt (t (f9 + k)))]) C0 hU hO sa_Tg hKL (xh_isDigit (l := l) (v := t (f9 + k)) (by omega)) tv_522 dX6_readRun_80 tv_520 tv_521 tv_9 yb_X6_isDigit (by decide) rfl rfl rfl (by decide) (Nat.le_of_ble_eq_true rfl) (fun r21 m21 w21 => ?_)
              obtain ⟨rfl, w21⟩ := w21
              rcases w21.symm with ⟨w21, rfl⟩ | ⟨w21, rfl⟩
              · exfalso
                omega
              refine xw_if_eq (pc := 83) (tgt := 106) C0 (by omega) dX6_readRun_83 rfl (fun b22 => ?_) (fun b22 => ?_)
              · exfalso
                omega
              · refine xw_iinc (pc := 86) (L' := [(3, .int (Int32.ofInt ((d : Int) + 1))), (4, .int (Int32.ofInt (t (f9 + k)))), (2, .int (Int32.ofInt ((f9 + k : Nat) : Int))), (0, .ref (xw_ad al 104)), (1, .int (Int32.ofInt (f9 : Int)))]) C0 2 dX6_readRun_86 rfl (by decide) rfl ?_
                refine xw_aload_n (pc := 89) C0 3 dX6_readRun_89 rfl rfl ?_
                refine xw_aload_n (pc := 90) C0 3 dX6_readRun_90 rfl rfl ?_
                refine xw_getI (pc := 91) (f := 7) (z := ν 104 7) C0 kcX6 dX6_readRun_91 (by decide) tv_300 (xj_104 hKL) xk_17 rfl ((xw_un (by decide)).trans rfl) (fun g23 k23 => ?_)
                refine xw_bipush (pc := 94) C0 dX6_readRun_94 (by decide) ?_
                refine xw_imul (pc := 96) C0 dX6_readRun_96 ?_
                refine xw_iload (pc := 97) C0 1 dX6_readRun_97 rfl ?_
                refine xw_iadd (pc := 99) C0 dX6_readRun_99 ?_
                refine xw_bipush (pc := 100) C0 dX6_readRun_100 (by decide) ?_
                refine xw_isub (pc := 102) C0 dX6_readRun_102 ?_
                obtain ⟨y24, e24, f24, i24⟩ := xb_wI ((((ν 104 7) * 10) + (t (f9 + k))) - 48)
                refine xw_nI i24 ?_
                refine xw_putI (pc := 103) (f := 7) C0 kcX6 dX6_readRun_103 (by decide) tv_300 rfl rfl (xj_104 hKL) xk_17 rfl (by omega) (by omega) ?_
                refine xw_iinc (pc := 106) (L' := [(2, .int (Int32.ofInt (((f9 + k : Nat) : Int) + 1))), (3, .int (Int32.ofInt ((d : Int) + 1))), (4, .int (Int32.ofInt (t (f9 + k)))), (0, .ref (xw_ad al 104)), (1, .int (Int32.ofInt (f9 : Int)))]) C0 2 dX6_readRun_106 rfl (by decide) rfl ?_
                refine xw_goto (pc := 109) (tgt := 14) C0 dX6_readRun_109 rfl ?_
                have Ft2 : xw_F [(104, 5, 5), (104, 7, 7)] ν (xw_u (xw_u ν 104 5 y20) 104 7 y24) := (((xw_F.rf (ML := [(104, 5, 5), (104, 7, 7)])).u (show (104, 5, 5) ∈ _ by decide) ⟨by decide, by decide⟩).u (show (104, 7, 7) ∈ _ by decide) ⟨by decide, by decide⟩)
                have vt2_104_5 : (xw_u (xw_u ν 104 5 y20) 104 7 y24) 104 5 = y20 := (xw_un (by decide)).trans xw_ug
                have vt2_104_7 : (xw_u (xw_u ν 104 5 y20) 104 7 y24) 104 7 = y24 := xw_ug
                generalize (xw_u (xw_u ν 104 5 y20) 104 7 y24) = t2 at Ft2 vt2_104_5 vt2_104_7 ⊢
                have hS_t2 := hc_SF hS_ν Ft2 (by decide)
                have n_t2 := hS_t2.2.2.1
                have l_t2 := hS_t2.2.2.2.2.1
                have b_t2 := hS_t2.2.2.2.2.2
                have e1 : ((f9 + k : Nat) : Int) + 1 = ((f9 + (k + 1) : Nat) : Int) := by omega
                have e2 : (d : Int) + 1 = ((d + 1 : Nat) : Int) := by omega
                have e3 := hp_dg1 (t := t) (i := f9) (k := k) (by omega)
                rw [e1, e2]
                refine xw_pk [0, 1, 3, 4] (L' := [(2, .int (Int32.ofInt ((f9 + (k + 1) : Nat) : Int))), (3, .int (Int32.ofInt ((d + 1 : Nat) : Int))), (0, .ref (xw_ad al 104)), (1, .int (Int32.ofInt (f9 : Int)))]) rfl ?_
                refine ih (k + 1) (d + 1) t2 (by omega) (by omega) ((hp_e1 (t := t) (n := n) (p := f9 + k) (by omega) (by omega)).symm.trans he) (by omega) (fun q1 q2 => ?_) (fun q1 q2 => ?_) (hF.tr Ft2 (fun j i h => xw_o_sub (by decide) j i h)) hS_t2
                · exfalso
                  omega
                · have a1 := hvl (by omega) (by omega)
                  rw [hp_nf1]
                  have a2 := hp_nfb (t := t) (i := f9) k (by omega) (fun q hq => by have a3 := hp_dgfa (t := t) (i := f9) k (by omega) q hq; omega)
                  omega
          · refine xw_if_eq (pc := 50) (tgt := 112) C0 (by omega) dX6_readRun_50 rfl (fun b25 => ?_) (fun b25 => ?_)
            · have e9 : hp_e t n (f9 + k) = f9 + k := hp_e0 (by omega)
              refine xw_pk [0, 1, 2, 3] (L' := [(2, .int (Int32.ofInt ((f9 + k : Nat) : Int))), (3, .int (Int32.ofInt (d : Int))), (0, .ref (xw_ad al 104)), (1, .int (Int32.ofInt (f9 : Int)))]) rfl ?_
              exact kx k d ν (by omega) hk hd hlt hvl hF hS_ν
            · exfalso
              omega
