section XWG
/-! fewer listed locals, in another order -/
theorem xw_pk {p : Program} {l : Launch} {e : Env} {R : Room} {s : State} {m : MethodId} {args : Array Value} {below : List Frame} {meth : Method} {c : Code} {Q : State → Prop} {D : va_G} {dA : Nat → ClassId} {A : Nat → Prop} {nL : Nat} {cl : List vw_C} {KT : List tb_kd} {al : List (Nat × Nat)} {kc ks : Nat} {μ : xw_M} {pc : Nat} {L L' : List (Nat × Value)} {st : List Value} (is : List Nat) (h : is.filterMap (fun k => L[k]?) = L') (kk : xw_W p l e R s m args below meth c Q D dA A nL cl KT al kc ks μ pc L' st) : xw_W p l e R s m args below meth c Q D dA A nL cl KT al kc ks μ pc L st := by
  intro H locs ls w h1 h2 h3 h4 h5
  refine kk H locs ls w ⟨h1.1, h1.2.1, fun q hq => h1.2.2 q ?_⟩ h2 h3 h4 h5
  rw [← h] at hq
  obtain ⟨k, -, hk⟩ := List.mem_filterMap.mp hq
  exact List.mem_of_getElem? hk
theorem xw_mu {p : Program} {l : Launch} {e : Env} {R : Room} {s : State} {m : MethodId} {args : Array Value} {below : List Frame} {meth : Method} {c : Code} {Q : State → Prop} {D : va_G} {dA : Nat → ClassId} {A : Nat → Prop} {nL : Nat} {cl : List vw_C} {KT : List tb_kd} {al : List (Nat × Nat)} {kc ks : Nat} {μ μ' : xw_M} {pc : Nat} {L : List (Nat × Value)} {st : List Value} (h : μ = μ') (kk : xw_W p l e R s m args below meth c Q D dA A nL cl KT al kc ks μ' pc L st) : xw_W p l e R s m args below meth c Q D dA A nL cl KT al kc ks μ pc L st := h ▸ kk
/-- a number out of a number, by a method that changes nothing -/
theorem xw_callP1 {p : Program} {l : Launch} {e : Env} {R : Room} {s : State} {m : MethodId} {args : Array Value} {below : List Frame} {meth : Method} {c : Code} {Q : State → Prop} {D : va_G} {dA : Nat → ClassId} {A : Nat → Prop} {nL : Nat} {cl : List vw_C} {KT : List tb_kd} {al : List (Nat × Nat)} {kc ks : Nat} {μ : xw_M} {Ts : List Cond} {cc : ByteArray} {own : String} {pc : Nat} {L : List (Nat × Value)} {rest : List Value} (C0 : sa_C p s m args c D dA A nL cl Ts cc own) (hg : ∀ w ∈ Ts, goodWord w = true) {y : MethodName} {cy : ByteArray} {mL fr lc idx : Nat} {ret : Option FieldType} {f : Int32 → Int32} {a r : Int} (hM : ∀ x : Int32, Met l y (Cond.code y cy mL ret :: Ts) { frames := fr, cells := 0, slots := 0, locals := lc } (fun v _ => v = [Value.int x].toArray) (fun _ st oc t => oc = .returned (some (.int (f x))) ∧ t.heap = st.heap) 0 0 (fun _ => False)) (hcode : Cond.code y cy mL ret ∈ Ts) (hd : decode cc pc = .ok (.invokestatic idx, 3)) (w1 : Cond.methodLink own idx y ∈ Ts) (w2 : Cond.static y ∈ Ts) (w4 : Cond.initialized y.cls ∈ Ts) (hy : sa_arg y 1) (hR : fr + 1 ≤ R.frames ∧ 8 + (mL + 11) + lc ≤ R.locals) (hkc : kc + 0 ≤ R.cells ∧ ks + 0 ≤ R.slots) (hcat : (rest.map (fun v => v.category)).sum ≤ 8) (hv : f (Int32.ofInt a) = Int32.ofInt r) (kk : xw_W p l e R s m args below meth c Q D dA A nL cl KT al kc ks μ (pc + 3) L (.int (Int32.ofInt r) :: rest)) : xw_W p l e R s m args below meth c Q D dA A nL cl KT al kc ks μ pc L (.int (Int32.ofInt a) :: rest) := by
  intro H locs ls w h1 h2 h3 h4 h5
  obtain ⟨hx, hb, hts, hown, hml, hK, hA⟩ := C0
  have hrun := va_runS (p := p) (e := e) (below := below) (meth := meth) (H := H) (locs := locs) (cells := kc) (slots := ks) (bytes := cy) (maxL := mL) (ret := ret) (As := [.int (Int32.ofInt a)]) (rest := rest) (n := 1) (g := F0 m pc ls (.int (Int32.ofInt a) :: rest)) ⟨hx, hb, hml, hown, hts⟩ (hM (Int32.ofInt a)) (va_cwS 1 hts (sa_goodV hg hcode (by intro u hu; simp only [List.mem_cons, List.not_mem_nil, or_false] at hu; rcases hu with rfl | rfl | rfl <;> assumption)) rfl rfl rfl hy hR) ⟨fun _ _ _ _ q => q, fun _ _ _ => rfl⟩ rfl rfl h1.1 rfl (lv_room hcat) hd hkc
  exact xw_pure hv h1 h2 h3 h4 h5 hrun kk
/-! bytes of numbers -/
theorem xb_255 (z : Int) : 0 ≤ z % 256 ∧ z % 256 ≤ 255 := by omega
theorem xw_rl {n i : Nat} {t : tb_t} (h : i < n) : tb_rl [(n, t)] i = some t := if_pos h
theorem xb_ut (z : Int) : (Int32.ofInt z).toBitVec.toNat = (z % 4294967296).toNat := by
  show (BitVec.ofInt 32 z).toNat = _
  rw [BitVec.toNat_ofInt]
  rfl
theorem xb_nI (n : Nat) : nI n = Int32.ofInt (n : Int) := (Int32.ofInt_eq_ofNat).symm
theorem xb_and (z : Int) {k : Nat} {b r : Int} (hm : (Int32.ofInt b).toBitVec.toNat = 2 ^ k - 1) (hr : (((z % 4294967296).toNat % 2 ^ k : Nat) : Int) = r) : Int32.ofInt z &&& Int32.ofInt b = Int32.ofInt r := by
  rw [pk_and (Int32.ofInt z) k hm, xb_ut, xb_nI, hr]
theorem xb_and255 (z : Int) : Int32.ofInt z &&& Int32.ofInt 255 = Int32.ofInt (z % 256) := xb_and z (k := 8) (by decide) (by omega)
theorem xb_and1 (z : Int) : Int32.ofInt z &&& Int32.ofInt 1 = Int32.ofInt (z % 2) := xb_and z (k := 1) (by decide) (by omega)
theorem xb_ush (z : Int) {b r : Int} {k : Nat} (hs : (((Int32.ofInt b).toUInt32 &&& Int32.toUInt32 31).toBitVec % 32).toNat = k) (hr : (z % 4294967296).toNat / 2 ^ k = (r % 4294967296).toNat) : ((Int32.ofInt z).toUInt32 >>> ((Int32.ofInt b).toUInt32 &&& Int32.toUInt32 31)).toInt32 = Int32.ofInt r := by
  apply Int32.toBitVec_inj.mp
  apply BitVec.eq_of_toNat_eq
  rw [pk_ushr _ _ k hs, xb_ut, xb_ut, hr]
theorem xb_ush0 (z : Int) : ((Int32.ofInt z).toUInt32 >>> ((Int32.ofInt 0).toUInt32 &&& Int32.toUInt32 31)).toInt32 = Int32.ofInt z := xb_ush z (k := 0) (by decide) (by omega)
theorem xb_ush8 (z : Int) : ((Int32.ofInt z).toUInt32 >>> ((Int32.ofInt 8).toUInt32 &&& Int32.toUInt32 31)).toInt32 = Int32.ofInt (z % 4294967296 / 256) := xb_ush z (k := 8) (by decide) (by omega)
theorem xb_ush16 (z : Int) : ((Int32.ofInt z).toUInt32 >>> ((Int32.ofInt 16).toUInt32 &&& Int32.toUInt32 31)).toInt32 = Int32.ofInt (z % 4294967296 / 65536) := xb_ush z (k := 16) (by decide) (by omega)
theorem xb_ush24 (z : Int) : ((Int32.ofInt z).toUInt32 >>> ((Int32.ofInt 24).toUInt32 &&& Int32.toUInt32 31)).toInt32 = Int32.ofInt (z % 4294967296 / 16777216) := xb_ush z (k := 24) (by decide) (by omega)
theorem xb_i2b (z : Int) : ∃ r : Int, (-128 ≤ r ∧ r ≤ 127) ∧ r % 256 = z % 256 ∧ (Int32.ofInt z).toInt8.toInt32 = Int32.ofInt r := by
  have h1 : ((Int32.ofInt z).toInt8.toInt32).toInt = ((Int32.ofInt z).toInt).bmod 256 := by
    rw [Int8.toInt_toInt32, Int32.toInt_toInt8]
  have h2 : (Int32.ofInt z).toInt = z.bmod 4294967296 := by
    rw [Int32.toInt_ofInt]
  refine ⟨((Int32.ofInt z).toInt8.toInt32).toInt, ?_, ?_, (Int32.ofInt_toInt _).symm⟩
  · rw [h1, Int.bmod_def]
    split <;> omega
  · rw [h1, h2, Int.bmod_def, Int.bmod_def]
    split <;> split <;> omega
/-- bytes laid one behind the other: row jr, its size in slot fs of cell js -/
noncomputable def xb_W (jr js fs : Nat) (n : Int) (len : Nat) (bs : List Int) (μ μ' : xw_M) : Prop := bs.length = len ∧ μ' js fs = n + (len : Int) ∧ (∀ (k : Nat) (b : Int), bs[k]? = some b → μ' jr (n.toNat + k) % 256 = b) ∧ ∀ j i : Nat, ¬ (j = js ∧ i = fs) → ¬ (j = jr ∧ n.toNat ≤ i ∧ i < n.toNat + len) → μ' j i = μ j i
theorem xb_W1 {jr js fs : Nat} {n r b : Int} {μ : xw_M} (hne : ¬ jr = js) (h : r % 256 = b) : xb_W jr js fs n 1 [b] μ (xw_u (xw_u μ jr n.toNat r) js fs (n + 1)) := by
  refine ⟨rfl, xw_ug, fun k b9 hk => ?_, fun j i h1 h2 => ?_⟩
  · cases k with
    | zero =>
      cases hk
      rw [Nat.add_zero, xw_un (fun q => hne q.1), xw_ug]
      exact h
    | succ k => simp at hk
  · rw [xw_un h1, xw_un (fun q => h2 ⟨q.1, by omega, by omega⟩)]
theorem xb_W.tr {jr js fs : Nat} {n n' : Int} {len len' : Nat} {bs bs' : List Int} {μ μ1 μ2 : xw_M} (hne : ¬ jr = js) (h0 : 0 ≤ n) (h : xb_W jr js fs n len bs μ μ1) (hn : n' = n + (len : Int)) (h' : xb_W jr js fs n' len' bs' μ1 μ2) : xb_W jr js fs n (len + len') (bs ++ bs') μ μ2 := by
  obtain ⟨a1, a2, a3, a4⟩ := h
  obtain ⟨b1, b2, b3, b4⟩ := h'
  subst hn
  have e1 : (n + (len : Int)).toNat = n.toNat + len := by omega
  rw [e1] at b3 b4
  refine ⟨by rw [List.length_append, a1, b1], by rw [b2]; push_cast; omega, fun k b hk => ?_, fun j i h1 h2 => ?_⟩
  · by_cases hlt : k < len
    · rw [List.getElem?_append_left (by omega)] at hk
      rw [b4 _ _ (fun q => hne q.1) (fun q => by omega)]
      exact a3 k b hk
    · rw [List.getElem?_append_right (by omega), a1] at hk
      have := b3 (k - len) b hk
      rwa [show n.toNat + len + (k - len) = n.toNat + k by omega] at this
  · rw [b4 j i h1 (fun q => h2 ⟨q.1, by omega, by omega⟩)]
    exact a4 j i h1 (fun q => h2 ⟨q.1, by omega, by omega⟩)
theorem xb_W.F {jr js fs : Nat} {n : Int} {len : Nat} {bs : List Int} {μ μ' : xw_M} (h : xb_W jr js fs n len bs μ μ') (h0 : 0 ≤ n) (h1 : n + (len : Int) ≤ 940) : xw_F [(js, fs, fs), (jr, 0, 939)] μ μ' := by
  intro j i ho
  refine h.2.2.2 j i (fun q => ?_) (fun q => ?_)
  · obtain ⟨rfl, rfl⟩ := q
    exact xw_o_in ho List.mem_cons_self ⟨Nat.le_refl _, Nat.le_refl _⟩
  · obtain ⟨rfl, q2, q3⟩ := q
    exact xw_o_in ho (List.mem_cons_of_mem _ List.mem_cons_self) ⟨Nat.zero_le _, by omega⟩
/-- a number's bytes, the highest first -/
noncomputable def xb_B (z : Int) : List Int := [z / 16777216 % 256, z / 65536 % 256, z / 256 % 256, z % 256]
theorem xb_e24 (z : Int) : z % 4294967296 / 16777216 % 256 = z / 16777216 % 256 := by omega
theorem xb_e16 (z : Int) : z % 4294967296 / 65536 % 256 = z / 65536 % 256 := by omega
theorem xb_e8 (z : Int) : z % 4294967296 / 256 % 256 = z / 256 % 256 := by omega
end XWG
