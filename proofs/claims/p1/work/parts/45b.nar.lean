section SAN
/-- a contract, narrowed at one sign: the ends that its bounds rule out are left out -/
def sa_ov (j : Nat) (lo hi : Int) (o : sa_O) : Bool := match o.2.2[j]? with
  | some b => decide (lo ≤ b.2) && decide (b.1 ≤ hi)
  | none => true
def sa_nar (K : sa_K) (j : Nat) (lo hi : Int) : sa_K := (K.1, K.2.1, K.2.2.1.set j (lo, hi), K.2.2.2.1.filter (sa_ov j lo hi), K.2.2.2.2)
theorem sa_Met.nar {l : Launch} {cl : List vw_C} {Ts : List Cond} {y : MethodName} {cc : ByteArray} {mL : Nat} {ret : Option FieldType} {fr lc : Nat} {K : sa_K} (h : sa_Met l cl Ts y cc mL ret fr lc K) {j : Nat} {lo hi : Int} {b : Int × Int} (hb : K.2.2.1[j]? = some b) (h1 : b.1 ≤ lo) (h2 : hi ≤ b.2) : sa_Met l cl Ts y cc mL ret fr lc (sa_nar K j lo hi) := by
  intro D dA sz V hI
  have hj : j < K.2.2.1.length := (List.getElem?_eq_some_iff.mp hb).1
  have hin : lo ≤ (V j).1 ∧ (V j).1 ≤ hi := hI.1 j (lo, hi) (by show (K.2.2.1.set j (lo, hi))[j]? = _; rw [List.getElem?_set_self hj])
  have hI0 : sa_I V K.2.2.1 := by
    refine ⟨fun i b' hi' => ?_, hI.2⟩
    by_cases hij : j = i
    · subst hij
      rw [hb] at hi'
      cases hi'
      omega
    · exact hI.1 i b' (by show (K.2.2.1.set j (lo, hi))[i]? = _; rw [List.getElem?_set_ne hij]; exact hi')
  intro p e a1 a2 a3 s m args below a4 a5 a6 a7
  obtain ⟨n, o, c1, c2, c3, ⟨⟨o9, ho, V', hV', hI', hr⟩, hf⟩, fe⟩ := h D dA sz V hI0 p e a1 a2 a3 s m args below a4 a5 a6 a7
  refine ⟨n, o, c1, c2, c3, ⟨⟨o9, List.mem_filter.mpr ⟨ho, ?_⟩, V', fun k hk => hV' k (by have hk' : k < (K.2.2.1.set j (lo, hi)).length := hk; rwa [List.length_set] at hk'), hI', hr⟩, hf⟩, fe⟩
  unfold sa_ov
  split
  · rename_i b9 hb9
    have h9 := hI'.1 j b9 hb9
    rw [hV' j hj] at h9
    simp only [Bool.and_eq_true, decide_eq_true_eq]
    omega
  · rfl
def so_nar (f : sa_K → sa_op) (K : sa_K) (d j : Nat) : sa_op := fun S => match S.2.2.1[d]? with
  | some (.inl x) => match sa_iv S.2.2.2.2.1 x, K.2.2.1[j]? with
    | some c, some b => if b.1 ≤ c.1 ∧ c.2 ≤ b.2 then f (sa_nar K j c.1 c.2) S else none
    | _, _ => none
  | _ => none
theorem sn_nar {p : Program} {l : Launch} {e : Env} {R : Room} {s : State} {m : MethodId} {args : Array Value} {below : List Frame} {meth : Method} {c : Code} {Q : State → Prop} {D : va_G} {dA : Nat → ClassId} {A : Nat → Prop} {nL : Nat} {cl : List vw_C} {n0 : Nat} {V0 : sa_V} {pc : Nat} {f : sa_K → sa_op} {K : sa_K} {d j : Nat} (h : ∀ (lo hi : Int) (b : Int × Int), K.2.2.1[j]? = some b → b.1 ≤ lo → hi ≤ b.2 → sa_snd p l e R s m args below meth c Q D dA A nL cl n0 V0 pc (f (sa_nar K j lo hi))) : sa_snd p l e R s m args below meth c Q D dA A nL cl n0 V0 pc (so_nar f K d j) := by
  intro S sts hpc hop k
  unfold so_nar at hop
  split at hop
  · split at hop
    · rename_i c9 b9 hc9 hb9
      split at hop
      · rename_i hh
        exact h _ _ b9 hb9 hh.1 hh.2 S sts hpc hop k
      · cases hop
    · cases hop
  · cases hop
end SAN
