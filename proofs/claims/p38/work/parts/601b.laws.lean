section TYL
/-- a call with several contracts -/
noncomputable def tl_Vs (Z : tb_Z) (mod : List (Nat × Nat × Nat)) (ci n : Nat) (Ks : List tb_K) : tb_op := to_cs Z mod (tb_gV Z ci n 1 6) Ks
theorem tu_Vs {p : Program} {l : Launch} {e : Env} {R : Room} {s : State} {m : MethodId} {args : Array Value} {below : List Frame} {meth : Method} {c : Code} {Q : State → Prop} {D : va_G} {dA : Nat → ClassId} {A : Nat → Prop} {nL : Nat} {cl : List vw_C} {n0 : Nat} {V0 : sa_V} {E : tb_E} {Z : tb_Z} {mod : List (Nat × Nat × Nat)} {B BS pc ci n : Nat} {Ks : List tb_K} (h : ∀ K ∈ Ks, tb_sndU p l e R s m args below meth c Q D dA A nL cl n0 V0 E B BS pc (tl_V Z mod ci n K)) : tb_sndU p l e R s m args below meth c Q D dA A nL cl n0 V0 E B BS pc (tl_Vs Z mod ci n Ks) := by
  intro b bs hb hbs S sts hpc hop k
  obtain ⟨K, hK, h1⟩ := tb_pick hop
  exact h K hK b bs hb hbs S sts hpc h1 k
end TYL
