noncomputable def t_X11_fault (mod : List (Nat × Nat × Nat))  : List (Nat × tb_op) := [(0, to_then 1 (to_aload 0 1) (to_get tb_Z0 [] 11 13))]
set_option maxRecDepth 200000 in
set_option maxHeartbeats 4000000 in
theorem h_X11_fault {l : Launch} (mod : List (Nat × Nat × Nat)) (fr lc : Nat) (hfr : 1 + 1 ≤ fr) (hlc : 8 + (2 + 11) + 20 ≤ lc)   : ∀ (p : Program) (e : Env) (s : State) (m : MethodId) (args : Array Value) (below : List Frame) (meth : Method) (c : Code) (Q : State → Prop) (D : va_G) (dA : Nat → ClassId) (A : Nat → Prop) (n0 : Nat) (V0 : sa_V) (E : tb_E), sa_C p s m args c D dA A 1 vwCl sa_Ts cX11_fault yX11_fault.cls → sa_U D vwCl dA s → tb_Ou A s s.heap → tb_z E = tb_Z0 → tb_mod E = mod → ∀ q ∈ t_X11_fault mod , tb_snd p l e { frames := fr, cells := 0, slots := 0, locals := lc } s m args below meth c Q D dA A 1 vwCl n0 V0 E q.1 q.2 := fun p e s m args below meth c Q D dA A n0 V0 E C0 hU hO hz hm => List.forall_mem_cons.mpr ⟨tn_then (tn_aload_n C0 dX11_fault_0) (tn_get C0 hz hcv0 kcX11 dX11_fault_1 (by decide) tv_435), fun _ h => absurd h List.not_mem_nil⟩
set_option maxRecDepth 200000 in
set_option maxHeartbeats 4000000 in
def K_X11_fault_1 : tb_K := ([.inr (.inl (some 1))], [], [], [(0, 0), (1180591620717411303451, 1180591620717411303451)], [(some (.inl (2, 0)), [], [], [(0, 0), (1180591620717411303451, 1180591620717411303451), (-2147483648, 2147483647)])], [])
set_option maxRecDepth 200000 in
set_option maxHeartbeats 4000000 in
def T_X11_fault_1 : List (tb_S × tb_l) := []
set_option maxRecDepth 200000 in
set_option maxHeartbeats 4000000 in
theorem m_X11_fault_1 {l : Launch} : tb_Met l vwCl sa_Ts tb_Z0 yX11_fault cX11_fault 1 (some .int) 2 120 K_X11_fault_1 := tb_method (by decide) [4] (t_X11_fault [] ) T_X11_fault_1 [] 6000 (List.forall_mem_cons.mpr ⟨dX11_fault_4, fun _ h => absurd h List.not_mem_nil⟩) (h_X11_fault [] 2 120 (by decide) (by decide)  ) (by decide) (by decide +kernel)
