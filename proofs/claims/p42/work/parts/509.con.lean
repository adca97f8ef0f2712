noncomputable def t_X11_fault (mod : List (Nat × Nat × Nat))  : List (Nat × tb_op) := [(0, to_then 1 (to_aload 0 1) (to_get tb_Z0 [] 11 13))]
set_option maxRecDepth 200000 in
set_option maxHeartbeats 4000000 in
theorem h_X11_fault {l : Launch} (mod : List (Nat × Nat × Nat)) (fr lc : Nat) (hfr : 1 + 1 ≤ fr) (hlc : 8 + (2 + 11) + 20 ≤ lc)   : ∀ (p : Program) (e : Env) (s : State) (m : MethodId) (args : Array Value) (below : List Frame) (meth : Method) (c : Code) (Q : State → Prop) (D : va_G) (dA : Nat → ClassId) (A : Nat → Prop) (n0 : Nat) (V0 : sa_V) (E : tb_E), sa_C p s m args c D dA A 1 vwCl sa_Ts cX11_fault yX11_fault.cls → sa_U D vwCl dA s → tb_Ou A s s.heap → tb_z E = tb_Z0 → tb_mod E = mod → ∀ q ∈ t_X11_fault mod , tb_snd p l e { frames := fr, cells := 0, slots := 0, locals := lc } s m args below meth c Q D dA A 1 vwCl n0 V0 E q.1 q.2 := fun p e s m args below meth c Q D dA A n0 V0 E C0 hU hO hz hm => List.forall_mem_cons.mpr ⟨tn_then (tn_aload_n C0 dX11_fault_0) (tn_get C0 hz hcv0 kcX11 dX11_fault_1 (by decide) tv_435), fun _ h => absurd h List.not_mem_nil⟩
set_option maxRecDepth 200000 in
set_option maxHeartbeats 4000000 in
def K_X11_fault_1 : tb_K := ([.inr (.inl (some 1))], [], [], [(0, 0), (1180591620717411303451, 1180591620717411303451)], [(some (.inl (2, 0)), [], [], [(0, 0), (1180591620717411303451, 1180591620717411303451), (-2147483648, 2147483647)])], [])
set_option maxRecDepth 200000 in
set_option maxHeartbeats 4000000 in
def T_X11_fault_1 : List (tb_S × tb_l) := []
set_option maxRecDepth 200000 in
set_option maxHeartbeats 4000000 in
theorem m_X11_fault_1 {l : Launch} : tb_Met l vwCl sa_Ts tb_Z0 yX11_fault cX11_fault 1 (some .int) 2 120 K_X11_fault_1 := tb_method (by decide) [4] (t_X11_fault [] ) T_X11_fault_1 [] 6000 (List.forall_mem_cons.mpr ⟨dX11_fault_4, fun _ h => absurd h List.not_mem_nil⟩) (h_X11_fault [] 2 120 (by decide) (by decide)  ) (by decide) (by decide +kernel)
noncomputable def t_X12_fault (mod : List (Nat × Nat × Nat))  : List (Nat × tb_op) := [(0, to_then 1 (to_aload 0 1) (to_then 2 (to_int (0) 1) (to_put tb_Z0 tb_RT0 mod [] 12 0 .int))), (5, to_then 6 (to_aload 0 1) (to_get tb_Z0 [] 12 10))]
set_option maxRecDepth 200000 in
set_option maxHeartbeats 4000000 in
theorem h_X12_fault {l : Launch} (mod : List (Nat × Nat × Nat)) (fr lc : Nat) (hfr : 1 + 1 ≤ fr) (hlc : 8 + (2 + 11) + 20 ≤ lc)   : ∀ (p : Program) (e : Env) (s : State) (m : MethodId) (args : Array Value) (below : List Frame) (meth : Method) (c : Code) (Q : State → Prop) (D : va_G) (dA : Nat → ClassId) (A : Nat → Prop) (n0 : Nat) (V0 : sa_V) (E : tb_E), sa_C p s m args c D dA A 1 vwCl sa_Ts cX12_fault yX12_fault.cls → sa_U D vwCl dA s → tb_Ou A s s.heap → tb_z E = tb_Z0 → tb_mod E = mod → ∀ q ∈ t_X12_fault mod , tb_snd p l e { frames := fr, cells := 0, slots := 0, locals := lc } s m args below meth c Q D dA A 1 vwCl n0 V0 E q.1 q.2 := fun p e s m args below meth c Q D dA A n0 V0 E C0 hU hO hz hm => List.forall_mem_cons.mpr ⟨tn_then (tn_aload_n C0 dX12_fault_0) (tn_then (tn_iconst C0 dX12_fault_1) (tn_put C0 hz hcv0 hrt0 hm kcX12 dX12_fault_2 (by decide) tv_1261 rfl rfl)), List.forall_mem_cons.mpr ⟨tn_then (tn_aload_n C0 dX12_fault_5) (tn_get C0 hz hcv0 kcX12 dX12_fault_6 (by decide) tv_1271), fun _ h => absurd h List.not_mem_nil⟩⟩
set_option maxRecDepth 200000 in
set_option maxHeartbeats 4000000 in
def K_X12_fault_1 : tb_K := ([.inr (.inl (some 1))], [], [], [(0, 0), (1180591620717411303424, 1180591620717411303424)], [(some (.inl (2, 0)), [], [], [(0, 0), (1180591620717411303424, 1180591620717411303424), (0, 4)])], [(0, 0, 0)])
set_option maxRecDepth 200000 in
set_option maxHeartbeats 4000000 in
def T_X12_fault_1 : List (tb_S × tb_l) := []
set_option maxRecDepth 200000 in
set_option maxHeartbeats 4000000 in
theorem m_X12_fault_1 {l : Launch} : tb_Met l vwCl sa_Ts tb_Z0 yX12_fault cX12_fault 1 (some .int) 2 120 K_X12_fault_1 := tb_method (by decide) [9] (t_X12_fault [(0, 0, 0)] ) T_X12_fault_1 [] 6000 (List.forall_mem_cons.mpr ⟨dX12_fault_9, fun _ h => absurd h List.not_mem_nil⟩) (h_X12_fault [(0, 0, 0)] 2 120 (by decide) (by decide)  ) (by decide) (by decide +kernel)
set_option maxRecDepth 200000 in
set_option maxHeartbeats 4000000 in
def K_X12_isIn_7 : tb_K := ([.inl (1, 0), .inl (2, 0), .inl (3, 0)], [], [], [(0, 0), (-2147483648, 2147483647), (0, 0), (-1, 5)], [(some (.inl (4, 0)), [], [], [(0, 0), (-2147483648, 2147483647), (0, 0), (-1, 5), (0, 0)]), (some (.inl (4, 0)), [], [], [(0, 0), (0, 5), (0, 0), (0, 5), (1, 1)])], [])
set_option maxRecDepth 200000 in
set_option maxHeartbeats 4000000 in
def T_X12_isIn_7 : List (tb_S × tb_l) := []
set_option maxRecDepth 200000 in
set_option maxHeartbeats 4000000 in
theorem m_X12_isIn_7 {l : Launch} : tb_Met l vwCl sa_Ts tb_Z0 yX12_isIn cX12_isIn 3 (some .boolean) 2 120 K_X12_isIn_7 := tb_method (by decide) [15] (t_X12_isIn [] ) T_X12_isIn_7 [] 6000 (List.forall_mem_cons.mpr ⟨dX12_isIn_15, fun _ h => absurd h List.not_mem_nil⟩) (h_X12_isIn [] 2 120 (by decide) (by decide)  ) (by decide) (by decide +kernel)
noncomputable def t_X12_isThing (mod : List (Nat × Nat × Nat)) (L10 : List tb_K) : List (Nat × tb_op) := [(0, to_then 1 (to_iload 1 1) (to_then 2 (to_int (0) 1) (to_then 3 (to_aload 0 1) (to_get tb_Z0 [] 12 14)))), (6, to_then 7 (to_int (0) 1) (to_ald tb_Z0 [] 0)), (8, to_then 9 (to_int (1) 1) (to_sub)), (10, to_cs tb_Z0 mod (tb_gS 0 0) L10)]
set_option maxRecDepth 200000 in
set_option maxHeartbeats 4000000 in
theorem h_X12_isThing {l : Launch} (mod : List (Nat × Nat × Nat)) (fr lc : Nat) (hfr : 1 + 1 ≤ fr) (hlc : 8 + (2 + 11) + 20 ≤ lc) (L10 : List tb_K) (h10 : tb_ML l yX12_isIn cX12_isIn 3 (some .boolean) fr lc 3 L10) : ∀ (p : Program) (e : Env) (s : State) (m : MethodId) (args : Array Value) (below : List Frame) (meth : Method) (c : Code) (Q : State → Prop) (D : va_G) (dA : Nat → ClassId) (A : Nat → Prop) (n0 : Nat) (V0 : sa_V) (E : tb_E), sa_C p s m args c D dA A 2 vwCl sa_Ts cX12_isThing yX12_isThing.cls → sa_U D vwCl dA s → tb_Ou A s s.heap → tb_z E = tb_Z0 → tb_mod E = mod → ∀ q ∈ t_X12_isThing mod L10, tb_snd p l e { frames := fr, cells := 0, slots := 0, locals := lc } s m args below meth c Q D dA A 2 vwCl n0 V0 E q.1 q.2 := fun p e s m args below meth c Q D dA A n0 V0 E C0 hU hO hz hm => List.forall_mem_cons.mpr ⟨tn_then (tn_iload_n C0 dX12_isThing_0) (tn_then (tn_iconst C0 dX12_isThing_1) (tn_then (tn_aload_n C0 dX12_isThing_2) (tn_get C0 hz hcv0 kcX12 dX12_isThing_3 (by decide) tv_1275))), List.forall_mem_cons.mpr ⟨tn_then (tn_iconst C0 dX12_isThing_6) (tn_iald C0 hz hcv0 dX12_isThing_7), List.forall_mem_cons.mpr ⟨tn_then (tn_iconst C0 dX12_isThing_8) (tn_sub C0 dX12_isThing_9), List.forall_mem_cons.mpr ⟨tn_cS C0 hz hm hU hO h10 tv_1481 dX12_isThing_10 tv_1479 tv_1480 tv_13 yb_X12_isIn (Nat.le_refl _) (Nat.le_refl _), fun _ h => absurd h List.not_mem_nil⟩⟩⟩⟩
