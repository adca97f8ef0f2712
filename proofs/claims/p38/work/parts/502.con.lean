noncomputable def t_X2_cureOf (mod : List (Nat × Nat × Nat))  : List (Nat × tb_op) := [(0, to_then 1 (to_aload 0 1) (to_get tb_Z0 [] 2 12)), (4, to_then 5 (to_iload 1 1) (to_then 6 (to_int (3) 1) (to_bin tf_mul))), (7, to_then 8 (to_iload 2 1) (to_bin tf_add)), (9, to_ald tb_Z0 [] 0)]
set_option maxRecDepth 200000 in
set_option maxHeartbeats 4000000 in
theorem h_X2_cureOf {l : Launch} (mod : List (Nat × Nat × Nat)) (fr lc : Nat) (hfr : 1 + 1 ≤ fr) (hlc : 8 + (2 + 11) + 20 ≤ lc)   : ∀ (p : Program) (e : Env) (s : State) (m : MethodId) (args : Array Value) (below : List Frame) (meth : Method) (c : Code) (Q : State → Prop) (D : va_G) (dA : Nat → ClassId) (A : Nat → Prop) (n0 : Nat) (V0 : sa_V) (E : tb_E), sa_C p s m args c D dA A 3 vwCl sa_Ts cX2_cureOf yX2_cureOf.cls → sa_U D vwCl dA s → tb_Ou A s s.heap → tb_z E = tb_Z0 → tb_mod E = mod → ∀ q ∈ t_X2_cureOf mod , tb_snd p l e { frames := fr, cells := 0, slots := 0, locals := lc } s m args below meth c Q D dA A 3 vwCl n0 V0 E q.1 q.2 := fun p e s m args below meth c Q D dA A n0 V0 E C0 hU hO hz hm => List.forall_mem_cons.mpr ⟨tn_then (tn_aload_n C0 dX2_cureOf_0) (tn_get C0 hz hcv0 kcX2 dX2_cureOf_1 (by decide) tv_95), List.forall_mem_cons.mpr ⟨tn_then (tn_iload_n C0 dX2_cureOf_4) (tn_then (tn_iconst C0 dX2_cureOf_5) (tn_imul C0 tf_mul_ok dX2_cureOf_6)), List.forall_mem_cons.mpr ⟨tn_then (tn_iload_n C0 dX2_cureOf_7) (tn_iadd C0 tf_add_ok dX2_cureOf_8), List.forall_mem_cons.mpr ⟨tn_iald C0 hz hcv0 dX2_cureOf_9, fun _ h => absurd h List.not_mem_nil⟩⟩⟩⟩
set_option maxRecDepth 200000 in
set_option maxHeartbeats 4000000 in
def K_X2_cureOf_1 : tb_K := ([.inr (.inl (some 1)), .inl (2, 0), .inl (3, 0)], [], [], [(0, 0), (1180591620717411303452, 1180591620717411303452), (0, 7), (0, 2)], [(some (.inl (4, 0)), [], [], [(0, 0), (1180591620717411303452, 1180591620717411303452), (0, 7), (0, 2), (-2147483648, 2147483647)])], [])
set_option maxRecDepth 200000 in
set_option maxHeartbeats 4000000 in
def T_X2_cureOf_1 : List (tb_S × tb_l) := []
set_option maxRecDepth 200000 in
set_option maxHeartbeats 4000000 in
theorem m_X2_cureOf_1 {l : Launch} : tb_Met l vwCl sa_Ts tb_Z0 yX2_cureOf cX2_cureOf 3 (some .int) 2 120 K_X2_cureOf_1 := tb_method (by decide) [10] (t_X2_cureOf [] ) T_X2_cureOf_1 [] 6000 (List.forall_mem_cons.mpr ⟨dX2_cureOf_10, fun _ h => absurd h List.not_mem_nil⟩) (h_X2_cureOf [] 2 120 (by decide) (by decide)  ) (by decide) (by decide +kernel)
noncomputable def t_X11_takeText (mod : List (Nat × Nat × Nat))  : List (Nat × tb_op) := [(0, to_then 1 (to_aload 0 1) (to_get tb_Z0 [] 11 0)), (4, to_then 5 (to_int (0) 1) (to_put tb_Z0 tb_RT0 mod [] 0 1 .int)), (8, to_then 9 (to_aload 0 1) (to_then 10 (to_aload 1 1) (to_get tb_Z0 [] 6 8))), (13, to_put tb_Z0 tb_RT0 mod [] 11 13 .int)]
set_option maxRecDepth 200000 in
set_option maxHeartbeats 4000000 in
theorem h_X11_takeText {l : Launch} (mod : List (Nat × Nat × Nat)) (fr lc : Nat) (hfr : 1 + 1 ≤ fr) (hlc : 8 + (2 + 11) + 20 ≤ lc)   : ∀ (p : Program) (e : Env) (s : State) (m : MethodId) (args : Array Value) (below : List Frame) (meth : Method) (c : Code) (Q : State → Prop) (D : va_G) (dA : Nat → ClassId) (A : Nat → Prop) (n0 : Nat) (V0 : sa_V) (E : tb_E), sa_C p s m args c D dA A 2 vwCl sa_Ts cX11_takeText yX11_takeText.cls → sa_U D vwCl dA s → tb_Ou A s s.heap → tb_z E = tb_Z0 → tb_mod E = mod → ∀ q ∈ t_X11_takeText mod , tb_snd p l e { frames := fr, cells := 0, slots := 0, locals := lc } s m args below meth c Q D dA A 2 vwCl n0 V0 E q.1 q.2 := fun p e s m args below meth c Q D dA A n0 V0 E C0 hU hO hz hm => List.forall_mem_cons.mpr ⟨tn_then (tn_aload_n C0 dX11_takeText_0) (tn_get C0 hz hcv0 kcX11 dX11_takeText_1 (by decide) tv_422), List.forall_mem_cons.mpr ⟨tn_then (tn_iconst C0 dX11_takeText_4) (tn_put C0 hz hcv0 hrt0 hm kcX0 dX11_takeText_5 (by decide) tv_40 rfl rfl), List.forall_mem_cons.mpr ⟨tn_then (tn_aload_n C0 dX11_takeText_8) (tn_then (tn_aload_n C0 dX11_takeText_9) (tn_get C0 hz hcv0 kcX6 dX11_takeText_10 (by decide) tv_303)), List.forall_mem_cons.mpr ⟨tn_put C0 hz hcv0 hrt0 hm kcX11 dX11_takeText_13 (by decide) tv_435 rfl rfl, fun _ h => absurd h List.not_mem_nil⟩⟩⟩⟩
set_option maxRecDepth 200000 in
set_option maxHeartbeats 4000000 in
def K_X11_takeText_1 : tb_K := ([.inr (.inl (some 1)), .inr (.inl (some 2))], [], [], [(0, 0), (1180591620717411303451, 1180591620717411303451), (1180591620717411303441, 1180591620717411303441)], [(none, [(1, (0, 0), .inr (.inl (some 3))), (3, (0, 1), .inl (4, 0))], [], [(0, 0), (1180591620717411303451, 1180591620717411303451), (1180591620717411303441, 1180591620717411303441), (1180591620717411303443, 1180591620717411303443), (0, 0)])], [(19, 1, 1), (27, 13, 13)])
set_option maxRecDepth 200000 in
set_option maxHeartbeats 4000000 in
def T_X11_takeText_1 : List (tb_S × tb_l) := []
set_option maxRecDepth 200000 in
set_option maxHeartbeats 4000000 in
theorem m_X11_takeText_1 {l : Launch} : tb_Met l vwCl sa_Ts tb_Z0 yX11_takeText cX11_takeText 2 none 2 120 K_X11_takeText_1 := tb_method (by decide) [16] (t_X11_takeText [(19, 1, 1), (27, 13, 13)] ) T_X11_takeText_1 [] 6000 (List.forall_mem_cons.mpr ⟨dX11_takeText_16, fun _ h => absurd h List.not_mem_nil⟩) (h_X11_takeText [(19, 1, 1), (27, 13, 13)] 2 120 (by decide) (by decide)  ) (by decide) (by decide +kernel)
noncomputable def t_X12_take (mod : List (Nat × Nat × Nat))  : List (Nat × tb_op) := [(0, to_then 1 (to_aload 0 1) (to_get tb_Z0 [] 12 2)), (4, to_istore 2 1 1), (5, to_then 6 (to_aload 0 1) (to_then 7 (to_int (0) 1) (to_put tb_Z0 tb_RT0 mod [] 12 2 .int))), (10, to_iload 1 1)]
set_option maxRecDepth 200000 in
set_option maxHeartbeats 4000000 in
theorem h_X12_take {l : Launch} (mod : List (Nat × Nat × Nat)) (fr lc : Nat) (hfr : 1 + 1 ≤ fr) (hlc : 8 + (2 + 11) + 20 ≤ lc)   : ∀ (p : Program) (e : Env) (s : State) (m : MethodId) (args : Array Value) (below : List Frame) (meth : Method) (c : Code) (Q : State → Prop) (D : va_G) (dA : Nat → ClassId) (A : Nat → Prop) (n0 : Nat) (V0 : sa_V) (E : tb_E), sa_C p s m args c D dA A 2 vwCl sa_Ts cX12_take yX12_take.cls → sa_U D vwCl dA s → tb_Ou A s s.heap → tb_z E = tb_Z0 → tb_mod E = mod → ∀ q ∈ t_X12_take mod , tb_snd p l e { frames := fr, cells := 0, slots := 0, locals := lc } s m args below meth c Q D dA A 2 vwCl n0 V0 E q.1 q.2 := fun p e s m args below meth c Q D dA A n0 V0 E C0 hU hO hz hm => List.forall_mem_cons.mpr ⟨tn_then (tn_aload_n C0 dX12_take_0) (tn_get C0 hz hcv0 kcX12 dX12_take_1 (by decide) tv_1263), List.forall_mem_cons.mpr ⟨tn_istore_n C0 dX12_take_4, List.forall_mem_cons.mpr ⟨tn_then (tn_aload_n C0 dX12_take_5) (tn_then (tn_iconst C0 dX12_take_6) (tn_put C0 hz hcv0 hrt0 hm kcX12 dX12_take_7 (by decide) tv_1263 rfl rfl)), List.forall_mem_cons.mpr ⟨tn_iload_n C0 dX12_take_10, fun _ h => absurd h List.not_mem_nil⟩⟩⟩⟩
set_option maxRecDepth 200000 in
set_option maxHeartbeats 4000000 in
def K_X12_take_1 : tb_K := ([.inr (.inl (some 1))], [], [], [(0, 0), (1180591620717411303424, 1180591620717411303424)], [(some (.inl (2, 0)), [(1, (0, 2), .inl (3, 0))], [], [(0, 0), (1180591620717411303424, 1180591620717411303424), (0, 940), (0, 0)])], [(0, 2, 2)])
set_option maxRecDepth 200000 in
set_option maxHeartbeats 4000000 in
def T_X12_take_1 : List (tb_S × tb_l) := []
set_option maxRecDepth 200000 in
set_option maxHeartbeats 4000000 in
theorem m_X12_take_1 {l : Launch} : tb_Met l vwCl sa_Ts tb_Z0 yX12_take cX12_take 2 (some .int) 2 120 K_X12_take_1 := tb_method (by decide) [11] (t_X12_take [(0, 2, 2)] ) T_X12_take_1 [] 6000 (List.forall_mem_cons.mpr ⟨dX12_take_11, fun _ h => absurd h List.not_mem_nil⟩) (h_X12_take [(0, 2, 2)] 2 120 (by decide) (by decide)  ) (by decide) (by decide +kernel)
noncomputable def t_X12_isLetter (mod : List (Nat × Nat × Nat))  : List (Nat × tb_op) := [(0, to_then 1 (to_iload 0 1) (to_then 3 (to_int (97) 2) (to_icmp tr_lt (sr_flip tr_le) 16))), (6, to_then 7 (to_iload 0 1) (to_then 9 (to_int (122) 2) (to_icmp (sr_flip tr_lt) tr_le 16))), (12, to_then 13 (to_int (1) 1) (to_goto 17)), (16, to_int (0) 1)]
set_option maxRecDepth 200000 in
set_option maxHeartbeats 4000000 in
theorem h_X12_isLetter {l : Launch} (mod : List (Nat × Nat × Nat)) (fr lc : Nat) (hfr : 1 + 1 ≤ fr) (hlc : 8 + (2 + 11) + 20 ≤ lc)   : ∀ (p : Program) (e : Env) (s : State) (m : MethodId) (args : Array Value) (below : List Frame) (meth : Method) (c : Code) (Q : State → Prop) (D : va_G) (dA : Nat → ClassId) (A : Nat → Prop) (n0 : Nat) (V0 : sa_V) (E : tb_E), sa_C p s m args c D dA A 1 vwCl sa_Ts cX12_isLetter yX12_isLetter.cls → sa_U D vwCl dA s → tb_Ou A s s.heap → tb_z E = tb_Z0 → tb_mod E = mod → ∀ q ∈ t_X12_isLetter mod , tb_snd p l e { frames := fr, cells := 0, slots := 0, locals := lc } s m args below meth c Q D dA A 1 vwCl n0 V0 E q.1 q.2 := fun p e s m args below meth c Q D dA A n0 V0 E C0 hU hO hz hm => List.forall_mem_cons.mpr ⟨tn_then (tn_iload_n C0 dX12_isLetter_0) (tn_then (tn_bipush C0 dX12_isLetter_1 (by decide)) (tx_icmp_lt C0 dX12_isLetter_3 (by decide))), List.forall_mem_cons.mpr ⟨tn_then (tn_iload_n C0 dX12_isLetter_6) (tn_then (tn_bipush C0 dX12_isLetter_7 (by decide)) (tx_icmp_gt C0 dX12_isLetter_9 (by decide))), List.forall_mem_cons.mpr ⟨tn_then (tn_iconst C0 dX12_isLetter_12) (tn_goto C0 dX12_isLetter_13 (by decide)), List.forall_mem_cons.mpr ⟨tn_iconst C0 dX12_isLetter_16, fun _ h => absurd h List.not_mem_nil⟩⟩⟩⟩
set_option maxRecDepth 200000 in
set_option maxHeartbeats 4000000 in
def K_X12_isLetter_1 : tb_K := ([.inl (1, 0)], [], [], [(0, 0), (-2147483648, 2147483647)], [(some (.inl (2, 0)), [], [], [(0, 0), (-2147483648, 2147483647), (0, 0)]), (some (.inl (2, 0)), [], [], [(0, 0), (97, 122), (1, 1)])], [])
set_option maxRecDepth 200000 in
set_option maxHeartbeats 4000000 in
def T_X12_isLetter_1 : List (tb_S × tb_l) := []
set_option maxRecDepth 200000 in
set_option maxHeartbeats 4000000 in
theorem m_X12_isLetter_1 {l : Launch} : tb_Met l vwCl sa_Ts tb_Z0 yX12_isLetter cX12_isLetter 1 (some .boolean) 2 120 K_X12_isLetter_1 := tb_method (by decide) [17] (t_X12_isLetter [] ) T_X12_isLetter_1 [] 6000 (List.forall_mem_cons.mpr ⟨dX12_isLetter_17, fun _ h => absurd h List.not_mem_nil⟩) (h_X12_isLetter [] 2 120 (by decide) (by decide)  ) (by decide) (by decide +kernel)
noncomputable def t_X12_isDigit (mod : List (Nat × Nat × Nat))  : List (Nat × tb_op) := [(0, to_then 1 (to_iload 0 1) (to_then 3 (to_int (48) 2) (to_icmp tr_lt (sr_flip tr_le) 16))), (6, to_then 7 (to_iload 0 1) (to_then 9 (to_int (57) 2) (to_icmp (sr_flip tr_lt) tr_le 16))), (12, to_then 13 (to_int (1) 1) (to_goto 17)), (16, to_int (0) 1)]
set_option maxRecDepth 200000 in
set_option maxHeartbeats 4000000 in
theorem h_X12_isDigit {l : Launch} (mod : List (Nat × Nat × Nat)) (fr lc : Nat) (hfr : 1 + 1 ≤ fr) (hlc : 8 + (2 + 11) + 20 ≤ lc)   : ∀ (p : Program) (e : Env) (s : State) (m : MethodId) (args : Array Value) (below : List Frame) (meth : Method) (c : Code) (Q : State → Prop) (D : va_G) (dA : Nat → ClassId) (A : Nat → Prop) (n0 : Nat) (V0 : sa_V) (E : tb_E), sa_C p s m args c D dA A 1 vwCl sa_Ts cX12_isDigit yX12_isDigit.cls → sa_U D vwCl dA s → tb_Ou A s s.heap → tb_z E = tb_Z0 → tb_mod E = mod → ∀ q ∈ t_X12_isDigit mod , tb_snd p l e { frames := fr, cells := 0, slots := 0, locals := lc } s m args below meth c Q D dA A 1 vwCl n0 V0 E q.1 q.2 := fun p e s m args below meth c Q D dA A n0 V0 E C0 hU hO hz hm => List.forall_mem_cons.mpr ⟨tn_then (tn_iload_n C0 dX12_isDigit_0) (tn_then (tn_bipush C0 dX12_isDigit_1 (by decide)) (tx_icmp_lt C0 dX12_isDigit_3 (by decide))), List.forall_mem_cons.mpr ⟨tn_then (tn_iload_n C0 dX12_isDigit_6) (tn_then (tn_bipush C0 dX12_isDigit_7 (by decide)) (tx_icmp_gt C0 dX12_isDigit_9 (by decide))), List.forall_mem_cons.mpr ⟨tn_then (tn_iconst C0 dX12_isDigit_12) (tn_goto C0 dX12_isDigit_13 (by decide)), List.forall_mem_cons.mpr ⟨tn_iconst C0 dX12_isDigit_16, fun _ h => absurd h List.not_mem_nil⟩⟩⟩⟩
set_option maxRecDepth 200000 in
set_option maxHeartbeats 4000000 in
def K_X12_isDigit_1 : tb_K := ([.inl (1, 0)], [], [], [(0, 0), (-2147483648, 2147483647)], [(some (.inl (2, 0)), [], [], [(0, 0), (-2147483648, 2147483647), (0, 0)]), (some (.inl (2, 0)), [], [], [(0, 0), (48, 57), (1, 1)])], [])
set_option maxRecDepth 200000 in
set_option maxHeartbeats 4000000 in
def T_X12_isDigit_1 : List (tb_S × tb_l) := []
set_option maxRecDepth 200000 in
set_option maxHeartbeats 4000000 in
theorem m_X12_isDigit_1 {l : Launch} : tb_Met l vwCl sa_Ts tb_Z0 yX12_isDigit cX12_isDigit 1 (some .boolean) 2 120 K_X12_isDigit_1 := tb_method (by decide) [17] (t_X12_isDigit [] ) T_X12_isDigit_1 [] 6000 (List.forall_mem_cons.mpr ⟨dX12_isDigit_17, fun _ h => absurd h List.not_mem_nil⟩) (h_X12_isDigit [] 2 120 (by decide) (by decide)  ) (by decide) (by decide +kernel)
noncomputable def t_X12_tapeAt (mod : List (Nat × Nat × Nat))  : List (Nat × tb_op) := [(0, to_then 1 (to_iload 1 1) (to_then 2 (to_aload 0 1) (to_get tb_Z0 [] 12 3))), (5, to_icmp (sr_flip tr_le) tr_lt 17), (8, to_then 9 (to_aload 0 1) (to_get tb_Z0 [] 12 1)), (12, to_then 13 (to_iload 1 1) (to_ald tb_Z0 [] 0)), (14, to_goto 18), (17, to_int (0) 1)]
set_option maxRecDepth 200000 in
set_option maxHeartbeats 4000000 in
theorem h_X12_tapeAt {l : Launch} (mod : List (Nat × Nat × Nat)) (fr lc : Nat) (hfr : 1 + 1 ≤ fr) (hlc : 8 + (2 + 11) + 20 ≤ lc)   : ∀ (p : Program) (e : Env) (s : State) (m : MethodId) (args : Array Value) (below : List Frame) (meth : Method) (c : Code) (Q : State → Prop) (D : va_G) (dA : Nat → ClassId) (A : Nat → Prop) (n0 : Nat) (V0 : sa_V) (E : tb_E), sa_C p s m args c D dA A 2 vwCl sa_Ts cX12_tapeAt yX12_tapeAt.cls → sa_U D vwCl dA s → tb_Ou A s s.heap → tb_z E = tb_Z0 → tb_mod E = mod → ∀ q ∈ t_X12_tapeAt mod , tb_snd p l e { frames := fr, cells := 0, slots := 0, locals := lc } s m args below meth c Q D dA A 2 vwCl n0 V0 E q.1 q.2 := fun p e s m args below meth c Q D dA A n0 V0 E C0 hU hO hz hm => List.forall_mem_cons.mpr ⟨tn_then (tn_iload_n C0 dX12_tapeAt_0) (tn_then (tn_aload_n C0 dX12_tapeAt_1) (tn_get C0 hz hcv0 kcX12 dX12_tapeAt_2 (by decide) tv_1264)), List.forall_mem_cons.mpr ⟨tx_icmp_ge C0 dX12_tapeAt_5 (by decide), List.forall_mem_cons.mpr ⟨tn_then (tn_aload_n C0 dX12_tapeAt_8) (tn_get C0 hz hcv0 kcX12 dX12_tapeAt_9 (by decide) tv_1262), List.forall_mem_cons.mpr ⟨tn_then (tn_iload_n C0 dX12_tapeAt_12) (tn_iald C0 hz hcv0 dX12_tapeAt_13), List.forall_mem_cons.mpr ⟨tn_goto C0 dX12_tapeAt_14 (by decide), List.forall_mem_cons.mpr ⟨tn_iconst C0 dX12_tapeAt_17, fun _ h => absurd h List.not_mem_nil⟩⟩⟩⟩⟩⟩
set_option maxRecDepth 200000 in
set_option maxHeartbeats 4000000 in
def K_X12_tapeAt_1 : tb_K := ([.inr (.inl (some 1)), .inl (2, 0)], [], [], [(0, 0), (1180591620717411303424, 1180591620717411303424), (0, 899)], [(some (.inl (3, 0)), [], [], [(0, 0), (1180591620717411303424, 1180591620717411303424), (0, 899), (0, 0)]), (some (.inl (3, 0)), [], [], [(0, 0), (1180591620717411303424, 1180591620717411303424), (0, 899), (0, 255)])], [])
set_option maxRecDepth 200000 in
set_option maxHeartbeats 4000000 in
def T_X12_tapeAt_1 : List (tb_S × tb_l) := []
set_option maxRecDepth 200000 in
set_option maxHeartbeats 4000000 in
theorem m_X12_tapeAt_1 {l : Launch} : tb_Met l vwCl sa_Ts tb_Z0 yX12_tapeAt cX12_tapeAt 2 (some .int) 2 120 K_X12_tapeAt_1 := tb_method (by decide) [18] (t_X12_tapeAt [] ) T_X12_tapeAt_1 [] 6000 (List.forall_mem_cons.mpr ⟨dX12_tapeAt_18, fun _ h => absurd h List.not_mem_nil⟩) (h_X12_tapeAt [] 2 120 (by decide) (by decide)  ) (by decide) (by decide +kernel)
set_option maxRecDepth 200000 in
set_option maxHeartbeats 4000000 in
def K_X12_tapeAt_2 : tb_K := ([.inr (.inl (some 1)), .inl (2, 0)], [], [], [(0, 0), (1180591620717411303424, 1180591620717411303424), (1, 900)], [(some (.inl (3, 0)), [], [], [(0, 0), (1180591620717411303424, 1180591620717411303424), (1, 900), (0, 0)]), (some (.inl (3, 0)), [], [], [(0, 0), (1180591620717411303424, 1180591620717411303424), (1, 900), (0, 255)])], [])
set_option maxRecDepth 200000 in
set_option maxHeartbeats 4000000 in
def T_X12_tapeAt_2 : List (tb_S × tb_l) := []
set_option maxRecDepth 200000 in
set_option maxHeartbeats 4000000 in
theorem m_X12_tapeAt_2 {l : Launch} : tb_Met l vwCl sa_Ts tb_Z0 yX12_tapeAt cX12_tapeAt 2 (some .int) 2 120 K_X12_tapeAt_2 := tb_method (by decide) [18] (t_X12_tapeAt [] ) T_X12_tapeAt_2 [] 6000 (List.forall_mem_cons.mpr ⟨dX12_tapeAt_18, fun _ h => absurd h List.not_mem_nil⟩) (h_X12_tapeAt [] 2 120 (by decide) (by decide)  ) (by decide) (by decide +kernel)
set_option maxRecDepth 200000 in
set_option maxHeartbeats 4000000 in
def K_X12_tapeAt_3 : tb_K := ([.inr (.inl (some 1)), .inl (2, 0)], [], [], [(0, 0), (1180591620717411303424, 1180591620717411303424), (2, 901)], [(some (.inl (3, 0)), [], [], [(0, 0), (1180591620717411303424, 1180591620717411303424), (2, 901), (0, 0)]), (some (.inl (3, 0)), [], [], [(0, 0), (1180591620717411303424, 1180591620717411303424), (2, 901), (0, 255)])], [])
set_option maxRecDepth 200000 in
set_option maxHeartbeats 4000000 in
def T_X12_tapeAt_3 : List (tb_S × tb_l) := []
set_option maxRecDepth 200000 in
set_option maxHeartbeats 4000000 in
theorem m_X12_tapeAt_3 {l : Launch} : tb_Met l vwCl sa_Ts tb_Z0 yX12_tapeAt cX12_tapeAt 2 (some .int) 2 120 K_X12_tapeAt_3 := tb_method (by decide) [18] (t_X12_tapeAt [] ) T_X12_tapeAt_3 [] 6000 (List.forall_mem_cons.mpr ⟨dX12_tapeAt_18, fun _ h => absurd h List.not_mem_nil⟩) (h_X12_tapeAt [] 2 120 (by decide) (by decide)  ) (by decide) (by decide +kernel)
set_option maxRecDepth 200000 in
set_option maxHeartbeats 4000000 in
def K_X12_tapeAt_4 : tb_K := ([.inr (.inl (some 1)), .inl (2, 0)], [], [], [(0, 0), (1180591620717411303424, 1180591620717411303424), (3, 902)], [(some (.inl (3, 0)), [], [], [(0, 0), (1180591620717411303424, 1180591620717411303424), (3, 902), (0, 0)]), (some (.inl (3, 0)), [], [], [(0, 0), (1180591620717411303424, 1180591620717411303424), (3, 902), (0, 255)])], [])
set_option maxRecDepth 200000 in
set_option maxHeartbeats 4000000 in
def T_X12_tapeAt_4 : List (tb_S × tb_l) := []
set_option maxRecDepth 200000 in
set_option maxHeartbeats 4000000 in
theorem m_X12_tapeAt_4 {l : Launch} : tb_Met l vwCl sa_Ts tb_Z0 yX12_tapeAt cX12_tapeAt 2 (some .int) 2 120 K_X12_tapeAt_4 := tb_method (by decide) [18] (t_X12_tapeAt [] ) T_X12_tapeAt_4 [] 6000 (List.forall_mem_cons.mpr ⟨dX12_tapeAt_18, fun _ h => absurd h List.not_mem_nil⟩) (h_X12_tapeAt [] 2 120 (by decide) (by decide)  ) (by decide) (by decide +kernel)
set_option maxRecDepth 200000 in
set_option maxHeartbeats 4000000 in
def K_X12_tapeAt_5 : tb_K := ([.inr (.inl (some 1)), .inl (2, 0)], [], [], [(0, 0), (1180591620717411303424, 1180591620717411303424), (4, 903)], [(some (.inl (3, 0)), [], [], [(0, 0), (1180591620717411303424, 1180591620717411303424), (4, 903), (0, 0)]), (some (.inl (3, 0)), [], [], [(0, 0), (1180591620717411303424, 1180591620717411303424), (4, 903), (0, 255)])], [])
set_option maxRecDepth 200000 in
set_option maxHeartbeats 4000000 in
def T_X12_tapeAt_5 : List (tb_S × tb_l) := []
set_option maxRecDepth 200000 in
set_option maxHeartbeats 4000000 in
theorem m_X12_tapeAt_5 {l : Launch} : tb_Met l vwCl sa_Ts tb_Z0 yX12_tapeAt cX12_tapeAt 2 (some .int) 2 120 K_X12_tapeAt_5 := tb_method (by decide) [18] (t_X12_tapeAt [] ) T_X12_tapeAt_5 [] 6000 (List.forall_mem_cons.mpr ⟨dX12_tapeAt_18, fun _ h => absurd h List.not_mem_nil⟩) (h_X12_tapeAt [] 2 120 (by decide) (by decide)  ) (by decide) (by decide +kernel)
set_option maxRecDepth 200000 in
set_option maxHeartbeats 4000000 in
def K_X12_tapeAt_6 : tb_K := ([.inr (.inl (some 1)), .inl (2, 0)], [], [], [(0, 0), (1180591620717411303424, 1180591620717411303424), (5, 904)], [(some (.inl (3, 0)), [], [], [(0, 0), (1180591620717411303424, 1180591620717411303424), (5, 904), (0, 0)]), (some (.inl (3, 0)), [], [], [(0, 0), (1180591620717411303424, 1180591620717411303424), (5, 904), (0, 255)])], [])
set_option maxRecDepth 200000 in
set_option maxHeartbeats 4000000 in
def T_X12_tapeAt_6 : List (tb_S × tb_l) := []
set_option maxRecDepth 200000 in
set_option maxHeartbeats 4000000 in
theorem m_X12_tapeAt_6 {l : Launch} : tb_Met l vwCl sa_Ts tb_Z0 yX12_tapeAt cX12_tapeAt 2 (some .int) 2 120 K_X12_tapeAt_6 := tb_method (by decide) [18] (t_X12_tapeAt [] ) T_X12_tapeAt_6 [] 6000 (List.forall_mem_cons.mpr ⟨dX12_tapeAt_18, fun _ h => absurd h List.not_mem_nil⟩) (h_X12_tapeAt [] 2 120 (by decide) (by decide)  ) (by decide) (by decide +kernel)
set_option maxRecDepth 200000 in
set_option maxHeartbeats 4000000 in
def K_X12_tapeAt_7 : tb_K := ([.inr (.inl (some 1)), .inl (2, 0)], [], [], [(0, 0), (1180591620717411303424, 1180591620717411303424), (6, 905)], [(some (.inl (3, 0)), [], [], [(0, 0), (1180591620717411303424, 1180591620717411303424), (6, 905), (0, 0)]), (some (.inl (3, 0)), [], [], [(0, 0), (1180591620717411303424, 1180591620717411303424), (6, 905), (0, 255)])], [])
set_option maxRecDepth 200000 in
set_option maxHeartbeats 4000000 in
def T_X12_tapeAt_7 : List (tb_S × tb_l) := []
set_option maxRecDepth 200000 in
set_option maxHeartbeats 4000000 in
theorem m_X12_tapeAt_7 {l : Launch} : tb_Met l vwCl sa_Ts tb_Z0 yX12_tapeAt cX12_tapeAt 2 (some .int) 2 120 K_X12_tapeAt_7 := tb_method (by decide) [18] (t_X12_tapeAt [] ) T_X12_tapeAt_7 [] 6000 (List.forall_mem_cons.mpr ⟨dX12_tapeAt_18, fun _ h => absurd h List.not_mem_nil⟩) (h_X12_tapeAt [] 2 120 (by decide) (by decide)  ) (by decide) (by decide +kernel)
set_option maxRecDepth 200000 in
set_option maxHeartbeats 4000000 in
def K_X12_tapeAt_8 : tb_K := ([.inr (.inl (some 1)), .inl (2, 0)], [], [], [(0, 0), (1180591620717411303424, 1180591620717411303424), (7, 940)], [(some (.inl (3, 0)), [], [], [(0, 0), (1180591620717411303424, 1180591620717411303424), (7, 940), (0, 0)]), (some (.inl (3, 0)), [], [], [(0, 0), (1180591620717411303424, 1180591620717411303424), (7, 939), (0, 255)])], [])
set_option maxRecDepth 200000 in
set_option maxHeartbeats 4000000 in
def T_X12_tapeAt_8 : List (tb_S × tb_l) := []
set_option maxRecDepth 200000 in
set_option maxHeartbeats 4000000 in
theorem m_X12_tapeAt_8 {l : Launch} : tb_Met l vwCl sa_Ts tb_Z0 yX12_tapeAt cX12_tapeAt 2 (some .int) 2 120 K_X12_tapeAt_8 := tb_method (by decide) [18] (t_X12_tapeAt [] ) T_X12_tapeAt_8 [] 6000 (List.forall_mem_cons.mpr ⟨dX12_tapeAt_18, fun _ h => absurd h List.not_mem_nil⟩) (h_X12_tapeAt [] 2 120 (by decide) (by decide)  ) (by decide) (by decide +kernel)
set_option maxRecDepth 200000 in
set_option maxHeartbeats 4000000 in
def K_X12_tapeAt_9 : tb_K := ([.inr (.inl (some 1)), .inl (2, 0)], [], [], [(0, 0), (1180591620717411303424, 1180591620717411303424), (7, 939)], [(some (.inl (3, 0)), [], [], [(0, 0), (1180591620717411303424, 1180591620717411303424), (7, 939), (0, 0)]), (some (.inl (3, 0)), [], [], [(0, 0), (1180591620717411303424, 1180591620717411303424), (7, 939), (0, 255)])], [])
set_option maxRecDepth 200000 in
set_option maxHeartbeats 4000000 in
def T_X12_tapeAt_9 : List (tb_S × tb_l) := []
set_option maxRecDepth 200000 in
set_option maxHeartbeats 4000000 in
theorem m_X12_tapeAt_9 {l : Launch} : tb_Met l vwCl sa_Ts tb_Z0 yX12_tapeAt cX12_tapeAt 2 (some .int) 2 120 K_X12_tapeAt_9 := tb_method (by decide) [18] (t_X12_tapeAt [] ) T_X12_tapeAt_9 [] 6000 (List.forall_mem_cons.mpr ⟨dX12_tapeAt_18, fun _ h => absurd h List.not_mem_nil⟩) (h_X12_tapeAt [] 2 120 (by decide) (by decide)  ) (by decide) (by decide +kernel)
