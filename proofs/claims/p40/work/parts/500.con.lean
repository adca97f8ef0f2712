def t_X12_come (mod : List (Nat × Nat × Nat))  : List (Nat × tb_op) := [(0, to_int (24) 2), (2, to_istore 3 2 1), (3, to_iload 2 1), (4, to_if tr_lt (sr_flip tr_le) 39), (7, to_aload 0 1), (8, to_get tb_Z0 [] 12 1), (11, to_aload 0 1), (12, to_get tb_Z0 [] 12 2), (15, to_iload 1 1), (16, to_iload 2 1), (17, to_bin tf_ushr), (18, to_int (255) 3), (21, to_bin tf_and), (22, to_iast tb_Z0 tb_RT0 mod []), (23, to_aload 0 1), (24, to_dup), (25, to_get tb_Z0 [] 12 2), (28, to_int (1) 1), (29, to_bin tf_add), (30, to_put tb_Z0 tb_RT0 mod [] 12 2 .int), (33, to_inc 3 2 (-8)), (36, to_goto 3)]
set_option maxRecDepth 200000 in
set_option maxHeartbeats 4000000 in
theorem h_X12_come {l : Launch} (mod : List (Nat × Nat × Nat)) (fr lc : Nat) (hfr : 1 + 1 ≤ fr) (hlc : 8 + (2 + 11) + 20 ≤ lc)   : ∀ (p : Program) (e : Env) (s : State) (m : MethodId) (args : Array Value) (below : List Frame) (meth : Method) (c : Code) (Q : State → Prop) (D : va_G) (dA : Nat → ClassId) (A : Nat → Prop) (n0 : Nat) (V0 : sa_V) (E : tb_E), sa_C p s m args c D dA A 3 vwCl sa_Ts cX12_come yX12_come.cls → sa_U D vwCl dA s → tb_z E = tb_Z0 → tb_mod E = mod → ∀ q ∈ t_X12_come mod , tb_snd p l e { frames := fr, cells := 0, slots := 0, locals := lc } s m args below meth c Q D dA A 3 vwCl n0 V0 E q.1 q.2 := fun p e s m args below meth c Q D dA A n0 V0 E C0 hU hz hm => List.forall_mem_cons.mpr ⟨tn_bipush C0 dX12_come_0 (by decide), List.forall_mem_cons.mpr ⟨tn_istore_n C0 dX12_come_2, List.forall_mem_cons.mpr ⟨tn_iload_n C0 dX12_come_3, List.forall_mem_cons.mpr ⟨tx_if_lt C0 dX12_come_4 (by decide), List.forall_mem_cons.mpr ⟨tn_aload_n C0 dX12_come_7, List.forall_mem_cons.mpr ⟨tn_get C0 hz hcv0 kcX12 dX12_come_8 (by decide) tv_1262, List.forall_mem_cons.mpr ⟨tn_aload_n C0 dX12_come_11, List.forall_mem_cons.mpr ⟨tn_get C0 hz hcv0 kcX12 dX12_come_12 (by decide) tv_1263, List.forall_mem_cons.mpr ⟨tn_iload_n C0 dX12_come_15, List.forall_mem_cons.mpr ⟨tn_iload_n C0 dX12_come_16, List.forall_mem_cons.mpr ⟨tn_iushr C0 tf_ushr_ok dX12_come_17, List.forall_mem_cons.mpr ⟨tn_sipush C0 dX12_come_18 (by decide), List.forall_mem_cons.mpr ⟨tn_iand C0 tf_and_ok dX12_come_21, List.forall_mem_cons.mpr ⟨tn_iast C0 hz hcv0 hrt0 hm dX12_come_22, List.forall_mem_cons.mpr ⟨tn_aload_n C0 dX12_come_23, List.forall_mem_cons.mpr ⟨tn_dup C0 dX12_come_24, List.forall_mem_cons.mpr ⟨tn_get C0 hz hcv0 kcX12 dX12_come_25 (by decide) tv_1263, List.forall_mem_cons.mpr ⟨tn_iconst C0 dX12_come_28, List.forall_mem_cons.mpr ⟨tn_iadd C0 tf_add_ok dX12_come_29, List.forall_mem_cons.mpr ⟨tn_put C0 hz hcv0 hrt0 hm kcX12 dX12_come_30 (by decide) tv_1263 rfl rfl, List.forall_mem_cons.mpr ⟨tn_inc C0 dX12_come_33, List.forall_mem_cons.mpr ⟨tn_goto C0 dX12_come_36 (by decide), fun _ h => absurd h List.not_mem_nil⟩⟩⟩⟩⟩⟩⟩⟩⟩⟩⟩⟩⟩⟩⟩⟩⟩⟩⟩⟩⟩⟩
set_option maxRecDepth 200000 in
set_option maxHeartbeats 4000000 in
def K_X12_come_1 : tb_K := ([.inr (.inl (some 1)), .inl (2, 0)], [(1, (0, 2), .inl (3, 0))], [], [(0, 0), (1180591620717411303492, 1180591620717411303492), (-2147483648, 2147483647), (0, 936)], [(none, [(1, (0, 2), .inl (3, 4))], [], [(0, 0), (1180591620717411303492, 1180591620717411303492), (-2147483648, 2147483647), (0, 936)])], [(68, 2, 2), (69, 0, 939)])
set_option maxRecDepth 200000 in
set_option maxHeartbeats 4000000 in
def T_X12_come_1 : List (tb_S × tb_l) := []
set_option maxRecDepth 200000 in
set_option maxHeartbeats 4000000 in
theorem m_X12_come_1 {l : Launch} : tb_Met l vwCl sa_Ts tb_Z0 yX12_come cX12_come 3 none 2 120 K_X12_come_1 := tb_method (by decide) [39] (t_X12_come [(68, 2, 2), (69, 0, 939)] ) T_X12_come_1 [] 6000 (List.forall_mem_cons.mpr ⟨dX12_come_39, fun _ h => absurd h List.not_mem_nil⟩) (h_X12_come [(68, 2, 2), (69, 0, 939)] 2 120 (by decide) (by decide)  ) (by decide) (by decide +kernel)
def t_X12_feed (mod : List (Nat × Nat × Nat)) (L22 : List tb_K) (L27 : List tb_K) (L32 : List tb_K) (L38 : List tb_K) (L44 : List tb_K) : List (Nat × tb_op) := [(0, to_aload 0 1), (1, to_int (0) 1), (2, to_put tb_Z0 tb_RT0 mod [] 12 0 .int), (5, to_aload 0 1), (6, to_get tb_Z0 [] 12 2), (9, to_int (20) 2), (11, to_bin tf_add), (12, to_int (940) 3), (15, to_icmp tr_le (sr_flip tr_lt) 20), (18, to_int (-1) 1), (20, to_aload 0 1), (21, to_iload 1 1), (22, to_cs tb_Z0 mod (tb_gV tb_Z0 12 2 0 0) L22), (25, to_aload 0 1), (26, to_iload 2 1), (27, to_cs tb_Z0 mod (tb_gV tb_Z0 12 2 0 0) L27), (30, to_aload 0 1), (31, to_iload 3 1), (32, to_cs tb_Z0 mod (tb_gV tb_Z0 12 2 0 0) L32), (35, to_aload 0 1), (36, to_iload 4 2), (38, to_cs tb_Z0 mod (tb_gV tb_Z0 12 2 0 0) L38), (41, to_aload 0 1), (42, to_iload 5 2), (44, to_cs tb_Z0 mod (tb_gV tb_Z0 12 2 0 0) L44), (47, to_aload 0 1), (48, to_get tb_Z0 [] 12 2)]
set_option maxRecDepth 200000 in
set_option maxHeartbeats 4000000 in
theorem h_X12_feed {l : Launch} (mod : List (Nat × Nat × Nat)) (fr lc : Nat) (hfr : 1 + 1 ≤ fr) (hlc : 8 + (2 + 11) + 20 ≤ lc) (L22 : List tb_K) (L27 : List tb_K) (L32 : List tb_K) (L38 : List tb_K) (L44 : List tb_K) (h22 : tb_ML l yX12_come cX12_come 3 none fr lc 2 L22) (h27 : tb_ML l yX12_come cX12_come 3 none fr lc 2 L27) (h32 : tb_ML l yX12_come cX12_come 3 none fr lc 2 L32) (h38 : tb_ML l yX12_come cX12_come 3 none fr lc 2 L38) (h44 : tb_ML l yX12_come cX12_come 3 none fr lc 2 L44) : ∀ (p : Program) (e : Env) (s : State) (m : MethodId) (args : Array Value) (below : List Frame) (meth : Method) (c : Code) (Q : State → Prop) (D : va_G) (dA : Nat → ClassId) (A : Nat → Prop) (n0 : Nat) (V0 : sa_V) (E : tb_E), sa_C p s m args c D dA A 6 vwCl sa_Ts cX12_feed yX12_feed.cls → sa_U D vwCl dA s → tb_z E = tb_Z0 → tb_mod E = mod → ∀ q ∈ t_X12_feed mod L22 L27 L32 L38 L44, tb_snd p l e { frames := fr, cells := 0, slots := 0, locals := lc } s m args below meth c Q D dA A 6 vwCl n0 V0 E q.1 q.2 := fun p e s m args below meth c Q D dA A n0 V0 E C0 hU hz hm => List.forall_mem_cons.mpr ⟨tn_aload_n C0 dX12_feed_0, List.forall_mem_cons.mpr ⟨tn_iconst C0 dX12_feed_1, List.forall_mem_cons.mpr ⟨tn_put C0 hz hcv0 hrt0 hm kcX12 dX12_feed_2 (by decide) tv_1261 rfl rfl, List.forall_mem_cons.mpr ⟨tn_aload_n C0 dX12_feed_5, List.forall_mem_cons.mpr ⟨tn_get C0 hz hcv0 kcX12 dX12_feed_6 (by decide) tv_1263, List.forall_mem_cons.mpr ⟨tn_bipush C0 dX12_feed_9 (by decide), List.forall_mem_cons.mpr ⟨tn_iadd C0 tf_add_ok dX12_feed_11, List.forall_mem_cons.mpr ⟨tn_sipush C0 dX12_feed_12 (by decide), List.forall_mem_cons.mpr ⟨tx_icmp_le C0 dX12_feed_15 (by decide), List.forall_mem_cons.mpr ⟨tn_iconst C0 dX12_feed_18, List.forall_mem_cons.mpr ⟨tn_aload_n C0 dX12_feed_20, List.forall_mem_cons.mpr ⟨tn_iload_n C0 dX12_feed_21, List.forall_mem_cons.mpr ⟨tn_cV C0 hz hm hU h22 tv_1405 dX12_feed_22 tv_1402 tv_1404 tq_X12_come tv_13 rfl yb_X12_come (Nat.le_refl _) (Nat.le_refl _), List.forall_mem_cons.mpr ⟨tn_aload_n C0 dX12_feed_25, List.forall_mem_cons.mpr ⟨tn_iload_n C0 dX12_feed_26, List.forall_mem_cons.mpr ⟨tn_cV C0 hz hm hU h27 tv_1405 dX12_feed_27 tv_1402 tv_1404 tq_X12_come tv_13 rfl yb_X12_come (Nat.le_refl _) (Nat.le_refl _), List.forall_mem_cons.mpr ⟨tn_aload_n C0 dX12_feed_30, List.forall_mem_cons.mpr ⟨tn_iload_n C0 dX12_feed_31, List.forall_mem_cons.mpr ⟨tn_cV C0 hz hm hU h32 tv_1405 dX12_feed_32 tv_1402 tv_1404 tq_X12_come tv_13 rfl yb_X12_come (Nat.le_refl _) (Nat.le_refl _), List.forall_mem_cons.mpr ⟨tn_aload_n C0 dX12_feed_35, List.forall_mem_cons.mpr ⟨tn_iload C0 dX12_feed_36, List.forall_mem_cons.mpr ⟨tn_cV C0 hz hm hU h38 tv_1405 dX12_feed_38 tv_1402 tv_1404 tq_X12_come tv_13 rfl yb_X12_come (Nat.le_refl _) (Nat.le_refl _), List.forall_mem_cons.mpr ⟨tn_aload_n C0 dX12_feed_41, List.forall_mem_cons.mpr ⟨tn_iload C0 dX12_feed_42, List.forall_mem_cons.mpr ⟨tn_cV C0 hz hm hU h44 tv_1405 dX12_feed_44 tv_1402 tv_1404 tq_X12_come tv_13 rfl yb_X12_come (Nat.le_refl _) (Nat.le_refl _), List.forall_mem_cons.mpr ⟨tn_aload_n C0 dX12_feed_47, List.forall_mem_cons.mpr ⟨tn_get C0 hz hcv0 kcX12 dX12_feed_48 (by decide) tv_1263, fun _ h => absurd h List.not_mem_nil⟩⟩⟩⟩⟩⟩⟩⟩⟩⟩⟩⟩⟩⟩⟩⟩⟩⟩⟩⟩⟩⟩⟩⟩⟩⟩⟩
set_option maxRecDepth 200000 in
set_option maxHeartbeats 4000000 in
def K_X12_feed_1 : tb_K := ([.inr (.inl (some 1)), .inl (2, 0), .inl (3, 0), .inl (4, 0), .inl (5, 0), .inl (6, 0)], [], [], [(0, 0), (1180591620717411303492, 1180591620717411303492), (-2147483648, 2147483647), (-2147483648, 2147483647), (-2147483648, 2147483647), (-2147483648, 2147483647), (-2147483648, 2147483647)], [(some (.inl (7, 0)), [], [], [(0, 0), (1180591620717411303492, 1180591620717411303492), (-2147483648, 2147483647), (-2147483648, 2147483647), (-2147483648, 2147483647), (-2147483648, 2147483647), (-2147483648, 2147483647), (-1, 940)])], [(68, 0, 0), (68, 2, 2), (69, 0, 939)])
set_option maxRecDepth 200000 in
set_option maxHeartbeats 4000000 in
def T_X12_feed_1 : List (tb_S × tb_l) := []
set_option maxRecDepth 200000 in
set_option maxHeartbeats 4000000 in
theorem m_X12_feed_1 {l : Launch} : tb_Met l vwCl sa_Ts tb_Z0 yX12_feed cX12_feed 6 (some .int) 3 142 K_X12_feed_1 := tb_method (by decide) [19, 51] (t_X12_feed [(68, 0, 0), (68, 2, 2), (69, 0, 939)] [K_X12_come_1] [K_X12_come_1] [K_X12_come_1] [K_X12_come_1] [K_X12_come_1]) T_X12_feed_1 [] 6000 (List.forall_mem_cons.mpr ⟨dX12_feed_19, List.forall_mem_cons.mpr ⟨dX12_feed_51, fun _ h => absurd h List.not_mem_nil⟩⟩) (h_X12_feed [(68, 0, 0), (68, 2, 2), (69, 0, 939)] 3 142 (by decide) (by decide) [K_X12_come_1] [K_X12_come_1] [K_X12_come_1] [K_X12_come_1] [K_X12_come_1] ⟨2, 120, List.forall_mem_cons.mpr ⟨m_X12_come_1, fun _ h => absurd h List.not_mem_nil⟩, by decide, by decide, by decide⟩ ⟨2, 120, List.forall_mem_cons.mpr ⟨m_X12_come_1, fun _ h => absurd h List.not_mem_nil⟩, by decide, by decide, by decide⟩ ⟨2, 120, List.forall_mem_cons.mpr ⟨m_X12_come_1, fun _ h => absurd h List.not_mem_nil⟩, by decide, by decide, by decide⟩ ⟨2, 120, List.forall_mem_cons.mpr ⟨m_X12_come_1, fun _ h => absurd h List.not_mem_nil⟩, by decide, by decide, by decide⟩ ⟨2, 120, List.forall_mem_cons.mpr ⟨m_X12_come_1, fun _ h => absurd h List.not_mem_nil⟩, by decide, by decide, by decide⟩) (by decide) (by decide +kernel)
def t_X12_end (mod : List (Nat × Nat × Nat))  : List (Nat × tb_op) := [(0, to_aload 0 1), (1, to_int (0) 1), (2, to_put tb_Z0 tb_RT0 mod [] 12 0 .int), (5, to_iload 1 1), (6, to_if tr_lt (sr_flip tr_le) 17), (9, to_iload 1 1), (10, to_aload 0 1), (11, to_get tb_Z0 [] 12 2), (14, to_icmp tr_le (sr_flip tr_lt) 19), (17, to_int (0) 1), (19, to_aload 0 1), (20, to_iload 1 1), (21, to_put tb_Z0 tb_RT0 mod [] 12 2 .int), (24, to_int (1) 1)]
set_option maxRecDepth 200000 in
set_option maxHeartbeats 4000000 in
theorem h_X12_end {l : Launch} (mod : List (Nat × Nat × Nat)) (fr lc : Nat) (hfr : 1 + 1 ≤ fr) (hlc : 8 + (2 + 11) + 20 ≤ lc)   : ∀ (p : Program) (e : Env) (s : State) (m : MethodId) (args : Array Value) (below : List Frame) (meth : Method) (c : Code) (Q : State → Prop) (D : va_G) (dA : Nat → ClassId) (A : Nat → Prop) (n0 : Nat) (V0 : sa_V) (E : tb_E), sa_C p s m args c D dA A 2 vwCl sa_Ts cX12_end yX12_end.cls → sa_U D vwCl dA s → tb_z E = tb_Z0 → tb_mod E = mod → ∀ q ∈ t_X12_end mod , tb_snd p l e { frames := fr, cells := 0, slots := 0, locals := lc } s m args below meth c Q D dA A 2 vwCl n0 V0 E q.1 q.2 := fun p e s m args below meth c Q D dA A n0 V0 E C0 hU hz hm => List.forall_mem_cons.mpr ⟨tn_aload_n C0 dX12_end_0, List.forall_mem_cons.mpr ⟨tn_iconst C0 dX12_end_1, List.forall_mem_cons.mpr ⟨tn_put C0 hz hcv0 hrt0 hm kcX12 dX12_end_2 (by decide) tv_1261 rfl rfl, List.forall_mem_cons.mpr ⟨tn_iload_n C0 dX12_end_5, List.forall_mem_cons.mpr ⟨tx_if_lt C0 dX12_end_6 (by decide), List.forall_mem_cons.mpr ⟨tn_iload_n C0 dX12_end_9, List.forall_mem_cons.mpr ⟨tn_aload_n C0 dX12_end_10, List.forall_mem_cons.mpr ⟨tn_get C0 hz hcv0 kcX12 dX12_end_11 (by decide) tv_1263, List.forall_mem_cons.mpr ⟨tx_icmp_le C0 dX12_end_14 (by decide), List.forall_mem_cons.mpr ⟨tn_iconst C0 dX12_end_17, List.forall_mem_cons.mpr ⟨tn_aload_n C0 dX12_end_19, List.forall_mem_cons.mpr ⟨tn_iload_n C0 dX12_end_20, List.forall_mem_cons.mpr ⟨tn_put C0 hz hcv0 hrt0 hm kcX12 dX12_end_21 (by decide) tv_1263 rfl rfl, List.forall_mem_cons.mpr ⟨tn_iconst C0 dX12_end_24, fun _ h => absurd h List.not_mem_nil⟩⟩⟩⟩⟩⟩⟩⟩⟩⟩⟩⟩⟩⟩
set_option maxRecDepth 200000 in
set_option maxHeartbeats 4000000 in
def K_X12_end_1 : tb_K := ([.inr (.inl (some 1)), .inl (2, 0)], [], [], [(0, 0), (1180591620717411303492, 1180591620717411303492), (-2147483648, 2147483647)], [(some (.inl (3, 0)), [], [], [(0, 0), (1180591620717411303492, 1180591620717411303492), (-2147483648, 2147483647), (0, 0)]), (some (.inl (3, 0)), [], [], [(0, 0), (1180591620717411303492, 1180591620717411303492), (0, 940), (1, 1)])], [(68, 0, 0), (68, 2, 2)])
set_option maxRecDepth 200000 in
set_option maxHeartbeats 4000000 in
def T_X12_end_1 : List (tb_S × tb_l) := []
set_option maxRecDepth 200000 in
set_option maxHeartbeats 4000000 in
theorem m_X12_end_1 {l : Launch} : tb_Met l vwCl sa_Ts tb_Z0 yX12_end cX12_end 2 (some .boolean) 2 120 K_X12_end_1 := tb_method (by decide) [18, 25] (t_X12_end [(68, 0, 0), (68, 2, 2)] ) T_X12_end_1 [] 6000 (List.forall_mem_cons.mpr ⟨dX12_end_18, List.forall_mem_cons.mpr ⟨dX12_end_25, fun _ h => absurd h List.not_mem_nil⟩⟩) (h_X12_end [(68, 0, 0), (68, 2, 2)] 2 120 (by decide) (by decide)  ) (by decide) (by decide +kernel)
def t_X12_take (mod : List (Nat × Nat × Nat))  : List (Nat × tb_op) := [(0, to_aload 0 1), (1, to_get tb_Z0 [] 12 2), (4, to_istore 2 1 1), (5, to_aload 0 1), (6, to_int (0) 1), (7, to_put tb_Z0 tb_RT0 mod [] 12 2 .int), (10, to_iload 1 1)]
set_option maxRecDepth 200000 in
set_option maxHeartbeats 4000000 in
theorem h_X12_take {l : Launch} (mod : List (Nat × Nat × Nat)) (fr lc : Nat) (hfr : 1 + 1 ≤ fr) (hlc : 8 + (2 + 11) + 20 ≤ lc)   : ∀ (p : Program) (e : Env) (s : State) (m : MethodId) (args : Array Value) (below : List Frame) (meth : Method) (c : Code) (Q : State → Prop) (D : va_G) (dA : Nat → ClassId) (A : Nat → Prop) (n0 : Nat) (V0 : sa_V) (E : tb_E), sa_C p s m args c D dA A 2 vwCl sa_Ts cX12_take yX12_take.cls → sa_U D vwCl dA s → tb_z E = tb_Z0 → tb_mod E = mod → ∀ q ∈ t_X12_take mod , tb_snd p l e { frames := fr, cells := 0, slots := 0, locals := lc } s m args below meth c Q D dA A 2 vwCl n0 V0 E q.1 q.2 := fun p e s m args below meth c Q D dA A n0 V0 E C0 hU hz hm => List.forall_mem_cons.mpr ⟨tn_aload_n C0 dX12_take_0, List.forall_mem_cons.mpr ⟨tn_get C0 hz hcv0 kcX12 dX12_take_1 (by decide) tv_1263, List.forall_mem_cons.mpr ⟨tn_istore_n C0 dX12_take_4, List.forall_mem_cons.mpr ⟨tn_aload_n C0 dX12_take_5, List.forall_mem_cons.mpr ⟨tn_iconst C0 dX12_take_6, List.forall_mem_cons.mpr ⟨tn_put C0 hz hcv0 hrt0 hm kcX12 dX12_take_7 (by decide) tv_1263 rfl rfl, List.forall_mem_cons.mpr ⟨tn_iload_n C0 dX12_take_10, fun _ h => absurd h List.not_mem_nil⟩⟩⟩⟩⟩⟩⟩
set_option maxRecDepth 200000 in
set_option maxHeartbeats 4000000 in
def K_X12_take_1 : tb_K := ([.inr (.inl (some 1))], [], [], [(0, 0), (1180591620717411303492, 1180591620717411303492)], [(some (.inl (2, 0)), [(1, (0, 2), .inl (3, 0))], [], [(0, 0), (1180591620717411303492, 1180591620717411303492), (0, 940), (0, 0)])], [(68, 2, 2)])
set_option maxRecDepth 200000 in
set_option maxHeartbeats 4000000 in
def T_X12_take_1 : List (tb_S × tb_l) := []
set_option maxRecDepth 200000 in
set_option maxHeartbeats 4000000 in
theorem m_X12_take_1 {l : Launch} : tb_Met l vwCl sa_Ts tb_Z0 yX12_take cX12_take 2 (some .int) 2 120 K_X12_take_1 := tb_method (by decide) [11] (t_X12_take [(68, 2, 2)] ) T_X12_take_1 [] 6000 (List.forall_mem_cons.mpr ⟨dX12_take_11, fun _ h => absurd h List.not_mem_nil⟩) (h_X12_take [(68, 2, 2)] 2 120 (by decide) (by decide)  ) (by decide) (by decide +kernel)
def t_X12_isLetter (mod : List (Nat × Nat × Nat))  : List (Nat × tb_op) := [(0, to_iload 0 1), (1, to_int (97) 2), (3, to_icmp tr_lt (sr_flip tr_le) 16), (6, to_iload 0 1), (7, to_int (122) 2), (9, to_icmp (sr_flip tr_lt) tr_le 16), (12, to_int (1) 1), (13, to_goto 17), (16, to_int (0) 1)]
set_option maxRecDepth 200000 in
set_option maxHeartbeats 4000000 in
theorem h_X12_isLetter {l : Launch} (mod : List (Nat × Nat × Nat)) (fr lc : Nat) (hfr : 1 + 1 ≤ fr) (hlc : 8 + (2 + 11) + 20 ≤ lc)   : ∀ (p : Program) (e : Env) (s : State) (m : MethodId) (args : Array Value) (below : List Frame) (meth : Method) (c : Code) (Q : State → Prop) (D : va_G) (dA : Nat → ClassId) (A : Nat → Prop) (n0 : Nat) (V0 : sa_V) (E : tb_E), sa_C p s m args c D dA A 1 vwCl sa_Ts cX12_isLetter yX12_isLetter.cls → sa_U D vwCl dA s → tb_z E = tb_Z0 → tb_mod E = mod → ∀ q ∈ t_X12_isLetter mod , tb_snd p l e { frames := fr, cells := 0, slots := 0, locals := lc } s m args below meth c Q D dA A 1 vwCl n0 V0 E q.1 q.2 := fun p e s m args below meth c Q D dA A n0 V0 E C0 hU hz hm => List.forall_mem_cons.mpr ⟨tn_iload_n C0 dX12_isLetter_0, List.forall_mem_cons.mpr ⟨tn_bipush C0 dX12_isLetter_1 (by decide), List.forall_mem_cons.mpr ⟨tx_icmp_lt C0 dX12_isLetter_3 (by decide), List.forall_mem_cons.mpr ⟨tn_iload_n C0 dX12_isLetter_6, List.forall_mem_cons.mpr ⟨tn_bipush C0 dX12_isLetter_7 (by decide), List.forall_mem_cons.mpr ⟨tx_icmp_gt C0 dX12_isLetter_9 (by decide), List.forall_mem_cons.mpr ⟨tn_iconst C0 dX12_isLetter_12, List.forall_mem_cons.mpr ⟨tn_goto C0 dX12_isLetter_13 (by decide), List.forall_mem_cons.mpr ⟨tn_iconst C0 dX12_isLetter_16, fun _ h => absurd h List.not_mem_nil⟩⟩⟩⟩⟩⟩⟩⟩⟩
set_option maxRecDepth 200000 in
set_option maxHeartbeats 4000000 in
def K_X12_isLetter_1 : tb_K := ([.inl (1, 0)], [], [], [(0, 0), (-2147483648, 2147483647)], [(some (.inl (2, 0)), [], [], [(0, 0), (-2147483648, 2147483647), (0, 0)]), (some (.inl (2, 0)), [], [], [(0, 0), (97, 122), (1, 1)])], [])
set_option maxRecDepth 200000 in
set_option maxHeartbeats 4000000 in
def T_X12_isLetter_1 : List (tb_S × tb_l) := []
set_option maxRecDepth 200000 in
set_option maxHeartbeats 4000000 in
theorem m_X12_isLetter_1 {l : Launch} : tb_Met l vwCl sa_Ts tb_Z0 yX12_isLetter cX12_isLetter 1 (some .boolean) 2 120 K_X12_isLetter_1 := tb_method (by decide) [17] (t_X12_isLetter [] ) T_X12_isLetter_1 [] 6000 (List.forall_mem_cons.mpr ⟨dX12_isLetter_17, fun _ h => absurd h List.not_mem_nil⟩) (h_X12_isLetter [] 2 120 (by decide) (by decide)  ) (by decide) (by decide +kernel)
def t_X12_isDigit (mod : List (Nat × Nat × Nat))  : List (Nat × tb_op) := [(0, to_iload 0 1), (1, to_int (48) 2), (3, to_icmp tr_lt (sr_flip tr_le) 16), (6, to_iload 0 1), (7, to_int (57) 2), (9, to_icmp (sr_flip tr_lt) tr_le 16), (12, to_int (1) 1), (13, to_goto 17), (16, to_int (0) 1)]
set_option maxRecDepth 200000 in
set_option maxHeartbeats 4000000 in
theorem h_X12_isDigit {l : Launch} (mod : List (Nat × Nat × Nat)) (fr lc : Nat) (hfr : 1 + 1 ≤ fr) (hlc : 8 + (2 + 11) + 20 ≤ lc)   : ∀ (p : Program) (e : Env) (s : State) (m : MethodId) (args : Array Value) (below : List Frame) (meth : Method) (c : Code) (Q : State → Prop) (D : va_G) (dA : Nat → ClassId) (A : Nat → Prop) (n0 : Nat) (V0 : sa_V) (E : tb_E), sa_C p s m args c D dA A 1 vwCl sa_Ts cX12_isDigit yX12_isDigit.cls → sa_U D vwCl dA s → tb_z E = tb_Z0 → tb_mod E = mod → ∀ q ∈ t_X12_isDigit mod , tb_snd p l e { frames := fr, cells := 0, slots := 0, locals := lc } s m args below meth c Q D dA A 1 vwCl n0 V0 E q.1 q.2 := fun p e s m args below meth c Q D dA A n0 V0 E C0 hU hz hm => List.forall_mem_cons.mpr ⟨tn_iload_n C0 dX12_isDigit_0, List.forall_mem_cons.mpr ⟨tn_bipush C0 dX12_isDigit_1 (by decide), List.forall_mem_cons.mpr ⟨tx_icmp_lt C0 dX12_isDigit_3 (by decide), List.forall_mem_cons.mpr ⟨tn_iload_n C0 dX12_isDigit_6, List.forall_mem_cons.mpr ⟨tn_bipush C0 dX12_isDigit_7 (by decide), List.forall_mem_cons.mpr ⟨tx_icmp_gt C0 dX12_isDigit_9 (by decide), List.forall_mem_cons.mpr ⟨tn_iconst C0 dX12_isDigit_12, List.forall_mem_cons.mpr ⟨tn_goto C0 dX12_isDigit_13 (by decide), List.forall_mem_cons.mpr ⟨tn_iconst C0 dX12_isDigit_16, fun _ h => absurd h List.not_mem_nil⟩⟩⟩⟩⟩⟩⟩⟩⟩
set_option maxRecDepth 200000 in
set_option maxHeartbeats 4000000 in
def K_X12_isDigit_1 : tb_K := ([.inl (1, 0)], [], [], [(0, 0), (-2147483648, 2147483647)], [(some (.inl (2, 0)), [], [], [(0, 0), (-2147483648, 2147483647), (0, 0)]), (some (.inl (2, 0)), [], [], [(0, 0), (48, 57), (1, 1)])], [])
set_option maxRecDepth 200000 in
set_option maxHeartbeats 4000000 in
def T_X12_isDigit_1 : List (tb_S × tb_l) := []
set_option maxRecDepth 200000 in
set_option maxHeartbeats 4000000 in
theorem m_X12_isDigit_1 {l : Launch} : tb_Met l vwCl sa_Ts tb_Z0 yX12_isDigit cX12_isDigit 1 (some .boolean) 2 120 K_X12_isDigit_1 := tb_method (by decide) [17] (t_X12_isDigit [] ) T_X12_isDigit_1 [] 6000 (List.forall_mem_cons.mpr ⟨dX12_isDigit_17, fun _ h => absurd h List.not_mem_nil⟩) (h_X12_isDigit [] 2 120 (by decide) (by decide)  ) (by decide) (by decide +kernel)
def t_X12_tapeAt (mod : List (Nat × Nat × Nat))  : List (Nat × tb_op) := [(0, to_iload 1 1), (1, to_aload 0 1), (2, to_get tb_Z0 [] 12 3), (5, to_icmp (sr_flip tr_le) tr_lt 17), (8, to_aload 0 1), (9, to_get tb_Z0 [] 12 1), (12, to_iload 1 1), (13, to_ald tb_Z0 [] 0), (14, to_goto 18), (17, to_int (0) 1)]
set_option maxRecDepth 200000 in
set_option maxHeartbeats 4000000 in
theorem h_X12_tapeAt {l : Launch} (mod : List (Nat × Nat × Nat)) (fr lc : Nat) (hfr : 1 + 1 ≤ fr) (hlc : 8 + (2 + 11) + 20 ≤ lc)   : ∀ (p : Program) (e : Env) (s : State) (m : MethodId) (args : Array Value) (below : List Frame) (meth : Method) (c : Code) (Q : State → Prop) (D : va_G) (dA : Nat → ClassId) (A : Nat → Prop) (n0 : Nat) (V0 : sa_V) (E : tb_E), sa_C p s m args c D dA A 2 vwCl sa_Ts cX12_tapeAt yX12_tapeAt.cls → sa_U D vwCl dA s → tb_z E = tb_Z0 → tb_mod E = mod → ∀ q ∈ t_X12_tapeAt mod , tb_snd p l e { frames := fr, cells := 0, slots := 0, locals := lc } s m args below meth c Q D dA A 2 vwCl n0 V0 E q.1 q.2 := fun p e s m args below meth c Q D dA A n0 V0 E C0 hU hz hm => List.forall_mem_cons.mpr ⟨tn_iload_n C0 dX12_tapeAt_0, List.forall_mem_cons.mpr ⟨tn_aload_n C0 dX12_tapeAt_1, List.forall_mem_cons.mpr ⟨tn_get C0 hz hcv0 kcX12 dX12_tapeAt_2 (by decide) tv_1264, List.forall_mem_cons.mpr ⟨tx_icmp_ge C0 dX12_tapeAt_5 (by decide), List.forall_mem_cons.mpr ⟨tn_aload_n C0 dX12_tapeAt_8, List.forall_mem_cons.mpr ⟨tn_get C0 hz hcv0 kcX12 dX12_tapeAt_9 (by decide) tv_1262, List.forall_mem_cons.mpr ⟨tn_iload_n C0 dX12_tapeAt_12, List.forall_mem_cons.mpr ⟨tn_iald C0 hz hcv0 dX12_tapeAt_13, List.forall_mem_cons.mpr ⟨tn_goto C0 dX12_tapeAt_14 (by decide), List.forall_mem_cons.mpr ⟨tn_iconst C0 dX12_tapeAt_17, fun _ h => absurd h List.not_mem_nil⟩⟩⟩⟩⟩⟩⟩⟩⟩⟩
set_option maxRecDepth 200000 in
set_option maxHeartbeats 4000000 in
def K_X12_tapeAt_1 : tb_K := ([.inr (.inl (some 1)), .inl (2, 0)], [], [], [(0, 0), (1180591620717411303492, 1180591620717411303492), (0, 899)], [(some (.inl (3, 0)), [], [], [(0, 0), (1180591620717411303492, 1180591620717411303492), (0, 899), (0, 0)]), (some (.inl (3, 0)), [], [], [(0, 0), (1180591620717411303492, 1180591620717411303492), (0, 899), (0, 255)])], [])
set_option maxRecDepth 200000 in
set_option maxHeartbeats 4000000 in
def T_X12_tapeAt_1 : List (tb_S × tb_l) := []
set_option maxRecDepth 200000 in
set_option maxHeartbeats 4000000 in
theorem m_X12_tapeAt_1 {l : Launch} : tb_Met l vwCl sa_Ts tb_Z0 yX12_tapeAt cX12_tapeAt 2 (some .int) 2 120 K_X12_tapeAt_1 := tb_method (by decide) [18] (t_X12_tapeAt [] ) T_X12_tapeAt_1 [] 6000 (List.forall_mem_cons.mpr ⟨dX12_tapeAt_18, fun _ h => absurd h List.not_mem_nil⟩) (h_X12_tapeAt [] 2 120 (by decide) (by decide)  ) (by decide) (by decide +kernel)
set_option maxRecDepth 200000 in
set_option maxHeartbeats 4000000 in
def K_X12_tapeAt_2 : tb_K := ([.inr (.inl (some 1)), .inl (2, 0)], [], [], [(0, 0), (1180591620717411303492, 1180591620717411303492), (1, 900)], [(some (.inl (3, 0)), [], [], [(0, 0), (1180591620717411303492, 1180591620717411303492), (1, 900), (0, 0)]), (some (.inl (3, 0)), [], [], [(0, 0), (1180591620717411303492, 1180591620717411303492), (1, 900), (0, 255)])], [])
set_option maxRecDepth 200000 in
set_option maxHeartbeats 4000000 in
def T_X12_tapeAt_2 : List (tb_S × tb_l) := []
set_option maxRecDepth 200000 in
set_option maxHeartbeats 4000000 in
theorem m_X12_tapeAt_2 {l : Launch} : tb_Met l vwCl sa_Ts tb_Z0 yX12_tapeAt cX12_tapeAt 2 (some .int) 2 120 K_X12_tapeAt_2 := tb_method (by decide) [18] (t_X12_tapeAt [] ) T_X12_tapeAt_2 [] 6000 (List.forall_mem_cons.mpr ⟨dX12_tapeAt_18, fun _ h => absurd h List.not_mem_nil⟩) (h_X12_tapeAt [] 2 120 (by decide) (by decide)  ) (by decide) (by decide +kernel)
set_option maxRecDepth 200000 in
set_option maxHeartbeats 4000000 in
def K_X12_tapeAt_3 : tb_K := ([.inr (.inl (some 1)), .inl (2, 0)], [], [], [(0, 0), (1180591620717411303492, 1180591620717411303492), (2, 901)], [(some (.inl (3, 0)), [], [], [(0, 0), (1180591620717411303492, 1180591620717411303492), (2, 901), (0, 0)]), (some (.inl (3, 0)), [], [], [(0, 0), (1180591620717411303492, 1180591620717411303492), (2, 901), (0, 255)])], [])
set_option maxRecDepth 200000 in
set_option maxHeartbeats 4000000 in
def T_X12_tapeAt_3 : List (tb_S × tb_l) := []
set_option maxRecDepth 200000 in
set_option maxHeartbeats 4000000 in
theorem m_X12_tapeAt_3 {l : Launch} : tb_Met l vwCl sa_Ts tb_Z0 yX12_tapeAt cX12_tapeAt 2 (some .int) 2 120 K_X12_tapeAt_3 := tb_method (by decide) [18] (t_X12_tapeAt [] ) T_X12_tapeAt_3 [] 6000 (List.forall_mem_cons.mpr ⟨dX12_tapeAt_18, fun _ h => absurd h List.not_mem_nil⟩) (h_X12_tapeAt [] 2 120 (by decide) (by decide)  ) (by decide) (by decide +kernel)
set_option maxRecDepth 200000 in
set_option maxHeartbeats 4000000 in
def K_X12_tapeAt_4 : tb_K := ([.inr (.inl (some 1)), .inl (2, 0)], [], [], [(0, 0), (1180591620717411303492, 1180591620717411303492), (3, 902)], [(some (.inl (3, 0)), [], [], [(0, 0), (1180591620717411303492, 1180591620717411303492), (3, 902), (0, 0)]), (some (.inl (3, 0)), [], [], [(0, 0), (1180591620717411303492, 1180591620717411303492), (3, 902), (0, 255)])], [])
set_option maxRecDepth 200000 in
set_option maxHeartbeats 4000000 in
def T_X12_tapeAt_4 : List (tb_S × tb_l) := []
set_option maxRecDepth 200000 in
set_option maxHeartbeats 4000000 in
theorem m_X12_tapeAt_4 {l : Launch} : tb_Met l vwCl sa_Ts tb_Z0 yX12_tapeAt cX12_tapeAt 2 (some .int) 2 120 K_X12_tapeAt_4 := tb_method (by decide) [18] (t_X12_tapeAt [] ) T_X12_tapeAt_4 [] 6000 (List.forall_mem_cons.mpr ⟨dX12_tapeAt_18, fun _ h => absurd h List.not_mem_nil⟩) (h_X12_tapeAt [] 2 120 (by decide) (by decide)  ) (by decide) (by decide +kernel)
set_option maxRecDepth 200000 in
set_option maxHeartbeats 4000000 in
def K_X12_tapeAt_5 : tb_K := ([.inr (.inl (some 1)), .inl (2, 0)], [], [], [(0, 0), (1180591620717411303492, 1180591620717411303492), (4, 903)], [(some (.inl (3, 0)), [], [], [(0, 0), (1180591620717411303492, 1180591620717411303492), (4, 903), (0, 0)]), (some (.inl (3, 0)), [], [], [(0, 0), (1180591620717411303492, 1180591620717411303492), (4, 903), (0, 255)])], [])
set_option maxRecDepth 200000 in
set_option maxHeartbeats 4000000 in
def T_X12_tapeAt_5 : List (tb_S × tb_l) := []
set_option maxRecDepth 200000 in
set_option maxHeartbeats 4000000 in
theorem m_X12_tapeAt_5 {l : Launch} : tb_Met l vwCl sa_Ts tb_Z0 yX12_tapeAt cX12_tapeAt 2 (some .int) 2 120 K_X12_tapeAt_5 := tb_method (by decide) [18] (t_X12_tapeAt [] ) T_X12_tapeAt_5 [] 6000 (List.forall_mem_cons.mpr ⟨dX12_tapeAt_18, fun _ h => absurd h List.not_mem_nil⟩) (h_X12_tapeAt [] 2 120 (by decide) (by decide)  ) (by decide) (by decide +kernel)
set_option maxRecDepth 200000 in
set_option maxHeartbeats 4000000 in
def K_X12_tapeAt_6 : tb_K := ([.inr (.inl (some 1)), .inl (2, 0)], [], [], [(0, 0), (1180591620717411303492, 1180591620717411303492), (5, 904)], [(some (.inl (3, 0)), [], [], [(0, 0), (1180591620717411303492, 1180591620717411303492), (5, 904), (0, 0)]), (some (.inl (3, 0)), [], [], [(0, 0), (1180591620717411303492, 1180591620717411303492), (5, 904), (0, 255)])], [])
set_option maxRecDepth 200000 in
set_option maxHeartbeats 4000000 in
def T_X12_tapeAt_6 : List (tb_S × tb_l) := []
set_option maxRecDepth 200000 in
set_option maxHeartbeats 4000000 in
theorem m_X12_tapeAt_6 {l : Launch} : tb_Met l vwCl sa_Ts tb_Z0 yX12_tapeAt cX12_tapeAt 2 (some .int) 2 120 K_X12_tapeAt_6 := tb_method (by decide) [18] (t_X12_tapeAt [] ) T_X12_tapeAt_6 [] 6000 (List.forall_mem_cons.mpr ⟨dX12_tapeAt_18, fun _ h => absurd h List.not_mem_nil⟩) (h_X12_tapeAt [] 2 120 (by decide) (by decide)  ) (by decide) (by decide +kernel)
set_option maxRecDepth 200000 in
set_option maxHeartbeats 4000000 in
def K_X12_tapeAt_7 : tb_K := ([.inr (.inl (some 1)), .inl (2, 0)], [], [], [(0, 0), (1180591620717411303492, 1180591620717411303492), (6, 905)], [(some (.inl (3, 0)), [], [], [(0, 0), (1180591620717411303492, 1180591620717411303492), (6, 905), (0, 0)]), (some (.inl (3, 0)), [], [], [(0, 0), (1180591620717411303492, 1180591620717411303492), (6, 905), (0, 255)])], [])
set_option maxRecDepth 200000 in
set_option maxHeartbeats 4000000 in
def T_X12_tapeAt_7 : List (tb_S × tb_l) := []
set_option maxRecDepth 200000 in
set_option maxHeartbeats 4000000 in
theorem m_X12_tapeAt_7 {l : Launch} : tb_Met l vwCl sa_Ts tb_Z0 yX12_tapeAt cX12_tapeAt 2 (some .int) 2 120 K_X12_tapeAt_7 := tb_method (by decide) [18] (t_X12_tapeAt [] ) T_X12_tapeAt_7 [] 6000 (List.forall_mem_cons.mpr ⟨dX12_tapeAt_18, fun _ h => absurd h List.not_mem_nil⟩) (h_X12_tapeAt [] 2 120 (by decide) (by decide)  ) (by decide) (by decide +kernel)
set_option maxRecDepth 200000 in
set_option maxHeartbeats 4000000 in
def K_X12_tapeAt_8 : tb_K := ([.inr (.inl (some 1)), .inl (2, 0)], [], [], [(0, 0), (1180591620717411303492, 1180591620717411303492), (7, 940)], [(some (.inl (3, 0)), [], [], [(0, 0), (1180591620717411303492, 1180591620717411303492), (7, 940), (0, 0)]), (some (.inl (3, 0)), [], [], [(0, 0), (1180591620717411303492, 1180591620717411303492), (7, 939), (0, 255)])], [])
set_option maxRecDepth 200000 in
set_option maxHeartbeats 4000000 in
def T_X12_tapeAt_8 : List (tb_S × tb_l) := []
set_option maxRecDepth 200000 in
set_option maxHeartbeats 4000000 in
theorem m_X12_tapeAt_8 {l : Launch} : tb_Met l vwCl sa_Ts tb_Z0 yX12_tapeAt cX12_tapeAt 2 (some .int) 2 120 K_X12_tapeAt_8 := tb_method (by decide) [18] (t_X12_tapeAt [] ) T_X12_tapeAt_8 [] 6000 (List.forall_mem_cons.mpr ⟨dX12_tapeAt_18, fun _ h => absurd h List.not_mem_nil⟩) (h_X12_tapeAt [] 2 120 (by decide) (by decide)  ) (by decide) (by decide +kernel)
set_option maxRecDepth 200000 in
set_option maxHeartbeats 4000000 in
def K_X12_tapeAt_9 : tb_K := ([.inr (.inl (some 1)), .inl (2, 0)], [], [], [(0, 0), (1180591620717411303492, 1180591620717411303492), (7, 939)], [(some (.inl (3, 0)), [], [], [(0, 0), (1180591620717411303492, 1180591620717411303492), (7, 939), (0, 0)]), (some (.inl (3, 0)), [], [], [(0, 0), (1180591620717411303492, 1180591620717411303492), (7, 939), (0, 255)])], [])
set_option maxRecDepth 200000 in
set_option maxHeartbeats 4000000 in
def T_X12_tapeAt_9 : List (tb_S × tb_l) := []
set_option maxRecDepth 200000 in
set_option maxHeartbeats 4000000 in
theorem m_X12_tapeAt_9 {l : Launch} : tb_Met l vwCl sa_Ts tb_Z0 yX12_tapeAt cX12_tapeAt 2 (some .int) 2 120 K_X12_tapeAt_9 := tb_method (by decide) [18] (t_X12_tapeAt [] ) T_X12_tapeAt_9 [] 6000 (List.forall_mem_cons.mpr ⟨dX12_tapeAt_18, fun _ h => absurd h List.not_mem_nil⟩) (h_X12_tapeAt [] 2 120 (by decide) (by decide)  ) (by decide) (by decide +kernel)
def t_X12_isIn (mod : List (Nat × Nat × Nat))  : List (Nat × tb_op) := [(0, to_iload 0 1), (1, to_iload 1 1), (2, to_icmp tr_lt (sr_flip tr_le) 14), (5, to_iload 0 1), (6, to_iload 2 1), (7, to_icmp (sr_flip tr_lt) tr_le 14), (10, to_int (1) 1), (11, to_goto 15), (14, to_int (0) 1)]
set_option maxRecDepth 200000 in
set_option maxHeartbeats 4000000 in
theorem h_X12_isIn {l : Launch} (mod : List (Nat × Nat × Nat)) (fr lc : Nat) (hfr : 1 + 1 ≤ fr) (hlc : 8 + (2 + 11) + 20 ≤ lc)   : ∀ (p : Program) (e : Env) (s : State) (m : MethodId) (args : Array Value) (below : List Frame) (meth : Method) (c : Code) (Q : State → Prop) (D : va_G) (dA : Nat → ClassId) (A : Nat → Prop) (n0 : Nat) (V0 : sa_V) (E : tb_E), sa_C p s m args c D dA A 3 vwCl sa_Ts cX12_isIn yX12_isIn.cls → sa_U D vwCl dA s → tb_z E = tb_Z0 → tb_mod E = mod → ∀ q ∈ t_X12_isIn mod , tb_snd p l e { frames := fr, cells := 0, slots := 0, locals := lc } s m args below meth c Q D dA A 3 vwCl n0 V0 E q.1 q.2 := fun p e s m args below meth c Q D dA A n0 V0 E C0 hU hz hm => List.forall_mem_cons.mpr ⟨tn_iload_n C0 dX12_isIn_0, List.forall_mem_cons.mpr ⟨tn_iload_n C0 dX12_isIn_1, List.forall_mem_cons.mpr ⟨tx_icmp_lt C0 dX12_isIn_2 (by decide), List.forall_mem_cons.mpr ⟨tn_iload_n C0 dX12_isIn_5, List.forall_mem_cons.mpr ⟨tn_iload_n C0 dX12_isIn_6, List.forall_mem_cons.mpr ⟨tx_icmp_gt C0 dX12_isIn_7 (by decide), List.forall_mem_cons.mpr ⟨tn_iconst C0 dX12_isIn_10, List.forall_mem_cons.mpr ⟨tn_goto C0 dX12_isIn_11 (by decide), List.forall_mem_cons.mpr ⟨tn_iconst C0 dX12_isIn_14, fun _ h => absurd h List.not_mem_nil⟩⟩⟩⟩⟩⟩⟩⟩⟩
set_option maxRecDepth 200000 in
set_option maxHeartbeats 4000000 in
def K_X12_isIn_1 : tb_K := ([.inl (1, 0), .inl (2, 0), .inl (3, 0)], [], [], [(0, 0), (-2147483648, 2147483647), (1, 1), (12, 12)], [(some (.inl (4, 0)), [], [], [(0, 0), (-2147483648, 2147483647), (1, 1), (12, 12), (0, 0)]), (some (.inl (4, 0)), [], [], [(0, 0), (1, 12), (1, 1), (12, 12), (1, 1)])], [])
set_option maxRecDepth 200000 in
set_option maxHeartbeats 4000000 in
def T_X12_isIn_1 : List (tb_S × tb_l) := []
set_option maxRecDepth 200000 in
set_option maxHeartbeats 4000000 in
theorem m_X12_isIn_1 {l : Launch} : tb_Met l vwCl sa_Ts tb_Z0 yX12_isIn cX12_isIn 3 (some .boolean) 2 120 K_X12_isIn_1 := tb_method (by decide) [15] (t_X12_isIn [] ) T_X12_isIn_1 [] 6000 (List.forall_mem_cons.mpr ⟨dX12_isIn_15, fun _ h => absurd h List.not_mem_nil⟩) (h_X12_isIn [] 2 120 (by decide) (by decide)  ) (by decide) (by decide +kernel)
set_option maxRecDepth 200000 in
set_option maxHeartbeats 4000000 in
def K_X12_isIn_2 : tb_K := ([.inl (1, 0), .inl (2, 0), .inl (3, 0)], [], [], [(0, 0), (-2147483648, 2147483647), (0, 0), (200, 200)], [(some (.inl (4, 0)), [], [], [(0, 0), (-2147483648, 2147483647), (0, 0), (200, 200), (0, 0)]), (some (.inl (4, 0)), [], [], [(0, 0), (0, 200), (0, 0), (200, 200), (1, 1)])], [])
set_option maxRecDepth 200000 in
set_option maxHeartbeats 4000000 in
def T_X12_isIn_2 : List (tb_S × tb_l) := []
set_option maxRecDepth 200000 in
set_option maxHeartbeats 4000000 in
theorem m_X12_isIn_2 {l : Launch} : tb_Met l vwCl sa_Ts tb_Z0 yX12_isIn cX12_isIn 3 (some .boolean) 2 120 K_X12_isIn_2 := tb_method (by decide) [15] (t_X12_isIn [] ) T_X12_isIn_2 [] 6000 (List.forall_mem_cons.mpr ⟨dX12_isIn_15, fun _ h => absurd h List.not_mem_nil⟩) (h_X12_isIn [] 2 120 (by decide) (by decide)  ) (by decide) (by decide +kernel)
set_option maxRecDepth 200000 in
set_option maxHeartbeats 4000000 in
def K_X12_isIn_3 : tb_K := ([.inl (1, 0), .inl (2, 0), .inl (3, 0)], [], [], [(0, 0), (-2147483648, 2147483647), (1, 1), (99, 99)], [(some (.inl (4, 0)), [], [], [(0, 0), (-2147483648, 2147483647), (1, 1), (99, 99), (0, 0)]), (some (.inl (4, 0)), [], [], [(0, 0), (1, 99), (1, 1), (99, 99), (1, 1)])], [])
set_option maxRecDepth 200000 in
set_option maxHeartbeats 4000000 in
def T_X12_isIn_3 : List (tb_S × tb_l) := []
set_option maxRecDepth 200000 in
set_option maxHeartbeats 4000000 in
theorem m_X12_isIn_3 {l : Launch} : tb_Met l vwCl sa_Ts tb_Z0 yX12_isIn cX12_isIn 3 (some .boolean) 2 120 K_X12_isIn_3 := tb_method (by decide) [15] (t_X12_isIn [] ) T_X12_isIn_3 [] 6000 (List.forall_mem_cons.mpr ⟨dX12_isIn_15, fun _ h => absurd h List.not_mem_nil⟩) (h_X12_isIn [] 2 120 (by decide) (by decide)  ) (by decide) (by decide +kernel)
set_option maxRecDepth 200000 in
set_option maxHeartbeats 4000000 in
def K_X12_isIn_4 : tb_K := ([.inl (1, 0), .inl (2, 0), .inl (3, 0)], [], [], [(0, 0), (-2147483648, 2147483647), (1, 1), (15, 15)], [(some (.inl (4, 0)), [], [], [(0, 0), (-2147483648, 2147483647), (1, 1), (15, 15), (0, 0)]), (some (.inl (4, 0)), [], [], [(0, 0), (1, 15), (1, 1), (15, 15), (1, 1)])], [])
set_option maxRecDepth 200000 in
set_option maxHeartbeats 4000000 in
def T_X12_isIn_4 : List (tb_S × tb_l) := []
set_option maxRecDepth 200000 in
set_option maxHeartbeats 4000000 in
theorem m_X12_isIn_4 {l : Launch} : tb_Met l vwCl sa_Ts tb_Z0 yX12_isIn cX12_isIn 3 (some .boolean) 2 120 K_X12_isIn_4 := tb_method (by decide) [15] (t_X12_isIn [] ) T_X12_isIn_4 [] 6000 (List.forall_mem_cons.mpr ⟨dX12_isIn_15, fun _ h => absurd h List.not_mem_nil⟩) (h_X12_isIn [] 2 120 (by decide) (by decide)  ) (by decide) (by decide +kernel)
set_option maxRecDepth 200000 in
set_option maxHeartbeats 4000000 in
def K_X12_isIn_5 : tb_K := ([.inl (1, 0), .inl (2, 0), .inl (3, 0)], [], [], [(0, 0), (-2147483648, 2147483647), (1, 1), (30, 30)], [(some (.inl (4, 0)), [], [], [(0, 0), (-2147483648, 2147483647), (1, 1), (30, 30), (0, 0)]), (some (.inl (4, 0)), [], [], [(0, 0), (1, 30), (1, 1), (30, 30), (1, 1)])], [])
set_option maxRecDepth 200000 in
set_option maxHeartbeats 4000000 in
def T_X12_isIn_5 : List (tb_S × tb_l) := []
set_option maxRecDepth 200000 in
set_option maxHeartbeats 4000000 in
theorem m_X12_isIn_5 {l : Launch} : tb_Met l vwCl sa_Ts tb_Z0 yX12_isIn cX12_isIn 3 (some .boolean) 2 120 K_X12_isIn_5 := tb_method (by decide) [15] (t_X12_isIn [] ) T_X12_isIn_5 [] 6000 (List.forall_mem_cons.mpr ⟨dX12_isIn_15, fun _ h => absurd h List.not_mem_nil⟩) (h_X12_isIn [] 2 120 (by decide) (by decide)  ) (by decide) (by decide +kernel)
set_option maxRecDepth 200000 in
set_option maxHeartbeats 4000000 in
def K_X12_isIn_6 : tb_K := ([.inl (1, 0), .inl (2, 0), .inl (3, 0)], [], [], [(0, 0), (-2147483648, 2147483647), (0, 0), (20, 20)], [(some (.inl (4, 0)), [], [], [(0, 0), (-2147483648, 2147483647), (0, 0), (20, 20), (0, 0)]), (some (.inl (4, 0)), [], [], [(0, 0), (0, 20), (0, 0), (20, 20), (1, 1)])], [])
set_option maxRecDepth 200000 in
set_option maxHeartbeats 4000000 in
def T_X12_isIn_6 : List (tb_S × tb_l) := []
set_option maxRecDepth 200000 in
set_option maxHeartbeats 4000000 in
theorem m_X12_isIn_6 {l : Launch} : tb_Met l vwCl sa_Ts tb_Z0 yX12_isIn cX12_isIn 3 (some .boolean) 2 120 K_X12_isIn_6 := tb_method (by decide) [15] (t_X12_isIn [] ) T_X12_isIn_6 [] 6000 (List.forall_mem_cons.mpr ⟨dX12_isIn_15, fun _ h => absurd h List.not_mem_nil⟩) (h_X12_isIn [] 2 120 (by decide) (by decide)  ) (by decide) (by decide +kernel)
set_option maxRecDepth 200000 in
set_option maxHeartbeats 4000000 in
def K_X12_isIn_7 : tb_K := ([.inl (1, 0), .inl (2, 0), .inl (3, 0)], [], [], [(0, 0), (-2147483648, 2147483647), (0, 0), (-1, 5)], [(some (.inl (4, 0)), [], [], [(0, 0), (-2147483648, 2147483647), (0, 0), (-1, 5), (0, 0)]), (some (.inl (4, 0)), [], [], [(0, 0), (0, 5), (0, 0), (0, 5), (1, 1)])], [])
set_option maxRecDepth 200000 in
set_option maxHeartbeats 4000000 in
def T_X12_isIn_7 : List (tb_S × tb_l) := []
set_option maxRecDepth 200000 in
set_option maxHeartbeats 4000000 in
theorem m_X12_isIn_7 {l : Launch} : tb_Met l vwCl sa_Ts tb_Z0 yX12_isIn cX12_isIn 3 (some .boolean) 2 120 K_X12_isIn_7 := tb_method (by decide) [15] (t_X12_isIn [] ) T_X12_isIn_7 [] 6000 (List.forall_mem_cons.mpr ⟨dX12_isIn_15, fun _ h => absurd h List.not_mem_nil⟩) (h_X12_isIn [] 2 120 (by decide) (by decide)  ) (by decide) (by decide +kernel)
def t_X12_isThing (mod : List (Nat × Nat × Nat)) (L10 : List tb_K) : List (Nat × tb_op) := [(0, to_iload 1 1), (1, to_int (0) 1), (2, to_aload 0 1), (3, to_get tb_Z0 [] 12 14), (6, to_int (0) 1), (7, to_ald tb_Z0 [] 0), (8, to_int (1) 1), (9, to_sub), (10, to_cs tb_Z0 mod (tb_gS 0 0) L10)]
set_option maxRecDepth 200000 in
set_option maxHeartbeats 4000000 in
theorem h_X12_isThing {l : Launch} (mod : List (Nat × Nat × Nat)) (fr lc : Nat) (hfr : 1 + 1 ≤ fr) (hlc : 8 + (2 + 11) + 20 ≤ lc) (L10 : List tb_K) (h10 : tb_ML l yX12_isIn cX12_isIn 3 (some .boolean) fr lc 3 L10) : ∀ (p : Program) (e : Env) (s : State) (m : MethodId) (args : Array Value) (below : List Frame) (meth : Method) (c : Code) (Q : State → Prop) (D : va_G) (dA : Nat → ClassId) (A : Nat → Prop) (n0 : Nat) (V0 : sa_V) (E : tb_E), sa_C p s m args c D dA A 2 vwCl sa_Ts cX12_isThing yX12_isThing.cls → sa_U D vwCl dA s → tb_z E = tb_Z0 → tb_mod E = mod → ∀ q ∈ t_X12_isThing mod L10, tb_snd p l e { frames := fr, cells := 0, slots := 0, locals := lc } s m args below meth c Q D dA A 2 vwCl n0 V0 E q.1 q.2 := fun p e s m args below meth c Q D dA A n0 V0 E C0 hU hz hm => List.forall_mem_cons.mpr ⟨tn_iload_n C0 dX12_isThing_0, List.forall_mem_cons.mpr ⟨tn_iconst C0 dX12_isThing_1, List.forall_mem_cons.mpr ⟨tn_aload_n C0 dX12_isThing_2, List.forall_mem_cons.mpr ⟨tn_get C0 hz hcv0 kcX12 dX12_isThing_3 (by decide) tv_1275, List.forall_mem_cons.mpr ⟨tn_iconst C0 dX12_isThing_6, List.forall_mem_cons.mpr ⟨tn_iald C0 hz hcv0 dX12_isThing_7, List.forall_mem_cons.mpr ⟨tn_iconst C0 dX12_isThing_8, List.forall_mem_cons.mpr ⟨tn_sub C0 dX12_isThing_9, List.forall_mem_cons.mpr ⟨tn_cS C0 hz hm hU h10 tv_1481 dX12_isThing_10 tv_1479 tv_1480 tv_13 yb_X12_isIn (Nat.le_refl _) (Nat.le_refl _), fun _ h => absurd h List.not_mem_nil⟩⟩⟩⟩⟩⟩⟩⟩⟩
set_option maxRecDepth 200000 in
set_option maxHeartbeats 4000000 in
def K_X12_isThing_1 : tb_K := ([.inr (.inl (some 1)), .inl (2, 0)], [], [], [(0, 0), (1180591620717411303492, 1180591620717411303492), (-2147483648, 2147483647)], [(some (.inl (3, 0)), [(1, (0, 14), .inr (.inl (some 4))), (4, (0, 0), .inl (5, 0))], [], [(0, 0), (1180591620717411303492, 1180591620717411303492), (-2147483648, 2147483647), (0, 0), (1180591620717411303494, 1180591620717411303494), (0, 6)]), (some (.inl (3, 0)), [(1, (0, 14), .inr (.inl (some 4))), (4, (0, 0), .inl (5, 0))], [], [(0, 0), (1180591620717411303492, 1180591620717411303492), (0, 5), (1, 1), (1180591620717411303494, 1180591620717411303494), (1, 6)])], [])
set_option maxRecDepth 200000 in
set_option maxHeartbeats 4000000 in
def T_X12_isThing_1 : List (tb_S × tb_l) := []
set_option maxRecDepth 200000 in
set_option maxHeartbeats 4000000 in
theorem m_X12_isThing_1 {l : Launch} : tb_Met l vwCl sa_Ts tb_Z0 yX12_isThing cX12_isThing 2 (some .boolean) 3 142 K_X12_isThing_1 := tb_method (by decide) [13] (t_X12_isThing [] [K_X12_isIn_7]) T_X12_isThing_1 [] 6000 (List.forall_mem_cons.mpr ⟨dX12_isThing_13, fun _ h => absurd h List.not_mem_nil⟩) (h_X12_isThing [] 3 142 (by decide) (by decide) [K_X12_isIn_7] ⟨2, 120, List.forall_mem_cons.mpr ⟨m_X12_isIn_7, fun _ h => absurd h List.not_mem_nil⟩, by decide, by decide, by decide⟩) (by decide) (by decide +kernel)
def t_X12_isThere (mod : List (Nat × Nat × Nat))  : List (Nat × tb_op) := [(0, to_aload 0 1), (1, to_get tb_Z0 [] 12 14), (4, to_int (105) 2), (6, to_iload 1 1), (7, to_bin tf_add), (8, to_ald tb_Z0 [] 0), (9, to_int (1) 1), (10, to_icmp tr_ne tr_eq 17), (13, to_int (1) 1), (14, to_goto 18), (17, to_int (0) 1)]
set_option maxRecDepth 200000 in
set_option maxHeartbeats 4000000 in
theorem h_X12_isThere {l : Launch} (mod : List (Nat × Nat × Nat)) (fr lc : Nat) (hfr : 1 + 1 ≤ fr) (hlc : 8 + (2 + 11) + 20 ≤ lc)   : ∀ (p : Program) (e : Env) (s : State) (m : MethodId) (args : Array Value) (below : List Frame) (meth : Method) (c : Code) (Q : State → Prop) (D : va_G) (dA : Nat → ClassId) (A : Nat → Prop) (n0 : Nat) (V0 : sa_V) (E : tb_E), sa_C p s m args c D dA A 2 vwCl sa_Ts cX12_isThere yX12_isThere.cls → sa_U D vwCl dA s → tb_z E = tb_Z0 → tb_mod E = mod → ∀ q ∈ t_X12_isThere mod , tb_snd p l e { frames := fr, cells := 0, slots := 0, locals := lc } s m args below meth c Q D dA A 2 vwCl n0 V0 E q.1 q.2 := fun p e s m args below meth c Q D dA A n0 V0 E C0 hU hz hm => List.forall_mem_cons.mpr ⟨tn_aload_n C0 dX12_isThere_0, List.forall_mem_cons.mpr ⟨tn_get C0 hz hcv0 kcX12 dX12_isThere_1 (by decide) tv_1275, List.forall_mem_cons.mpr ⟨tn_bipush C0 dX12_isThere_4 (by decide), List.forall_mem_cons.mpr ⟨tn_iload_n C0 dX12_isThere_6, List.forall_mem_cons.mpr ⟨tn_iadd C0 tf_add_ok dX12_isThere_7, List.forall_mem_cons.mpr ⟨tn_iald C0 hz hcv0 dX12_isThere_8, List.forall_mem_cons.mpr ⟨tn_iconst C0 dX12_isThere_9, List.forall_mem_cons.mpr ⟨tx_icmp_ne C0 dX12_isThere_10 (by decide), List.forall_mem_cons.mpr ⟨tn_iconst C0 dX12_isThere_13, List.forall_mem_cons.mpr ⟨tn_goto C0 dX12_isThere_14 (by decide), List.forall_mem_cons.mpr ⟨tn_iconst C0 dX12_isThere_17, fun _ h => absurd h List.not_mem_nil⟩⟩⟩⟩⟩⟩⟩⟩⟩⟩⟩
set_option maxRecDepth 200000 in
set_option maxHeartbeats 4000000 in
def K_X12_isThere_1 : tb_K := ([.inr (.inl (some 1)), .inl (2, 0)], [], [], [(0, 0), (1180591620717411303492, 1180591620717411303492), (0, 7)], [(some (.inl (3, 0)), [], [], [(0, 0), (1180591620717411303492, 1180591620717411303492), (0, 7), (0, 0)]), (some (.inl (3, 0)), [], [], [(0, 0), (1180591620717411303492, 1180591620717411303492), (0, 7), (1, 1)])], [])
set_option maxRecDepth 200000 in
set_option maxHeartbeats 4000000 in
def T_X12_isThere_1 : List (tb_S × tb_l) := []
set_option maxRecDepth 200000 in
set_option maxHeartbeats 4000000 in
theorem m_X12_isThere_1 {l : Launch} : tb_Met l vwCl sa_Ts tb_Z0 yX12_isThere cX12_isThere 2 (some .boolean) 2 120 K_X12_isThere_1 := tb_method (by decide) [18] (t_X12_isThere [] ) T_X12_isThere_1 [] 6000 (List.forall_mem_cons.mpr ⟨dX12_isThere_18, fun _ h => absurd h List.not_mem_nil⟩) (h_X12_isThere [] 2 120 (by decide) (by decide)  ) (by decide) (by decide +kernel)
def t_X12_worst (mod : List (Nat × Nat × Nat)) (L16 : List tb_K) : List (Nat × tb_op) := [(0, to_int (-1) 1), (1, to_istore 4 2 1), (2, to_int (0) 1), (3, to_istore 4 3 1), (4, to_iload 3 1), (5, to_aload 0 1), (6, to_get tb_Z0 [] 12 14), (9, to_int (1) 1), (10, to_ald tb_Z0 [] 0), (11, to_icmp (sr_flip tr_le) tr_lt 69), (14, to_aload 0 1), (15, to_iload 3 1), (16, to_cs tb_Z0 mod (tb_gV tb_Z0 12 2 0 0) L16), (19, to_if tr_eq tr_ne 63), (22, to_aload 0 1), (23, to_get tb_Z0 [] 12 14), (26, to_int (21) 2), (28, to_iload 3 1), (29, to_bin tf_add), (30, to_ald tb_Z0 [] 0), (31, to_iload 1 1), (32, to_icmp tr_ne tr_eq 63), (35, to_iload 2 1), (36, to_int (-1) 1), (37, to_icmp tr_eq tr_ne 61), (40, to_aload 0 1), (41, to_get tb_Z0 [] 12 14), (44, to_int (45) 2), (46, to_iload 3 1), (47, to_bin tf_add), (48, to_ald tb_Z0 [] 0), (49, to_aload 0 1), (50, to_get tb_Z0 [] 12 14), (53, to_int (45) 2), (55, to_iload 2 1), (56, to_bin tf_add), (57, to_ald tb_Z0 [] 0), (58, to_icmp tr_le (sr_flip tr_lt) 63), (61, to_iload 3 1), (62, to_istore 4 2 1), (63, to_inc 4 3 (1)), (66, to_goto 4), (69, to_iload 2 1)]
set_option maxRecDepth 200000 in
set_option maxHeartbeats 4000000 in
theorem h_X12_worst {l : Launch} (mod : List (Nat × Nat × Nat)) (fr lc : Nat) (hfr : 1 + 1 ≤ fr) (hlc : 8 + (2 + 11) + 20 ≤ lc) (L16 : List tb_K) (h16 : tb_ML l yX12_isThere cX12_isThere 2 (some .boolean) fr lc 2 L16) : ∀ (p : Program) (e : Env) (s : State) (m : MethodId) (args : Array Value) (below : List Frame) (meth : Method) (c : Code) (Q : State → Prop) (D : va_G) (dA : Nat → ClassId) (A : Nat → Prop) (n0 : Nat) (V0 : sa_V) (E : tb_E), sa_C p s m args c D dA A 4 vwCl sa_Ts cX12_worst yX12_worst.cls → sa_U D vwCl dA s → tb_z E = tb_Z0 → tb_mod E = mod → ∀ q ∈ t_X12_worst mod L16, tb_snd p l e { frames := fr, cells := 0, slots := 0, locals := lc } s m args below meth c Q D dA A 4 vwCl n0 V0 E q.1 q.2 := fun p e s m args below meth c Q D dA A n0 V0 E C0 hU hz hm => List.forall_mem_cons.mpr ⟨tn_iconst C0 dX12_worst_0, List.forall_mem_cons.mpr ⟨tn_istore_n C0 dX12_worst_1, List.forall_mem_cons.mpr ⟨tn_iconst C0 dX12_worst_2, List.forall_mem_cons.mpr ⟨tn_istore_n C0 dX12_worst_3, List.forall_mem_cons.mpr ⟨tn_iload_n C0 dX12_worst_4, List.forall_mem_cons.mpr ⟨tn_aload_n C0 dX12_worst_5, List.forall_mem_cons.mpr ⟨tn_get C0 hz hcv0 kcX12 dX12_worst_6 (by decide) tv_1275, List.forall_mem_cons.mpr ⟨tn_iconst C0 dX12_worst_9, List.forall_mem_cons.mpr ⟨tn_iald C0 hz hcv0 dX12_worst_10, List.forall_mem_cons.mpr ⟨tx_icmp_ge C0 dX12_worst_11 (by decide), List.forall_mem_cons.mpr ⟨tn_aload_n C0 dX12_worst_14, List.forall_mem_cons.mpr ⟨tn_iload_n C0 dX12_worst_15, List.forall_mem_cons.mpr ⟨tn_cV C0 hz hm hU h16 tv_1537 dX12_worst_16 tv_1534 tv_1536 tq_X12_isThere tv_13 rfl yb_X12_isThere (Nat.le_refl _) (Nat.le_refl _), List.forall_mem_cons.mpr ⟨tx_if_eq C0 dX12_worst_19 (by decide), List.forall_mem_cons.mpr ⟨tn_aload_n C0 dX12_worst_22, List.forall_mem_cons.mpr ⟨tn_get C0 hz hcv0 kcX12 dX12_worst_23 (by decide) tv_1275, List.forall_mem_cons.mpr ⟨tn_bipush C0 dX12_worst_26 (by decide), List.forall_mem_cons.mpr ⟨tn_iload_n C0 dX12_worst_28, List.forall_mem_cons.mpr ⟨tn_iadd C0 tf_add_ok dX12_worst_29, List.forall_mem_cons.mpr ⟨tn_iald C0 hz hcv0 dX12_worst_30, List.forall_mem_cons.mpr ⟨tn_iload_n C0 dX12_worst_31, List.forall_mem_cons.mpr ⟨tx_icmp_ne C0 dX12_worst_32 (by decide), List.forall_mem_cons.mpr ⟨tn_iload_n C0 dX12_worst_35, List.forall_mem_cons.mpr ⟨tn_iconst C0 dX12_worst_36, List.forall_mem_cons.mpr ⟨tx_icmp_eq C0 dX12_worst_37 (by decide), List.forall_mem_cons.mpr ⟨tn_aload_n C0 dX12_worst_40, List.forall_mem_cons.mpr ⟨tn_get C0 hz hcv0 kcX12 dX12_worst_41 (by decide) tv_1275, List.forall_mem_cons.mpr ⟨tn_bipush C0 dX12_worst_44 (by decide), List.forall_mem_cons.mpr ⟨tn_iload_n C0 dX12_worst_46, List.forall_mem_cons.mpr ⟨tn_iadd C0 tf_add_ok dX12_worst_47, List.forall_mem_cons.mpr ⟨tn_iald C0 hz hcv0 dX12_worst_48, List.forall_mem_cons.mpr ⟨tn_aload_n C0 dX12_worst_49, List.forall_mem_cons.mpr ⟨tn_get C0 hz hcv0 kcX12 dX12_worst_50 (by decide) tv_1275, List.forall_mem_cons.mpr ⟨tn_bipush C0 dX12_worst_53 (by decide), List.forall_mem_cons.mpr ⟨tn_iload_n C0 dX12_worst_55, List.forall_mem_cons.mpr ⟨tn_iadd C0 tf_add_ok dX12_worst_56, List.forall_mem_cons.mpr ⟨tn_iald C0 hz hcv0 dX12_worst_57, List.forall_mem_cons.mpr ⟨tx_icmp_le C0 dX12_worst_58 (by decide), List.forall_mem_cons.mpr ⟨tn_iload_n C0 dX12_worst_61, List.forall_mem_cons.mpr ⟨tn_istore_n C0 dX12_worst_62, List.forall_mem_cons.mpr ⟨tn_inc C0 dX12_worst_63, List.forall_mem_cons.mpr ⟨tn_goto C0 dX12_worst_66 (by decide), List.forall_mem_cons.mpr ⟨tn_iload_n C0 dX12_worst_69, fun _ h => absurd h List.not_mem_nil⟩⟩⟩⟩⟩⟩⟩⟩⟩⟩⟩⟩⟩⟩⟩⟩⟩⟩⟩⟩⟩⟩⟩⟩⟩⟩⟩⟩⟩⟩⟩⟩⟩⟩⟩⟩⟩⟩⟩⟩⟩⟩⟩
set_option maxRecDepth 200000 in
set_option maxHeartbeats 4000000 in
def K_X12_worst_1 : tb_K := ([.inr (.inl (some 1)), .inl (2, 0)], [], [], [(0, 0), (1180591620717411303492, 1180591620717411303492), (-2147483648, 2147483647)], [(some (.inl (3, 0)), [], [], [(0, 0), (1180591620717411303492, 1180591620717411303492), (-2147483648, 2147483647), (-1, 7)])], [])
set_option maxRecDepth 200000 in
set_option maxHeartbeats 4000000 in
def T_X12_worst_1 : List (tb_S × tb_l) := [((4, [(0, .inr (.inl (some 1))), (1, .inl (2, 0)), (2, .inl (3, 0)), (3, .inl (4, 0))], [], ([], [], []), [(0, 0), (1180591620717411303492, 1180591620717411303492), (-2147483648, 2147483647), (-1, 7), (0, 8)], 0, 0), ([(4, (-1))], 8))]
set_option maxRecDepth 200000 in
set_option maxHeartbeats 4000000 in
theorem m_X12_worst_1 {l : Launch} : tb_Met l vwCl sa_Ts tb_Z0 yX12_worst cX12_worst 4 (some .int) 3 141 K_X12_worst_1 := tb_method (by decide) [70] (t_X12_worst [] [K_X12_isThere_1]) T_X12_worst_1 [4] 6000 (List.forall_mem_cons.mpr ⟨dX12_worst_70, fun _ h => absurd h List.not_mem_nil⟩) (h_X12_worst [] 3 141 (by decide) (by decide) [K_X12_isThere_1] ⟨2, 120, List.forall_mem_cons.mpr ⟨m_X12_isThere_1, fun _ h => absurd h List.not_mem_nil⟩, by decide, by decide, by decide⟩) (by decide) (by decide +kernel)
def t_X12_lamp (mod : List (Nat × Nat × Nat)) (L34 : List tb_K) (L49 : List tb_K) : List (Nat × tb_op) := [(0, to_aload 0 1), (1, to_get tb_Z0 [] 12 14), (4, to_int (81) 2), (6, to_iload 1 1), (7, to_bin tf_add), (8, to_ald tb_Z0 [] 0), (9, to_int (2) 1), (10, to_icmp (sr_flip tr_le) tr_lt 32), (13, to_aload 0 1), (14, to_get tb_Z0 [] 12 14), (17, to_int (81) 2), (19, to_iload 1 1), (20, to_bin tf_add), (21, to_ald tb_Z0 [] 0), (22, to_if tr_ne tr_eq 29), (25, to_int (0) 1), (26, to_goto 31), (29, to_int (16) 2), (32, to_aload 0 1), (33, to_iload 1 1), (34, to_cs tb_Z0 mod (tb_gV tb_Z0 12 2 0 0) L34), (37, to_int (-1) 1), (38, to_icmp tr_eq tr_ne 55), (41, to_aload 0 1), (42, to_get tb_Z0 [] 12 14), (45, to_int (45) 2), (47, to_aload 0 1), (48, to_iload 1 1), (49, to_cs tb_Z0 mod (tb_gV tb_Z0 12 2 0 0) L49), (52, to_bin tf_add), (53, to_ald tb_Z0 [] 0), (55, to_aload 0 1), (56, to_get tb_Z0 [] 12 14), (59, to_int (93) 2), (61, to_iload 1 1), (62, to_bin tf_add), (63, to_ald tb_Z0 [] 0), (64, to_if tr_ne tr_eq 72), (67, to_int (17) 2), (69, to_goto 74), (72, to_int (18) 2)]
set_option maxRecDepth 200000 in
set_option maxHeartbeats 4000000 in
theorem h_X12_lamp {l : Launch} (mod : List (Nat × Nat × Nat)) (fr lc : Nat) (hfr : 1 + 1 ≤ fr) (hlc : 8 + (2 + 11) + 20 ≤ lc) (L34 : List tb_K) (L49 : List tb_K) (h34 : tb_ML l yX12_worst cX12_worst 4 (some .int) fr lc 2 L34) (h49 : tb_ML l yX12_worst cX12_worst 4 (some .int) fr lc 2 L49) : ∀ (p : Program) (e : Env) (s : State) (m : MethodId) (args : Array Value) (below : List Frame) (meth : Method) (c : Code) (Q : State → Prop) (D : va_G) (dA : Nat → ClassId) (A : Nat → Prop) (n0 : Nat) (V0 : sa_V) (E : tb_E), sa_C p s m args c D dA A 2 vwCl sa_Ts cX12_lamp yX12_lamp.cls → sa_U D vwCl dA s → tb_z E = tb_Z0 → tb_mod E = mod → ∀ q ∈ t_X12_lamp mod L34 L49, tb_snd p l e { frames := fr, cells := 0, slots := 0, locals := lc } s m args below meth c Q D dA A 2 vwCl n0 V0 E q.1 q.2 := fun p e s m args below meth c Q D dA A n0 V0 E C0 hU hz hm => List.forall_mem_cons.mpr ⟨tn_aload_n C0 dX12_lamp_0, List.forall_mem_cons.mpr ⟨tn_get C0 hz hcv0 kcX12 dX12_lamp_1 (by decide) tv_1275, List.forall_mem_cons.mpr ⟨tn_bipush C0 dX12_lamp_4 (by decide), List.forall_mem_cons.mpr ⟨tn_iload_n C0 dX12_lamp_6, List.forall_mem_cons.mpr ⟨tn_iadd C0 tf_add_ok dX12_lamp_7, List.forall_mem_cons.mpr ⟨tn_iald C0 hz hcv0 dX12_lamp_8, List.forall_mem_cons.mpr ⟨tn_iconst C0 dX12_lamp_9, List.forall_mem_cons.mpr ⟨tx_icmp_ge C0 dX12_lamp_10 (by decide), List.forall_mem_cons.mpr ⟨tn_aload_n C0 dX12_lamp_13, List.forall_mem_cons.mpr ⟨tn_get C0 hz hcv0 kcX12 dX12_lamp_14 (by decide) tv_1275, List.forall_mem_cons.mpr ⟨tn_bipush C0 dX12_lamp_17 (by decide), List.forall_mem_cons.mpr ⟨tn_iload_n C0 dX12_lamp_19, List.forall_mem_cons.mpr ⟨tn_iadd C0 tf_add_ok dX12_lamp_20, List.forall_mem_cons.mpr ⟨tn_iald C0 hz hcv0 dX12_lamp_21, List.forall_mem_cons.mpr ⟨tx_if_ne C0 dX12_lamp_22 (by decide), List.forall_mem_cons.mpr ⟨tn_iconst C0 dX12_lamp_25, List.forall_mem_cons.mpr ⟨tn_goto C0 dX12_lamp_26 (by decide), List.forall_mem_cons.mpr ⟨tn_bipush C0 dX12_lamp_29 (by decide), List.forall_mem_cons.mpr ⟨tn_aload_n C0 dX12_lamp_32, List.forall_mem_cons.mpr ⟨tn_iload_n C0 dX12_lamp_33, List.forall_mem_cons.mpr ⟨tn_cV C0 hz hm hU h34 tv_1533 dX12_lamp_34 tv_1530 tv_1532 tq_X12_worst tv_13 rfl yb_X12_worst (Nat.le_refl _) (Nat.le_refl _), List.forall_mem_cons.mpr ⟨tn_iconst C0 dX12_lamp_37, List.forall_mem_cons.mpr ⟨tx_icmp_eq C0 dX12_lamp_38 (by decide), List.forall_mem_cons.mpr ⟨tn_aload_n C0 dX12_lamp_41, List.forall_mem_cons.mpr ⟨tn_get C0 hz hcv0 kcX12 dX12_lamp_42 (by decide) tv_1275, List.forall_mem_cons.mpr ⟨tn_bipush C0 dX12_lamp_45 (by decide), List.forall_mem_cons.mpr ⟨tn_aload_n C0 dX12_lamp_47, List.forall_mem_cons.mpr ⟨tn_iload_n C0 dX12_lamp_48, List.forall_mem_cons.mpr ⟨tn_cV C0 hz hm hU h49 tv_1533 dX12_lamp_49 tv_1530 tv_1532 tq_X12_worst tv_13 rfl yb_X12_worst (Nat.le_refl _) (Nat.le_refl _), List.forall_mem_cons.mpr ⟨tn_iadd C0 tf_add_ok dX12_lamp_52, List.forall_mem_cons.mpr ⟨tn_iald C0 hz hcv0 dX12_lamp_53, List.forall_mem_cons.mpr ⟨tn_aload_n C0 dX12_lamp_55, List.forall_mem_cons.mpr ⟨tn_get C0 hz hcv0 kcX12 dX12_lamp_56 (by decide) tv_1275, List.forall_mem_cons.mpr ⟨tn_bipush C0 dX12_lamp_59 (by decide), List.forall_mem_cons.mpr ⟨tn_iload_n C0 dX12_lamp_61, List.forall_mem_cons.mpr ⟨tn_iadd C0 tf_add_ok dX12_lamp_62, List.forall_mem_cons.mpr ⟨tn_iald C0 hz hcv0 dX12_lamp_63, List.forall_mem_cons.mpr ⟨tx_if_ne C0 dX12_lamp_64 (by decide), List.forall_mem_cons.mpr ⟨tn_bipush C0 dX12_lamp_67 (by decide), List.forall_mem_cons.mpr ⟨tn_goto C0 dX12_lamp_69 (by decide), List.forall_mem_cons.mpr ⟨tn_bipush C0 dX12_lamp_72 (by decide), fun _ h => absurd h List.not_mem_nil⟩⟩⟩⟩⟩⟩⟩⟩⟩⟩⟩⟩⟩⟩⟩⟩⟩⟩⟩⟩⟩⟩⟩⟩⟩⟩⟩⟩⟩⟩⟩⟩⟩⟩⟩⟩⟩⟩⟩⟩⟩
set_option maxRecDepth 200000 in
set_option maxHeartbeats 4000000 in
def K_X12_lamp_1 : tb_K := ([.inr (.inl (some 1)), .inl (2, 0)], [], [], [(0, 0), (1180591620717411303492, 1180591620717411303492), (0, 5)], [(some (.inl (3, 0)), [], [], [(0, 0), (1180591620717411303492, 1180591620717411303492), (0, 5), (-2147483648, 2147483647)])], [])
set_option maxRecDepth 200000 in
set_option maxHeartbeats 4000000 in
def T_X12_lamp_1 : List (tb_S × tb_l) := []
set_option maxRecDepth 200000 in
set_option maxHeartbeats 4000000 in
theorem m_X12_lamp_1 {l : Launch} : tb_Met l vwCl sa_Ts tb_Z0 yX12_lamp cX12_lamp 2 (some .int) 4 164 K_X12_lamp_1 := tb_method (by decide) [31, 54, 74] (t_X12_lamp [] [K_X12_worst_1] [K_X12_worst_1]) T_X12_lamp_1 [] 6000 (List.forall_mem_cons.mpr ⟨dX12_lamp_31, List.forall_mem_cons.mpr ⟨dX12_lamp_54, List.forall_mem_cons.mpr ⟨dX12_lamp_74, fun _ h => absurd h List.not_mem_nil⟩⟩⟩) (h_X12_lamp [] 4 164 (by decide) (by decide) [K_X12_worst_1] [K_X12_worst_1] ⟨3, 141, List.forall_mem_cons.mpr ⟨m_X12_worst_1, fun _ h => absurd h List.not_mem_nil⟩, by decide, by decide, by decide⟩ ⟨3, 141, List.forall_mem_cons.mpr ⟨m_X12_worst_1, fun _ h => absurd h List.not_mem_nil⟩, by decide, by decide, by decide⟩) (by decide) (by decide +kernel)
def t_X12_isNumbered (mod : List (Nat × Nat × Nat))  : List (Nat × tb_op) := [(0, to_aload 0 1), (1, to_get tb_Z0 [] 12 14), (4, to_int (81) 2), (6, to_iload 1 1), (7, to_bin tf_add), (8, to_ald tb_Z0 [] 0), (9, to_int (2) 1), (10, to_icmp tr_ne tr_eq 30), (13, to_aload 0 1), (14, to_get tb_Z0 [] 12 14), (17, to_int (93) 2), (19, to_iload 1 1), (20, to_bin tf_add), (21, to_ald tb_Z0 [] 0), (22, to_int (1) 1), (23, to_icmp tr_ne tr_eq 30), (26, to_int (1) 1), (27, to_goto 31), (30, to_int (0) 1)]
set_option maxRecDepth 200000 in
set_option maxHeartbeats 4000000 in
theorem h_X12_isNumbered {l : Launch} (mod : List (Nat × Nat × Nat)) (fr lc : Nat) (hfr : 1 + 1 ≤ fr) (hlc : 8 + (2 + 11) + 20 ≤ lc)   : ∀ (p : Program) (e : Env) (s : State) (m : MethodId) (args : Array Value) (below : List Frame) (meth : Method) (c : Code) (Q : State → Prop) (D : va_G) (dA : Nat → ClassId) (A : Nat → Prop) (n0 : Nat) (V0 : sa_V) (E : tb_E), sa_C p s m args c D dA A 2 vwCl sa_Ts cX12_isNumbered yX12_isNumbered.cls → sa_U D vwCl dA s → tb_z E = tb_Z0 → tb_mod E = mod → ∀ q ∈ t_X12_isNumbered mod , tb_snd p l e { frames := fr, cells := 0, slots := 0, locals := lc } s m args below meth c Q D dA A 2 vwCl n0 V0 E q.1 q.2 := fun p e s m args below meth c Q D dA A n0 V0 E C0 hU hz hm => List.forall_mem_cons.mpr ⟨tn_aload_n C0 dX12_isNumbered_0, List.forall_mem_cons.mpr ⟨tn_get C0 hz hcv0 kcX12 dX12_isNumbered_1 (by decide) tv_1275, List.forall_mem_cons.mpr ⟨tn_bipush C0 dX12_isNumbered_4 (by decide), List.forall_mem_cons.mpr ⟨tn_iload_n C0 dX12_isNumbered_6, List.forall_mem_cons.mpr ⟨tn_iadd C0 tf_add_ok dX12_isNumbered_7, List.forall_mem_cons.mpr ⟨tn_iald C0 hz hcv0 dX12_isNumbered_8, List.forall_mem_cons.mpr ⟨tn_iconst C0 dX12_isNumbered_9, List.forall_mem_cons.mpr ⟨tx_icmp_ne C0 dX12_isNumbered_10 (by decide), List.forall_mem_cons.mpr ⟨tn_aload_n C0 dX12_isNumbered_13, List.forall_mem_cons.mpr ⟨tn_get C0 hz hcv0 kcX12 dX12_isNumbered_14 (by decide) tv_1275, List.forall_mem_cons.mpr ⟨tn_bipush C0 dX12_isNumbered_17 (by decide), List.forall_mem_cons.mpr ⟨tn_iload_n C0 dX12_isNumbered_19, List.forall_mem_cons.mpr ⟨tn_iadd C0 tf_add_ok dX12_isNumbered_20, List.forall_mem_cons.mpr ⟨tn_iald C0 hz hcv0 dX12_isNumbered_21, List.forall_mem_cons.mpr ⟨tn_iconst C0 dX12_isNumbered_22, List.forall_mem_cons.mpr ⟨tx_icmp_ne C0 dX12_isNumbered_23 (by decide), List.forall_mem_cons.mpr ⟨tn_iconst C0 dX12_isNumbered_26, List.forall_mem_cons.mpr ⟨tn_goto C0 dX12_isNumbered_27 (by decide), List.forall_mem_cons.mpr ⟨tn_iconst C0 dX12_isNumbered_30, fun _ h => absurd h List.not_mem_nil⟩⟩⟩⟩⟩⟩⟩⟩⟩⟩⟩⟩⟩⟩⟩⟩⟩⟩⟩
set_option maxRecDepth 200000 in
set_option maxHeartbeats 4000000 in
def K_X12_isNumbered_1 : tb_K := ([.inr (.inl (some 1)), .inl (2, 0)], [], [], [(0, 0), (1180591620717411303492, 1180591620717411303492), (0, 5)], [(some (.inl (3, 0)), [], [], [(0, 0), (1180591620717411303492, 1180591620717411303492), (0, 5), (0, 0)]), (some (.inl (3, 0)), [], [], [(0, 0), (1180591620717411303492, 1180591620717411303492), (0, 5), (1, 1)])], [])
set_option maxRecDepth 200000 in
set_option maxHeartbeats 4000000 in
def T_X12_isNumbered_1 : List (tb_S × tb_l) := []
set_option maxRecDepth 200000 in
set_option maxHeartbeats 4000000 in
theorem m_X12_isNumbered_1 {l : Launch} : tb_Met l vwCl sa_Ts tb_Z0 yX12_isNumbered cX12_isNumbered 2 (some .boolean) 2 120 K_X12_isNumbered_1 := tb_method (by decide) [31] (t_X12_isNumbered [] ) T_X12_isNumbered_1 [] 6000 (List.forall_mem_cons.mpr ⟨dX12_isNumbered_31, fun _ h => absurd h List.not_mem_nil⟩) (h_X12_isNumbered [] 2 120 (by decide) (by decide)  ) (by decide) (by decide +kernel)
def t_X12_works (mod : List (Nat × Nat × Nat)) (L9 : List tb_K) (L17 : List tb_K) : List (Nat × tb_op) := [(0, to_iload 1 1), (1, to_istore 3 2 1), (2, to_iload 2 1), (3, to_int (-1) 1), (4, to_icmp tr_eq tr_ne 39), (7, to_aload 0 1), (8, to_iload 2 1), (9, to_cs tb_Z0 mod (tb_gV tb_Z0 12 2 0 0) L9), (12, to_if tr_eq tr_ne 24), (15, to_aload 0 1), (16, to_iload 2 1), (17, to_cs tb_Z0 mod (tb_gV tb_Z0 12 2 0 0) L17), (20, to_int (-1) 1), (21, to_icmp tr_eq tr_ne 26), (24, to_int (0) 1), (26, tb_seq (tb_spl tb_Z0 2 []) (to_aload 0 1)), (27, to_get tb_Z0 [] 12 14), (30, to_int (15) 2), (32, to_iload 2 1), (33, to_bin tf_add), (34, to_ald tb_Z0 [0] 0), (35, to_istore 3 2 1), (36, to_goto 2), (39, to_int (1) 1)]
set_option maxRecDepth 200000 in
set_option maxHeartbeats 4000000 in
theorem h_X12_works {l : Launch} (mod : List (Nat × Nat × Nat)) (fr lc : Nat) (hfr : 1 + 1 ≤ fr) (hlc : 8 + (2 + 11) + 20 ≤ lc) (L9 : List tb_K) (L17 : List tb_K) (h9 : tb_ML l yX12_isNumbered cX12_isNumbered 2 (some .boolean) fr lc 2 L9) (h17 : tb_ML l yX12_worst cX12_worst 4 (some .int) fr lc 2 L17) : ∀ (p : Program) (e : Env) (s : State) (m : MethodId) (args : Array Value) (below : List Frame) (meth : Method) (c : Code) (Q : State → Prop) (D : va_G) (dA : Nat → ClassId) (A : Nat → Prop) (n0 : Nat) (V0 : sa_V) (E : tb_E), sa_C p s m args c D dA A 3 vwCl sa_Ts cX12_works yX12_works.cls → sa_U D vwCl dA s → tb_z E = tb_Z0 → tb_mod E = mod → ∀ q ∈ t_X12_works mod L9 L17, tb_snd p l e { frames := fr, cells := 0, slots := 0, locals := lc } s m args below meth c Q D dA A 3 vwCl n0 V0 E q.1 q.2 := fun p e s m args below meth c Q D dA A n0 V0 E C0 hU hz hm => List.forall_mem_cons.mpr ⟨tn_iload_n C0 dX12_works_0, List.forall_mem_cons.mpr ⟨tn_istore_n C0 dX12_works_1, List.forall_mem_cons.mpr ⟨tn_iload_n C0 dX12_works_2, List.forall_mem_cons.mpr ⟨tn_iconst C0 dX12_works_3, List.forall_mem_cons.mpr ⟨tx_icmp_eq C0 dX12_works_4 (by decide), List.forall_mem_cons.mpr ⟨tn_aload_n C0 dX12_works_7, List.forall_mem_cons.mpr ⟨tn_iload_n C0 dX12_works_8, List.forall_mem_cons.mpr ⟨tn_cV C0 hz hm hU h9 tv_1545 dX12_works_9 tv_1542 tv_1544 tq_X12_isNumbered tv_13 rfl yb_X12_isNumbered (Nat.le_refl _) (Nat.le_refl _), List.forall_mem_cons.mpr ⟨tx_if_eq C0 dX12_works_12 (by decide), List.forall_mem_cons.mpr ⟨tn_aload_n C0 dX12_works_15, List.forall_mem_cons.mpr ⟨tn_iload_n C0 dX12_works_16, List.forall_mem_cons.mpr ⟨tn_cV C0 hz hm hU h17 tv_1533 dX12_works_17 tv_1530 tv_1532 tq_X12_worst tv_13 rfl yb_X12_worst (Nat.le_refl _) (Nat.le_refl _), List.forall_mem_cons.mpr ⟨tn_iconst C0 dX12_works_20, List.forall_mem_cons.mpr ⟨tx_icmp_eq C0 dX12_works_21 (by decide), List.forall_mem_cons.mpr ⟨tn_iconst C0 dX12_works_24, List.forall_mem_cons.mpr ⟨tn_seq (tn_spl hz hcv0) (tn_aload_n C0 dX12_works_26), List.forall_mem_cons.mpr ⟨tn_get C0 hz hcv0 kcX12 dX12_works_27 (by decide) tv_1275, List.forall_mem_cons.mpr ⟨tn_bipush C0 dX12_works_30 (by decide), List.forall_mem_cons.mpr ⟨tn_iload_n C0 dX12_works_32, List.forall_mem_cons.mpr ⟨tn_iadd C0 tf_add_ok dX12_works_33, List.forall_mem_cons.mpr ⟨tn_iald C0 hz hcv0 dX12_works_34, List.forall_mem_cons.mpr ⟨tn_istore_n C0 dX12_works_35, List.forall_mem_cons.mpr ⟨tn_goto C0 dX12_works_36 (by decide), List.forall_mem_cons.mpr ⟨tn_iconst C0 dX12_works_39, fun _ h => absurd h List.not_mem_nil⟩⟩⟩⟩⟩⟩⟩⟩⟩⟩⟩⟩⟩⟩⟩⟩⟩⟩⟩⟩⟩⟩⟩⟩
set_option maxRecDepth 200000 in
set_option maxHeartbeats 4000000 in
def K_X12_works_1 : tb_K := ([.inr (.inl (some 1)), .inl (2, 0)], [(1, (0, 14), .inr (.inl (some 3))), (3, (0, 0), .inl (4, 0))], [], [(0, 0), (1180591620717411303492, 1180591620717411303492), (0, 5), (1180591620717411303494, 1180591620717411303494), (1, 6)], [(some (.inl (5, 0)), [(1, (0, 14), .inr (.inl (some 3))), (3, (0, 0), .inl (4, 0))], [], [(0, 0), (1180591620717411303492, 1180591620717411303492), (0, 5), (1180591620717411303494, 1180591620717411303494), (1, 6), (1, 1)]), (some (.inl (5, 0)), [(1, (0, 14), .inr (.inl (some 3))), (3, (0, 0), .inl (4, 0))], [], [(0, 0), (1180591620717411303492, 1180591620717411303492), (0, 5), (1180591620717411303494, 1180591620717411303494), (1, 6), (0, 0)])], [])
set_option maxRecDepth 200000 in
set_option maxHeartbeats 4000000 in
def T_X12_works_1 : List (tb_S × tb_l) := [((2, [(0, .inr (.inl (some 1))), (1, .inl (2, 0)), (2, .inl (5, 0))], [], ([(1, (0, 14), .inr (.inl (some 3))), (3, (0, 0), .inl (4, 0))], [], []), [(0, 0), (1180591620717411303492, 1180591620717411303492), (0, 5), (1180591620717411303494, 1180591620717411303494), (1, 6), (-1, 5)], 0, 0), ([(5, 1)], 1))]
set_option maxRecDepth 200000 in
set_option maxHeartbeats 4000000 in
theorem m_X12_works_1 {l : Launch} : tb_Met l vwCl sa_Ts tb_Z0 yX12_works cX12_works 3 (some .boolean) 4 164 K_X12_works_1 := tb_method (by decide) [25, 40] (t_X12_works [] [K_X12_isNumbered_1] [K_X12_worst_1]) T_X12_works_1 [2] 6000 (List.forall_mem_cons.mpr ⟨dX12_works_25, List.forall_mem_cons.mpr ⟨dX12_works_40, fun _ h => absurd h List.not_mem_nil⟩⟩) (h_X12_works [] 4 164 (by decide) (by decide) [K_X12_isNumbered_1] [K_X12_worst_1] ⟨2, 120, List.forall_mem_cons.mpr ⟨m_X12_isNumbered_1, fun _ h => absurd h List.not_mem_nil⟩, by decide, by decide, by decide⟩ ⟨3, 141, List.forall_mem_cons.mpr ⟨m_X12_worst_1, fun _ h => absurd h List.not_mem_nil⟩, by decide, by decide, by decide⟩) (by decide) (by decide +kernel)
set_option maxRecDepth 200000 in
set_option maxHeartbeats 4000000 in
def K_X12_isIn_8 : tb_K := ([.inl (1, 0), .inl (2, 0), .inl (3, 0)], [], [], [(0, 0), (-2147483648, 2147483647), (0, 0), (-1, 7)], [(some (.inl (4, 0)), [], [], [(0, 0), (-2147483648, 2147483647), (0, 0), (-1, 7), (0, 0)]), (some (.inl (4, 0)), [], [], [(0, 0), (0, 7), (0, 0), (0, 7), (1, 1)])], [])
set_option maxRecDepth 200000 in
set_option maxHeartbeats 4000000 in
def T_X12_isIn_8 : List (tb_S × tb_l) := []
set_option maxRecDepth 200000 in
set_option maxHeartbeats 4000000 in
theorem m_X12_isIn_8 {l : Launch} : tb_Met l vwCl sa_Ts tb_Z0 yX12_isIn cX12_isIn 3 (some .boolean) 2 120 K_X12_isIn_8 := tb_method (by decide) [15] (t_X12_isIn [] ) T_X12_isIn_8 [] 6000 (List.forall_mem_cons.mpr ⟨dX12_isIn_15, fun _ h => absurd h List.not_mem_nil⟩) (h_X12_isIn [] 2 120 (by decide) (by decide)  ) (by decide) (by decide +kernel)
def t_X12_isFault (mod : List (Nat × Nat × Nat)) (L10 : List tb_K) : List (Nat × tb_op) := [(0, to_iload 1 1), (1, to_int (0) 1), (2, to_aload 0 1), (3, to_get tb_Z0 [] 12 14), (6, to_int (1) 1), (7, to_ald tb_Z0 [] 0), (8, to_int (1) 1), (9, to_sub), (10, to_cs tb_Z0 mod (tb_gS 0 0) L10)]
set_option maxRecDepth 200000 in
set_option maxHeartbeats 4000000 in
theorem h_X12_isFault {l : Launch} (mod : List (Nat × Nat × Nat)) (fr lc : Nat) (hfr : 1 + 1 ≤ fr) (hlc : 8 + (2 + 11) + 20 ≤ lc) (L10 : List tb_K) (h10 : tb_ML l yX12_isIn cX12_isIn 3 (some .boolean) fr lc 3 L10) : ∀ (p : Program) (e : Env) (s : State) (m : MethodId) (args : Array Value) (below : List Frame) (meth : Method) (c : Code) (Q : State → Prop) (D : va_G) (dA : Nat → ClassId) (A : Nat → Prop) (n0 : Nat) (V0 : sa_V) (E : tb_E), sa_C p s m args c D dA A 2 vwCl sa_Ts cX12_isFault yX12_isFault.cls → sa_U D vwCl dA s → tb_z E = tb_Z0 → tb_mod E = mod → ∀ q ∈ t_X12_isFault mod L10, tb_snd p l e { frames := fr, cells := 0, slots := 0, locals := lc } s m args below meth c Q D dA A 2 vwCl n0 V0 E q.1 q.2 := fun p e s m args below meth c Q D dA A n0 V0 E C0 hU hz hm => List.forall_mem_cons.mpr ⟨tn_iload_n C0 dX12_isFault_0, List.forall_mem_cons.mpr ⟨tn_iconst C0 dX12_isFault_1, List.forall_mem_cons.mpr ⟨tn_aload_n C0 dX12_isFault_2, List.forall_mem_cons.mpr ⟨tn_get C0 hz hcv0 kcX12 dX12_isFault_3 (by decide) tv_1275, List.forall_mem_cons.mpr ⟨tn_iconst C0 dX12_isFault_6, List.forall_mem_cons.mpr ⟨tn_iald C0 hz hcv0 dX12_isFault_7, List.forall_mem_cons.mpr ⟨tn_iconst C0 dX12_isFault_8, List.forall_mem_cons.mpr ⟨tn_sub C0 dX12_isFault_9, List.forall_mem_cons.mpr ⟨tn_cS C0 hz hm hU h10 tv_1481 dX12_isFault_10 tv_1479 tv_1480 tv_13 yb_X12_isIn (Nat.le_refl _) (Nat.le_refl _), fun _ h => absurd h List.not_mem_nil⟩⟩⟩⟩⟩⟩⟩⟩⟩
set_option maxRecDepth 200000 in
set_option maxHeartbeats 4000000 in
def K_X12_isFault_1 : tb_K := ([.inr (.inl (some 1)), .inl (2, 0)], [], [], [(0, 0), (1180591620717411303492, 1180591620717411303492), (-2147483648, 2147483647)], [(some (.inl (3, 0)), [(1, (0, 14), .inr (.inl (some 4))), (4, (0, 1), .inl (5, 0))], [], [(0, 0), (1180591620717411303492, 1180591620717411303492), (-2147483648, 2147483647), (0, 0), (1180591620717411303494, 1180591620717411303494), (0, 8)]), (some (.inl (3, 0)), [(1, (0, 14), .inr (.inl (some 4))), (4, (0, 1), .inl (5, 0))], [], [(0, 0), (1180591620717411303492, 1180591620717411303492), (0, 7), (1, 1), (1180591620717411303494, 1180591620717411303494), (1, 8)])], [])
set_option maxRecDepth 200000 in
set_option maxHeartbeats 4000000 in
def T_X12_isFault_1 : List (tb_S × tb_l) := []
set_option maxRecDepth 200000 in
set_option maxHeartbeats 4000000 in
theorem m_X12_isFault_1 {l : Launch} : tb_Met l vwCl sa_Ts tb_Z0 yX12_isFault cX12_isFault 2 (some .boolean) 3 142 K_X12_isFault_1 := tb_method (by decide) [13] (t_X12_isFault [] [K_X12_isIn_8]) T_X12_isFault_1 [] 6000 (List.forall_mem_cons.mpr ⟨dX12_isFault_13, fun _ h => absurd h List.not_mem_nil⟩) (h_X12_isFault [] 3 142 (by decide) (by decide) [K_X12_isIn_8] ⟨2, 120, List.forall_mem_cons.mpr ⟨m_X12_isIn_8, fun _ h => absurd h List.not_mem_nil⟩, by decide, by decide, by decide⟩) (by decide) (by decide +kernel)
set_option maxRecDepth 200000 in
set_option maxHeartbeats 4000000 in
def K_X12_isIn_9 : tb_K := ([.inl (1, 0), .inl (2, 0), .inl (3, 0)], [], [], [(0, 0), (-2147483648, 2147483647), (0, 0), (2, 2)], [(some (.inl (4, 0)), [], [], [(0, 0), (-2147483648, 2147483647), (0, 0), (2, 2), (0, 0)]), (some (.inl (4, 0)), [], [], [(0, 0), (0, 2), (0, 0), (2, 2), (1, 1)])], [])
set_option maxRecDepth 200000 in
set_option maxHeartbeats 4000000 in
def T_X12_isIn_9 : List (tb_S × tb_l) := []
set_option maxRecDepth 200000 in
set_option maxHeartbeats 4000000 in
theorem m_X12_isIn_9 {l : Launch} : tb_Met l vwCl sa_Ts tb_Z0 yX12_isIn cX12_isIn 3 (some .boolean) 2 120 K_X12_isIn_9 := tb_method (by decide) [15] (t_X12_isIn [] ) T_X12_isIn_9 [] 6000 (List.forall_mem_cons.mpr ⟨dX12_isIn_15, fun _ h => absurd h List.not_mem_nil⟩) (h_X12_isIn [] 2 120 (by decide) (by decide)  ) (by decide) (by decide +kernel)
def t_X12_working (mod : List (Nat × Nat × Nat)) (L16 : List tb_K) : List (Nat × tb_op) := [(0, to_int (0) 1), (1, to_istore 3 1 1), (2, to_int (0) 1), (3, to_istore 3 2 1), (4, to_iload 2 1), (5, to_aload 0 1), (6, to_get tb_Z0 [] 12 14), (9, to_int (0) 1), (10, to_ald tb_Z0 [] 0), (11, to_icmp (sr_flip tr_le) tr_lt 34), (14, to_aload 0 1), (15, to_iload 2 1), (16, to_cs tb_Z0 mod (tb_gV tb_Z0 12 2 0 0) L16), (19, to_if tr_eq tr_ne 28), (22, to_iload 1 1), (23, to_int (1) 1), (24, to_iload 2 1), (25, to_bin tf_shl), (26, to_bin tf_or), (27, to_istore 3 1 1), (28, to_inc 3 2 (1)), (31, to_goto 4), (34, to_iload 1 1)]
set_option maxRecDepth 200000 in
set_option maxHeartbeats 4000000 in
theorem h_X12_working {l : Launch} (mod : List (Nat × Nat × Nat)) (fr lc : Nat) (hfr : 1 + 1 ≤ fr) (hlc : 8 + (2 + 11) + 20 ≤ lc) (L16 : List tb_K) (h16 : tb_ML l yX12_works cX12_works 3 (some .boolean) fr lc 2 L16) : ∀ (p : Program) (e : Env) (s : State) (m : MethodId) (args : Array Value) (below : List Frame) (meth : Method) (c : Code) (Q : State → Prop) (D : va_G) (dA : Nat → ClassId) (A : Nat → Prop) (n0 : Nat) (V0 : sa_V) (E : tb_E), sa_C p s m args c D dA A 3 vwCl sa_Ts cX12_working yX12_working.cls → sa_U D vwCl dA s → tb_z E = tb_Z0 → tb_mod E = mod → ∀ q ∈ t_X12_working mod L16, tb_snd p l e { frames := fr, cells := 0, slots := 0, locals := lc } s m args below meth c Q D dA A 3 vwCl n0 V0 E q.1 q.2 := fun p e s m args below meth c Q D dA A n0 V0 E C0 hU hz hm => List.forall_mem_cons.mpr ⟨tn_iconst C0 dX12_working_0, List.forall_mem_cons.mpr ⟨tn_istore_n C0 dX12_working_1, List.forall_mem_cons.mpr ⟨tn_iconst C0 dX12_working_2, List.forall_mem_cons.mpr ⟨tn_istore_n C0 dX12_working_3, List.forall_mem_cons.mpr ⟨tn_iload_n C0 dX12_working_4, List.forall_mem_cons.mpr ⟨tn_aload_n C0 dX12_working_5, List.forall_mem_cons.mpr ⟨tn_get C0 hz hcv0 kcX12 dX12_working_6 (by decide) tv_1275, List.forall_mem_cons.mpr ⟨tn_iconst C0 dX12_working_9, List.forall_mem_cons.mpr ⟨tn_iald C0 hz hcv0 dX12_working_10, List.forall_mem_cons.mpr ⟨tx_icmp_ge C0 dX12_working_11 (by decide), List.forall_mem_cons.mpr ⟨tn_aload_n C0 dX12_working_14, List.forall_mem_cons.mpr ⟨tn_iload_n C0 dX12_working_15, List.forall_mem_cons.mpr ⟨tn_cV C0 hz hm hU h16 tv_1541 dX12_working_16 tv_1538 tv_1540 tq_X12_works tv_13 rfl yb_X12_works (Nat.le_refl _) (Nat.le_refl _), List.forall_mem_cons.mpr ⟨tx_if_eq C0 dX12_working_19 (by decide), List.forall_mem_cons.mpr ⟨tn_iload_n C0 dX12_working_22, List.forall_mem_cons.mpr ⟨tn_iconst C0 dX12_working_23, List.forall_mem_cons.mpr ⟨tn_iload_n C0 dX12_working_24, List.forall_mem_cons.mpr ⟨tn_ishl C0 tf_shl_ok dX12_working_25, List.forall_mem_cons.mpr ⟨tn_ior C0 tf_or_ok dX12_working_26, List.forall_mem_cons.mpr ⟨tn_istore_n C0 dX12_working_27, List.forall_mem_cons.mpr ⟨tn_inc C0 dX12_working_28, List.forall_mem_cons.mpr ⟨tn_goto C0 dX12_working_31 (by decide), List.forall_mem_cons.mpr ⟨tn_iload_n C0 dX12_working_34, fun _ h => absurd h List.not_mem_nil⟩⟩⟩⟩⟩⟩⟩⟩⟩⟩⟩⟩⟩⟩⟩⟩⟩⟩⟩⟩⟩⟩⟩
set_option maxRecDepth 200000 in
set_option maxHeartbeats 4000000 in
def K_X12_working_1 : tb_K := ([.inr (.inl (some 1))], [], [], [(0, 0), (1180591620717411303492, 1180591620717411303492)], [(some (.inl (2, 0)), [], [], [(0, 0), (1180591620717411303492, 1180591620717411303492), (0, 255)])], [])
set_option maxRecDepth 200000 in
set_option maxHeartbeats 4000000 in
def T_X12_working_1 : List (tb_S × tb_l) := [((4, [(0, .inr (.inl (some 1))), (1, .inl (2, 0)), (2, .inl (3, 0))], [], ([], [], []), [(0, 0), (1180591620717411303492, 1180591620717411303492), (0, 255), (0, 6)], 0, 0), ([(3, (-1))], 6))]
set_option maxRecDepth 200000 in
set_option maxHeartbeats 4000000 in
theorem m_X12_working_1 {l : Launch} : tb_Met l vwCl sa_Ts tb_Z0 yX12_working cX12_working 3 (some .int) 5 186 K_X12_working_1 := tb_method (by decide) [35] (t_X12_working [] [K_X12_works_1]) T_X12_working_1 [4] 6000 (List.forall_mem_cons.mpr ⟨dX12_working_35, fun _ h => absurd h List.not_mem_nil⟩) (h_X12_working [] 5 186 (by decide) (by decide) [K_X12_works_1] ⟨4, 164, List.forall_mem_cons.mpr ⟨m_X12_works_1, fun _ h => absurd h List.not_mem_nil⟩, by decide, by decide, by decide⟩) (by decide) (by decide +kernel)
set_option maxRecDepth 200000 in
set_option maxHeartbeats 4000000 in
def K_X12_isIn_10 : tb_K := ([.inl (1, 0), .inl (2, 0), .inl (3, 0)], [], [], [(0, 0), (-2147483648, 2147483647), (1, 1), (60, 60)], [(some (.inl (4, 0)), [], [], [(0, 0), (-2147483648, 2147483647), (1, 1), (60, 60), (0, 0)]), (some (.inl (4, 0)), [], [], [(0, 0), (1, 60), (1, 1), (60, 60), (1, 1)])], [])
set_option maxRecDepth 200000 in
set_option maxHeartbeats 4000000 in
def T_X12_isIn_10 : List (tb_S × tb_l) := []
set_option maxRecDepth 200000 in
set_option maxHeartbeats 4000000 in
theorem m_X12_isIn_10 {l : Launch} : tb_Met l vwCl sa_Ts tb_Z0 yX12_isIn cX12_isIn 3 (some .boolean) 2 120 K_X12_isIn_10 := tb_method (by decide) [15] (t_X12_isIn [] ) T_X12_isIn_10 [] 6000 (List.forall_mem_cons.mpr ⟨dX12_isIn_15, fun _ h => absurd h List.not_mem_nil⟩) (h_X12_isIn [] 2 120 (by decide) (by decide)  ) (by decide) (by decide +kernel)
def t_X12_least (mod : List (Nat × Nat × Nat))  : List (Nat × tb_op) := [(0, to_iload 0 1), (1, to_iload 1 1), (2, to_icmp (sr_flip tr_le) tr_lt 9), (5, to_iload 0 1), (6, to_goto 10), (9, to_iload 1 1)]
set_option maxRecDepth 200000 in
set_option maxHeartbeats 4000000 in
theorem h_X12_least {l : Launch} (mod : List (Nat × Nat × Nat)) (fr lc : Nat) (hfr : 1 + 1 ≤ fr) (hlc : 8 + (2 + 11) + 20 ≤ lc)   : ∀ (p : Program) (e : Env) (s : State) (m : MethodId) (args : Array Value) (below : List Frame) (meth : Method) (c : Code) (Q : State → Prop) (D : va_G) (dA : Nat → ClassId) (A : Nat → Prop) (n0 : Nat) (V0 : sa_V) (E : tb_E), sa_C p s m args c D dA A 2 vwCl sa_Ts cX12_least yX12_least.cls → sa_U D vwCl dA s → tb_z E = tb_Z0 → tb_mod E = mod → ∀ q ∈ t_X12_least mod , tb_snd p l e { frames := fr, cells := 0, slots := 0, locals := lc } s m args below meth c Q D dA A 2 vwCl n0 V0 E q.1 q.2 := fun p e s m args below meth c Q D dA A n0 V0 E C0 hU hz hm => List.forall_mem_cons.mpr ⟨tn_iload_n C0 dX12_least_0, List.forall_mem_cons.mpr ⟨tn_iload_n C0 dX12_least_1, List.forall_mem_cons.mpr ⟨tx_icmp_ge C0 dX12_least_2 (by decide), List.forall_mem_cons.mpr ⟨tn_iload_n C0 dX12_least_5, List.forall_mem_cons.mpr ⟨tn_goto C0 dX12_least_6 (by decide), List.forall_mem_cons.mpr ⟨tn_iload_n C0 dX12_least_9, fun _ h => absurd h List.not_mem_nil⟩⟩⟩⟩⟩⟩
set_option maxRecDepth 200000 in
set_option maxHeartbeats 4000000 in
def K_X12_least_1 : tb_K := ([.inl (1, 0), .inl (2, 0)], [], [], [(0, 0), (-2147483648, 2147483647), (-2147483648, 2147483647)], [(some (.inl (3, 0)), [], [], [(0, 0), (-2147483648, 2147483647), (-2147483648, 2147483647), (-2147483648, 2147483647)])], [])
set_option maxRecDepth 200000 in
set_option maxHeartbeats 4000000 in
def T_X12_least_1 : List (tb_S × tb_l) := []
set_option maxRecDepth 200000 in
set_option maxHeartbeats 4000000 in
theorem m_X12_least_1 {l : Launch} : tb_Met l vwCl sa_Ts tb_Z0 yX12_least cX12_least 2 (some .int) 2 120 K_X12_least_1 := tb_method (by decide) [10] (t_X12_least [] ) T_X12_least_1 [] 6000 (List.forall_mem_cons.mpr ⟨dX12_least_10, fun _ h => absurd h List.not_mem_nil⟩) (h_X12_least [] 2 120 (by decide) (by decide)  ) (by decide) (by decide +kernel)
set_option maxRecDepth 200000 in
set_option maxHeartbeats 4000000 in
def K_X12_isIn_11 : tb_K := ([.inl (1, 0), .inl (2, 0), .inl (3, 0)], [], [], [(0, 0), (-2147483648, 2147483647), (1, 1), (6, 6)], [(some (.inl (4, 0)), [], [], [(0, 0), (-2147483648, 2147483647), (1, 1), (6, 6), (0, 0)]), (some (.inl (4, 0)), [], [], [(0, 0), (1, 6), (1, 1), (6, 6), (1, 1)])], [])
set_option maxRecDepth 200000 in
set_option maxHeartbeats 4000000 in
def T_X12_isIn_11 : List (tb_S × tb_l) := []
set_option maxRecDepth 200000 in
set_option maxHeartbeats 4000000 in
theorem m_X12_isIn_11 {l : Launch} : tb_Met l vwCl sa_Ts tb_Z0 yX12_isIn cX12_isIn 3 (some .boolean) 2 120 K_X12_isIn_11 := tb_method (by decide) [15] (t_X12_isIn [] ) T_X12_isIn_11 [] 6000 (List.forall_mem_cons.mpr ⟨dX12_isIn_15, fun _ h => absurd h List.not_mem_nil⟩) (h_X12_isIn [] 2 120 (by decide) (by decide)  ) (by decide) (by decide +kernel)
set_option maxRecDepth 200000 in
set_option maxHeartbeats 4000000 in
def K_X12_isIn_12 : tb_K := ([.inl (1, 0), .inl (2, 0), .inl (3, 0)], [], [], [(0, 0), (-2147483648, 2147483647), (0, 0), (7, 7)], [(some (.inl (4, 0)), [], [], [(0, 0), (-2147483648, 2147483647), (0, 0), (7, 7), (0, 0)]), (some (.inl (4, 0)), [], [], [(0, 0), (0, 7), (0, 0), (7, 7), (1, 1)])], [])
set_option maxRecDepth 200000 in
set_option maxHeartbeats 4000000 in
def T_X12_isIn_12 : List (tb_S × tb_l) := []
set_option maxRecDepth 200000 in
set_option maxHeartbeats 4000000 in
theorem m_X12_isIn_12 {l : Launch} : tb_Met l vwCl sa_Ts tb_Z0 yX12_isIn cX12_isIn 3 (some .boolean) 2 120 K_X12_isIn_12 := tb_method (by decide) [15] (t_X12_isIn [] ) T_X12_isIn_12 [] 6000 (List.forall_mem_cons.mpr ⟨dX12_isIn_15, fun _ h => absurd h List.not_mem_nil⟩) (h_X12_isIn [] 2 120 (by decide) (by decide)  ) (by decide) (by decide +kernel)
set_option maxRecDepth 200000 in
set_option maxHeartbeats 4000000 in
def K_X12_isIn_13 : tb_K := ([.inl (1, 0), .inl (2, 0), .inl (3, 0)], [], [], [(0, 0), (-2147483648, 2147483647), (0, 0), (1, 1)], [(some (.inl (4, 0)), [], [], [(0, 0), (-2147483648, 2147483647), (0, 0), (1, 1), (0, 0)]), (some (.inl (4, 0)), [], [], [(0, 0), (0, 1), (0, 0), (1, 1), (1, 1)])], [])
set_option maxRecDepth 200000 in
set_option maxHeartbeats 4000000 in
def T_X12_isIn_13 : List (tb_S × tb_l) := []
set_option maxRecDepth 200000 in
set_option maxHeartbeats 4000000 in
theorem m_X12_isIn_13 {l : Launch} : tb_Met l vwCl sa_Ts tb_Z0 yX12_isIn cX12_isIn 3 (some .boolean) 2 120 K_X12_isIn_13 := tb_method (by decide) [15] (t_X12_isIn [] ) T_X12_isIn_13 [] 6000 (List.forall_mem_cons.mpr ⟨dX12_isIn_15, fun _ h => absurd h List.not_mem_nil⟩) (h_X12_isIn [] 2 120 (by decide) (by decide)  ) (by decide) (by decide +kernel)
def t_X12_common (mod : List (Nat × Nat × Nat))  : List (Nat × tb_op) := [(0, to_iload 0 1), (1, to_istore 5 2 1), (2, to_iload 1 1), (3, to_istore 5 3 1), (4, to_iload 3 1), (5, to_if tr_eq tr_ne 21), (8, to_iload 2 1), (9, to_iload 3 1), (10, to_rel tf_rem (-1) tf_okr), (11, to_istore 5 4 2), (13, to_iload 3 1), (14, to_istore 5 2 1), (15, to_iload 4 2), (17, to_istore 5 3 1), (18, to_goto 4), (21, to_iload 2 1)]
set_option maxRecDepth 200000 in
set_option maxHeartbeats 4000000 in
theorem h_X12_common {l : Launch} (mod : List (Nat × Nat × Nat)) (fr lc : Nat) (hfr : 1 + 1 ≤ fr) (hlc : 8 + (2 + 11) + 20 ≤ lc)   : ∀ (p : Program) (e : Env) (s : State) (m : MethodId) (args : Array Value) (below : List Frame) (meth : Method) (c : Code) (Q : State → Prop) (D : va_G) (dA : Nat → ClassId) (A : Nat → Prop) (n0 : Nat) (V0 : sa_V) (E : tb_E), sa_C p s m args c D dA A 5 vwCl sa_Ts cX12_common yX12_common.cls → sa_U D vwCl dA s → tb_z E = tb_Z0 → tb_mod E = mod → ∀ q ∈ t_X12_common mod , tb_snd p l e { frames := fr, cells := 0, slots := 0, locals := lc } s m args below meth c Q D dA A 5 vwCl n0 V0 E q.1 q.2 := fun p e s m args below meth c Q D dA A n0 V0 E C0 hU hz hm => List.forall_mem_cons.mpr ⟨tn_iload_n C0 dX12_common_0, List.forall_mem_cons.mpr ⟨tn_istore_n C0 dX12_common_1, List.forall_mem_cons.mpr ⟨tn_iload_n C0 dX12_common_2, List.forall_mem_cons.mpr ⟨tn_istore_n C0 dX12_common_3, List.forall_mem_cons.mpr ⟨tn_iload_n C0 dX12_common_4, List.forall_mem_cons.mpr ⟨tx_if_eq C0 dX12_common_5 (by decide), List.forall_mem_cons.mpr ⟨tn_iload_n C0 dX12_common_8, List.forall_mem_cons.mpr ⟨tn_iload_n C0 dX12_common_9, List.forall_mem_cons.mpr ⟨tn_remL C0 dX12_common_10, List.forall_mem_cons.mpr ⟨tn_istore C0 dX12_common_11, List.forall_mem_cons.mpr ⟨tn_iload_n C0 dX12_common_13, List.forall_mem_cons.mpr ⟨tn_istore_n C0 dX12_common_14, List.forall_mem_cons.mpr ⟨tn_iload C0 dX12_common_15, List.forall_mem_cons.mpr ⟨tn_istore_n C0 dX12_common_17, List.forall_mem_cons.mpr ⟨tn_goto C0 dX12_common_18 (by decide), List.forall_mem_cons.mpr ⟨tn_iload_n C0 dX12_common_21, fun _ h => absurd h List.not_mem_nil⟩⟩⟩⟩⟩⟩⟩⟩⟩⟩⟩⟩⟩⟩⟩⟩
set_option maxRecDepth 200000 in
set_option maxHeartbeats 4000000 in
def K_X12_common_1 : tb_K := ([.inl (1, 0), .inl (2, 0)], [], [], [(0, 0), (0, 792), (1, 99)], [(some (.inl (3, 0)), [], [], [(0, 0), (0, 792), (1, 99), (1, 99)])], [])
set_option maxRecDepth 200000 in
set_option maxHeartbeats 4000000 in
def T_X12_common_1 : List (tb_S × tb_l) := [((4, [(0, .inl (1, 0)), (1, .inl (2, 0)), (2, .inl (1, 0)), (3, .inl (2, 0))], [], ([], [], []), [(0, 0), (0, 792), (1, 99)], 0, 0), ([(1, 1)], 793)),
  ((4, [(0, .inl (1, 0)), (1, .inl (2, 0)), (2, .inl (3, 0)), (3, .inl (4, 0)), (4, .inl (4, 0))], [], ([], [], [([(2, (-1)), (4, 1)], (-1)), ([(3, (-1)), (4, 1)], (-1))]), [(0, 0), (0, 792), (1, 99), (1, 99), (0, 98)], 0, 0), ([(3, 1)], 0))]
set_option maxRecDepth 200000 in
set_option maxHeartbeats 4000000 in
theorem m_X12_common_1 {l : Launch} : tb_Met l vwCl sa_Ts tb_Z0 yX12_common cX12_common 5 (some .int) 2 120 K_X12_common_1 := tb_method (by decide) [22] (t_X12_common [] ) T_X12_common_1 [4] 6000 (List.forall_mem_cons.mpr ⟨dX12_common_22, fun _ h => absurd h List.not_mem_nil⟩) (h_X12_common [] 2 120 (by decide) (by decide)  ) (by decide) (by decide +kernel)
set_option maxRecDepth 200000 in
set_option maxHeartbeats 4000000 in
def K_X12_common_2 : tb_K := ([.inl (1, 0), .inl (2, 0)], [], [], [(0, 0), (1728, 1368576), (0, 2000000000)], [(some (.inl (3, 0)), [], [], [(0, 0), (1728, 1368576), (0, 2000000000), (1, 2000000000)])], [])
set_option maxRecDepth 200000 in
set_option maxHeartbeats 4000000 in
def T_X12_common_2 : List (tb_S × tb_l) := [((4, [(0, .inl (1, 0)), (1, .inl (2, 0)), (2, .inl (3, 0)), (3, .inl (4, 0))], [], ([], [], []), [(0, 0), (1728, 1368576), (0, 2000000000), (1, 2000000000), (0, 2000000000)], 0, 0), ([(4, 1)], 0))]
set_option maxRecDepth 200000 in
set_option maxHeartbeats 4000000 in
theorem m_X12_common_2 {l : Launch} : tb_Met l vwCl sa_Ts tb_Z0 yX12_common cX12_common 5 (some .int) 2 120 K_X12_common_2 := tb_method (by decide) [22] (t_X12_common [] ) T_X12_common_2 [4] 6000 (List.forall_mem_cons.mpr ⟨dX12_common_22, fun _ h => absurd h List.not_mem_nil⟩) (h_X12_common [] 2 120 (by decide) (by decide)  ) (by decide) (by decide +kernel)
set_option maxRecDepth 200000 in
set_option maxHeartbeats 4000000 in
def K_X12_isIn_14 : tb_K := ([.inl (1, 0), .inl (2, 0), .inl (3, 0)], [], [], [(0, 0), (-2147483648, 2147483647), (0, 0), (-1, 3)], [(some (.inl (4, 0)), [], [], [(0, 0), (-2147483648, 2147483647), (0, 0), (-1, 3), (0, 0)]), (some (.inl (4, 0)), [], [], [(0, 0), (0, 3), (0, 0), (0, 3), (1, 1)])], [])
set_option maxRecDepth 200000 in
set_option maxHeartbeats 4000000 in
def T_X12_isIn_14 : List (tb_S × tb_l) := []
set_option maxRecDepth 200000 in
set_option maxHeartbeats 4000000 in
theorem m_X12_isIn_14 {l : Launch} : tb_Met l vwCl sa_Ts tb_Z0 yX12_isIn cX12_isIn 3 (some .boolean) 2 120 K_X12_isIn_14 := tb_method (by decide) [15] (t_X12_isIn [] ) T_X12_isIn_14 [] 6000 (List.forall_mem_cons.mpr ⟨dX12_isIn_15, fun _ h => absurd h List.not_mem_nil⟩) (h_X12_isIn [] 2 120 (by decide) (by decide)  ) (by decide) (by decide +kernel)
def t_J_max (mod : List (Nat × Nat × Nat))  : List (Nat × tb_op) := [(0, to_iload 0 1), (1, to_iload 1 1), (2, to_icmp tr_lt (sr_flip tr_le) 9), (5, to_iload 0 1), (6, to_goto 10), (9, to_iload 1 1)]
set_option maxRecDepth 200000 in
set_option maxHeartbeats 4000000 in
theorem h_J_max {l : Launch} (mod : List (Nat × Nat × Nat)) (fr lc : Nat) (hfr : 1 + 1 ≤ fr) (hlc : 8 + (2 + 11) + 20 ≤ lc)   : ∀ (p : Program) (e : Env) (s : State) (m : MethodId) (args : Array Value) (below : List Frame) (meth : Method) (c : Code) (Q : State → Prop) (D : va_G) (dA : Nat → ClassId) (A : Nat → Prop) (n0 : Nat) (V0 : sa_V) (E : tb_E), sa_C p s m args c D dA A 2 vwCl sa_Ts cJ_max yJ_max.cls → sa_U D vwCl dA s → tb_z E = tb_Z0 → tb_mod E = mod → ∀ q ∈ t_J_max mod , tb_snd p l e { frames := fr, cells := 0, slots := 0, locals := lc } s m args below meth c Q D dA A 2 vwCl n0 V0 E q.1 q.2 := fun p e s m args below meth c Q D dA A n0 V0 E C0 hU hz hm => List.forall_mem_cons.mpr ⟨tn_iload_n C0 dJ_max_0, List.forall_mem_cons.mpr ⟨tn_iload_n C0 dJ_max_1, List.forall_mem_cons.mpr ⟨tx_icmp_lt C0 dJ_max_2 (by decide), List.forall_mem_cons.mpr ⟨tn_iload_n C0 dJ_max_5, List.forall_mem_cons.mpr ⟨tn_goto C0 dJ_max_6 (by decide), List.forall_mem_cons.mpr ⟨tn_iload_n C0 dJ_max_9, fun _ h => absurd h List.not_mem_nil⟩⟩⟩⟩⟩⟩
set_option maxRecDepth 200000 in
set_option maxHeartbeats 4000000 in
def K_J_max_1 : tb_K := ([.inl (1, 0), .inl (2, 0)], [], [], [(0, 0), (-2147483648, 2147483647), (-2147483648, 2147483647)], [(some (.inl (3, 0)), [], [], [(0, 0), (-2147483648, 2147483647), (-2147483648, 2147483647), (-2147483648, 2147483647)])], [])
set_option maxRecDepth 200000 in
set_option maxHeartbeats 4000000 in
def T_J_max_1 : List (tb_S × tb_l) := []
set_option maxRecDepth 200000 in
set_option maxHeartbeats 4000000 in
theorem m_J_max_1 {l : Launch} : tb_Met l vwCl sa_Ts tb_Z0 yJ_max cJ_max 2 (some .int) 2 120 K_J_max_1 := tb_method (by decide) [10] (t_J_max [] ) T_J_max_1 [] 6000 (List.forall_mem_cons.mpr ⟨dJ_max_10, fun _ h => absurd h List.not_mem_nil⟩) (h_J_max [] 2 120 (by decide) (by decide)  ) (by decide) (by decide +kernel)
set_option maxRecDepth 200000 in
set_option maxHeartbeats 4000000 in
def K_X12_isIn_15 : tb_K := ([.inl (1, 0), .inl (2, 0), .inl (3, 0)], [], [], [(0, 0), (-2147483648, 2147483647), (2, 2), (10, 10)], [(some (.inl (4, 0)), [], [], [(0, 0), (-2147483648, 2147483647), (2, 2), (10, 10), (0, 0)]), (some (.inl (4, 0)), [], [], [(0, 0), (2, 10), (2, 2), (10, 10), (1, 1)])], [])
set_option maxRecDepth 200000 in
set_option maxHeartbeats 4000000 in
def T_X12_isIn_15 : List (tb_S × tb_l) := []
set_option maxRecDepth 200000 in
set_option maxHeartbeats 4000000 in
theorem m_X12_isIn_15 {l : Launch} : tb_Met l vwCl sa_Ts tb_Z0 yX12_isIn cX12_isIn 3 (some .boolean) 2 120 K_X12_isIn_15 := tb_method (by decide) [15] (t_X12_isIn [] ) T_X12_isIn_15 [] 6000 (List.forall_mem_cons.mpr ⟨dX12_isIn_15, fun _ h => absurd h List.not_mem_nil⟩) (h_X12_isIn [] 2 120 (by decide) (by decide)  ) (by decide) (by decide +kernel)
def t_X12_bits (mod : List (Nat × Nat × Nat))  : List (Nat × tb_op) := [(0, to_int (0) 1), (1, to_istore 3 1 1), (2, to_iload 0 1), (3, to_istore 3 2 1), (4, to_iload 2 1), (5, to_if tr_eq tr_ne 20), (8, to_inc 3 1 (1)), (11, to_iload 2 1), (12, to_iload 2 1), (13, to_int (1) 1), (14, to_sub), (15, to_rel tf_and 0 tf_oka), (16, to_istore 3 2 1), (17, to_goto 4), (20, to_iload 1 1)]
set_option maxRecDepth 200000 in
set_option maxHeartbeats 4000000 in
theorem h_X12_bits {l : Launch} (mod : List (Nat × Nat × Nat)) (fr lc : Nat) (hfr : 1 + 1 ≤ fr) (hlc : 8 + (2 + 11) + 20 ≤ lc)   : ∀ (p : Program) (e : Env) (s : State) (m : MethodId) (args : Array Value) (below : List Frame) (meth : Method) (c : Code) (Q : State → Prop) (D : va_G) (dA : Nat → ClassId) (A : Nat → Prop) (n0 : Nat) (V0 : sa_V) (E : tb_E), sa_C p s m args c D dA A 3 vwCl sa_Ts cX12_bits yX12_bits.cls → sa_U D vwCl dA s → tb_z E = tb_Z0 → tb_mod E = mod → ∀ q ∈ t_X12_bits mod , tb_snd p l e { frames := fr, cells := 0, slots := 0, locals := lc } s m args below meth c Q D dA A 3 vwCl n0 V0 E q.1 q.2 := fun p e s m args below meth c Q D dA A n0 V0 E C0 hU hz hm => List.forall_mem_cons.mpr ⟨tn_iconst C0 dX12_bits_0, List.forall_mem_cons.mpr ⟨tn_istore_n C0 dX12_bits_1, List.forall_mem_cons.mpr ⟨tn_iload_n C0 dX12_bits_2, List.forall_mem_cons.mpr ⟨tn_istore_n C0 dX12_bits_3, List.forall_mem_cons.mpr ⟨tn_iload_n C0 dX12_bits_4, List.forall_mem_cons.mpr ⟨tx_if_eq C0 dX12_bits_5 (by decide), List.forall_mem_cons.mpr ⟨tn_inc C0 dX12_bits_8, List.forall_mem_cons.mpr ⟨tn_iload_n C0 dX12_bits_11, List.forall_mem_cons.mpr ⟨tn_iload_n C0 dX12_bits_12, List.forall_mem_cons.mpr ⟨tn_iconst C0 dX12_bits_13, List.forall_mem_cons.mpr ⟨tn_sub C0 dX12_bits_14, List.forall_mem_cons.mpr ⟨tn_andL C0 dX12_bits_15, List.forall_mem_cons.mpr ⟨tn_istore_n C0 dX12_bits_16, List.forall_mem_cons.mpr ⟨tn_goto C0 dX12_bits_17 (by decide), List.forall_mem_cons.mpr ⟨tn_iload_n C0 dX12_bits_20, fun _ h => absurd h List.not_mem_nil⟩⟩⟩⟩⟩⟩⟩⟩⟩⟩⟩⟩⟩⟩⟩
set_option maxRecDepth 200000 in
set_option maxHeartbeats 4000000 in
def K_X12_bits_1 : tb_K := ([.inl (1, 0)], [], [], [(0, 0), (0, 1023)], [(some (.inl (2, 0)), [], [], [(0, 0), (0, 1023), (-2147483648, 2147483647)])], [])
set_option maxRecDepth 200000 in
set_option maxHeartbeats 4000000 in
def T_X12_bits_1 : List (tb_S × tb_l) := [((4, [(0, .inl (1, 0)), (1, .inl (2, 0)), (2, .inl (3, 0))], [], ([], [], []), [(0, 0), (0, 1023), (-2147483648, 2147483647), (0, 1023)], 0, 0), ([(3, 1)], 0))]
set_option maxRecDepth 200000 in
set_option maxHeartbeats 4000000 in
theorem m_X12_bits_1 {l : Launch} : tb_Met l vwCl sa_Ts tb_Z0 yX12_bits cX12_bits 3 (some .int) 2 120 K_X12_bits_1 := tb_method (by decide) [21] (t_X12_bits [] ) T_X12_bits_1 [4] 6000 (List.forall_mem_cons.mpr ⟨dX12_bits_21, fun _ h => absurd h List.not_mem_nil⟩) (h_X12_bits [] 2 120 (by decide) (by decide)  ) (by decide) (by decide +kernel)
def t_J_bitCount (mod : List (Nat × Nat × Nat))  : List (Nat × tb_op) := [(0, to_iload 0 1), (1, to_iload 0 1), (2, to_int (1) 1), (3, to_bin tf_ushr), (4, to_int (1431655765) 3), (7, to_bin tf_and), (8, to_sub), (9, to_istore 1 0 1), (10, to_iload 0 1), (11, to_int (858993459) 3), (14, to_bin tf_and), (15, to_iload 0 1), (16, to_int (2) 1), (17, to_bin tf_ushr), (18, to_int (858993459) 3), (21, to_bin tf_and), (22, to_bin tf_add), (23, to_istore 1 0 1), (24, to_iload 0 1), (25, to_iload 0 1), (26, to_int (4) 1), (27, to_bin tf_ushr), (28, to_bin tf_add), (29, to_int (252645135) 3), (32, to_bin tf_and), (33, to_istore 1 0 1), (34, to_iload 0 1), (35, to_iload 0 1), (36, to_int (8) 2), (38, to_bin tf_ushr), (39, to_bin tf_add), (40, to_istore 1 0 1), (41, to_iload 0 1), (42, to_iload 0 1), (43, to_int (16) 2), (45, to_bin tf_ushr), (46, to_bin tf_add), (47, to_istore 1 0 1), (48, to_iload 0 1), (49, to_int (63) 2), (51, to_bin tf_and)]
set_option maxRecDepth 200000 in
set_option maxHeartbeats 4000000 in
theorem h_J_bitCount {l : Launch} (mod : List (Nat × Nat × Nat)) (fr lc : Nat) (hfr : 1 + 1 ≤ fr) (hlc : 8 + (2 + 11) + 20 ≤ lc)   : ∀ (p : Program) (e : Env) (s : State) (m : MethodId) (args : Array Value) (below : List Frame) (meth : Method) (c : Code) (Q : State → Prop) (D : va_G) (dA : Nat → ClassId) (A : Nat → Prop) (n0 : Nat) (V0 : sa_V) (E : tb_E), sa_C p s m args c D dA A 1 vwCl sa_Ts cJ_bitCount yJ_bitCount.cls → sa_U D vwCl dA s → tb_z E = tb_Z0 → tb_mod E = mod → ∀ q ∈ t_J_bitCount mod , tb_snd p l e { frames := fr, cells := 0, slots := 0, locals := lc } s m args below meth c Q D dA A 1 vwCl n0 V0 E q.1 q.2 := fun p e s m args below meth c Q D dA A n0 V0 E C0 hU hz hm => List.forall_mem_cons.mpr ⟨tn_iload_n C0 dJ_bitCount_0, List.forall_mem_cons.mpr ⟨tn_iload_n C0 dJ_bitCount_1, List.forall_mem_cons.mpr ⟨tn_iconst C0 dJ_bitCount_2, List.forall_mem_cons.mpr ⟨tn_iushr C0 tf_ushr_ok dJ_bitCount_3, List.forall_mem_cons.mpr ⟨tn_ldcw C0 dJ_bitCount_4 tv_836, List.forall_mem_cons.mpr ⟨tn_iand C0 tf_and_ok dJ_bitCount_7, List.forall_mem_cons.mpr ⟨tn_sub C0 dJ_bitCount_8, List.forall_mem_cons.mpr ⟨tn_istore_n C0 dJ_bitCount_9, List.forall_mem_cons.mpr ⟨tn_iload_n C0 dJ_bitCount_10, List.forall_mem_cons.mpr ⟨tn_ldcw C0 dJ_bitCount_11 tv_837, List.forall_mem_cons.mpr ⟨tn_iand C0 tf_and_ok dJ_bitCount_14, List.forall_mem_cons.mpr ⟨tn_iload_n C0 dJ_bitCount_15, List.forall_mem_cons.mpr ⟨tn_iconst C0 dJ_bitCount_16, List.forall_mem_cons.mpr ⟨tn_iushr C0 tf_ushr_ok dJ_bitCount_17, List.forall_mem_cons.mpr ⟨tn_ldcw C0 dJ_bitCount_18 tv_837, List.forall_mem_cons.mpr ⟨tn_iand C0 tf_and_ok dJ_bitCount_21, List.forall_mem_cons.mpr ⟨tn_iadd C0 tf_add_ok dJ_bitCount_22, List.forall_mem_cons.mpr ⟨tn_istore_n C0 dJ_bitCount_23, List.forall_mem_cons.mpr ⟨tn_iload_n C0 dJ_bitCount_24, List.forall_mem_cons.mpr ⟨tn_iload_n C0 dJ_bitCount_25, List.forall_mem_cons.mpr ⟨tn_iconst C0 dJ_bitCount_26, List.forall_mem_cons.mpr ⟨tn_iushr C0 tf_ushr_ok dJ_bitCount_27, List.forall_mem_cons.mpr ⟨tn_iadd C0 tf_add_ok dJ_bitCount_28, List.forall_mem_cons.mpr ⟨tn_ldcw C0 dJ_bitCount_29 tv_838, List.forall_mem_cons.mpr ⟨tn_iand C0 tf_and_ok dJ_bitCount_32, List.forall_mem_cons.mpr ⟨tn_istore_n C0 dJ_bitCount_33, List.forall_mem_cons.mpr ⟨tn_iload_n C0 dJ_bitCount_34, List.forall_mem_cons.mpr ⟨tn_iload_n C0 dJ_bitCount_35, List.forall_mem_cons.mpr ⟨tn_bipush C0 dJ_bitCount_36 (by decide), List.forall_mem_cons.mpr ⟨tn_iushr C0 tf_ushr_ok dJ_bitCount_38, List.forall_mem_cons.mpr ⟨tn_iadd C0 tf_add_ok dJ_bitCount_39, List.forall_mem_cons.mpr ⟨tn_istore_n C0 dJ_bitCount_40, List.forall_mem_cons.mpr ⟨tn_iload_n C0 dJ_bitCount_41, List.forall_mem_cons.mpr ⟨tn_iload_n C0 dJ_bitCount_42, List.forall_mem_cons.mpr ⟨tn_bipush C0 dJ_bitCount_43 (by decide), List.forall_mem_cons.mpr ⟨tn_iushr C0 tf_ushr_ok dJ_bitCount_45, List.forall_mem_cons.mpr ⟨tn_iadd C0 tf_add_ok dJ_bitCount_46, List.forall_mem_cons.mpr ⟨tn_istore_n C0 dJ_bitCount_47, List.forall_mem_cons.mpr ⟨tn_iload_n C0 dJ_bitCount_48, List.forall_mem_cons.mpr ⟨tn_bipush C0 dJ_bitCount_49 (by decide), List.forall_mem_cons.mpr ⟨tn_iand C0 tf_and_ok dJ_bitCount_51, fun _ h => absurd h List.not_mem_nil⟩⟩⟩⟩⟩⟩⟩⟩⟩⟩⟩⟩⟩⟩⟩⟩⟩⟩⟩⟩⟩⟩⟩⟩⟩⟩⟩⟩⟩⟩⟩⟩⟩⟩⟩⟩⟩⟩⟩⟩⟩
set_option maxRecDepth 200000 in
set_option maxHeartbeats 4000000 in
def K_J_bitCount_1 : tb_K := ([.inl (1, 0)], [], [], [(0, 0), (-2147483648, 2147483647)], [(some (.inl (2, 0)), [], [], [(0, 0), (-2147483648, 2147483647), (0, 63)])], [])
set_option maxRecDepth 200000 in
set_option maxHeartbeats 4000000 in
def T_J_bitCount_1 : List (tb_S × tb_l) := []
set_option maxRecDepth 200000 in
set_option maxHeartbeats 4000000 in
theorem m_J_bitCount_1 {l : Launch} : tb_Met l vwCl sa_Ts tb_Z0 yJ_bitCount cJ_bitCount 1 (some .int) 2 120 K_J_bitCount_1 := tb_method (by decide) [52] (t_J_bitCount [] ) T_J_bitCount_1 [] 6000 (List.forall_mem_cons.mpr ⟨dJ_bitCount_52, fun _ h => absurd h List.not_mem_nil⟩) (h_J_bitCount [] 2 120 (by decide) (by decide)  ) (by decide) (by decide +kernel)
def t_X12_takeBack (mod : List (Nat × Nat × Nat))  : List (Nat × tb_op) := [(0, to_int (0) 1), (1, to_istore 2 1 1), (2, to_iload 1 1), (3, to_int (60) 2), (5, to_icmp (sr_flip tr_le) tr_lt 29), (8, to_aload 0 1), (9, to_get tb_Z0 [] 12 14), (12, to_int (77) 2), (14, to_iload 1 1), (15, to_bin tf_add), (16, to_aload 0 1), (17, to_get tb_Z0 [] 12 18), (20, to_iload 1 1), (21, to_ald tb_Z0 [] 0), (22, to_iast tb_Z0 tb_RT0 mod []), (23, to_inc 2 1 (1)), (26, to_goto 2)]
set_option maxRecDepth 200000 in
set_option maxHeartbeats 4000000 in
theorem h_X12_takeBack {l : Launch} (mod : List (Nat × Nat × Nat)) (fr lc : Nat) (hfr : 1 + 1 ≤ fr) (hlc : 8 + (2 + 11) + 20 ≤ lc)   : ∀ (p : Program) (e : Env) (s : State) (m : MethodId) (args : Array Value) (below : List Frame) (meth : Method) (c : Code) (Q : State → Prop) (D : va_G) (dA : Nat → ClassId) (A : Nat → Prop) (n0 : Nat) (V0 : sa_V) (E : tb_E), sa_C p s m args c D dA A 2 vwCl sa_Ts cX12_takeBack yX12_takeBack.cls → sa_U D vwCl dA s → tb_z E = tb_Z0 → tb_mod E = mod → ∀ q ∈ t_X12_takeBack mod , tb_snd p l e { frames := fr, cells := 0, slots := 0, locals := lc } s m args below meth c Q D dA A 2 vwCl n0 V0 E q.1 q.2 := fun p e s m args below meth c Q D dA A n0 V0 E C0 hU hz hm => List.forall_mem_cons.mpr ⟨tn_iconst C0 dX12_takeBack_0, List.forall_mem_cons.mpr ⟨tn_istore_n C0 dX12_takeBack_1, List.forall_mem_cons.mpr ⟨tn_iload_n C0 dX12_takeBack_2, List.forall_mem_cons.mpr ⟨tn_bipush C0 dX12_takeBack_3 (by decide), List.forall_mem_cons.mpr ⟨tx_icmp_ge C0 dX12_takeBack_5 (by decide), List.forall_mem_cons.mpr ⟨tn_aload_n C0 dX12_takeBack_8, List.forall_mem_cons.mpr ⟨tn_get C0 hz hcv0 kcX12 dX12_takeBack_9 (by decide) tv_1275, List.forall_mem_cons.mpr ⟨tn_bipush C0 dX12_takeBack_12 (by decide), List.forall_mem_cons.mpr ⟨tn_iload_n C0 dX12_takeBack_14, List.forall_mem_cons.mpr ⟨tn_iadd C0 tf_add_ok dX12_takeBack_15, List.forall_mem_cons.mpr ⟨tn_aload_n C0 dX12_takeBack_16, List.forall_mem_cons.mpr ⟨tn_get C0 hz hcv0 kcX12 dX12_takeBack_17 (by decide) tv_1279, List.forall_mem_cons.mpr ⟨tn_iload_n C0 dX12_takeBack_20, List.forall_mem_cons.mpr ⟨tn_iald C0 hz hcv0 dX12_takeBack_21, List.forall_mem_cons.mpr ⟨tn_iast C0 hz hcv0 hrt0 hm dX12_takeBack_22, List.forall_mem_cons.mpr ⟨tn_inc C0 dX12_takeBack_23, List.forall_mem_cons.mpr ⟨tn_goto C0 dX12_takeBack_26 (by decide), fun _ h => absurd h List.not_mem_nil⟩⟩⟩⟩⟩⟩⟩⟩⟩⟩⟩⟩⟩⟩⟩⟩⟩
set_option maxRecDepth 200000 in
set_option maxHeartbeats 4000000 in
def K_X12_takeBack_1 : tb_K := ([.inr (.inl (some 1))], [], [], [(0, 0), (1180591620717411303492, 1180591620717411303492)], [(none, [], [], [(0, 0), (1180591620717411303492, 1180591620717411303492)])], [(70, 77, 136)])
set_option maxRecDepth 200000 in
set_option maxHeartbeats 4000000 in
def T_X12_takeBack_1 : List (tb_S × tb_l) := [((2, [(0, .inr (.inl (some 1))), (1, .inl (2, 0))], [], ([], [], []), [(0, 0), (1180591620717411303492, 1180591620717411303492), (0, 60)], 0, 0), ([(2, (-1))], 60))]
set_option maxRecDepth 200000 in
set_option maxHeartbeats 4000000 in
theorem m_X12_takeBack_1 {l : Launch} : tb_Met l vwCl sa_Ts tb_Z0 yX12_takeBack cX12_takeBack 2 none 2 120 K_X12_takeBack_1 := tb_method (by decide) [29] (t_X12_takeBack [(70, 77, 136)] ) T_X12_takeBack_1 [2] 6000 (List.forall_mem_cons.mpr ⟨dX12_takeBack_29, fun _ h => absurd h List.not_mem_nil⟩) (h_X12_takeBack [(70, 77, 136)] 2 120 (by decide) (by decide)  ) (by decide) (by decide +kernel)
set_option maxRecDepth 200000 in
set_option maxHeartbeats 4000000 in
def K_X12_least_2 : tb_K := ([.inl (1, 0), .inl (2, 0)], [], [], [(0, 0), (240, 240), (-2147483648, 2147483647)], [(some (.inl (3, 0)), [], [], [(0, 0), (240, 240), (-2147483648, 2147483647), (-2147483648, 240)])], [])
set_option maxRecDepth 200000 in
set_option maxHeartbeats 4000000 in
def T_X12_least_2 : List (tb_S × tb_l) := []
set_option maxRecDepth 200000 in
set_option maxHeartbeats 4000000 in
theorem m_X12_least_2 {l : Launch} : tb_Met l vwCl sa_Ts tb_Z0 yX12_least cX12_least 2 (some .int) 2 120 K_X12_least_2 := tb_method (by decide) [10] (t_X12_least [] ) T_X12_least_2 [] 6000 (List.forall_mem_cons.mpr ⟨dX12_least_10, fun _ h => absurd h List.not_mem_nil⟩) (h_X12_least [] 2 120 (by decide) (by decide)  ) (by decide) (by decide +kernel)
set_option maxRecDepth 200000 in
set_option maxHeartbeats 4000000 in
def K_X12_isIn_16 : tb_K := ([.inl (1, 0), .inl (2, 0), .inl (3, 0)], [], [], [(0, 0), (-2147483648, 2147483647), (0, 0), (-1, 63)], [(some (.inl (4, 0)), [], [], [(0, 0), (-2147483648, 2147483647), (0, 0), (-1, 63), (0, 0)]), (some (.inl (4, 0)), [], [], [(0, 0), (0, 63), (0, 0), (0, 63), (1, 1)])], [])
set_option maxRecDepth 200000 in
set_option maxHeartbeats 4000000 in
def T_X12_isIn_16 : List (tb_S × tb_l) := []
set_option maxRecDepth 200000 in
set_option maxHeartbeats 4000000 in
theorem m_X12_isIn_16 {l : Launch} : tb_Met l vwCl sa_Ts tb_Z0 yX12_isIn cX12_isIn 3 (some .boolean) 2 120 K_X12_isIn_16 := tb_method (by decide) [15] (t_X12_isIn [] ) T_X12_isIn_16 [] 6000 (List.forall_mem_cons.mpr ⟨dX12_isIn_15, fun _ h => absurd h List.not_mem_nil⟩) (h_X12_isIn [] 2 120 (by decide) (by decide)  ) (by decide) (by decide +kernel)
set_option maxRecDepth 200000 in
set_option maxHeartbeats 4000000 in
def K_X12_least_3 : tb_K := ([.inl (1, 0), .inl (2, 0)], [], [], [(0, 0), (1, 60), (-2147483648, 2147483647)], [(some (.inl (3, 0)), [], [], [(0, 0), (1, 60), (-2147483648, 2147483647), (-2147483648, 60)])], [])
set_option maxRecDepth 200000 in
set_option maxHeartbeats 4000000 in
def T_X12_least_3 : List (tb_S × tb_l) := []
set_option maxRecDepth 200000 in
set_option maxHeartbeats 4000000 in
theorem m_X12_least_3 {l : Launch} : tb_Met l vwCl sa_Ts tb_Z0 yX12_least cX12_least 2 (some .int) 2 120 K_X12_least_3 := tb_method (by decide) [10] (t_X12_least [] ) T_X12_least_3 [] 6000 (List.forall_mem_cons.mpr ⟨dX12_least_10, fun _ h => absurd h List.not_mem_nil⟩) (h_X12_least [] 2 120 (by decide) (by decide)  ) (by decide) (by decide +kernel)
set_option maxRecDepth 200000 in
set_option maxHeartbeats 4000000 in
def K_X12_isIn_17 : tb_K := ([.inl (1, 0), .inl (2, 0), .inl (3, 0)], [], [], [(0, 0), (-2147483648, 2147483647), (0, 0), (999, 999)], [(some (.inl (4, 0)), [], [], [(0, 0), (-2147483648, 2147483647), (0, 0), (999, 999), (0, 0)]), (some (.inl (4, 0)), [], [], [(0, 0), (0, 999), (0, 0), (999, 999), (1, 1)])], [])
set_option maxRecDepth 200000 in
set_option maxHeartbeats 4000000 in
def T_X12_isIn_17 : List (tb_S × tb_l) := []
set_option maxRecDepth 200000 in
set_option maxHeartbeats 4000000 in
theorem m_X12_isIn_17 {l : Launch} : tb_Met l vwCl sa_Ts tb_Z0 yX12_isIn cX12_isIn 3 (some .boolean) 2 120 K_X12_isIn_17 := tb_method (by decide) [15] (t_X12_isIn [] ) T_X12_isIn_17 [] 6000 (List.forall_mem_cons.mpr ⟨dX12_isIn_15, fun _ h => absurd h List.not_mem_nil⟩) (h_X12_isIn [] 2 120 (by decide) (by decide)  ) (by decide) (by decide +kernel)
set_option maxRecDepth 200000 in
set_option maxHeartbeats 4000000 in
def K_X12_isThere_2 : tb_K := ([.inr (.inl (some 1)), .inl (2, 0)], [], [], [(0, 0), (1180591620717411303492, 1180591620717411303492), (-1, 7)], [(some (.inl (3, 0)), [], [], [(0, 0), (1180591620717411303492, 1180591620717411303492), (-1, 7), (0, 0)]), (some (.inl (3, 0)), [], [], [(0, 0), (1180591620717411303492, 1180591620717411303492), (-1, 7), (1, 1)])], [])
set_option maxRecDepth 200000 in
set_option maxHeartbeats 4000000 in
def T_X12_isThere_2 : List (tb_S × tb_l) := []
set_option maxRecDepth 200000 in
set_option maxHeartbeats 4000000 in
theorem m_X12_isThere_2 {l : Launch} : tb_Met l vwCl sa_Ts tb_Z0 yX12_isThere cX12_isThere 2 (some .boolean) 2 120 K_X12_isThere_2 := tb_method (by decide) [18] (t_X12_isThere [] ) T_X12_isThere_2 [] 6000 (List.forall_mem_cons.mpr ⟨dX12_isThere_18, fun _ h => absurd h List.not_mem_nil⟩) (h_X12_isThere [] 2 120 (by decide) (by decide)  ) (by decide) (by decide +kernel)
set_option maxRecDepth 200000 in
set_option maxHeartbeats 4000000 in
def K_X12_isIn_18 : tb_K := ([.inl (1, 0), .inl (2, 0), .inl (3, 0)], [], [], [(0, 0), (-2147483648, 2147483647), (0, 0), (3, 3)], [(some (.inl (4, 0)), [], [], [(0, 0), (-2147483648, 2147483647), (0, 0), (3, 3), (0, 0)]), (some (.inl (4, 0)), [], [], [(0, 0), (0, 3), (0, 0), (3, 3), (1, 1)])], [])
set_option maxRecDepth 200000 in
set_option maxHeartbeats 4000000 in
def T_X12_isIn_18 : List (tb_S × tb_l) := []
set_option maxRecDepth 200000 in
set_option maxHeartbeats 4000000 in
theorem m_X12_isIn_18 {l : Launch} : tb_Met l vwCl sa_Ts tb_Z0 yX12_isIn cX12_isIn 3 (some .boolean) 2 120 K_X12_isIn_18 := tb_method (by decide) [15] (t_X12_isIn [] ) T_X12_isIn_18 [] 6000 (List.forall_mem_cons.mpr ⟨dX12_isIn_15, fun _ h => absurd h List.not_mem_nil⟩) (h_X12_isIn [] 2 120 (by decide) (by decide)  ) (by decide) (by decide +kernel)
set_option maxRecDepth 200000 in
set_option maxHeartbeats 4000000 in
def K_X12_isThere_3 : tb_K := ([.inr (.inl (some 1)), .inl (2, 0)], [], [], [(0, 0), (1180591620717411303492, 1180591620717411303492), (0, 59)], [(some (.inl (3, 0)), [], [], [(0, 0), (1180591620717411303492, 1180591620717411303492), (0, 59), (0, 0)]), (some (.inl (3, 0)), [], [], [(0, 0), (1180591620717411303492, 1180591620717411303492), (0, 59), (1, 1)])], [])
set_option maxRecDepth 200000 in
set_option maxHeartbeats 4000000 in
def T_X12_isThere_3 : List (tb_S × tb_l) := []
set_option maxRecDepth 200000 in
set_option maxHeartbeats 4000000 in
theorem m_X12_isThere_3 {l : Launch} : tb_Met l vwCl sa_Ts tb_Z0 yX12_isThere cX12_isThere 2 (some .boolean) 2 120 K_X12_isThere_3 := tb_method (by decide) [18] (t_X12_isThere [] ) T_X12_isThere_3 [] 6000 (List.forall_mem_cons.mpr ⟨dX12_isThere_18, fun _ h => absurd h List.not_mem_nil⟩) (h_X12_isThere [] 2 120 (by decide) (by decide)  ) (by decide) (by decide +kernel)
