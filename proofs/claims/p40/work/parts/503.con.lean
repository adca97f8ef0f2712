set_option maxRecDepth 200000 in
set_option maxHeartbeats 4000000 in
def K_X12_readCures_1 : tb_K := ([.inr (.inl (some 1))], [(1, (0, 15), .inr (.inl (some 2))), (2, (0, 0), .inl (3, 0)), (2, (0, 1), .inl (4, 0)), (2, (0, 2), .inl (5, 0))], [], [(0, 0), (1180591620717411303492, 1180591620717411303492), (1180591620717411303495, 1180591620717411303495), (0, 6), (0, 8), (0, 16)], [(some (.inl (6, 0)), [(1, (0, 15), .inr (.inl (some 2))), (2, (0, 0), .inl (3, 0)), (2, (0, 1), .inl (4, 0)), (2, (0, 2), .inl (5, 0))], [], [(0, 0), (1180591620717411303492, 1180591620717411303492), (1180591620717411303495, 1180591620717411303495), (0, 6), (0, 8), (0, 16), (0, 0)]), (some (.inl (6, 0)), [(1, (0, 15), .inr (.inl (some 2))), (2, (0, 0), .inl (3, 0)), (2, (0, 1), .inl (4, 0)), (2, (0, 2), .inl (5, 1))], [], [(0, 0), (1180591620717411303492, 1180591620717411303492), (1180591620717411303495, 1180591620717411303495), (0, 6), (0, 8), (0, 15), (1, 1)])], [(68, 5, 13), (71, 2, 2), (71, 53, 76)])
set_option maxRecDepth 200000 in
set_option maxHeartbeats 4000000 in
def T_X12_readCures_1 : List (tb_S × tb_l) := [((39, [(0, .inr (.inl (some 1))), (1, .inl (6, 0)), (2, .inl (7, 0))], [], ([(1, (0, 15), .inr (.inl (some 2))), (1, (0, 13), .inl (8, 0)), (2, (0, 0), .inl (3, 0)), (2, (0, 1), .inl (4, 0)), (2, (0, 2), .inl (5, 0))], [], []), [(0, 0), (1180591620717411303492, 1180591620717411303492), (1180591620717411303495, 1180591620717411303495), (0, 6), (0, 8), (0, 15), (53, 74), (3, 6), (0, 7)], 0, 0), ([(7, (-1))], 6))]
set_option maxRecDepth 200000 in
set_option maxHeartbeats 4000000 in
theorem m_X12_readCures_1 {l : Launch} : tb_Met l vwCl sa_Ts tb_Z0 yX12_readCures cX12_readCures 3 (some .boolean) 6 211 K_X12_readCures_1 := tb_method (by decide) [26, 68, 89, 110, 122] (t_X12_readCures [(68, 5, 13), (71, 2, 2), (71, 53, 76)] [K_X12_readFirst_1] [K_X12_readOne_1] [K_X12_isWord_1] [K_X12_bad_1] [K_X12_bad_3] [K_X12_go_1] [K_X12_readNumber_1] [K_X12_put_2, K_X12_put_1]) T_X12_readCures_1 [39] 6000 (List.forall_mem_cons.mpr ⟨dX12_readCures_26, List.forall_mem_cons.mpr ⟨dX12_readCures_68, List.forall_mem_cons.mpr ⟨dX12_readCures_89, List.forall_mem_cons.mpr ⟨dX12_readCures_110, List.forall_mem_cons.mpr ⟨dX12_readCures_122, fun _ h => absurd h List.not_mem_nil⟩⟩⟩⟩⟩) (h_X12_readCures [(68, 5, 13), (71, 2, 2), (71, 53, 76)] 6 211 (by decide) (by decide) [K_X12_readFirst_1] [K_X12_readOne_1] [K_X12_isWord_1] [K_X12_bad_1] [K_X12_bad_3] [K_X12_go_1] [K_X12_readNumber_1] [K_X12_put_2, K_X12_put_1] ⟨4, 165, List.forall_mem_cons.mpr ⟨m_X12_readFirst_1, fun _ h => absurd h List.not_mem_nil⟩, by decide, by decide, by decide⟩ ⟨5, 189, List.forall_mem_cons.mpr ⟨m_X12_readOne_1, fun _ h => absurd h List.not_mem_nil⟩, by decide, by decide, by decide⟩ ⟨4, 168, List.forall_mem_cons.mpr ⟨m_X12_isWord_1, fun _ h => absurd h List.not_mem_nil⟩, by decide, by decide, by decide⟩ ⟨2, 120, List.forall_mem_cons.mpr ⟨m_X12_bad_1, fun _ h => absurd h List.not_mem_nil⟩, by decide, by decide, by decide⟩ ⟨2, 120, List.forall_mem_cons.mpr ⟨m_X12_bad_3, fun _ h => absurd h List.not_mem_nil⟩, by decide, by decide, by decide⟩ ⟨3, 141, List.forall_mem_cons.mpr ⟨m_X12_go_1, fun _ h => absurd h List.not_mem_nil⟩, by decide, by decide, by decide⟩ ⟨4, 165, List.forall_mem_cons.mpr ⟨m_X12_readNumber_1, fun _ h => absurd h List.not_mem_nil⟩, by decide, by decide, by decide⟩ ⟨2, 120, List.forall_mem_cons.mpr ⟨m_X12_put_2, List.forall_mem_cons.mpr ⟨m_X12_put_1, fun _ h => absurd h List.not_mem_nil⟩⟩, by decide, by decide, by decide⟩) (by decide) (by decide +kernel)
set_option maxRecDepth 200000 in
set_option maxHeartbeats 4000000 in
def K_X12_readFirst_2 : tb_K := ([.inr (.inl (some 1)), .inl (2, 0), .inl (3, 0)], [(1, (0, 15), .inr (.inl (some 4))), (4, (2, 0), .inl (5, 0))], [], [(0, 0), (1180591620717411303492, 1180591620717411303492), (1, 1), (8, 8), (1180591620717411303495, 1180591620717411303495), (0, 8)], [(some (.inl (6, 0)), [(1, (0, 15), .inr (.inl (some 4))), (4, (2, 0), .inl (5, 0))], [], [(0, 0), (1180591620717411303492, 1180591620717411303492), (1, 1), (8, 8), (1180591620717411303495, 1180591620717411303495), (0, 7), (1, 1)]), (some (.inl (6, 0)), [(1, (0, 15), .inr (.inl (some 4))), (4, (2, 0), .inl (5, 0))], [], [(0, 0), (1180591620717411303492, 1180591620717411303492), (1, 1), (8, 8), (1180591620717411303495, 1180591620717411303495), (8, 8), (0, 0)])], [(68, 5, 12)])
set_option maxRecDepth 200000 in
set_option maxHeartbeats 4000000 in
def T_X12_readFirst_2 : List (tb_S × tb_l) := []
set_option maxRecDepth 200000 in
set_option maxHeartbeats 4000000 in
theorem m_X12_readFirst_2 {l : Launch} : tb_Met l vwCl sa_Ts tb_Z0 yX12_readFirst cX12_readFirst 3 (some .boolean) 4 165 K_X12_readFirst_2 := tb_method (by decide) [15, 21] (t_X12_readFirst [(68, 5, 12)] [K_X12_bad_2] [K_X12_go_1]) T_X12_readFirst_2 [] 6000 (List.forall_mem_cons.mpr ⟨dX12_readFirst_15, List.forall_mem_cons.mpr ⟨dX12_readFirst_21, fun _ h => absurd h List.not_mem_nil⟩⟩) (h_X12_readFirst [(68, 5, 12)] 4 165 (by decide) (by decide) [K_X12_bad_2] [K_X12_go_1] ⟨2, 120, List.forall_mem_cons.mpr ⟨m_X12_bad_2, fun _ h => absurd h List.not_mem_nil⟩, by decide, by decide, by decide⟩ ⟨3, 141, List.forall_mem_cons.mpr ⟨m_X12_go_1, fun _ h => absurd h List.not_mem_nil⟩, by decide, by decide, by decide⟩) (by decide) (by decide +kernel)
set_option maxRecDepth 200000 in
set_option maxHeartbeats 4000000 in
def K_X12_findIn_2 : tb_K := ([.inr (.inl (some 1)), .inl (2, 0), .inl (3, 0), .inr (.inr 4)], [], [], [(0, 0), (1180591620717411303500, 1180591620717411303500), (0, 0), (0, 6), (-9223372036854775808, 9223372036854775807)], [(some (.inl (5, 0)), [], [], [(0, 0), (1180591620717411303500, 1180591620717411303500), (0, 0), (0, 6), (-9223372036854775808, 9223372036854775807), (-1, 5)])], [])
set_option maxRecDepth 200000 in
set_option maxHeartbeats 4000000 in
def T_X12_findIn_2 : List (tb_S × tb_l) := [((3, [(0, .inr (.inl (some 1))), (1, .inl (2, 0)), (2, .inl (3, 0)), (3, .inr (.inr 4)), (5, .inl (5, 0))], [], ([], [], []), [(0, 0), (1180591620717411303500, 1180591620717411303500), (0, 0), (0, 6), (-9223372036854775808, 9223372036854775807), (0, 6)], 0, 0), ([(5, (-1))], 6))]
set_option maxRecDepth 200000 in
set_option maxHeartbeats 4000000 in
theorem m_X12_findIn_2 {l : Launch} : tb_Met l vwCl sa_Ts tb_Z0 yX12_findIn cX12_findIn 6 (some .int) 2 120 K_X12_findIn_2 := tb_method (by decide) [22, 30] (t_X12_findIn [] ) T_X12_findIn_2 [3] 6000 (List.forall_mem_cons.mpr ⟨dX12_findIn_22, List.forall_mem_cons.mpr ⟨dX12_findIn_30, fun _ h => absurd h List.not_mem_nil⟩⟩) (h_X12_findIn [] 2 120 (by decide) (by decide)  ) (by decide) (by decide +kernel)
def t_X12_readNew (mod : List (Nat × Nat × Nat)) (L1 : List tb_K) (L9 : List tb_K) (L28 : List tb_K) (L51 : List tb_K) (L60 : List tb_K) (L75 : List tb_K) : List (Nat × tb_op) := [(0, to_aload 0 1), (1, to_cs tb_Z0 mod (tb_gV tb_Z0 12 1 0 0) L1), (4, to_if tr_ne tr_eq 13), (7, to_aload 0 1), (8, to_int (1) 1), (9, to_cs tb_Z0 mod (tb_gV tb_Z0 12 2 0 0) L9), (13, to_aload 0 1), (14, to_get tb_Z0 [] 12 20), (17, to_int (0) 1), (18, to_aload 0 1), (19, to_get tb_Z0 [] 12 15), (22, to_int (0) 1), (23, to_ald tb_Z0 [] 0), (24, to_aload 0 1), (25, to_get tb_Z0 [] 12 12), (28, to_cs tb_Z0 mod (tb_gS 0 0) L28), (31, to_int (-1) 1), (32, to_icmp tr_ne tr_eq 58), (35, to_aload 0 1), (36, to_get tb_Z0 [] 12 20), (39, to_int (6) 2), (41, to_aload 0 1), (42, to_get tb_Z0 [] 12 15), (45, to_int (1) 1), (46, to_ald tb_Z0 [] 0), (47, to_aload 0 1), (48, to_get tb_Z0 [] 12 12), (51, to_cs tb_Z0 mod (tb_gS 0 0) L51), (54, to_int (-1) 1), (55, to_icmp tr_eq tr_ne 64), (58, to_aload 0 1), (59, to_int (3) 1), (60, to_cs tb_Z0 mod (tb_gV tb_Z0 12 2 0 0) L60), (64, to_aload 0 1), (65, to_get tb_Z0 [] 12 20), (68, to_iload 1 1), (69, to_aload 0 1), (70, to_get tb_Z0 [] 12 12), (73, to_last tb_Z0 tb_RT0 mod []), (74, to_aload 0 1), (75, to_cs tb_Z0 mod (tb_gV tb_Z0 12 1 0 0) L75), (78, to_int (1) 1)]
set_option maxRecDepth 200000 in
set_option maxHeartbeats 4000000 in
theorem h_X12_readNew {l : Launch} (mod : List (Nat × Nat × Nat)) (fr lc : Nat) (hfr : 1 + 1 ≤ fr) (hlc : 8 + (2 + 11) + 20 ≤ lc) (L1 : List tb_K) (L9 : List tb_K) (L28 : List tb_K) (L51 : List tb_K) (L60 : List tb_K) (L75 : List tb_K) (h1 : tb_ML l yX12_isName cX12_isName 2 (some .boolean) fr lc 1 L1) (h9 : tb_ML l yX12_bad cX12_bad 2 (some .boolean) fr lc 2 L9) (h28 : tb_ML l yX12_findIn cX12_findIn 6 (some .int) fr lc 4 L28) (h51 : tb_ML l yX12_findIn cX12_findIn 6 (some .int) fr lc 4 L51) (h60 : tb_ML l yX12_bad cX12_bad 2 (some .boolean) fr lc 2 L60) (h75 : tb_ML l yX12_go cX12_go 5 none fr lc 1 L75) : ∀ (p : Program) (e : Env) (s : State) (m : MethodId) (args : Array Value) (below : List Frame) (meth : Method) (c : Code) (Q : State → Prop) (D : va_G) (dA : Nat → ClassId) (A : Nat → Prop) (n0 : Nat) (V0 : sa_V) (E : tb_E), sa_C p s m args c D dA A 2 vwCl sa_Ts cX12_readNew yX12_readNew.cls → sa_U D vwCl dA s → tb_z E = tb_Z0 → tb_mod E = mod → ∀ q ∈ t_X12_readNew mod L1 L9 L28 L51 L60 L75, tb_snd p l e { frames := fr, cells := 0, slots := 0, locals := lc } s m args below meth c Q D dA A 2 vwCl n0 V0 E q.1 q.2 := fun p e s m args below meth c Q D dA A n0 V0 E C0 hU hz hm => List.forall_mem_cons.mpr ⟨tn_aload_n C0 dX12_readNew_0, List.forall_mem_cons.mpr ⟨tn_cV C0 hz hm hU h1 tv_1471 dX12_readNew_1 tv_1468 tv_1470 tq_X12_isName tv_13 rfl yb_X12_isName (Nat.le_refl _) (Nat.le_refl _), List.forall_mem_cons.mpr ⟨tx_if_ne C0 dX12_readNew_4 (by decide), List.forall_mem_cons.mpr ⟨tn_aload_n C0 dX12_readNew_7, List.forall_mem_cons.mpr ⟨tn_iconst C0 dX12_readNew_8, List.forall_mem_cons.mpr ⟨tn_cV C0 hz hm hU h9 tv_1463 dX12_readNew_9 tv_1460 tv_1462 tq_X12_bad tv_13 rfl yb_X12_bad (Nat.le_refl _) (Nat.le_refl _), List.forall_mem_cons.mpr ⟨tn_aload_n C0 dX12_readNew_13, List.forall_mem_cons.mpr ⟨tn_get C0 hz hcv0 kcX12 dX12_readNew_14 (by decide) tv_1281, List.forall_mem_cons.mpr ⟨tn_iconst C0 dX12_readNew_17, List.forall_mem_cons.mpr ⟨tn_aload_n C0 dX12_readNew_18, List.forall_mem_cons.mpr ⟨tn_get C0 hz hcv0 kcX12 dX12_readNew_19 (by decide) tv_1276, List.forall_mem_cons.mpr ⟨tn_iconst C0 dX12_readNew_22, List.forall_mem_cons.mpr ⟨tn_iald C0 hz hcv0 dX12_readNew_23, List.forall_mem_cons.mpr ⟨tn_aload_n C0 dX12_readNew_24, List.forall_mem_cons.mpr ⟨tn_get C0 hz hcv0 kcX12 dX12_readNew_25 (by decide) tv_1273, List.forall_mem_cons.mpr ⟨tn_cS C0 hz hm hU h28 tv_1474 dX12_readNew_28 tv_1472 tv_1473 tv_13 yb_X12_findIn (Nat.le_refl _) (Nat.le_refl _), List.forall_mem_cons.mpr ⟨tn_iconst C0 dX12_readNew_31, List.forall_mem_cons.mpr ⟨tx_icmp_ne C0 dX12_readNew_32 (by decide), List.forall_mem_cons.mpr ⟨tn_aload_n C0 dX12_readNew_35, List.forall_mem_cons.mpr ⟨tn_get C0 hz hcv0 kcX12 dX12_readNew_36 (by decide) tv_1281, List.forall_mem_cons.mpr ⟨tn_bipush C0 dX12_readNew_39 (by decide), List.forall_mem_cons.mpr ⟨tn_aload_n C0 dX12_readNew_41, List.forall_mem_cons.mpr ⟨tn_get C0 hz hcv0 kcX12 dX12_readNew_42 (by decide) tv_1276, List.forall_mem_cons.mpr ⟨tn_iconst C0 dX12_readNew_45, List.forall_mem_cons.mpr ⟨tn_iald C0 hz hcv0 dX12_readNew_46, List.forall_mem_cons.mpr ⟨tn_aload_n C0 dX12_readNew_47, List.forall_mem_cons.mpr ⟨tn_get C0 hz hcv0 kcX12 dX12_readNew_48 (by decide) tv_1273, List.forall_mem_cons.mpr ⟨tn_cS C0 hz hm hU h51 tv_1474 dX12_readNew_51 tv_1472 tv_1473 tv_13 yb_X12_findIn (Nat.le_refl _) (Nat.le_refl _), List.forall_mem_cons.mpr ⟨tn_iconst C0 dX12_readNew_54, List.forall_mem_cons.mpr ⟨tx_icmp_eq C0 dX12_readNew_55 (by decide), List.forall_mem_cons.mpr ⟨tn_aload_n C0 dX12_readNew_58, List.forall_mem_cons.mpr ⟨tn_iconst C0 dX12_readNew_59, List.forall_mem_cons.mpr ⟨tn_cV C0 hz hm hU h60 tv_1463 dX12_readNew_60 tv_1460 tv_1462 tq_X12_bad tv_13 rfl yb_X12_bad (Nat.le_refl _) (Nat.le_refl _), List.forall_mem_cons.mpr ⟨tn_aload_n C0 dX12_readNew_64, List.forall_mem_cons.mpr ⟨tn_get C0 hz hcv0 kcX12 dX12_readNew_65 (by decide) tv_1281, List.forall_mem_cons.mpr ⟨tn_iload_n C0 dX12_readNew_68, List.forall_mem_cons.mpr ⟨tn_aload_n C0 dX12_readNew_69, List.forall_mem_cons.mpr ⟨tn_get C0 hz hcv0 kcX12 dX12_readNew_70 (by decide) tv_1273, List.forall_mem_cons.mpr ⟨tn_last C0 hz hcv0 hrt0 hm dX12_readNew_73, List.forall_mem_cons.mpr ⟨tn_aload_n C0 dX12_readNew_74, List.forall_mem_cons.mpr ⟨tn_cV C0 hz hm hU h75 tv_1425 dX12_readNew_75 tv_1422 tv_1424 tq_X12_go tv_13 rfl yb_X12_go (Nat.le_refl _) (Nat.le_refl _), List.forall_mem_cons.mpr ⟨tn_iconst C0 dX12_readNew_78, fun _ h => absurd h List.not_mem_nil⟩⟩⟩⟩⟩⟩⟩⟩⟩⟩⟩⟩⟩⟩⟩⟩⟩⟩⟩⟩⟩⟩⟩⟩⟩⟩⟩⟩⟩⟩⟩⟩⟩⟩⟩⟩⟩⟩⟩⟩⟩⟩
set_option maxRecDepth 200000 in
set_option maxHeartbeats 4000000 in
def K_X12_readNew_1 : tb_K := ([.inr (.inl (some 1)), .inl (2, 0)], [], [], [(0, 0), (1180591620717411303492, 1180591620717411303492), (13, 13)], [(some (.inl (3, 0)), [], [], [(0, 0), (1180591620717411303492, 1180591620717411303492), (13, 13), (0, 0)]), (some (.inl (3, 0)), [], [], [(0, 0), (1180591620717411303492, 1180591620717411303492), (13, 13), (1, 1)])], [(68, 5, 12), (76, 13, 13)])
set_option maxRecDepth 200000 in
set_option maxHeartbeats 4000000 in
def T_X12_readNew_1 : List (tb_S × tb_l) := []
set_option maxRecDepth 200000 in
set_option maxHeartbeats 4000000 in
theorem m_X12_readNew_1 {l : Launch} : tb_Met l vwCl sa_Ts tb_Z0 yX12_readNew cX12_readNew 2 (some .boolean) 5 189 K_X12_readNew_1 := tb_method (by decide) [12, 63, 79] (t_X12_readNew [(68, 5, 12), (76, 13, 13)] [K_X12_isName_1] [K_X12_bad_1] [K_X12_findIn_2] [K_X12_findIn_1] [K_X12_bad_3] [K_X12_go_1]) T_X12_readNew_1 [] 6000 (List.forall_mem_cons.mpr ⟨dX12_readNew_12, List.forall_mem_cons.mpr ⟨dX12_readNew_63, List.forall_mem_cons.mpr ⟨dX12_readNew_79, fun _ h => absurd h List.not_mem_nil⟩⟩⟩) (h_X12_readNew [(68, 5, 12), (76, 13, 13)] 5 189 (by decide) (by decide) [K_X12_isName_1] [K_X12_bad_1] [K_X12_findIn_2] [K_X12_findIn_1] [K_X12_bad_3] [K_X12_go_1] ⟨4, 168, List.forall_mem_cons.mpr ⟨m_X12_isName_1, fun _ h => absurd h List.not_mem_nil⟩, by decide, by decide, by decide⟩ ⟨2, 120, List.forall_mem_cons.mpr ⟨m_X12_bad_1, fun _ h => absurd h List.not_mem_nil⟩, by decide, by decide, by decide⟩ ⟨2, 120, List.forall_mem_cons.mpr ⟨m_X12_findIn_2, fun _ h => absurd h List.not_mem_nil⟩, by decide, by decide, by decide⟩ ⟨2, 120, List.forall_mem_cons.mpr ⟨m_X12_findIn_1, fun _ h => absurd h List.not_mem_nil⟩, by decide, by decide, by decide⟩ ⟨2, 120, List.forall_mem_cons.mpr ⟨m_X12_bad_3, fun _ h => absurd h List.not_mem_nil⟩, by decide, by decide, by decide⟩ ⟨3, 141, List.forall_mem_cons.mpr ⟨m_X12_go_1, fun _ h => absurd h List.not_mem_nil⟩, by decide, by decide, by decide⟩) (by decide) (by decide +kernel)
set_option maxRecDepth 200000 in
set_option maxHeartbeats 4000000 in
def K_X12_readNew_2 : tb_K := ([.inr (.inl (some 1)), .inl (2, 0)], [], [], [(0, 0), (1180591620717411303492, 1180591620717411303492), (12, 12)], [(some (.inl (3, 0)), [], [], [(0, 0), (1180591620717411303492, 1180591620717411303492), (12, 12), (0, 0)]), (some (.inl (3, 0)), [], [], [(0, 0), (1180591620717411303492, 1180591620717411303492), (12, 12), (1, 1)])], [(68, 5, 12), (76, 12, 12)])
set_option maxRecDepth 200000 in
set_option maxHeartbeats 4000000 in
def T_X12_readNew_2 : List (tb_S × tb_l) := []
set_option maxRecDepth 200000 in
set_option maxHeartbeats 4000000 in
theorem m_X12_readNew_2 {l : Launch} : tb_Met l vwCl sa_Ts tb_Z0 yX12_readNew cX12_readNew 2 (some .boolean) 5 189 K_X12_readNew_2 := tb_method (by decide) [12, 63, 79] (t_X12_readNew [(68, 5, 12), (76, 12, 12)] [K_X12_isName_1] [K_X12_bad_1] [K_X12_findIn_2] [K_X12_findIn_1] [K_X12_bad_3] [K_X12_go_1]) T_X12_readNew_2 [] 6000 (List.forall_mem_cons.mpr ⟨dX12_readNew_12, List.forall_mem_cons.mpr ⟨dX12_readNew_63, List.forall_mem_cons.mpr ⟨dX12_readNew_79, fun _ h => absurd h List.not_mem_nil⟩⟩⟩) (h_X12_readNew [(68, 5, 12), (76, 12, 12)] 5 189 (by decide) (by decide) [K_X12_isName_1] [K_X12_bad_1] [K_X12_findIn_2] [K_X12_findIn_1] [K_X12_bad_3] [K_X12_go_1] ⟨4, 168, List.forall_mem_cons.mpr ⟨m_X12_isName_1, fun _ h => absurd h List.not_mem_nil⟩, by decide, by decide, by decide⟩ ⟨2, 120, List.forall_mem_cons.mpr ⟨m_X12_bad_1, fun _ h => absurd h List.not_mem_nil⟩, by decide, by decide, by decide⟩ ⟨2, 120, List.forall_mem_cons.mpr ⟨m_X12_findIn_2, fun _ h => absurd h List.not_mem_nil⟩, by decide, by decide, by decide⟩ ⟨2, 120, List.forall_mem_cons.mpr ⟨m_X12_findIn_1, fun _ h => absurd h List.not_mem_nil⟩, by decide, by decide, by decide⟩ ⟨2, 120, List.forall_mem_cons.mpr ⟨m_X12_bad_3, fun _ h => absurd h List.not_mem_nil⟩, by decide, by decide, by decide⟩ ⟨3, 141, List.forall_mem_cons.mpr ⟨m_X12_go_1, fun _ h => absurd h List.not_mem_nil⟩, by decide, by decide, by decide⟩) (by decide) (by decide +kernel)
set_option maxRecDepth 200000 in
set_option maxHeartbeats 4000000 in
def K_X12_readNew_3 : tb_K := ([.inr (.inl (some 1)), .inl (2, 0)], [], [], [(0, 0), (1180591620717411303492, 1180591620717411303492), (11, 11)], [(some (.inl (3, 0)), [], [], [(0, 0), (1180591620717411303492, 1180591620717411303492), (11, 11), (0, 0)]), (some (.inl (3, 0)), [], [], [(0, 0), (1180591620717411303492, 1180591620717411303492), (11, 11), (1, 1)])], [(68, 5, 12), (76, 11, 11)])
set_option maxRecDepth 200000 in
set_option maxHeartbeats 4000000 in
def T_X12_readNew_3 : List (tb_S × tb_l) := []
set_option maxRecDepth 200000 in
set_option maxHeartbeats 4000000 in
theorem m_X12_readNew_3 {l : Launch} : tb_Met l vwCl sa_Ts tb_Z0 yX12_readNew cX12_readNew 2 (some .boolean) 5 189 K_X12_readNew_3 := tb_method (by decide) [12, 63, 79] (t_X12_readNew [(68, 5, 12), (76, 11, 11)] [K_X12_isName_1] [K_X12_bad_1] [K_X12_findIn_2] [K_X12_findIn_1] [K_X12_bad_3] [K_X12_go_1]) T_X12_readNew_3 [] 6000 (List.forall_mem_cons.mpr ⟨dX12_readNew_12, List.forall_mem_cons.mpr ⟨dX12_readNew_63, List.forall_mem_cons.mpr ⟨dX12_readNew_79, fun _ h => absurd h List.not_mem_nil⟩⟩⟩) (h_X12_readNew [(68, 5, 12), (76, 11, 11)] 5 189 (by decide) (by decide) [K_X12_isName_1] [K_X12_bad_1] [K_X12_findIn_2] [K_X12_findIn_1] [K_X12_bad_3] [K_X12_go_1] ⟨4, 168, List.forall_mem_cons.mpr ⟨m_X12_isName_1, fun _ h => absurd h List.not_mem_nil⟩, by decide, by decide, by decide⟩ ⟨2, 120, List.forall_mem_cons.mpr ⟨m_X12_bad_1, fun _ h => absurd h List.not_mem_nil⟩, by decide, by decide, by decide⟩ ⟨2, 120, List.forall_mem_cons.mpr ⟨m_X12_findIn_2, fun _ h => absurd h List.not_mem_nil⟩, by decide, by decide, by decide⟩ ⟨2, 120, List.forall_mem_cons.mpr ⟨m_X12_findIn_1, fun _ h => absurd h List.not_mem_nil⟩, by decide, by decide, by decide⟩ ⟨2, 120, List.forall_mem_cons.mpr ⟨m_X12_bad_3, fun _ h => absurd h List.not_mem_nil⟩, by decide, by decide, by decide⟩ ⟨3, 141, List.forall_mem_cons.mpr ⟨m_X12_go_1, fun _ h => absurd h List.not_mem_nil⟩, by decide, by decide, by decide⟩) (by decide) (by decide +kernel)
set_option maxRecDepth 200000 in
set_option maxHeartbeats 4000000 in
def K_X12_readNew_4 : tb_K := ([.inr (.inl (some 1)), .inl (2, 0)], [], [], [(0, 0), (1180591620717411303492, 1180591620717411303492), (10, 10)], [(some (.inl (3, 0)), [], [], [(0, 0), (1180591620717411303492, 1180591620717411303492), (10, 10), (0, 0)]), (some (.inl (3, 0)), [], [], [(0, 0), (1180591620717411303492, 1180591620717411303492), (10, 10), (1, 1)])], [(68, 5, 12), (76, 10, 10)])
set_option maxRecDepth 200000 in
set_option maxHeartbeats 4000000 in
def T_X12_readNew_4 : List (tb_S × tb_l) := []
set_option maxRecDepth 200000 in
set_option maxHeartbeats 4000000 in
theorem m_X12_readNew_4 {l : Launch} : tb_Met l vwCl sa_Ts tb_Z0 yX12_readNew cX12_readNew 2 (some .boolean) 5 189 K_X12_readNew_4 := tb_method (by decide) [12, 63, 79] (t_X12_readNew [(68, 5, 12), (76, 10, 10)] [K_X12_isName_1] [K_X12_bad_1] [K_X12_findIn_2] [K_X12_findIn_1] [K_X12_bad_3] [K_X12_go_1]) T_X12_readNew_4 [] 6000 (List.forall_mem_cons.mpr ⟨dX12_readNew_12, List.forall_mem_cons.mpr ⟨dX12_readNew_63, List.forall_mem_cons.mpr ⟨dX12_readNew_79, fun _ h => absurd h List.not_mem_nil⟩⟩⟩) (h_X12_readNew [(68, 5, 12), (76, 10, 10)] 5 189 (by decide) (by decide) [K_X12_isName_1] [K_X12_bad_1] [K_X12_findIn_2] [K_X12_findIn_1] [K_X12_bad_3] [K_X12_go_1] ⟨4, 168, List.forall_mem_cons.mpr ⟨m_X12_isName_1, fun _ h => absurd h List.not_mem_nil⟩, by decide, by decide, by decide⟩ ⟨2, 120, List.forall_mem_cons.mpr ⟨m_X12_bad_1, fun _ h => absurd h List.not_mem_nil⟩, by decide, by decide, by decide⟩ ⟨2, 120, List.forall_mem_cons.mpr ⟨m_X12_findIn_2, fun _ h => absurd h List.not_mem_nil⟩, by decide, by decide, by decide⟩ ⟨2, 120, List.forall_mem_cons.mpr ⟨m_X12_findIn_1, fun _ h => absurd h List.not_mem_nil⟩, by decide, by decide, by decide⟩ ⟨2, 120, List.forall_mem_cons.mpr ⟨m_X12_bad_3, fun _ h => absurd h List.not_mem_nil⟩, by decide, by decide, by decide⟩ ⟨3, 141, List.forall_mem_cons.mpr ⟨m_X12_go_1, fun _ h => absurd h List.not_mem_nil⟩, by decide, by decide, by decide⟩) (by decide) (by decide +kernel)
set_option maxRecDepth 200000 in
set_option maxHeartbeats 4000000 in
def K_X12_readNew_5 : tb_K := ([.inr (.inl (some 1)), .inl (2, 0)], [], [], [(0, 0), (1180591620717411303492, 1180591620717411303492), (9, 9)], [(some (.inl (3, 0)), [], [], [(0, 0), (1180591620717411303492, 1180591620717411303492), (9, 9), (0, 0)]), (some (.inl (3, 0)), [], [], [(0, 0), (1180591620717411303492, 1180591620717411303492), (9, 9), (1, 1)])], [(68, 5, 12), (76, 9, 9)])
set_option maxRecDepth 200000 in
set_option maxHeartbeats 4000000 in
def T_X12_readNew_5 : List (tb_S × tb_l) := []
set_option maxRecDepth 200000 in
set_option maxHeartbeats 4000000 in
theorem m_X12_readNew_5 {l : Launch} : tb_Met l vwCl sa_Ts tb_Z0 yX12_readNew cX12_readNew 2 (some .boolean) 5 189 K_X12_readNew_5 := tb_method (by decide) [12, 63, 79] (t_X12_readNew [(68, 5, 12), (76, 9, 9)] [K_X12_isName_1] [K_X12_bad_1] [K_X12_findIn_2] [K_X12_findIn_1] [K_X12_bad_3] [K_X12_go_1]) T_X12_readNew_5 [] 6000 (List.forall_mem_cons.mpr ⟨dX12_readNew_12, List.forall_mem_cons.mpr ⟨dX12_readNew_63, List.forall_mem_cons.mpr ⟨dX12_readNew_79, fun _ h => absurd h List.not_mem_nil⟩⟩⟩) (h_X12_readNew [(68, 5, 12), (76, 9, 9)] 5 189 (by decide) (by decide) [K_X12_isName_1] [K_X12_bad_1] [K_X12_findIn_2] [K_X12_findIn_1] [K_X12_bad_3] [K_X12_go_1] ⟨4, 168, List.forall_mem_cons.mpr ⟨m_X12_isName_1, fun _ h => absurd h List.not_mem_nil⟩, by decide, by decide, by decide⟩ ⟨2, 120, List.forall_mem_cons.mpr ⟨m_X12_bad_1, fun _ h => absurd h List.not_mem_nil⟩, by decide, by decide, by decide⟩ ⟨2, 120, List.forall_mem_cons.mpr ⟨m_X12_findIn_2, fun _ h => absurd h List.not_mem_nil⟩, by decide, by decide, by decide⟩ ⟨2, 120, List.forall_mem_cons.mpr ⟨m_X12_findIn_1, fun _ h => absurd h List.not_mem_nil⟩, by decide, by decide, by decide⟩ ⟨2, 120, List.forall_mem_cons.mpr ⟨m_X12_bad_3, fun _ h => absurd h List.not_mem_nil⟩, by decide, by decide, by decide⟩ ⟨3, 141, List.forall_mem_cons.mpr ⟨m_X12_go_1, fun _ h => absurd h List.not_mem_nil⟩, by decide, by decide, by decide⟩) (by decide) (by decide +kernel)
set_option maxRecDepth 200000 in
set_option maxHeartbeats 4000000 in
def K_X12_readNew_6 : tb_K := ([.inr (.inl (some 1)), .inl (2, 0)], [], [], [(0, 0), (1180591620717411303492, 1180591620717411303492), (8, 8)], [(some (.inl (3, 0)), [], [], [(0, 0), (1180591620717411303492, 1180591620717411303492), (8, 8), (0, 0)]), (some (.inl (3, 0)), [], [], [(0, 0), (1180591620717411303492, 1180591620717411303492), (8, 8), (1, 1)])], [(68, 5, 12), (76, 8, 8)])
set_option maxRecDepth 200000 in
set_option maxHeartbeats 4000000 in
def T_X12_readNew_6 : List (tb_S × tb_l) := []
set_option maxRecDepth 200000 in
set_option maxHeartbeats 4000000 in
theorem m_X12_readNew_6 {l : Launch} : tb_Met l vwCl sa_Ts tb_Z0 yX12_readNew cX12_readNew 2 (some .boolean) 5 189 K_X12_readNew_6 := tb_method (by decide) [12, 63, 79] (t_X12_readNew [(68, 5, 12), (76, 8, 8)] [K_X12_isName_1] [K_X12_bad_1] [K_X12_findIn_2] [K_X12_findIn_1] [K_X12_bad_3] [K_X12_go_1]) T_X12_readNew_6 [] 6000 (List.forall_mem_cons.mpr ⟨dX12_readNew_12, List.forall_mem_cons.mpr ⟨dX12_readNew_63, List.forall_mem_cons.mpr ⟨dX12_readNew_79, fun _ h => absurd h List.not_mem_nil⟩⟩⟩) (h_X12_readNew [(68, 5, 12), (76, 8, 8)] 5 189 (by decide) (by decide) [K_X12_isName_1] [K_X12_bad_1] [K_X12_findIn_2] [K_X12_findIn_1] [K_X12_bad_3] [K_X12_go_1] ⟨4, 168, List.forall_mem_cons.mpr ⟨m_X12_isName_1, fun _ h => absurd h List.not_mem_nil⟩, by decide, by decide, by decide⟩ ⟨2, 120, List.forall_mem_cons.mpr ⟨m_X12_bad_1, fun _ h => absurd h List.not_mem_nil⟩, by decide, by decide, by decide⟩ ⟨2, 120, List.forall_mem_cons.mpr ⟨m_X12_findIn_2, fun _ h => absurd h List.not_mem_nil⟩, by decide, by decide, by decide⟩ ⟨2, 120, List.forall_mem_cons.mpr ⟨m_X12_findIn_1, fun _ h => absurd h List.not_mem_nil⟩, by decide, by decide, by decide⟩ ⟨2, 120, List.forall_mem_cons.mpr ⟨m_X12_bad_3, fun _ h => absurd h List.not_mem_nil⟩, by decide, by decide, by decide⟩ ⟨3, 141, List.forall_mem_cons.mpr ⟨m_X12_go_1, fun _ h => absurd h List.not_mem_nil⟩, by decide, by decide, by decide⟩) (by decide) (by decide +kernel)
set_option maxRecDepth 200000 in
set_option maxHeartbeats 4000000 in
def K_X12_readNew_7 : tb_K := ([.inr (.inl (some 1)), .inl (2, 0)], [], [], [(0, 0), (1180591620717411303492, 1180591620717411303492), (7, 7)], [(some (.inl (3, 0)), [], [], [(0, 0), (1180591620717411303492, 1180591620717411303492), (7, 7), (0, 0)]), (some (.inl (3, 0)), [], [], [(0, 0), (1180591620717411303492, 1180591620717411303492), (7, 7), (1, 1)])], [(68, 5, 12), (76, 7, 7)])
set_option maxRecDepth 200000 in
set_option maxHeartbeats 4000000 in
def T_X12_readNew_7 : List (tb_S × tb_l) := []
set_option maxRecDepth 200000 in
set_option maxHeartbeats 4000000 in
theorem m_X12_readNew_7 {l : Launch} : tb_Met l vwCl sa_Ts tb_Z0 yX12_readNew cX12_readNew 2 (some .boolean) 5 189 K_X12_readNew_7 := tb_method (by decide) [12, 63, 79] (t_X12_readNew [(68, 5, 12), (76, 7, 7)] [K_X12_isName_1] [K_X12_bad_1] [K_X12_findIn_2] [K_X12_findIn_1] [K_X12_bad_3] [K_X12_go_1]) T_X12_readNew_7 [] 6000 (List.forall_mem_cons.mpr ⟨dX12_readNew_12, List.forall_mem_cons.mpr ⟨dX12_readNew_63, List.forall_mem_cons.mpr ⟨dX12_readNew_79, fun _ h => absurd h List.not_mem_nil⟩⟩⟩) (h_X12_readNew [(68, 5, 12), (76, 7, 7)] 5 189 (by decide) (by decide) [K_X12_isName_1] [K_X12_bad_1] [K_X12_findIn_2] [K_X12_findIn_1] [K_X12_bad_3] [K_X12_go_1] ⟨4, 168, List.forall_mem_cons.mpr ⟨m_X12_isName_1, fun _ h => absurd h List.not_mem_nil⟩, by decide, by decide, by decide⟩ ⟨2, 120, List.forall_mem_cons.mpr ⟨m_X12_bad_1, fun _ h => absurd h List.not_mem_nil⟩, by decide, by decide, by decide⟩ ⟨2, 120, List.forall_mem_cons.mpr ⟨m_X12_findIn_2, fun _ h => absurd h List.not_mem_nil⟩, by decide, by decide, by decide⟩ ⟨2, 120, List.forall_mem_cons.mpr ⟨m_X12_findIn_1, fun _ h => absurd h List.not_mem_nil⟩, by decide, by decide, by decide⟩ ⟨2, 120, List.forall_mem_cons.mpr ⟨m_X12_bad_3, fun _ h => absurd h List.not_mem_nil⟩, by decide, by decide, by decide⟩ ⟨3, 141, List.forall_mem_cons.mpr ⟨m_X12_go_1, fun _ h => absurd h List.not_mem_nil⟩, by decide, by decide, by decide⟩) (by decide) (by decide +kernel)
set_option maxRecDepth 200000 in
set_option maxHeartbeats 4000000 in
def K_X12_readNew_8 : tb_K := ([.inr (.inl (some 1)), .inl (2, 0)], [], [], [(0, 0), (1180591620717411303492, 1180591620717411303492), (6, 6)], [(some (.inl (3, 0)), [], [], [(0, 0), (1180591620717411303492, 1180591620717411303492), (6, 6), (0, 0)]), (some (.inl (3, 0)), [], [], [(0, 0), (1180591620717411303492, 1180591620717411303492), (6, 6), (1, 1)])], [(68, 5, 12), (76, 6, 6)])
set_option maxRecDepth 200000 in
set_option maxHeartbeats 4000000 in
def T_X12_readNew_8 : List (tb_S × tb_l) := []
set_option maxRecDepth 200000 in
set_option maxHeartbeats 4000000 in
theorem m_X12_readNew_8 {l : Launch} : tb_Met l vwCl sa_Ts tb_Z0 yX12_readNew cX12_readNew 2 (some .boolean) 5 189 K_X12_readNew_8 := tb_method (by decide) [12, 63, 79] (t_X12_readNew [(68, 5, 12), (76, 6, 6)] [K_X12_isName_1] [K_X12_bad_1] [K_X12_findIn_2] [K_X12_findIn_1] [K_X12_bad_3] [K_X12_go_1]) T_X12_readNew_8 [] 6000 (List.forall_mem_cons.mpr ⟨dX12_readNew_12, List.forall_mem_cons.mpr ⟨dX12_readNew_63, List.forall_mem_cons.mpr ⟨dX12_readNew_79, fun _ h => absurd h List.not_mem_nil⟩⟩⟩) (h_X12_readNew [(68, 5, 12), (76, 6, 6)] 5 189 (by decide) (by decide) [K_X12_isName_1] [K_X12_bad_1] [K_X12_findIn_2] [K_X12_findIn_1] [K_X12_bad_3] [K_X12_go_1] ⟨4, 168, List.forall_mem_cons.mpr ⟨m_X12_isName_1, fun _ h => absurd h List.not_mem_nil⟩, by decide, by decide, by decide⟩ ⟨2, 120, List.forall_mem_cons.mpr ⟨m_X12_bad_1, fun _ h => absurd h List.not_mem_nil⟩, by decide, by decide, by decide⟩ ⟨2, 120, List.forall_mem_cons.mpr ⟨m_X12_findIn_2, fun _ h => absurd h List.not_mem_nil⟩, by decide, by decide, by decide⟩ ⟨2, 120, List.forall_mem_cons.mpr ⟨m_X12_findIn_1, fun _ h => absurd h List.not_mem_nil⟩, by decide, by decide, by decide⟩ ⟨2, 120, List.forall_mem_cons.mpr ⟨m_X12_bad_3, fun _ h => absurd h List.not_mem_nil⟩, by decide, by decide, by decide⟩ ⟨3, 141, List.forall_mem_cons.mpr ⟨m_X12_go_1, fun _ h => absurd h List.not_mem_nil⟩, by decide, by decide, by decide⟩) (by decide) (by decide +kernel)
set_option maxRecDepth 200000 in
set_option maxHeartbeats 4000000 in
def K_X12_readOne_2 : tb_K := ([.inr (.inl (some 1)), .inl (2, 0), .inl (3, 0)], [], [], [(0, 0), (1180591620717411303492, 1180591620717411303492), (0, 0), (0, 6)], [(some (.inl (4, 0)), [(1, (0, 13), .inl (5, 0))], [], [(0, 0), (1180591620717411303492, 1180591620717411303492), (0, 0), (0, 6), (0, 0), (-1, 999)]), (some (.inl (4, 0)), [(1, (0, 13), .inl (5, 0))], [], [(0, 0), (1180591620717411303492, 1180591620717411303492), (0, 0), (0, 6), (1, 1), (0, 5)])], [(68, 5, 13)])
set_option maxRecDepth 200000 in
set_option maxHeartbeats 4000000 in
def T_X12_readOne_2 : List (tb_S × tb_l) := []
set_option maxRecDepth 200000 in
set_option maxHeartbeats 4000000 in
theorem m_X12_readOne_2 {l : Launch} : tb_Met l vwCl sa_Ts tb_Z0 yX12_readOne cX12_readOne 3 (some .boolean) 5 189 K_X12_readOne_2 := tb_method (by decide) [12, 43, 49] (t_X12_readOne [(68, 5, 13)] [K_X12_isName_1] [K_X12_bad_1] [K_X12_findIn_2] [K_X12_bad_3] [K_X12_go_1]) T_X12_readOne_2 [] 6000 (List.forall_mem_cons.mpr ⟨dX12_readOne_12, List.forall_mem_cons.mpr ⟨dX12_readOne_43, List.forall_mem_cons.mpr ⟨dX12_readOne_49, fun _ h => absurd h List.not_mem_nil⟩⟩⟩) (h_X12_readOne [(68, 5, 13)] 5 189 (by decide) (by decide) [K_X12_isName_1] [K_X12_bad_1] [K_X12_findIn_2] [K_X12_bad_3] [K_X12_go_1] ⟨4, 168, List.forall_mem_cons.mpr ⟨m_X12_isName_1, fun _ h => absurd h List.not_mem_nil⟩, by decide, by decide, by decide⟩ ⟨2, 120, List.forall_mem_cons.mpr ⟨m_X12_bad_1, fun _ h => absurd h List.not_mem_nil⟩, by decide, by decide, by decide⟩ ⟨2, 120, List.forall_mem_cons.mpr ⟨m_X12_findIn_2, fun _ h => absurd h List.not_mem_nil⟩, by decide, by decide, by decide⟩ ⟨2, 120, List.forall_mem_cons.mpr ⟨m_X12_bad_3, fun _ h => absurd h List.not_mem_nil⟩, by decide, by decide, by decide⟩ ⟨3, 141, List.forall_mem_cons.mpr ⟨m_X12_go_1, fun _ h => absurd h List.not_mem_nil⟩, by decide, by decide, by decide⟩) (by decide) (by decide +kernel)
set_option maxRecDepth 200000 in
set_option maxHeartbeats 4000000 in
def K_X12_put_3 : tb_K := ([.inr (.inl (some 1)), .inl (2, 0), .inl (3, 0)], [(1, (0, 13), .inl (4, 0))], [], [(0, 0), (1180591620717411303492, 1180591620717411303492), (28, 28), (0, 0), (-1, 999)], [(some (.inl (3, 0)), [(1, (0, 15), .inr (.inl (some 5))), (1, (0, 13), .inl (4, 0)), (5, (2, 0), .inl (6, 0))], [], [(0, 0), (1180591620717411303492, 1180591620717411303492), (28, 28), (0, 0), (-1, 999), (1180591620717411303495, 1180591620717411303495), (-2147483648, 2147483647)])], [])
set_option maxRecDepth 200000 in
set_option maxHeartbeats 4000000 in
def T_X12_put_3 : List (tb_S × tb_l) := []
set_option maxRecDepth 200000 in
set_option maxHeartbeats 4000000 in
theorem m_X12_put_3 {l : Launch} : tb_Met l vwCl sa_Ts tb_Z0 yX12_put cX12_put 3 (some .boolean) 2 120 K_X12_put_3 := tb_method (by decide) [15] (t_X12_put [] ) T_X12_put_3 [] 6000 (List.forall_mem_cons.mpr ⟨dX12_put_15, fun _ h => absurd h List.not_mem_nil⟩) (h_X12_put [] 2 120 (by decide) (by decide)  ) (by decide) (by decide +kernel)
set_option maxRecDepth 200000 in
set_option maxHeartbeats 4000000 in
def K_X12_put_4 : tb_K := ([.inr (.inl (some 1)), .inl (2, 0), .inl (3, 0)], [(1, (0, 13), .inl (4, 0))], [], [(0, 0), (1180591620717411303492, 1180591620717411303492), (28, 28), (1, 1), (0, 5)], [(some (.inl (3, 0)), [(1, (0, 15), .inr (.inl (some 5))), (1, (0, 13), .inl (4, 0)), (5, (2, 0), .inl (4, 0))], [], [(0, 0), (1180591620717411303492, 1180591620717411303492), (28, 28), (1, 1), (0, 5), (1180591620717411303495, 1180591620717411303495)])], [(71, 28, 28)])
set_option maxRecDepth 200000 in
set_option maxHeartbeats 4000000 in
def T_X12_put_4 : List (tb_S × tb_l) := []
set_option maxRecDepth 200000 in
set_option maxHeartbeats 4000000 in
theorem m_X12_put_4 {l : Launch} : tb_Met l vwCl sa_Ts tb_Z0 yX12_put cX12_put 3 (some .boolean) 2 120 K_X12_put_4 := tb_method (by decide) [15] (t_X12_put [(71, 28, 28)] ) T_X12_put_4 [] 6000 (List.forall_mem_cons.mpr ⟨dX12_put_15, fun _ h => absurd h List.not_mem_nil⟩) (h_X12_put [(71, 28, 28)] 2 120 (by decide) (by decide)  ) (by decide) (by decide +kernel)
set_option maxRecDepth 200000 in
set_option maxHeartbeats 4000000 in
def K_X12_put_5 : tb_K := ([.inr (.inl (some 1)), .inl (2, 0), .inl (3, 0)], [(1, (0, 13), .inl (4, 0))], [], [(0, 0), (1180591620717411303492, 1180591620717411303492), (27, 27), (0, 0), (-1, 999)], [(some (.inl (3, 0)), [(1, (0, 15), .inr (.inl (some 5))), (1, (0, 13), .inl (4, 0)), (5, (2, 0), .inl (6, 0))], [], [(0, 0), (1180591620717411303492, 1180591620717411303492), (27, 27), (0, 0), (-1, 999), (1180591620717411303495, 1180591620717411303495), (-2147483648, 2147483647)])], [])
set_option maxRecDepth 200000 in
set_option maxHeartbeats 4000000 in
def T_X12_put_5 : List (tb_S × tb_l) := []
set_option maxRecDepth 200000 in
set_option maxHeartbeats 4000000 in
theorem m_X12_put_5 {l : Launch} : tb_Met l vwCl sa_Ts tb_Z0 yX12_put cX12_put 3 (some .boolean) 2 120 K_X12_put_5 := tb_method (by decide) [15] (t_X12_put [] ) T_X12_put_5 [] 6000 (List.forall_mem_cons.mpr ⟨dX12_put_15, fun _ h => absurd h List.not_mem_nil⟩) (h_X12_put [] 2 120 (by decide) (by decide)  ) (by decide) (by decide +kernel)
set_option maxRecDepth 200000 in
set_option maxHeartbeats 4000000 in
def K_X12_put_6 : tb_K := ([.inr (.inl (some 1)), .inl (2, 0), .inl (3, 0)], [(1, (0, 13), .inl (4, 0))], [], [(0, 0), (1180591620717411303492, 1180591620717411303492), (27, 27), (1, 1), (0, 5)], [(some (.inl (3, 0)), [(1, (0, 15), .inr (.inl (some 5))), (1, (0, 13), .inl (4, 0)), (5, (2, 0), .inl (4, 0))], [], [(0, 0), (1180591620717411303492, 1180591620717411303492), (27, 27), (1, 1), (0, 5), (1180591620717411303495, 1180591620717411303495)])], [(71, 27, 27)])
set_option maxRecDepth 200000 in
set_option maxHeartbeats 4000000 in
def T_X12_put_6 : List (tb_S × tb_l) := []
set_option maxRecDepth 200000 in
set_option maxHeartbeats 4000000 in
theorem m_X12_put_6 {l : Launch} : tb_Met l vwCl sa_Ts tb_Z0 yX12_put cX12_put 3 (some .boolean) 2 120 K_X12_put_6 := tb_method (by decide) [15] (t_X12_put [(71, 27, 27)] ) T_X12_put_6 [] 6000 (List.forall_mem_cons.mpr ⟨dX12_put_15, fun _ h => absurd h List.not_mem_nil⟩) (h_X12_put [(71, 27, 27)] 2 120 (by decide) (by decide)  ) (by decide) (by decide +kernel)
set_option maxRecDepth 200000 in
set_option maxHeartbeats 4000000 in
def K_X12_put_7 : tb_K := ([.inr (.inl (some 1)), .inl (2, 0), .inl (3, 0)], [(1, (0, 13), .inl (4, 0))], [], [(0, 0), (1180591620717411303492, 1180591620717411303492), (26, 26), (0, 0), (-1, 999)], [(some (.inl (3, 0)), [(1, (0, 15), .inr (.inl (some 5))), (1, (0, 13), .inl (4, 0)), (5, (2, 0), .inl (6, 0))], [], [(0, 0), (1180591620717411303492, 1180591620717411303492), (26, 26), (0, 0), (-1, 999), (1180591620717411303495, 1180591620717411303495), (-2147483648, 2147483647)])], [])
set_option maxRecDepth 200000 in
set_option maxHeartbeats 4000000 in
def T_X12_put_7 : List (tb_S × tb_l) := []
set_option maxRecDepth 200000 in
set_option maxHeartbeats 4000000 in
theorem m_X12_put_7 {l : Launch} : tb_Met l vwCl sa_Ts tb_Z0 yX12_put cX12_put 3 (some .boolean) 2 120 K_X12_put_7 := tb_method (by decide) [15] (t_X12_put [] ) T_X12_put_7 [] 6000 (List.forall_mem_cons.mpr ⟨dX12_put_15, fun _ h => absurd h List.not_mem_nil⟩) (h_X12_put [] 2 120 (by decide) (by decide)  ) (by decide) (by decide +kernel)
set_option maxRecDepth 200000 in
set_option maxHeartbeats 4000000 in
def K_X12_put_8 : tb_K := ([.inr (.inl (some 1)), .inl (2, 0), .inl (3, 0)], [(1, (0, 13), .inl (4, 0))], [], [(0, 0), (1180591620717411303492, 1180591620717411303492), (26, 26), (1, 1), (0, 5)], [(some (.inl (3, 0)), [(1, (0, 15), .inr (.inl (some 5))), (1, (0, 13), .inl (4, 0)), (5, (2, 0), .inl (4, 0))], [], [(0, 0), (1180591620717411303492, 1180591620717411303492), (26, 26), (1, 1), (0, 5), (1180591620717411303495, 1180591620717411303495)])], [(71, 26, 26)])
set_option maxRecDepth 200000 in
set_option maxHeartbeats 4000000 in
def T_X12_put_8 : List (tb_S × tb_l) := []
set_option maxRecDepth 200000 in
set_option maxHeartbeats 4000000 in
theorem m_X12_put_8 {l : Launch} : tb_Met l vwCl sa_Ts tb_Z0 yX12_put cX12_put 3 (some .boolean) 2 120 K_X12_put_8 := tb_method (by decide) [15] (t_X12_put [(71, 26, 26)] ) T_X12_put_8 [] 6000 (List.forall_mem_cons.mpr ⟨dX12_put_15, fun _ h => absurd h List.not_mem_nil⟩) (h_X12_put [(71, 26, 26)] 2 120 (by decide) (by decide)  ) (by decide) (by decide +kernel)
set_option maxRecDepth 200000 in
set_option maxHeartbeats 4000000 in
def K_X12_put_9 : tb_K := ([.inr (.inl (some 1)), .inl (2, 0), .inl (3, 0)], [(1, (0, 13), .inl (4, 0))], [], [(0, 0), (1180591620717411303492, 1180591620717411303492), (25, 25), (0, 0), (-1, 999)], [(some (.inl (3, 0)), [(1, (0, 15), .inr (.inl (some 5))), (1, (0, 13), .inl (4, 0)), (5, (2, 0), .inl (6, 0))], [], [(0, 0), (1180591620717411303492, 1180591620717411303492), (25, 25), (0, 0), (-1, 999), (1180591620717411303495, 1180591620717411303495), (-2147483648, 2147483647)])], [])
set_option maxRecDepth 200000 in
set_option maxHeartbeats 4000000 in
def T_X12_put_9 : List (tb_S × tb_l) := []
set_option maxRecDepth 200000 in
set_option maxHeartbeats 4000000 in
theorem m_X12_put_9 {l : Launch} : tb_Met l vwCl sa_Ts tb_Z0 yX12_put cX12_put 3 (some .boolean) 2 120 K_X12_put_9 := tb_method (by decide) [15] (t_X12_put [] ) T_X12_put_9 [] 6000 (List.forall_mem_cons.mpr ⟨dX12_put_15, fun _ h => absurd h List.not_mem_nil⟩) (h_X12_put [] 2 120 (by decide) (by decide)  ) (by decide) (by decide +kernel)
set_option maxRecDepth 200000 in
set_option maxHeartbeats 4000000 in
def K_X12_put_10 : tb_K := ([.inr (.inl (some 1)), .inl (2, 0), .inl (3, 0)], [(1, (0, 13), .inl (4, 0))], [], [(0, 0), (1180591620717411303492, 1180591620717411303492), (25, 25), (1, 1), (0, 5)], [(some (.inl (3, 0)), [(1, (0, 15), .inr (.inl (some 5))), (1, (0, 13), .inl (4, 0)), (5, (2, 0), .inl (4, 0))], [], [(0, 0), (1180591620717411303492, 1180591620717411303492), (25, 25), (1, 1), (0, 5), (1180591620717411303495, 1180591620717411303495)])], [(71, 25, 25)])
set_option maxRecDepth 200000 in
set_option maxHeartbeats 4000000 in
def T_X12_put_10 : List (tb_S × tb_l) := []
set_option maxRecDepth 200000 in
set_option maxHeartbeats 4000000 in
theorem m_X12_put_10 {l : Launch} : tb_Met l vwCl sa_Ts tb_Z0 yX12_put cX12_put 3 (some .boolean) 2 120 K_X12_put_10 := tb_method (by decide) [15] (t_X12_put [(71, 25, 25)] ) T_X12_put_10 [] 6000 (List.forall_mem_cons.mpr ⟨dX12_put_15, fun _ h => absurd h List.not_mem_nil⟩) (h_X12_put [(71, 25, 25)] 2 120 (by decide) (by decide)  ) (by decide) (by decide +kernel)
set_option maxRecDepth 200000 in
set_option maxHeartbeats 4000000 in
def K_X12_put_11 : tb_K := ([.inr (.inl (some 1)), .inl (2, 0), .inl (3, 0)], [(1, (0, 13), .inl (4, 0))], [], [(0, 0), (1180591620717411303492, 1180591620717411303492), (24, 24), (0, 0), (-1, 999)], [(some (.inl (3, 0)), [(1, (0, 15), .inr (.inl (some 5))), (1, (0, 13), .inl (4, 0)), (5, (2, 0), .inl (6, 0))], [], [(0, 0), (1180591620717411303492, 1180591620717411303492), (24, 24), (0, 0), (-1, 999), (1180591620717411303495, 1180591620717411303495), (-2147483648, 2147483647)])], [])
set_option maxRecDepth 200000 in
set_option maxHeartbeats 4000000 in
def T_X12_put_11 : List (tb_S × tb_l) := []
set_option maxRecDepth 200000 in
set_option maxHeartbeats 4000000 in
theorem m_X12_put_11 {l : Launch} : tb_Met l vwCl sa_Ts tb_Z0 yX12_put cX12_put 3 (some .boolean) 2 120 K_X12_put_11 := tb_method (by decide) [15] (t_X12_put [] ) T_X12_put_11 [] 6000 (List.forall_mem_cons.mpr ⟨dX12_put_15, fun _ h => absurd h List.not_mem_nil⟩) (h_X12_put [] 2 120 (by decide) (by decide)  ) (by decide) (by decide +kernel)
set_option maxRecDepth 200000 in
set_option maxHeartbeats 4000000 in
def K_X12_put_12 : tb_K := ([.inr (.inl (some 1)), .inl (2, 0), .inl (3, 0)], [(1, (0, 13), .inl (4, 0))], [], [(0, 0), (1180591620717411303492, 1180591620717411303492), (24, 24), (1, 1), (0, 5)], [(some (.inl (3, 0)), [(1, (0, 15), .inr (.inl (some 5))), (1, (0, 13), .inl (4, 0)), (5, (2, 0), .inl (4, 0))], [], [(0, 0), (1180591620717411303492, 1180591620717411303492), (24, 24), (1, 1), (0, 5), (1180591620717411303495, 1180591620717411303495)])], [(71, 24, 24)])
set_option maxRecDepth 200000 in
set_option maxHeartbeats 4000000 in
def T_X12_put_12 : List (tb_S × tb_l) := []
set_option maxRecDepth 200000 in
set_option maxHeartbeats 4000000 in
theorem m_X12_put_12 {l : Launch} : tb_Met l vwCl sa_Ts tb_Z0 yX12_put cX12_put 3 (some .boolean) 2 120 K_X12_put_12 := tb_method (by decide) [15] (t_X12_put [(71, 24, 24)] ) T_X12_put_12 [] 6000 (List.forall_mem_cons.mpr ⟨dX12_put_15, fun _ h => absurd h List.not_mem_nil⟩) (h_X12_put [(71, 24, 24)] 2 120 (by decide) (by decide)  ) (by decide) (by decide +kernel)
set_option maxRecDepth 200000 in
set_option maxHeartbeats 4000000 in
def K_X12_put_13 : tb_K := ([.inr (.inl (some 1)), .inl (2, 0), .inl (3, 0)], [(1, (0, 13), .inl (4, 0))], [], [(0, 0), (1180591620717411303492, 1180591620717411303492), (23, 23), (0, 0), (-1, 999)], [(some (.inl (3, 0)), [(1, (0, 15), .inr (.inl (some 5))), (1, (0, 13), .inl (4, 0)), (5, (2, 0), .inl (6, 0))], [], [(0, 0), (1180591620717411303492, 1180591620717411303492), (23, 23), (0, 0), (-1, 999), (1180591620717411303495, 1180591620717411303495), (-2147483648, 2147483647)])], [])
set_option maxRecDepth 200000 in
set_option maxHeartbeats 4000000 in
def T_X12_put_13 : List (tb_S × tb_l) := []
set_option maxRecDepth 200000 in
set_option maxHeartbeats 4000000 in
theorem m_X12_put_13 {l : Launch} : tb_Met l vwCl sa_Ts tb_Z0 yX12_put cX12_put 3 (some .boolean) 2 120 K_X12_put_13 := tb_method (by decide) [15] (t_X12_put [] ) T_X12_put_13 [] 6000 (List.forall_mem_cons.mpr ⟨dX12_put_15, fun _ h => absurd h List.not_mem_nil⟩) (h_X12_put [] 2 120 (by decide) (by decide)  ) (by decide) (by decide +kernel)
set_option maxRecDepth 200000 in
set_option maxHeartbeats 4000000 in
def K_X12_put_14 : tb_K := ([.inr (.inl (some 1)), .inl (2, 0), .inl (3, 0)], [(1, (0, 13), .inl (4, 0))], [], [(0, 0), (1180591620717411303492, 1180591620717411303492), (23, 23), (1, 1), (0, 5)], [(some (.inl (3, 0)), [(1, (0, 15), .inr (.inl (some 5))), (1, (0, 13), .inl (4, 0)), (5, (2, 0), .inl (4, 0))], [], [(0, 0), (1180591620717411303492, 1180591620717411303492), (23, 23), (1, 1), (0, 5), (1180591620717411303495, 1180591620717411303495)])], [(71, 23, 23)])
set_option maxRecDepth 200000 in
set_option maxHeartbeats 4000000 in
def T_X12_put_14 : List (tb_S × tb_l) := []
set_option maxRecDepth 200000 in
set_option maxHeartbeats 4000000 in
theorem m_X12_put_14 {l : Launch} : tb_Met l vwCl sa_Ts tb_Z0 yX12_put cX12_put 3 (some .boolean) 2 120 K_X12_put_14 := tb_method (by decide) [15] (t_X12_put [(71, 23, 23)] ) T_X12_put_14 [] 6000 (List.forall_mem_cons.mpr ⟨dX12_put_15, fun _ h => absurd h List.not_mem_nil⟩) (h_X12_put [(71, 23, 23)] 2 120 (by decide) (by decide)  ) (by decide) (by decide +kernel)
set_option maxRecDepth 200000 in
set_option maxHeartbeats 4000000 in
def K_X12_put_15 : tb_K := ([.inr (.inl (some 1)), .inl (2, 0), .inl (3, 0)], [(1, (0, 13), .inl (4, 0))], [], [(0, 0), (1180591620717411303492, 1180591620717411303492), (22, 22), (0, 0), (-1, 999)], [(some (.inl (3, 0)), [(1, (0, 15), .inr (.inl (some 5))), (1, (0, 13), .inl (4, 0)), (5, (2, 0), .inl (6, 0))], [], [(0, 0), (1180591620717411303492, 1180591620717411303492), (22, 22), (0, 0), (-1, 999), (1180591620717411303495, 1180591620717411303495), (-2147483648, 2147483647)])], [])
set_option maxRecDepth 200000 in
set_option maxHeartbeats 4000000 in
def T_X12_put_15 : List (tb_S × tb_l) := []
set_option maxRecDepth 200000 in
set_option maxHeartbeats 4000000 in
theorem m_X12_put_15 {l : Launch} : tb_Met l vwCl sa_Ts tb_Z0 yX12_put cX12_put 3 (some .boolean) 2 120 K_X12_put_15 := tb_method (by decide) [15] (t_X12_put [] ) T_X12_put_15 [] 6000 (List.forall_mem_cons.mpr ⟨dX12_put_15, fun _ h => absurd h List.not_mem_nil⟩) (h_X12_put [] 2 120 (by decide) (by decide)  ) (by decide) (by decide +kernel)
set_option maxRecDepth 200000 in
set_option maxHeartbeats 4000000 in
def K_X12_put_16 : tb_K := ([.inr (.inl (some 1)), .inl (2, 0), .inl (3, 0)], [(1, (0, 13), .inl (4, 0))], [], [(0, 0), (1180591620717411303492, 1180591620717411303492), (22, 22), (1, 1), (0, 5)], [(some (.inl (3, 0)), [(1, (0, 15), .inr (.inl (some 5))), (1, (0, 13), .inl (4, 0)), (5, (2, 0), .inl (4, 0))], [], [(0, 0), (1180591620717411303492, 1180591620717411303492), (22, 22), (1, 1), (0, 5), (1180591620717411303495, 1180591620717411303495)])], [(71, 22, 22)])
set_option maxRecDepth 200000 in
set_option maxHeartbeats 4000000 in
def T_X12_put_16 : List (tb_S × tb_l) := []
set_option maxRecDepth 200000 in
set_option maxHeartbeats 4000000 in
theorem m_X12_put_16 {l : Launch} : tb_Met l vwCl sa_Ts tb_Z0 yX12_put cX12_put 3 (some .boolean) 2 120 K_X12_put_16 := tb_method (by decide) [15] (t_X12_put [(71, 22, 22)] ) T_X12_put_16 [] 6000 (List.forall_mem_cons.mpr ⟨dX12_put_15, fun _ h => absurd h List.not_mem_nil⟩) (h_X12_put [(71, 22, 22)] 2 120 (by decide) (by decide)  ) (by decide) (by decide +kernel)
set_option maxRecDepth 200000 in
set_option maxHeartbeats 4000000 in
def K_X12_put_17 : tb_K := ([.inr (.inl (some 1)), .inl (2, 0), .inl (3, 0)], [(1, (0, 13), .inl (4, 0))], [], [(0, 0), (1180591620717411303492, 1180591620717411303492), (21, 21), (0, 0), (-1, 999)], [(some (.inl (3, 0)), [(1, (0, 15), .inr (.inl (some 5))), (1, (0, 13), .inl (4, 0)), (5, (2, 0), .inl (6, 0))], [], [(0, 0), (1180591620717411303492, 1180591620717411303492), (21, 21), (0, 0), (-1, 999), (1180591620717411303495, 1180591620717411303495), (-2147483648, 2147483647)])], [])
set_option maxRecDepth 200000 in
set_option maxHeartbeats 4000000 in
def T_X12_put_17 : List (tb_S × tb_l) := []
set_option maxRecDepth 200000 in
set_option maxHeartbeats 4000000 in
theorem m_X12_put_17 {l : Launch} : tb_Met l vwCl sa_Ts tb_Z0 yX12_put cX12_put 3 (some .boolean) 2 120 K_X12_put_17 := tb_method (by decide) [15] (t_X12_put [] ) T_X12_put_17 [] 6000 (List.forall_mem_cons.mpr ⟨dX12_put_15, fun _ h => absurd h List.not_mem_nil⟩) (h_X12_put [] 2 120 (by decide) (by decide)  ) (by decide) (by decide +kernel)
set_option maxRecDepth 200000 in
set_option maxHeartbeats 4000000 in
def K_X12_put_18 : tb_K := ([.inr (.inl (some 1)), .inl (2, 0), .inl (3, 0)], [(1, (0, 13), .inl (4, 0))], [], [(0, 0), (1180591620717411303492, 1180591620717411303492), (21, 21), (1, 1), (0, 5)], [(some (.inl (3, 0)), [(1, (0, 15), .inr (.inl (some 5))), (1, (0, 13), .inl (4, 0)), (5, (2, 0), .inl (4, 0))], [], [(0, 0), (1180591620717411303492, 1180591620717411303492), (21, 21), (1, 1), (0, 5), (1180591620717411303495, 1180591620717411303495)])], [(71, 21, 21)])
set_option maxRecDepth 200000 in
set_option maxHeartbeats 4000000 in
def T_X12_put_18 : List (tb_S × tb_l) := []
set_option maxRecDepth 200000 in
set_option maxHeartbeats 4000000 in
theorem m_X12_put_18 {l : Launch} : tb_Met l vwCl sa_Ts tb_Z0 yX12_put cX12_put 3 (some .boolean) 2 120 K_X12_put_18 := tb_method (by decide) [15] (t_X12_put [(71, 21, 21)] ) T_X12_put_18 [] 6000 (List.forall_mem_cons.mpr ⟨dX12_put_15, fun _ h => absurd h List.not_mem_nil⟩) (h_X12_put [(71, 21, 21)] 2 120 (by decide) (by decide)  ) (by decide) (by decide +kernel)
set_option maxRecDepth 200000 in
set_option maxHeartbeats 4000000 in
def K_X12_isIn_2 : tb_K := ([.inl (1, 0), .inl (2, 0), .inl (3, 0)], [], [], [(0, 0), (-2147483648, 2147483647), (0, 0), (200, 200)], [(some (.inl (4, 0)), [], [], [(0, 0), (-2147483648, 2147483647), (0, 0), (200, 200), (0, 0)]), (some (.inl (4, 0)), [], [], [(0, 0), (0, 200), (0, 0), (200, 200), (1, 1)])], [])
set_option maxRecDepth 200000 in
set_option maxHeartbeats 4000000 in
def T_X12_isIn_2 : List (tb_S × tb_l) := []
set_option maxRecDepth 200000 in
set_option maxHeartbeats 4000000 in
theorem m_X12_isIn_2 {l : Launch} : tb_Met l vwCl sa_Ts tb_Z0 yX12_isIn cX12_isIn 3 (some .boolean) 2 120 K_X12_isIn_2 := tb_method (by decide) [15] (t_X12_isIn [] ) T_X12_isIn_2 [] 6000 (List.forall_mem_cons.mpr ⟨dX12_isIn_15, fun _ h => absurd h List.not_mem_nil⟩) (h_X12_isIn [] 2 120 (by decide) (by decide)  ) (by decide) (by decide +kernel)
set_option maxRecDepth 200000 in
set_option maxHeartbeats 4000000 in
def K_X12_readNumber_2 : tb_K := ([.inr (.inl (some 1)), .inl (2, 0), .inl (3, 0)], [], [], [(0, 0), (1180591620717411303492, 1180591620717411303492), (0, 0), (200, 200)], [(some (.inl (4, 0)), [(1, (0, 13), .inl (5, 0))], [], [(0, 0), (1180591620717411303492, 1180591620717411303492), (0, 0), (200, 200), (0, 0), (-1, 999)]), (some (.inl (4, 0)), [(1, (0, 13), .inl (5, 0))], [], [(0, 0), (1180591620717411303492, 1180591620717411303492), (0, 0), (200, 200), (1, 1), (0, 200)])], [(68, 5, 13)])
set_option maxRecDepth 200000 in
set_option maxHeartbeats 4000000 in
def T_X12_readNumber_2 : List (tb_S × tb_l) := []
set_option maxRecDepth 200000 in
set_option maxHeartbeats 4000000 in
theorem m_X12_readNumber_2 {l : Launch} : tb_Met l vwCl sa_Ts tb_Z0 yX12_readNumber cX12_readNumber 3 (some .boolean) 4 165 K_X12_readNumber_2 := tb_method (by decide) [13, 31, 45] (t_X12_readNumber [(68, 5, 13)] [K_X12_bad_1] [K_X12_isIn_2] [K_X12_bad_4] [K_X12_go_1]) T_X12_readNumber_2 [] 6000 (List.forall_mem_cons.mpr ⟨dX12_readNumber_13, List.forall_mem_cons.mpr ⟨dX12_readNumber_31, List.forall_mem_cons.mpr ⟨dX12_readNumber_45, fun _ h => absurd h List.not_mem_nil⟩⟩⟩) (h_X12_readNumber [(68, 5, 13)] 4 165 (by decide) (by decide) [K_X12_bad_1] [K_X12_isIn_2] [K_X12_bad_4] [K_X12_go_1] ⟨2, 120, List.forall_mem_cons.mpr ⟨m_X12_bad_1, fun _ h => absurd h List.not_mem_nil⟩, by decide, by decide, by decide⟩ ⟨2, 120, List.forall_mem_cons.mpr ⟨m_X12_isIn_2, fun _ h => absurd h List.not_mem_nil⟩, by decide, by decide, by decide⟩ ⟨2, 120, List.forall_mem_cons.mpr ⟨m_X12_bad_4, fun _ h => absurd h List.not_mem_nil⟩, by decide, by decide, by decide⟩ ⟨3, 141, List.forall_mem_cons.mpr ⟨m_X12_go_1, fun _ h => absurd h List.not_mem_nil⟩, by decide, by decide, by decide⟩) (by decide) (by decide +kernel)
set_option maxRecDepth 200000 in
set_option maxHeartbeats 4000000 in
def K_X12_put_19 : tb_K := ([.inr (.inl (some 1)), .inl (2, 0), .inl (3, 0)], [(1, (0, 13), .inl (4, 0))], [], [(0, 0), (1180591620717411303492, 1180591620717411303492), (36, 36), (0, 0), (-1, 999)], [(some (.inl (3, 0)), [(1, (0, 15), .inr (.inl (some 5))), (1, (0, 13), .inl (4, 0)), (5, (2, 0), .inl (6, 0))], [], [(0, 0), (1180591620717411303492, 1180591620717411303492), (36, 36), (0, 0), (-1, 999), (1180591620717411303495, 1180591620717411303495), (-2147483648, 2147483647)])], [])
set_option maxRecDepth 200000 in
set_option maxHeartbeats 4000000 in
def T_X12_put_19 : List (tb_S × tb_l) := []
set_option maxRecDepth 200000 in
set_option maxHeartbeats 4000000 in
theorem m_X12_put_19 {l : Launch} : tb_Met l vwCl sa_Ts tb_Z0 yX12_put cX12_put 3 (some .boolean) 2 120 K_X12_put_19 := tb_method (by decide) [15] (t_X12_put [] ) T_X12_put_19 [] 6000 (List.forall_mem_cons.mpr ⟨dX12_put_15, fun _ h => absurd h List.not_mem_nil⟩) (h_X12_put [] 2 120 (by decide) (by decide)  ) (by decide) (by decide +kernel)
set_option maxRecDepth 200000 in
set_option maxHeartbeats 4000000 in
def K_X12_put_20 : tb_K := ([.inr (.inl (some 1)), .inl (2, 0), .inl (3, 0)], [(1, (0, 13), .inl (4, 0))], [], [(0, 0), (1180591620717411303492, 1180591620717411303492), (36, 36), (1, 1), (0, 200)], [(some (.inl (3, 0)), [(1, (0, 15), .inr (.inl (some 5))), (1, (0, 13), .inl (4, 0)), (5, (2, 0), .inl (4, 0))], [], [(0, 0), (1180591620717411303492, 1180591620717411303492), (36, 36), (1, 1), (0, 200), (1180591620717411303495, 1180591620717411303495)])], [(71, 36, 36)])
set_option maxRecDepth 200000 in
set_option maxHeartbeats 4000000 in
def T_X12_put_20 : List (tb_S × tb_l) := []
set_option maxRecDepth 200000 in
set_option maxHeartbeats 4000000 in
theorem m_X12_put_20 {l : Launch} : tb_Met l vwCl sa_Ts tb_Z0 yX12_put cX12_put 3 (some .boolean) 2 120 K_X12_put_20 := tb_method (by decide) [15] (t_X12_put [(71, 36, 36)] ) T_X12_put_20 [] 6000 (List.forall_mem_cons.mpr ⟨dX12_put_15, fun _ h => absurd h List.not_mem_nil⟩) (h_X12_put [(71, 36, 36)] 2 120 (by decide) (by decide)  ) (by decide) (by decide +kernel)
set_option maxRecDepth 200000 in
set_option maxHeartbeats 4000000 in
def K_X12_put_21 : tb_K := ([.inr (.inl (some 1)), .inl (2, 0), .inl (3, 0)], [(1, (0, 13), .inl (4, 0))], [], [(0, 0), (1180591620717411303492, 1180591620717411303492), (35, 35), (0, 0), (-1, 999)], [(some (.inl (3, 0)), [(1, (0, 15), .inr (.inl (some 5))), (1, (0, 13), .inl (4, 0)), (5, (2, 0), .inl (6, 0))], [], [(0, 0), (1180591620717411303492, 1180591620717411303492), (35, 35), (0, 0), (-1, 999), (1180591620717411303495, 1180591620717411303495), (-2147483648, 2147483647)])], [])
set_option maxRecDepth 200000 in
set_option maxHeartbeats 4000000 in
def T_X12_put_21 : List (tb_S × tb_l) := []
set_option maxRecDepth 200000 in
set_option maxHeartbeats 4000000 in
theorem m_X12_put_21 {l : Launch} : tb_Met l vwCl sa_Ts tb_Z0 yX12_put cX12_put 3 (some .boolean) 2 120 K_X12_put_21 := tb_method (by decide) [15] (t_X12_put [] ) T_X12_put_21 [] 6000 (List.forall_mem_cons.mpr ⟨dX12_put_15, fun _ h => absurd h List.not_mem_nil⟩) (h_X12_put [] 2 120 (by decide) (by decide)  ) (by decide) (by decide +kernel)
set_option maxRecDepth 200000 in
set_option maxHeartbeats 4000000 in
def K_X12_put_22 : tb_K := ([.inr (.inl (some 1)), .inl (2, 0), .inl (3, 0)], [(1, (0, 13), .inl (4, 0))], [], [(0, 0), (1180591620717411303492, 1180591620717411303492), (35, 35), (1, 1), (0, 200)], [(some (.inl (3, 0)), [(1, (0, 15), .inr (.inl (some 5))), (1, (0, 13), .inl (4, 0)), (5, (2, 0), .inl (4, 0))], [], [(0, 0), (1180591620717411303492, 1180591620717411303492), (35, 35), (1, 1), (0, 200), (1180591620717411303495, 1180591620717411303495)])], [(71, 35, 35)])
set_option maxRecDepth 200000 in
set_option maxHeartbeats 4000000 in
def T_X12_put_22 : List (tb_S × tb_l) := []
set_option maxRecDepth 200000 in
set_option maxHeartbeats 4000000 in
theorem m_X12_put_22 {l : Launch} : tb_Met l vwCl sa_Ts tb_Z0 yX12_put cX12_put 3 (some .boolean) 2 120 K_X12_put_22 := tb_method (by decide) [15] (t_X12_put [(71, 35, 35)] ) T_X12_put_22 [] 6000 (List.forall_mem_cons.mpr ⟨dX12_put_15, fun _ h => absurd h List.not_mem_nil⟩) (h_X12_put [(71, 35, 35)] 2 120 (by decide) (by decide)  ) (by decide) (by decide +kernel)
set_option maxRecDepth 200000 in
set_option maxHeartbeats 4000000 in
def K_X12_put_23 : tb_K := ([.inr (.inl (some 1)), .inl (2, 0), .inl (3, 0)], [(1, (0, 13), .inl (4, 0))], [], [(0, 0), (1180591620717411303492, 1180591620717411303492), (34, 34), (0, 0), (-1, 999)], [(some (.inl (3, 0)), [(1, (0, 15), .inr (.inl (some 5))), (1, (0, 13), .inl (4, 0)), (5, (2, 0), .inl (6, 0))], [], [(0, 0), (1180591620717411303492, 1180591620717411303492), (34, 34), (0, 0), (-1, 999), (1180591620717411303495, 1180591620717411303495), (-2147483648, 2147483647)])], [])
set_option maxRecDepth 200000 in
set_option maxHeartbeats 4000000 in
def T_X12_put_23 : List (tb_S × tb_l) := []
set_option maxRecDepth 200000 in
set_option maxHeartbeats 4000000 in
theorem m_X12_put_23 {l : Launch} : tb_Met l vwCl sa_Ts tb_Z0 yX12_put cX12_put 3 (some .boolean) 2 120 K_X12_put_23 := tb_method (by decide) [15] (t_X12_put [] ) T_X12_put_23 [] 6000 (List.forall_mem_cons.mpr ⟨dX12_put_15, fun _ h => absurd h List.not_mem_nil⟩) (h_X12_put [] 2 120 (by decide) (by decide)  ) (by decide) (by decide +kernel)
set_option maxRecDepth 200000 in
set_option maxHeartbeats 4000000 in
def K_X12_put_24 : tb_K := ([.inr (.inl (some 1)), .inl (2, 0), .inl (3, 0)], [(1, (0, 13), .inl (4, 0))], [], [(0, 0), (1180591620717411303492, 1180591620717411303492), (34, 34), (1, 1), (0, 200)], [(some (.inl (3, 0)), [(1, (0, 15), .inr (.inl (some 5))), (1, (0, 13), .inl (4, 0)), (5, (2, 0), .inl (4, 0))], [], [(0, 0), (1180591620717411303492, 1180591620717411303492), (34, 34), (1, 1), (0, 200), (1180591620717411303495, 1180591620717411303495)])], [(71, 34, 34)])
set_option maxRecDepth 200000 in
set_option maxHeartbeats 4000000 in
def T_X12_put_24 : List (tb_S × tb_l) := []
set_option maxRecDepth 200000 in
set_option maxHeartbeats 4000000 in
theorem m_X12_put_24 {l : Launch} : tb_Met l vwCl sa_Ts tb_Z0 yX12_put cX12_put 3 (some .boolean) 2 120 K_X12_put_24 := tb_method (by decide) [15] (t_X12_put [(71, 34, 34)] ) T_X12_put_24 [] 6000 (List.forall_mem_cons.mpr ⟨dX12_put_15, fun _ h => absurd h List.not_mem_nil⟩) (h_X12_put [(71, 34, 34)] 2 120 (by decide) (by decide)  ) (by decide) (by decide +kernel)
set_option maxRecDepth 200000 in
set_option maxHeartbeats 4000000 in
def K_X12_put_25 : tb_K := ([.inr (.inl (some 1)), .inl (2, 0), .inl (3, 0)], [(1, (0, 13), .inl (4, 0))], [], [(0, 0), (1180591620717411303492, 1180591620717411303492), (33, 33), (0, 0), (-1, 999)], [(some (.inl (3, 0)), [(1, (0, 15), .inr (.inl (some 5))), (1, (0, 13), .inl (4, 0)), (5, (2, 0), .inl (6, 0))], [], [(0, 0), (1180591620717411303492, 1180591620717411303492), (33, 33), (0, 0), (-1, 999), (1180591620717411303495, 1180591620717411303495), (-2147483648, 2147483647)])], [])
set_option maxRecDepth 200000 in
set_option maxHeartbeats 4000000 in
def T_X12_put_25 : List (tb_S × tb_l) := []
set_option maxRecDepth 200000 in
set_option maxHeartbeats 4000000 in
theorem m_X12_put_25 {l : Launch} : tb_Met l vwCl sa_Ts tb_Z0 yX12_put cX12_put 3 (some .boolean) 2 120 K_X12_put_25 := tb_method (by decide) [15] (t_X12_put [] ) T_X12_put_25 [] 6000 (List.forall_mem_cons.mpr ⟨dX12_put_15, fun _ h => absurd h List.not_mem_nil⟩) (h_X12_put [] 2 120 (by decide) (by decide)  ) (by decide) (by decide +kernel)
set_option maxRecDepth 200000 in
set_option maxHeartbeats 4000000 in
def K_X12_put_26 : tb_K := ([.inr (.inl (some 1)), .inl (2, 0), .inl (3, 0)], [(1, (0, 13), .inl (4, 0))], [], [(0, 0), (1180591620717411303492, 1180591620717411303492), (33, 33), (1, 1), (0, 200)], [(some (.inl (3, 0)), [(1, (0, 15), .inr (.inl (some 5))), (1, (0, 13), .inl (4, 0)), (5, (2, 0), .inl (4, 0))], [], [(0, 0), (1180591620717411303492, 1180591620717411303492), (33, 33), (1, 1), (0, 200), (1180591620717411303495, 1180591620717411303495)])], [(71, 33, 33)])
set_option maxRecDepth 200000 in
set_option maxHeartbeats 4000000 in
def T_X12_put_26 : List (tb_S × tb_l) := []
set_option maxRecDepth 200000 in
set_option maxHeartbeats 4000000 in
theorem m_X12_put_26 {l : Launch} : tb_Met l vwCl sa_Ts tb_Z0 yX12_put cX12_put 3 (some .boolean) 2 120 K_X12_put_26 := tb_method (by decide) [15] (t_X12_put [(71, 33, 33)] ) T_X12_put_26 [] 6000 (List.forall_mem_cons.mpr ⟨dX12_put_15, fun _ h => absurd h List.not_mem_nil⟩) (h_X12_put [(71, 33, 33)] 2 120 (by decide) (by decide)  ) (by decide) (by decide +kernel)
set_option maxRecDepth 200000 in
set_option maxHeartbeats 4000000 in
def K_X12_put_27 : tb_K := ([.inr (.inl (some 1)), .inl (2, 0), .inl (3, 0)], [(1, (0, 13), .inl (4, 0))], [], [(0, 0), (1180591620717411303492, 1180591620717411303492), (32, 32), (0, 0), (-1, 999)], [(some (.inl (3, 0)), [(1, (0, 15), .inr (.inl (some 5))), (1, (0, 13), .inl (4, 0)), (5, (2, 0), .inl (6, 0))], [], [(0, 0), (1180591620717411303492, 1180591620717411303492), (32, 32), (0, 0), (-1, 999), (1180591620717411303495, 1180591620717411303495), (-2147483648, 2147483647)])], [])
set_option maxRecDepth 200000 in
set_option maxHeartbeats 4000000 in
def T_X12_put_27 : List (tb_S × tb_l) := []
set_option maxRecDepth 200000 in
set_option maxHeartbeats 4000000 in
theorem m_X12_put_27 {l : Launch} : tb_Met l vwCl sa_Ts tb_Z0 yX12_put cX12_put 3 (some .boolean) 2 120 K_X12_put_27 := tb_method (by decide) [15] (t_X12_put [] ) T_X12_put_27 [] 6000 (List.forall_mem_cons.mpr ⟨dX12_put_15, fun _ h => absurd h List.not_mem_nil⟩) (h_X12_put [] 2 120 (by decide) (by decide)  ) (by decide) (by decide +kernel)
set_option maxRecDepth 200000 in
set_option maxHeartbeats 4000000 in
def K_X12_put_28 : tb_K := ([.inr (.inl (some 1)), .inl (2, 0), .inl (3, 0)], [(1, (0, 13), .inl (4, 0))], [], [(0, 0), (1180591620717411303492, 1180591620717411303492), (32, 32), (1, 1), (0, 200)], [(some (.inl (3, 0)), [(1, (0, 15), .inr (.inl (some 5))), (1, (0, 13), .inl (4, 0)), (5, (2, 0), .inl (4, 0))], [], [(0, 0), (1180591620717411303492, 1180591620717411303492), (32, 32), (1, 1), (0, 200), (1180591620717411303495, 1180591620717411303495)])], [(71, 32, 32)])
set_option maxRecDepth 200000 in
set_option maxHeartbeats 4000000 in
def T_X12_put_28 : List (tb_S × tb_l) := []
set_option maxRecDepth 200000 in
set_option maxHeartbeats 4000000 in
theorem m_X12_put_28 {l : Launch} : tb_Met l vwCl sa_Ts tb_Z0 yX12_put cX12_put 3 (some .boolean) 2 120 K_X12_put_28 := tb_method (by decide) [15] (t_X12_put [(71, 32, 32)] ) T_X12_put_28 [] 6000 (List.forall_mem_cons.mpr ⟨dX12_put_15, fun _ h => absurd h List.not_mem_nil⟩) (h_X12_put [(71, 32, 32)] 2 120 (by decide) (by decide)  ) (by decide) (by decide +kernel)
set_option maxRecDepth 200000 in
set_option maxHeartbeats 4000000 in
def K_X12_put_29 : tb_K := ([.inr (.inl (some 1)), .inl (2, 0), .inl (3, 0)], [(1, (0, 13), .inl (4, 0))], [], [(0, 0), (1180591620717411303492, 1180591620717411303492), (31, 31), (0, 0), (-1, 999)], [(some (.inl (3, 0)), [(1, (0, 15), .inr (.inl (some 5))), (1, (0, 13), .inl (4, 0)), (5, (2, 0), .inl (6, 0))], [], [(0, 0), (1180591620717411303492, 1180591620717411303492), (31, 31), (0, 0), (-1, 999), (1180591620717411303495, 1180591620717411303495), (-2147483648, 2147483647)])], [])
set_option maxRecDepth 200000 in
set_option maxHeartbeats 4000000 in
def T_X12_put_29 : List (tb_S × tb_l) := []
set_option maxRecDepth 200000 in
set_option maxHeartbeats 4000000 in
theorem m_X12_put_29 {l : Launch} : tb_Met l vwCl sa_Ts tb_Z0 yX12_put cX12_put 3 (some .boolean) 2 120 K_X12_put_29 := tb_method (by decide) [15] (t_X12_put [] ) T_X12_put_29 [] 6000 (List.forall_mem_cons.mpr ⟨dX12_put_15, fun _ h => absurd h List.not_mem_nil⟩) (h_X12_put [] 2 120 (by decide) (by decide)  ) (by decide) (by decide +kernel)
set_option maxRecDepth 200000 in
set_option maxHeartbeats 4000000 in
def K_X12_put_30 : tb_K := ([.inr (.inl (some 1)), .inl (2, 0), .inl (3, 0)], [(1, (0, 13), .inl (4, 0))], [], [(0, 0), (1180591620717411303492, 1180591620717411303492), (31, 31), (1, 1), (0, 200)], [(some (.inl (3, 0)), [(1, (0, 15), .inr (.inl (some 5))), (1, (0, 13), .inl (4, 0)), (5, (2, 0), .inl (4, 0))], [], [(0, 0), (1180591620717411303492, 1180591620717411303492), (31, 31), (1, 1), (0, 200), (1180591620717411303495, 1180591620717411303495)])], [(71, 31, 31)])
set_option maxRecDepth 200000 in
set_option maxHeartbeats 4000000 in
def T_X12_put_30 : List (tb_S × tb_l) := []
set_option maxRecDepth 200000 in
set_option maxHeartbeats 4000000 in
theorem m_X12_put_30 {l : Launch} : tb_Met l vwCl sa_Ts tb_Z0 yX12_put cX12_put 3 (some .boolean) 2 120 K_X12_put_30 := tb_method (by decide) [15] (t_X12_put [(71, 31, 31)] ) T_X12_put_30 [] 6000 (List.forall_mem_cons.mpr ⟨dX12_put_15, fun _ h => absurd h List.not_mem_nil⟩) (h_X12_put [(71, 31, 31)] 2 120 (by decide) (by decide)  ) (by decide) (by decide +kernel)
set_option maxRecDepth 200000 in
set_option maxHeartbeats 4000000 in
def K_X12_put_31 : tb_K := ([.inr (.inl (some 1)), .inl (2, 0), .inl (3, 0)], [(1, (0, 13), .inl (4, 0))], [], [(0, 0), (1180591620717411303492, 1180591620717411303492), (30, 30), (0, 0), (-1, 999)], [(some (.inl (3, 0)), [(1, (0, 15), .inr (.inl (some 5))), (1, (0, 13), .inl (4, 0)), (5, (2, 0), .inl (6, 0))], [], [(0, 0), (1180591620717411303492, 1180591620717411303492), (30, 30), (0, 0), (-1, 999), (1180591620717411303495, 1180591620717411303495), (-2147483648, 2147483647)])], [])
set_option maxRecDepth 200000 in
set_option maxHeartbeats 4000000 in
def T_X12_put_31 : List (tb_S × tb_l) := []
set_option maxRecDepth 200000 in
set_option maxHeartbeats 4000000 in
theorem m_X12_put_31 {l : Launch} : tb_Met l vwCl sa_Ts tb_Z0 yX12_put cX12_put 3 (some .boolean) 2 120 K_X12_put_31 := tb_method (by decide) [15] (t_X12_put [] ) T_X12_put_31 [] 6000 (List.forall_mem_cons.mpr ⟨dX12_put_15, fun _ h => absurd h List.not_mem_nil⟩) (h_X12_put [] 2 120 (by decide) (by decide)  ) (by decide) (by decide +kernel)
set_option maxRecDepth 200000 in
set_option maxHeartbeats 4000000 in
def K_X12_put_32 : tb_K := ([.inr (.inl (some 1)), .inl (2, 0), .inl (3, 0)], [(1, (0, 13), .inl (4, 0))], [], [(0, 0), (1180591620717411303492, 1180591620717411303492), (30, 30), (1, 1), (0, 200)], [(some (.inl (3, 0)), [(1, (0, 15), .inr (.inl (some 5))), (1, (0, 13), .inl (4, 0)), (5, (2, 0), .inl (4, 0))], [], [(0, 0), (1180591620717411303492, 1180591620717411303492), (30, 30), (1, 1), (0, 200), (1180591620717411303495, 1180591620717411303495)])], [(71, 30, 30)])
set_option maxRecDepth 200000 in
set_option maxHeartbeats 4000000 in
def T_X12_put_32 : List (tb_S × tb_l) := []
set_option maxRecDepth 200000 in
set_option maxHeartbeats 4000000 in
theorem m_X12_put_32 {l : Launch} : tb_Met l vwCl sa_Ts tb_Z0 yX12_put cX12_put 3 (some .boolean) 2 120 K_X12_put_32 := tb_method (by decide) [15] (t_X12_put [(71, 30, 30)] ) T_X12_put_32 [] 6000 (List.forall_mem_cons.mpr ⟨dX12_put_15, fun _ h => absurd h List.not_mem_nil⟩) (h_X12_put [(71, 30, 30)] 2 120 (by decide) (by decide)  ) (by decide) (by decide +kernel)
set_option maxRecDepth 200000 in
set_option maxHeartbeats 4000000 in
def K_X12_put_33 : tb_K := ([.inr (.inl (some 1)), .inl (2, 0), .inl (3, 0)], [(1, (0, 13), .inl (4, 0))], [], [(0, 0), (1180591620717411303492, 1180591620717411303492), (29, 29), (0, 0), (-1, 999)], [(some (.inl (3, 0)), [(1, (0, 15), .inr (.inl (some 5))), (1, (0, 13), .inl (4, 0)), (5, (2, 0), .inl (6, 0))], [], [(0, 0), (1180591620717411303492, 1180591620717411303492), (29, 29), (0, 0), (-1, 999), (1180591620717411303495, 1180591620717411303495), (-2147483648, 2147483647)])], [])
set_option maxRecDepth 200000 in
set_option maxHeartbeats 4000000 in
def T_X12_put_33 : List (tb_S × tb_l) := []
set_option maxRecDepth 200000 in
set_option maxHeartbeats 4000000 in
theorem m_X12_put_33 {l : Launch} : tb_Met l vwCl sa_Ts tb_Z0 yX12_put cX12_put 3 (some .boolean) 2 120 K_X12_put_33 := tb_method (by decide) [15] (t_X12_put [] ) T_X12_put_33 [] 6000 (List.forall_mem_cons.mpr ⟨dX12_put_15, fun _ h => absurd h List.not_mem_nil⟩) (h_X12_put [] 2 120 (by decide) (by decide)  ) (by decide) (by decide +kernel)
set_option maxRecDepth 200000 in
set_option maxHeartbeats 4000000 in
def K_X12_put_34 : tb_K := ([.inr (.inl (some 1)), .inl (2, 0), .inl (3, 0)], [(1, (0, 13), .inl (4, 0))], [], [(0, 0), (1180591620717411303492, 1180591620717411303492), (29, 29), (1, 1), (0, 200)], [(some (.inl (3, 0)), [(1, (0, 15), .inr (.inl (some 5))), (1, (0, 13), .inl (4, 0)), (5, (2, 0), .inl (4, 0))], [], [(0, 0), (1180591620717411303492, 1180591620717411303492), (29, 29), (1, 1), (0, 200), (1180591620717411303495, 1180591620717411303495)])], [(71, 29, 29)])
set_option maxRecDepth 200000 in
set_option maxHeartbeats 4000000 in
def T_X12_put_34 : List (tb_S × tb_l) := []
set_option maxRecDepth 200000 in
set_option maxHeartbeats 4000000 in
theorem m_X12_put_34 {l : Launch} : tb_Met l vwCl sa_Ts tb_Z0 yX12_put cX12_put 3 (some .boolean) 2 120 K_X12_put_34 := tb_method (by decide) [15] (t_X12_put [(71, 29, 29)] ) T_X12_put_34 [] 6000 (List.forall_mem_cons.mpr ⟨dX12_put_15, fun _ h => absurd h List.not_mem_nil⟩) (h_X12_put [(71, 29, 29)] 2 120 (by decide) (by decide)  ) (by decide) (by decide +kernel)
set_option maxRecDepth 200000 in
set_option maxHeartbeats 4000000 in
def K_X12_isIn_3 : tb_K := ([.inl (1, 0), .inl (2, 0), .inl (3, 0)], [], [], [(0, 0), (-2147483648, 2147483647), (1, 1), (99, 99)], [(some (.inl (4, 0)), [], [], [(0, 0), (-2147483648, 2147483647), (1, 1), (99, 99), (0, 0)]), (some (.inl (4, 0)), [], [], [(0, 0), (1, 99), (1, 1), (99, 99), (1, 1)])], [])
set_option maxRecDepth 200000 in
set_option maxHeartbeats 4000000 in
def T_X12_isIn_3 : List (tb_S × tb_l) := []
set_option maxRecDepth 200000 in
set_option maxHeartbeats 4000000 in
theorem m_X12_isIn_3 {l : Launch} : tb_Met l vwCl sa_Ts tb_Z0 yX12_isIn cX12_isIn 3 (some .boolean) 2 120 K_X12_isIn_3 := tb_method (by decide) [15] (t_X12_isIn [] ) T_X12_isIn_3 [] 6000 (List.forall_mem_cons.mpr ⟨dX12_isIn_15, fun _ h => absurd h List.not_mem_nil⟩) (h_X12_isIn [] 2 120 (by decide) (by decide)  ) (by decide) (by decide +kernel)
set_option maxRecDepth 200000 in
set_option maxHeartbeats 4000000 in
def K_X12_readNumber_3 : tb_K := ([.inr (.inl (some 1)), .inl (2, 0), .inl (3, 0)], [], [], [(0, 0), (1180591620717411303492, 1180591620717411303492), (1, 1), (99, 99)], [(some (.inl (4, 0)), [(1, (0, 13), .inl (5, 0))], [], [(0, 0), (1180591620717411303492, 1180591620717411303492), (1, 1), (99, 99), (0, 0), (-1, 999)]), (some (.inl (4, 0)), [(1, (0, 13), .inl (5, 0))], [], [(0, 0), (1180591620717411303492, 1180591620717411303492), (1, 1), (99, 99), (1, 1), (1, 99)])], [(68, 5, 13)])
set_option maxRecDepth 200000 in
set_option maxHeartbeats 4000000 in
def T_X12_readNumber_3 : List (tb_S × tb_l) := []
set_option maxRecDepth 200000 in
set_option maxHeartbeats 4000000 in
theorem m_X12_readNumber_3 {l : Launch} : tb_Met l vwCl sa_Ts tb_Z0 yX12_readNumber cX12_readNumber 3 (some .boolean) 4 165 K_X12_readNumber_3 := tb_method (by decide) [13, 31, 45] (t_X12_readNumber [(68, 5, 13)] [K_X12_bad_1] [K_X12_isIn_3] [K_X12_bad_4] [K_X12_go_1]) T_X12_readNumber_3 [] 6000 (List.forall_mem_cons.mpr ⟨dX12_readNumber_13, List.forall_mem_cons.mpr ⟨dX12_readNumber_31, List.forall_mem_cons.mpr ⟨dX12_readNumber_45, fun _ h => absurd h List.not_mem_nil⟩⟩⟩) (h_X12_readNumber [(68, 5, 13)] 4 165 (by decide) (by decide) [K_X12_bad_1] [K_X12_isIn_3] [K_X12_bad_4] [K_X12_go_1] ⟨2, 120, List.forall_mem_cons.mpr ⟨m_X12_bad_1, fun _ h => absurd h List.not_mem_nil⟩, by decide, by decide, by decide⟩ ⟨2, 120, List.forall_mem_cons.mpr ⟨m_X12_isIn_3, fun _ h => absurd h List.not_mem_nil⟩, by decide, by decide, by decide⟩ ⟨2, 120, List.forall_mem_cons.mpr ⟨m_X12_bad_4, fun _ h => absurd h List.not_mem_nil⟩, by decide, by decide, by decide⟩ ⟨3, 141, List.forall_mem_cons.mpr ⟨m_X12_go_1, fun _ h => absurd h List.not_mem_nil⟩, by decide, by decide, by decide⟩) (by decide) (by decide +kernel)
set_option maxRecDepth 200000 in
set_option maxHeartbeats 4000000 in
def K_X12_put_35 : tb_K := ([.inr (.inl (some 1)), .inl (2, 0), .inl (3, 0)], [(1, (0, 13), .inl (4, 0))], [], [(0, 0), (1180591620717411303492, 1180591620717411303492), (44, 44), (0, 0), (-1, 999)], [(some (.inl (3, 0)), [(1, (0, 15), .inr (.inl (some 5))), (1, (0, 13), .inl (4, 0)), (5, (2, 0), .inl (6, 0))], [], [(0, 0), (1180591620717411303492, 1180591620717411303492), (44, 44), (0, 0), (-1, 999), (1180591620717411303495, 1180591620717411303495), (0, 99)])], [])
set_option maxRecDepth 200000 in
set_option maxHeartbeats 4000000 in
def T_X12_put_35 : List (tb_S × tb_l) := []
set_option maxRecDepth 200000 in
set_option maxHeartbeats 4000000 in
theorem m_X12_put_35 {l : Launch} : tb_Met l vwCl sa_Ts tb_Z0 yX12_put cX12_put 3 (some .boolean) 2 120 K_X12_put_35 := tb_method (by decide) [15] (t_X12_put [] ) T_X12_put_35 [] 6000 (List.forall_mem_cons.mpr ⟨dX12_put_15, fun _ h => absurd h List.not_mem_nil⟩) (h_X12_put [] 2 120 (by decide) (by decide)  ) (by decide) (by decide +kernel)
set_option maxRecDepth 200000 in
set_option maxHeartbeats 4000000 in
def K_X12_put_36 : tb_K := ([.inr (.inl (some 1)), .inl (2, 0), .inl (3, 0)], [(1, (0, 13), .inl (4, 0))], [], [(0, 0), (1180591620717411303492, 1180591620717411303492), (44, 44), (1, 1), (1, 99)], [(some (.inl (3, 0)), [(1, (0, 15), .inr (.inl (some 5))), (1, (0, 13), .inl (4, 0)), (5, (2, 0), .inl (4, 0))], [], [(0, 0), (1180591620717411303492, 1180591620717411303492), (44, 44), (1, 1), (1, 99), (1180591620717411303495, 1180591620717411303495)])], [(71, 44, 44)])
set_option maxRecDepth 200000 in
set_option maxHeartbeats 4000000 in
def T_X12_put_36 : List (tb_S × tb_l) := []
set_option maxRecDepth 200000 in
set_option maxHeartbeats 4000000 in
theorem m_X12_put_36 {l : Launch} : tb_Met l vwCl sa_Ts tb_Z0 yX12_put cX12_put 3 (some .boolean) 2 120 K_X12_put_36 := tb_method (by decide) [15] (t_X12_put [(71, 44, 44)] ) T_X12_put_36 [] 6000 (List.forall_mem_cons.mpr ⟨dX12_put_15, fun _ h => absurd h List.not_mem_nil⟩) (h_X12_put [(71, 44, 44)] 2 120 (by decide) (by decide)  ) (by decide) (by decide +kernel)
set_option maxRecDepth 200000 in
set_option maxHeartbeats 4000000 in
def K_X12_put_37 : tb_K := ([.inr (.inl (some 1)), .inl (2, 0), .inl (3, 0)], [(1, (0, 13), .inl (4, 0))], [], [(0, 0), (1180591620717411303492, 1180591620717411303492), (43, 43), (0, 0), (-1, 999)], [(some (.inl (3, 0)), [(1, (0, 15), .inr (.inl (some 5))), (1, (0, 13), .inl (4, 0)), (5, (2, 0), .inl (6, 0))], [], [(0, 0), (1180591620717411303492, 1180591620717411303492), (43, 43), (0, 0), (-1, 999), (1180591620717411303495, 1180591620717411303495), (0, 99)])], [])
set_option maxRecDepth 200000 in
set_option maxHeartbeats 4000000 in
def T_X12_put_37 : List (tb_S × tb_l) := []
set_option maxRecDepth 200000 in
set_option maxHeartbeats 4000000 in
theorem m_X12_put_37 {l : Launch} : tb_Met l vwCl sa_Ts tb_Z0 yX12_put cX12_put 3 (some .boolean) 2 120 K_X12_put_37 := tb_method (by decide) [15] (t_X12_put [] ) T_X12_put_37 [] 6000 (List.forall_mem_cons.mpr ⟨dX12_put_15, fun _ h => absurd h List.not_mem_nil⟩) (h_X12_put [] 2 120 (by decide) (by decide)  ) (by decide) (by decide +kernel)
set_option maxRecDepth 200000 in
set_option maxHeartbeats 4000000 in
def K_X12_put_38 : tb_K := ([.inr (.inl (some 1)), .inl (2, 0), .inl (3, 0)], [(1, (0, 13), .inl (4, 0))], [], [(0, 0), (1180591620717411303492, 1180591620717411303492), (43, 43), (1, 1), (1, 99)], [(some (.inl (3, 0)), [(1, (0, 15), .inr (.inl (some 5))), (1, (0, 13), .inl (4, 0)), (5, (2, 0), .inl (4, 0))], [], [(0, 0), (1180591620717411303492, 1180591620717411303492), (43, 43), (1, 1), (1, 99), (1180591620717411303495, 1180591620717411303495)])], [(71, 43, 43)])
set_option maxRecDepth 200000 in
set_option maxHeartbeats 4000000 in
def T_X12_put_38 : List (tb_S × tb_l) := []
set_option maxRecDepth 200000 in
set_option maxHeartbeats 4000000 in
theorem m_X12_put_38 {l : Launch} : tb_Met l vwCl sa_Ts tb_Z0 yX12_put cX12_put 3 (some .boolean) 2 120 K_X12_put_38 := tb_method (by decide) [15] (t_X12_put [(71, 43, 43)] ) T_X12_put_38 [] 6000 (List.forall_mem_cons.mpr ⟨dX12_put_15, fun _ h => absurd h List.not_mem_nil⟩) (h_X12_put [(71, 43, 43)] 2 120 (by decide) (by decide)  ) (by decide) (by decide +kernel)
set_option maxRecDepth 200000 in
set_option maxHeartbeats 4000000 in
def K_X12_put_39 : tb_K := ([.inr (.inl (some 1)), .inl (2, 0), .inl (3, 0)], [(1, (0, 13), .inl (4, 0))], [], [(0, 0), (1180591620717411303492, 1180591620717411303492), (42, 42), (0, 0), (-1, 999)], [(some (.inl (3, 0)), [(1, (0, 15), .inr (.inl (some 5))), (1, (0, 13), .inl (4, 0)), (5, (2, 0), .inl (6, 0))], [], [(0, 0), (1180591620717411303492, 1180591620717411303492), (42, 42), (0, 0), (-1, 999), (1180591620717411303495, 1180591620717411303495), (0, 99)])], [])
set_option maxRecDepth 200000 in
set_option maxHeartbeats 4000000 in
def T_X12_put_39 : List (tb_S × tb_l) := []
set_option maxRecDepth 200000 in
set_option maxHeartbeats 4000000 in
theorem m_X12_put_39 {l : Launch} : tb_Met l vwCl sa_Ts tb_Z0 yX12_put cX12_put 3 (some .boolean) 2 120 K_X12_put_39 := tb_method (by decide) [15] (t_X12_put [] ) T_X12_put_39 [] 6000 (List.forall_mem_cons.mpr ⟨dX12_put_15, fun _ h => absurd h List.not_mem_nil⟩) (h_X12_put [] 2 120 (by decide) (by decide)  ) (by decide) (by decide +kernel)
set_option maxRecDepth 200000 in
set_option maxHeartbeats 4000000 in
def K_X12_put_40 : tb_K := ([.inr (.inl (some 1)), .inl (2, 0), .inl (3, 0)], [(1, (0, 13), .inl (4, 0))], [], [(0, 0), (1180591620717411303492, 1180591620717411303492), (42, 42), (1, 1), (1, 99)], [(some (.inl (3, 0)), [(1, (0, 15), .inr (.inl (some 5))), (1, (0, 13), .inl (4, 0)), (5, (2, 0), .inl (4, 0))], [], [(0, 0), (1180591620717411303492, 1180591620717411303492), (42, 42), (1, 1), (1, 99), (1180591620717411303495, 1180591620717411303495)])], [(71, 42, 42)])
set_option maxRecDepth 200000 in
set_option maxHeartbeats 4000000 in
def T_X12_put_40 : List (tb_S × tb_l) := []
set_option maxRecDepth 200000 in
set_option maxHeartbeats 4000000 in
theorem m_X12_put_40 {l : Launch} : tb_Met l vwCl sa_Ts tb_Z0 yX12_put cX12_put 3 (some .boolean) 2 120 K_X12_put_40 := tb_method (by decide) [15] (t_X12_put [(71, 42, 42)] ) T_X12_put_40 [] 6000 (List.forall_mem_cons.mpr ⟨dX12_put_15, fun _ h => absurd h List.not_mem_nil⟩) (h_X12_put [(71, 42, 42)] 2 120 (by decide) (by decide)  ) (by decide) (by decide +kernel)
set_option maxRecDepth 200000 in
set_option maxHeartbeats 4000000 in
def K_X12_put_41 : tb_K := ([.inr (.inl (some 1)), .inl (2, 0), .inl (3, 0)], [(1, (0, 13), .inl (4, 0))], [], [(0, 0), (1180591620717411303492, 1180591620717411303492), (41, 41), (0, 0), (-1, 999)], [(some (.inl (3, 0)), [(1, (0, 15), .inr (.inl (some 5))), (1, (0, 13), .inl (4, 0)), (5, (2, 0), .inl (6, 0))], [], [(0, 0), (1180591620717411303492, 1180591620717411303492), (41, 41), (0, 0), (-1, 999), (1180591620717411303495, 1180591620717411303495), (0, 99)])], [])
set_option maxRecDepth 200000 in
set_option maxHeartbeats 4000000 in
def T_X12_put_41 : List (tb_S × tb_l) := []
set_option maxRecDepth 200000 in
set_option maxHeartbeats 4000000 in
theorem m_X12_put_41 {l : Launch} : tb_Met l vwCl sa_Ts tb_Z0 yX12_put cX12_put 3 (some .boolean) 2 120 K_X12_put_41 := tb_method (by decide) [15] (t_X12_put [] ) T_X12_put_41 [] 6000 (List.forall_mem_cons.mpr ⟨dX12_put_15, fun _ h => absurd h List.not_mem_nil⟩) (h_X12_put [] 2 120 (by decide) (by decide)  ) (by decide) (by decide +kernel)
set_option maxRecDepth 200000 in
set_option maxHeartbeats 4000000 in
def K_X12_put_42 : tb_K := ([.inr (.inl (some 1)), .inl (2, 0), .inl (3, 0)], [(1, (0, 13), .inl (4, 0))], [], [(0, 0), (1180591620717411303492, 1180591620717411303492), (41, 41), (1, 1), (1, 99)], [(some (.inl (3, 0)), [(1, (0, 15), .inr (.inl (some 5))), (1, (0, 13), .inl (4, 0)), (5, (2, 0), .inl (4, 0))], [], [(0, 0), (1180591620717411303492, 1180591620717411303492), (41, 41), (1, 1), (1, 99), (1180591620717411303495, 1180591620717411303495)])], [(71, 41, 41)])
set_option maxRecDepth 200000 in
set_option maxHeartbeats 4000000 in
def T_X12_put_42 : List (tb_S × tb_l) := []
set_option maxRecDepth 200000 in
set_option maxHeartbeats 4000000 in
theorem m_X12_put_42 {l : Launch} : tb_Met l vwCl sa_Ts tb_Z0 yX12_put cX12_put 3 (some .boolean) 2 120 K_X12_put_42 := tb_method (by decide) [15] (t_X12_put [(71, 41, 41)] ) T_X12_put_42 [] 6000 (List.forall_mem_cons.mpr ⟨dX12_put_15, fun _ h => absurd h List.not_mem_nil⟩) (h_X12_put [(71, 41, 41)] 2 120 (by decide) (by decide)  ) (by decide) (by decide +kernel)
set_option maxRecDepth 200000 in
set_option maxHeartbeats 4000000 in
def K_X12_put_43 : tb_K := ([.inr (.inl (some 1)), .inl (2, 0), .inl (3, 0)], [(1, (0, 13), .inl (4, 0))], [], [(0, 0), (1180591620717411303492, 1180591620717411303492), (40, 40), (0, 0), (-1, 999)], [(some (.inl (3, 0)), [(1, (0, 15), .inr (.inl (some 5))), (1, (0, 13), .inl (4, 0)), (5, (2, 0), .inl (6, 0))], [], [(0, 0), (1180591620717411303492, 1180591620717411303492), (40, 40), (0, 0), (-1, 999), (1180591620717411303495, 1180591620717411303495), (0, 99)])], [])
set_option maxRecDepth 200000 in
set_option maxHeartbeats 4000000 in
def T_X12_put_43 : List (tb_S × tb_l) := []
set_option maxRecDepth 200000 in
set_option maxHeartbeats 4000000 in
theorem m_X12_put_43 {l : Launch} : tb_Met l vwCl sa_Ts tb_Z0 yX12_put cX12_put 3 (some .boolean) 2 120 K_X12_put_43 := tb_method (by decide) [15] (t_X12_put [] ) T_X12_put_43 [] 6000 (List.forall_mem_cons.mpr ⟨dX12_put_15, fun _ h => absurd h List.not_mem_nil⟩) (h_X12_put [] 2 120 (by decide) (by decide)  ) (by decide) (by decide +kernel)
set_option maxRecDepth 200000 in
set_option maxHeartbeats 4000000 in
def K_X12_put_44 : tb_K := ([.inr (.inl (some 1)), .inl (2, 0), .inl (3, 0)], [(1, (0, 13), .inl (4, 0))], [], [(0, 0), (1180591620717411303492, 1180591620717411303492), (40, 40), (1, 1), (1, 99)], [(some (.inl (3, 0)), [(1, (0, 15), .inr (.inl (some 5))), (1, (0, 13), .inl (4, 0)), (5, (2, 0), .inl (4, 0))], [], [(0, 0), (1180591620717411303492, 1180591620717411303492), (40, 40), (1, 1), (1, 99), (1180591620717411303495, 1180591620717411303495)])], [(71, 40, 40)])
set_option maxRecDepth 200000 in
set_option maxHeartbeats 4000000 in
def T_X12_put_44 : List (tb_S × tb_l) := []
set_option maxRecDepth 200000 in
set_option maxHeartbeats 4000000 in
theorem m_X12_put_44 {l : Launch} : tb_Met l vwCl sa_Ts tb_Z0 yX12_put cX12_put 3 (some .boolean) 2 120 K_X12_put_44 := tb_method (by decide) [15] (t_X12_put [(71, 40, 40)] ) T_X12_put_44 [] 6000 (List.forall_mem_cons.mpr ⟨dX12_put_15, fun _ h => absurd h List.not_mem_nil⟩) (h_X12_put [(71, 40, 40)] 2 120 (by decide) (by decide)  ) (by decide) (by decide +kernel)
set_option maxRecDepth 200000 in
set_option maxHeartbeats 4000000 in
def K_X12_put_45 : tb_K := ([.inr (.inl (some 1)), .inl (2, 0), .inl (3, 0)], [(1, (0, 13), .inl (4, 0))], [], [(0, 0), (1180591620717411303492, 1180591620717411303492), (39, 39), (0, 0), (-1, 999)], [(some (.inl (3, 0)), [(1, (0, 15), .inr (.inl (some 5))), (1, (0, 13), .inl (4, 0)), (5, (2, 0), .inl (6, 0))], [], [(0, 0), (1180591620717411303492, 1180591620717411303492), (39, 39), (0, 0), (-1, 999), (1180591620717411303495, 1180591620717411303495), (0, 99)])], [])
set_option maxRecDepth 200000 in
set_option maxHeartbeats 4000000 in
def T_X12_put_45 : List (tb_S × tb_l) := []
set_option maxRecDepth 200000 in
set_option maxHeartbeats 4000000 in
theorem m_X12_put_45 {l : Launch} : tb_Met l vwCl sa_Ts tb_Z0 yX12_put cX12_put 3 (some .boolean) 2 120 K_X12_put_45 := tb_method (by decide) [15] (t_X12_put [] ) T_X12_put_45 [] 6000 (List.forall_mem_cons.mpr ⟨dX12_put_15, fun _ h => absurd h List.not_mem_nil⟩) (h_X12_put [] 2 120 (by decide) (by decide)  ) (by decide) (by decide +kernel)
set_option maxRecDepth 200000 in
set_option maxHeartbeats 4000000 in
def K_X12_put_46 : tb_K := ([.inr (.inl (some 1)), .inl (2, 0), .inl (3, 0)], [(1, (0, 13), .inl (4, 0))], [], [(0, 0), (1180591620717411303492, 1180591620717411303492), (39, 39), (1, 1), (1, 99)], [(some (.inl (3, 0)), [(1, (0, 15), .inr (.inl (some 5))), (1, (0, 13), .inl (4, 0)), (5, (2, 0), .inl (4, 0))], [], [(0, 0), (1180591620717411303492, 1180591620717411303492), (39, 39), (1, 1), (1, 99), (1180591620717411303495, 1180591620717411303495)])], [(71, 39, 39)])
set_option maxRecDepth 200000 in
set_option maxHeartbeats 4000000 in
def T_X12_put_46 : List (tb_S × tb_l) := []
set_option maxRecDepth 200000 in
set_option maxHeartbeats 4000000 in
theorem m_X12_put_46 {l : Launch} : tb_Met l vwCl sa_Ts tb_Z0 yX12_put cX12_put 3 (some .boolean) 2 120 K_X12_put_46 := tb_method (by decide) [15] (t_X12_put [(71, 39, 39)] ) T_X12_put_46 [] 6000 (List.forall_mem_cons.mpr ⟨dX12_put_15, fun _ h => absurd h List.not_mem_nil⟩) (h_X12_put [(71, 39, 39)] 2 120 (by decide) (by decide)  ) (by decide) (by decide +kernel)
set_option maxRecDepth 200000 in
set_option maxHeartbeats 4000000 in
def K_X12_put_47 : tb_K := ([.inr (.inl (some 1)), .inl (2, 0), .inl (3, 0)], [(1, (0, 13), .inl (4, 0))], [], [(0, 0), (1180591620717411303492, 1180591620717411303492), (38, 38), (0, 0), (-1, 999)], [(some (.inl (3, 0)), [(1, (0, 15), .inr (.inl (some 5))), (1, (0, 13), .inl (4, 0)), (5, (2, 0), .inl (6, 0))], [], [(0, 0), (1180591620717411303492, 1180591620717411303492), (38, 38), (0, 0), (-1, 999), (1180591620717411303495, 1180591620717411303495), (0, 99)])], [])
set_option maxRecDepth 200000 in
set_option maxHeartbeats 4000000 in
def T_X12_put_47 : List (tb_S × tb_l) := []
set_option maxRecDepth 200000 in
set_option maxHeartbeats 4000000 in
theorem m_X12_put_47 {l : Launch} : tb_Met l vwCl sa_Ts tb_Z0 yX12_put cX12_put 3 (some .boolean) 2 120 K_X12_put_47 := tb_method (by decide) [15] (t_X12_put [] ) T_X12_put_47 [] 6000 (List.forall_mem_cons.mpr ⟨dX12_put_15, fun _ h => absurd h List.not_mem_nil⟩) (h_X12_put [] 2 120 (by decide) (by decide)  ) (by decide) (by decide +kernel)
set_option maxRecDepth 200000 in
set_option maxHeartbeats 4000000 in
def K_X12_put_48 : tb_K := ([.inr (.inl (some 1)), .inl (2, 0), .inl (3, 0)], [(1, (0, 13), .inl (4, 0))], [], [(0, 0), (1180591620717411303492, 1180591620717411303492), (38, 38), (1, 1), (1, 99)], [(some (.inl (3, 0)), [(1, (0, 15), .inr (.inl (some 5))), (1, (0, 13), .inl (4, 0)), (5, (2, 0), .inl (4, 0))], [], [(0, 0), (1180591620717411303492, 1180591620717411303492), (38, 38), (1, 1), (1, 99), (1180591620717411303495, 1180591620717411303495)])], [(71, 38, 38)])
set_option maxRecDepth 200000 in
set_option maxHeartbeats 4000000 in
def T_X12_put_48 : List (tb_S × tb_l) := []
set_option maxRecDepth 200000 in
set_option maxHeartbeats 4000000 in
theorem m_X12_put_48 {l : Launch} : tb_Met l vwCl sa_Ts tb_Z0 yX12_put cX12_put 3 (some .boolean) 2 120 K_X12_put_48 := tb_method (by decide) [15] (t_X12_put [(71, 38, 38)] ) T_X12_put_48 [] 6000 (List.forall_mem_cons.mpr ⟨dX12_put_15, fun _ h => absurd h List.not_mem_nil⟩) (h_X12_put [(71, 38, 38)] 2 120 (by decide) (by decide)  ) (by decide) (by decide +kernel)
set_option maxRecDepth 200000 in
set_option maxHeartbeats 4000000 in
def K_X12_put_49 : tb_K := ([.inr (.inl (some 1)), .inl (2, 0), .inl (3, 0)], [(1, (0, 13), .inl (4, 0))], [], [(0, 0), (1180591620717411303492, 1180591620717411303492), (37, 37), (0, 0), (-1, 999)], [(some (.inl (3, 0)), [(1, (0, 15), .inr (.inl (some 5))), (1, (0, 13), .inl (4, 0)), (5, (2, 0), .inl (6, 0))], [], [(0, 0), (1180591620717411303492, 1180591620717411303492), (37, 37), (0, 0), (-1, 999), (1180591620717411303495, 1180591620717411303495), (0, 99)])], [])
set_option maxRecDepth 200000 in
set_option maxHeartbeats 4000000 in
def T_X12_put_49 : List (tb_S × tb_l) := []
set_option maxRecDepth 200000 in
set_option maxHeartbeats 4000000 in
theorem m_X12_put_49 {l : Launch} : tb_Met l vwCl sa_Ts tb_Z0 yX12_put cX12_put 3 (some .boolean) 2 120 K_X12_put_49 := tb_method (by decide) [15] (t_X12_put [] ) T_X12_put_49 [] 6000 (List.forall_mem_cons.mpr ⟨dX12_put_15, fun _ h => absurd h List.not_mem_nil⟩) (h_X12_put [] 2 120 (by decide) (by decide)  ) (by decide) (by decide +kernel)
set_option maxRecDepth 200000 in
set_option maxHeartbeats 4000000 in
def K_X12_put_50 : tb_K := ([.inr (.inl (some 1)), .inl (2, 0), .inl (3, 0)], [(1, (0, 13), .inl (4, 0))], [], [(0, 0), (1180591620717411303492, 1180591620717411303492), (37, 37), (1, 1), (1, 99)], [(some (.inl (3, 0)), [(1, (0, 15), .inr (.inl (some 5))), (1, (0, 13), .inl (4, 0)), (5, (2, 0), .inl (4, 0))], [], [(0, 0), (1180591620717411303492, 1180591620717411303492), (37, 37), (1, 1), (1, 99), (1180591620717411303495, 1180591620717411303495)])], [(71, 37, 37)])
set_option maxRecDepth 200000 in
set_option maxHeartbeats 4000000 in
def T_X12_put_50 : List (tb_S × tb_l) := []
set_option maxRecDepth 200000 in
set_option maxHeartbeats 4000000 in
theorem m_X12_put_50 {l : Launch} : tb_Met l vwCl sa_Ts tb_Z0 yX12_put cX12_put 3 (some .boolean) 2 120 K_X12_put_50 := tb_method (by decide) [15] (t_X12_put [(71, 37, 37)] ) T_X12_put_50 [] 6000 (List.forall_mem_cons.mpr ⟨dX12_put_15, fun _ h => absurd h List.not_mem_nil⟩) (h_X12_put [(71, 37, 37)] 2 120 (by decide) (by decide)  ) (by decide) (by decide +kernel)
set_option maxRecDepth 200000 in
set_option maxHeartbeats 4000000 in
def K_X12_isIn_4 : tb_K := ([.inl (1, 0), .inl (2, 0), .inl (3, 0)], [], [], [(0, 0), (-2147483648, 2147483647), (1, 1), (15, 15)], [(some (.inl (4, 0)), [], [], [(0, 0), (-2147483648, 2147483647), (1, 1), (15, 15), (0, 0)]), (some (.inl (4, 0)), [], [], [(0, 0), (1, 15), (1, 1), (15, 15), (1, 1)])], [])
set_option maxRecDepth 200000 in
set_option maxHeartbeats 4000000 in
def T_X12_isIn_4 : List (tb_S × tb_l) := []
set_option maxRecDepth 200000 in
set_option maxHeartbeats 4000000 in
theorem m_X12_isIn_4 {l : Launch} : tb_Met l vwCl sa_Ts tb_Z0 yX12_isIn cX12_isIn 3 (some .boolean) 2 120 K_X12_isIn_4 := tb_method (by decide) [15] (t_X12_isIn [] ) T_X12_isIn_4 [] 6000 (List.forall_mem_cons.mpr ⟨dX12_isIn_15, fun _ h => absurd h List.not_mem_nil⟩) (h_X12_isIn [] 2 120 (by decide) (by decide)  ) (by decide) (by decide +kernel)
