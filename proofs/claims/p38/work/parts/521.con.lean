set_option maxRecDepth 200000 in
set_option maxHeartbeats 4000000 in
def K_X12_writeWord_12 : tb_K := ([.inr (.inl (some 1)), .inr (.inr 2)], [(1, (0, 35), .inl (3, 0))], [], [(0, 0), (1180591620717411303424, 1180591620717411303424), (-12652087842050446, 12652087842050446), (0, 0)], [(none, [(1, (0, 35), .inl (4, 0))], [], [(0, 0), (1180591620717411303424, 1180591620717411303424), (-12652087842050446, 12652087842050446), (0, 0), (1, 12)])], [(0, 35, 35), (85, 0, 11)])
set_option maxRecDepth 200000 in
set_option maxHeartbeats 4000000 in
def T_X12_writeWord_12 : List (tb_S × tb_l) := []
set_option maxRecDepth 200000 in
set_option maxHeartbeats 4000000 in
theorem m_X12_writeWord_12 {l : Launch} : tb_Met l vwCl sa_Ts tb_Z0 yX12_writeWord cX12_writeWord 3 none 14 383 K_X12_writeWord_12 := tb_method (by decide) [30] (t_X12_writeWord [(0, 35, 35), (85, 0, 11)] [K_X12_writeWord_11] [K_X12_write_1, K_X12_write_4]) T_X12_writeWord_12 [] 6000 (List.forall_mem_cons.mpr ⟨dX12_writeWord_30, fun _ h => absurd h List.not_mem_nil⟩) (h_X12_writeWord [(0, 35, 35), (85, 0, 11)] 14 383 (by decide) (by decide) [K_X12_writeWord_11] [K_X12_write_1, K_X12_write_4] ⟨13, 361, List.forall_mem_cons.mpr ⟨m_X12_writeWord_11, fun _ h => absurd h List.not_mem_nil⟩, by decide, by decide, by decide⟩ ⟨2, 120, List.forall_mem_cons.mpr ⟨m_X12_write_1, List.forall_mem_cons.mpr ⟨m_X12_write_4, fun _ h => absurd h List.not_mem_nil⟩⟩, by decide, by decide, by decide⟩) (by decide) (by decide +kernel)
set_option maxRecDepth 200000 in
set_option maxHeartbeats 4000000 in
def K_X12_writeWord_13 : tb_K := ([.inr (.inl (some 1)), .inr (.inr 2)], [(1, (0, 35), .inl (3, 0))], [], [(0, 0), (1180591620717411303424, 1180591620717411303424), (-341606371735362066, 341606371735362066), (0, 0)], [(none, [(1, (0, 35), .inl (4, 0))], [], [(0, 0), (1180591620717411303424, 1180591620717411303424), (-341606371735362066, 341606371735362066), (0, 0), (1, 13)])], [(0, 35, 35), (85, 0, 12)])
set_option maxRecDepth 200000 in
set_option maxHeartbeats 4000000 in
def T_X12_writeWord_13 : List (tb_S × tb_l) := []
set_option maxRecDepth 200000 in
set_option maxHeartbeats 4000000 in
theorem m_X12_writeWord_13 {l : Launch} : tb_Met l vwCl sa_Ts tb_Z0 yX12_writeWord cX12_writeWord 3 none 15 405 K_X12_writeWord_13 := tb_method (by decide) [30] (t_X12_writeWord [(0, 35, 35), (85, 0, 12)] [K_X12_writeWord_12] [K_X12_write_1, K_X12_write_3]) T_X12_writeWord_13 [] 6000 (List.forall_mem_cons.mpr ⟨dX12_writeWord_30, fun _ h => absurd h List.not_mem_nil⟩) (h_X12_writeWord [(0, 35, 35), (85, 0, 12)] 15 405 (by decide) (by decide) [K_X12_writeWord_12] [K_X12_write_1, K_X12_write_3] ⟨14, 383, List.forall_mem_cons.mpr ⟨m_X12_writeWord_12, fun _ h => absurd h List.not_mem_nil⟩, by decide, by decide, by decide⟩ ⟨2, 120, List.forall_mem_cons.mpr ⟨m_X12_write_1, List.forall_mem_cons.mpr ⟨m_X12_write_3, fun _ h => absurd h List.not_mem_nil⟩⟩, by decide, by decide, by decide⟩) (by decide) (by decide +kernel)
set_option maxRecDepth 200000 in
set_option maxHeartbeats 4000000 in
def K_X12_writeWord_14 : tb_K := ([.inr (.inl (some 1)), .inr (.inr 2)], [(1, (0, 35), .inl (3, 0))], [], [(0, 0), (1180591620717411303424, 1180591620717411303424), (-9223372036854775808, 9223372036854775807), (0, 0)], [(none, [(1, (0, 35), .inl (4, 0))], [], [(0, 0), (1180591620717411303424, 1180591620717411303424), (-9223372036854775808, 9223372036854775807), (0, 0), (1, 14)])], [(0, 35, 35), (85, 0, 13)])
set_option maxRecDepth 200000 in
set_option maxHeartbeats 4000000 in
def T_X12_writeWord_14 : List (tb_S × tb_l) := []
set_option maxRecDepth 200000 in
set_option maxHeartbeats 4000000 in
theorem m_X12_writeWord_14 {l : Launch} : tb_Met l vwCl sa_Ts tb_Z0 yX12_writeWord cX12_writeWord 3 none 16 427 K_X12_writeWord_14 := tb_method (by decide) [30] (t_X12_writeWord [(0, 35, 35), (85, 0, 13)] [K_X12_writeWord_13] [K_X12_write_1, K_X12_write_2]) T_X12_writeWord_14 [] 6000 (List.forall_mem_cons.mpr ⟨dX12_writeWord_30, fun _ h => absurd h List.not_mem_nil⟩) (h_X12_writeWord [(0, 35, 35), (85, 0, 13)] 16 427 (by decide) (by decide) [K_X12_writeWord_13] [K_X12_write_1, K_X12_write_2] ⟨15, 405, List.forall_mem_cons.mpr ⟨m_X12_writeWord_13, fun _ h => absurd h List.not_mem_nil⟩, by decide, by decide, by decide⟩ ⟨2, 120, List.forall_mem_cons.mpr ⟨m_X12_write_1, List.forall_mem_cons.mpr ⟨m_X12_write_2, fun _ h => absurd h List.not_mem_nil⟩⟩, by decide, by decide, by decide⟩) (by decide) (by decide +kernel)
set_option maxRecDepth 200000 in
set_option maxHeartbeats 4000000 in
def K_X12_wordOf_3 : tb_K := ([.inl (1, 0)], [], [], [(0, 0), (15, 15)], [(some (.inr (.inr 2)), [], [], [(0, 0), (15, 15), (5878, 5878)])], [])
set_option maxRecDepth 200000 in
set_option maxHeartbeats 4000000 in
def T_X12_wordOf_3 : List (tb_S × tb_l) := []
set_option maxRecDepth 200000 in
set_option maxHeartbeats 4000000 in
theorem m_X12_wordOf_3 {l : Launch} : tb_Met l vwCl sa_Ts tb_Z0 yX12_wordOf cX12_wordOf 1 (some .long) 3 148 K_X12_wordOf_3 := tb_method (by decide) [331] (t_X12_wordOf [] [] [] [] [] [] [] [] [] [] [] [] [] [] [] [] [K_X12_spelt_16] [] [] [] []) T_X12_wordOf_3 [] 6000 (List.forall_mem_cons.mpr ⟨dX12_wordOf_331, fun _ h => absurd h List.not_mem_nil⟩) (h_X12_wordOf [] 3 148 (by decide) (by decide) [] [] [] [] [] [] [] [] [] [] [] [] [] [] [] [K_X12_spelt_16] [] [] [] [] (tb_ML0 (by decide) (by decide)) (tb_ML0 (by decide) (by decide)) (tb_ML0 (by decide) (by decide)) (tb_ML0 (by decide) (by decide)) (tb_ML0 (by decide) (by decide)) (tb_ML0 (by decide) (by decide)) (tb_ML0 (by decide) (by decide)) (tb_ML0 (by decide) (by decide)) (tb_ML0 (by decide) (by decide)) (tb_ML0 (by decide) (by decide)) (tb_ML0 (by decide) (by decide)) (tb_ML0 (by decide) (by decide)) (tb_ML0 (by decide) (by decide)) (tb_ML0 (by decide) (by decide)) (tb_ML0 (by decide) (by decide)) ⟨2, 120, List.forall_mem_cons.mpr ⟨m_X12_spelt_16, fun _ h => absurd h List.not_mem_nil⟩, by decide, by decide, by decide⟩ (tb_ML0 (by decide) (by decide)) (tb_ML0 (by decide) (by decide)) (tb_ML0 (by decide) (by decide)) (tb_ML0 (by decide) (by decide))) (by decide) (by decide +kernel)
set_option maxRecDepth 200000 in
set_option maxHeartbeats 4000000 in
def K_X12_write_15 : tb_K := ([.inr (.inl (some 1)), .inl (2, 0)], [(1, (0, 35), .inl (3, 0))], [], [(0, 0), (1180591620717411303424, 1180591620717411303424), (-2147483648, 2147483647), (1, 14)], [(none, [(1, (0, 35), .inl (3, 1))], [], [(0, 0), (1180591620717411303424, 1180591620717411303424), (-2147483648, 2147483647), (1, 14)])], [(0, 35, 35), (85, 1, 14)])
set_option maxRecDepth 200000 in
set_option maxHeartbeats 4000000 in
def T_X12_write_15 : List (tb_S × tb_l) := []
set_option maxRecDepth 200000 in
set_option maxHeartbeats 4000000 in
theorem m_X12_write_15 {l : Launch} : tb_Met l vwCl sa_Ts tb_Z0 yX12_write cX12_write 2 none 2 120 K_X12_write_15 := tb_method (by decide) [20] (t_X12_write [(0, 35, 35), (85, 1, 14)] ) T_X12_write_15 [] 6000 (List.forall_mem_cons.mpr ⟨dX12_write_20, fun _ h => absurd h List.not_mem_nil⟩) (h_X12_write [(0, 35, 35), (85, 1, 14)] 2 120 (by decide) (by decide)  ) (by decide) (by decide +kernel)
set_option maxRecDepth 200000 in
set_option maxHeartbeats 4000000 in
def K_X12_write_16 : tb_K := ([.inr (.inl (some 1)), .inl (2, 0)], [(1, (0, 35), .inl (3, 0))], [], [(0, 0), (1180591620717411303424, 1180591620717411303424), (-2147483648, 2147483647), (2, 15)], [(none, [(1, (0, 35), .inl (3, 1))], [], [(0, 0), (1180591620717411303424, 1180591620717411303424), (-2147483648, 2147483647), (2, 15)])], [(0, 35, 35), (85, 2, 15)])
set_option maxRecDepth 200000 in
set_option maxHeartbeats 4000000 in
def T_X12_write_16 : List (tb_S × tb_l) := []
set_option maxRecDepth 200000 in
set_option maxHeartbeats 4000000 in
theorem m_X12_write_16 {l : Launch} : tb_Met l vwCl sa_Ts tb_Z0 yX12_write cX12_write 2 none 2 120 K_X12_write_16 := tb_method (by decide) [20] (t_X12_write [(0, 35, 35), (85, 2, 15)] ) T_X12_write_16 [] 6000 (List.forall_mem_cons.mpr ⟨dX12_write_20, fun _ h => absurd h List.not_mem_nil⟩) (h_X12_write [(0, 35, 35), (85, 2, 15)] 2 120 (by decide) (by decide)  ) (by decide) (by decide +kernel)
set_option maxRecDepth 200000 in
set_option maxHeartbeats 4000000 in
def K_X12_writeWord_15 : tb_K := ([.inr (.inl (some 1)), .inr (.inr 2)], [(1, (0, 35), .inl (3, 0))], [], [(0, 0), (1180591620717411303424, 1180591620717411303424), (8, 8), (2, 15)], [(none, [(1, (0, 35), .inl (3, 1))], [], [(0, 0), (1180591620717411303424, 1180591620717411303424), (8, 8), (2, 15)])], [(0, 35, 35), (85, 2, 15)])
set_option maxRecDepth 200000 in
set_option maxHeartbeats 4000000 in
def T_X12_writeWord_15 : List (tb_S × tb_l) := []
set_option maxRecDepth 200000 in
set_option maxHeartbeats 4000000 in
theorem m_X12_writeWord_15 {l : Launch} : tb_Met l vwCl sa_Ts tb_Z0 yX12_writeWord cX12_writeWord 3 none 3 141 K_X12_writeWord_15 := tb_method (by decide) [30] (t_X12_writeWord [(0, 35, 35), (85, 2, 15)] [] [K_X12_write_16]) T_X12_writeWord_15 [] 6000 (List.forall_mem_cons.mpr ⟨dX12_writeWord_30, fun _ h => absurd h List.not_mem_nil⟩) (h_X12_writeWord [(0, 35, 35), (85, 2, 15)] 3 141 (by decide) (by decide) [] [K_X12_write_16] (tb_ML0 (by decide) (by decide)) ⟨2, 120, List.forall_mem_cons.mpr ⟨m_X12_write_16, fun _ h => absurd h List.not_mem_nil⟩, by decide, by decide, by decide⟩) (by decide) (by decide +kernel)
set_option maxRecDepth 200000 in
set_option maxHeartbeats 4000000 in
def K_X12_write_17 : tb_K := ([.inr (.inl (some 1)), .inl (2, 0)], [(1, (0, 35), .inl (3, 0))], [], [(0, 0), (1180591620717411303424, 1180591620717411303424), (-2147483648, 2147483647), (3, 16)], [(none, [(1, (0, 35), .inl (3, 1))], [], [(0, 0), (1180591620717411303424, 1180591620717411303424), (-2147483648, 2147483647), (3, 16)])], [(0, 35, 35), (85, 3, 16)])
set_option maxRecDepth 200000 in
set_option maxHeartbeats 4000000 in
def T_X12_write_17 : List (tb_S × tb_l) := []
set_option maxRecDepth 200000 in
set_option maxHeartbeats 4000000 in
theorem m_X12_write_17 {l : Launch} : tb_Met l vwCl sa_Ts tb_Z0 yX12_write cX12_write 2 none 2 120 K_X12_write_17 := tb_method (by decide) [20] (t_X12_write [(0, 35, 35), (85, 3, 16)] ) T_X12_write_17 [] 6000 (List.forall_mem_cons.mpr ⟨dX12_write_20, fun _ h => absurd h List.not_mem_nil⟩) (h_X12_write [(0, 35, 35), (85, 3, 16)] 2 120 (by decide) (by decide)  ) (by decide) (by decide +kernel)
set_option maxRecDepth 200000 in
set_option maxHeartbeats 4000000 in
def K_X12_writeWord_16 : tb_K := ([.inr (.inl (some 1)), .inr (.inr 2)], [(1, (0, 35), .inl (3, 0))], [], [(0, 0), (1180591620717411303424, 1180591620717411303424), (217, 217), (2, 15)], [(none, [(1, (0, 35), .inl (3, 2))], [], [(0, 0), (1180591620717411303424, 1180591620717411303424), (217, 217), (2, 15)])], [(0, 35, 35), (85, 2, 16)])
set_option maxRecDepth 200000 in
set_option maxHeartbeats 4000000 in
def T_X12_writeWord_16 : List (tb_S × tb_l) := []
set_option maxRecDepth 200000 in
set_option maxHeartbeats 4000000 in
theorem m_X12_writeWord_16 {l : Launch} : tb_Met l vwCl sa_Ts tb_Z0 yX12_writeWord cX12_writeWord 3 none 4 163 K_X12_writeWord_16 := tb_method (by decide) [30] (t_X12_writeWord [(0, 35, 35), (85, 2, 16)] [K_X12_writeWord_15] [K_X12_write_17]) T_X12_writeWord_16 [] 6000 (List.forall_mem_cons.mpr ⟨dX12_writeWord_30, fun _ h => absurd h List.not_mem_nil⟩) (h_X12_writeWord [(0, 35, 35), (85, 2, 16)] 4 163 (by decide) (by decide) [K_X12_writeWord_15] [K_X12_write_17] ⟨3, 141, List.forall_mem_cons.mpr ⟨m_X12_writeWord_15, fun _ h => absurd h List.not_mem_nil⟩, by decide, by decide, by decide⟩ ⟨2, 120, List.forall_mem_cons.mpr ⟨m_X12_write_17, fun _ h => absurd h List.not_mem_nil⟩, by decide, by decide, by decide⟩) (by decide) (by decide +kernel)
set_option maxRecDepth 200000 in
set_option maxHeartbeats 4000000 in
def K_X12_write_18 : tb_K := ([.inr (.inl (some 1)), .inl (2, 0)], [(1, (0, 35), .inl (3, 0))], [], [(0, 0), (1180591620717411303424, 1180591620717411303424), (-2147483648, 2147483647), (4, 17)], [(none, [(1, (0, 35), .inl (3, 1))], [], [(0, 0), (1180591620717411303424, 1180591620717411303424), (-2147483648, 2147483647), (4, 17)])], [(0, 35, 35), (85, 4, 17)])
set_option maxRecDepth 200000 in
set_option maxHeartbeats 4000000 in
def T_X12_write_18 : List (tb_S × tb_l) := []
set_option maxRecDepth 200000 in
set_option maxHeartbeats 4000000 in
theorem m_X12_write_18 {l : Launch} : tb_Met l vwCl sa_Ts tb_Z0 yX12_write cX12_write 2 none 2 120 K_X12_write_18 := tb_method (by decide) [20] (t_X12_write [(0, 35, 35), (85, 4, 17)] ) T_X12_write_18 [] 6000 (List.forall_mem_cons.mpr ⟨dX12_write_20, fun _ h => absurd h List.not_mem_nil⟩) (h_X12_write [(0, 35, 35), (85, 4, 17)] 2 120 (by decide) (by decide)  ) (by decide) (by decide +kernel)
set_option maxRecDepth 200000 in
set_option maxHeartbeats 4000000 in
def K_X12_writeWord_17 : tb_K := ([.inr (.inl (some 1)), .inr (.inr 2)], [(1, (0, 35), .inl (3, 0))], [], [(0, 0), (1180591620717411303424, 1180591620717411303424), (5878, 5878), (2, 15)], [(none, [(1, (0, 35), .inl (3, 3))], [], [(0, 0), (1180591620717411303424, 1180591620717411303424), (5878, 5878), (2, 15)])], [(0, 35, 35), (85, 2, 17)])
set_option maxRecDepth 200000 in
set_option maxHeartbeats 4000000 in
def T_X12_writeWord_17 : List (tb_S × tb_l) := []
set_option maxRecDepth 200000 in
set_option maxHeartbeats 4000000 in
theorem m_X12_writeWord_17 {l : Launch} : tb_Met l vwCl sa_Ts tb_Z0 yX12_writeWord cX12_writeWord 3 none 5 185 K_X12_writeWord_17 := tb_method (by decide) [30] (t_X12_writeWord [(0, 35, 35), (85, 2, 17)] [K_X12_writeWord_16] [K_X12_write_18]) T_X12_writeWord_17 [] 6000 (List.forall_mem_cons.mpr ⟨dX12_writeWord_30, fun _ h => absurd h List.not_mem_nil⟩) (h_X12_writeWord [(0, 35, 35), (85, 2, 17)] 5 185 (by decide) (by decide) [K_X12_writeWord_16] [K_X12_write_18] ⟨4, 163, List.forall_mem_cons.mpr ⟨m_X12_writeWord_16, fun _ h => absurd h List.not_mem_nil⟩, by decide, by decide, by decide⟩ ⟨2, 120, List.forall_mem_cons.mpr ⟨m_X12_write_18, fun _ h => absurd h List.not_mem_nil⟩, by decide, by decide, by decide⟩) (by decide) (by decide +kernel)
noncomputable def t_X12_writeNext (mod : List (Nat × Nat × Nat)) (L3 : List tb_K) (L8 : List tb_K) : List (Nat × tb_op) := [(0, to_then 1 (to_aload 0 1) (to_then 3 (to_int (32) 2) (to_cs tb_Z0 mod (tb_gV tb_Z0 12 2 0 0) L3))), (6, to_then 7 (to_aload 0 1) (to_then 8 (to_lload 1 1) (to_cs tb_Z0 mod (tb_gV tb_Z0 12 2 0 0) L8)))]
set_option maxRecDepth 200000 in
set_option maxHeartbeats 4000000 in
theorem h_X12_writeNext {l : Launch} (mod : List (Nat × Nat × Nat)) (fr lc : Nat) (hfr : 1 + 1 ≤ fr) (hlc : 8 + (2 + 11) + 20 ≤ lc) (L3 : List tb_K) (L8 : List tb_K) (h3 : tb_ML l yX12_write cX12_write 2 none fr lc 2 L3) (h8 : tb_ML l yX12_writeWord cX12_writeWord 3 none fr lc 2 L8) : ∀ (p : Program) (e : Env) (s : State) (m : MethodId) (args : Array Value) (below : List Frame) (meth : Method) (c : Code) (Q : State → Prop) (D : va_G) (dA : Nat → ClassId) (A : Nat → Prop) (n0 : Nat) (V0 : sa_V) (E : tb_E), sa_C p s m args c D dA A 3 vwCl sa_Ts cX12_writeNext yX12_writeNext.cls → sa_U D vwCl dA s → tb_Ou A s s.heap → tb_z E = tb_Z0 → tb_mod E = mod → ∀ q ∈ t_X12_writeNext mod L3 L8, tb_snd p l e { frames := fr, cells := 0, slots := 0, locals := lc } s m args below meth c Q D dA A 3 vwCl n0 V0 E q.1 q.2 := fun p e s m args below meth c Q D dA A n0 V0 E C0 hU hO hz hm => List.forall_mem_cons.mpr ⟨tn_then (tn_aload_n C0 dX12_writeNext_0) (tn_then (tn_bipush C0 dX12_writeNext_1 (by decide)) (tn_cV C0 hz hm hU hO h3 tv_1771 dX12_writeNext_3 tv_1768 tv_1770 tq_X12_write tv_13 rfl yb_X12_write (Nat.le_refl _) (Nat.le_refl _))), List.forall_mem_cons.mpr ⟨tn_then (tn_aload_n C0 dX12_writeNext_6) (tn_then (tn_lload_n C0 dX12_writeNext_7) (tn_cV C0 hz hm hU hO h8 tv_1767 dX12_writeNext_8 tv_1764 tv_1766 tq_X12_writeWord tv_13 rfl yb_X12_writeWord (Nat.le_refl _) (Nat.le_refl _))), fun _ h => absurd h List.not_mem_nil⟩⟩
set_option maxRecDepth 200000 in
set_option maxHeartbeats 4000000 in
def K_X12_writeNext_1 : tb_K := ([.inr (.inl (some 1)), .inr (.inr 2)], [(1, (0, 35), .inl (3, 0))], [], [(0, 0), (1180591620717411303424, 1180591620717411303424), (5878, 5878), (1, 14)], [(none, [(1, (0, 35), .inl (3, 4))], [], [(0, 0), (1180591620717411303424, 1180591620717411303424), (5878, 5878), (1, 14)])], [(0, 35, 35), (85, 1, 17)])
set_option maxRecDepth 200000 in
set_option maxHeartbeats 4000000 in
def T_X12_writeNext_1 : List (tb_S × tb_l) := []
set_option maxRecDepth 200000 in
set_option maxHeartbeats 4000000 in
theorem m_X12_writeNext_1 {l : Launch} : tb_Met l vwCl sa_Ts tb_Z0 yX12_writeNext cX12_writeNext 3 none 6 207 K_X12_writeNext_1 := tb_method (by decide) [11] (t_X12_writeNext [(0, 35, 35), (85, 1, 17)] [K_X12_write_15] [K_X12_writeWord_17]) T_X12_writeNext_1 [] 6000 (List.forall_mem_cons.mpr ⟨dX12_writeNext_11, fun _ h => absurd h List.not_mem_nil⟩) (h_X12_writeNext [(0, 35, 35), (85, 1, 17)] 6 207 (by decide) (by decide) [K_X12_write_15] [K_X12_writeWord_17] ⟨2, 120, List.forall_mem_cons.mpr ⟨m_X12_write_15, fun _ h => absurd h List.not_mem_nil⟩, by decide, by decide, by decide⟩ ⟨5, 185, List.forall_mem_cons.mpr ⟨m_X12_writeWord_17, fun _ h => absurd h List.not_mem_nil⟩, by decide, by decide, by decide⟩) (by decide) (by decide +kernel)
set_option maxRecDepth 200000 in
set_option maxHeartbeats 4000000 in
def K_X12_write_19 : tb_K := ([.inr (.inl (some 1)), .inl (2, 0)], [(1, (0, 35), .inl (3, 0))], [], [(0, 0), (1180591620717411303424, 1180591620717411303424), (-2147483648, 2147483647), (5, 18)], [(none, [(1, (0, 35), .inl (3, 1))], [], [(0, 0), (1180591620717411303424, 1180591620717411303424), (-2147483648, 2147483647), (5, 18)])], [(0, 35, 35), (85, 5, 18)])
set_option maxRecDepth 200000 in
set_option maxHeartbeats 4000000 in
def T_X12_write_19 : List (tb_S × tb_l) := []
set_option maxRecDepth 200000 in
set_option maxHeartbeats 4000000 in
theorem m_X12_write_19 {l : Launch} : tb_Met l vwCl sa_Ts tb_Z0 yX12_write cX12_write 2 none 2 120 K_X12_write_19 := tb_method (by decide) [20] (t_X12_write [(0, 35, 35), (85, 5, 18)] ) T_X12_write_19 [] 6000 (List.forall_mem_cons.mpr ⟨dX12_write_20, fun _ h => absurd h List.not_mem_nil⟩) (h_X12_write [(0, 35, 35), (85, 5, 18)] 2 120 (by decide) (by decide)  ) (by decide) (by decide +kernel)
set_option maxRecDepth 200000 in
set_option maxHeartbeats 4000000 in
def K_X12_write_20 : tb_K := ([.inr (.inl (some 1)), .inl (2, 0)], [(1, (0, 35), .inl (3, 0))], [], [(0, 0), (1180591620717411303424, 1180591620717411303424), (-2147483648, 2147483647), (6, 19)], [(none, [(1, (0, 35), .inl (3, 1))], [], [(0, 0), (1180591620717411303424, 1180591620717411303424), (-2147483648, 2147483647), (6, 19)])], [(0, 35, 35), (85, 6, 19)])
set_option maxRecDepth 200000 in
set_option maxHeartbeats 4000000 in
def T_X12_write_20 : List (tb_S × tb_l) := []
set_option maxRecDepth 200000 in
set_option maxHeartbeats 4000000 in
theorem m_X12_write_20 {l : Launch} : tb_Met l vwCl sa_Ts tb_Z0 yX12_write cX12_write 2 none 2 120 K_X12_write_20 := tb_method (by decide) [20] (t_X12_write [(0, 35, 35), (85, 6, 19)] ) T_X12_write_20 [] 6000 (List.forall_mem_cons.mpr ⟨dX12_write_20, fun _ h => absurd h List.not_mem_nil⟩) (h_X12_write [(0, 35, 35), (85, 6, 19)] 2 120 (by decide) (by decide)  ) (by decide) (by decide +kernel)
set_option maxRecDepth 200000 in
set_option maxHeartbeats 4000000 in
def K_X12_write_21 : tb_K := ([.inr (.inl (some 1)), .inl (2, 0)], [(1, (0, 35), .inl (3, 0))], [], [(0, 0), (1180591620717411303424, 1180591620717411303424), (-2147483648, 2147483647), (7, 32)], [(none, [(1, (0, 35), .inl (3, 1))], [], [(0, 0), (1180591620717411303424, 1180591620717411303424), (-2147483648, 2147483647), (7, 32)])], [(0, 35, 35), (85, 7, 32)])
set_option maxRecDepth 200000 in
set_option maxHeartbeats 4000000 in
def T_X12_write_21 : List (tb_S × tb_l) := []
set_option maxRecDepth 200000 in
set_option maxHeartbeats 4000000 in
theorem m_X12_write_21 {l : Launch} : tb_Met l vwCl sa_Ts tb_Z0 yX12_write cX12_write 2 none 2 120 K_X12_write_21 := tb_method (by decide) [20] (t_X12_write [(0, 35, 35), (85, 7, 32)] ) T_X12_write_21 [] 6000 (List.forall_mem_cons.mpr ⟨dX12_write_20, fun _ h => absurd h List.not_mem_nil⟩) (h_X12_write [(0, 35, 35), (85, 7, 32)] 2 120 (by decide) (by decide)  ) (by decide) (by decide +kernel)
set_option maxRecDepth 200000 in
set_option maxHeartbeats 4000000 in
def K_X12_write_22 : tb_K := ([.inr (.inl (some 1)), .inl (2, 0)], [(1, (0, 35), .inl (3, 0))], [], [(0, 0), (1180591620717411303424, 1180591620717411303424), (-2147483648, 2147483647), (7, 31)], [(none, [(1, (0, 35), .inl (3, 1))], [], [(0, 0), (1180591620717411303424, 1180591620717411303424), (-2147483648, 2147483647), (7, 31)])], [(0, 35, 35), (85, 7, 31)])
set_option maxRecDepth 200000 in
set_option maxHeartbeats 4000000 in
def T_X12_write_22 : List (tb_S × tb_l) := []
set_option maxRecDepth 200000 in
set_option maxHeartbeats 4000000 in
theorem m_X12_write_22 {l : Launch} : tb_Met l vwCl sa_Ts tb_Z0 yX12_write cX12_write 2 none 2 120 K_X12_write_22 := tb_method (by decide) [20] (t_X12_write [(0, 35, 35), (85, 7, 31)] ) T_X12_write_22 [] 6000 (List.forall_mem_cons.mpr ⟨dX12_write_20, fun _ h => absurd h List.not_mem_nil⟩) (h_X12_write [(0, 35, 35), (85, 7, 31)] 2 120 (by decide) (by decide)  ) (by decide) (by decide +kernel)
set_option maxRecDepth 200000 in
set_option maxHeartbeats 4000000 in
def K_X12_write_23 : tb_K := ([.inr (.inl (some 1)), .inl (2, 0)], [(1, (0, 35), .inl (3, 0))], [], [(0, 0), (1180591620717411303424, 1180591620717411303424), (-2147483648, 2147483647), (7, 30)], [(none, [(1, (0, 35), .inl (3, 1))], [], [(0, 0), (1180591620717411303424, 1180591620717411303424), (-2147483648, 2147483647), (7, 30)])], [(0, 35, 35), (85, 7, 30)])
set_option maxRecDepth 200000 in
set_option maxHeartbeats 4000000 in
def T_X12_write_23 : List (tb_S × tb_l) := []
set_option maxRecDepth 200000 in
set_option maxHeartbeats 4000000 in
theorem m_X12_write_23 {l : Launch} : tb_Met l vwCl sa_Ts tb_Z0 yX12_write cX12_write 2 none 2 120 K_X12_write_23 := tb_method (by decide) [20] (t_X12_write [(0, 35, 35), (85, 7, 30)] ) T_X12_write_23 [] 6000 (List.forall_mem_cons.mpr ⟨dX12_write_20, fun _ h => absurd h List.not_mem_nil⟩) (h_X12_write [(0, 35, 35), (85, 7, 30)] 2 120 (by decide) (by decide)  ) (by decide) (by decide +kernel)
set_option maxRecDepth 200000 in
set_option maxHeartbeats 4000000 in
def K_X12_write_24 : tb_K := ([.inr (.inl (some 1)), .inl (2, 0)], [(1, (0, 35), .inl (3, 0))], [], [(0, 0), (1180591620717411303424, 1180591620717411303424), (-2147483648, 2147483647), (7, 29)], [(none, [(1, (0, 35), .inl (3, 1))], [], [(0, 0), (1180591620717411303424, 1180591620717411303424), (-2147483648, 2147483647), (7, 29)])], [(0, 35, 35), (85, 7, 29)])
set_option maxRecDepth 200000 in
set_option maxHeartbeats 4000000 in
def T_X12_write_24 : List (tb_S × tb_l) := []
set_option maxRecDepth 200000 in
set_option maxHeartbeats 4000000 in
theorem m_X12_write_24 {l : Launch} : tb_Met l vwCl sa_Ts tb_Z0 yX12_write cX12_write 2 none 2 120 K_X12_write_24 := tb_method (by decide) [20] (t_X12_write [(0, 35, 35), (85, 7, 29)] ) T_X12_write_24 [] 6000 (List.forall_mem_cons.mpr ⟨dX12_write_20, fun _ h => absurd h List.not_mem_nil⟩) (h_X12_write [(0, 35, 35), (85, 7, 29)] 2 120 (by decide) (by decide)  ) (by decide) (by decide +kernel)
set_option maxRecDepth 200000 in
set_option maxHeartbeats 4000000 in
def K_X12_write_25 : tb_K := ([.inr (.inl (some 1)), .inl (2, 0)], [(1, (0, 35), .inl (3, 0))], [], [(0, 0), (1180591620717411303424, 1180591620717411303424), (-2147483648, 2147483647), (7, 28)], [(none, [(1, (0, 35), .inl (3, 1))], [], [(0, 0), (1180591620717411303424, 1180591620717411303424), (-2147483648, 2147483647), (7, 28)])], [(0, 35, 35), (85, 7, 28)])
set_option maxRecDepth 200000 in
set_option maxHeartbeats 4000000 in
def T_X12_write_25 : List (tb_S × tb_l) := []
set_option maxRecDepth 200000 in
set_option maxHeartbeats 4000000 in
theorem m_X12_write_25 {l : Launch} : tb_Met l vwCl sa_Ts tb_Z0 yX12_write cX12_write 2 none 2 120 K_X12_write_25 := tb_method (by decide) [20] (t_X12_write [(0, 35, 35), (85, 7, 28)] ) T_X12_write_25 [] 6000 (List.forall_mem_cons.mpr ⟨dX12_write_20, fun _ h => absurd h List.not_mem_nil⟩) (h_X12_write [(0, 35, 35), (85, 7, 28)] 2 120 (by decide) (by decide)  ) (by decide) (by decide +kernel)
set_option maxRecDepth 200000 in
set_option maxHeartbeats 4000000 in
def K_X12_write_26 : tb_K := ([.inr (.inl (some 1)), .inl (2, 0)], [(1, (0, 35), .inl (3, 0))], [], [(0, 0), (1180591620717411303424, 1180591620717411303424), (-2147483648, 2147483647), (7, 27)], [(none, [(1, (0, 35), .inl (3, 1))], [], [(0, 0), (1180591620717411303424, 1180591620717411303424), (-2147483648, 2147483647), (7, 27)])], [(0, 35, 35), (85, 7, 27)])
set_option maxRecDepth 200000 in
set_option maxHeartbeats 4000000 in
def T_X12_write_26 : List (tb_S × tb_l) := []
set_option maxRecDepth 200000 in
set_option maxHeartbeats 4000000 in
theorem m_X12_write_26 {l : Launch} : tb_Met l vwCl sa_Ts tb_Z0 yX12_write cX12_write 2 none 2 120 K_X12_write_26 := tb_method (by decide) [20] (t_X12_write [(0, 35, 35), (85, 7, 27)] ) T_X12_write_26 [] 6000 (List.forall_mem_cons.mpr ⟨dX12_write_20, fun _ h => absurd h List.not_mem_nil⟩) (h_X12_write [(0, 35, 35), (85, 7, 27)] 2 120 (by decide) (by decide)  ) (by decide) (by decide +kernel)
set_option maxRecDepth 200000 in
set_option maxHeartbeats 4000000 in
def K_X12_write_27 : tb_K := ([.inr (.inl (some 1)), .inl (2, 0)], [(1, (0, 35), .inl (3, 0))], [], [(0, 0), (1180591620717411303424, 1180591620717411303424), (-2147483648, 2147483647), (7, 26)], [(none, [(1, (0, 35), .inl (3, 1))], [], [(0, 0), (1180591620717411303424, 1180591620717411303424), (-2147483648, 2147483647), (7, 26)])], [(0, 35, 35), (85, 7, 26)])
set_option maxRecDepth 200000 in
set_option maxHeartbeats 4000000 in
def T_X12_write_27 : List (tb_S × tb_l) := []
set_option maxRecDepth 200000 in
set_option maxHeartbeats 4000000 in
theorem m_X12_write_27 {l : Launch} : tb_Met l vwCl sa_Ts tb_Z0 yX12_write cX12_write 2 none 2 120 K_X12_write_27 := tb_method (by decide) [20] (t_X12_write [(0, 35, 35), (85, 7, 26)] ) T_X12_write_27 [] 6000 (List.forall_mem_cons.mpr ⟨dX12_write_20, fun _ h => absurd h List.not_mem_nil⟩) (h_X12_write [(0, 35, 35), (85, 7, 26)] 2 120 (by decide) (by decide)  ) (by decide) (by decide +kernel)
set_option maxRecDepth 200000 in
set_option maxHeartbeats 4000000 in
def K_X12_write_28 : tb_K := ([.inr (.inl (some 1)), .inl (2, 0)], [(1, (0, 35), .inl (3, 0))], [], [(0, 0), (1180591620717411303424, 1180591620717411303424), (-2147483648, 2147483647), (7, 25)], [(none, [(1, (0, 35), .inl (3, 1))], [], [(0, 0), (1180591620717411303424, 1180591620717411303424), (-2147483648, 2147483647), (7, 25)])], [(0, 35, 35), (85, 7, 25)])
set_option maxRecDepth 200000 in
set_option maxHeartbeats 4000000 in
def T_X12_write_28 : List (tb_S × tb_l) := []
set_option maxRecDepth 200000 in
set_option maxHeartbeats 4000000 in
theorem m_X12_write_28 {l : Launch} : tb_Met l vwCl sa_Ts tb_Z0 yX12_write cX12_write 2 none 2 120 K_X12_write_28 := tb_method (by decide) [20] (t_X12_write [(0, 35, 35), (85, 7, 25)] ) T_X12_write_28 [] 6000 (List.forall_mem_cons.mpr ⟨dX12_write_20, fun _ h => absurd h List.not_mem_nil⟩) (h_X12_write [(0, 35, 35), (85, 7, 25)] 2 120 (by decide) (by decide)  ) (by decide) (by decide +kernel)
set_option maxRecDepth 200000 in
set_option maxHeartbeats 4000000 in
def K_X12_write_29 : tb_K := ([.inr (.inl (some 1)), .inl (2, 0)], [(1, (0, 35), .inl (3, 0))], [], [(0, 0), (1180591620717411303424, 1180591620717411303424), (-2147483648, 2147483647), (7, 24)], [(none, [(1, (0, 35), .inl (3, 1))], [], [(0, 0), (1180591620717411303424, 1180591620717411303424), (-2147483648, 2147483647), (7, 24)])], [(0, 35, 35), (85, 7, 24)])
set_option maxRecDepth 200000 in
set_option maxHeartbeats 4000000 in
def T_X12_write_29 : List (tb_S × tb_l) := []
set_option maxRecDepth 200000 in
set_option maxHeartbeats 4000000 in
theorem m_X12_write_29 {l : Launch} : tb_Met l vwCl sa_Ts tb_Z0 yX12_write cX12_write 2 none 2 120 K_X12_write_29 := tb_method (by decide) [20] (t_X12_write [(0, 35, 35), (85, 7, 24)] ) T_X12_write_29 [] 6000 (List.forall_mem_cons.mpr ⟨dX12_write_20, fun _ h => absurd h List.not_mem_nil⟩) (h_X12_write [(0, 35, 35), (85, 7, 24)] 2 120 (by decide) (by decide)  ) (by decide) (by decide +kernel)
set_option maxRecDepth 200000 in
set_option maxHeartbeats 4000000 in
def K_X12_write_30 : tb_K := ([.inr (.inl (some 1)), .inl (2, 0)], [(1, (0, 35), .inl (3, 0))], [], [(0, 0), (1180591620717411303424, 1180591620717411303424), (-2147483648, 2147483647), (7, 23)], [(none, [(1, (0, 35), .inl (3, 1))], [], [(0, 0), (1180591620717411303424, 1180591620717411303424), (-2147483648, 2147483647), (7, 23)])], [(0, 35, 35), (85, 7, 23)])
set_option maxRecDepth 200000 in
set_option maxHeartbeats 4000000 in
def T_X12_write_30 : List (tb_S × tb_l) := []
set_option maxRecDepth 200000 in
set_option maxHeartbeats 4000000 in
theorem m_X12_write_30 {l : Launch} : tb_Met l vwCl sa_Ts tb_Z0 yX12_write cX12_write 2 none 2 120 K_X12_write_30 := tb_method (by decide) [20] (t_X12_write [(0, 35, 35), (85, 7, 23)] ) T_X12_write_30 [] 6000 (List.forall_mem_cons.mpr ⟨dX12_write_20, fun _ h => absurd h List.not_mem_nil⟩) (h_X12_write [(0, 35, 35), (85, 7, 23)] 2 120 (by decide) (by decide)  ) (by decide) (by decide +kernel)
set_option maxRecDepth 200000 in
set_option maxHeartbeats 4000000 in
def K_X12_write_31 : tb_K := ([.inr (.inl (some 1)), .inl (2, 0)], [(1, (0, 35), .inl (3, 0))], [], [(0, 0), (1180591620717411303424, 1180591620717411303424), (-2147483648, 2147483647), (7, 22)], [(none, [(1, (0, 35), .inl (3, 1))], [], [(0, 0), (1180591620717411303424, 1180591620717411303424), (-2147483648, 2147483647), (7, 22)])], [(0, 35, 35), (85, 7, 22)])
set_option maxRecDepth 200000 in
set_option maxHeartbeats 4000000 in
def T_X12_write_31 : List (tb_S × tb_l) := []
set_option maxRecDepth 200000 in
set_option maxHeartbeats 4000000 in
theorem m_X12_write_31 {l : Launch} : tb_Met l vwCl sa_Ts tb_Z0 yX12_write cX12_write 2 none 2 120 K_X12_write_31 := tb_method (by decide) [20] (t_X12_write [(0, 35, 35), (85, 7, 22)] ) T_X12_write_31 [] 6000 (List.forall_mem_cons.mpr ⟨dX12_write_20, fun _ h => absurd h List.not_mem_nil⟩) (h_X12_write [(0, 35, 35), (85, 7, 22)] 2 120 (by decide) (by decide)  ) (by decide) (by decide +kernel)
set_option maxRecDepth 200000 in
set_option maxHeartbeats 4000000 in
def K_X12_write_32 : tb_K := ([.inr (.inl (some 1)), .inl (2, 0)], [(1, (0, 35), .inl (3, 0))], [], [(0, 0), (1180591620717411303424, 1180591620717411303424), (-2147483648, 2147483647), (7, 21)], [(none, [(1, (0, 35), .inl (3, 1))], [], [(0, 0), (1180591620717411303424, 1180591620717411303424), (-2147483648, 2147483647), (7, 21)])], [(0, 35, 35), (85, 7, 21)])
set_option maxRecDepth 200000 in
set_option maxHeartbeats 4000000 in
def T_X12_write_32 : List (tb_S × tb_l) := []
set_option maxRecDepth 200000 in
set_option maxHeartbeats 4000000 in
theorem m_X12_write_32 {l : Launch} : tb_Met l vwCl sa_Ts tb_Z0 yX12_write cX12_write 2 none 2 120 K_X12_write_32 := tb_method (by decide) [20] (t_X12_write [(0, 35, 35), (85, 7, 21)] ) T_X12_write_32 [] 6000 (List.forall_mem_cons.mpr ⟨dX12_write_20, fun _ h => absurd h List.not_mem_nil⟩) (h_X12_write [(0, 35, 35), (85, 7, 21)] 2 120 (by decide) (by decide)  ) (by decide) (by decide +kernel)
set_option maxRecDepth 200000 in
set_option maxHeartbeats 4000000 in
def K_X12_write_33 : tb_K := ([.inr (.inl (some 1)), .inl (2, 0)], [(1, (0, 35), .inl (3, 0))], [], [(0, 0), (1180591620717411303424, 1180591620717411303424), (-2147483648, 2147483647), (7, 20)], [(none, [(1, (0, 35), .inl (3, 1))], [], [(0, 0), (1180591620717411303424, 1180591620717411303424), (-2147483648, 2147483647), (7, 20)])], [(0, 35, 35), (85, 7, 20)])
set_option maxRecDepth 200000 in
set_option maxHeartbeats 4000000 in
def T_X12_write_33 : List (tb_S × tb_l) := []
set_option maxRecDepth 200000 in
set_option maxHeartbeats 4000000 in
theorem m_X12_write_33 {l : Launch} : tb_Met l vwCl sa_Ts tb_Z0 yX12_write cX12_write 2 none 2 120 K_X12_write_33 := tb_method (by decide) [20] (t_X12_write [(0, 35, 35), (85, 7, 20)] ) T_X12_write_33 [] 6000 (List.forall_mem_cons.mpr ⟨dX12_write_20, fun _ h => absurd h List.not_mem_nil⟩) (h_X12_write [(0, 35, 35), (85, 7, 20)] 2 120 (by decide) (by decide)  ) (by decide) (by decide +kernel)
set_option maxRecDepth 200000 in
set_option maxHeartbeats 4000000 in
def K_X12_writeWord_18 : tb_K := ([.inr (.inl (some 1)), .inr (.inr 2)], [(1, (0, 35), .inl (3, 0))], [], [(0, 0), (1180591620717411303424, 1180591620717411303424), (-2, 2), (6, 19)], [(none, [(1, (0, 35), .inl (3, 1))], [], [(0, 0), (1180591620717411303424, 1180591620717411303424), (-2, 2), (6, 19)])], [(0, 35, 35), (85, 6, 19)])
set_option maxRecDepth 200000 in
set_option maxHeartbeats 4000000 in
def T_X12_writeWord_18 : List (tb_S × tb_l) := []
set_option maxRecDepth 200000 in
set_option maxHeartbeats 4000000 in
theorem m_X12_writeWord_18 {l : Launch} : tb_Met l vwCl sa_Ts tb_Z0 yX12_writeWord cX12_writeWord 3 none 3 141 K_X12_writeWord_18 := tb_method (by decide) [30] (t_X12_writeWord [(0, 35, 35), (85, 6, 19)] [] [K_X12_write_20]) T_X12_writeWord_18 [] 6000 (List.forall_mem_cons.mpr ⟨dX12_writeWord_30, fun _ h => absurd h List.not_mem_nil⟩) (h_X12_writeWord [(0, 35, 35), (85, 6, 19)] 3 141 (by decide) (by decide) [] [K_X12_write_20] (tb_ML0 (by decide) (by decide)) ⟨2, 120, List.forall_mem_cons.mpr ⟨m_X12_write_20, fun _ h => absurd h List.not_mem_nil⟩, by decide, by decide, by decide⟩) (by decide) (by decide +kernel)
set_option maxRecDepth 200000 in
set_option maxHeartbeats 4000000 in
def K_X12_writeWord_19 : tb_K := ([.inr (.inl (some 1)), .inr (.inr 2)], [(1, (0, 35), .inl (3, 0))], [], [(0, 0), (1180591620717411303424, 1180591620717411303424), (-61, 61), (6, 19)], [(none, [(1, (0, 35), .inl (4, 0))], [], [(0, 0), (1180591620717411303424, 1180591620717411303424), (-61, 61), (6, 19), (7, 21)])], [(0, 35, 35), (85, 6, 20)])
set_option maxRecDepth 200000 in
set_option maxHeartbeats 4000000 in
def T_X12_writeWord_19 : List (tb_S × tb_l) := []
set_option maxRecDepth 200000 in
set_option maxHeartbeats 4000000 in
theorem m_X12_writeWord_19 {l : Launch} : tb_Met l vwCl sa_Ts tb_Z0 yX12_writeWord cX12_writeWord 3 none 4 163 K_X12_writeWord_19 := tb_method (by decide) [30] (t_X12_writeWord [(0, 35, 35), (85, 6, 20)] [K_X12_writeWord_18] [K_X12_write_20, K_X12_write_33]) T_X12_writeWord_19 [] 6000 (List.forall_mem_cons.mpr ⟨dX12_writeWord_30, fun _ h => absurd h List.not_mem_nil⟩) (h_X12_writeWord [(0, 35, 35), (85, 6, 20)] 4 163 (by decide) (by decide) [K_X12_writeWord_18] [K_X12_write_20, K_X12_write_33] ⟨3, 141, List.forall_mem_cons.mpr ⟨m_X12_writeWord_18, fun _ h => absurd h List.not_mem_nil⟩, by decide, by decide, by decide⟩ ⟨2, 120, List.forall_mem_cons.mpr ⟨m_X12_write_20, List.forall_mem_cons.mpr ⟨m_X12_write_33, fun _ h => absurd h List.not_mem_nil⟩⟩, by decide, by decide, by decide⟩) (by decide) (by decide +kernel)
set_option maxRecDepth 200000 in
set_option maxHeartbeats 4000000 in
def K_X12_writeWord_20 : tb_K := ([.inr (.inl (some 1)), .inr (.inr 2)], [(1, (0, 35), .inl (3, 0))], [], [(0, 0), (1180591620717411303424, 1180591620717411303424), (-1659, 1659), (6, 19)], [(none, [(1, (0, 35), .inl (4, 0))], [], [(0, 0), (1180591620717411303424, 1180591620717411303424), (-1659, 1659), (6, 19), (7, 22)])], [(0, 35, 35), (85, 6, 21)])
set_option maxRecDepth 200000 in
set_option maxHeartbeats 4000000 in
def T_X12_writeWord_20 : List (tb_S × tb_l) := []
set_option maxRecDepth 200000 in
set_option maxHeartbeats 4000000 in
theorem m_X12_writeWord_20 {l : Launch} : tb_Met l vwCl sa_Ts tb_Z0 yX12_writeWord cX12_writeWord 3 none 5 185 K_X12_writeWord_20 := tb_method (by decide) [30] (t_X12_writeWord [(0, 35, 35), (85, 6, 21)] [K_X12_writeWord_19] [K_X12_write_20, K_X12_write_32]) T_X12_writeWord_20 [] 6000 (List.forall_mem_cons.mpr ⟨dX12_writeWord_30, fun _ h => absurd h List.not_mem_nil⟩) (h_X12_writeWord [(0, 35, 35), (85, 6, 21)] 5 185 (by decide) (by decide) [K_X12_writeWord_19] [K_X12_write_20, K_X12_write_32] ⟨4, 163, List.forall_mem_cons.mpr ⟨m_X12_writeWord_19, fun _ h => absurd h List.not_mem_nil⟩, by decide, by decide, by decide⟩ ⟨2, 120, List.forall_mem_cons.mpr ⟨m_X12_write_20, List.forall_mem_cons.mpr ⟨m_X12_write_32, fun _ h => absurd h List.not_mem_nil⟩⟩, by decide, by decide, by decide⟩) (by decide) (by decide +kernel)
set_option maxRecDepth 200000 in
set_option maxHeartbeats 4000000 in
def K_X12_writeWord_21 : tb_K := ([.inr (.inl (some 1)), .inr (.inr 2)], [(1, (0, 35), .inl (3, 0))], [], [(0, 0), (1180591620717411303424, 1180591620717411303424), (-44797, 44797), (6, 19)], [(none, [(1, (0, 35), .inl (4, 0))], [], [(0, 0), (1180591620717411303424, 1180591620717411303424), (-44797, 44797), (6, 19), (7, 23)])], [(0, 35, 35), (85, 6, 22)])
set_option maxRecDepth 200000 in
set_option maxHeartbeats 4000000 in
def T_X12_writeWord_21 : List (tb_S × tb_l) := []
set_option maxRecDepth 200000 in
set_option maxHeartbeats 4000000 in
theorem m_X12_writeWord_21 {l : Launch} : tb_Met l vwCl sa_Ts tb_Z0 yX12_writeWord cX12_writeWord 3 none 6 207 K_X12_writeWord_21 := tb_method (by decide) [30] (t_X12_writeWord [(0, 35, 35), (85, 6, 22)] [K_X12_writeWord_20] [K_X12_write_20, K_X12_write_31]) T_X12_writeWord_21 [] 6000 (List.forall_mem_cons.mpr ⟨dX12_writeWord_30, fun _ h => absurd h List.not_mem_nil⟩) (h_X12_writeWord [(0, 35, 35), (85, 6, 22)] 6 207 (by decide) (by decide) [K_X12_writeWord_20] [K_X12_write_20, K_X12_write_31] ⟨5, 185, List.forall_mem_cons.mpr ⟨m_X12_writeWord_20, fun _ h => absurd h List.not_mem_nil⟩, by decide, by decide, by decide⟩ ⟨2, 120, List.forall_mem_cons.mpr ⟨m_X12_write_20, List.forall_mem_cons.mpr ⟨m_X12_write_31, fun _ h => absurd h List.not_mem_nil⟩⟩, by decide, by decide, by decide⟩) (by decide) (by decide +kernel)
set_option maxRecDepth 200000 in
set_option maxHeartbeats 4000000 in
def K_X12_writeWord_22 : tb_K := ([.inr (.inl (some 1)), .inr (.inr 2)], [(1, (0, 35), .inl (3, 0))], [], [(0, 0), (1180591620717411303424, 1180591620717411303424), (-1209527, 1209527), (6, 19)], [(none, [(1, (0, 35), .inl (4, 0))], [], [(0, 0), (1180591620717411303424, 1180591620717411303424), (-1209527, 1209527), (6, 19), (7, 24)])], [(0, 35, 35), (85, 6, 23)])
set_option maxRecDepth 200000 in
set_option maxHeartbeats 4000000 in
def T_X12_writeWord_22 : List (tb_S × tb_l) := []
set_option maxRecDepth 200000 in
set_option maxHeartbeats 4000000 in
theorem m_X12_writeWord_22 {l : Launch} : tb_Met l vwCl sa_Ts tb_Z0 yX12_writeWord cX12_writeWord 3 none 7 229 K_X12_writeWord_22 := tb_method (by decide) [30] (t_X12_writeWord [(0, 35, 35), (85, 6, 23)] [K_X12_writeWord_21] [K_X12_write_20, K_X12_write_30]) T_X12_writeWord_22 [] 6000 (List.forall_mem_cons.mpr ⟨dX12_writeWord_30, fun _ h => absurd h List.not_mem_nil⟩) (h_X12_writeWord [(0, 35, 35), (85, 6, 23)] 7 229 (by decide) (by decide) [K_X12_writeWord_21] [K_X12_write_20, K_X12_write_30] ⟨6, 207, List.forall_mem_cons.mpr ⟨m_X12_writeWord_21, fun _ h => absurd h List.not_mem_nil⟩, by decide, by decide, by decide⟩ ⟨2, 120, List.forall_mem_cons.mpr ⟨m_X12_write_20, List.forall_mem_cons.mpr ⟨m_X12_write_30, fun _ h => absurd h List.not_mem_nil⟩⟩, by decide, by decide, by decide⟩) (by decide) (by decide +kernel)
set_option maxRecDepth 200000 in
set_option maxHeartbeats 4000000 in
def K_X12_writeWord_23 : tb_K := ([.inr (.inl (some 1)), .inr (.inr 2)], [(1, (0, 35), .inl (3, 0))], [], [(0, 0), (1180591620717411303424, 1180591620717411303424), (-32657250, 32657250), (6, 19)], [(none, [(1, (0, 35), .inl (4, 0))], [], [(0, 0), (1180591620717411303424, 1180591620717411303424), (-32657250, 32657250), (6, 19), (7, 25)])], [(0, 35, 35), (85, 6, 24)])
set_option maxRecDepth 200000 in
set_option maxHeartbeats 4000000 in
def T_X12_writeWord_23 : List (tb_S × tb_l) := []
set_option maxRecDepth 200000 in
set_option maxHeartbeats 4000000 in
theorem m_X12_writeWord_23 {l : Launch} : tb_Met l vwCl sa_Ts tb_Z0 yX12_writeWord cX12_writeWord 3 none 8 251 K_X12_writeWord_23 := tb_method (by decide) [30] (t_X12_writeWord [(0, 35, 35), (85, 6, 24)] [K_X12_writeWord_22] [K_X12_write_20, K_X12_write_29]) T_X12_writeWord_23 [] 6000 (List.forall_mem_cons.mpr ⟨dX12_writeWord_30, fun _ h => absurd h List.not_mem_nil⟩) (h_X12_writeWord [(0, 35, 35), (85, 6, 24)] 8 251 (by decide) (by decide) [K_X12_writeWord_22] [K_X12_write_20, K_X12_write_29] ⟨7, 229, List.forall_mem_cons.mpr ⟨m_X12_writeWord_22, fun _ h => absurd h List.not_mem_nil⟩, by decide, by decide, by decide⟩ ⟨2, 120, List.forall_mem_cons.mpr ⟨m_X12_write_20, List.forall_mem_cons.mpr ⟨m_X12_write_29, fun _ h => absurd h List.not_mem_nil⟩⟩, by decide, by decide, by decide⟩) (by decide) (by decide +kernel)
set_option maxRecDepth 200000 in
set_option maxHeartbeats 4000000 in
def K_X12_writeWord_24 : tb_K := ([.inr (.inl (some 1)), .inr (.inr 2)], [(1, (0, 35), .inl (3, 0))], [], [(0, 0), (1180591620717411303424, 1180591620717411303424), (-881745755, 881745755), (6, 19)], [(none, [(1, (0, 35), .inl (4, 0))], [], [(0, 0), (1180591620717411303424, 1180591620717411303424), (-881745755, 881745755), (6, 19), (7, 26)])], [(0, 35, 35), (85, 6, 25)])
set_option maxRecDepth 200000 in
set_option maxHeartbeats 4000000 in
def T_X12_writeWord_24 : List (tb_S × tb_l) := []
set_option maxRecDepth 200000 in
set_option maxHeartbeats 4000000 in
theorem m_X12_writeWord_24 {l : Launch} : tb_Met l vwCl sa_Ts tb_Z0 yX12_writeWord cX12_writeWord 3 none 9 273 K_X12_writeWord_24 := tb_method (by decide) [30] (t_X12_writeWord [(0, 35, 35), (85, 6, 25)] [K_X12_writeWord_23] [K_X12_write_20, K_X12_write_28]) T_X12_writeWord_24 [] 6000 (List.forall_mem_cons.mpr ⟨dX12_writeWord_30, fun _ h => absurd h List.not_mem_nil⟩) (h_X12_writeWord [(0, 35, 35), (85, 6, 25)] 9 273 (by decide) (by decide) [K_X12_writeWord_23] [K_X12_write_20, K_X12_write_28] ⟨8, 251, List.forall_mem_cons.mpr ⟨m_X12_writeWord_23, fun _ h => absurd h List.not_mem_nil⟩, by decide, by decide, by decide⟩ ⟨2, 120, List.forall_mem_cons.mpr ⟨m_X12_write_20, List.forall_mem_cons.mpr ⟨m_X12_write_28, fun _ h => absurd h List.not_mem_nil⟩⟩, by decide, by decide, by decide⟩) (by decide) (by decide +kernel)
set_option maxRecDepth 200000 in
set_option maxHeartbeats 4000000 in
def K_X12_writeWord_25 : tb_K := ([.inr (.inl (some 1)), .inr (.inr 2)], [(1, (0, 35), .inl (3, 0))], [], [(0, 0), (1180591620717411303424, 1180591620717411303424), (-23807135396, 23807135396), (6, 19)], [(none, [(1, (0, 35), .inl (4, 0))], [], [(0, 0), (1180591620717411303424, 1180591620717411303424), (-23807135396, 23807135396), (6, 19), (7, 27)])], [(0, 35, 35), (85, 6, 26)])
set_option maxRecDepth 200000 in
set_option maxHeartbeats 4000000 in
def T_X12_writeWord_25 : List (tb_S × tb_l) := []
set_option maxRecDepth 200000 in
set_option maxHeartbeats 4000000 in
theorem m_X12_writeWord_25 {l : Launch} : tb_Met l vwCl sa_Ts tb_Z0 yX12_writeWord cX12_writeWord 3 none 10 295 K_X12_writeWord_25 := tb_method (by decide) [30] (t_X12_writeWord [(0, 35, 35), (85, 6, 26)] [K_X12_writeWord_24] [K_X12_write_20, K_X12_write_27]) T_X12_writeWord_25 [] 6000 (List.forall_mem_cons.mpr ⟨dX12_writeWord_30, fun _ h => absurd h List.not_mem_nil⟩) (h_X12_writeWord [(0, 35, 35), (85, 6, 26)] 10 295 (by decide) (by decide) [K_X12_writeWord_24] [K_X12_write_20, K_X12_write_27] ⟨9, 273, List.forall_mem_cons.mpr ⟨m_X12_writeWord_24, fun _ h => absurd h List.not_mem_nil⟩, by decide, by decide, by decide⟩ ⟨2, 120, List.forall_mem_cons.mpr ⟨m_X12_write_20, List.forall_mem_cons.mpr ⟨m_X12_write_27, fun _ h => absurd h List.not_mem_nil⟩⟩, by decide, by decide, by decide⟩) (by decide) (by decide +kernel)
set_option maxRecDepth 200000 in
set_option maxHeartbeats 4000000 in
def K_X12_writeWord_26 : tb_K := ([.inr (.inl (some 1)), .inr (.inr 2)], [(1, (0, 35), .inl (3, 0))], [], [(0, 0), (1180591620717411303424, 1180591620717411303424), (-642792655695, 642792655695), (6, 19)], [(none, [(1, (0, 35), .inl (4, 0))], [], [(0, 0), (1180591620717411303424, 1180591620717411303424), (-642792655695, 642792655695), (6, 19), (7, 28)])], [(0, 35, 35), (85, 6, 27)])
set_option maxRecDepth 200000 in
set_option maxHeartbeats 4000000 in
def T_X12_writeWord_26 : List (tb_S × tb_l) := []
set_option maxRecDepth 200000 in
set_option maxHeartbeats 4000000 in
theorem m_X12_writeWord_26 {l : Launch} : tb_Met l vwCl sa_Ts tb_Z0 yX12_writeWord cX12_writeWord 3 none 11 317 K_X12_writeWord_26 := tb_method (by decide) [30] (t_X12_writeWord [(0, 35, 35), (85, 6, 27)] [K_X12_writeWord_25] [K_X12_write_20, K_X12_write_26]) T_X12_writeWord_26 [] 6000 (List.forall_mem_cons.mpr ⟨dX12_writeWord_30, fun _ h => absurd h List.not_mem_nil⟩) (h_X12_writeWord [(0, 35, 35), (85, 6, 27)] 11 317 (by decide) (by decide) [K_X12_writeWord_25] [K_X12_write_20, K_X12_write_26] ⟨10, 295, List.forall_mem_cons.mpr ⟨m_X12_writeWord_25, fun _ h => absurd h List.not_mem_nil⟩, by decide, by decide, by decide⟩ ⟨2, 120, List.forall_mem_cons.mpr ⟨m_X12_write_20, List.forall_mem_cons.mpr ⟨m_X12_write_26, fun _ h => absurd h List.not_mem_nil⟩⟩, by decide, by decide, by decide⟩) (by decide) (by decide +kernel)
set_option maxRecDepth 200000 in
set_option maxHeartbeats 4000000 in
def K_X12_writeWord_27 : tb_K := ([.inr (.inl (some 1)), .inr (.inr 2)], [(1, (0, 35), .inl (3, 0))], [], [(0, 0), (1180591620717411303424, 1180591620717411303424), (-17355401703772, 17355401703772), (6, 19)], [(none, [(1, (0, 35), .inl (4, 0))], [], [(0, 0), (1180591620717411303424, 1180591620717411303424), (-17355401703772, 17355401703772), (6, 19), (7, 29)])], [(0, 35, 35), (85, 6, 28)])
set_option maxRecDepth 200000 in
set_option maxHeartbeats 4000000 in
def T_X12_writeWord_27 : List (tb_S × tb_l) := []
set_option maxRecDepth 200000 in
set_option maxHeartbeats 4000000 in
theorem m_X12_writeWord_27 {l : Launch} : tb_Met l vwCl sa_Ts tb_Z0 yX12_writeWord cX12_writeWord 3 none 12 339 K_X12_writeWord_27 := tb_method (by decide) [30] (t_X12_writeWord [(0, 35, 35), (85, 6, 28)] [K_X12_writeWord_26] [K_X12_write_20, K_X12_write_25]) T_X12_writeWord_27 [] 6000 (List.forall_mem_cons.mpr ⟨dX12_writeWord_30, fun _ h => absurd h List.not_mem_nil⟩) (h_X12_writeWord [(0, 35, 35), (85, 6, 28)] 12 339 (by decide) (by decide) [K_X12_writeWord_26] [K_X12_write_20, K_X12_write_25] ⟨11, 317, List.forall_mem_cons.mpr ⟨m_X12_writeWord_26, fun _ h => absurd h List.not_mem_nil⟩, by decide, by decide, by decide⟩ ⟨2, 120, List.forall_mem_cons.mpr ⟨m_X12_write_20, List.forall_mem_cons.mpr ⟨m_X12_write_25, fun _ h => absurd h List.not_mem_nil⟩⟩, by decide, by decide, by decide⟩) (by decide) (by decide +kernel)
set_option maxRecDepth 200000 in
set_option maxHeartbeats 4000000 in
def K_X12_writeWord_28 : tb_K := ([.inr (.inl (some 1)), .inr (.inr 2)], [(1, (0, 35), .inl (3, 0))], [], [(0, 0), (1180591620717411303424, 1180591620717411303424), (-468595846001868, 468595846001868), (6, 19)], [(none, [(1, (0, 35), .inl (4, 0))], [], [(0, 0), (1180591620717411303424, 1180591620717411303424), (-468595846001868, 468595846001868), (6, 19), (7, 30)])], [(0, 35, 35), (85, 6, 29)])
set_option maxRecDepth 200000 in
set_option maxHeartbeats 4000000 in
def T_X12_writeWord_28 : List (tb_S × tb_l) := []
set_option maxRecDepth 200000 in
set_option maxHeartbeats 4000000 in
theorem m_X12_writeWord_28 {l : Launch} : tb_Met l vwCl sa_Ts tb_Z0 yX12_writeWord cX12_writeWord 3 none 13 361 K_X12_writeWord_28 := tb_method (by decide) [30] (t_X12_writeWord [(0, 35, 35), (85, 6, 29)] [K_X12_writeWord_27] [K_X12_write_20, K_X12_write_24]) T_X12_writeWord_28 [] 6000 (List.forall_mem_cons.mpr ⟨dX12_writeWord_30, fun _ h => absurd h List.not_mem_nil⟩) (h_X12_writeWord [(0, 35, 35), (85, 6, 29)] 13 361 (by decide) (by decide) [K_X12_writeWord_27] [K_X12_write_20, K_X12_write_24] ⟨12, 339, List.forall_mem_cons.mpr ⟨m_X12_writeWord_27, fun _ h => absurd h List.not_mem_nil⟩, by decide, by decide, by decide⟩ ⟨2, 120, List.forall_mem_cons.mpr ⟨m_X12_write_20, List.forall_mem_cons.mpr ⟨m_X12_write_24, fun _ h => absurd h List.not_mem_nil⟩⟩, by decide, by decide, by decide⟩) (by decide) (by decide +kernel)
set_option maxRecDepth 200000 in
set_option maxHeartbeats 4000000 in
def K_X12_writeWord_29 : tb_K := ([.inr (.inl (some 1)), .inr (.inr 2)], [(1, (0, 35), .inl (3, 0))], [], [(0, 0), (1180591620717411303424, 1180591620717411303424), (-12652087842050446, 12652087842050446), (6, 19)], [(none, [(1, (0, 35), .inl (4, 0))], [], [(0, 0), (1180591620717411303424, 1180591620717411303424), (-12652087842050446, 12652087842050446), (6, 19), (7, 31)])], [(0, 35, 35), (85, 6, 30)])
set_option maxRecDepth 200000 in
set_option maxHeartbeats 4000000 in
def T_X12_writeWord_29 : List (tb_S × tb_l) := []
set_option maxRecDepth 200000 in
set_option maxHeartbeats 4000000 in
theorem m_X12_writeWord_29 {l : Launch} : tb_Met l vwCl sa_Ts tb_Z0 yX12_writeWord cX12_writeWord 3 none 14 383 K_X12_writeWord_29 := tb_method (by decide) [30] (t_X12_writeWord [(0, 35, 35), (85, 6, 30)] [K_X12_writeWord_28] [K_X12_write_20, K_X12_write_23]) T_X12_writeWord_29 [] 6000 (List.forall_mem_cons.mpr ⟨dX12_writeWord_30, fun _ h => absurd h List.not_mem_nil⟩) (h_X12_writeWord [(0, 35, 35), (85, 6, 30)] 14 383 (by decide) (by decide) [K_X12_writeWord_28] [K_X12_write_20, K_X12_write_23] ⟨13, 361, List.forall_mem_cons.mpr ⟨m_X12_writeWord_28, fun _ h => absurd h List.not_mem_nil⟩, by decide, by decide, by decide⟩ ⟨2, 120, List.forall_mem_cons.mpr ⟨m_X12_write_20, List.forall_mem_cons.mpr ⟨m_X12_write_23, fun _ h => absurd h List.not_mem_nil⟩⟩, by decide, by decide, by decide⟩) (by decide) (by decide +kernel)
set_option maxRecDepth 200000 in
set_option maxHeartbeats 4000000 in
def K_X12_writeWord_30 : tb_K := ([.inr (.inl (some 1)), .inr (.inr 2)], [(1, (0, 35), .inl (3, 0))], [], [(0, 0), (1180591620717411303424, 1180591620717411303424), (-341606371735362066, 341606371735362066), (6, 19)], [(none, [(1, (0, 35), .inl (4, 0))], [], [(0, 0), (1180591620717411303424, 1180591620717411303424), (-341606371735362066, 341606371735362066), (6, 19), (7, 32)])], [(0, 35, 35), (85, 6, 31)])
set_option maxRecDepth 200000 in
set_option maxHeartbeats 4000000 in
def T_X12_writeWord_30 : List (tb_S × tb_l) := []
set_option maxRecDepth 200000 in
set_option maxHeartbeats 4000000 in
theorem m_X12_writeWord_30 {l : Launch} : tb_Met l vwCl sa_Ts tb_Z0 yX12_writeWord cX12_writeWord 3 none 15 405 K_X12_writeWord_30 := tb_method (by decide) [30] (t_X12_writeWord [(0, 35, 35), (85, 6, 31)] [K_X12_writeWord_29] [K_X12_write_20, K_X12_write_22]) T_X12_writeWord_30 [] 6000 (List.forall_mem_cons.mpr ⟨dX12_writeWord_30, fun _ h => absurd h List.not_mem_nil⟩) (h_X12_writeWord [(0, 35, 35), (85, 6, 31)] 15 405 (by decide) (by decide) [K_X12_writeWord_29] [K_X12_write_20, K_X12_write_22] ⟨14, 383, List.forall_mem_cons.mpr ⟨m_X12_writeWord_29, fun _ h => absurd h List.not_mem_nil⟩, by decide, by decide, by decide⟩ ⟨2, 120, List.forall_mem_cons.mpr ⟨m_X12_write_20, List.forall_mem_cons.mpr ⟨m_X12_write_22, fun _ h => absurd h List.not_mem_nil⟩⟩, by decide, by decide, by decide⟩) (by decide) (by decide +kernel)
set_option maxRecDepth 200000 in
set_option maxHeartbeats 4000000 in
def K_X12_writeWord_31 : tb_K := ([.inr (.inl (some 1)), .inr (.inr 2)], [(1, (0, 35), .inl (3, 0))], [], [(0, 0), (1180591620717411303424, 1180591620717411303424), (-9223372036854775808, 9223372036854775807), (6, 19)], [(none, [(1, (0, 35), .inl (4, 0))], [], [(0, 0), (1180591620717411303424, 1180591620717411303424), (-9223372036854775808, 9223372036854775807), (6, 19), (7, 33)])], [(0, 35, 35), (85, 6, 32)])
set_option maxRecDepth 200000 in
set_option maxHeartbeats 4000000 in
def T_X12_writeWord_31 : List (tb_S × tb_l) := []
set_option maxRecDepth 200000 in
set_option maxHeartbeats 4000000 in
theorem m_X12_writeWord_31 {l : Launch} : tb_Met l vwCl sa_Ts tb_Z0 yX12_writeWord cX12_writeWord 3 none 16 427 K_X12_writeWord_31 := tb_method (by decide) [30] (t_X12_writeWord [(0, 35, 35), (85, 6, 32)] [K_X12_writeWord_30] [K_X12_write_20, K_X12_write_21]) T_X12_writeWord_31 [] 6000 (List.forall_mem_cons.mpr ⟨dX12_writeWord_30, fun _ h => absurd h List.not_mem_nil⟩) (h_X12_writeWord [(0, 35, 35), (85, 6, 32)] 16 427 (by decide) (by decide) [K_X12_writeWord_30] [K_X12_write_20, K_X12_write_21] ⟨15, 405, List.forall_mem_cons.mpr ⟨m_X12_writeWord_30, fun _ h => absurd h List.not_mem_nil⟩, by decide, by decide, by decide⟩ ⟨2, 120, List.forall_mem_cons.mpr ⟨m_X12_write_20, List.forall_mem_cons.mpr ⟨m_X12_write_21, fun _ h => absurd h List.not_mem_nil⟩⟩, by decide, by decide, by decide⟩) (by decide) (by decide +kernel)
set_option maxRecDepth 200000 in
set_option maxHeartbeats 4000000 in
def K_X12_writeNext_2 : tb_K := ([.inr (.inl (some 1)), .inr (.inr 2)], [(1, (0, 35), .inl (3, 0))], [], [(0, 0), (1180591620717411303424, 1180591620717411303424), (-9223372036854775808, 9223372036854775807), (5, 18)], [(none, [(1, (0, 35), .inl (4, 0))], [], [(0, 0), (1180591620717411303424, 1180591620717411303424), (-9223372036854775808, 9223372036854775807), (5, 18), (7, 33)])], [(0, 35, 35), (85, 5, 32)])
set_option maxRecDepth 200000 in
set_option maxHeartbeats 4000000 in
def T_X12_writeNext_2 : List (tb_S × tb_l) := []
set_option maxRecDepth 200000 in
set_option maxHeartbeats 4000000 in
theorem m_X12_writeNext_2 {l : Launch} : tb_Met l vwCl sa_Ts tb_Z0 yX12_writeNext cX12_writeNext 3 none 17 449 K_X12_writeNext_2 := tb_method (by decide) [11] (t_X12_writeNext [(0, 35, 35), (85, 5, 32)] [K_X12_write_19] [K_X12_writeWord_31]) T_X12_writeNext_2 [] 6000 (List.forall_mem_cons.mpr ⟨dX12_writeNext_11, fun _ h => absurd h List.not_mem_nil⟩) (h_X12_writeNext [(0, 35, 35), (85, 5, 32)] 17 449 (by decide) (by decide) [K_X12_write_19] [K_X12_writeWord_31] ⟨2, 120, List.forall_mem_cons.mpr ⟨m_X12_write_19, fun _ h => absurd h List.not_mem_nil⟩, by decide, by decide, by decide⟩ ⟨16, 427, List.forall_mem_cons.mpr ⟨m_X12_writeWord_31, fun _ h => absurd h List.not_mem_nil⟩, by decide, by decide, by decide⟩) (by decide) (by decide +kernel)
set_option maxRecDepth 200000 in
set_option maxHeartbeats 4000000 in
def K_X12_wordOf_4 : tb_K := ([.inl (1, 0)], [], [], [(0, 0), (12, 12)], [(some (.inr (.inr 2)), [], [], [(0, 0), (12, 12), (12531826, 12531826)])], [])
set_option maxRecDepth 200000 in
set_option maxHeartbeats 4000000 in
def T_X12_wordOf_4 : List (tb_S × tb_l) := []
set_option maxRecDepth 200000 in
set_option maxHeartbeats 4000000 in
theorem m_X12_wordOf_4 {l : Launch} : tb_Met l vwCl sa_Ts tb_Z0 yX12_wordOf cX12_wordOf 1 (some .long) 3 148 K_X12_wordOf_4 := tb_method (by decide) [288] (t_X12_wordOf [] [] [] [] [] [] [] [] [] [] [] [] [] [K_X12_spelt_13] [] [] [] [] [] [] []) T_X12_wordOf_4 [] 6000 (List.forall_mem_cons.mpr ⟨dX12_wordOf_288, fun _ h => absurd h List.not_mem_nil⟩) (h_X12_wordOf [] 3 148 (by decide) (by decide) [] [] [] [] [] [] [] [] [] [] [] [] [K_X12_spelt_13] [] [] [] [] [] [] [] (tb_ML0 (by decide) (by decide)) (tb_ML0 (by decide) (by decide)) (tb_ML0 (by decide) (by decide)) (tb_ML0 (by decide) (by decide)) (tb_ML0 (by decide) (by decide)) (tb_ML0 (by decide) (by decide)) (tb_ML0 (by decide) (by decide)) (tb_ML0 (by decide) (by decide)) (tb_ML0 (by decide) (by decide)) (tb_ML0 (by decide) (by decide)) (tb_ML0 (by decide) (by decide)) (tb_ML0 (by decide) (by decide)) ⟨2, 120, List.forall_mem_cons.mpr ⟨m_X12_spelt_13, fun _ h => absurd h List.not_mem_nil⟩, by decide, by decide, by decide⟩ (tb_ML0 (by decide) (by decide)) (tb_ML0 (by decide) (by decide)) (tb_ML0 (by decide) (by decide)) (tb_ML0 (by decide) (by decide)) (tb_ML0 (by decide) (by decide)) (tb_ML0 (by decide) (by decide)) (tb_ML0 (by decide) (by decide))) (by decide) (by decide +kernel)
set_option maxRecDepth 200000 in
set_option maxHeartbeats 4000000 in
def K_X12_writeWord_32 : tb_K := ([.inr (.inl (some 1)), .inr (.inr 2)], [(1, (0, 35), .inl (3, 0))], [], [(0, 0), (1180591620717411303424, 1180591620717411303424), (23, 23), (2, 15)], [(none, [(1, (0, 35), .inl (3, 1))], [], [(0, 0), (1180591620717411303424, 1180591620717411303424), (23, 23), (2, 15)])], [(0, 35, 35), (85, 2, 15)])
set_option maxRecDepth 200000 in
set_option maxHeartbeats 4000000 in
def T_X12_writeWord_32 : List (tb_S × tb_l) := []
set_option maxRecDepth 200000 in
set_option maxHeartbeats 4000000 in
theorem m_X12_writeWord_32 {l : Launch} : tb_Met l vwCl sa_Ts tb_Z0 yX12_writeWord cX12_writeWord 3 none 3 141 K_X12_writeWord_32 := tb_method (by decide) [30] (t_X12_writeWord [(0, 35, 35), (85, 2, 15)] [] [K_X12_write_16]) T_X12_writeWord_32 [] 6000 (List.forall_mem_cons.mpr ⟨dX12_writeWord_30, fun _ h => absurd h List.not_mem_nil⟩) (h_X12_writeWord [(0, 35, 35), (85, 2, 15)] 3 141 (by decide) (by decide) [] [K_X12_write_16] (tb_ML0 (by decide) (by decide)) ⟨2, 120, List.forall_mem_cons.mpr ⟨m_X12_write_16, fun _ h => absurd h List.not_mem_nil⟩, by decide, by decide, by decide⟩) (by decide) (by decide +kernel)
set_option maxRecDepth 200000 in
set_option maxHeartbeats 4000000 in
def K_X12_writeWord_33 : tb_K := ([.inr (.inl (some 1)), .inr (.inr 2)], [(1, (0, 35), .inl (3, 0))], [], [(0, 0), (1180591620717411303424, 1180591620717411303424), (636, 636), (2, 15)], [(none, [(1, (0, 35), .inl (3, 2))], [], [(0, 0), (1180591620717411303424, 1180591620717411303424), (636, 636), (2, 15)])], [(0, 35, 35), (85, 2, 16)])
set_option maxRecDepth 200000 in
set_option maxHeartbeats 4000000 in
def T_X12_writeWord_33 : List (tb_S × tb_l) := []
set_option maxRecDepth 200000 in
set_option maxHeartbeats 4000000 in
theorem m_X12_writeWord_33 {l : Launch} : tb_Met l vwCl sa_Ts tb_Z0 yX12_writeWord cX12_writeWord 3 none 4 163 K_X12_writeWord_33 := tb_method (by decide) [30] (t_X12_writeWord [(0, 35, 35), (85, 2, 16)] [K_X12_writeWord_32] [K_X12_write_17]) T_X12_writeWord_33 [] 6000 (List.forall_mem_cons.mpr ⟨dX12_writeWord_30, fun _ h => absurd h List.not_mem_nil⟩) (h_X12_writeWord [(0, 35, 35), (85, 2, 16)] 4 163 (by decide) (by decide) [K_X12_writeWord_32] [K_X12_write_17] ⟨3, 141, List.forall_mem_cons.mpr ⟨m_X12_writeWord_32, fun _ h => absurd h List.not_mem_nil⟩, by decide, by decide, by decide⟩ ⟨2, 120, List.forall_mem_cons.mpr ⟨m_X12_write_17, fun _ h => absurd h List.not_mem_nil⟩, by decide, by decide, by decide⟩) (by decide) (by decide +kernel)
set_option maxRecDepth 200000 in
set_option maxHeartbeats 4000000 in
def K_X12_writeWord_34 : tb_K := ([.inr (.inl (some 1)), .inr (.inr 2)], [(1, (0, 35), .inl (3, 0))], [], [(0, 0), (1180591620717411303424, 1180591620717411303424), (17190, 17190), (2, 15)], [(none, [(1, (0, 35), .inl (3, 3))], [], [(0, 0), (1180591620717411303424, 1180591620717411303424), (17190, 17190), (2, 15)])], [(0, 35, 35), (85, 2, 17)])
set_option maxRecDepth 200000 in
set_option maxHeartbeats 4000000 in
def T_X12_writeWord_34 : List (tb_S × tb_l) := []
set_option maxRecDepth 200000 in
set_option maxHeartbeats 4000000 in
theorem m_X12_writeWord_34 {l : Launch} : tb_Met l vwCl sa_Ts tb_Z0 yX12_writeWord cX12_writeWord 3 none 5 185 K_X12_writeWord_34 := tb_method (by decide) [30] (t_X12_writeWord [(0, 35, 35), (85, 2, 17)] [K_X12_writeWord_33] [K_X12_write_18]) T_X12_writeWord_34 [] 6000 (List.forall_mem_cons.mpr ⟨dX12_writeWord_30, fun _ h => absurd h List.not_mem_nil⟩) (h_X12_writeWord [(0, 35, 35), (85, 2, 17)] 5 185 (by decide) (by decide) [K_X12_writeWord_33] [K_X12_write_18] ⟨4, 163, List.forall_mem_cons.mpr ⟨m_X12_writeWord_33, fun _ h => absurd h List.not_mem_nil⟩, by decide, by decide, by decide⟩ ⟨2, 120, List.forall_mem_cons.mpr ⟨m_X12_write_18, fun _ h => absurd h List.not_mem_nil⟩, by decide, by decide, by decide⟩) (by decide) (by decide +kernel)
set_option maxRecDepth 200000 in
set_option maxHeartbeats 4000000 in
def K_X12_writeWord_35 : tb_K := ([.inr (.inl (some 1)), .inr (.inr 2)], [(1, (0, 35), .inl (3, 0))], [], [(0, 0), (1180591620717411303424, 1180591620717411303424), (464141, 464141), (2, 15)], [(none, [(1, (0, 35), .inl (3, 4))], [], [(0, 0), (1180591620717411303424, 1180591620717411303424), (464141, 464141), (2, 15)])], [(0, 35, 35), (85, 2, 18)])
set_option maxRecDepth 200000 in
set_option maxHeartbeats 4000000 in
def T_X12_writeWord_35 : List (tb_S × tb_l) := []
set_option maxRecDepth 200000 in
set_option maxHeartbeats 4000000 in
theorem m_X12_writeWord_35 {l : Launch} : tb_Met l vwCl sa_Ts tb_Z0 yX12_writeWord cX12_writeWord 3 none 6 207 K_X12_writeWord_35 := tb_method (by decide) [30] (t_X12_writeWord [(0, 35, 35), (85, 2, 18)] [K_X12_writeWord_34] [K_X12_write_19]) T_X12_writeWord_35 [] 6000 (List.forall_mem_cons.mpr ⟨dX12_writeWord_30, fun _ h => absurd h List.not_mem_nil⟩) (h_X12_writeWord [(0, 35, 35), (85, 2, 18)] 6 207 (by decide) (by decide) [K_X12_writeWord_34] [K_X12_write_19] ⟨5, 185, List.forall_mem_cons.mpr ⟨m_X12_writeWord_34, fun _ h => absurd h List.not_mem_nil⟩, by decide, by decide, by decide⟩ ⟨2, 120, List.forall_mem_cons.mpr ⟨m_X12_write_19, fun _ h => absurd h List.not_mem_nil⟩, by decide, by decide, by decide⟩) (by decide) (by decide +kernel)
set_option maxRecDepth 200000 in
set_option maxHeartbeats 4000000 in
def K_X12_writeWord_36 : tb_K := ([.inr (.inl (some 1)), .inr (.inr 2)], [(1, (0, 35), .inl (3, 0))], [], [(0, 0), (1180591620717411303424, 1180591620717411303424), (12531826, 12531826), (2, 15)], [(none, [(1, (0, 35), .inl (3, 5))], [], [(0, 0), (1180591620717411303424, 1180591620717411303424), (12531826, 12531826), (2, 15)])], [(0, 35, 35), (85, 2, 19)])
set_option maxRecDepth 200000 in
set_option maxHeartbeats 4000000 in
def T_X12_writeWord_36 : List (tb_S × tb_l) := []
set_option maxRecDepth 200000 in
set_option maxHeartbeats 4000000 in
theorem m_X12_writeWord_36 {l : Launch} : tb_Met l vwCl sa_Ts tb_Z0 yX12_writeWord cX12_writeWord 3 none 7 229 K_X12_writeWord_36 := tb_method (by decide) [30] (t_X12_writeWord [(0, 35, 35), (85, 2, 19)] [K_X12_writeWord_35] [K_X12_write_20]) T_X12_writeWord_36 [] 6000 (List.forall_mem_cons.mpr ⟨dX12_writeWord_30, fun _ h => absurd h List.not_mem_nil⟩) (h_X12_writeWord [(0, 35, 35), (85, 2, 19)] 7 229 (by decide) (by decide) [K_X12_writeWord_35] [K_X12_write_20] ⟨6, 207, List.forall_mem_cons.mpr ⟨m_X12_writeWord_35, fun _ h => absurd h List.not_mem_nil⟩, by decide, by decide, by decide⟩ ⟨2, 120, List.forall_mem_cons.mpr ⟨m_X12_write_20, fun _ h => absurd h List.not_mem_nil⟩, by decide, by decide, by decide⟩) (by decide) (by decide +kernel)
set_option maxRecDepth 200000 in
set_option maxHeartbeats 4000000 in
def K_X12_writeNext_3 : tb_K := ([.inr (.inl (some 1)), .inr (.inr 2)], [(1, (0, 35), .inl (3, 0))], [], [(0, 0), (1180591620717411303424, 1180591620717411303424), (12531826, 12531826), (1, 14)], [(none, [(1, (0, 35), .inl (3, 6))], [], [(0, 0), (1180591620717411303424, 1180591620717411303424), (12531826, 12531826), (1, 14)])], [(0, 35, 35), (85, 1, 19)])
set_option maxRecDepth 200000 in
set_option maxHeartbeats 4000000 in
def T_X12_writeNext_3 : List (tb_S × tb_l) := []
set_option maxRecDepth 200000 in
set_option maxHeartbeats 4000000 in
theorem m_X12_writeNext_3 {l : Launch} : tb_Met l vwCl sa_Ts tb_Z0 yX12_writeNext cX12_writeNext 3 none 8 251 K_X12_writeNext_3 := tb_method (by decide) [11] (t_X12_writeNext [(0, 35, 35), (85, 1, 19)] [K_X12_write_15] [K_X12_writeWord_36]) T_X12_writeNext_3 [] 6000 (List.forall_mem_cons.mpr ⟨dX12_writeNext_11, fun _ h => absurd h List.not_mem_nil⟩) (h_X12_writeNext [(0, 35, 35), (85, 1, 19)] 8 251 (by decide) (by decide) [K_X12_write_15] [K_X12_writeWord_36] ⟨2, 120, List.forall_mem_cons.mpr ⟨m_X12_write_15, fun _ h => absurd h List.not_mem_nil⟩, by decide, by decide, by decide⟩ ⟨7, 229, List.forall_mem_cons.mpr ⟨m_X12_writeWord_36, fun _ h => absurd h List.not_mem_nil⟩, by decide, by decide, by decide⟩) (by decide) (by decide +kernel)
set_option maxRecDepth 200000 in
set_option maxHeartbeats 4000000 in
def K_X12_writeWord_37 : tb_K := ([.inr (.inl (some 1)), .inr (.inr 2)], [(1, (0, 35), .inl (3, 0))], [], [(0, 0), (1180591620717411303424, 1180591620717411303424), (622, 622), (2, 15)], [(none, [(1, (0, 35), .inl (3, 2))], [], [(0, 0), (1180591620717411303424, 1180591620717411303424), (622, 622), (2, 15)])], [(0, 35, 35), (85, 2, 16)])
set_option maxRecDepth 200000 in
set_option maxHeartbeats 4000000 in
def T_X12_writeWord_37 : List (tb_S × tb_l) := []
set_option maxRecDepth 200000 in
set_option maxHeartbeats 4000000 in
theorem m_X12_writeWord_37 {l : Launch} : tb_Met l vwCl sa_Ts tb_Z0 yX12_writeWord cX12_writeWord 3 none 4 163 K_X12_writeWord_37 := tb_method (by decide) [30] (t_X12_writeWord [(0, 35, 35), (85, 2, 16)] [K_X12_writeWord_32] [K_X12_write_17]) T_X12_writeWord_37 [] 6000 (List.forall_mem_cons.mpr ⟨dX12_writeWord_30, fun _ h => absurd h List.not_mem_nil⟩) (h_X12_writeWord [(0, 35, 35), (85, 2, 16)] 4 163 (by decide) (by decide) [K_X12_writeWord_32] [K_X12_write_17] ⟨3, 141, List.forall_mem_cons.mpr ⟨m_X12_writeWord_32, fun _ h => absurd h List.not_mem_nil⟩, by decide, by decide, by decide⟩ ⟨2, 120, List.forall_mem_cons.mpr ⟨m_X12_write_17, fun _ h => absurd h List.not_mem_nil⟩, by decide, by decide, by decide⟩) (by decide) (by decide +kernel)
set_option maxRecDepth 200000 in
set_option maxHeartbeats 4000000 in
def K_X12_writeWord_38 : tb_K := ([.inr (.inl (some 1)), .inr (.inr 2)], [(1, (0, 35), .inl (3, 0))], [], [(0, 0), (1180591620717411303424, 1180591620717411303424), (16803, 16803), (2, 15)], [(none, [(1, (0, 35), .inl (3, 3))], [], [(0, 0), (1180591620717411303424, 1180591620717411303424), (16803, 16803), (2, 15)])], [(0, 35, 35), (85, 2, 17)])
set_option maxRecDepth 200000 in
set_option maxHeartbeats 4000000 in
def T_X12_writeWord_38 : List (tb_S × tb_l) := []
set_option maxRecDepth 200000 in
set_option maxHeartbeats 4000000 in
theorem m_X12_writeWord_38 {l : Launch} : tb_Met l vwCl sa_Ts tb_Z0 yX12_writeWord cX12_writeWord 3 none 5 185 K_X12_writeWord_38 := tb_method (by decide) [30] (t_X12_writeWord [(0, 35, 35), (85, 2, 17)] [K_X12_writeWord_37] [K_X12_write_18]) T_X12_writeWord_38 [] 6000 (List.forall_mem_cons.mpr ⟨dX12_writeWord_30, fun _ h => absurd h List.not_mem_nil⟩) (h_X12_writeWord [(0, 35, 35), (85, 2, 17)] 5 185 (by decide) (by decide) [K_X12_writeWord_37] [K_X12_write_18] ⟨4, 163, List.forall_mem_cons.mpr ⟨m_X12_writeWord_37, fun _ h => absurd h List.not_mem_nil⟩, by decide, by decide, by decide⟩ ⟨2, 120, List.forall_mem_cons.mpr ⟨m_X12_write_18, fun _ h => absurd h List.not_mem_nil⟩, by decide, by decide, by decide⟩) (by decide) (by decide +kernel)
set_option maxRecDepth 200000 in
set_option maxHeartbeats 4000000 in
def K_X12_writeWord_39 : tb_K := ([.inr (.inl (some 1)), .inr (.inr 2)], [(1, (0, 35), .inl (3, 0))], [], [(0, 0), (1180591620717411303424, 1180591620717411303424), (453701, 453701), (2, 15)], [(none, [(1, (0, 35), .inl (3, 4))], [], [(0, 0), (1180591620717411303424, 1180591620717411303424), (453701, 453701), (2, 15)])], [(0, 35, 35), (85, 2, 18)])
set_option maxRecDepth 200000 in
set_option maxHeartbeats 4000000 in
def T_X12_writeWord_39 : List (tb_S × tb_l) := []
set_option maxRecDepth 200000 in
set_option maxHeartbeats 4000000 in
theorem m_X12_writeWord_39 {l : Launch} : tb_Met l vwCl sa_Ts tb_Z0 yX12_writeWord cX12_writeWord 3 none 6 207 K_X12_writeWord_39 := tb_method (by decide) [30] (t_X12_writeWord [(0, 35, 35), (85, 2, 18)] [K_X12_writeWord_38] [K_X12_write_19]) T_X12_writeWord_39 [] 6000 (List.forall_mem_cons.mpr ⟨dX12_writeWord_30, fun _ h => absurd h List.not_mem_nil⟩) (h_X12_writeWord [(0, 35, 35), (85, 2, 18)] 6 207 (by decide) (by decide) [K_X12_writeWord_38] [K_X12_write_19] ⟨5, 185, List.forall_mem_cons.mpr ⟨m_X12_writeWord_38, fun _ h => absurd h List.not_mem_nil⟩, by decide, by decide, by decide⟩ ⟨2, 120, List.forall_mem_cons.mpr ⟨m_X12_write_19, fun _ h => absurd h List.not_mem_nil⟩, by decide, by decide, by decide⟩) (by decide) (by decide +kernel)
set_option maxRecDepth 200000 in
set_option maxHeartbeats 4000000 in
def K_X12_writeWord_40 : tb_K := ([.inr (.inl (some 1)), .inr (.inr 2)], [(1, (0, 35), .inl (3, 0))], [], [(0, 0), (1180591620717411303424, 1180591620717411303424), (12249946, 12249946), (2, 15)], [(none, [(1, (0, 35), .inl (3, 5))], [], [(0, 0), (1180591620717411303424, 1180591620717411303424), (12249946, 12249946), (2, 15)])], [(0, 35, 35), (85, 2, 19)])
set_option maxRecDepth 200000 in
set_option maxHeartbeats 4000000 in
def T_X12_writeWord_40 : List (tb_S × tb_l) := []
set_option maxRecDepth 200000 in
set_option maxHeartbeats 4000000 in
theorem m_X12_writeWord_40 {l : Launch} : tb_Met l vwCl sa_Ts tb_Z0 yX12_writeWord cX12_writeWord 3 none 7 229 K_X12_writeWord_40 := tb_method (by decide) [30] (t_X12_writeWord [(0, 35, 35), (85, 2, 19)] [K_X12_writeWord_39] [K_X12_write_20]) T_X12_writeWord_40 [] 6000 (List.forall_mem_cons.mpr ⟨dX12_writeWord_30, fun _ h => absurd h List.not_mem_nil⟩) (h_X12_writeWord [(0, 35, 35), (85, 2, 19)] 7 229 (by decide) (by decide) [K_X12_writeWord_39] [K_X12_write_20] ⟨6, 207, List.forall_mem_cons.mpr ⟨m_X12_writeWord_39, fun _ h => absurd h List.not_mem_nil⟩, by decide, by decide, by decide⟩ ⟨2, 120, List.forall_mem_cons.mpr ⟨m_X12_write_20, fun _ h => absurd h List.not_mem_nil⟩, by decide, by decide, by decide⟩) (by decide) (by decide +kernel)
set_option maxRecDepth 200000 in
set_option maxHeartbeats 4000000 in
def K_X12_writeNext_4 : tb_K := ([.inr (.inl (some 1)), .inr (.inr 2)], [(1, (0, 35), .inl (3, 0))], [], [(0, 0), (1180591620717411303424, 1180591620717411303424), (12249946, 12249946), (1, 14)], [(none, [(1, (0, 35), .inl (3, 6))], [], [(0, 0), (1180591620717411303424, 1180591620717411303424), (12249946, 12249946), (1, 14)])], [(0, 35, 35), (85, 1, 19)])
set_option maxRecDepth 200000 in
set_option maxHeartbeats 4000000 in
def T_X12_writeNext_4 : List (tb_S × tb_l) := []
set_option maxRecDepth 200000 in
set_option maxHeartbeats 4000000 in
theorem m_X12_writeNext_4 {l : Launch} : tb_Met l vwCl sa_Ts tb_Z0 yX12_writeNext cX12_writeNext 3 none 8 251 K_X12_writeNext_4 := tb_method (by decide) [11] (t_X12_writeNext [(0, 35, 35), (85, 1, 19)] [K_X12_write_15] [K_X12_writeWord_40]) T_X12_writeNext_4 [] 6000 (List.forall_mem_cons.mpr ⟨dX12_writeNext_11, fun _ h => absurd h List.not_mem_nil⟩) (h_X12_writeNext [(0, 35, 35), (85, 1, 19)] 8 251 (by decide) (by decide) [K_X12_write_15] [K_X12_writeWord_40] ⟨2, 120, List.forall_mem_cons.mpr ⟨m_X12_write_15, fun _ h => absurd h List.not_mem_nil⟩, by decide, by decide, by decide⟩ ⟨7, 229, List.forall_mem_cons.mpr ⟨m_X12_writeWord_40, fun _ h => absurd h List.not_mem_nil⟩, by decide, by decide, by decide⟩) (by decide) (by decide +kernel)
set_option maxRecDepth 200000 in
set_option maxHeartbeats 4000000 in
def K_X12_spelt_21 : tb_K := ([.inl (1, 0), .inl (2, 0), .inl (3, 0), .inl (4, 0), .inl (5, 0), .inl (6, 0), .inl (7, 0)], [], [], [(0, 0), (119, 119), (97, 97), (105, 105), (116, 116), (115, 115), (0, 0), (0, 0)], [(some (.inr (.inr 8)), [], [], [(0, 0), (119, 119), (97, 97), (105, 105), (116, 116), (115, 115), (0, 0), (0, 0), (12249946, 12249946)])], [])
set_option maxRecDepth 200000 in
set_option maxHeartbeats 4000000 in
def T_X12_spelt_21 : List (tb_S × tb_l) := []
set_option maxRecDepth 200000 in
set_option maxHeartbeats 4000000 in
theorem m_X12_spelt_21 {l : Launch} : tb_Met l vwCl sa_Ts tb_Z0 yX12_spelt cX12_spelt 9 (some .long) 2 120 K_X12_spelt_21 := tb_method (by decide) [122] (t_X12_spelt [] ) T_X12_spelt_21 [] 6000 (List.forall_mem_cons.mpr ⟨dX12_spelt_122, fun _ h => absurd h List.not_mem_nil⟩) (h_X12_spelt [] 2 120 (by decide) (by decide)  ) (by decide) (by decide +kernel)
set_option maxRecDepth 200000 in
set_option maxHeartbeats 4000000 in
def K_X12_spelt_22 : tb_K := ([.inl (1, 0), .inl (2, 0), .inl (3, 0), .inl (4, 0), .inl (5, 0), .inl (6, 0), .inl (7, 0)], [], [], [(0, 0), (110, 110), (111, 111), (0, 0), (0, 0), (0, 0), (0, 0), (0, 0)], [(some (.inr (.inr 8)), [], [], [(0, 0), (110, 110), (111, 111), (0, 0), (0, 0), (0, 0), (0, 0), (0, 0), (393, 393)])], [])
set_option maxRecDepth 200000 in
set_option maxHeartbeats 4000000 in
def T_X12_spelt_22 : List (tb_S × tb_l) := []
set_option maxRecDepth 200000 in
set_option maxHeartbeats 4000000 in
theorem m_X12_spelt_22 {l : Launch} : tb_Met l vwCl sa_Ts tb_Z0 yX12_spelt cX12_spelt 9 (some .long) 2 120 K_X12_spelt_22 := tb_method (by decide) [122] (t_X12_spelt [] ) T_X12_spelt_22 [] 6000 (List.forall_mem_cons.mpr ⟨dX12_spelt_122, fun _ h => absurd h List.not_mem_nil⟩) (h_X12_spelt [] 2 120 (by decide) (by decide)  ) (by decide) (by decide +kernel)
set_option maxRecDepth 200000 in
set_option maxHeartbeats 4000000 in
def K_X12_wordOf_5 : tb_K := ([.inl (1, 0)], [], [], [(0, 0), (19, 19)], [(some (.inr (.inr 2)), [], [], [(0, 0), (19, 19), (212302449, 212302449)])], [])
set_option maxRecDepth 200000 in
set_option maxHeartbeats 4000000 in
def T_X12_wordOf_5 : List (tb_S × tb_l) := []
set_option maxRecDepth 200000 in
set_option maxHeartbeats 4000000 in
theorem m_X12_wordOf_5 {l : Launch} : tb_Met l vwCl sa_Ts tb_Z0 yX12_wordOf cX12_wordOf 1 (some .long) 3 148 K_X12_wordOf_5 := tb_method (by decide) [395] (t_X12_wordOf [] [] [] [] [] [] [] [] [] [] [] [] [] [] [] [] [] [] [] [] [K_X12_spelt_20]) T_X12_wordOf_5 [] 6000 (List.forall_mem_cons.mpr ⟨dX12_wordOf_395, fun _ h => absurd h List.not_mem_nil⟩) (h_X12_wordOf [] 3 148 (by decide) (by decide) [] [] [] [] [] [] [] [] [] [] [] [] [] [] [] [] [] [] [] [K_X12_spelt_20] (tb_ML0 (by decide) (by decide)) (tb_ML0 (by decide) (by decide)) (tb_ML0 (by decide) (by decide)) (tb_ML0 (by decide) (by decide)) (tb_ML0 (by decide) (by decide)) (tb_ML0 (by decide) (by decide)) (tb_ML0 (by decide) (by decide)) (tb_ML0 (by decide) (by decide)) (tb_ML0 (by decide) (by decide)) (tb_ML0 (by decide) (by decide)) (tb_ML0 (by decide) (by decide)) (tb_ML0 (by decide) (by decide)) (tb_ML0 (by decide) (by decide)) (tb_ML0 (by decide) (by decide)) (tb_ML0 (by decide) (by decide)) (tb_ML0 (by decide) (by decide)) (tb_ML0 (by decide) (by decide)) (tb_ML0 (by decide) (by decide)) (tb_ML0 (by decide) (by decide)) ⟨2, 120, List.forall_mem_cons.mpr ⟨m_X12_spelt_20, fun _ h => absurd h List.not_mem_nil⟩, by decide, by decide, by decide⟩) (by decide) (by decide +kernel)
set_option maxRecDepth 200000 in
set_option maxHeartbeats 4000000 in
def K_X12_write_34 : tb_K := ([.inr (.inl (some 1)), .inl (2, 0)], [(1, (0, 35), .inl (3, 0))], [], [(0, 0), (1180591620717411303424, 1180591620717411303424), (-2147483648, 2147483647), (7, 33)], [(none, [(1, (0, 35), .inl (3, 1))], [], [(0, 0), (1180591620717411303424, 1180591620717411303424), (-2147483648, 2147483647), (7, 33)])], [(0, 35, 35), (85, 7, 33)])
set_option maxRecDepth 200000 in
set_option maxHeartbeats 4000000 in
def T_X12_write_34 : List (tb_S × tb_l) := []
set_option maxRecDepth 200000 in
set_option maxHeartbeats 4000000 in
theorem m_X12_write_34 {l : Launch} : tb_Met l vwCl sa_Ts tb_Z0 yX12_write cX12_write 2 none 2 120 K_X12_write_34 := tb_method (by decide) [20] (t_X12_write [(0, 35, 35), (85, 7, 33)] ) T_X12_write_34 [] 6000 (List.forall_mem_cons.mpr ⟨dX12_write_20, fun _ h => absurd h List.not_mem_nil⟩) (h_X12_write [(0, 35, 35), (85, 7, 33)] 2 120 (by decide) (by decide)  ) (by decide) (by decide +kernel)
set_option maxRecDepth 200000 in
set_option maxHeartbeats 4000000 in
def K_X12_write_35 : tb_K := ([.inr (.inl (some 1)), .inl (2, 0)], [(1, (0, 35), .inl (3, 0))], [], [(0, 0), (1180591620717411303424, 1180591620717411303424), (-2147483648, 2147483647), (8, 34)], [(none, [(1, (0, 35), .inl (3, 1))], [], [(0, 0), (1180591620717411303424, 1180591620717411303424), (-2147483648, 2147483647), (8, 34)])], [(0, 35, 35), (85, 8, 34)])
set_option maxRecDepth 200000 in
set_option maxHeartbeats 4000000 in
def T_X12_write_35 : List (tb_S × tb_l) := []
set_option maxRecDepth 200000 in
set_option maxHeartbeats 4000000 in
theorem m_X12_write_35 {l : Launch} : tb_Met l vwCl sa_Ts tb_Z0 yX12_write cX12_write 2 none 2 120 K_X12_write_35 := tb_method (by decide) [20] (t_X12_write [(0, 35, 35), (85, 8, 34)] ) T_X12_write_35 [] 6000 (List.forall_mem_cons.mpr ⟨dX12_write_20, fun _ h => absurd h List.not_mem_nil⟩) (h_X12_write [(0, 35, 35), (85, 8, 34)] 2 120 (by decide) (by decide)  ) (by decide) (by decide +kernel)
set_option maxRecDepth 200000 in
set_option maxHeartbeats 4000000 in
def K_X12_writeWord_41 : tb_K := ([.inr (.inl (some 1)), .inr (.inr 2)], [(1, (0, 35), .inl (3, 0))], [], [(0, 0), (1180591620717411303424, 1180591620717411303424), (14, 14), (8, 34)], [(none, [(1, (0, 35), .inl (3, 1))], [], [(0, 0), (1180591620717411303424, 1180591620717411303424), (14, 14), (8, 34)])], [(0, 35, 35), (85, 8, 34)])
set_option maxRecDepth 200000 in
set_option maxHeartbeats 4000000 in
def T_X12_writeWord_41 : List (tb_S × tb_l) := []
set_option maxRecDepth 200000 in
set_option maxHeartbeats 4000000 in
theorem m_X12_writeWord_41 {l : Launch} : tb_Met l vwCl sa_Ts tb_Z0 yX12_writeWord cX12_writeWord 3 none 3 141 K_X12_writeWord_41 := tb_method (by decide) [30] (t_X12_writeWord [(0, 35, 35), (85, 8, 34)] [] [K_X12_write_35]) T_X12_writeWord_41 [] 6000 (List.forall_mem_cons.mpr ⟨dX12_writeWord_30, fun _ h => absurd h List.not_mem_nil⟩) (h_X12_writeWord [(0, 35, 35), (85, 8, 34)] 3 141 (by decide) (by decide) [] [K_X12_write_35] (tb_ML0 (by decide) (by decide)) ⟨2, 120, List.forall_mem_cons.mpr ⟨m_X12_write_35, fun _ h => absurd h List.not_mem_nil⟩, by decide, by decide, by decide⟩) (by decide) (by decide +kernel)
set_option maxRecDepth 200000 in
set_option maxHeartbeats 4000000 in
def K_X12_write_36 : tb_K := ([.inr (.inl (some 1)), .inl (2, 0)], [(1, (0, 35), .inl (3, 0))], [], [(0, 0), (1180591620717411303424, 1180591620717411303424), (-2147483648, 2147483647), (9, 35)], [(none, [(1, (0, 35), .inl (3, 1))], [], [(0, 0), (1180591620717411303424, 1180591620717411303424), (-2147483648, 2147483647), (9, 35)])], [(0, 35, 35), (85, 9, 35)])
set_option maxRecDepth 200000 in
set_option maxHeartbeats 4000000 in
def T_X12_write_36 : List (tb_S × tb_l) := []
set_option maxRecDepth 200000 in
set_option maxHeartbeats 4000000 in
theorem m_X12_write_36 {l : Launch} : tb_Met l vwCl sa_Ts tb_Z0 yX12_write cX12_write 2 none 2 120 K_X12_write_36 := tb_method (by decide) [20] (t_X12_write [(0, 35, 35), (85, 9, 35)] ) T_X12_write_36 [] 6000 (List.forall_mem_cons.mpr ⟨dX12_write_20, fun _ h => absurd h List.not_mem_nil⟩) (h_X12_write [(0, 35, 35), (85, 9, 35)] 2 120 (by decide) (by decide)  ) (by decide) (by decide +kernel)
set_option maxRecDepth 200000 in
set_option maxHeartbeats 4000000 in
def K_X12_writeWord_42 : tb_K := ([.inr (.inl (some 1)), .inr (.inr 2)], [(1, (0, 35), .inl (3, 0))], [], [(0, 0), (1180591620717411303424, 1180591620717411303424), (399, 399), (8, 34)], [(none, [(1, (0, 35), .inl (3, 2))], [], [(0, 0), (1180591620717411303424, 1180591620717411303424), (399, 399), (8, 34)])], [(0, 35, 35), (85, 8, 35)])
set_option maxRecDepth 200000 in
set_option maxHeartbeats 4000000 in
def T_X12_writeWord_42 : List (tb_S × tb_l) := []
set_option maxRecDepth 200000 in
set_option maxHeartbeats 4000000 in
theorem m_X12_writeWord_42 {l : Launch} : tb_Met l vwCl sa_Ts tb_Z0 yX12_writeWord cX12_writeWord 3 none 4 163 K_X12_writeWord_42 := tb_method (by decide) [30] (t_X12_writeWord [(0, 35, 35), (85, 8, 35)] [K_X12_writeWord_41] [K_X12_write_36]) T_X12_writeWord_42 [] 6000 (List.forall_mem_cons.mpr ⟨dX12_writeWord_30, fun _ h => absurd h List.not_mem_nil⟩) (h_X12_writeWord [(0, 35, 35), (85, 8, 35)] 4 163 (by decide) (by decide) [K_X12_writeWord_41] [K_X12_write_36] ⟨3, 141, List.forall_mem_cons.mpr ⟨m_X12_writeWord_41, fun _ h => absurd h List.not_mem_nil⟩, by decide, by decide, by decide⟩ ⟨2, 120, List.forall_mem_cons.mpr ⟨m_X12_write_36, fun _ h => absurd h List.not_mem_nil⟩, by decide, by decide, by decide⟩) (by decide) (by decide +kernel)
set_option maxRecDepth 200000 in
set_option maxHeartbeats 4000000 in
def K_X12_write_37 : tb_K := ([.inr (.inl (some 1)), .inl (2, 0)], [(1, (0, 35), .inl (3, 0))], [], [(0, 0), (1180591620717411303424, 1180591620717411303424), (-2147483648, 2147483647), (10, 36)], [(none, [(1, (0, 35), .inl (3, 1))], [], [(0, 0), (1180591620717411303424, 1180591620717411303424), (-2147483648, 2147483647), (10, 36)])], [(0, 35, 35), (85, 10, 36)])
set_option maxRecDepth 200000 in
set_option maxHeartbeats 4000000 in
def T_X12_write_37 : List (tb_S × tb_l) := []
set_option maxRecDepth 200000 in
set_option maxHeartbeats 4000000 in
theorem m_X12_write_37 {l : Launch} : tb_Met l vwCl sa_Ts tb_Z0 yX12_write cX12_write 2 none 2 120 K_X12_write_37 := tb_method (by decide) [20] (t_X12_write [(0, 35, 35), (85, 10, 36)] ) T_X12_write_37 [] 6000 (List.forall_mem_cons.mpr ⟨dX12_write_20, fun _ h => absurd h List.not_mem_nil⟩) (h_X12_write [(0, 35, 35), (85, 10, 36)] 2 120 (by decide) (by decide)  ) (by decide) (by decide +kernel)
set_option maxRecDepth 200000 in
set_option maxHeartbeats 4000000 in
def K_X12_writeWord_43 : tb_K := ([.inr (.inl (some 1)), .inr (.inr 2)], [(1, (0, 35), .inl (3, 0))], [], [(0, 0), (1180591620717411303424, 1180591620717411303424), (10786, 10786), (8, 34)], [(none, [(1, (0, 35), .inl (3, 3))], [], [(0, 0), (1180591620717411303424, 1180591620717411303424), (10786, 10786), (8, 34)])], [(0, 35, 35), (85, 8, 36)])
set_option maxRecDepth 200000 in
set_option maxHeartbeats 4000000 in
def T_X12_writeWord_43 : List (tb_S × tb_l) := []
set_option maxRecDepth 200000 in
set_option maxHeartbeats 4000000 in
theorem m_X12_writeWord_43 {l : Launch} : tb_Met l vwCl sa_Ts tb_Z0 yX12_writeWord cX12_writeWord 3 none 5 185 K_X12_writeWord_43 := tb_method (by decide) [30] (t_X12_writeWord [(0, 35, 35), (85, 8, 36)] [K_X12_writeWord_42] [K_X12_write_37]) T_X12_writeWord_43 [] 6000 (List.forall_mem_cons.mpr ⟨dX12_writeWord_30, fun _ h => absurd h List.not_mem_nil⟩) (h_X12_writeWord [(0, 35, 35), (85, 8, 36)] 5 185 (by decide) (by decide) [K_X12_writeWord_42] [K_X12_write_37] ⟨4, 163, List.forall_mem_cons.mpr ⟨m_X12_writeWord_42, fun _ h => absurd h List.not_mem_nil⟩, by decide, by decide, by decide⟩ ⟨2, 120, List.forall_mem_cons.mpr ⟨m_X12_write_37, fun _ h => absurd h List.not_mem_nil⟩, by decide, by decide, by decide⟩) (by decide) (by decide +kernel)
set_option maxRecDepth 200000 in
set_option maxHeartbeats 4000000 in
def K_X12_write_38 : tb_K := ([.inr (.inl (some 1)), .inl (2, 0)], [(1, (0, 35), .inl (3, 0))], [], [(0, 0), (1180591620717411303424, 1180591620717411303424), (-2147483648, 2147483647), (11, 37)], [(none, [(1, (0, 35), .inl (3, 1))], [], [(0, 0), (1180591620717411303424, 1180591620717411303424), (-2147483648, 2147483647), (11, 37)])], [(0, 35, 35), (85, 11, 37)])
set_option maxRecDepth 200000 in
set_option maxHeartbeats 4000000 in
def T_X12_write_38 : List (tb_S × tb_l) := []
set_option maxRecDepth 200000 in
set_option maxHeartbeats 4000000 in
theorem m_X12_write_38 {l : Launch} : tb_Met l vwCl sa_Ts tb_Z0 yX12_write cX12_write 2 none 2 120 K_X12_write_38 := tb_method (by decide) [20] (t_X12_write [(0, 35, 35), (85, 11, 37)] ) T_X12_write_38 [] 6000 (List.forall_mem_cons.mpr ⟨dX12_write_20, fun _ h => absurd h List.not_mem_nil⟩) (h_X12_write [(0, 35, 35), (85, 11, 37)] 2 120 (by decide) (by decide)  ) (by decide) (by decide +kernel)
set_option maxRecDepth 200000 in
set_option maxHeartbeats 4000000 in
def K_X12_writeWord_44 : tb_K := ([.inr (.inl (some 1)), .inr (.inr 2)], [(1, (0, 35), .inl (3, 0))], [], [(0, 0), (1180591620717411303424, 1180591620717411303424), (291224, 291224), (8, 34)], [(none, [(1, (0, 35), .inl (3, 4))], [], [(0, 0), (1180591620717411303424, 1180591620717411303424), (291224, 291224), (8, 34)])], [(0, 35, 35), (85, 8, 37)])
set_option maxRecDepth 200000 in
set_option maxHeartbeats 4000000 in
def T_X12_writeWord_44 : List (tb_S × tb_l) := []
set_option maxRecDepth 200000 in
set_option maxHeartbeats 4000000 in
theorem m_X12_writeWord_44 {l : Launch} : tb_Met l vwCl sa_Ts tb_Z0 yX12_writeWord cX12_writeWord 3 none 6 207 K_X12_writeWord_44 := tb_method (by decide) [30] (t_X12_writeWord [(0, 35, 35), (85, 8, 37)] [K_X12_writeWord_43] [K_X12_write_38]) T_X12_writeWord_44 [] 6000 (List.forall_mem_cons.mpr ⟨dX12_writeWord_30, fun _ h => absurd h List.not_mem_nil⟩) (h_X12_writeWord [(0, 35, 35), (85, 8, 37)] 6 207 (by decide) (by decide) [K_X12_writeWord_43] [K_X12_write_38] ⟨5, 185, List.forall_mem_cons.mpr ⟨m_X12_writeWord_43, fun _ h => absurd h List.not_mem_nil⟩, by decide, by decide, by decide⟩ ⟨2, 120, List.forall_mem_cons.mpr ⟨m_X12_write_38, fun _ h => absurd h List.not_mem_nil⟩, by decide, by decide, by decide⟩) (by decide) (by decide +kernel)
set_option maxRecDepth 200000 in
set_option maxHeartbeats 4000000 in
def K_X12_write_39 : tb_K := ([.inr (.inl (some 1)), .inl (2, 0)], [(1, (0, 35), .inl (3, 0))], [], [(0, 0), (1180591620717411303424, 1180591620717411303424), (-2147483648, 2147483647), (12, 38)], [(none, [(1, (0, 35), .inl (3, 1))], [], [(0, 0), (1180591620717411303424, 1180591620717411303424), (-2147483648, 2147483647), (12, 38)])], [(0, 35, 35), (85, 12, 38)])
set_option maxRecDepth 200000 in
set_option maxHeartbeats 4000000 in
def T_X12_write_39 : List (tb_S × tb_l) := []
set_option maxRecDepth 200000 in
set_option maxHeartbeats 4000000 in
theorem m_X12_write_39 {l : Launch} : tb_Met l vwCl sa_Ts tb_Z0 yX12_write cX12_write 2 none 2 120 K_X12_write_39 := tb_method (by decide) [20] (t_X12_write [(0, 35, 35), (85, 12, 38)] ) T_X12_write_39 [] 6000 (List.forall_mem_cons.mpr ⟨dX12_write_20, fun _ h => absurd h List.not_mem_nil⟩) (h_X12_write [(0, 35, 35), (85, 12, 38)] 2 120 (by decide) (by decide)  ) (by decide) (by decide +kernel)
set_option maxRecDepth 200000 in
set_option maxHeartbeats 4000000 in
def K_X12_writeWord_45 : tb_K := ([.inr (.inl (some 1)), .inr (.inr 2)], [(1, (0, 35), .inl (3, 0))], [], [(0, 0), (1180591620717411303424, 1180591620717411303424), (7863053, 7863053), (8, 34)], [(none, [(1, (0, 35), .inl (3, 5))], [], [(0, 0), (1180591620717411303424, 1180591620717411303424), (7863053, 7863053), (8, 34)])], [(0, 35, 35), (85, 8, 38)])
set_option maxRecDepth 200000 in
set_option maxHeartbeats 4000000 in
def T_X12_writeWord_45 : List (tb_S × tb_l) := []
set_option maxRecDepth 200000 in
set_option maxHeartbeats 4000000 in
theorem m_X12_writeWord_45 {l : Launch} : tb_Met l vwCl sa_Ts tb_Z0 yX12_writeWord cX12_writeWord 3 none 7 229 K_X12_writeWord_45 := tb_method (by decide) [30] (t_X12_writeWord [(0, 35, 35), (85, 8, 38)] [K_X12_writeWord_44] [K_X12_write_39]) T_X12_writeWord_45 [] 6000 (List.forall_mem_cons.mpr ⟨dX12_writeWord_30, fun _ h => absurd h List.not_mem_nil⟩) (h_X12_writeWord [(0, 35, 35), (85, 8, 38)] 7 229 (by decide) (by decide) [K_X12_writeWord_44] [K_X12_write_39] ⟨6, 207, List.forall_mem_cons.mpr ⟨m_X12_writeWord_44, fun _ h => absurd h List.not_mem_nil⟩, by decide, by decide, by decide⟩ ⟨2, 120, List.forall_mem_cons.mpr ⟨m_X12_write_39, fun _ h => absurd h List.not_mem_nil⟩, by decide, by decide, by decide⟩) (by decide) (by decide +kernel)
set_option maxRecDepth 200000 in
set_option maxHeartbeats 4000000 in
def K_X12_write_40 : tb_K := ([.inr (.inl (some 1)), .inl (2, 0)], [(1, (0, 35), .inl (3, 0))], [], [(0, 0), (1180591620717411303424, 1180591620717411303424), (-2147483648, 2147483647), (13, 39)], [(none, [(1, (0, 35), .inl (3, 1))], [], [(0, 0), (1180591620717411303424, 1180591620717411303424), (-2147483648, 2147483647), (13, 39)])], [(0, 35, 35), (85, 13, 39)])
set_option maxRecDepth 200000 in
set_option maxHeartbeats 4000000 in
def T_X12_write_40 : List (tb_S × tb_l) := []
set_option maxRecDepth 200000 in
set_option maxHeartbeats 4000000 in
theorem m_X12_write_40 {l : Launch} : tb_Met l vwCl sa_Ts tb_Z0 yX12_write cX12_write 2 none 2 120 K_X12_write_40 := tb_method (by decide) [20] (t_X12_write [(0, 35, 35), (85, 13, 39)] ) T_X12_write_40 [] 6000 (List.forall_mem_cons.mpr ⟨dX12_write_20, fun _ h => absurd h List.not_mem_nil⟩) (h_X12_write [(0, 35, 35), (85, 13, 39)] 2 120 (by decide) (by decide)  ) (by decide) (by decide +kernel)
set_option maxRecDepth 200000 in
set_option maxHeartbeats 4000000 in
def K_X12_writeWord_46 : tb_K := ([.inr (.inl (some 1)), .inr (.inr 2)], [(1, (0, 35), .inl (3, 0))], [], [(0, 0), (1180591620717411303424, 1180591620717411303424), (212302449, 212302449), (8, 34)], [(none, [(1, (0, 35), .inl (3, 6))], [], [(0, 0), (1180591620717411303424, 1180591620717411303424), (212302449, 212302449), (8, 34)])], [(0, 35, 35), (85, 8, 39)])
set_option maxRecDepth 200000 in
set_option maxHeartbeats 4000000 in
def T_X12_writeWord_46 : List (tb_S × tb_l) := []
set_option maxRecDepth 200000 in
set_option maxHeartbeats 4000000 in
theorem m_X12_writeWord_46 {l : Launch} : tb_Met l vwCl sa_Ts tb_Z0 yX12_writeWord cX12_writeWord 3 none 8 251 K_X12_writeWord_46 := tb_method (by decide) [30] (t_X12_writeWord [(0, 35, 35), (85, 8, 39)] [K_X12_writeWord_45] [K_X12_write_40]) T_X12_writeWord_46 [] 6000 (List.forall_mem_cons.mpr ⟨dX12_writeWord_30, fun _ h => absurd h List.not_mem_nil⟩) (h_X12_writeWord [(0, 35, 35), (85, 8, 39)] 8 251 (by decide) (by decide) [K_X12_writeWord_45] [K_X12_write_40] ⟨7, 229, List.forall_mem_cons.mpr ⟨m_X12_writeWord_45, fun _ h => absurd h List.not_mem_nil⟩, by decide, by decide, by decide⟩ ⟨2, 120, List.forall_mem_cons.mpr ⟨m_X12_write_40, fun _ h => absurd h List.not_mem_nil⟩, by decide, by decide, by decide⟩) (by decide) (by decide +kernel)
