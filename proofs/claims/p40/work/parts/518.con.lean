set_option maxRecDepth 200000 in
set_option maxHeartbeats 4000000 in
def K_X12_write_20 : tb_K := ([.inr (.inl (some 1)), .inl (2, 0)], [(1, (0, 35), .inl (3, 0))], [], [(0, 0), (1180591620717411303492, 1180591620717411303492), (-2147483648, 2147483647), (7, 15)], [(none, [(1, (0, 35), .inl (3, 1))], [], [(0, 0), (1180591620717411303492, 1180591620717411303492), (-2147483648, 2147483647), (7, 15)])], [(68, 35, 35), (83, 7, 15)])
set_option maxRecDepth 200000 in
set_option maxHeartbeats 4000000 in
def T_X12_write_20 : List (tb_S × tb_l) := []
set_option maxRecDepth 200000 in
set_option maxHeartbeats 4000000 in
theorem m_X12_write_20 {l : Launch} : tb_Met l vwCl sa_Ts tb_Z0 yX12_write cX12_write 2 none 2 120 K_X12_write_20 := tb_method (by decide) [20] (t_X12_write [(68, 35, 35), (83, 7, 15)] ) T_X12_write_20 [] 6000 (List.forall_mem_cons.mpr ⟨dX12_write_20, fun _ h => absurd h List.not_mem_nil⟩) (h_X12_write [(68, 35, 35), (83, 7, 15)] 2 120 (by decide) (by decide)  ) (by decide) (by decide +kernel)
set_option maxRecDepth 200000 in
set_option maxHeartbeats 4000000 in
def K_X12_write_21 : tb_K := ([.inr (.inl (some 1)), .inl (2, 0)], [(1, (0, 35), .inl (3, 0))], [], [(0, 0), (1180591620717411303492, 1180591620717411303492), (-2147483648, 2147483647), (7, 14)], [(none, [(1, (0, 35), .inl (3, 1))], [], [(0, 0), (1180591620717411303492, 1180591620717411303492), (-2147483648, 2147483647), (7, 14)])], [(68, 35, 35), (83, 7, 14)])
set_option maxRecDepth 200000 in
set_option maxHeartbeats 4000000 in
def T_X12_write_21 : List (tb_S × tb_l) := []
set_option maxRecDepth 200000 in
set_option maxHeartbeats 4000000 in
theorem m_X12_write_21 {l : Launch} : tb_Met l vwCl sa_Ts tb_Z0 yX12_write cX12_write 2 none 2 120 K_X12_write_21 := tb_method (by decide) [20] (t_X12_write [(68, 35, 35), (83, 7, 14)] ) T_X12_write_21 [] 6000 (List.forall_mem_cons.mpr ⟨dX12_write_20, fun _ h => absurd h List.not_mem_nil⟩) (h_X12_write [(68, 35, 35), (83, 7, 14)] 2 120 (by decide) (by decide)  ) (by decide) (by decide +kernel)
set_option maxRecDepth 200000 in
set_option maxHeartbeats 4000000 in
def K_X12_writeWord_12 : tb_K := ([.inr (.inl (some 1)), .inr (.inr 2)], [(1, (0, 35), .inl (3, 0))], [], [(0, 0), (1180591620717411303492, 1180591620717411303492), (-105, 26), (6, 13)], [(none, [(1, (0, 35), .inl (3, 1))], [], [(0, 0), (1180591620717411303492, 1180591620717411303492), (-105, 26), (6, 13)])], [(68, 35, 35), (83, 6, 13)])
set_option maxRecDepth 200000 in
set_option maxHeartbeats 4000000 in
def T_X12_writeWord_12 : List (tb_S × tb_l) := []
set_option maxRecDepth 200000 in
set_option maxHeartbeats 4000000 in
theorem m_X12_writeWord_12 {l : Launch} : tb_Met l vwCl sa_Ts tb_Z0 yX12_writeWord cX12_writeWord 3 none 3 141 K_X12_writeWord_12 := tb_method (by decide) [30] (t_X12_writeWord [(68, 35, 35), (83, 6, 13)] [] [K_X12_write_14]) T_X12_writeWord_12 [] 6000 (List.forall_mem_cons.mpr ⟨dX12_writeWord_30, fun _ h => absurd h List.not_mem_nil⟩) (h_X12_writeWord [(68, 35, 35), (83, 6, 13)] 3 141 (by decide) (by decide) [] [K_X12_write_14] (tb_ML0 (by decide) (by decide)) ⟨2, 120, List.forall_mem_cons.mpr ⟨m_X12_write_14, fun _ h => absurd h List.not_mem_nil⟩, by decide, by decide, by decide⟩) (by decide) (by decide +kernel)
set_option maxRecDepth 200000 in
set_option maxHeartbeats 4000000 in
def K_X12_writeWord_13 : tb_K := ([.inr (.inl (some 1)), .inr (.inr 2)], [(1, (0, 35), .inl (3, 0))], [], [(0, 0), (1180591620717411303492, 1180591620717411303492), (-2838, 728), (6, 13)], [(none, [(1, (0, 35), .inl (4, 0))], [], [(0, 0), (1180591620717411303492, 1180591620717411303492), (-2838, 728), (6, 13), (7, 15)])], [(68, 35, 35), (83, 6, 14)])
set_option maxRecDepth 200000 in
set_option maxHeartbeats 4000000 in
def T_X12_writeWord_13 : List (tb_S × tb_l) := []
set_option maxRecDepth 200000 in
set_option maxHeartbeats 4000000 in
theorem m_X12_writeWord_13 {l : Launch} : tb_Met l vwCl sa_Ts tb_Z0 yX12_writeWord cX12_writeWord 3 none 4 163 K_X12_writeWord_13 := tb_method (by decide) [30] (t_X12_writeWord [(68, 35, 35), (83, 6, 14)] [K_X12_writeWord_12] [K_X12_write_14, K_X12_write_21]) T_X12_writeWord_13 [] 6000 (List.forall_mem_cons.mpr ⟨dX12_writeWord_30, fun _ h => absurd h List.not_mem_nil⟩) (h_X12_writeWord [(68, 35, 35), (83, 6, 14)] 4 163 (by decide) (by decide) [K_X12_writeWord_12] [K_X12_write_14, K_X12_write_21] ⟨3, 141, List.forall_mem_cons.mpr ⟨m_X12_writeWord_12, fun _ h => absurd h List.not_mem_nil⟩, by decide, by decide, by decide⟩ ⟨2, 120, List.forall_mem_cons.mpr ⟨m_X12_write_14, List.forall_mem_cons.mpr ⟨m_X12_write_21, fun _ h => absurd h List.not_mem_nil⟩⟩, by decide, by decide, by decide⟩) (by decide) (by decide +kernel)
set_option maxRecDepth 200000 in
set_option maxHeartbeats 4000000 in
def K_X12_writeWord_14 : tb_K := ([.inr (.inl (some 1)), .inr (.inr 2)], [(1, (0, 35), .inl (3, 0))], [], [(0, 0), (1180591620717411303492, 1180591620717411303492), (-76626, 19682), (6, 13)], [(none, [(1, (0, 35), .inl (4, 0))], [], [(0, 0), (1180591620717411303492, 1180591620717411303492), (-76626, 19682), (6, 13), (7, 16)])], [(68, 35, 35), (83, 6, 15)])
set_option maxRecDepth 200000 in
set_option maxHeartbeats 4000000 in
def T_X12_writeWord_14 : List (tb_S × tb_l) := []
set_option maxRecDepth 200000 in
set_option maxHeartbeats 4000000 in
theorem m_X12_writeWord_14 {l : Launch} : tb_Met l vwCl sa_Ts tb_Z0 yX12_writeWord cX12_writeWord 3 none 5 185 K_X12_writeWord_14 := tb_method (by decide) [30] (t_X12_writeWord [(68, 35, 35), (83, 6, 15)] [K_X12_writeWord_13] [K_X12_write_14, K_X12_write_20]) T_X12_writeWord_14 [] 6000 (List.forall_mem_cons.mpr ⟨dX12_writeWord_30, fun _ h => absurd h List.not_mem_nil⟩) (h_X12_writeWord [(68, 35, 35), (83, 6, 15)] 5 185 (by decide) (by decide) [K_X12_writeWord_13] [K_X12_write_14, K_X12_write_20] ⟨4, 163, List.forall_mem_cons.mpr ⟨m_X12_writeWord_13, fun _ h => absurd h List.not_mem_nil⟩, by decide, by decide, by decide⟩ ⟨2, 120, List.forall_mem_cons.mpr ⟨m_X12_write_14, List.forall_mem_cons.mpr ⟨m_X12_write_20, fun _ h => absurd h List.not_mem_nil⟩⟩, by decide, by decide, by decide⟩) (by decide) (by decide +kernel)
set_option maxRecDepth 200000 in
set_option maxHeartbeats 4000000 in
def K_X12_writeWord_15 : tb_K := ([.inr (.inl (some 1)), .inr (.inr 2)], [(1, (0, 35), .inl (3, 0))], [], [(0, 0), (1180591620717411303492, 1180591620717411303492), (-2068925, 531440), (6, 13)], [(none, [(1, (0, 35), .inl (4, 0))], [], [(0, 0), (1180591620717411303492, 1180591620717411303492), (-2068925, 531440), (6, 13), (7, 17)])], [(68, 35, 35), (83, 6, 16)])
set_option maxRecDepth 200000 in
set_option maxHeartbeats 4000000 in
def T_X12_writeWord_15 : List (tb_S × tb_l) := []
set_option maxRecDepth 200000 in
set_option maxHeartbeats 4000000 in
theorem m_X12_writeWord_15 {l : Launch} : tb_Met l vwCl sa_Ts tb_Z0 yX12_writeWord cX12_writeWord 3 none 6 207 K_X12_writeWord_15 := tb_method (by decide) [30] (t_X12_writeWord [(68, 35, 35), (83, 6, 16)] [K_X12_writeWord_14] [K_X12_write_14, K_X12_write_19]) T_X12_writeWord_15 [] 6000 (List.forall_mem_cons.mpr ⟨dX12_writeWord_30, fun _ h => absurd h List.not_mem_nil⟩) (h_X12_writeWord [(68, 35, 35), (83, 6, 16)] 6 207 (by decide) (by decide) [K_X12_writeWord_14] [K_X12_write_14, K_X12_write_19] ⟨5, 185, List.forall_mem_cons.mpr ⟨m_X12_writeWord_14, fun _ h => absurd h List.not_mem_nil⟩, by decide, by decide, by decide⟩ ⟨2, 120, List.forall_mem_cons.mpr ⟨m_X12_write_14, List.forall_mem_cons.mpr ⟨m_X12_write_19, fun _ h => absurd h List.not_mem_nil⟩⟩, by decide, by decide, by decide⟩) (by decide) (by decide +kernel)
set_option maxRecDepth 200000 in
set_option maxHeartbeats 4000000 in
def K_X12_writeWord_16 : tb_K := ([.inr (.inl (some 1)), .inr (.inr 2)], [(1, (0, 35), .inl (3, 0))], [], [(0, 0), (1180591620717411303492, 1180591620717411303492), (-55860977, 14348906), (6, 13)], [(none, [(1, (0, 35), .inl (4, 0))], [], [(0, 0), (1180591620717411303492, 1180591620717411303492), (-55860977, 14348906), (6, 13), (7, 18)])], [(68, 35, 35), (83, 6, 17)])
set_option maxRecDepth 200000 in
set_option maxHeartbeats 4000000 in
def T_X12_writeWord_16 : List (tb_S × tb_l) := []
set_option maxRecDepth 200000 in
set_option maxHeartbeats 4000000 in
theorem m_X12_writeWord_16 {l : Launch} : tb_Met l vwCl sa_Ts tb_Z0 yX12_writeWord cX12_writeWord 3 none 7 229 K_X12_writeWord_16 := tb_method (by decide) [30] (t_X12_writeWord [(68, 35, 35), (83, 6, 17)] [K_X12_writeWord_15] [K_X12_write_14, K_X12_write_18]) T_X12_writeWord_16 [] 6000 (List.forall_mem_cons.mpr ⟨dX12_writeWord_30, fun _ h => absurd h List.not_mem_nil⟩) (h_X12_writeWord [(68, 35, 35), (83, 6, 17)] 7 229 (by decide) (by decide) [K_X12_writeWord_15] [K_X12_write_14, K_X12_write_18] ⟨6, 207, List.forall_mem_cons.mpr ⟨m_X12_writeWord_15, fun _ h => absurd h List.not_mem_nil⟩, by decide, by decide, by decide⟩ ⟨2, 120, List.forall_mem_cons.mpr ⟨m_X12_write_14, List.forall_mem_cons.mpr ⟨m_X12_write_18, fun _ h => absurd h List.not_mem_nil⟩⟩, by decide, by decide, by decide⟩) (by decide) (by decide +kernel)
set_option maxRecDepth 200000 in
set_option maxHeartbeats 4000000 in
def K_X12_writeWord_17 : tb_K := ([.inr (.inl (some 1)), .inr (.inr 2)], [(1, (0, 35), .inl (3, 0))], [], [(0, 0), (1180591620717411303492, 1180591620717411303492), (-1508246402, 387420488), (6, 13)], [(none, [(1, (0, 35), .inl (4, 0))], [], [(0, 0), (1180591620717411303492, 1180591620717411303492), (-1508246402, 387420488), (6, 13), (7, 19)])], [(68, 35, 35), (83, 6, 18)])
set_option maxRecDepth 200000 in
set_option maxHeartbeats 4000000 in
def T_X12_writeWord_17 : List (tb_S × tb_l) := []
set_option maxRecDepth 200000 in
set_option maxHeartbeats 4000000 in
theorem m_X12_writeWord_17 {l : Launch} : tb_Met l vwCl sa_Ts tb_Z0 yX12_writeWord cX12_writeWord 3 none 8 251 K_X12_writeWord_17 := tb_method (by decide) [30] (t_X12_writeWord [(68, 35, 35), (83, 6, 18)] [K_X12_writeWord_16] [K_X12_write_14, K_X12_write_17]) T_X12_writeWord_17 [] 6000 (List.forall_mem_cons.mpr ⟨dX12_writeWord_30, fun _ h => absurd h List.not_mem_nil⟩) (h_X12_writeWord [(68, 35, 35), (83, 6, 18)] 8 251 (by decide) (by decide) [K_X12_writeWord_16] [K_X12_write_14, K_X12_write_17] ⟨7, 229, List.forall_mem_cons.mpr ⟨m_X12_writeWord_16, fun _ h => absurd h List.not_mem_nil⟩, by decide, by decide, by decide⟩ ⟨2, 120, List.forall_mem_cons.mpr ⟨m_X12_write_14, List.forall_mem_cons.mpr ⟨m_X12_write_17, fun _ h => absurd h List.not_mem_nil⟩⟩, by decide, by decide, by decide⟩) (by decide) (by decide +kernel)
set_option maxRecDepth 200000 in
set_option maxHeartbeats 4000000 in
def K_X12_writeWord_18 : tb_K := ([.inr (.inl (some 1)), .inr (.inr 2)], [(1, (0, 35), .inl (3, 0))], [], [(0, 0), (1180591620717411303492, 1180591620717411303492), (-40722652880, 10460353202), (6, 13)], [(none, [(1, (0, 35), .inl (4, 0))], [], [(0, 0), (1180591620717411303492, 1180591620717411303492), (-40722652880, 10460353202), (6, 13), (7, 20)])], [(68, 35, 35), (83, 6, 19)])
set_option maxRecDepth 200000 in
set_option maxHeartbeats 4000000 in
def T_X12_writeWord_18 : List (tb_S × tb_l) := []
set_option maxRecDepth 200000 in
set_option maxHeartbeats 4000000 in
theorem m_X12_writeWord_18 {l : Launch} : tb_Met l vwCl sa_Ts tb_Z0 yX12_writeWord cX12_writeWord 3 none 9 273 K_X12_writeWord_18 := tb_method (by decide) [30] (t_X12_writeWord [(68, 35, 35), (83, 6, 19)] [K_X12_writeWord_17] [K_X12_write_14, K_X12_write_16]) T_X12_writeWord_18 [] 6000 (List.forall_mem_cons.mpr ⟨dX12_writeWord_30, fun _ h => absurd h List.not_mem_nil⟩) (h_X12_writeWord [(68, 35, 35), (83, 6, 19)] 9 273 (by decide) (by decide) [K_X12_writeWord_17] [K_X12_write_14, K_X12_write_16] ⟨8, 251, List.forall_mem_cons.mpr ⟨m_X12_writeWord_17, fun _ h => absurd h List.not_mem_nil⟩, by decide, by decide, by decide⟩ ⟨2, 120, List.forall_mem_cons.mpr ⟨m_X12_write_14, List.forall_mem_cons.mpr ⟨m_X12_write_16, fun _ h => absurd h List.not_mem_nil⟩⟩, by decide, by decide, by decide⟩) (by decide) (by decide +kernel)
set_option maxRecDepth 200000 in
set_option maxHeartbeats 4000000 in
def K_X12_writeWord_19 : tb_K := ([.inr (.inl (some 1)), .inr (.inr 2)], [(1, (0, 35), .inl (3, 0))], [], [(0, 0), (1180591620717411303492, 1180591620717411303492), (-1099511627776, 282429536480), (6, 13)], [(none, [(1, (0, 35), .inl (4, 0))], [], [(0, 0), (1180591620717411303492, 1180591620717411303492), (-1099511627776, 282429536480), (6, 13), (7, 21)])], [(68, 35, 35), (83, 6, 20)])
set_option maxRecDepth 200000 in
set_option maxHeartbeats 4000000 in
def T_X12_writeWord_19 : List (tb_S × tb_l) := []
set_option maxRecDepth 200000 in
set_option maxHeartbeats 4000000 in
theorem m_X12_writeWord_19 {l : Launch} : tb_Met l vwCl sa_Ts tb_Z0 yX12_writeWord cX12_writeWord 3 none 10 295 K_X12_writeWord_19 := tb_method (by decide) [30] (t_X12_writeWord [(68, 35, 35), (83, 6, 20)] [K_X12_writeWord_18] [K_X12_write_14, K_X12_write_15]) T_X12_writeWord_19 [] 6000 (List.forall_mem_cons.mpr ⟨dX12_writeWord_30, fun _ h => absurd h List.not_mem_nil⟩) (h_X12_writeWord [(68, 35, 35), (83, 6, 20)] 10 295 (by decide) (by decide) [K_X12_writeWord_18] [K_X12_write_14, K_X12_write_15] ⟨9, 273, List.forall_mem_cons.mpr ⟨m_X12_writeWord_18, fun _ h => absurd h List.not_mem_nil⟩, by decide, by decide, by decide⟩ ⟨2, 120, List.forall_mem_cons.mpr ⟨m_X12_write_14, List.forall_mem_cons.mpr ⟨m_X12_write_15, fun _ h => absurd h List.not_mem_nil⟩⟩, by decide, by decide, by decide⟩) (by decide) (by decide +kernel)
set_option maxRecDepth 200000 in
set_option maxHeartbeats 4000000 in
def K_X12_writeNext_2 : tb_K := ([.inr (.inl (some 1)), .inr (.inr 2)], [(1, (0, 35), .inl (3, 0))], [], [(0, 0), (1180591620717411303492, 1180591620717411303492), (-1099511627776, 282429536480), (5, 12)], [(none, [(1, (0, 35), .inl (4, 0))], [], [(0, 0), (1180591620717411303492, 1180591620717411303492), (-1099511627776, 282429536480), (5, 12), (7, 21)])], [(68, 35, 35), (83, 5, 20)])
set_option maxRecDepth 200000 in
set_option maxHeartbeats 4000000 in
def T_X12_writeNext_2 : List (tb_S × tb_l) := []
set_option maxRecDepth 200000 in
set_option maxHeartbeats 4000000 in
theorem m_X12_writeNext_2 {l : Launch} : tb_Met l vwCl sa_Ts tb_Z0 yX12_writeNext cX12_writeNext 3 none 11 317 K_X12_writeNext_2 := tb_method (by decide) [11] (t_X12_writeNext [(68, 35, 35), (83, 5, 20)] [K_X12_write_13] [K_X12_writeWord_19]) T_X12_writeNext_2 [] 6000 (List.forall_mem_cons.mpr ⟨dX12_writeNext_11, fun _ h => absurd h List.not_mem_nil⟩) (h_X12_writeNext [(68, 35, 35), (83, 5, 20)] 11 317 (by decide) (by decide) [K_X12_write_13] [K_X12_writeWord_19] ⟨2, 120, List.forall_mem_cons.mpr ⟨m_X12_write_13, fun _ h => absurd h List.not_mem_nil⟩, by decide, by decide, by decide⟩ ⟨10, 295, List.forall_mem_cons.mpr ⟨m_X12_writeWord_19, fun _ h => absurd h List.not_mem_nil⟩, by decide, by decide, by decide⟩) (by decide) (by decide +kernel)
set_option maxRecDepth 200000 in
set_option maxHeartbeats 4000000 in
def K_X12_wordOf_4 : tb_K := ([.inl (1, 0)], [], [], [(0, 0), (12, 12)], [(some (.inr (.inr 2)), [], [], [(0, 0), (12, 12), (12531826, 12531826)])], [])
set_option maxRecDepth 200000 in
set_option maxHeartbeats 4000000 in
def T_X12_wordOf_4 : List (tb_S × tb_l) := []
set_option maxRecDepth 200000 in
set_option maxHeartbeats 4000000 in
theorem m_X12_wordOf_4 {l : Launch} : tb_Met l vwCl sa_Ts tb_Z0 yX12_wordOf cX12_wordOf 1 (some .long) 3 148 K_X12_wordOf_4 := tb_method (by decide) [288] (t_X12_wordOf [] [] [] [] [] [] [] [] [] [] [] [] [] [K_X12_spelt_13] [] [] [] [] [] [] []) T_X12_wordOf_4 [] 6000 (List.forall_mem_cons.mpr ⟨dX12_wordOf_288, fun _ h => absurd h List.not_mem_nil⟩) (h_X12_wordOf [] 3 148 (by decide) (by decide) [] [] [] [] [] [] [] [] [] [] [] [] [K_X12_spelt_13] [] [] [] [] [] [] [] (tb_ML0 (by decide) (by decide)) (tb_ML0 (by decide) (by decide)) (tb_ML0 (by decide) (by decide)) (tb_ML0 (by decide) (by decide)) (tb_ML0 (by decide) (by decide)) (tb_ML0 (by decide) (by decide)) (tb_ML0 (by decide) (by decide)) (tb_ML0 (by decide) (by decide)) (tb_ML0 (by decide) (by decide)) (tb_ML0 (by decide) (by decide)) (tb_ML0 (by decide) (by decide)) (tb_ML0 (by decide) (by decide)) ⟨2, 120, List.forall_mem_cons.mpr ⟨m_X12_spelt_13, fun _ h => absurd h List.not_mem_nil⟩, by decide, by decide, by decide⟩ (tb_ML0 (by decide) (by decide)) (tb_ML0 (by decide) (by decide)) (tb_ML0 (by decide) (by decide)) (tb_ML0 (by decide) (by decide)) (tb_ML0 (by decide) (by decide)) (tb_ML0 (by decide) (by decide)) (tb_ML0 (by decide) (by decide))) (by decide) (by decide +kernel)
set_option maxRecDepth 200000 in
set_option maxHeartbeats 4000000 in
def K_X12_writeWord_20 : tb_K := ([.inr (.inl (some 1)), .inr (.inr 2)], [(1, (0, 35), .inl (3, 0))], [], [(0, 0), (1180591620717411303492, 1180591620717411303492), (23, 23), (2, 9)], [(none, [(1, (0, 35), .inl (3, 1))], [], [(0, 0), (1180591620717411303492, 1180591620717411303492), (23, 23), (2, 9)])], [(68, 35, 35), (83, 2, 9)])
set_option maxRecDepth 200000 in
set_option maxHeartbeats 4000000 in
def T_X12_writeWord_20 : List (tb_S × tb_l) := []
set_option maxRecDepth 200000 in
set_option maxHeartbeats 4000000 in
theorem m_X12_writeWord_20 {l : Launch} : tb_Met l vwCl sa_Ts tb_Z0 yX12_writeWord cX12_writeWord 3 none 3 141 K_X12_writeWord_20 := tb_method (by decide) [30] (t_X12_writeWord [(68, 35, 35), (83, 2, 9)] [] [K_X12_write_10]) T_X12_writeWord_20 [] 6000 (List.forall_mem_cons.mpr ⟨dX12_writeWord_30, fun _ h => absurd h List.not_mem_nil⟩) (h_X12_writeWord [(68, 35, 35), (83, 2, 9)] 3 141 (by decide) (by decide) [] [K_X12_write_10] (tb_ML0 (by decide) (by decide)) ⟨2, 120, List.forall_mem_cons.mpr ⟨m_X12_write_10, fun _ h => absurd h List.not_mem_nil⟩, by decide, by decide, by decide⟩) (by decide) (by decide +kernel)
set_option maxRecDepth 200000 in
set_option maxHeartbeats 4000000 in
def K_X12_writeWord_21 : tb_K := ([.inr (.inl (some 1)), .inr (.inr 2)], [(1, (0, 35), .inl (3, 0))], [], [(0, 0), (1180591620717411303492, 1180591620717411303492), (636, 636), (2, 9)], [(none, [(1, (0, 35), .inl (3, 2))], [], [(0, 0), (1180591620717411303492, 1180591620717411303492), (636, 636), (2, 9)])], [(68, 35, 35), (83, 2, 10)])
set_option maxRecDepth 200000 in
set_option maxHeartbeats 4000000 in
def T_X12_writeWord_21 : List (tb_S × tb_l) := []
set_option maxRecDepth 200000 in
set_option maxHeartbeats 4000000 in
theorem m_X12_writeWord_21 {l : Launch} : tb_Met l vwCl sa_Ts tb_Z0 yX12_writeWord cX12_writeWord 3 none 4 163 K_X12_writeWord_21 := tb_method (by decide) [30] (t_X12_writeWord [(68, 35, 35), (83, 2, 10)] [K_X12_writeWord_20] [K_X12_write_11]) T_X12_writeWord_21 [] 6000 (List.forall_mem_cons.mpr ⟨dX12_writeWord_30, fun _ h => absurd h List.not_mem_nil⟩) (h_X12_writeWord [(68, 35, 35), (83, 2, 10)] 4 163 (by decide) (by decide) [K_X12_writeWord_20] [K_X12_write_11] ⟨3, 141, List.forall_mem_cons.mpr ⟨m_X12_writeWord_20, fun _ h => absurd h List.not_mem_nil⟩, by decide, by decide, by decide⟩ ⟨2, 120, List.forall_mem_cons.mpr ⟨m_X12_write_11, fun _ h => absurd h List.not_mem_nil⟩, by decide, by decide, by decide⟩) (by decide) (by decide +kernel)
set_option maxRecDepth 200000 in
set_option maxHeartbeats 4000000 in
def K_X12_writeWord_22 : tb_K := ([.inr (.inl (some 1)), .inr (.inr 2)], [(1, (0, 35), .inl (3, 0))], [], [(0, 0), (1180591620717411303492, 1180591620717411303492), (17190, 17190), (2, 9)], [(none, [(1, (0, 35), .inl (3, 3))], [], [(0, 0), (1180591620717411303492, 1180591620717411303492), (17190, 17190), (2, 9)])], [(68, 35, 35), (83, 2, 11)])
set_option maxRecDepth 200000 in
set_option maxHeartbeats 4000000 in
def T_X12_writeWord_22 : List (tb_S × tb_l) := []
set_option maxRecDepth 200000 in
set_option maxHeartbeats 4000000 in
theorem m_X12_writeWord_22 {l : Launch} : tb_Met l vwCl sa_Ts tb_Z0 yX12_writeWord cX12_writeWord 3 none 5 185 K_X12_writeWord_22 := tb_method (by decide) [30] (t_X12_writeWord [(68, 35, 35), (83, 2, 11)] [K_X12_writeWord_21] [K_X12_write_12]) T_X12_writeWord_22 [] 6000 (List.forall_mem_cons.mpr ⟨dX12_writeWord_30, fun _ h => absurd h List.not_mem_nil⟩) (h_X12_writeWord [(68, 35, 35), (83, 2, 11)] 5 185 (by decide) (by decide) [K_X12_writeWord_21] [K_X12_write_12] ⟨4, 163, List.forall_mem_cons.mpr ⟨m_X12_writeWord_21, fun _ h => absurd h List.not_mem_nil⟩, by decide, by decide, by decide⟩ ⟨2, 120, List.forall_mem_cons.mpr ⟨m_X12_write_12, fun _ h => absurd h List.not_mem_nil⟩, by decide, by decide, by decide⟩) (by decide) (by decide +kernel)
set_option maxRecDepth 200000 in
set_option maxHeartbeats 4000000 in
def K_X12_writeWord_23 : tb_K := ([.inr (.inl (some 1)), .inr (.inr 2)], [(1, (0, 35), .inl (3, 0))], [], [(0, 0), (1180591620717411303492, 1180591620717411303492), (464141, 464141), (2, 9)], [(none, [(1, (0, 35), .inl (3, 4))], [], [(0, 0), (1180591620717411303492, 1180591620717411303492), (464141, 464141), (2, 9)])], [(68, 35, 35), (83, 2, 12)])
set_option maxRecDepth 200000 in
set_option maxHeartbeats 4000000 in
def T_X12_writeWord_23 : List (tb_S × tb_l) := []
set_option maxRecDepth 200000 in
set_option maxHeartbeats 4000000 in
theorem m_X12_writeWord_23 {l : Launch} : tb_Met l vwCl sa_Ts tb_Z0 yX12_writeWord cX12_writeWord 3 none 6 207 K_X12_writeWord_23 := tb_method (by decide) [30] (t_X12_writeWord [(68, 35, 35), (83, 2, 12)] [K_X12_writeWord_22] [K_X12_write_13]) T_X12_writeWord_23 [] 6000 (List.forall_mem_cons.mpr ⟨dX12_writeWord_30, fun _ h => absurd h List.not_mem_nil⟩) (h_X12_writeWord [(68, 35, 35), (83, 2, 12)] 6 207 (by decide) (by decide) [K_X12_writeWord_22] [K_X12_write_13] ⟨5, 185, List.forall_mem_cons.mpr ⟨m_X12_writeWord_22, fun _ h => absurd h List.not_mem_nil⟩, by decide, by decide, by decide⟩ ⟨2, 120, List.forall_mem_cons.mpr ⟨m_X12_write_13, fun _ h => absurd h List.not_mem_nil⟩, by decide, by decide, by decide⟩) (by decide) (by decide +kernel)
set_option maxRecDepth 200000 in
set_option maxHeartbeats 4000000 in
def K_X12_writeWord_24 : tb_K := ([.inr (.inl (some 1)), .inr (.inr 2)], [(1, (0, 35), .inl (3, 0))], [], [(0, 0), (1180591620717411303492, 1180591620717411303492), (12531826, 12531826), (2, 9)], [(none, [(1, (0, 35), .inl (3, 5))], [], [(0, 0), (1180591620717411303492, 1180591620717411303492), (12531826, 12531826), (2, 9)])], [(68, 35, 35), (83, 2, 13)])
set_option maxRecDepth 200000 in
set_option maxHeartbeats 4000000 in
def T_X12_writeWord_24 : List (tb_S × tb_l) := []
set_option maxRecDepth 200000 in
set_option maxHeartbeats 4000000 in
theorem m_X12_writeWord_24 {l : Launch} : tb_Met l vwCl sa_Ts tb_Z0 yX12_writeWord cX12_writeWord 3 none 7 229 K_X12_writeWord_24 := tb_method (by decide) [30] (t_X12_writeWord [(68, 35, 35), (83, 2, 13)] [K_X12_writeWord_23] [K_X12_write_14]) T_X12_writeWord_24 [] 6000 (List.forall_mem_cons.mpr ⟨dX12_writeWord_30, fun _ h => absurd h List.not_mem_nil⟩) (h_X12_writeWord [(68, 35, 35), (83, 2, 13)] 7 229 (by decide) (by decide) [K_X12_writeWord_23] [K_X12_write_14] ⟨6, 207, List.forall_mem_cons.mpr ⟨m_X12_writeWord_23, fun _ h => absurd h List.not_mem_nil⟩, by decide, by decide, by decide⟩ ⟨2, 120, List.forall_mem_cons.mpr ⟨m_X12_write_14, fun _ h => absurd h List.not_mem_nil⟩, by decide, by decide, by decide⟩) (by decide) (by decide +kernel)
set_option maxRecDepth 200000 in
set_option maxHeartbeats 4000000 in
def K_X12_writeNext_3 : tb_K := ([.inr (.inl (some 1)), .inr (.inr 2)], [(1, (0, 35), .inl (3, 0))], [], [(0, 0), (1180591620717411303492, 1180591620717411303492), (12531826, 12531826), (1, 8)], [(none, [(1, (0, 35), .inl (3, 6))], [], [(0, 0), (1180591620717411303492, 1180591620717411303492), (12531826, 12531826), (1, 8)])], [(68, 35, 35), (83, 1, 13)])
set_option maxRecDepth 200000 in
set_option maxHeartbeats 4000000 in
def T_X12_writeNext_3 : List (tb_S × tb_l) := []
set_option maxRecDepth 200000 in
set_option maxHeartbeats 4000000 in
theorem m_X12_writeNext_3 {l : Launch} : tb_Met l vwCl sa_Ts tb_Z0 yX12_writeNext cX12_writeNext 3 none 8 251 K_X12_writeNext_3 := tb_method (by decide) [11] (t_X12_writeNext [(68, 35, 35), (83, 1, 13)] [K_X12_write_9] [K_X12_writeWord_24]) T_X12_writeNext_3 [] 6000 (List.forall_mem_cons.mpr ⟨dX12_writeNext_11, fun _ h => absurd h List.not_mem_nil⟩) (h_X12_writeNext [(68, 35, 35), (83, 1, 13)] 8 251 (by decide) (by decide) [K_X12_write_9] [K_X12_writeWord_24] ⟨2, 120, List.forall_mem_cons.mpr ⟨m_X12_write_9, fun _ h => absurd h List.not_mem_nil⟩, by decide, by decide, by decide⟩ ⟨7, 229, List.forall_mem_cons.mpr ⟨m_X12_writeWord_24, fun _ h => absurd h List.not_mem_nil⟩, by decide, by decide, by decide⟩) (by decide) (by decide +kernel)
set_option maxRecDepth 200000 in
set_option maxHeartbeats 4000000 in
def K_X12_writeWord_25 : tb_K := ([.inr (.inl (some 1)), .inr (.inr 2)], [(1, (0, 35), .inl (3, 0))], [], [(0, 0), (1180591620717411303492, 1180591620717411303492), (622, 622), (2, 9)], [(none, [(1, (0, 35), .inl (3, 2))], [], [(0, 0), (1180591620717411303492, 1180591620717411303492), (622, 622), (2, 9)])], [(68, 35, 35), (83, 2, 10)])
set_option maxRecDepth 200000 in
set_option maxHeartbeats 4000000 in
def T_X12_writeWord_25 : List (tb_S × tb_l) := []
set_option maxRecDepth 200000 in
set_option maxHeartbeats 4000000 in
theorem m_X12_writeWord_25 {l : Launch} : tb_Met l vwCl sa_Ts tb_Z0 yX12_writeWord cX12_writeWord 3 none 4 163 K_X12_writeWord_25 := tb_method (by decide) [30] (t_X12_writeWord [(68, 35, 35), (83, 2, 10)] [K_X12_writeWord_20] [K_X12_write_11]) T_X12_writeWord_25 [] 6000 (List.forall_mem_cons.mpr ⟨dX12_writeWord_30, fun _ h => absurd h List.not_mem_nil⟩) (h_X12_writeWord [(68, 35, 35), (83, 2, 10)] 4 163 (by decide) (by decide) [K_X12_writeWord_20] [K_X12_write_11] ⟨3, 141, List.forall_mem_cons.mpr ⟨m_X12_writeWord_20, fun _ h => absurd h List.not_mem_nil⟩, by decide, by decide, by decide⟩ ⟨2, 120, List.forall_mem_cons.mpr ⟨m_X12_write_11, fun _ h => absurd h List.not_mem_nil⟩, by decide, by decide, by decide⟩) (by decide) (by decide +kernel)
set_option maxRecDepth 200000 in
set_option maxHeartbeats 4000000 in
def K_X12_writeWord_26 : tb_K := ([.inr (.inl (some 1)), .inr (.inr 2)], [(1, (0, 35), .inl (3, 0))], [], [(0, 0), (1180591620717411303492, 1180591620717411303492), (16803, 16803), (2, 9)], [(none, [(1, (0, 35), .inl (3, 3))], [], [(0, 0), (1180591620717411303492, 1180591620717411303492), (16803, 16803), (2, 9)])], [(68, 35, 35), (83, 2, 11)])
set_option maxRecDepth 200000 in
set_option maxHeartbeats 4000000 in
def T_X12_writeWord_26 : List (tb_S × tb_l) := []
set_option maxRecDepth 200000 in
set_option maxHeartbeats 4000000 in
theorem m_X12_writeWord_26 {l : Launch} : tb_Met l vwCl sa_Ts tb_Z0 yX12_writeWord cX12_writeWord 3 none 5 185 K_X12_writeWord_26 := tb_method (by decide) [30] (t_X12_writeWord [(68, 35, 35), (83, 2, 11)] [K_X12_writeWord_25] [K_X12_write_12]) T_X12_writeWord_26 [] 6000 (List.forall_mem_cons.mpr ⟨dX12_writeWord_30, fun _ h => absurd h List.not_mem_nil⟩) (h_X12_writeWord [(68, 35, 35), (83, 2, 11)] 5 185 (by decide) (by decide) [K_X12_writeWord_25] [K_X12_write_12] ⟨4, 163, List.forall_mem_cons.mpr ⟨m_X12_writeWord_25, fun _ h => absurd h List.not_mem_nil⟩, by decide, by decide, by decide⟩ ⟨2, 120, List.forall_mem_cons.mpr ⟨m_X12_write_12, fun _ h => absurd h List.not_mem_nil⟩, by decide, by decide, by decide⟩) (by decide) (by decide +kernel)
set_option maxRecDepth 200000 in
set_option maxHeartbeats 4000000 in
def K_X12_writeWord_27 : tb_K := ([.inr (.inl (some 1)), .inr (.inr 2)], [(1, (0, 35), .inl (3, 0))], [], [(0, 0), (1180591620717411303492, 1180591620717411303492), (453701, 453701), (2, 9)], [(none, [(1, (0, 35), .inl (3, 4))], [], [(0, 0), (1180591620717411303492, 1180591620717411303492), (453701, 453701), (2, 9)])], [(68, 35, 35), (83, 2, 12)])
set_option maxRecDepth 200000 in
set_option maxHeartbeats 4000000 in
def T_X12_writeWord_27 : List (tb_S × tb_l) := []
set_option maxRecDepth 200000 in
set_option maxHeartbeats 4000000 in
theorem m_X12_writeWord_27 {l : Launch} : tb_Met l vwCl sa_Ts tb_Z0 yX12_writeWord cX12_writeWord 3 none 6 207 K_X12_writeWord_27 := tb_method (by decide) [30] (t_X12_writeWord [(68, 35, 35), (83, 2, 12)] [K_X12_writeWord_26] [K_X12_write_13]) T_X12_writeWord_27 [] 6000 (List.forall_mem_cons.mpr ⟨dX12_writeWord_30, fun _ h => absurd h List.not_mem_nil⟩) (h_X12_writeWord [(68, 35, 35), (83, 2, 12)] 6 207 (by decide) (by decide) [K_X12_writeWord_26] [K_X12_write_13] ⟨5, 185, List.forall_mem_cons.mpr ⟨m_X12_writeWord_26, fun _ h => absurd h List.not_mem_nil⟩, by decide, by decide, by decide⟩ ⟨2, 120, List.forall_mem_cons.mpr ⟨m_X12_write_13, fun _ h => absurd h List.not_mem_nil⟩, by decide, by decide, by decide⟩) (by decide) (by decide +kernel)
set_option maxRecDepth 200000 in
set_option maxHeartbeats 4000000 in
def K_X12_writeWord_28 : tb_K := ([.inr (.inl (some 1)), .inr (.inr 2)], [(1, (0, 35), .inl (3, 0))], [], [(0, 0), (1180591620717411303492, 1180591620717411303492), (12249946, 12249946), (2, 9)], [(none, [(1, (0, 35), .inl (3, 5))], [], [(0, 0), (1180591620717411303492, 1180591620717411303492), (12249946, 12249946), (2, 9)])], [(68, 35, 35), (83, 2, 13)])
set_option maxRecDepth 200000 in
set_option maxHeartbeats 4000000 in
def T_X12_writeWord_28 : List (tb_S × tb_l) := []
set_option maxRecDepth 200000 in
set_option maxHeartbeats 4000000 in
theorem m_X12_writeWord_28 {l : Launch} : tb_Met l vwCl sa_Ts tb_Z0 yX12_writeWord cX12_writeWord 3 none 7 229 K_X12_writeWord_28 := tb_method (by decide) [30] (t_X12_writeWord [(68, 35, 35), (83, 2, 13)] [K_X12_writeWord_27] [K_X12_write_14]) T_X12_writeWord_28 [] 6000 (List.forall_mem_cons.mpr ⟨dX12_writeWord_30, fun _ h => absurd h List.not_mem_nil⟩) (h_X12_writeWord [(68, 35, 35), (83, 2, 13)] 7 229 (by decide) (by decide) [K_X12_writeWord_27] [K_X12_write_14] ⟨6, 207, List.forall_mem_cons.mpr ⟨m_X12_writeWord_27, fun _ h => absurd h List.not_mem_nil⟩, by decide, by decide, by decide⟩ ⟨2, 120, List.forall_mem_cons.mpr ⟨m_X12_write_14, fun _ h => absurd h List.not_mem_nil⟩, by decide, by decide, by decide⟩) (by decide) (by decide +kernel)
set_option maxRecDepth 200000 in
set_option maxHeartbeats 4000000 in
def K_X12_writeNext_4 : tb_K := ([.inr (.inl (some 1)), .inr (.inr 2)], [(1, (0, 35), .inl (3, 0))], [], [(0, 0), (1180591620717411303492, 1180591620717411303492), (12249946, 12249946), (1, 8)], [(none, [(1, (0, 35), .inl (3, 6))], [], [(0, 0), (1180591620717411303492, 1180591620717411303492), (12249946, 12249946), (1, 8)])], [(68, 35, 35), (83, 1, 13)])
set_option maxRecDepth 200000 in
set_option maxHeartbeats 4000000 in
def T_X12_writeNext_4 : List (tb_S × tb_l) := []
set_option maxRecDepth 200000 in
set_option maxHeartbeats 4000000 in
theorem m_X12_writeNext_4 {l : Launch} : tb_Met l vwCl sa_Ts tb_Z0 yX12_writeNext cX12_writeNext 3 none 8 251 K_X12_writeNext_4 := tb_method (by decide) [11] (t_X12_writeNext [(68, 35, 35), (83, 1, 13)] [K_X12_write_9] [K_X12_writeWord_28]) T_X12_writeNext_4 [] 6000 (List.forall_mem_cons.mpr ⟨dX12_writeNext_11, fun _ h => absurd h List.not_mem_nil⟩) (h_X12_writeNext [(68, 35, 35), (83, 1, 13)] 8 251 (by decide) (by decide) [K_X12_write_9] [K_X12_writeWord_28] ⟨2, 120, List.forall_mem_cons.mpr ⟨m_X12_write_9, fun _ h => absurd h List.not_mem_nil⟩, by decide, by decide, by decide⟩ ⟨7, 229, List.forall_mem_cons.mpr ⟨m_X12_writeWord_28, fun _ h => absurd h List.not_mem_nil⟩, by decide, by decide, by decide⟩) (by decide) (by decide +kernel)
set_option maxRecDepth 200000 in
set_option maxHeartbeats 4000000 in
def K_X12_spelt_21 : tb_K := ([.inl (1, 0), .inl (2, 0), .inl (3, 0), .inl (4, 0), .inl (5, 0), .inl (6, 0), .inl (7, 0)], [], [], [(0, 0), (119, 119), (97, 97), (105, 105), (116, 116), (115, 115), (0, 0), (0, 0)], [(some (.inr (.inr 8)), [], [], [(0, 0), (119, 119), (97, 97), (105, 105), (116, 116), (115, 115), (0, 0), (0, 0), (12249946, 12249946)])], [])
set_option maxRecDepth 200000 in
set_option maxHeartbeats 4000000 in
def T_X12_spelt_21 : List (tb_S × tb_l) := []
set_option maxRecDepth 200000 in
set_option maxHeartbeats 4000000 in
theorem m_X12_spelt_21 {l : Launch} : tb_Met l vwCl sa_Ts tb_Z0 yX12_spelt cX12_spelt 9 (some .long) 2 120 K_X12_spelt_21 := tb_method (by decide) [122] (t_X12_spelt [] ) T_X12_spelt_21 [] 6000 (List.forall_mem_cons.mpr ⟨dX12_spelt_122, fun _ h => absurd h List.not_mem_nil⟩) (h_X12_spelt [] 2 120 (by decide) (by decide)  ) (by decide) (by decide +kernel)
set_option maxRecDepth 200000 in
set_option maxHeartbeats 4000000 in
def K_X12_spelt_22 : tb_K := ([.inl (1, 0), .inl (2, 0), .inl (3, 0), .inl (4, 0), .inl (5, 0), .inl (6, 0), .inl (7, 0)], [], [], [(0, 0), (110, 110), (111, 111), (0, 0), (0, 0), (0, 0), (0, 0), (0, 0)], [(some (.inr (.inr 8)), [], [], [(0, 0), (110, 110), (111, 111), (0, 0), (0, 0), (0, 0), (0, 0), (0, 0), (393, 393)])], [])
set_option maxRecDepth 200000 in
set_option maxHeartbeats 4000000 in
def T_X12_spelt_22 : List (tb_S × tb_l) := []
set_option maxRecDepth 200000 in
set_option maxHeartbeats 4000000 in
theorem m_X12_spelt_22 {l : Launch} : tb_Met l vwCl sa_Ts tb_Z0 yX12_spelt cX12_spelt 9 (some .long) 2 120 K_X12_spelt_22 := tb_method (by decide) [122] (t_X12_spelt [] ) T_X12_spelt_22 [] 6000 (List.forall_mem_cons.mpr ⟨dX12_spelt_122, fun _ h => absurd h List.not_mem_nil⟩) (h_X12_spelt [] 2 120 (by decide) (by decide)  ) (by decide) (by decide +kernel)
set_option maxRecDepth 200000 in
set_option maxHeartbeats 4000000 in
def K_X12_wordOf_5 : tb_K := ([.inl (1, 0)], [], [], [(0, 0), (19, 19)], [(some (.inr (.inr 2)), [], [], [(0, 0), (19, 19), (212302449, 212302449)])], [])
set_option maxRecDepth 200000 in
set_option maxHeartbeats 4000000 in
def T_X12_wordOf_5 : List (tb_S × tb_l) := []
set_option maxRecDepth 200000 in
set_option maxHeartbeats 4000000 in
theorem m_X12_wordOf_5 {l : Launch} : tb_Met l vwCl sa_Ts tb_Z0 yX12_wordOf cX12_wordOf 1 (some .long) 3 148 K_X12_wordOf_5 := tb_method (by decide) [395] (t_X12_wordOf [] [] [] [] [] [] [] [] [] [] [] [] [] [] [] [] [] [] [] [] [K_X12_spelt_20]) T_X12_wordOf_5 [] 6000 (List.forall_mem_cons.mpr ⟨dX12_wordOf_395, fun _ h => absurd h List.not_mem_nil⟩) (h_X12_wordOf [] 3 148 (by decide) (by decide) [] [] [] [] [] [] [] [] [] [] [] [] [] [] [] [] [] [] [] [K_X12_spelt_20] (tb_ML0 (by decide) (by decide)) (tb_ML0 (by decide) (by decide)) (tb_ML0 (by decide) (by decide)) (tb_ML0 (by decide) (by decide)) (tb_ML0 (by decide) (by decide)) (tb_ML0 (by decide) (by decide)) (tb_ML0 (by decide) (by decide)) (tb_ML0 (by decide) (by decide)) (tb_ML0 (by decide) (by decide)) (tb_ML0 (by decide) (by decide)) (tb_ML0 (by decide) (by decide)) (tb_ML0 (by decide) (by decide)) (tb_ML0 (by decide) (by decide)) (tb_ML0 (by decide) (by decide)) (tb_ML0 (by decide) (by decide)) (tb_ML0 (by decide) (by decide)) (tb_ML0 (by decide) (by decide)) (tb_ML0 (by decide) (by decide)) (tb_ML0 (by decide) (by decide)) ⟨2, 120, List.forall_mem_cons.mpr ⟨m_X12_spelt_20, fun _ h => absurd h List.not_mem_nil⟩, by decide, by decide, by decide⟩) (by decide) (by decide +kernel)
set_option maxRecDepth 200000 in
set_option maxHeartbeats 4000000 in
def K_X12_write_22 : tb_K := ([.inr (.inl (some 1)), .inl (2, 0)], [(1, (0, 35), .inl (3, 0))], [], [(0, 0), (1180591620717411303492, 1180591620717411303492), (-2147483648, 2147483647), (7, 21)], [(none, [(1, (0, 35), .inl (3, 1))], [], [(0, 0), (1180591620717411303492, 1180591620717411303492), (-2147483648, 2147483647), (7, 21)])], [(68, 35, 35), (83, 7, 21)])
set_option maxRecDepth 200000 in
set_option maxHeartbeats 4000000 in
def T_X12_write_22 : List (tb_S × tb_l) := []
set_option maxRecDepth 200000 in
set_option maxHeartbeats 4000000 in
theorem m_X12_write_22 {l : Launch} : tb_Met l vwCl sa_Ts tb_Z0 yX12_write cX12_write 2 none 2 120 K_X12_write_22 := tb_method (by decide) [20] (t_X12_write [(68, 35, 35), (83, 7, 21)] ) T_X12_write_22 [] 6000 (List.forall_mem_cons.mpr ⟨dX12_write_20, fun _ h => absurd h List.not_mem_nil⟩) (h_X12_write [(68, 35, 35), (83, 7, 21)] 2 120 (by decide) (by decide)  ) (by decide) (by decide +kernel)
set_option maxRecDepth 200000 in
set_option maxHeartbeats 4000000 in
def K_X12_write_23 : tb_K := ([.inr (.inl (some 1)), .inl (2, 0)], [(1, (0, 35), .inl (3, 0))], [], [(0, 0), (1180591620717411303492, 1180591620717411303492), (-2147483648, 2147483647), (8, 22)], [(none, [(1, (0, 35), .inl (3, 1))], [], [(0, 0), (1180591620717411303492, 1180591620717411303492), (-2147483648, 2147483647), (8, 22)])], [(68, 35, 35), (83, 8, 22)])
set_option maxRecDepth 200000 in
set_option maxHeartbeats 4000000 in
def T_X12_write_23 : List (tb_S × tb_l) := []
set_option maxRecDepth 200000 in
set_option maxHeartbeats 4000000 in
theorem m_X12_write_23 {l : Launch} : tb_Met l vwCl sa_Ts tb_Z0 yX12_write cX12_write 2 none 2 120 K_X12_write_23 := tb_method (by decide) [20] (t_X12_write [(68, 35, 35), (83, 8, 22)] ) T_X12_write_23 [] 6000 (List.forall_mem_cons.mpr ⟨dX12_write_20, fun _ h => absurd h List.not_mem_nil⟩) (h_X12_write [(68, 35, 35), (83, 8, 22)] 2 120 (by decide) (by decide)  ) (by decide) (by decide +kernel)
set_option maxRecDepth 200000 in
set_option maxHeartbeats 4000000 in
def K_X12_writeWord_29 : tb_K := ([.inr (.inl (some 1)), .inr (.inr 2)], [(1, (0, 35), .inl (3, 0))], [], [(0, 0), (1180591620717411303492, 1180591620717411303492), (14, 14), (8, 22)], [(none, [(1, (0, 35), .inl (3, 1))], [], [(0, 0), (1180591620717411303492, 1180591620717411303492), (14, 14), (8, 22)])], [(68, 35, 35), (83, 8, 22)])
set_option maxRecDepth 200000 in
set_option maxHeartbeats 4000000 in
def T_X12_writeWord_29 : List (tb_S × tb_l) := []
set_option maxRecDepth 200000 in
set_option maxHeartbeats 4000000 in
theorem m_X12_writeWord_29 {l : Launch} : tb_Met l vwCl sa_Ts tb_Z0 yX12_writeWord cX12_writeWord 3 none 3 141 K_X12_writeWord_29 := tb_method (by decide) [30] (t_X12_writeWord [(68, 35, 35), (83, 8, 22)] [] [K_X12_write_23]) T_X12_writeWord_29 [] 6000 (List.forall_mem_cons.mpr ⟨dX12_writeWord_30, fun _ h => absurd h List.not_mem_nil⟩) (h_X12_writeWord [(68, 35, 35), (83, 8, 22)] 3 141 (by decide) (by decide) [] [K_X12_write_23] (tb_ML0 (by decide) (by decide)) ⟨2, 120, List.forall_mem_cons.mpr ⟨m_X12_write_23, fun _ h => absurd h List.not_mem_nil⟩, by decide, by decide, by decide⟩) (by decide) (by decide +kernel)
set_option maxRecDepth 200000 in
set_option maxHeartbeats 4000000 in
def K_X12_write_24 : tb_K := ([.inr (.inl (some 1)), .inl (2, 0)], [(1, (0, 35), .inl (3, 0))], [], [(0, 0), (1180591620717411303492, 1180591620717411303492), (-2147483648, 2147483647), (9, 23)], [(none, [(1, (0, 35), .inl (3, 1))], [], [(0, 0), (1180591620717411303492, 1180591620717411303492), (-2147483648, 2147483647), (9, 23)])], [(68, 35, 35), (83, 9, 23)])
set_option maxRecDepth 200000 in
set_option maxHeartbeats 4000000 in
def T_X12_write_24 : List (tb_S × tb_l) := []
set_option maxRecDepth 200000 in
set_option maxHeartbeats 4000000 in
theorem m_X12_write_24 {l : Launch} : tb_Met l vwCl sa_Ts tb_Z0 yX12_write cX12_write 2 none 2 120 K_X12_write_24 := tb_method (by decide) [20] (t_X12_write [(68, 35, 35), (83, 9, 23)] ) T_X12_write_24 [] 6000 (List.forall_mem_cons.mpr ⟨dX12_write_20, fun _ h => absurd h List.not_mem_nil⟩) (h_X12_write [(68, 35, 35), (83, 9, 23)] 2 120 (by decide) (by decide)  ) (by decide) (by decide +kernel)
set_option maxRecDepth 200000 in
set_option maxHeartbeats 4000000 in
def K_X12_writeWord_30 : tb_K := ([.inr (.inl (some 1)), .inr (.inr 2)], [(1, (0, 35), .inl (3, 0))], [], [(0, 0), (1180591620717411303492, 1180591620717411303492), (399, 399), (8, 22)], [(none, [(1, (0, 35), .inl (3, 2))], [], [(0, 0), (1180591620717411303492, 1180591620717411303492), (399, 399), (8, 22)])], [(68, 35, 35), (83, 8, 23)])
set_option maxRecDepth 200000 in
set_option maxHeartbeats 4000000 in
def T_X12_writeWord_30 : List (tb_S × tb_l) := []
set_option maxRecDepth 200000 in
set_option maxHeartbeats 4000000 in
theorem m_X12_writeWord_30 {l : Launch} : tb_Met l vwCl sa_Ts tb_Z0 yX12_writeWord cX12_writeWord 3 none 4 163 K_X12_writeWord_30 := tb_method (by decide) [30] (t_X12_writeWord [(68, 35, 35), (83, 8, 23)] [K_X12_writeWord_29] [K_X12_write_24]) T_X12_writeWord_30 [] 6000 (List.forall_mem_cons.mpr ⟨dX12_writeWord_30, fun _ h => absurd h List.not_mem_nil⟩) (h_X12_writeWord [(68, 35, 35), (83, 8, 23)] 4 163 (by decide) (by decide) [K_X12_writeWord_29] [K_X12_write_24] ⟨3, 141, List.forall_mem_cons.mpr ⟨m_X12_writeWord_29, fun _ h => absurd h List.not_mem_nil⟩, by decide, by decide, by decide⟩ ⟨2, 120, List.forall_mem_cons.mpr ⟨m_X12_write_24, fun _ h => absurd h List.not_mem_nil⟩, by decide, by decide, by decide⟩) (by decide) (by decide +kernel)
set_option maxRecDepth 200000 in
set_option maxHeartbeats 4000000 in
def K_X12_write_25 : tb_K := ([.inr (.inl (some 1)), .inl (2, 0)], [(1, (0, 35), .inl (3, 0))], [], [(0, 0), (1180591620717411303492, 1180591620717411303492), (-2147483648, 2147483647), (10, 24)], [(none, [(1, (0, 35), .inl (3, 1))], [], [(0, 0), (1180591620717411303492, 1180591620717411303492), (-2147483648, 2147483647), (10, 24)])], [(68, 35, 35), (83, 10, 24)])
set_option maxRecDepth 200000 in
set_option maxHeartbeats 4000000 in
def T_X12_write_25 : List (tb_S × tb_l) := []
set_option maxRecDepth 200000 in
set_option maxHeartbeats 4000000 in
theorem m_X12_write_25 {l : Launch} : tb_Met l vwCl sa_Ts tb_Z0 yX12_write cX12_write 2 none 2 120 K_X12_write_25 := tb_method (by decide) [20] (t_X12_write [(68, 35, 35), (83, 10, 24)] ) T_X12_write_25 [] 6000 (List.forall_mem_cons.mpr ⟨dX12_write_20, fun _ h => absurd h List.not_mem_nil⟩) (h_X12_write [(68, 35, 35), (83, 10, 24)] 2 120 (by decide) (by decide)  ) (by decide) (by decide +kernel)
set_option maxRecDepth 200000 in
set_option maxHeartbeats 4000000 in
def K_X12_writeWord_31 : tb_K := ([.inr (.inl (some 1)), .inr (.inr 2)], [(1, (0, 35), .inl (3, 0))], [], [(0, 0), (1180591620717411303492, 1180591620717411303492), (10786, 10786), (8, 22)], [(none, [(1, (0, 35), .inl (3, 3))], [], [(0, 0), (1180591620717411303492, 1180591620717411303492), (10786, 10786), (8, 22)])], [(68, 35, 35), (83, 8, 24)])
set_option maxRecDepth 200000 in
set_option maxHeartbeats 4000000 in
def T_X12_writeWord_31 : List (tb_S × tb_l) := []
set_option maxRecDepth 200000 in
set_option maxHeartbeats 4000000 in
theorem m_X12_writeWord_31 {l : Launch} : tb_Met l vwCl sa_Ts tb_Z0 yX12_writeWord cX12_writeWord 3 none 5 185 K_X12_writeWord_31 := tb_method (by decide) [30] (t_X12_writeWord [(68, 35, 35), (83, 8, 24)] [K_X12_writeWord_30] [K_X12_write_25]) T_X12_writeWord_31 [] 6000 (List.forall_mem_cons.mpr ⟨dX12_writeWord_30, fun _ h => absurd h List.not_mem_nil⟩) (h_X12_writeWord [(68, 35, 35), (83, 8, 24)] 5 185 (by decide) (by decide) [K_X12_writeWord_30] [K_X12_write_25] ⟨4, 163, List.forall_mem_cons.mpr ⟨m_X12_writeWord_30, fun _ h => absurd h List.not_mem_nil⟩, by decide, by decide, by decide⟩ ⟨2, 120, List.forall_mem_cons.mpr ⟨m_X12_write_25, fun _ h => absurd h List.not_mem_nil⟩, by decide, by decide, by decide⟩) (by decide) (by decide +kernel)
set_option maxRecDepth 200000 in
set_option maxHeartbeats 4000000 in
def K_X12_write_26 : tb_K := ([.inr (.inl (some 1)), .inl (2, 0)], [(1, (0, 35), .inl (3, 0))], [], [(0, 0), (1180591620717411303492, 1180591620717411303492), (-2147483648, 2147483647), (11, 25)], [(none, [(1, (0, 35), .inl (3, 1))], [], [(0, 0), (1180591620717411303492, 1180591620717411303492), (-2147483648, 2147483647), (11, 25)])], [(68, 35, 35), (83, 11, 25)])
set_option maxRecDepth 200000 in
set_option maxHeartbeats 4000000 in
def T_X12_write_26 : List (tb_S × tb_l) := []
set_option maxRecDepth 200000 in
set_option maxHeartbeats 4000000 in
theorem m_X12_write_26 {l : Launch} : tb_Met l vwCl sa_Ts tb_Z0 yX12_write cX12_write 2 none 2 120 K_X12_write_26 := tb_method (by decide) [20] (t_X12_write [(68, 35, 35), (83, 11, 25)] ) T_X12_write_26 [] 6000 (List.forall_mem_cons.mpr ⟨dX12_write_20, fun _ h => absurd h List.not_mem_nil⟩) (h_X12_write [(68, 35, 35), (83, 11, 25)] 2 120 (by decide) (by decide)  ) (by decide) (by decide +kernel)
set_option maxRecDepth 200000 in
set_option maxHeartbeats 4000000 in
def K_X12_writeWord_32 : tb_K := ([.inr (.inl (some 1)), .inr (.inr 2)], [(1, (0, 35), .inl (3, 0))], [], [(0, 0), (1180591620717411303492, 1180591620717411303492), (291224, 291224), (8, 22)], [(none, [(1, (0, 35), .inl (3, 4))], [], [(0, 0), (1180591620717411303492, 1180591620717411303492), (291224, 291224), (8, 22)])], [(68, 35, 35), (83, 8, 25)])
set_option maxRecDepth 200000 in
set_option maxHeartbeats 4000000 in
def T_X12_writeWord_32 : List (tb_S × tb_l) := []
set_option maxRecDepth 200000 in
set_option maxHeartbeats 4000000 in
theorem m_X12_writeWord_32 {l : Launch} : tb_Met l vwCl sa_Ts tb_Z0 yX12_writeWord cX12_writeWord 3 none 6 207 K_X12_writeWord_32 := tb_method (by decide) [30] (t_X12_writeWord [(68, 35, 35), (83, 8, 25)] [K_X12_writeWord_31] [K_X12_write_26]) T_X12_writeWord_32 [] 6000 (List.forall_mem_cons.mpr ⟨dX12_writeWord_30, fun _ h => absurd h List.not_mem_nil⟩) (h_X12_writeWord [(68, 35, 35), (83, 8, 25)] 6 207 (by decide) (by decide) [K_X12_writeWord_31] [K_X12_write_26] ⟨5, 185, List.forall_mem_cons.mpr ⟨m_X12_writeWord_31, fun _ h => absurd h List.not_mem_nil⟩, by decide, by decide, by decide⟩ ⟨2, 120, List.forall_mem_cons.mpr ⟨m_X12_write_26, fun _ h => absurd h List.not_mem_nil⟩, by decide, by decide, by decide⟩) (by decide) (by decide +kernel)
set_option maxRecDepth 200000 in
set_option maxHeartbeats 4000000 in
def K_X12_write_27 : tb_K := ([.inr (.inl (some 1)), .inl (2, 0)], [(1, (0, 35), .inl (3, 0))], [], [(0, 0), (1180591620717411303492, 1180591620717411303492), (-2147483648, 2147483647), (12, 26)], [(none, [(1, (0, 35), .inl (3, 1))], [], [(0, 0), (1180591620717411303492, 1180591620717411303492), (-2147483648, 2147483647), (12, 26)])], [(68, 35, 35), (83, 12, 26)])
set_option maxRecDepth 200000 in
set_option maxHeartbeats 4000000 in
def T_X12_write_27 : List (tb_S × tb_l) := []
set_option maxRecDepth 200000 in
set_option maxHeartbeats 4000000 in
theorem m_X12_write_27 {l : Launch} : tb_Met l vwCl sa_Ts tb_Z0 yX12_write cX12_write 2 none 2 120 K_X12_write_27 := tb_method (by decide) [20] (t_X12_write [(68, 35, 35), (83, 12, 26)] ) T_X12_write_27 [] 6000 (List.forall_mem_cons.mpr ⟨dX12_write_20, fun _ h => absurd h List.not_mem_nil⟩) (h_X12_write [(68, 35, 35), (83, 12, 26)] 2 120 (by decide) (by decide)  ) (by decide) (by decide +kernel)
set_option maxRecDepth 200000 in
set_option maxHeartbeats 4000000 in
def K_X12_writeWord_33 : tb_K := ([.inr (.inl (some 1)), .inr (.inr 2)], [(1, (0, 35), .inl (3, 0))], [], [(0, 0), (1180591620717411303492, 1180591620717411303492), (7863053, 7863053), (8, 22)], [(none, [(1, (0, 35), .inl (3, 5))], [], [(0, 0), (1180591620717411303492, 1180591620717411303492), (7863053, 7863053), (8, 22)])], [(68, 35, 35), (83, 8, 26)])
set_option maxRecDepth 200000 in
set_option maxHeartbeats 4000000 in
def T_X12_writeWord_33 : List (tb_S × tb_l) := []
set_option maxRecDepth 200000 in
set_option maxHeartbeats 4000000 in
theorem m_X12_writeWord_33 {l : Launch} : tb_Met l vwCl sa_Ts tb_Z0 yX12_writeWord cX12_writeWord 3 none 7 229 K_X12_writeWord_33 := tb_method (by decide) [30] (t_X12_writeWord [(68, 35, 35), (83, 8, 26)] [K_X12_writeWord_32] [K_X12_write_27]) T_X12_writeWord_33 [] 6000 (List.forall_mem_cons.mpr ⟨dX12_writeWord_30, fun _ h => absurd h List.not_mem_nil⟩) (h_X12_writeWord [(68, 35, 35), (83, 8, 26)] 7 229 (by decide) (by decide) [K_X12_writeWord_32] [K_X12_write_27] ⟨6, 207, List.forall_mem_cons.mpr ⟨m_X12_writeWord_32, fun _ h => absurd h List.not_mem_nil⟩, by decide, by decide, by decide⟩ ⟨2, 120, List.forall_mem_cons.mpr ⟨m_X12_write_27, fun _ h => absurd h List.not_mem_nil⟩, by decide, by decide, by decide⟩) (by decide) (by decide +kernel)
set_option maxRecDepth 200000 in
set_option maxHeartbeats 4000000 in
def K_X12_write_28 : tb_K := ([.inr (.inl (some 1)), .inl (2, 0)], [(1, (0, 35), .inl (3, 0))], [], [(0, 0), (1180591620717411303492, 1180591620717411303492), (-2147483648, 2147483647), (13, 27)], [(none, [(1, (0, 35), .inl (3, 1))], [], [(0, 0), (1180591620717411303492, 1180591620717411303492), (-2147483648, 2147483647), (13, 27)])], [(68, 35, 35), (83, 13, 27)])
set_option maxRecDepth 200000 in
set_option maxHeartbeats 4000000 in
def T_X12_write_28 : List (tb_S × tb_l) := []
set_option maxRecDepth 200000 in
set_option maxHeartbeats 4000000 in
theorem m_X12_write_28 {l : Launch} : tb_Met l vwCl sa_Ts tb_Z0 yX12_write cX12_write 2 none 2 120 K_X12_write_28 := tb_method (by decide) [20] (t_X12_write [(68, 35, 35), (83, 13, 27)] ) T_X12_write_28 [] 6000 (List.forall_mem_cons.mpr ⟨dX12_write_20, fun _ h => absurd h List.not_mem_nil⟩) (h_X12_write [(68, 35, 35), (83, 13, 27)] 2 120 (by decide) (by decide)  ) (by decide) (by decide +kernel)
set_option maxRecDepth 200000 in
set_option maxHeartbeats 4000000 in
def K_X12_writeWord_34 : tb_K := ([.inr (.inl (some 1)), .inr (.inr 2)], [(1, (0, 35), .inl (3, 0))], [], [(0, 0), (1180591620717411303492, 1180591620717411303492), (212302449, 212302449), (8, 22)], [(none, [(1, (0, 35), .inl (3, 6))], [], [(0, 0), (1180591620717411303492, 1180591620717411303492), (212302449, 212302449), (8, 22)])], [(68, 35, 35), (83, 8, 27)])
set_option maxRecDepth 200000 in
set_option maxHeartbeats 4000000 in
def T_X12_writeWord_34 : List (tb_S × tb_l) := []
set_option maxRecDepth 200000 in
set_option maxHeartbeats 4000000 in
theorem m_X12_writeWord_34 {l : Launch} : tb_Met l vwCl sa_Ts tb_Z0 yX12_writeWord cX12_writeWord 3 none 8 251 K_X12_writeWord_34 := tb_method (by decide) [30] (t_X12_writeWord [(68, 35, 35), (83, 8, 27)] [K_X12_writeWord_33] [K_X12_write_28]) T_X12_writeWord_34 [] 6000 (List.forall_mem_cons.mpr ⟨dX12_writeWord_30, fun _ h => absurd h List.not_mem_nil⟩) (h_X12_writeWord [(68, 35, 35), (83, 8, 27)] 8 251 (by decide) (by decide) [K_X12_writeWord_33] [K_X12_write_28] ⟨7, 229, List.forall_mem_cons.mpr ⟨m_X12_writeWord_33, fun _ h => absurd h List.not_mem_nil⟩, by decide, by decide, by decide⟩ ⟨2, 120, List.forall_mem_cons.mpr ⟨m_X12_write_28, fun _ h => absurd h List.not_mem_nil⟩, by decide, by decide, by decide⟩) (by decide) (by decide +kernel)
set_option maxRecDepth 200000 in
set_option maxHeartbeats 4000000 in
def K_X12_writeNext_5 : tb_K := ([.inr (.inl (some 1)), .inr (.inr 2)], [(1, (0, 35), .inl (3, 0))], [], [(0, 0), (1180591620717411303492, 1180591620717411303492), (212302449, 212302449), (7, 21)], [(none, [(1, (0, 35), .inl (3, 7))], [], [(0, 0), (1180591620717411303492, 1180591620717411303492), (212302449, 212302449), (7, 21)])], [(68, 35, 35), (83, 7, 27)])
set_option maxRecDepth 200000 in
set_option maxHeartbeats 4000000 in
def T_X12_writeNext_5 : List (tb_S × tb_l) := []
set_option maxRecDepth 200000 in
set_option maxHeartbeats 4000000 in
theorem m_X12_writeNext_5 {l : Launch} : tb_Met l vwCl sa_Ts tb_Z0 yX12_writeNext cX12_writeNext 3 none 9 273 K_X12_writeNext_5 := tb_method (by decide) [11] (t_X12_writeNext [(68, 35, 35), (83, 7, 27)] [K_X12_write_22] [K_X12_writeWord_34]) T_X12_writeNext_5 [] 6000 (List.forall_mem_cons.mpr ⟨dX12_writeNext_11, fun _ h => absurd h List.not_mem_nil⟩) (h_X12_writeNext [(68, 35, 35), (83, 7, 27)] 9 273 (by decide) (by decide) [K_X12_write_22] [K_X12_writeWord_34] ⟨2, 120, List.forall_mem_cons.mpr ⟨m_X12_write_22, fun _ h => absurd h List.not_mem_nil⟩, by decide, by decide, by decide⟩ ⟨8, 251, List.forall_mem_cons.mpr ⟨m_X12_writeWord_34, fun _ h => absurd h List.not_mem_nil⟩, by decide, by decide, by decide⟩) (by decide) (by decide +kernel)
set_option maxRecDepth 200000 in
set_option maxHeartbeats 4000000 in
def K_X12_wordOf_6 : tb_K := ([.inl (1, 0)], [], [], [(0, 0), (14, 14)], [(some (.inr (.inr 2)), [], [], [(0, 0), (14, 14), (1369621, 1369621)])], [])
set_option maxRecDepth 200000 in
set_option maxHeartbeats 4000000 in
def T_X12_wordOf_6 : List (tb_S × tb_l) := []
set_option maxRecDepth 200000 in
set_option maxHeartbeats 4000000 in
theorem m_X12_wordOf_6 {l : Launch} : tb_Met l vwCl sa_Ts tb_Z0 yX12_wordOf cX12_wordOf 1 (some .long) 3 148 K_X12_wordOf_6 := tb_method (by decide) [317] (t_X12_wordOf [] [] [] [] [] [] [] [] [] [] [] [] [] [] [] [K_X12_spelt_15] [] [] [] [] []) T_X12_wordOf_6 [] 6000 (List.forall_mem_cons.mpr ⟨dX12_wordOf_317, fun _ h => absurd h List.not_mem_nil⟩) (h_X12_wordOf [] 3 148 (by decide) (by decide) [] [] [] [] [] [] [] [] [] [] [] [] [] [] [K_X12_spelt_15] [] [] [] [] [] (tb_ML0 (by decide) (by decide)) (tb_ML0 (by decide) (by decide)) (tb_ML0 (by decide) (by decide)) (tb_ML0 (by decide) (by decide)) (tb_ML0 (by decide) (by decide)) (tb_ML0 (by decide) (by decide)) (tb_ML0 (by decide) (by decide)) (tb_ML0 (by decide) (by decide)) (tb_ML0 (by decide) (by decide)) (tb_ML0 (by decide) (by decide)) (tb_ML0 (by decide) (by decide)) (tb_ML0 (by decide) (by decide)) (tb_ML0 (by decide) (by decide)) (tb_ML0 (by decide) (by decide)) ⟨2, 120, List.forall_mem_cons.mpr ⟨m_X12_spelt_15, fun _ h => absurd h List.not_mem_nil⟩, by decide, by decide, by decide⟩ (tb_ML0 (by decide) (by decide)) (tb_ML0 (by decide) (by decide)) (tb_ML0 (by decide) (by decide)) (tb_ML0 (by decide) (by decide)) (tb_ML0 (by decide) (by decide))) (by decide) (by decide +kernel)
set_option maxRecDepth 200000 in
set_option maxHeartbeats 4000000 in
def K_X12_writeWord_35 : tb_K := ([.inr (.inl (some 1)), .inr (.inr 2)], [(1, (0, 35), .inl (3, 0))], [], [(0, 0), (1180591620717411303492, 1180591620717411303492), (2, 2), (2, 9)], [(none, [(1, (0, 35), .inl (3, 1))], [], [(0, 0), (1180591620717411303492, 1180591620717411303492), (2, 2), (2, 9)])], [(68, 35, 35), (83, 2, 9)])
set_option maxRecDepth 200000 in
set_option maxHeartbeats 4000000 in
def T_X12_writeWord_35 : List (tb_S × tb_l) := []
set_option maxRecDepth 200000 in
set_option maxHeartbeats 4000000 in
theorem m_X12_writeWord_35 {l : Launch} : tb_Met l vwCl sa_Ts tb_Z0 yX12_writeWord cX12_writeWord 3 none 3 141 K_X12_writeWord_35 := tb_method (by decide) [30] (t_X12_writeWord [(68, 35, 35), (83, 2, 9)] [] [K_X12_write_10]) T_X12_writeWord_35 [] 6000 (List.forall_mem_cons.mpr ⟨dX12_writeWord_30, fun _ h => absurd h List.not_mem_nil⟩) (h_X12_writeWord [(68, 35, 35), (83, 2, 9)] 3 141 (by decide) (by decide) [] [K_X12_write_10] (tb_ML0 (by decide) (by decide)) ⟨2, 120, List.forall_mem_cons.mpr ⟨m_X12_write_10, fun _ h => absurd h List.not_mem_nil⟩, by decide, by decide, by decide⟩) (by decide) (by decide +kernel)
set_option maxRecDepth 200000 in
set_option maxHeartbeats 4000000 in
def K_X12_writeWord_36 : tb_K := ([.inr (.inl (some 1)), .inr (.inr 2)], [(1, (0, 35), .inl (3, 0))], [], [(0, 0), (1180591620717411303492, 1180591620717411303492), (69, 69), (2, 9)], [(none, [(1, (0, 35), .inl (3, 2))], [], [(0, 0), (1180591620717411303492, 1180591620717411303492), (69, 69), (2, 9)])], [(68, 35, 35), (83, 2, 10)])
set_option maxRecDepth 200000 in
set_option maxHeartbeats 4000000 in
def T_X12_writeWord_36 : List (tb_S × tb_l) := []
set_option maxRecDepth 200000 in
set_option maxHeartbeats 4000000 in
theorem m_X12_writeWord_36 {l : Launch} : tb_Met l vwCl sa_Ts tb_Z0 yX12_writeWord cX12_writeWord 3 none 4 163 K_X12_writeWord_36 := tb_method (by decide) [30] (t_X12_writeWord [(68, 35, 35), (83, 2, 10)] [K_X12_writeWord_35] [K_X12_write_11]) T_X12_writeWord_36 [] 6000 (List.forall_mem_cons.mpr ⟨dX12_writeWord_30, fun _ h => absurd h List.not_mem_nil⟩) (h_X12_writeWord [(68, 35, 35), (83, 2, 10)] 4 163 (by decide) (by decide) [K_X12_writeWord_35] [K_X12_write_11] ⟨3, 141, List.forall_mem_cons.mpr ⟨m_X12_writeWord_35, fun _ h => absurd h List.not_mem_nil⟩, by decide, by decide, by decide⟩ ⟨2, 120, List.forall_mem_cons.mpr ⟨m_X12_write_11, fun _ h => absurd h List.not_mem_nil⟩, by decide, by decide, by decide⟩) (by decide) (by decide +kernel)
set_option maxRecDepth 200000 in
set_option maxHeartbeats 4000000 in
def K_X12_writeWord_37 : tb_K := ([.inr (.inl (some 1)), .inr (.inr 2)], [(1, (0, 35), .inl (3, 0))], [], [(0, 0), (1180591620717411303492, 1180591620717411303492), (1878, 1878), (2, 9)], [(none, [(1, (0, 35), .inl (3, 3))], [], [(0, 0), (1180591620717411303492, 1180591620717411303492), (1878, 1878), (2, 9)])], [(68, 35, 35), (83, 2, 11)])
set_option maxRecDepth 200000 in
set_option maxHeartbeats 4000000 in
def T_X12_writeWord_37 : List (tb_S × tb_l) := []
set_option maxRecDepth 200000 in
set_option maxHeartbeats 4000000 in
theorem m_X12_writeWord_37 {l : Launch} : tb_Met l vwCl sa_Ts tb_Z0 yX12_writeWord cX12_writeWord 3 none 5 185 K_X12_writeWord_37 := tb_method (by decide) [30] (t_X12_writeWord [(68, 35, 35), (83, 2, 11)] [K_X12_writeWord_36] [K_X12_write_12]) T_X12_writeWord_37 [] 6000 (List.forall_mem_cons.mpr ⟨dX12_writeWord_30, fun _ h => absurd h List.not_mem_nil⟩) (h_X12_writeWord [(68, 35, 35), (83, 2, 11)] 5 185 (by decide) (by decide) [K_X12_writeWord_36] [K_X12_write_12] ⟨4, 163, List.forall_mem_cons.mpr ⟨m_X12_writeWord_36, fun _ h => absurd h List.not_mem_nil⟩, by decide, by decide, by decide⟩ ⟨2, 120, List.forall_mem_cons.mpr ⟨m_X12_write_12, fun _ h => absurd h List.not_mem_nil⟩, by decide, by decide, by decide⟩) (by decide) (by decide +kernel)
set_option maxRecDepth 200000 in
set_option maxHeartbeats 4000000 in
def K_X12_writeWord_38 : tb_K := ([.inr (.inl (some 1)), .inr (.inr 2)], [(1, (0, 35), .inl (3, 0))], [], [(0, 0), (1180591620717411303492, 1180591620717411303492), (50726, 50726), (2, 9)], [(none, [(1, (0, 35), .inl (3, 4))], [], [(0, 0), (1180591620717411303492, 1180591620717411303492), (50726, 50726), (2, 9)])], [(68, 35, 35), (83, 2, 12)])
set_option maxRecDepth 200000 in
set_option maxHeartbeats 4000000 in
def T_X12_writeWord_38 : List (tb_S × tb_l) := []
set_option maxRecDepth 200000 in
set_option maxHeartbeats 4000000 in
theorem m_X12_writeWord_38 {l : Launch} : tb_Met l vwCl sa_Ts tb_Z0 yX12_writeWord cX12_writeWord 3 none 6 207 K_X12_writeWord_38 := tb_method (by decide) [30] (t_X12_writeWord [(68, 35, 35), (83, 2, 12)] [K_X12_writeWord_37] [K_X12_write_13]) T_X12_writeWord_38 [] 6000 (List.forall_mem_cons.mpr ⟨dX12_writeWord_30, fun _ h => absurd h List.not_mem_nil⟩) (h_X12_writeWord [(68, 35, 35), (83, 2, 12)] 6 207 (by decide) (by decide) [K_X12_writeWord_37] [K_X12_write_13] ⟨5, 185, List.forall_mem_cons.mpr ⟨m_X12_writeWord_37, fun _ h => absurd h List.not_mem_nil⟩, by decide, by decide, by decide⟩ ⟨2, 120, List.forall_mem_cons.mpr ⟨m_X12_write_13, fun _ h => absurd h List.not_mem_nil⟩, by decide, by decide, by decide⟩) (by decide) (by decide +kernel)
set_option maxRecDepth 200000 in
set_option maxHeartbeats 4000000 in
def K_X12_writeWord_39 : tb_K := ([.inr (.inl (some 1)), .inr (.inr 2)], [(1, (0, 35), .inl (3, 0))], [], [(0, 0), (1180591620717411303492, 1180591620717411303492), (1369621, 1369621), (2, 9)], [(none, [(1, (0, 35), .inl (3, 5))], [], [(0, 0), (1180591620717411303492, 1180591620717411303492), (1369621, 1369621), (2, 9)])], [(68, 35, 35), (83, 2, 13)])
set_option maxRecDepth 200000 in
set_option maxHeartbeats 4000000 in
def T_X12_writeWord_39 : List (tb_S × tb_l) := []
set_option maxRecDepth 200000 in
set_option maxHeartbeats 4000000 in
theorem m_X12_writeWord_39 {l : Launch} : tb_Met l vwCl sa_Ts tb_Z0 yX12_writeWord cX12_writeWord 3 none 7 229 K_X12_writeWord_39 := tb_method (by decide) [30] (t_X12_writeWord [(68, 35, 35), (83, 2, 13)] [K_X12_writeWord_38] [K_X12_write_14]) T_X12_writeWord_39 [] 6000 (List.forall_mem_cons.mpr ⟨dX12_writeWord_30, fun _ h => absurd h List.not_mem_nil⟩) (h_X12_writeWord [(68, 35, 35), (83, 2, 13)] 7 229 (by decide) (by decide) [K_X12_writeWord_38] [K_X12_write_14] ⟨6, 207, List.forall_mem_cons.mpr ⟨m_X12_writeWord_38, fun _ h => absurd h List.not_mem_nil⟩, by decide, by decide, by decide⟩ ⟨2, 120, List.forall_mem_cons.mpr ⟨m_X12_write_14, fun _ h => absurd h List.not_mem_nil⟩, by decide, by decide, by decide⟩) (by decide) (by decide +kernel)
set_option maxRecDepth 200000 in
set_option maxHeartbeats 4000000 in
def K_X12_writeNext_6 : tb_K := ([.inr (.inl (some 1)), .inr (.inr 2)], [(1, (0, 35), .inl (3, 0))], [], [(0, 0), (1180591620717411303492, 1180591620717411303492), (1369621, 1369621), (1, 8)], [(none, [(1, (0, 35), .inl (3, 6))], [], [(0, 0), (1180591620717411303492, 1180591620717411303492), (1369621, 1369621), (1, 8)])], [(68, 35, 35), (83, 1, 13)])
set_option maxRecDepth 200000 in
set_option maxHeartbeats 4000000 in
def T_X12_writeNext_6 : List (tb_S × tb_l) := []
set_option maxRecDepth 200000 in
set_option maxHeartbeats 4000000 in
theorem m_X12_writeNext_6 {l : Launch} : tb_Met l vwCl sa_Ts tb_Z0 yX12_writeNext cX12_writeNext 3 none 8 251 K_X12_writeNext_6 := tb_method (by decide) [11] (t_X12_writeNext [(68, 35, 35), (83, 1, 13)] [K_X12_write_9] [K_X12_writeWord_39]) T_X12_writeNext_6 [] 6000 (List.forall_mem_cons.mpr ⟨dX12_writeNext_11, fun _ h => absurd h List.not_mem_nil⟩) (h_X12_writeNext [(68, 35, 35), (83, 1, 13)] 8 251 (by decide) (by decide) [K_X12_write_9] [K_X12_writeWord_39] ⟨2, 120, List.forall_mem_cons.mpr ⟨m_X12_write_9, fun _ h => absurd h List.not_mem_nil⟩, by decide, by decide, by decide⟩ ⟨7, 229, List.forall_mem_cons.mpr ⟨m_X12_writeWord_39, fun _ h => absurd h List.not_mem_nil⟩, by decide, by decide, by decide⟩) (by decide) (by decide +kernel)
set_option maxRecDepth 200000 in
set_option maxHeartbeats 4000000 in
def K_X12_write_29 : tb_K := ([.inr (.inl (some 1)), .inl (2, 0)], [(1, (0, 35), .inl (3, 0))], [], [(0, 0), (1180591620717411303492, 1180591620717411303492), (-2147483648, 2147483647), (9, 24)], [(none, [(1, (0, 35), .inl (3, 1))], [], [(0, 0), (1180591620717411303492, 1180591620717411303492), (-2147483648, 2147483647), (9, 24)])], [(68, 35, 35), (83, 9, 24)])
set_option maxRecDepth 200000 in
set_option maxHeartbeats 4000000 in
def T_X12_write_29 : List (tb_S × tb_l) := []
set_option maxRecDepth 200000 in
set_option maxHeartbeats 4000000 in
theorem m_X12_write_29 {l : Launch} : tb_Met l vwCl sa_Ts tb_Z0 yX12_write cX12_write 2 none 2 120 K_X12_write_29 := tb_method (by decide) [20] (t_X12_write [(68, 35, 35), (83, 9, 24)] ) T_X12_write_29 [] 6000 (List.forall_mem_cons.mpr ⟨dX12_write_20, fun _ h => absurd h List.not_mem_nil⟩) (h_X12_write [(68, 35, 35), (83, 9, 24)] 2 120 (by decide) (by decide)  ) (by decide) (by decide +kernel)
def t_X12_writeNumber (mod : List (Nat × Nat × Nat)) (L11 : List tb_K) (L22 : List tb_K) : List (Nat × tb_op) := [(0, to_iload 1 1), (1, to_int (9) 2), (3, to_icmp tr_le (sr_flip tr_lt) 14), (6, to_aload 0 1), (7, to_iload 1 1), (8, to_int (10) 2), (10, to_bin tf_div), (11, to_cs tb_Z0 mod (tb_gV tb_Z0 12 2 0 0) L11), (14, to_aload 0 1), (15, to_int (48) 2), (17, to_iload 1 1), (18, to_int (10) 2), (20, to_bin tf_rem), (21, to_bin tf_add), (22, to_cs tb_Z0 mod (tb_gV tb_Z0 12 2 0 0) L22)]
set_option maxRecDepth 200000 in
set_option maxHeartbeats 4000000 in
theorem h_X12_writeNumber {l : Launch} (mod : List (Nat × Nat × Nat)) (fr lc : Nat) (hfr : 1 + 1 ≤ fr) (hlc : 8 + (2 + 11) + 20 ≤ lc) (L11 : List tb_K) (L22 : List tb_K) (h11 : tb_ML l yX12_writeNumber cX12_writeNumber 2 none fr lc 2 L11) (h22 : tb_ML l yX12_write cX12_write 2 none fr lc 2 L22) : ∀ (p : Program) (e : Env) (s : State) (m : MethodId) (args : Array Value) (below : List Frame) (meth : Method) (c : Code) (Q : State → Prop) (D : va_G) (dA : Nat → ClassId) (A : Nat → Prop) (n0 : Nat) (V0 : sa_V) (E : tb_E), sa_C p s m args c D dA A 2 vwCl sa_Ts cX12_writeNumber yX12_writeNumber.cls → sa_U D vwCl dA s → tb_z E = tb_Z0 → tb_mod E = mod → ∀ q ∈ t_X12_writeNumber mod L11 L22, tb_snd p l e { frames := fr, cells := 0, slots := 0, locals := lc } s m args below meth c Q D dA A 2 vwCl n0 V0 E q.1 q.2 := fun p e s m args below meth c Q D dA A n0 V0 E C0 hU hz hm => List.forall_mem_cons.mpr ⟨tn_iload_n C0 dX12_writeNumber_0, List.forall_mem_cons.mpr ⟨tn_bipush C0 dX12_writeNumber_1 (by decide), List.forall_mem_cons.mpr ⟨tx_icmp_le C0 dX12_writeNumber_3 (by decide), List.forall_mem_cons.mpr ⟨tn_aload_n C0 dX12_writeNumber_6, List.forall_mem_cons.mpr ⟨tn_iload_n C0 dX12_writeNumber_7, List.forall_mem_cons.mpr ⟨tn_bipush C0 dX12_writeNumber_8 (by decide), List.forall_mem_cons.mpr ⟨tn_idiv C0 tf_div_ok dX12_writeNumber_10, List.forall_mem_cons.mpr ⟨tn_cV C0 hz hm hU h11 tv_1779 dX12_writeNumber_11 tv_1776 tv_1778 tq_X12_writeNumber tv_13 rfl yb_X12_writeNumber (Nat.le_refl _) (Nat.le_refl _), List.forall_mem_cons.mpr ⟨tn_aload_n C0 dX12_writeNumber_14, List.forall_mem_cons.mpr ⟨tn_bipush C0 dX12_writeNumber_15 (by decide), List.forall_mem_cons.mpr ⟨tn_iload_n C0 dX12_writeNumber_17, List.forall_mem_cons.mpr ⟨tn_bipush C0 dX12_writeNumber_18 (by decide), List.forall_mem_cons.mpr ⟨tn_irem C0 tf_rem_ok dX12_writeNumber_20, List.forall_mem_cons.mpr ⟨tn_iadd C0 tf_add_ok dX12_writeNumber_21, List.forall_mem_cons.mpr ⟨tn_cV C0 hz hm hU h22 tv_1771 dX12_writeNumber_22 tv_1768 tv_1770 tq_X12_write tv_13 rfl yb_X12_write (Nat.le_refl _) (Nat.le_refl _), fun _ h => absurd h List.not_mem_nil⟩⟩⟩⟩⟩⟩⟩⟩⟩⟩⟩⟩⟩⟩⟩
set_option maxRecDepth 200000 in
set_option maxHeartbeats 4000000 in
def K_X12_writeNumber_1 : tb_K := ([.inr (.inl (some 1)), .inl (2, 0)], [(1, (0, 35), .inl (3, 0))], [], [(0, 0), (1180591620717411303492, 1180591620717411303492), (1, 2), (8, 15)], [(none, [(1, (0, 35), .inl (3, 1))], [], [(0, 0), (1180591620717411303492, 1180591620717411303492), (1, 2), (8, 15)])], [(68, 35, 35), (83, 7, 15)])
set_option maxRecDepth 200000 in
set_option maxHeartbeats 4000000 in
def T_X12_writeNumber_1 : List (tb_S × tb_l) := []
set_option maxRecDepth 200000 in
set_option maxHeartbeats 4000000 in
theorem m_X12_writeNumber_1 {l : Launch} : tb_Met l vwCl sa_Ts tb_Z0 yX12_writeNumber cX12_writeNumber 2 none 3 141 K_X12_writeNumber_1 := tb_method (by decide) [25] (t_X12_writeNumber [(68, 35, 35), (83, 7, 15)] [] [K_X12_write_20]) T_X12_writeNumber_1 [] 6000 (List.forall_mem_cons.mpr ⟨dX12_writeNumber_25, fun _ h => absurd h List.not_mem_nil⟩) (h_X12_writeNumber [(68, 35, 35), (83, 7, 15)] 3 141 (by decide) (by decide) [] [K_X12_write_20] (tb_ML0 (by decide) (by decide)) ⟨2, 120, List.forall_mem_cons.mpr ⟨m_X12_write_20, fun _ h => absurd h List.not_mem_nil⟩, by decide, by decide, by decide⟩) (by decide) (by decide +kernel)
set_option maxRecDepth 200000 in
set_option maxHeartbeats 4000000 in
def K_X12_writeNumber_2 : tb_K := ([.inr (.inl (some 1)), .inl (2, 0)], [(1, (0, 35), .inl (3, 0))], [], [(0, 0), (1180591620717411303492, 1180591620717411303492), (1, 21), (8, 15)], [(none, [(1, (0, 35), .inl (4, 0))], [], [(0, 0), (1180591620717411303492, 1180591620717411303492), (1, 21), (8, 15), (9, 17)])], [(68, 35, 35), (83, 7, 16)])
set_option maxRecDepth 200000 in
set_option maxHeartbeats 4000000 in
def T_X12_writeNumber_2 : List (tb_S × tb_l) := []
set_option maxRecDepth 200000 in
set_option maxHeartbeats 4000000 in
theorem m_X12_writeNumber_2 {l : Launch} : tb_Met l vwCl sa_Ts tb_Z0 yX12_writeNumber cX12_writeNumber 2 none 4 162 K_X12_writeNumber_2 := tb_method (by decide) [25] (t_X12_writeNumber [(68, 35, 35), (83, 7, 16)] [K_X12_writeNumber_1] [K_X12_write_20, K_X12_write_19]) T_X12_writeNumber_2 [] 6000 (List.forall_mem_cons.mpr ⟨dX12_writeNumber_25, fun _ h => absurd h List.not_mem_nil⟩) (h_X12_writeNumber [(68, 35, 35), (83, 7, 16)] 4 162 (by decide) (by decide) [K_X12_writeNumber_1] [K_X12_write_20, K_X12_write_19] ⟨3, 141, List.forall_mem_cons.mpr ⟨m_X12_writeNumber_1, fun _ h => absurd h List.not_mem_nil⟩, by decide, by decide, by decide⟩ ⟨2, 120, List.forall_mem_cons.mpr ⟨m_X12_write_20, List.forall_mem_cons.mpr ⟨m_X12_write_19, fun _ h => absurd h List.not_mem_nil⟩⟩, by decide, by decide, by decide⟩) (by decide) (by decide +kernel)
set_option maxRecDepth 200000 in
set_option maxHeartbeats 4000000 in
def K_X12_writeNumber_3 : tb_K := ([.inr (.inl (some 1)), .inl (2, 0)], [(1, (0, 35), .inl (3, 0))], [], [(0, 0), (1180591620717411303492, 1180591620717411303492), (1, 214), (8, 15)], [(none, [(1, (0, 35), .inl (4, 0))], [], [(0, 0), (1180591620717411303492, 1180591620717411303492), (1, 214), (8, 15), (9, 18)])], [(68, 35, 35), (83, 7, 17)])
set_option maxRecDepth 200000 in
set_option maxHeartbeats 4000000 in
def T_X12_writeNumber_3 : List (tb_S × tb_l) := []
set_option maxRecDepth 200000 in
set_option maxHeartbeats 4000000 in
theorem m_X12_writeNumber_3 {l : Launch} : tb_Met l vwCl sa_Ts tb_Z0 yX12_writeNumber cX12_writeNumber 2 none 5 183 K_X12_writeNumber_3 := tb_method (by decide) [25] (t_X12_writeNumber [(68, 35, 35), (83, 7, 17)] [K_X12_writeNumber_2] [K_X12_write_20, K_X12_write_18]) T_X12_writeNumber_3 [] 6000 (List.forall_mem_cons.mpr ⟨dX12_writeNumber_25, fun _ h => absurd h List.not_mem_nil⟩) (h_X12_writeNumber [(68, 35, 35), (83, 7, 17)] 5 183 (by decide) (by decide) [K_X12_writeNumber_2] [K_X12_write_20, K_X12_write_18] ⟨4, 162, List.forall_mem_cons.mpr ⟨m_X12_writeNumber_2, fun _ h => absurd h List.not_mem_nil⟩, by decide, by decide, by decide⟩ ⟨2, 120, List.forall_mem_cons.mpr ⟨m_X12_write_20, List.forall_mem_cons.mpr ⟨m_X12_write_18, fun _ h => absurd h List.not_mem_nil⟩⟩, by decide, by decide, by decide⟩) (by decide) (by decide +kernel)
set_option maxRecDepth 200000 in
set_option maxHeartbeats 4000000 in
def K_X12_writeNumber_4 : tb_K := ([.inr (.inl (some 1)), .inl (2, 0)], [(1, (0, 35), .inl (3, 0))], [], [(0, 0), (1180591620717411303492, 1180591620717411303492), (1, 2147), (8, 15)], [(none, [(1, (0, 35), .inl (4, 0))], [], [(0, 0), (1180591620717411303492, 1180591620717411303492), (1, 2147), (8, 15), (9, 19)])], [(68, 35, 35), (83, 7, 18)])
set_option maxRecDepth 200000 in
set_option maxHeartbeats 4000000 in
def T_X12_writeNumber_4 : List (tb_S × tb_l) := []
set_option maxRecDepth 200000 in
set_option maxHeartbeats 4000000 in
theorem m_X12_writeNumber_4 {l : Launch} : tb_Met l vwCl sa_Ts tb_Z0 yX12_writeNumber cX12_writeNumber 2 none 6 204 K_X12_writeNumber_4 := tb_method (by decide) [25] (t_X12_writeNumber [(68, 35, 35), (83, 7, 18)] [K_X12_writeNumber_3] [K_X12_write_20, K_X12_write_17]) T_X12_writeNumber_4 [] 6000 (List.forall_mem_cons.mpr ⟨dX12_writeNumber_25, fun _ h => absurd h List.not_mem_nil⟩) (h_X12_writeNumber [(68, 35, 35), (83, 7, 18)] 6 204 (by decide) (by decide) [K_X12_writeNumber_3] [K_X12_write_20, K_X12_write_17] ⟨5, 183, List.forall_mem_cons.mpr ⟨m_X12_writeNumber_3, fun _ h => absurd h List.not_mem_nil⟩, by decide, by decide, by decide⟩ ⟨2, 120, List.forall_mem_cons.mpr ⟨m_X12_write_20, List.forall_mem_cons.mpr ⟨m_X12_write_17, fun _ h => absurd h List.not_mem_nil⟩⟩, by decide, by decide, by decide⟩) (by decide) (by decide +kernel)
set_option maxRecDepth 200000 in
set_option maxHeartbeats 4000000 in
def K_X12_writeNumber_5 : tb_K := ([.inr (.inl (some 1)), .inl (2, 0)], [(1, (0, 35), .inl (3, 0))], [], [(0, 0), (1180591620717411303492, 1180591620717411303492), (1, 21474), (8, 15)], [(none, [(1, (0, 35), .inl (4, 0))], [], [(0, 0), (1180591620717411303492, 1180591620717411303492), (1, 21474), (8, 15), (9, 20)])], [(68, 35, 35), (83, 7, 19)])
set_option maxRecDepth 200000 in
set_option maxHeartbeats 4000000 in
def T_X12_writeNumber_5 : List (tb_S × tb_l) := []
set_option maxRecDepth 200000 in
set_option maxHeartbeats 4000000 in
theorem m_X12_writeNumber_5 {l : Launch} : tb_Met l vwCl sa_Ts tb_Z0 yX12_writeNumber cX12_writeNumber 2 none 7 225 K_X12_writeNumber_5 := tb_method (by decide) [25] (t_X12_writeNumber [(68, 35, 35), (83, 7, 19)] [K_X12_writeNumber_4] [K_X12_write_20, K_X12_write_16]) T_X12_writeNumber_5 [] 6000 (List.forall_mem_cons.mpr ⟨dX12_writeNumber_25, fun _ h => absurd h List.not_mem_nil⟩) (h_X12_writeNumber [(68, 35, 35), (83, 7, 19)] 7 225 (by decide) (by decide) [K_X12_writeNumber_4] [K_X12_write_20, K_X12_write_16] ⟨6, 204, List.forall_mem_cons.mpr ⟨m_X12_writeNumber_4, fun _ h => absurd h List.not_mem_nil⟩, by decide, by decide, by decide⟩ ⟨2, 120, List.forall_mem_cons.mpr ⟨m_X12_write_20, List.forall_mem_cons.mpr ⟨m_X12_write_16, fun _ h => absurd h List.not_mem_nil⟩⟩, by decide, by decide, by decide⟩) (by decide) (by decide +kernel)
set_option maxRecDepth 200000 in
set_option maxHeartbeats 4000000 in
def K_X12_writeNumber_6 : tb_K := ([.inr (.inl (some 1)), .inl (2, 0)], [(1, (0, 35), .inl (3, 0))], [], [(0, 0), (1180591620717411303492, 1180591620717411303492), (1, 214748), (8, 15)], [(none, [(1, (0, 35), .inl (4, 0))], [], [(0, 0), (1180591620717411303492, 1180591620717411303492), (1, 214748), (8, 15), (9, 21)])], [(68, 35, 35), (83, 7, 20)])
set_option maxRecDepth 200000 in
set_option maxHeartbeats 4000000 in
def T_X12_writeNumber_6 : List (tb_S × tb_l) := []
set_option maxRecDepth 200000 in
set_option maxHeartbeats 4000000 in
theorem m_X12_writeNumber_6 {l : Launch} : tb_Met l vwCl sa_Ts tb_Z0 yX12_writeNumber cX12_writeNumber 2 none 8 246 K_X12_writeNumber_6 := tb_method (by decide) [25] (t_X12_writeNumber [(68, 35, 35), (83, 7, 20)] [K_X12_writeNumber_5] [K_X12_write_20, K_X12_write_15]) T_X12_writeNumber_6 [] 6000 (List.forall_mem_cons.mpr ⟨dX12_writeNumber_25, fun _ h => absurd h List.not_mem_nil⟩) (h_X12_writeNumber [(68, 35, 35), (83, 7, 20)] 8 246 (by decide) (by decide) [K_X12_writeNumber_5] [K_X12_write_20, K_X12_write_15] ⟨7, 225, List.forall_mem_cons.mpr ⟨m_X12_writeNumber_5, fun _ h => absurd h List.not_mem_nil⟩, by decide, by decide, by decide⟩ ⟨2, 120, List.forall_mem_cons.mpr ⟨m_X12_write_20, List.forall_mem_cons.mpr ⟨m_X12_write_15, fun _ h => absurd h List.not_mem_nil⟩⟩, by decide, by decide, by decide⟩) (by decide) (by decide +kernel)
set_option maxRecDepth 200000 in
set_option maxHeartbeats 4000000 in
def K_X12_writeNumber_7 : tb_K := ([.inr (.inl (some 1)), .inl (2, 0)], [(1, (0, 35), .inl (3, 0))], [], [(0, 0), (1180591620717411303492, 1180591620717411303492), (1, 2147483), (8, 15)], [(none, [(1, (0, 35), .inl (4, 0))], [], [(0, 0), (1180591620717411303492, 1180591620717411303492), (1, 2147483), (8, 15), (9, 22)])], [(68, 35, 35), (83, 7, 21)])
set_option maxRecDepth 200000 in
set_option maxHeartbeats 4000000 in
def T_X12_writeNumber_7 : List (tb_S × tb_l) := []
set_option maxRecDepth 200000 in
set_option maxHeartbeats 4000000 in
theorem m_X12_writeNumber_7 {l : Launch} : tb_Met l vwCl sa_Ts tb_Z0 yX12_writeNumber cX12_writeNumber 2 none 9 267 K_X12_writeNumber_7 := tb_method (by decide) [25] (t_X12_writeNumber [(68, 35, 35), (83, 7, 21)] [K_X12_writeNumber_6] [K_X12_write_20, K_X12_write_22]) T_X12_writeNumber_7 [] 6000 (List.forall_mem_cons.mpr ⟨dX12_writeNumber_25, fun _ h => absurd h List.not_mem_nil⟩) (h_X12_writeNumber [(68, 35, 35), (83, 7, 21)] 9 267 (by decide) (by decide) [K_X12_writeNumber_6] [K_X12_write_20, K_X12_write_22] ⟨8, 246, List.forall_mem_cons.mpr ⟨m_X12_writeNumber_6, fun _ h => absurd h List.not_mem_nil⟩, by decide, by decide, by decide⟩ ⟨2, 120, List.forall_mem_cons.mpr ⟨m_X12_write_20, List.forall_mem_cons.mpr ⟨m_X12_write_22, fun _ h => absurd h List.not_mem_nil⟩⟩, by decide, by decide, by decide⟩) (by decide) (by decide +kernel)
set_option maxRecDepth 200000 in
set_option maxHeartbeats 4000000 in
def K_X12_writeNumber_8 : tb_K := ([.inr (.inl (some 1)), .inl (2, 0)], [(1, (0, 35), .inl (3, 0))], [], [(0, 0), (1180591620717411303492, 1180591620717411303492), (1, 21474836), (8, 15)], [(none, [(1, (0, 35), .inl (4, 0))], [], [(0, 0), (1180591620717411303492, 1180591620717411303492), (1, 21474836), (8, 15), (9, 23)])], [(68, 35, 35), (83, 7, 22)])
set_option maxRecDepth 200000 in
set_option maxHeartbeats 4000000 in
def T_X12_writeNumber_8 : List (tb_S × tb_l) := []
set_option maxRecDepth 200000 in
set_option maxHeartbeats 4000000 in
theorem m_X12_writeNumber_8 {l : Launch} : tb_Met l vwCl sa_Ts tb_Z0 yX12_writeNumber cX12_writeNumber 2 none 10 288 K_X12_writeNumber_8 := tb_method (by decide) [25] (t_X12_writeNumber [(68, 35, 35), (83, 7, 22)] [K_X12_writeNumber_7] [K_X12_write_20, K_X12_write_23]) T_X12_writeNumber_8 [] 6000 (List.forall_mem_cons.mpr ⟨dX12_writeNumber_25, fun _ h => absurd h List.not_mem_nil⟩) (h_X12_writeNumber [(68, 35, 35), (83, 7, 22)] 10 288 (by decide) (by decide) [K_X12_writeNumber_7] [K_X12_write_20, K_X12_write_23] ⟨9, 267, List.forall_mem_cons.mpr ⟨m_X12_writeNumber_7, fun _ h => absurd h List.not_mem_nil⟩, by decide, by decide, by decide⟩ ⟨2, 120, List.forall_mem_cons.mpr ⟨m_X12_write_20, List.forall_mem_cons.mpr ⟨m_X12_write_23, fun _ h => absurd h List.not_mem_nil⟩⟩, by decide, by decide, by decide⟩) (by decide) (by decide +kernel)
set_option maxRecDepth 200000 in
set_option maxHeartbeats 4000000 in
def K_X12_writeNumber_9 : tb_K := ([.inr (.inl (some 1)), .inl (2, 0)], [(1, (0, 35), .inl (3, 0))], [], [(0, 0), (1180591620717411303492, 1180591620717411303492), (1, 214748364), (8, 15)], [(none, [(1, (0, 35), .inl (4, 0))], [], [(0, 0), (1180591620717411303492, 1180591620717411303492), (1, 214748364), (8, 15), (9, 24)])], [(68, 35, 35), (83, 7, 23)])
set_option maxRecDepth 200000 in
set_option maxHeartbeats 4000000 in
def T_X12_writeNumber_9 : List (tb_S × tb_l) := []
set_option maxRecDepth 200000 in
set_option maxHeartbeats 4000000 in
theorem m_X12_writeNumber_9 {l : Launch} : tb_Met l vwCl sa_Ts tb_Z0 yX12_writeNumber cX12_writeNumber 2 none 11 309 K_X12_writeNumber_9 := tb_method (by decide) [25] (t_X12_writeNumber [(68, 35, 35), (83, 7, 23)] [K_X12_writeNumber_8] [K_X12_write_20, K_X12_write_24]) T_X12_writeNumber_9 [] 6000 (List.forall_mem_cons.mpr ⟨dX12_writeNumber_25, fun _ h => absurd h List.not_mem_nil⟩) (h_X12_writeNumber [(68, 35, 35), (83, 7, 23)] 11 309 (by decide) (by decide) [K_X12_writeNumber_8] [K_X12_write_20, K_X12_write_24] ⟨10, 288, List.forall_mem_cons.mpr ⟨m_X12_writeNumber_8, fun _ h => absurd h List.not_mem_nil⟩, by decide, by decide, by decide⟩ ⟨2, 120, List.forall_mem_cons.mpr ⟨m_X12_write_20, List.forall_mem_cons.mpr ⟨m_X12_write_24, fun _ h => absurd h List.not_mem_nil⟩⟩, by decide, by decide, by decide⟩) (by decide) (by decide +kernel)
set_option maxRecDepth 200000 in
set_option maxHeartbeats 4000000 in
def K_X12_writeNumber_10 : tb_K := ([.inr (.inl (some 1)), .inl (2, 0)], [(1, (0, 35), .inl (3, 0))], [], [(0, 0), (1180591620717411303492, 1180591620717411303492), (-2147483648, 2147483647), (8, 15)], [(none, [(1, (0, 35), .inl (4, 0))], [], [(0, 0), (1180591620717411303492, 1180591620717411303492), (-2147483648, 2147483647), (8, 15), (9, 25)])], [(68, 35, 35), (83, 7, 24)])
set_option maxRecDepth 200000 in
set_option maxHeartbeats 4000000 in
def T_X12_writeNumber_10 : List (tb_S × tb_l) := []
set_option maxRecDepth 200000 in
set_option maxHeartbeats 4000000 in
theorem m_X12_writeNumber_10 {l : Launch} : tb_Met l vwCl sa_Ts tb_Z0 yX12_writeNumber cX12_writeNumber 2 none 12 330 K_X12_writeNumber_10 := tb_method (by decide) [25] (t_X12_writeNumber [(68, 35, 35), (83, 7, 24)] [K_X12_writeNumber_9] [K_X12_write_20, K_X12_write_29]) T_X12_writeNumber_10 [] 6000 (List.forall_mem_cons.mpr ⟨dX12_writeNumber_25, fun _ h => absurd h List.not_mem_nil⟩) (h_X12_writeNumber [(68, 35, 35), (83, 7, 24)] 12 330 (by decide) (by decide) [K_X12_writeNumber_9] [K_X12_write_20, K_X12_write_29] ⟨11, 309, List.forall_mem_cons.mpr ⟨m_X12_writeNumber_9, fun _ h => absurd h List.not_mem_nil⟩, by decide, by decide, by decide⟩ ⟨2, 120, List.forall_mem_cons.mpr ⟨m_X12_write_20, List.forall_mem_cons.mpr ⟨m_X12_write_29, fun _ h => absurd h List.not_mem_nil⟩⟩, by decide, by decide, by decide⟩) (by decide) (by decide +kernel)
set_option maxRecDepth 200000 in
set_option maxHeartbeats 4000000 in
def K_X12_spelt_23 : tb_K := ([.inl (1, 0), .inl (2, 0), .inl (3, 0), .inl (4, 0), .inl (5, 0), .inl (6, 0), .inl (7, 0)], [], [], [(0, 0), (105, 105), (115, 115), (0, 0), (0, 0), (0, 0), (0, 0), (0, 0)], [(some (.inr (.inr 8)), [], [], [(0, 0), (105, 105), (115, 115), (0, 0), (0, 0), (0, 0), (0, 0), (0, 0), (262, 262)])], [])
set_option maxRecDepth 200000 in
set_option maxHeartbeats 4000000 in
def T_X12_spelt_23 : List (tb_S × tb_l) := []
set_option maxRecDepth 200000 in
set_option maxHeartbeats 4000000 in
theorem m_X12_spelt_23 {l : Launch} : tb_Met l vwCl sa_Ts tb_Z0 yX12_spelt cX12_spelt 9 (some .long) 2 120 K_X12_spelt_23 := tb_method (by decide) [122] (t_X12_spelt [] ) T_X12_spelt_23 [] 6000 (List.forall_mem_cons.mpr ⟨dX12_spelt_122, fun _ h => absurd h List.not_mem_nil⟩) (h_X12_spelt [] 2 120 (by decide) (by decide)  ) (by decide) (by decide +kernel)
set_option maxRecDepth 200000 in
set_option maxHeartbeats 4000000 in
def K_X12_writeWord_40 : tb_K := ([.inr (.inl (some 1)), .inr (.inr 2)], [(1, (0, 35), .inl (3, 0))], [], [(0, 0), (1180591620717411303492, 1180591620717411303492), (9, 9), (2, 9)], [(none, [(1, (0, 35), .inl (3, 1))], [], [(0, 0), (1180591620717411303492, 1180591620717411303492), (9, 9), (2, 9)])], [(68, 35, 35), (83, 2, 9)])
set_option maxRecDepth 200000 in
set_option maxHeartbeats 4000000 in
def T_X12_writeWord_40 : List (tb_S × tb_l) := []
set_option maxRecDepth 200000 in
set_option maxHeartbeats 4000000 in
theorem m_X12_writeWord_40 {l : Launch} : tb_Met l vwCl sa_Ts tb_Z0 yX12_writeWord cX12_writeWord 3 none 3 141 K_X12_writeWord_40 := tb_method (by decide) [30] (t_X12_writeWord [(68, 35, 35), (83, 2, 9)] [] [K_X12_write_10]) T_X12_writeWord_40 [] 6000 (List.forall_mem_cons.mpr ⟨dX12_writeWord_30, fun _ h => absurd h List.not_mem_nil⟩) (h_X12_writeWord [(68, 35, 35), (83, 2, 9)] 3 141 (by decide) (by decide) [] [K_X12_write_10] (tb_ML0 (by decide) (by decide)) ⟨2, 120, List.forall_mem_cons.mpr ⟨m_X12_write_10, fun _ h => absurd h List.not_mem_nil⟩, by decide, by decide, by decide⟩) (by decide) (by decide +kernel)
set_option maxRecDepth 200000 in
set_option maxHeartbeats 4000000 in
def K_X12_writeWord_41 : tb_K := ([.inr (.inl (some 1)), .inr (.inr 2)], [(1, (0, 35), .inl (3, 0))], [], [(0, 0), (1180591620717411303492, 1180591620717411303492), (262, 262), (2, 9)], [(none, [(1, (0, 35), .inl (3, 2))], [], [(0, 0), (1180591620717411303492, 1180591620717411303492), (262, 262), (2, 9)])], [(68, 35, 35), (83, 2, 10)])
set_option maxRecDepth 200000 in
set_option maxHeartbeats 4000000 in
def T_X12_writeWord_41 : List (tb_S × tb_l) := []
set_option maxRecDepth 200000 in
set_option maxHeartbeats 4000000 in
theorem m_X12_writeWord_41 {l : Launch} : tb_Met l vwCl sa_Ts tb_Z0 yX12_writeWord cX12_writeWord 3 none 4 163 K_X12_writeWord_41 := tb_method (by decide) [30] (t_X12_writeWord [(68, 35, 35), (83, 2, 10)] [K_X12_writeWord_40] [K_X12_write_11]) T_X12_writeWord_41 [] 6000 (List.forall_mem_cons.mpr ⟨dX12_writeWord_30, fun _ h => absurd h List.not_mem_nil⟩) (h_X12_writeWord [(68, 35, 35), (83, 2, 10)] 4 163 (by decide) (by decide) [K_X12_writeWord_40] [K_X12_write_11] ⟨3, 141, List.forall_mem_cons.mpr ⟨m_X12_writeWord_40, fun _ h => absurd h List.not_mem_nil⟩, by decide, by decide, by decide⟩ ⟨2, 120, List.forall_mem_cons.mpr ⟨m_X12_write_11, fun _ h => absurd h List.not_mem_nil⟩, by decide, by decide, by decide⟩) (by decide) (by decide +kernel)
set_option maxRecDepth 200000 in
set_option maxHeartbeats 4000000 in
def K_X12_writeNext_7 : tb_K := ([.inr (.inl (some 1)), .inr (.inr 2)], [(1, (0, 35), .inl (3, 0))], [], [(0, 0), (1180591620717411303492, 1180591620717411303492), (262, 262), (1, 8)], [(none, [(1, (0, 35), .inl (3, 3))], [], [(0, 0), (1180591620717411303492, 1180591620717411303492), (262, 262), (1, 8)])], [(68, 35, 35), (83, 1, 10)])
set_option maxRecDepth 200000 in
set_option maxHeartbeats 4000000 in
def T_X12_writeNext_7 : List (tb_S × tb_l) := []
set_option maxRecDepth 200000 in
set_option maxHeartbeats 4000000 in
theorem m_X12_writeNext_7 {l : Launch} : tb_Met l vwCl sa_Ts tb_Z0 yX12_writeNext cX12_writeNext 3 none 5 185 K_X12_writeNext_7 := tb_method (by decide) [11] (t_X12_writeNext [(68, 35, 35), (83, 1, 10)] [K_X12_write_9] [K_X12_writeWord_41]) T_X12_writeNext_7 [] 6000 (List.forall_mem_cons.mpr ⟨dX12_writeNext_11, fun _ h => absurd h List.not_mem_nil⟩) (h_X12_writeNext [(68, 35, 35), (83, 1, 10)] 5 185 (by decide) (by decide) [K_X12_write_9] [K_X12_writeWord_41] ⟨2, 120, List.forall_mem_cons.mpr ⟨m_X12_write_9, fun _ h => absurd h List.not_mem_nil⟩, by decide, by decide, by decide⟩ ⟨4, 163, List.forall_mem_cons.mpr ⟨m_X12_writeWord_41, fun _ h => absurd h List.not_mem_nil⟩, by decide, by decide, by decide⟩) (by decide) (by decide +kernel)
set_option maxRecDepth 200000 in
set_option maxHeartbeats 4000000 in
def K_X12_wordOf_7 : tb_K := ([.inl (1, 0)], [], [], [(0, 0), (3, 3)], [(some (.inr (.inr 2)), [], [], [(0, 0), (3, 3), (11103, 11103)])], [])
set_option maxRecDepth 200000 in
set_option maxHeartbeats 4000000 in
def T_X12_wordOf_7 : List (tb_S × tb_l) := []
set_option maxRecDepth 200000 in
set_option maxHeartbeats 4000000 in
theorem m_X12_wordOf_7 {l : Launch} : tb_Met l vwCl sa_Ts tb_Z0 yX12_wordOf cX12_wordOf 1 (some .long) 3 148 K_X12_wordOf_7 := tb_method (by decide) [153] (t_X12_wordOf [] [] [] [] [K_X12_spelt_4] [] [] [] [] [] [] [] [] [] [] [] [] [] [] [] []) T_X12_wordOf_7 [] 6000 (List.forall_mem_cons.mpr ⟨dX12_wordOf_153, fun _ h => absurd h List.not_mem_nil⟩) (h_X12_wordOf [] 3 148 (by decide) (by decide) [] [] [] [K_X12_spelt_4] [] [] [] [] [] [] [] [] [] [] [] [] [] [] [] [] (tb_ML0 (by decide) (by decide)) (tb_ML0 (by decide) (by decide)) (tb_ML0 (by decide) (by decide)) ⟨2, 120, List.forall_mem_cons.mpr ⟨m_X12_spelt_4, fun _ h => absurd h List.not_mem_nil⟩, by decide, by decide, by decide⟩ (tb_ML0 (by decide) (by decide)) (tb_ML0 (by decide) (by decide)) (tb_ML0 (by decide) (by decide)) (tb_ML0 (by decide) (by decide)) (tb_ML0 (by decide) (by decide)) (tb_ML0 (by decide) (by decide)) (tb_ML0 (by decide) (by decide)) (tb_ML0 (by decide) (by decide)) (tb_ML0 (by decide) (by decide)) (tb_ML0 (by decide) (by decide)) (tb_ML0 (by decide) (by decide)) (tb_ML0 (by decide) (by decide)) (tb_ML0 (by decide) (by decide)) (tb_ML0 (by decide) (by decide)) (tb_ML0 (by decide) (by decide)) (tb_ML0 (by decide) (by decide))) (by decide) (by decide +kernel)
set_option maxRecDepth 200000 in
set_option maxHeartbeats 4000000 in
def K_X12_writeWord_42 : tb_K := ([.inr (.inl (some 1)), .inr (.inr 2)], [(1, (0, 35), .inl (3, 0))], [], [(0, 0), (1180591620717411303492, 1180591620717411303492), (15, 15), (5, 12)], [(none, [(1, (0, 35), .inl (3, 1))], [], [(0, 0), (1180591620717411303492, 1180591620717411303492), (15, 15), (5, 12)])], [(68, 35, 35), (83, 5, 12)])
set_option maxRecDepth 200000 in
set_option maxHeartbeats 4000000 in
def T_X12_writeWord_42 : List (tb_S × tb_l) := []
set_option maxRecDepth 200000 in
set_option maxHeartbeats 4000000 in
theorem m_X12_writeWord_42 {l : Launch} : tb_Met l vwCl sa_Ts tb_Z0 yX12_writeWord cX12_writeWord 3 none 3 141 K_X12_writeWord_42 := tb_method (by decide) [30] (t_X12_writeWord [(68, 35, 35), (83, 5, 12)] [] [K_X12_write_13]) T_X12_writeWord_42 [] 6000 (List.forall_mem_cons.mpr ⟨dX12_writeWord_30, fun _ h => absurd h List.not_mem_nil⟩) (h_X12_writeWord [(68, 35, 35), (83, 5, 12)] 3 141 (by decide) (by decide) [] [K_X12_write_13] (tb_ML0 (by decide) (by decide)) ⟨2, 120, List.forall_mem_cons.mpr ⟨m_X12_write_13, fun _ h => absurd h List.not_mem_nil⟩, by decide, by decide, by decide⟩) (by decide) (by decide +kernel)
set_option maxRecDepth 200000 in
set_option maxHeartbeats 4000000 in
def K_X12_writeWord_43 : tb_K := ([.inr (.inl (some 1)), .inr (.inr 2)], [(1, (0, 35), .inl (3, 0))], [], [(0, 0), (1180591620717411303492, 1180591620717411303492), (411, 411), (5, 12)], [(none, [(1, (0, 35), .inl (3, 2))], [], [(0, 0), (1180591620717411303492, 1180591620717411303492), (411, 411), (5, 12)])], [(68, 35, 35), (83, 5, 13)])
set_option maxRecDepth 200000 in
set_option maxHeartbeats 4000000 in
def T_X12_writeWord_43 : List (tb_S × tb_l) := []
set_option maxRecDepth 200000 in
set_option maxHeartbeats 4000000 in
theorem m_X12_writeWord_43 {l : Launch} : tb_Met l vwCl sa_Ts tb_Z0 yX12_writeWord cX12_writeWord 3 none 4 163 K_X12_writeWord_43 := tb_method (by decide) [30] (t_X12_writeWord [(68, 35, 35), (83, 5, 13)] [K_X12_writeWord_42] [K_X12_write_14]) T_X12_writeWord_43 [] 6000 (List.forall_mem_cons.mpr ⟨dX12_writeWord_30, fun _ h => absurd h List.not_mem_nil⟩) (h_X12_writeWord [(68, 35, 35), (83, 5, 13)] 4 163 (by decide) (by decide) [K_X12_writeWord_42] [K_X12_write_14] ⟨3, 141, List.forall_mem_cons.mpr ⟨m_X12_writeWord_42, fun _ h => absurd h List.not_mem_nil⟩, by decide, by decide, by decide⟩ ⟨2, 120, List.forall_mem_cons.mpr ⟨m_X12_write_14, fun _ h => absurd h List.not_mem_nil⟩, by decide, by decide, by decide⟩) (by decide) (by decide +kernel)
set_option maxRecDepth 200000 in
set_option maxHeartbeats 4000000 in
def K_X12_writeWord_44 : tb_K := ([.inr (.inl (some 1)), .inr (.inr 2)], [(1, (0, 35), .inl (3, 0))], [], [(0, 0), (1180591620717411303492, 1180591620717411303492), (11103, 11103), (5, 12)], [(none, [(1, (0, 35), .inl (3, 3))], [], [(0, 0), (1180591620717411303492, 1180591620717411303492), (11103, 11103), (5, 12)])], [(68, 35, 35), (83, 5, 14)])
set_option maxRecDepth 200000 in
set_option maxHeartbeats 4000000 in
def T_X12_writeWord_44 : List (tb_S × tb_l) := []
set_option maxRecDepth 200000 in
set_option maxHeartbeats 4000000 in
theorem m_X12_writeWord_44 {l : Launch} : tb_Met l vwCl sa_Ts tb_Z0 yX12_writeWord cX12_writeWord 3 none 5 185 K_X12_writeWord_44 := tb_method (by decide) [30] (t_X12_writeWord [(68, 35, 35), (83, 5, 14)] [K_X12_writeWord_43] [K_X12_write_21]) T_X12_writeWord_44 [] 6000 (List.forall_mem_cons.mpr ⟨dX12_writeWord_30, fun _ h => absurd h List.not_mem_nil⟩) (h_X12_writeWord [(68, 35, 35), (83, 5, 14)] 5 185 (by decide) (by decide) [K_X12_writeWord_43] [K_X12_write_21] ⟨4, 163, List.forall_mem_cons.mpr ⟨m_X12_writeWord_43, fun _ h => absurd h List.not_mem_nil⟩, by decide, by decide, by decide⟩ ⟨2, 120, List.forall_mem_cons.mpr ⟨m_X12_write_21, fun _ h => absurd h List.not_mem_nil⟩, by decide, by decide, by decide⟩) (by decide) (by decide +kernel)
