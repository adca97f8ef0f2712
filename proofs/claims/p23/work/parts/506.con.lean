set_option maxRecDepth 200000 in
set_option maxHeartbeats 4000000 in
def K_X12_readFirst_3 : tb_K := ([.inr (.inl (some 1)), .inl (2, 0), .inl (3, 0)], [(1, (0, 15), .inr (.inl (some 4))), (4, (2, 0), .inl (5, 0))], [], [(0, 0), (1180591620717411303424, 1180591620717411303424), (0, 0), (6, 6), (1180591620717411303432, 1180591620717411303432), (0, 6)], [(some (.inl (6, 0)), [(1, (0, 15), .inr (.inl (some 4))), (4, (2, 0), .inl (5, 0))], [], [(0, 0), (1180591620717411303424, 1180591620717411303424), (0, 0), (6, 6), (1180591620717411303432, 1180591620717411303432), (0, 5), (1, 1)]), (some (.inl (6, 0)), [(1, (0, 15), .inr (.inl (some 4))), (4, (2, 0), .inl (5, 0))], [], [(0, 0), (1180591620717411303424, 1180591620717411303424), (0, 0), (6, 6), (1180591620717411303432, 1180591620717411303432), (6, 6), (0, 0)])], [(0, 5, 12)])
set_option maxRecDepth 200000 in
set_option maxHeartbeats 4000000 in
def T_X12_readFirst_3 : List (tb_S × tb_l) := []
set_option maxRecDepth 200000 in
set_option maxHeartbeats 4000000 in
theorem m_X12_readFirst_3 {l : Launch} : tb_Met l vwCl sa_Ts tb_Z0 yX12_readFirst cX12_readFirst 3 (some .boolean) 4 165 K_X12_readFirst_3 := tb_method (by decide) [15, 21] (t_X12_readFirst [(0, 5, 12)] [K_X12_bad_2] [K_X12_go_1]) T_X12_readFirst_3 [] 6000 (List.forall_mem_cons.mpr ⟨dX12_readFirst_15, List.forall_mem_cons.mpr ⟨dX12_readFirst_21, fun _ h => absurd h List.not_mem_nil⟩⟩) (h_X12_readFirst [(0, 5, 12)] 4 165 (by decide) (by decide) [K_X12_bad_2] [K_X12_go_1] ⟨2, 120, List.forall_mem_cons.mpr ⟨m_X12_bad_2, fun _ h => absurd h List.not_mem_nil⟩, by decide, by decide, by decide⟩ ⟨3, 141, List.forall_mem_cons.mpr ⟨m_X12_go_1, fun _ h => absurd h List.not_mem_nil⟩, by decide, by decide, by decide⟩) (by decide) (by decide +kernel)
set_option maxRecDepth 200000 in
set_option maxHeartbeats 4000000 in
def K_X12_readNew_9 : tb_K := ([.inr (.inl (some 1)), .inl (2, 0)], [], [], [(0, 0), (1180591620717411303424, 1180591620717411303424), (5, 5)], [(some (.inl (3, 0)), [], [], [(0, 0), (1180591620717411303424, 1180591620717411303424), (5, 5), (0, 0)]), (some (.inl (3, 0)), [], [], [(0, 0), (1180591620717411303424, 1180591620717411303424), (5, 5), (1, 1)])], [(0, 5, 12), (79, 5, 5)])
set_option maxRecDepth 200000 in
set_option maxHeartbeats 4000000 in
def T_X12_readNew_9 : List (tb_S × tb_l) := []
set_option maxRecDepth 200000 in
set_option maxHeartbeats 4000000 in
theorem m_X12_readNew_9 {l : Launch} : tb_Met l vwCl sa_Ts tb_Z0 yX12_readNew cX12_readNew 2 (some .boolean) 5 189 K_X12_readNew_9 := tb_method (by decide) [12, 63, 79] (t_X12_readNew [(0, 5, 12), (79, 5, 5)] [K_X12_isName_1] [K_X12_bad_1] [K_X12_findIn_2] [K_X12_findIn_1] [K_X12_bad_3] [K_X12_go_1]) T_X12_readNew_9 [] 6000 (List.forall_mem_cons.mpr ⟨dX12_readNew_12, List.forall_mem_cons.mpr ⟨dX12_readNew_63, List.forall_mem_cons.mpr ⟨dX12_readNew_79, fun _ h => absurd h List.not_mem_nil⟩⟩⟩) (h_X12_readNew [(0, 5, 12), (79, 5, 5)] 5 189 (by decide) (by decide) [K_X12_isName_1] [K_X12_bad_1] [K_X12_findIn_2] [K_X12_findIn_1] [K_X12_bad_3] [K_X12_go_1] ⟨4, 168, List.forall_mem_cons.mpr ⟨m_X12_isName_1, fun _ h => absurd h List.not_mem_nil⟩, by decide, by decide, by decide⟩ ⟨2, 120, List.forall_mem_cons.mpr ⟨m_X12_bad_1, fun _ h => absurd h List.not_mem_nil⟩, by decide, by decide, by decide⟩ ⟨2, 120, List.forall_mem_cons.mpr ⟨m_X12_findIn_2, fun _ h => absurd h List.not_mem_nil⟩, by decide, by decide, by decide⟩ ⟨2, 120, List.forall_mem_cons.mpr ⟨m_X12_findIn_1, fun _ h => absurd h List.not_mem_nil⟩, by decide, by decide, by decide⟩ ⟨2, 120, List.forall_mem_cons.mpr ⟨m_X12_bad_3, fun _ h => absurd h List.not_mem_nil⟩, by decide, by decide, by decide⟩ ⟨3, 141, List.forall_mem_cons.mpr ⟨m_X12_go_1, fun _ h => absurd h List.not_mem_nil⟩, by decide, by decide, by decide⟩) (by decide) (by decide +kernel)
set_option maxRecDepth 200000 in
set_option maxHeartbeats 4000000 in
def K_X12_readNew_10 : tb_K := ([.inr (.inl (some 1)), .inl (2, 0)], [], [], [(0, 0), (1180591620717411303424, 1180591620717411303424), (4, 4)], [(some (.inl (3, 0)), [], [], [(0, 0), (1180591620717411303424, 1180591620717411303424), (4, 4), (0, 0)]), (some (.inl (3, 0)), [], [], [(0, 0), (1180591620717411303424, 1180591620717411303424), (4, 4), (1, 1)])], [(0, 5, 12), (79, 4, 4)])
set_option maxRecDepth 200000 in
set_option maxHeartbeats 4000000 in
def T_X12_readNew_10 : List (tb_S × tb_l) := []
set_option maxRecDepth 200000 in
set_option maxHeartbeats 4000000 in
theorem m_X12_readNew_10 {l : Launch} : tb_Met l vwCl sa_Ts tb_Z0 yX12_readNew cX12_readNew 2 (some .boolean) 5 189 K_X12_readNew_10 := tb_method (by decide) [12, 63, 79] (t_X12_readNew [(0, 5, 12), (79, 4, 4)] [K_X12_isName_1] [K_X12_bad_1] [K_X12_findIn_2] [K_X12_findIn_1] [K_X12_bad_3] [K_X12_go_1]) T_X12_readNew_10 [] 6000 (List.forall_mem_cons.mpr ⟨dX12_readNew_12, List.forall_mem_cons.mpr ⟨dX12_readNew_63, List.forall_mem_cons.mpr ⟨dX12_readNew_79, fun _ h => absurd h List.not_mem_nil⟩⟩⟩) (h_X12_readNew [(0, 5, 12), (79, 4, 4)] 5 189 (by decide) (by decide) [K_X12_isName_1] [K_X12_bad_1] [K_X12_findIn_2] [K_X12_findIn_1] [K_X12_bad_3] [K_X12_go_1] ⟨4, 168, List.forall_mem_cons.mpr ⟨m_X12_isName_1, fun _ h => absurd h List.not_mem_nil⟩, by decide, by decide, by decide⟩ ⟨2, 120, List.forall_mem_cons.mpr ⟨m_X12_bad_1, fun _ h => absurd h List.not_mem_nil⟩, by decide, by decide, by decide⟩ ⟨2, 120, List.forall_mem_cons.mpr ⟨m_X12_findIn_2, fun _ h => absurd h List.not_mem_nil⟩, by decide, by decide, by decide⟩ ⟨2, 120, List.forall_mem_cons.mpr ⟨m_X12_findIn_1, fun _ h => absurd h List.not_mem_nil⟩, by decide, by decide, by decide⟩ ⟨2, 120, List.forall_mem_cons.mpr ⟨m_X12_bad_3, fun _ h => absurd h List.not_mem_nil⟩, by decide, by decide, by decide⟩ ⟨3, 141, List.forall_mem_cons.mpr ⟨m_X12_go_1, fun _ h => absurd h List.not_mem_nil⟩, by decide, by decide, by decide⟩) (by decide) (by decide +kernel)
set_option maxRecDepth 200000 in
set_option maxHeartbeats 4000000 in
def K_X12_readNew_11 : tb_K := ([.inr (.inl (some 1)), .inl (2, 0)], [], [], [(0, 0), (1180591620717411303424, 1180591620717411303424), (3, 3)], [(some (.inl (3, 0)), [], [], [(0, 0), (1180591620717411303424, 1180591620717411303424), (3, 3), (0, 0)]), (some (.inl (3, 0)), [], [], [(0, 0), (1180591620717411303424, 1180591620717411303424), (3, 3), (1, 1)])], [(0, 5, 12), (79, 3, 3)])
set_option maxRecDepth 200000 in
set_option maxHeartbeats 4000000 in
def T_X12_readNew_11 : List (tb_S × tb_l) := []
set_option maxRecDepth 200000 in
set_option maxHeartbeats 4000000 in
theorem m_X12_readNew_11 {l : Launch} : tb_Met l vwCl sa_Ts tb_Z0 yX12_readNew cX12_readNew 2 (some .boolean) 5 189 K_X12_readNew_11 := tb_method (by decide) [12, 63, 79] (t_X12_readNew [(0, 5, 12), (79, 3, 3)] [K_X12_isName_1] [K_X12_bad_1] [K_X12_findIn_2] [K_X12_findIn_1] [K_X12_bad_3] [K_X12_go_1]) T_X12_readNew_11 [] 6000 (List.forall_mem_cons.mpr ⟨dX12_readNew_12, List.forall_mem_cons.mpr ⟨dX12_readNew_63, List.forall_mem_cons.mpr ⟨dX12_readNew_79, fun _ h => absurd h List.not_mem_nil⟩⟩⟩) (h_X12_readNew [(0, 5, 12), (79, 3, 3)] 5 189 (by decide) (by decide) [K_X12_isName_1] [K_X12_bad_1] [K_X12_findIn_2] [K_X12_findIn_1] [K_X12_bad_3] [K_X12_go_1] ⟨4, 168, List.forall_mem_cons.mpr ⟨m_X12_isName_1, fun _ h => absurd h List.not_mem_nil⟩, by decide, by decide, by decide⟩ ⟨2, 120, List.forall_mem_cons.mpr ⟨m_X12_bad_1, fun _ h => absurd h List.not_mem_nil⟩, by decide, by decide, by decide⟩ ⟨2, 120, List.forall_mem_cons.mpr ⟨m_X12_findIn_2, fun _ h => absurd h List.not_mem_nil⟩, by decide, by decide, by decide⟩ ⟨2, 120, List.forall_mem_cons.mpr ⟨m_X12_findIn_1, fun _ h => absurd h List.not_mem_nil⟩, by decide, by decide, by decide⟩ ⟨2, 120, List.forall_mem_cons.mpr ⟨m_X12_bad_3, fun _ h => absurd h List.not_mem_nil⟩, by decide, by decide, by decide⟩ ⟨3, 141, List.forall_mem_cons.mpr ⟨m_X12_go_1, fun _ h => absurd h List.not_mem_nil⟩, by decide, by decide, by decide⟩) (by decide) (by decide +kernel)
set_option maxRecDepth 200000 in
set_option maxHeartbeats 4000000 in
def K_X12_readNew_12 : tb_K := ([.inr (.inl (some 1)), .inl (2, 0)], [], [], [(0, 0), (1180591620717411303424, 1180591620717411303424), (2, 2)], [(some (.inl (3, 0)), [], [], [(0, 0), (1180591620717411303424, 1180591620717411303424), (2, 2), (0, 0)]), (some (.inl (3, 0)), [], [], [(0, 0), (1180591620717411303424, 1180591620717411303424), (2, 2), (1, 1)])], [(0, 5, 12), (79, 2, 2)])
set_option maxRecDepth 200000 in
set_option maxHeartbeats 4000000 in
def T_X12_readNew_12 : List (tb_S × tb_l) := []
set_option maxRecDepth 200000 in
set_option maxHeartbeats 4000000 in
theorem m_X12_readNew_12 {l : Launch} : tb_Met l vwCl sa_Ts tb_Z0 yX12_readNew cX12_readNew 2 (some .boolean) 5 189 K_X12_readNew_12 := tb_method (by decide) [12, 63, 79] (t_X12_readNew [(0, 5, 12), (79, 2, 2)] [K_X12_isName_1] [K_X12_bad_1] [K_X12_findIn_2] [K_X12_findIn_1] [K_X12_bad_3] [K_X12_go_1]) T_X12_readNew_12 [] 6000 (List.forall_mem_cons.mpr ⟨dX12_readNew_12, List.forall_mem_cons.mpr ⟨dX12_readNew_63, List.forall_mem_cons.mpr ⟨dX12_readNew_79, fun _ h => absurd h List.not_mem_nil⟩⟩⟩) (h_X12_readNew [(0, 5, 12), (79, 2, 2)] 5 189 (by decide) (by decide) [K_X12_isName_1] [K_X12_bad_1] [K_X12_findIn_2] [K_X12_findIn_1] [K_X12_bad_3] [K_X12_go_1] ⟨4, 168, List.forall_mem_cons.mpr ⟨m_X12_isName_1, fun _ h => absurd h List.not_mem_nil⟩, by decide, by decide, by decide⟩ ⟨2, 120, List.forall_mem_cons.mpr ⟨m_X12_bad_1, fun _ h => absurd h List.not_mem_nil⟩, by decide, by decide, by decide⟩ ⟨2, 120, List.forall_mem_cons.mpr ⟨m_X12_findIn_2, fun _ h => absurd h List.not_mem_nil⟩, by decide, by decide, by decide⟩ ⟨2, 120, List.forall_mem_cons.mpr ⟨m_X12_findIn_1, fun _ h => absurd h List.not_mem_nil⟩, by decide, by decide, by decide⟩ ⟨2, 120, List.forall_mem_cons.mpr ⟨m_X12_bad_3, fun _ h => absurd h List.not_mem_nil⟩, by decide, by decide, by decide⟩ ⟨3, 141, List.forall_mem_cons.mpr ⟨m_X12_go_1, fun _ h => absurd h List.not_mem_nil⟩, by decide, by decide, by decide⟩) (by decide) (by decide +kernel)
set_option maxRecDepth 200000 in
set_option maxHeartbeats 4000000 in
def K_X12_readNew_13 : tb_K := ([.inr (.inl (some 1)), .inl (2, 0)], [], [], [(0, 0), (1180591620717411303424, 1180591620717411303424), (1, 1)], [(some (.inl (3, 0)), [], [], [(0, 0), (1180591620717411303424, 1180591620717411303424), (1, 1), (0, 0)]), (some (.inl (3, 0)), [], [], [(0, 0), (1180591620717411303424, 1180591620717411303424), (1, 1), (1, 1)])], [(0, 5, 12), (79, 1, 1)])
set_option maxRecDepth 200000 in
set_option maxHeartbeats 4000000 in
def T_X12_readNew_13 : List (tb_S × tb_l) := []
set_option maxRecDepth 200000 in
set_option maxHeartbeats 4000000 in
theorem m_X12_readNew_13 {l : Launch} : tb_Met l vwCl sa_Ts tb_Z0 yX12_readNew cX12_readNew 2 (some .boolean) 5 189 K_X12_readNew_13 := tb_method (by decide) [12, 63, 79] (t_X12_readNew [(0, 5, 12), (79, 1, 1)] [K_X12_isName_1] [K_X12_bad_1] [K_X12_findIn_2] [K_X12_findIn_1] [K_X12_bad_3] [K_X12_go_1]) T_X12_readNew_13 [] 6000 (List.forall_mem_cons.mpr ⟨dX12_readNew_12, List.forall_mem_cons.mpr ⟨dX12_readNew_63, List.forall_mem_cons.mpr ⟨dX12_readNew_79, fun _ h => absurd h List.not_mem_nil⟩⟩⟩) (h_X12_readNew [(0, 5, 12), (79, 1, 1)] 5 189 (by decide) (by decide) [K_X12_isName_1] [K_X12_bad_1] [K_X12_findIn_2] [K_X12_findIn_1] [K_X12_bad_3] [K_X12_go_1] ⟨4, 168, List.forall_mem_cons.mpr ⟨m_X12_isName_1, fun _ h => absurd h List.not_mem_nil⟩, by decide, by decide, by decide⟩ ⟨2, 120, List.forall_mem_cons.mpr ⟨m_X12_bad_1, fun _ h => absurd h List.not_mem_nil⟩, by decide, by decide, by decide⟩ ⟨2, 120, List.forall_mem_cons.mpr ⟨m_X12_findIn_2, fun _ h => absurd h List.not_mem_nil⟩, by decide, by decide, by decide⟩ ⟨2, 120, List.forall_mem_cons.mpr ⟨m_X12_findIn_1, fun _ h => absurd h List.not_mem_nil⟩, by decide, by decide, by decide⟩ ⟨2, 120, List.forall_mem_cons.mpr ⟨m_X12_bad_3, fun _ h => absurd h List.not_mem_nil⟩, by decide, by decide, by decide⟩ ⟨3, 141, List.forall_mem_cons.mpr ⟨m_X12_go_1, fun _ h => absurd h List.not_mem_nil⟩, by decide, by decide, by decide⟩) (by decide) (by decide +kernel)
set_option maxRecDepth 200000 in
set_option maxHeartbeats 4000000 in
def K_X12_readNew_14 : tb_K := ([.inr (.inl (some 1)), .inl (2, 0)], [], [], [(0, 0), (1180591620717411303424, 1180591620717411303424), (0, 0)], [(some (.inl (3, 0)), [], [], [(0, 0), (1180591620717411303424, 1180591620717411303424), (0, 0), (0, 0)]), (some (.inl (3, 0)), [], [], [(0, 0), (1180591620717411303424, 1180591620717411303424), (0, 0), (1, 1)])], [(0, 5, 12), (79, 0, 0)])
set_option maxRecDepth 200000 in
set_option maxHeartbeats 4000000 in
def T_X12_readNew_14 : List (tb_S × tb_l) := []
set_option maxRecDepth 200000 in
set_option maxHeartbeats 4000000 in
theorem m_X12_readNew_14 {l : Launch} : tb_Met l vwCl sa_Ts tb_Z0 yX12_readNew cX12_readNew 2 (some .boolean) 5 189 K_X12_readNew_14 := tb_method (by decide) [12, 63, 79] (t_X12_readNew [(0, 5, 12), (79, 0, 0)] [K_X12_isName_1] [K_X12_bad_1] [K_X12_findIn_2] [K_X12_findIn_1] [K_X12_bad_3] [K_X12_go_1]) T_X12_readNew_14 [] 6000 (List.forall_mem_cons.mpr ⟨dX12_readNew_12, List.forall_mem_cons.mpr ⟨dX12_readNew_63, List.forall_mem_cons.mpr ⟨dX12_readNew_79, fun _ h => absurd h List.not_mem_nil⟩⟩⟩) (h_X12_readNew [(0, 5, 12), (79, 0, 0)] 5 189 (by decide) (by decide) [K_X12_isName_1] [K_X12_bad_1] [K_X12_findIn_2] [K_X12_findIn_1] [K_X12_bad_3] [K_X12_go_1] ⟨4, 168, List.forall_mem_cons.mpr ⟨m_X12_isName_1, fun _ h => absurd h List.not_mem_nil⟩, by decide, by decide, by decide⟩ ⟨2, 120, List.forall_mem_cons.mpr ⟨m_X12_bad_1, fun _ h => absurd h List.not_mem_nil⟩, by decide, by decide, by decide⟩ ⟨2, 120, List.forall_mem_cons.mpr ⟨m_X12_findIn_2, fun _ h => absurd h List.not_mem_nil⟩, by decide, by decide, by decide⟩ ⟨2, 120, List.forall_mem_cons.mpr ⟨m_X12_findIn_1, fun _ h => absurd h List.not_mem_nil⟩, by decide, by decide, by decide⟩ ⟨2, 120, List.forall_mem_cons.mpr ⟨m_X12_bad_3, fun _ h => absurd h List.not_mem_nil⟩, by decide, by decide, by decide⟩ ⟨3, 141, List.forall_mem_cons.mpr ⟨m_X12_go_1, fun _ h => absurd h List.not_mem_nil⟩, by decide, by decide, by decide⟩) (by decide) (by decide +kernel)
set_option maxRecDepth 200000 in
set_option maxHeartbeats 4000000 in
def K_X12_isIn_5 : tb_K := ([.inl (1, 0), .inl (2, 0), .inl (3, 0)], [], [], [(0, 0), (-2147483648, 2147483647), (1, 1), (30, 30)], [(some (.inl (4, 0)), [], [], [(0, 0), (-2147483648, 2147483647), (1, 1), (30, 30), (0, 0)]), (some (.inl (4, 0)), [], [], [(0, 0), (1, 30), (1, 1), (30, 30), (1, 1)])], [])
set_option maxRecDepth 200000 in
set_option maxHeartbeats 4000000 in
def T_X12_isIn_5 : List (tb_S × tb_l) := []
set_option maxRecDepth 200000 in
set_option maxHeartbeats 4000000 in
theorem m_X12_isIn_5 {l : Launch} : tb_Met l vwCl sa_Ts tb_Z0 yX12_isIn cX12_isIn 3 (some .boolean) 2 120 K_X12_isIn_5 := tb_method (by decide) [15] (t_X12_isIn [] ) T_X12_isIn_5 [] 6000 (List.forall_mem_cons.mpr ⟨dX12_isIn_15, fun _ h => absurd h List.not_mem_nil⟩) (h_X12_isIn [] 2 120 (by decide) (by decide)  ) (by decide) (by decide +kernel)
set_option maxRecDepth 200000 in
set_option maxHeartbeats 4000000 in
def K_X12_readNumber_5 : tb_K := ([.inr (.inl (some 1)), .inl (2, 0), .inl (3, 0)], [], [], [(0, 0), (1180591620717411303424, 1180591620717411303424), (1, 1), (30, 30)], [(some (.inl (4, 0)), [], [], [(0, 0), (1180591620717411303424, 1180591620717411303424), (1, 1), (30, 30), (0, 0)]), (some (.inl (4, 0)), [(1, (0, 13), .inl (5, 0))], [], [(0, 0), (1180591620717411303424, 1180591620717411303424), (1, 1), (30, 30), (1, 1), (1, 30)])], [(0, 5, 13)])
set_option maxRecDepth 200000 in
set_option maxHeartbeats 4000000 in
def T_X12_readNumber_5 : List (tb_S × tb_l) := []
set_option maxRecDepth 200000 in
set_option maxHeartbeats 4000000 in
theorem m_X12_readNumber_5 {l : Launch} : tb_Met l vwCl sa_Ts tb_Z0 yX12_readNumber cX12_readNumber 3 (some .boolean) 4 165 K_X12_readNumber_5 := tb_method (by decide) [13, 31, 45] (t_X12_readNumber [(0, 5, 13)] [K_X12_bad_1] [K_X12_isIn_5] [K_X12_bad_4] [K_X12_go_1]) T_X12_readNumber_5 [] 6000 (List.forall_mem_cons.mpr ⟨dX12_readNumber_13, List.forall_mem_cons.mpr ⟨dX12_readNumber_31, List.forall_mem_cons.mpr ⟨dX12_readNumber_45, fun _ h => absurd h List.not_mem_nil⟩⟩⟩) (h_X12_readNumber [(0, 5, 13)] 4 165 (by decide) (by decide) [K_X12_bad_1] [K_X12_isIn_5] [K_X12_bad_4] [K_X12_go_1] ⟨2, 120, List.forall_mem_cons.mpr ⟨m_X12_bad_1, fun _ h => absurd h List.not_mem_nil⟩, by decide, by decide, by decide⟩ ⟨2, 120, List.forall_mem_cons.mpr ⟨m_X12_isIn_5, fun _ h => absurd h List.not_mem_nil⟩, by decide, by decide, by decide⟩ ⟨2, 120, List.forall_mem_cons.mpr ⟨m_X12_bad_4, fun _ h => absurd h List.not_mem_nil⟩, by decide, by decide, by decide⟩ ⟨3, 141, List.forall_mem_cons.mpr ⟨m_X12_go_1, fun _ h => absurd h List.not_mem_nil⟩, by decide, by decide, by decide⟩) (by decide) (by decide +kernel)
set_option maxRecDepth 200000 in
set_option maxHeartbeats 4000000 in
def K_X12_put_67 : tb_K := ([.inr (.inl (some 1)), .inl (2, 0), .inl (3, 0)], [(1, (0, 13), .inl (4, 0))], [], [(0, 0), (1180591620717411303424, 1180591620717411303424), (8, 8), (0, 0), (-1, 999)], [(some (.inl (3, 0)), [(1, (0, 13), .inl (4, 0))], [], [(0, 0), (1180591620717411303424, 1180591620717411303424), (8, 8), (0, 0), (-1, 999)])], [])
set_option maxRecDepth 200000 in
set_option maxHeartbeats 4000000 in
def T_X12_put_67 : List (tb_S × tb_l) := []
set_option maxRecDepth 200000 in
set_option maxHeartbeats 4000000 in
theorem m_X12_put_67 {l : Launch} : tb_Met l vwCl sa_Ts tb_Z0 yX12_put cX12_put 3 (some .boolean) 2 120 K_X12_put_67 := tb_method (by decide) [15] (t_X12_put [] ) T_X12_put_67 [] 6000 (List.forall_mem_cons.mpr ⟨dX12_put_15, fun _ h => absurd h List.not_mem_nil⟩) (h_X12_put [] 2 120 (by decide) (by decide)  ) (by decide) (by decide +kernel)
set_option maxRecDepth 200000 in
set_option maxHeartbeats 4000000 in
def K_X12_put_68 : tb_K := ([.inr (.inl (some 1)), .inl (2, 0), .inl (3, 0)], [(1, (0, 13), .inl (4, 0))], [], [(0, 0), (1180591620717411303424, 1180591620717411303424), (8, 8), (1, 1), (1, 30)], [(some (.inl (3, 0)), [(1, (0, 15), .inr (.inl (some 5))), (1, (0, 13), .inl (4, 0)), (5, (2, 0), .inl (4, 0))], [], [(0, 0), (1180591620717411303424, 1180591620717411303424), (8, 8), (1, 1), (1, 30), (1180591620717411303432, 1180591620717411303432)])], [(8, 8, 8)])
set_option maxRecDepth 200000 in
set_option maxHeartbeats 4000000 in
def T_X12_put_68 : List (tb_S × tb_l) := []
set_option maxRecDepth 200000 in
set_option maxHeartbeats 4000000 in
theorem m_X12_put_68 {l : Launch} : tb_Met l vwCl sa_Ts tb_Z0 yX12_put cX12_put 3 (some .boolean) 2 120 K_X12_put_68 := tb_method (by decide) [15] (t_X12_put [(8, 8, 8)] ) T_X12_put_68 [] 6000 (List.forall_mem_cons.mpr ⟨dX12_put_15, fun _ h => absurd h List.not_mem_nil⟩) (h_X12_put [(8, 8, 8)] 2 120 (by decide) (by decide)  ) (by decide) (by decide +kernel)
set_option maxRecDepth 200000 in
set_option maxHeartbeats 4000000 in
def K_X12_put_69 : tb_K := ([.inr (.inl (some 1)), .inl (2, 0), .inl (3, 0)], [(1, (0, 13), .inl (4, 0))], [], [(0, 0), (1180591620717411303424, 1180591620717411303424), (7, 7), (0, 0), (-1, 999)], [(some (.inl (3, 0)), [(1, (0, 13), .inl (4, 0))], [], [(0, 0), (1180591620717411303424, 1180591620717411303424), (7, 7), (0, 0), (-1, 999)])], [])
set_option maxRecDepth 200000 in
set_option maxHeartbeats 4000000 in
def T_X12_put_69 : List (tb_S × tb_l) := []
set_option maxRecDepth 200000 in
set_option maxHeartbeats 4000000 in
theorem m_X12_put_69 {l : Launch} : tb_Met l vwCl sa_Ts tb_Z0 yX12_put cX12_put 3 (some .boolean) 2 120 K_X12_put_69 := tb_method (by decide) [15] (t_X12_put [] ) T_X12_put_69 [] 6000 (List.forall_mem_cons.mpr ⟨dX12_put_15, fun _ h => absurd h List.not_mem_nil⟩) (h_X12_put [] 2 120 (by decide) (by decide)  ) (by decide) (by decide +kernel)
set_option maxRecDepth 200000 in
set_option maxHeartbeats 4000000 in
def K_X12_put_70 : tb_K := ([.inr (.inl (some 1)), .inl (2, 0), .inl (3, 0)], [(1, (0, 13), .inl (4, 0))], [], [(0, 0), (1180591620717411303424, 1180591620717411303424), (7, 7), (1, 1), (1, 30)], [(some (.inl (3, 0)), [(1, (0, 15), .inr (.inl (some 5))), (1, (0, 13), .inl (4, 0)), (5, (2, 0), .inl (4, 0))], [], [(0, 0), (1180591620717411303424, 1180591620717411303424), (7, 7), (1, 1), (1, 30), (1180591620717411303432, 1180591620717411303432)])], [(8, 7, 7)])
set_option maxRecDepth 200000 in
set_option maxHeartbeats 4000000 in
def T_X12_put_70 : List (tb_S × tb_l) := []
set_option maxRecDepth 200000 in
set_option maxHeartbeats 4000000 in
theorem m_X12_put_70 {l : Launch} : tb_Met l vwCl sa_Ts tb_Z0 yX12_put cX12_put 3 (some .boolean) 2 120 K_X12_put_70 := tb_method (by decide) [15] (t_X12_put [(8, 7, 7)] ) T_X12_put_70 [] 6000 (List.forall_mem_cons.mpr ⟨dX12_put_15, fun _ h => absurd h List.not_mem_nil⟩) (h_X12_put [(8, 7, 7)] 2 120 (by decide) (by decide)  ) (by decide) (by decide +kernel)
set_option maxRecDepth 200000 in
set_option maxHeartbeats 4000000 in
def K_X12_put_71 : tb_K := ([.inr (.inl (some 1)), .inl (2, 0), .inl (3, 0)], [(1, (0, 13), .inl (4, 0))], [], [(0, 0), (1180591620717411303424, 1180591620717411303424), (6, 6), (0, 0), (-1, 999)], [(some (.inl (3, 0)), [(1, (0, 13), .inl (4, 0))], [], [(0, 0), (1180591620717411303424, 1180591620717411303424), (6, 6), (0, 0), (-1, 999)])], [])
set_option maxRecDepth 200000 in
set_option maxHeartbeats 4000000 in
def T_X12_put_71 : List (tb_S × tb_l) := []
set_option maxRecDepth 200000 in
set_option maxHeartbeats 4000000 in
theorem m_X12_put_71 {l : Launch} : tb_Met l vwCl sa_Ts tb_Z0 yX12_put cX12_put 3 (some .boolean) 2 120 K_X12_put_71 := tb_method (by decide) [15] (t_X12_put [] ) T_X12_put_71 [] 6000 (List.forall_mem_cons.mpr ⟨dX12_put_15, fun _ h => absurd h List.not_mem_nil⟩) (h_X12_put [] 2 120 (by decide) (by decide)  ) (by decide) (by decide +kernel)
set_option maxRecDepth 200000 in
set_option maxHeartbeats 4000000 in
def K_X12_put_72 : tb_K := ([.inr (.inl (some 1)), .inl (2, 0), .inl (3, 0)], [(1, (0, 13), .inl (4, 0))], [], [(0, 0), (1180591620717411303424, 1180591620717411303424), (6, 6), (1, 1), (1, 30)], [(some (.inl (3, 0)), [(1, (0, 15), .inr (.inl (some 5))), (1, (0, 13), .inl (4, 0)), (5, (2, 0), .inl (4, 0))], [], [(0, 0), (1180591620717411303424, 1180591620717411303424), (6, 6), (1, 1), (1, 30), (1180591620717411303432, 1180591620717411303432)])], [(8, 6, 6)])
set_option maxRecDepth 200000 in
set_option maxHeartbeats 4000000 in
def T_X12_put_72 : List (tb_S × tb_l) := []
set_option maxRecDepth 200000 in
set_option maxHeartbeats 4000000 in
theorem m_X12_put_72 {l : Launch} : tb_Met l vwCl sa_Ts tb_Z0 yX12_put cX12_put 3 (some .boolean) 2 120 K_X12_put_72 := tb_method (by decide) [15] (t_X12_put [(8, 6, 6)] ) T_X12_put_72 [] 6000 (List.forall_mem_cons.mpr ⟨dX12_put_15, fun _ h => absurd h List.not_mem_nil⟩) (h_X12_put [(8, 6, 6)] 2 120 (by decide) (by decide)  ) (by decide) (by decide +kernel)
set_option maxRecDepth 200000 in
set_option maxHeartbeats 4000000 in
def K_X12_put_73 : tb_K := ([.inr (.inl (some 1)), .inl (2, 0), .inl (3, 0)], [(1, (0, 13), .inl (4, 0))], [], [(0, 0), (1180591620717411303424, 1180591620717411303424), (5, 5), (0, 0), (-1, 999)], [(some (.inl (3, 0)), [(1, (0, 13), .inl (4, 0))], [], [(0, 0), (1180591620717411303424, 1180591620717411303424), (5, 5), (0, 0), (-1, 999)])], [])
set_option maxRecDepth 200000 in
set_option maxHeartbeats 4000000 in
def T_X12_put_73 : List (tb_S × tb_l) := []
set_option maxRecDepth 200000 in
set_option maxHeartbeats 4000000 in
theorem m_X12_put_73 {l : Launch} : tb_Met l vwCl sa_Ts tb_Z0 yX12_put cX12_put 3 (some .boolean) 2 120 K_X12_put_73 := tb_method (by decide) [15] (t_X12_put [] ) T_X12_put_73 [] 6000 (List.forall_mem_cons.mpr ⟨dX12_put_15, fun _ h => absurd h List.not_mem_nil⟩) (h_X12_put [] 2 120 (by decide) (by decide)  ) (by decide) (by decide +kernel)
set_option maxRecDepth 200000 in
set_option maxHeartbeats 4000000 in
def K_X12_put_74 : tb_K := ([.inr (.inl (some 1)), .inl (2, 0), .inl (3, 0)], [(1, (0, 13), .inl (4, 0))], [], [(0, 0), (1180591620717411303424, 1180591620717411303424), (5, 5), (1, 1), (1, 30)], [(some (.inl (3, 0)), [(1, (0, 15), .inr (.inl (some 5))), (1, (0, 13), .inl (4, 0)), (5, (2, 0), .inl (4, 0))], [], [(0, 0), (1180591620717411303424, 1180591620717411303424), (5, 5), (1, 1), (1, 30), (1180591620717411303432, 1180591620717411303432)])], [(8, 5, 5)])
set_option maxRecDepth 200000 in
set_option maxHeartbeats 4000000 in
def T_X12_put_74 : List (tb_S × tb_l) := []
set_option maxRecDepth 200000 in
set_option maxHeartbeats 4000000 in
theorem m_X12_put_74 {l : Launch} : tb_Met l vwCl sa_Ts tb_Z0 yX12_put cX12_put 3 (some .boolean) 2 120 K_X12_put_74 := tb_method (by decide) [15] (t_X12_put [(8, 5, 5)] ) T_X12_put_74 [] 6000 (List.forall_mem_cons.mpr ⟨dX12_put_15, fun _ h => absurd h List.not_mem_nil⟩) (h_X12_put [(8, 5, 5)] 2 120 (by decide) (by decide)  ) (by decide) (by decide +kernel)
set_option maxRecDepth 200000 in
set_option maxHeartbeats 4000000 in
def K_X12_put_75 : tb_K := ([.inr (.inl (some 1)), .inl (2, 0), .inl (3, 0)], [(1, (0, 13), .inl (4, 0))], [], [(0, 0), (1180591620717411303424, 1180591620717411303424), (4, 4), (0, 0), (-1, 999)], [(some (.inl (3, 0)), [(1, (0, 13), .inl (4, 0))], [], [(0, 0), (1180591620717411303424, 1180591620717411303424), (4, 4), (0, 0), (-1, 999)])], [])
set_option maxRecDepth 200000 in
set_option maxHeartbeats 4000000 in
def T_X12_put_75 : List (tb_S × tb_l) := []
set_option maxRecDepth 200000 in
set_option maxHeartbeats 4000000 in
theorem m_X12_put_75 {l : Launch} : tb_Met l vwCl sa_Ts tb_Z0 yX12_put cX12_put 3 (some .boolean) 2 120 K_X12_put_75 := tb_method (by decide) [15] (t_X12_put [] ) T_X12_put_75 [] 6000 (List.forall_mem_cons.mpr ⟨dX12_put_15, fun _ h => absurd h List.not_mem_nil⟩) (h_X12_put [] 2 120 (by decide) (by decide)  ) (by decide) (by decide +kernel)
set_option maxRecDepth 200000 in
set_option maxHeartbeats 4000000 in
def K_X12_put_76 : tb_K := ([.inr (.inl (some 1)), .inl (2, 0), .inl (3, 0)], [(1, (0, 13), .inl (4, 0))], [], [(0, 0), (1180591620717411303424, 1180591620717411303424), (4, 4), (1, 1), (1, 30)], [(some (.inl (3, 0)), [(1, (0, 15), .inr (.inl (some 5))), (1, (0, 13), .inl (4, 0)), (5, (2, 0), .inl (4, 0))], [], [(0, 0), (1180591620717411303424, 1180591620717411303424), (4, 4), (1, 1), (1, 30), (1180591620717411303432, 1180591620717411303432)])], [(8, 4, 4)])
set_option maxRecDepth 200000 in
set_option maxHeartbeats 4000000 in
def T_X12_put_76 : List (tb_S × tb_l) := []
set_option maxRecDepth 200000 in
set_option maxHeartbeats 4000000 in
theorem m_X12_put_76 {l : Launch} : tb_Met l vwCl sa_Ts tb_Z0 yX12_put cX12_put 3 (some .boolean) 2 120 K_X12_put_76 := tb_method (by decide) [15] (t_X12_put [(8, 4, 4)] ) T_X12_put_76 [] 6000 (List.forall_mem_cons.mpr ⟨dX12_put_15, fun _ h => absurd h List.not_mem_nil⟩) (h_X12_put [(8, 4, 4)] 2 120 (by decide) (by decide)  ) (by decide) (by decide +kernel)
set_option maxRecDepth 200000 in
set_option maxHeartbeats 4000000 in
def K_X12_put_77 : tb_K := ([.inr (.inl (some 1)), .inl (2, 0), .inl (3, 0)], [(1, (0, 13), .inl (4, 0))], [], [(0, 0), (1180591620717411303424, 1180591620717411303424), (3, 3), (0, 0), (-1, 999)], [(some (.inl (3, 0)), [(1, (0, 13), .inl (4, 0))], [], [(0, 0), (1180591620717411303424, 1180591620717411303424), (3, 3), (0, 0), (-1, 999)])], [])
set_option maxRecDepth 200000 in
set_option maxHeartbeats 4000000 in
def T_X12_put_77 : List (tb_S × tb_l) := []
set_option maxRecDepth 200000 in
set_option maxHeartbeats 4000000 in
theorem m_X12_put_77 {l : Launch} : tb_Met l vwCl sa_Ts tb_Z0 yX12_put cX12_put 3 (some .boolean) 2 120 K_X12_put_77 := tb_method (by decide) [15] (t_X12_put [] ) T_X12_put_77 [] 6000 (List.forall_mem_cons.mpr ⟨dX12_put_15, fun _ h => absurd h List.not_mem_nil⟩) (h_X12_put [] 2 120 (by decide) (by decide)  ) (by decide) (by decide +kernel)
set_option maxRecDepth 200000 in
set_option maxHeartbeats 4000000 in
def K_X12_put_78 : tb_K := ([.inr (.inl (some 1)), .inl (2, 0), .inl (3, 0)], [(1, (0, 13), .inl (4, 0))], [], [(0, 0), (1180591620717411303424, 1180591620717411303424), (3, 3), (1, 1), (1, 30)], [(some (.inl (3, 0)), [(1, (0, 15), .inr (.inl (some 5))), (1, (0, 13), .inl (4, 0)), (5, (2, 0), .inl (4, 0))], [], [(0, 0), (1180591620717411303424, 1180591620717411303424), (3, 3), (1, 1), (1, 30), (1180591620717411303432, 1180591620717411303432)])], [(8, 3, 3)])
set_option maxRecDepth 200000 in
set_option maxHeartbeats 4000000 in
def T_X12_put_78 : List (tb_S × tb_l) := []
set_option maxRecDepth 200000 in
set_option maxHeartbeats 4000000 in
theorem m_X12_put_78 {l : Launch} : tb_Met l vwCl sa_Ts tb_Z0 yX12_put cX12_put 3 (some .boolean) 2 120 K_X12_put_78 := tb_method (by decide) [15] (t_X12_put [(8, 3, 3)] ) T_X12_put_78 [] 6000 (List.forall_mem_cons.mpr ⟨dX12_put_15, fun _ h => absurd h List.not_mem_nil⟩) (h_X12_put [(8, 3, 3)] 2 120 (by decide) (by decide)  ) (by decide) (by decide +kernel)
set_option maxRecDepth 200000 in
set_option maxHeartbeats 4000000 in
def K_X12_isIn_6 : tb_K := ([.inl (1, 0), .inl (2, 0), .inl (3, 0)], [], [], [(0, 0), (-2147483648, 2147483647), (0, 0), (20, 20)], [(some (.inl (4, 0)), [], [], [(0, 0), (-2147483648, 2147483647), (0, 0), (20, 20), (0, 0)]), (some (.inl (4, 0)), [], [], [(0, 0), (0, 20), (0, 0), (20, 20), (1, 1)])], [])
set_option maxRecDepth 200000 in
set_option maxHeartbeats 4000000 in
def T_X12_isIn_6 : List (tb_S × tb_l) := []
set_option maxRecDepth 200000 in
set_option maxHeartbeats 4000000 in
theorem m_X12_isIn_6 {l : Launch} : tb_Met l vwCl sa_Ts tb_Z0 yX12_isIn cX12_isIn 3 (some .boolean) 2 120 K_X12_isIn_6 := tb_method (by decide) [15] (t_X12_isIn [] ) T_X12_isIn_6 [] 6000 (List.forall_mem_cons.mpr ⟨dX12_isIn_15, fun _ h => absurd h List.not_mem_nil⟩) (h_X12_isIn [] 2 120 (by decide) (by decide)  ) (by decide) (by decide +kernel)
set_option maxRecDepth 200000 in
set_option maxHeartbeats 4000000 in
def K_X12_readNumber_6 : tb_K := ([.inr (.inl (some 1)), .inl (2, 0), .inl (3, 0)], [], [], [(0, 0), (1180591620717411303424, 1180591620717411303424), (0, 0), (20, 20)], [(some (.inl (4, 0)), [], [], [(0, 0), (1180591620717411303424, 1180591620717411303424), (0, 0), (20, 20), (0, 0)]), (some (.inl (4, 0)), [(1, (0, 13), .inl (5, 0))], [], [(0, 0), (1180591620717411303424, 1180591620717411303424), (0, 0), (20, 20), (1, 1), (0, 20)])], [(0, 5, 13)])
set_option maxRecDepth 200000 in
set_option maxHeartbeats 4000000 in
def T_X12_readNumber_6 : List (tb_S × tb_l) := []
set_option maxRecDepth 200000 in
set_option maxHeartbeats 4000000 in
theorem m_X12_readNumber_6 {l : Launch} : tb_Met l vwCl sa_Ts tb_Z0 yX12_readNumber cX12_readNumber 3 (some .boolean) 4 165 K_X12_readNumber_6 := tb_method (by decide) [13, 31, 45] (t_X12_readNumber [(0, 5, 13)] [K_X12_bad_1] [K_X12_isIn_6] [K_X12_bad_4] [K_X12_go_1]) T_X12_readNumber_6 [] 6000 (List.forall_mem_cons.mpr ⟨dX12_readNumber_13, List.forall_mem_cons.mpr ⟨dX12_readNumber_31, List.forall_mem_cons.mpr ⟨dX12_readNumber_45, fun _ h => absurd h List.not_mem_nil⟩⟩⟩) (h_X12_readNumber [(0, 5, 13)] 4 165 (by decide) (by decide) [K_X12_bad_1] [K_X12_isIn_6] [K_X12_bad_4] [K_X12_go_1] ⟨2, 120, List.forall_mem_cons.mpr ⟨m_X12_bad_1, fun _ h => absurd h List.not_mem_nil⟩, by decide, by decide, by decide⟩ ⟨2, 120, List.forall_mem_cons.mpr ⟨m_X12_isIn_6, fun _ h => absurd h List.not_mem_nil⟩, by decide, by decide, by decide⟩ ⟨2, 120, List.forall_mem_cons.mpr ⟨m_X12_bad_4, fun _ h => absurd h List.not_mem_nil⟩, by decide, by decide, by decide⟩ ⟨3, 141, List.forall_mem_cons.mpr ⟨m_X12_go_1, fun _ h => absurd h List.not_mem_nil⟩, by decide, by decide, by decide⟩) (by decide) (by decide +kernel)
set_option maxRecDepth 200000 in
set_option maxHeartbeats 4000000 in
def K_X12_put_79 : tb_K := ([.inr (.inl (some 1)), .inl (2, 0), .inl (3, 0)], [(1, (0, 13), .inl (4, 0))], [], [(0, 0), (1180591620717411303424, 1180591620717411303424), (14, 14), (0, 0), (-1, 999)], [(some (.inl (3, 0)), [(1, (0, 13), .inl (4, 0))], [], [(0, 0), (1180591620717411303424, 1180591620717411303424), (14, 14), (0, 0), (-1, 999)])], [])
set_option maxRecDepth 200000 in
set_option maxHeartbeats 4000000 in
def T_X12_put_79 : List (tb_S × tb_l) := []
set_option maxRecDepth 200000 in
set_option maxHeartbeats 4000000 in
theorem m_X12_put_79 {l : Launch} : tb_Met l vwCl sa_Ts tb_Z0 yX12_put cX12_put 3 (some .boolean) 2 120 K_X12_put_79 := tb_method (by decide) [15] (t_X12_put [] ) T_X12_put_79 [] 6000 (List.forall_mem_cons.mpr ⟨dX12_put_15, fun _ h => absurd h List.not_mem_nil⟩) (h_X12_put [] 2 120 (by decide) (by decide)  ) (by decide) (by decide +kernel)
set_option maxRecDepth 200000 in
set_option maxHeartbeats 4000000 in
def K_X12_put_80 : tb_K := ([.inr (.inl (some 1)), .inl (2, 0), .inl (3, 0)], [(1, (0, 13), .inl (4, 0))], [], [(0, 0), (1180591620717411303424, 1180591620717411303424), (14, 14), (1, 1), (0, 20)], [(some (.inl (3, 0)), [(1, (0, 15), .inr (.inl (some 5))), (1, (0, 13), .inl (4, 0)), (5, (2, 0), .inl (4, 0))], [], [(0, 0), (1180591620717411303424, 1180591620717411303424), (14, 14), (1, 1), (0, 20), (1180591620717411303432, 1180591620717411303432)])], [(8, 14, 14)])
set_option maxRecDepth 200000 in
set_option maxHeartbeats 4000000 in
def T_X12_put_80 : List (tb_S × tb_l) := []
set_option maxRecDepth 200000 in
set_option maxHeartbeats 4000000 in
theorem m_X12_put_80 {l : Launch} : tb_Met l vwCl sa_Ts tb_Z0 yX12_put cX12_put 3 (some .boolean) 2 120 K_X12_put_80 := tb_method (by decide) [15] (t_X12_put [(8, 14, 14)] ) T_X12_put_80 [] 6000 (List.forall_mem_cons.mpr ⟨dX12_put_15, fun _ h => absurd h List.not_mem_nil⟩) (h_X12_put [(8, 14, 14)] 2 120 (by decide) (by decide)  ) (by decide) (by decide +kernel)
set_option maxRecDepth 200000 in
set_option maxHeartbeats 4000000 in
def K_X12_put_81 : tb_K := ([.inr (.inl (some 1)), .inl (2, 0), .inl (3, 0)], [(1, (0, 13), .inl (4, 0))], [], [(0, 0), (1180591620717411303424, 1180591620717411303424), (13, 13), (0, 0), (-1, 999)], [(some (.inl (3, 0)), [(1, (0, 13), .inl (4, 0))], [], [(0, 0), (1180591620717411303424, 1180591620717411303424), (13, 13), (0, 0), (-1, 999)])], [])
set_option maxRecDepth 200000 in
set_option maxHeartbeats 4000000 in
def T_X12_put_81 : List (tb_S × tb_l) := []
set_option maxRecDepth 200000 in
set_option maxHeartbeats 4000000 in
theorem m_X12_put_81 {l : Launch} : tb_Met l vwCl sa_Ts tb_Z0 yX12_put cX12_put 3 (some .boolean) 2 120 K_X12_put_81 := tb_method (by decide) [15] (t_X12_put [] ) T_X12_put_81 [] 6000 (List.forall_mem_cons.mpr ⟨dX12_put_15, fun _ h => absurd h List.not_mem_nil⟩) (h_X12_put [] 2 120 (by decide) (by decide)  ) (by decide) (by decide +kernel)
set_option maxRecDepth 200000 in
set_option maxHeartbeats 4000000 in
def K_X12_put_82 : tb_K := ([.inr (.inl (some 1)), .inl (2, 0), .inl (3, 0)], [(1, (0, 13), .inl (4, 0))], [], [(0, 0), (1180591620717411303424, 1180591620717411303424), (13, 13), (1, 1), (0, 20)], [(some (.inl (3, 0)), [(1, (0, 15), .inr (.inl (some 5))), (1, (0, 13), .inl (4, 0)), (5, (2, 0), .inl (4, 0))], [], [(0, 0), (1180591620717411303424, 1180591620717411303424), (13, 13), (1, 1), (0, 20), (1180591620717411303432, 1180591620717411303432)])], [(8, 13, 13)])
set_option maxRecDepth 200000 in
set_option maxHeartbeats 4000000 in
def T_X12_put_82 : List (tb_S × tb_l) := []
set_option maxRecDepth 200000 in
set_option maxHeartbeats 4000000 in
theorem m_X12_put_82 {l : Launch} : tb_Met l vwCl sa_Ts tb_Z0 yX12_put cX12_put 3 (some .boolean) 2 120 K_X12_put_82 := tb_method (by decide) [15] (t_X12_put [(8, 13, 13)] ) T_X12_put_82 [] 6000 (List.forall_mem_cons.mpr ⟨dX12_put_15, fun _ h => absurd h List.not_mem_nil⟩) (h_X12_put [(8, 13, 13)] 2 120 (by decide) (by decide)  ) (by decide) (by decide +kernel)
set_option maxRecDepth 200000 in
set_option maxHeartbeats 4000000 in
def K_X12_put_83 : tb_K := ([.inr (.inl (some 1)), .inl (2, 0), .inl (3, 0)], [(1, (0, 13), .inl (4, 0))], [], [(0, 0), (1180591620717411303424, 1180591620717411303424), (12, 12), (0, 0), (-1, 999)], [(some (.inl (3, 0)), [(1, (0, 13), .inl (4, 0))], [], [(0, 0), (1180591620717411303424, 1180591620717411303424), (12, 12), (0, 0), (-1, 999)])], [])
set_option maxRecDepth 200000 in
set_option maxHeartbeats 4000000 in
def T_X12_put_83 : List (tb_S × tb_l) := []
set_option maxRecDepth 200000 in
set_option maxHeartbeats 4000000 in
theorem m_X12_put_83 {l : Launch} : tb_Met l vwCl sa_Ts tb_Z0 yX12_put cX12_put 3 (some .boolean) 2 120 K_X12_put_83 := tb_method (by decide) [15] (t_X12_put [] ) T_X12_put_83 [] 6000 (List.forall_mem_cons.mpr ⟨dX12_put_15, fun _ h => absurd h List.not_mem_nil⟩) (h_X12_put [] 2 120 (by decide) (by decide)  ) (by decide) (by decide +kernel)
set_option maxRecDepth 200000 in
set_option maxHeartbeats 4000000 in
def K_X12_put_84 : tb_K := ([.inr (.inl (some 1)), .inl (2, 0), .inl (3, 0)], [(1, (0, 13), .inl (4, 0))], [], [(0, 0), (1180591620717411303424, 1180591620717411303424), (12, 12), (1, 1), (0, 20)], [(some (.inl (3, 0)), [(1, (0, 15), .inr (.inl (some 5))), (1, (0, 13), .inl (4, 0)), (5, (2, 0), .inl (4, 0))], [], [(0, 0), (1180591620717411303424, 1180591620717411303424), (12, 12), (1, 1), (0, 20), (1180591620717411303432, 1180591620717411303432)])], [(8, 12, 12)])
set_option maxRecDepth 200000 in
set_option maxHeartbeats 4000000 in
def T_X12_put_84 : List (tb_S × tb_l) := []
set_option maxRecDepth 200000 in
set_option maxHeartbeats 4000000 in
theorem m_X12_put_84 {l : Launch} : tb_Met l vwCl sa_Ts tb_Z0 yX12_put cX12_put 3 (some .boolean) 2 120 K_X12_put_84 := tb_method (by decide) [15] (t_X12_put [(8, 12, 12)] ) T_X12_put_84 [] 6000 (List.forall_mem_cons.mpr ⟨dX12_put_15, fun _ h => absurd h List.not_mem_nil⟩) (h_X12_put [(8, 12, 12)] 2 120 (by decide) (by decide)  ) (by decide) (by decide +kernel)
set_option maxRecDepth 200000 in
set_option maxHeartbeats 4000000 in
def K_X12_put_85 : tb_K := ([.inr (.inl (some 1)), .inl (2, 0), .inl (3, 0)], [(1, (0, 13), .inl (4, 0))], [], [(0, 0), (1180591620717411303424, 1180591620717411303424), (11, 11), (0, 0), (-1, 999)], [(some (.inl (3, 0)), [(1, (0, 13), .inl (4, 0))], [], [(0, 0), (1180591620717411303424, 1180591620717411303424), (11, 11), (0, 0), (-1, 999)])], [])
set_option maxRecDepth 200000 in
set_option maxHeartbeats 4000000 in
def T_X12_put_85 : List (tb_S × tb_l) := []
set_option maxRecDepth 200000 in
set_option maxHeartbeats 4000000 in
theorem m_X12_put_85 {l : Launch} : tb_Met l vwCl sa_Ts tb_Z0 yX12_put cX12_put 3 (some .boolean) 2 120 K_X12_put_85 := tb_method (by decide) [15] (t_X12_put [] ) T_X12_put_85 [] 6000 (List.forall_mem_cons.mpr ⟨dX12_put_15, fun _ h => absurd h List.not_mem_nil⟩) (h_X12_put [] 2 120 (by decide) (by decide)  ) (by decide) (by decide +kernel)
set_option maxRecDepth 200000 in
set_option maxHeartbeats 4000000 in
def K_X12_put_86 : tb_K := ([.inr (.inl (some 1)), .inl (2, 0), .inl (3, 0)], [(1, (0, 13), .inl (4, 0))], [], [(0, 0), (1180591620717411303424, 1180591620717411303424), (11, 11), (1, 1), (0, 20)], [(some (.inl (3, 0)), [(1, (0, 15), .inr (.inl (some 5))), (1, (0, 13), .inl (4, 0)), (5, (2, 0), .inl (4, 0))], [], [(0, 0), (1180591620717411303424, 1180591620717411303424), (11, 11), (1, 1), (0, 20), (1180591620717411303432, 1180591620717411303432)])], [(8, 11, 11)])
set_option maxRecDepth 200000 in
set_option maxHeartbeats 4000000 in
def T_X12_put_86 : List (tb_S × tb_l) := []
set_option maxRecDepth 200000 in
set_option maxHeartbeats 4000000 in
theorem m_X12_put_86 {l : Launch} : tb_Met l vwCl sa_Ts tb_Z0 yX12_put cX12_put 3 (some .boolean) 2 120 K_X12_put_86 := tb_method (by decide) [15] (t_X12_put [(8, 11, 11)] ) T_X12_put_86 [] 6000 (List.forall_mem_cons.mpr ⟨dX12_put_15, fun _ h => absurd h List.not_mem_nil⟩) (h_X12_put [(8, 11, 11)] 2 120 (by decide) (by decide)  ) (by decide) (by decide +kernel)
set_option maxRecDepth 200000 in
set_option maxHeartbeats 4000000 in
def K_X12_put_87 : tb_K := ([.inr (.inl (some 1)), .inl (2, 0), .inl (3, 0)], [(1, (0, 13), .inl (4, 0))], [], [(0, 0), (1180591620717411303424, 1180591620717411303424), (10, 10), (0, 0), (-1, 999)], [(some (.inl (3, 0)), [(1, (0, 13), .inl (4, 0))], [], [(0, 0), (1180591620717411303424, 1180591620717411303424), (10, 10), (0, 0), (-1, 999)])], [])
set_option maxRecDepth 200000 in
set_option maxHeartbeats 4000000 in
def T_X12_put_87 : List (tb_S × tb_l) := []
set_option maxRecDepth 200000 in
set_option maxHeartbeats 4000000 in
theorem m_X12_put_87 {l : Launch} : tb_Met l vwCl sa_Ts tb_Z0 yX12_put cX12_put 3 (some .boolean) 2 120 K_X12_put_87 := tb_method (by decide) [15] (t_X12_put [] ) T_X12_put_87 [] 6000 (List.forall_mem_cons.mpr ⟨dX12_put_15, fun _ h => absurd h List.not_mem_nil⟩) (h_X12_put [] 2 120 (by decide) (by decide)  ) (by decide) (by decide +kernel)
set_option maxRecDepth 200000 in
set_option maxHeartbeats 4000000 in
def K_X12_put_88 : tb_K := ([.inr (.inl (some 1)), .inl (2, 0), .inl (3, 0)], [(1, (0, 13), .inl (4, 0))], [], [(0, 0), (1180591620717411303424, 1180591620717411303424), (10, 10), (1, 1), (0, 20)], [(some (.inl (3, 0)), [(1, (0, 15), .inr (.inl (some 5))), (1, (0, 13), .inl (4, 0)), (5, (2, 0), .inl (4, 0))], [], [(0, 0), (1180591620717411303424, 1180591620717411303424), (10, 10), (1, 1), (0, 20), (1180591620717411303432, 1180591620717411303432)])], [(8, 10, 10)])
set_option maxRecDepth 200000 in
set_option maxHeartbeats 4000000 in
def T_X12_put_88 : List (tb_S × tb_l) := []
set_option maxRecDepth 200000 in
set_option maxHeartbeats 4000000 in
theorem m_X12_put_88 {l : Launch} : tb_Met l vwCl sa_Ts tb_Z0 yX12_put cX12_put 3 (some .boolean) 2 120 K_X12_put_88 := tb_method (by decide) [15] (t_X12_put [(8, 10, 10)] ) T_X12_put_88 [] 6000 (List.forall_mem_cons.mpr ⟨dX12_put_15, fun _ h => absurd h List.not_mem_nil⟩) (h_X12_put [(8, 10, 10)] 2 120 (by decide) (by decide)  ) (by decide) (by decide +kernel)
set_option maxRecDepth 200000 in
set_option maxHeartbeats 4000000 in
def K_X12_put_89 : tb_K := ([.inr (.inl (some 1)), .inl (2, 0), .inl (3, 0)], [(1, (0, 13), .inl (4, 0))], [], [(0, 0), (1180591620717411303424, 1180591620717411303424), (9, 9), (0, 0), (-1, 999)], [(some (.inl (3, 0)), [(1, (0, 13), .inl (4, 0))], [], [(0, 0), (1180591620717411303424, 1180591620717411303424), (9, 9), (0, 0), (-1, 999)])], [])
set_option maxRecDepth 200000 in
set_option maxHeartbeats 4000000 in
def T_X12_put_89 : List (tb_S × tb_l) := []
set_option maxRecDepth 200000 in
set_option maxHeartbeats 4000000 in
theorem m_X12_put_89 {l : Launch} : tb_Met l vwCl sa_Ts tb_Z0 yX12_put cX12_put 3 (some .boolean) 2 120 K_X12_put_89 := tb_method (by decide) [15] (t_X12_put [] ) T_X12_put_89 [] 6000 (List.forall_mem_cons.mpr ⟨dX12_put_15, fun _ h => absurd h List.not_mem_nil⟩) (h_X12_put [] 2 120 (by decide) (by decide)  ) (by decide) (by decide +kernel)
set_option maxRecDepth 200000 in
set_option maxHeartbeats 4000000 in
def K_X12_put_90 : tb_K := ([.inr (.inl (some 1)), .inl (2, 0), .inl (3, 0)], [(1, (0, 13), .inl (4, 0))], [], [(0, 0), (1180591620717411303424, 1180591620717411303424), (9, 9), (1, 1), (0, 20)], [(some (.inl (3, 0)), [(1, (0, 15), .inr (.inl (some 5))), (1, (0, 13), .inl (4, 0)), (5, (2, 0), .inl (4, 0))], [], [(0, 0), (1180591620717411303424, 1180591620717411303424), (9, 9), (1, 1), (0, 20), (1180591620717411303432, 1180591620717411303432)])], [(8, 9, 9)])
set_option maxRecDepth 200000 in
set_option maxHeartbeats 4000000 in
def T_X12_put_90 : List (tb_S × tb_l) := []
set_option maxRecDepth 200000 in
set_option maxHeartbeats 4000000 in
theorem m_X12_put_90 {l : Launch} : tb_Met l vwCl sa_Ts tb_Z0 yX12_put cX12_put 3 (some .boolean) 2 120 K_X12_put_90 := tb_method (by decide) [15] (t_X12_put [(8, 9, 9)] ) T_X12_put_90 [] 6000 (List.forall_mem_cons.mpr ⟨dX12_put_15, fun _ h => absurd h List.not_mem_nil⟩) (h_X12_put [(8, 9, 9)] 2 120 (by decide) (by decide)  ) (by decide) (by decide +kernel)
set_option maxRecDepth 200000 in
set_option maxHeartbeats 4000000 in
def K_X12_findIn_3 : tb_K := ([.inr (.inl (some 1)), .inl (2, 0), .inl (3, 0), .inr (.inr 4)], [], [], [(0, 0), (1180591620717411303503, 1180591620717411303503), (0, 0), (5, 5), (-9223372036854775808, 9223372036854775807)], [(some (.inl (5, 0)), [], [], [(0, 0), (1180591620717411303503, 1180591620717411303503), (0, 0), (5, 5), (-9223372036854775808, 9223372036854775807), (-1, 4)])], [])
set_option maxRecDepth 200000 in
set_option maxHeartbeats 4000000 in
def T_X12_findIn_3 : List (tb_S × tb_l) := [((3, [(0, .inr (.inl (some 1))), (1, .inl (2, 0)), (2, .inl (3, 0)), (3, .inr (.inr 4)), (5, .inl (5, 0))], [], ([], [], []), [(0, 0), (1180591620717411303503, 1180591620717411303503), (0, 0), (5, 5), (-9223372036854775808, 9223372036854775807), (0, 5)], 0, 0), ([(5, (-1))], 5))]
set_option maxRecDepth 200000 in
set_option maxHeartbeats 4000000 in
theorem m_X12_findIn_3 {l : Launch} : tb_Met l vwCl sa_Ts tb_Z0 yX12_findIn cX12_findIn 6 (some .int) 2 120 K_X12_findIn_3 := tb_method (by decide) [22, 30] (t_X12_findIn [] ) T_X12_findIn_3 [3] 6000 (List.forall_mem_cons.mpr ⟨dX12_findIn_22, List.forall_mem_cons.mpr ⟨dX12_findIn_30, fun _ h => absurd h List.not_mem_nil⟩⟩) (h_X12_findIn [] 2 120 (by decide) (by decide)  ) (by decide) (by decide +kernel)
set_option maxRecDepth 200000 in
set_option maxHeartbeats 4000000 in
def K_X12_readOne_3 : tb_K := ([.inr (.inl (some 1)), .inl (2, 0), .inl (3, 0)], [], [], [(0, 0), (1180591620717411303424, 1180591620717411303424), (0, 0), (5, 5)], [(some (.inl (4, 0)), [], [], [(0, 0), (1180591620717411303424, 1180591620717411303424), (0, 0), (5, 5), (0, 0)]), (some (.inl (4, 0)), [(1, (0, 13), .inl (5, 0))], [], [(0, 0), (1180591620717411303424, 1180591620717411303424), (0, 0), (5, 5), (1, 1), (0, 4)])], [(0, 5, 13)])
set_option maxRecDepth 200000 in
set_option maxHeartbeats 4000000 in
def T_X12_readOne_3 : List (tb_S × tb_l) := []
set_option maxRecDepth 200000 in
set_option maxHeartbeats 4000000 in
theorem m_X12_readOne_3 {l : Launch} : tb_Met l vwCl sa_Ts tb_Z0 yX12_readOne cX12_readOne 3 (some .boolean) 5 189 K_X12_readOne_3 := tb_method (by decide) [12, 43, 49] (t_X12_readOne [(0, 5, 13)] [K_X12_isName_1] [K_X12_bad_1] [K_X12_findIn_3] [K_X12_bad_3] [K_X12_go_1]) T_X12_readOne_3 [] 6000 (List.forall_mem_cons.mpr ⟨dX12_readOne_12, List.forall_mem_cons.mpr ⟨dX12_readOne_43, List.forall_mem_cons.mpr ⟨dX12_readOne_49, fun _ h => absurd h List.not_mem_nil⟩⟩⟩) (h_X12_readOne [(0, 5, 13)] 5 189 (by decide) (by decide) [K_X12_isName_1] [K_X12_bad_1] [K_X12_findIn_3] [K_X12_bad_3] [K_X12_go_1] ⟨4, 168, List.forall_mem_cons.mpr ⟨m_X12_isName_1, fun _ h => absurd h List.not_mem_nil⟩, by decide, by decide, by decide⟩ ⟨2, 120, List.forall_mem_cons.mpr ⟨m_X12_bad_1, fun _ h => absurd h List.not_mem_nil⟩, by decide, by decide, by decide⟩ ⟨2, 120, List.forall_mem_cons.mpr ⟨m_X12_findIn_3, fun _ h => absurd h List.not_mem_nil⟩, by decide, by decide, by decide⟩ ⟨2, 120, List.forall_mem_cons.mpr ⟨m_X12_bad_3, fun _ h => absurd h List.not_mem_nil⟩, by decide, by decide, by decide⟩ ⟨3, 141, List.forall_mem_cons.mpr ⟨m_X12_go_1, fun _ h => absurd h List.not_mem_nil⟩, by decide, by decide, by decide⟩) (by decide) (by decide +kernel)
set_option maxRecDepth 200000 in
set_option maxHeartbeats 4000000 in
def K_X12_findIn_4 : tb_K := ([.inr (.inl (some 1)), .inl (2, 0), .inl (3, 0), .inr (.inr 4)], [], [], [(0, 0), (1180591620717411303503, 1180591620717411303503), (0, 0), (4, 4), (-9223372036854775808, 9223372036854775807)], [(some (.inl (5, 0)), [], [], [(0, 0), (1180591620717411303503, 1180591620717411303503), (0, 0), (4, 4), (-9223372036854775808, 9223372036854775807), (-1, 3)])], [])
set_option maxRecDepth 200000 in
set_option maxHeartbeats 4000000 in
def T_X12_findIn_4 : List (tb_S × tb_l) := [((3, [(0, .inr (.inl (some 1))), (1, .inl (2, 0)), (2, .inl (3, 0)), (3, .inr (.inr 4)), (5, .inl (5, 0))], [], ([], [], []), [(0, 0), (1180591620717411303503, 1180591620717411303503), (0, 0), (4, 4), (-9223372036854775808, 9223372036854775807), (0, 4)], 0, 0), ([(5, (-1))], 4))]
set_option maxRecDepth 200000 in
set_option maxHeartbeats 4000000 in
theorem m_X12_findIn_4 {l : Launch} : tb_Met l vwCl sa_Ts tb_Z0 yX12_findIn cX12_findIn 6 (some .int) 2 120 K_X12_findIn_4 := tb_method (by decide) [22, 30] (t_X12_findIn [] ) T_X12_findIn_4 [3] 6000 (List.forall_mem_cons.mpr ⟨dX12_findIn_22, List.forall_mem_cons.mpr ⟨dX12_findIn_30, fun _ h => absurd h List.not_mem_nil⟩⟩) (h_X12_findIn [] 2 120 (by decide) (by decide)  ) (by decide) (by decide +kernel)
set_option maxRecDepth 200000 in
set_option maxHeartbeats 4000000 in
def K_X12_readOne_4 : tb_K := ([.inr (.inl (some 1)), .inl (2, 0), .inl (3, 0)], [], [], [(0, 0), (1180591620717411303424, 1180591620717411303424), (0, 0), (4, 4)], [(some (.inl (4, 0)), [], [], [(0, 0), (1180591620717411303424, 1180591620717411303424), (0, 0), (4, 4), (0, 0)]), (some (.inl (4, 0)), [(1, (0, 13), .inl (5, 0))], [], [(0, 0), (1180591620717411303424, 1180591620717411303424), (0, 0), (4, 4), (1, 1), (0, 3)])], [(0, 5, 13)])
set_option maxRecDepth 200000 in
set_option maxHeartbeats 4000000 in
def T_X12_readOne_4 : List (tb_S × tb_l) := []
set_option maxRecDepth 200000 in
set_option maxHeartbeats 4000000 in
theorem m_X12_readOne_4 {l : Launch} : tb_Met l vwCl sa_Ts tb_Z0 yX12_readOne cX12_readOne 3 (some .boolean) 5 189 K_X12_readOne_4 := tb_method (by decide) [12, 43, 49] (t_X12_readOne [(0, 5, 13)] [K_X12_isName_1] [K_X12_bad_1] [K_X12_findIn_4] [K_X12_bad_3] [K_X12_go_1]) T_X12_readOne_4 [] 6000 (List.forall_mem_cons.mpr ⟨dX12_readOne_12, List.forall_mem_cons.mpr ⟨dX12_readOne_43, List.forall_mem_cons.mpr ⟨dX12_readOne_49, fun _ h => absurd h List.not_mem_nil⟩⟩⟩) (h_X12_readOne [(0, 5, 13)] 5 189 (by decide) (by decide) [K_X12_isName_1] [K_X12_bad_1] [K_X12_findIn_4] [K_X12_bad_3] [K_X12_go_1] ⟨4, 168, List.forall_mem_cons.mpr ⟨m_X12_isName_1, fun _ h => absurd h List.not_mem_nil⟩, by decide, by decide, by decide⟩ ⟨2, 120, List.forall_mem_cons.mpr ⟨m_X12_bad_1, fun _ h => absurd h List.not_mem_nil⟩, by decide, by decide, by decide⟩ ⟨2, 120, List.forall_mem_cons.mpr ⟨m_X12_findIn_4, fun _ h => absurd h List.not_mem_nil⟩, by decide, by decide, by decide⟩ ⟨2, 120, List.forall_mem_cons.mpr ⟨m_X12_bad_3, fun _ h => absurd h List.not_mem_nil⟩, by decide, by decide, by decide⟩ ⟨3, 141, List.forall_mem_cons.mpr ⟨m_X12_go_1, fun _ h => absurd h List.not_mem_nil⟩, by decide, by decide, by decide⟩) (by decide) (by decide +kernel)
set_option maxRecDepth 200000 in
set_option maxHeartbeats 4000000 in
def K_X12_findIn_5 : tb_K := ([.inr (.inl (some 1)), .inl (2, 0), .inl (3, 0), .inr (.inr 4)], [], [], [(0, 0), (1180591620717411303503, 1180591620717411303503), (0, 0), (3, 3), (-9223372036854775808, 9223372036854775807)], [(some (.inl (5, 0)), [], [], [(0, 0), (1180591620717411303503, 1180591620717411303503), (0, 0), (3, 3), (-9223372036854775808, 9223372036854775807), (-1, 2)])], [])
set_option maxRecDepth 200000 in
set_option maxHeartbeats 4000000 in
def T_X12_findIn_5 : List (tb_S × tb_l) := [((3, [(0, .inr (.inl (some 1))), (1, .inl (2, 0)), (2, .inl (3, 0)), (3, .inr (.inr 4)), (5, .inl (5, 0))], [], ([], [], []), [(0, 0), (1180591620717411303503, 1180591620717411303503), (0, 0), (3, 3), (-9223372036854775808, 9223372036854775807), (0, 3)], 0, 0), ([(5, (-1))], 3))]
set_option maxRecDepth 200000 in
set_option maxHeartbeats 4000000 in
theorem m_X12_findIn_5 {l : Launch} : tb_Met l vwCl sa_Ts tb_Z0 yX12_findIn cX12_findIn 6 (some .int) 2 120 K_X12_findIn_5 := tb_method (by decide) [22, 30] (t_X12_findIn [] ) T_X12_findIn_5 [3] 6000 (List.forall_mem_cons.mpr ⟨dX12_findIn_22, List.forall_mem_cons.mpr ⟨dX12_findIn_30, fun _ h => absurd h List.not_mem_nil⟩⟩) (h_X12_findIn [] 2 120 (by decide) (by decide)  ) (by decide) (by decide +kernel)
set_option maxRecDepth 200000 in
set_option maxHeartbeats 4000000 in
def K_X12_readOne_5 : tb_K := ([.inr (.inl (some 1)), .inl (2, 0), .inl (3, 0)], [], [], [(0, 0), (1180591620717411303424, 1180591620717411303424), (0, 0), (3, 3)], [(some (.inl (4, 0)), [], [], [(0, 0), (1180591620717411303424, 1180591620717411303424), (0, 0), (3, 3), (0, 0)]), (some (.inl (4, 0)), [(1, (0, 13), .inl (5, 0))], [], [(0, 0), (1180591620717411303424, 1180591620717411303424), (0, 0), (3, 3), (1, 1), (0, 2)])], [(0, 5, 13)])
set_option maxRecDepth 200000 in
set_option maxHeartbeats 4000000 in
def T_X12_readOne_5 : List (tb_S × tb_l) := []
set_option maxRecDepth 200000 in
set_option maxHeartbeats 4000000 in
theorem m_X12_readOne_5 {l : Launch} : tb_Met l vwCl sa_Ts tb_Z0 yX12_readOne cX12_readOne 3 (some .boolean) 5 189 K_X12_readOne_5 := tb_method (by decide) [12, 43, 49] (t_X12_readOne [(0, 5, 13)] [K_X12_isName_1] [K_X12_bad_1] [K_X12_findIn_5] [K_X12_bad_3] [K_X12_go_1]) T_X12_readOne_5 [] 6000 (List.forall_mem_cons.mpr ⟨dX12_readOne_12, List.forall_mem_cons.mpr ⟨dX12_readOne_43, List.forall_mem_cons.mpr ⟨dX12_readOne_49, fun _ h => absurd h List.not_mem_nil⟩⟩⟩) (h_X12_readOne [(0, 5, 13)] 5 189 (by decide) (by decide) [K_X12_isName_1] [K_X12_bad_1] [K_X12_findIn_5] [K_X12_bad_3] [K_X12_go_1] ⟨4, 168, List.forall_mem_cons.mpr ⟨m_X12_isName_1, fun _ h => absurd h List.not_mem_nil⟩, by decide, by decide, by decide⟩ ⟨2, 120, List.forall_mem_cons.mpr ⟨m_X12_bad_1, fun _ h => absurd h List.not_mem_nil⟩, by decide, by decide, by decide⟩ ⟨2, 120, List.forall_mem_cons.mpr ⟨m_X12_findIn_5, fun _ h => absurd h List.not_mem_nil⟩, by decide, by decide, by decide⟩ ⟨2, 120, List.forall_mem_cons.mpr ⟨m_X12_bad_3, fun _ h => absurd h List.not_mem_nil⟩, by decide, by decide, by decide⟩ ⟨3, 141, List.forall_mem_cons.mpr ⟨m_X12_go_1, fun _ h => absurd h List.not_mem_nil⟩, by decide, by decide, by decide⟩) (by decide) (by decide +kernel)
set_option maxRecDepth 200000 in
set_option maxHeartbeats 4000000 in
def K_X12_findIn_6 : tb_K := ([.inr (.inl (some 1)), .inl (2, 0), .inl (3, 0), .inr (.inr 4)], [], [], [(0, 0), (1180591620717411303503, 1180591620717411303503), (0, 0), (2, 2), (-9223372036854775808, 9223372036854775807)], [(some (.inl (5, 0)), [], [], [(0, 0), (1180591620717411303503, 1180591620717411303503), (0, 0), (2, 2), (-9223372036854775808, 9223372036854775807), (-1, 1)])], [])
set_option maxRecDepth 200000 in
set_option maxHeartbeats 4000000 in
def T_X12_findIn_6 : List (tb_S × tb_l) := [((3, [(0, .inr (.inl (some 1))), (1, .inl (2, 0)), (2, .inl (3, 0)), (3, .inr (.inr 4)), (5, .inl (5, 0))], [], ([], [], []), [(0, 0), (1180591620717411303503, 1180591620717411303503), (0, 0), (2, 2), (-9223372036854775808, 9223372036854775807), (0, 2)], 0, 0), ([(5, (-1))], 2))]
set_option maxRecDepth 200000 in
set_option maxHeartbeats 4000000 in
theorem m_X12_findIn_6 {l : Launch} : tb_Met l vwCl sa_Ts tb_Z0 yX12_findIn cX12_findIn 6 (some .int) 2 120 K_X12_findIn_6 := tb_method (by decide) [22, 30] (t_X12_findIn [] ) T_X12_findIn_6 [3] 6000 (List.forall_mem_cons.mpr ⟨dX12_findIn_22, List.forall_mem_cons.mpr ⟨dX12_findIn_30, fun _ h => absurd h List.not_mem_nil⟩⟩) (h_X12_findIn [] 2 120 (by decide) (by decide)  ) (by decide) (by decide +kernel)
set_option maxRecDepth 200000 in
set_option maxHeartbeats 4000000 in
def K_X12_readOne_6 : tb_K := ([.inr (.inl (some 1)), .inl (2, 0), .inl (3, 0)], [], [], [(0, 0), (1180591620717411303424, 1180591620717411303424), (0, 0), (2, 2)], [(some (.inl (4, 0)), [], [], [(0, 0), (1180591620717411303424, 1180591620717411303424), (0, 0), (2, 2), (0, 0)]), (some (.inl (4, 0)), [(1, (0, 13), .inl (5, 0))], [], [(0, 0), (1180591620717411303424, 1180591620717411303424), (0, 0), (2, 2), (1, 1), (0, 1)])], [(0, 5, 13)])
set_option maxRecDepth 200000 in
set_option maxHeartbeats 4000000 in
def T_X12_readOne_6 : List (tb_S × tb_l) := []
set_option maxRecDepth 200000 in
set_option maxHeartbeats 4000000 in
theorem m_X12_readOne_6 {l : Launch} : tb_Met l vwCl sa_Ts tb_Z0 yX12_readOne cX12_readOne 3 (some .boolean) 5 189 K_X12_readOne_6 := tb_method (by decide) [12, 43, 49] (t_X12_readOne [(0, 5, 13)] [K_X12_isName_1] [K_X12_bad_1] [K_X12_findIn_6] [K_X12_bad_3] [K_X12_go_1]) T_X12_readOne_6 [] 6000 (List.forall_mem_cons.mpr ⟨dX12_readOne_12, List.forall_mem_cons.mpr ⟨dX12_readOne_43, List.forall_mem_cons.mpr ⟨dX12_readOne_49, fun _ h => absurd h List.not_mem_nil⟩⟩⟩) (h_X12_readOne [(0, 5, 13)] 5 189 (by decide) (by decide) [K_X12_isName_1] [K_X12_bad_1] [K_X12_findIn_6] [K_X12_bad_3] [K_X12_go_1] ⟨4, 168, List.forall_mem_cons.mpr ⟨m_X12_isName_1, fun _ h => absurd h List.not_mem_nil⟩, by decide, by decide, by decide⟩ ⟨2, 120, List.forall_mem_cons.mpr ⟨m_X12_bad_1, fun _ h => absurd h List.not_mem_nil⟩, by decide, by decide, by decide⟩ ⟨2, 120, List.forall_mem_cons.mpr ⟨m_X12_findIn_6, fun _ h => absurd h List.not_mem_nil⟩, by decide, by decide, by decide⟩ ⟨2, 120, List.forall_mem_cons.mpr ⟨m_X12_bad_3, fun _ h => absurd h List.not_mem_nil⟩, by decide, by decide, by decide⟩ ⟨3, 141, List.forall_mem_cons.mpr ⟨m_X12_go_1, fun _ h => absurd h List.not_mem_nil⟩, by decide, by decide, by decide⟩) (by decide) (by decide +kernel)
set_option maxRecDepth 200000 in
set_option maxHeartbeats 4000000 in
def K_X12_findIn_7 : tb_K := ([.inr (.inl (some 1)), .inl (2, 0), .inl (3, 0), .inr (.inr 4)], [], [], [(0, 0), (1180591620717411303503, 1180591620717411303503), (0, 0), (1, 1), (-9223372036854775808, 9223372036854775807)], [(some (.inl (5, 0)), [], [], [(0, 0), (1180591620717411303503, 1180591620717411303503), (0, 0), (1, 1), (-9223372036854775808, 9223372036854775807), (-1, 0)])], [])
set_option maxRecDepth 200000 in
set_option maxHeartbeats 4000000 in
def T_X12_findIn_7 : List (tb_S × tb_l) := [((3, [(0, .inr (.inl (some 1))), (1, .inl (2, 0)), (2, .inl (3, 0)), (3, .inr (.inr 4)), (5, .inl (5, 0))], [], ([], [], []), [(0, 0), (1180591620717411303503, 1180591620717411303503), (0, 0), (1, 1), (-9223372036854775808, 9223372036854775807), (0, 1)], 0, 0), ([(5, (-1))], 1))]
set_option maxRecDepth 200000 in
set_option maxHeartbeats 4000000 in
theorem m_X12_findIn_7 {l : Launch} : tb_Met l vwCl sa_Ts tb_Z0 yX12_findIn cX12_findIn 6 (some .int) 2 120 K_X12_findIn_7 := tb_method (by decide) [22, 30] (t_X12_findIn [] ) T_X12_findIn_7 [3] 6000 (List.forall_mem_cons.mpr ⟨dX12_findIn_22, List.forall_mem_cons.mpr ⟨dX12_findIn_30, fun _ h => absurd h List.not_mem_nil⟩⟩) (h_X12_findIn [] 2 120 (by decide) (by decide)  ) (by decide) (by decide +kernel)
set_option maxRecDepth 200000 in
set_option maxHeartbeats 4000000 in
def K_X12_readOne_7 : tb_K := ([.inr (.inl (some 1)), .inl (2, 0), .inl (3, 0)], [], [], [(0, 0), (1180591620717411303424, 1180591620717411303424), (0, 0), (1, 1)], [(some (.inl (4, 0)), [], [], [(0, 0), (1180591620717411303424, 1180591620717411303424), (0, 0), (1, 1), (0, 0)]), (some (.inl (4, 0)), [(1, (0, 13), .inl (5, 0))], [], [(0, 0), (1180591620717411303424, 1180591620717411303424), (0, 0), (1, 1), (1, 1), (0, 0)])], [(0, 5, 13)])
set_option maxRecDepth 200000 in
set_option maxHeartbeats 4000000 in
def T_X12_readOne_7 : List (tb_S × tb_l) := []
set_option maxRecDepth 200000 in
set_option maxHeartbeats 4000000 in
theorem m_X12_readOne_7 {l : Launch} : tb_Met l vwCl sa_Ts tb_Z0 yX12_readOne cX12_readOne 3 (some .boolean) 5 189 K_X12_readOne_7 := tb_method (by decide) [12, 43, 49] (t_X12_readOne [(0, 5, 13)] [K_X12_isName_1] [K_X12_bad_1] [K_X12_findIn_7] [K_X12_bad_3] [K_X12_go_1]) T_X12_readOne_7 [] 6000 (List.forall_mem_cons.mpr ⟨dX12_readOne_12, List.forall_mem_cons.mpr ⟨dX12_readOne_43, List.forall_mem_cons.mpr ⟨dX12_readOne_49, fun _ h => absurd h List.not_mem_nil⟩⟩⟩) (h_X12_readOne [(0, 5, 13)] 5 189 (by decide) (by decide) [K_X12_isName_1] [K_X12_bad_1] [K_X12_findIn_7] [K_X12_bad_3] [K_X12_go_1] ⟨4, 168, List.forall_mem_cons.mpr ⟨m_X12_isName_1, fun _ h => absurd h List.not_mem_nil⟩, by decide, by decide, by decide⟩ ⟨2, 120, List.forall_mem_cons.mpr ⟨m_X12_bad_1, fun _ h => absurd h List.not_mem_nil⟩, by decide, by decide, by decide⟩ ⟨2, 120, List.forall_mem_cons.mpr ⟨m_X12_findIn_7, fun _ h => absurd h List.not_mem_nil⟩, by decide, by decide, by decide⟩ ⟨2, 120, List.forall_mem_cons.mpr ⟨m_X12_bad_3, fun _ h => absurd h List.not_mem_nil⟩, by decide, by decide, by decide⟩ ⟨3, 141, List.forall_mem_cons.mpr ⟨m_X12_go_1, fun _ h => absurd h List.not_mem_nil⟩, by decide, by decide, by decide⟩) (by decide) (by decide +kernel)
set_option maxRecDepth 200000 in
set_option maxHeartbeats 4000000 in
def K_X12_findIn_8 : tb_K := ([.inr (.inl (some 1)), .inl (2, 0), .inl (3, 0), .inr (.inr 4)], [], [], [(0, 0), (1180591620717411303503, 1180591620717411303503), (0, 0), (0, 0), (-9223372036854775808, 9223372036854775807)], [(some (.inl (5, 0)), [], [], [(0, 0), (1180591620717411303503, 1180591620717411303503), (0, 0), (0, 0), (-9223372036854775808, 9223372036854775807), (-1, (-1))])], [])
set_option maxRecDepth 200000 in
set_option maxHeartbeats 4000000 in
def T_X12_findIn_8 : List (tb_S × tb_l) := [((3, [(0, .inr (.inl (some 1))), (1, .inl (2, 0)), (2, .inl (3, 0)), (3, .inr (.inr 4)), (5, .inl (5, 0))], [], ([], [], []), [(0, 0), (1180591620717411303503, 1180591620717411303503), (0, 0), (0, 0), (-9223372036854775808, 9223372036854775807), (0, 0)], 0, 0), ([], 0))]
set_option maxRecDepth 200000 in
set_option maxHeartbeats 4000000 in
theorem m_X12_findIn_8 {l : Launch} : tb_Met l vwCl sa_Ts tb_Z0 yX12_findIn cX12_findIn 6 (some .int) 2 120 K_X12_findIn_8 := tb_method (by decide) [30] (t_X12_findIn [] ) T_X12_findIn_8 [3] 6000 (List.forall_mem_cons.mpr ⟨dX12_findIn_30, fun _ h => absurd h List.not_mem_nil⟩) (h_X12_findIn [] 2 120 (by decide) (by decide)  ) (by decide) (by decide +kernel)
set_option maxRecDepth 200000 in
set_option maxHeartbeats 4000000 in
def K_X12_readOne_8 : tb_K := ([.inr (.inl (some 1)), .inl (2, 0), .inl (3, 0)], [], [], [(0, 0), (1180591620717411303424, 1180591620717411303424), (0, 0), (0, 0)], [(some (.inl (4, 0)), [], [], [(0, 0), (1180591620717411303424, 1180591620717411303424), (0, 0), (0, 0), (0, 0)])], [(0, 10, 11), (0, 13, 13)])
set_option maxRecDepth 200000 in
set_option maxHeartbeats 4000000 in
def T_X12_readOne_8 : List (tb_S × tb_l) := []
set_option maxRecDepth 200000 in
set_option maxHeartbeats 4000000 in
theorem m_X12_readOne_8 {l : Launch} : tb_Met l vwCl sa_Ts tb_Z0 yX12_readOne cX12_readOne 3 (some .boolean) 5 189 K_X12_readOne_8 := tb_method (by decide) [12, 43] (t_X12_readOne [(0, 10, 11), (0, 13, 13)] [K_X12_isName_1] [K_X12_bad_1] [K_X12_findIn_8] [K_X12_bad_3] []) T_X12_readOne_8 [] 6000 (List.forall_mem_cons.mpr ⟨dX12_readOne_12, List.forall_mem_cons.mpr ⟨dX12_readOne_43, fun _ h => absurd h List.not_mem_nil⟩⟩) (h_X12_readOne [(0, 10, 11), (0, 13, 13)] 5 189 (by decide) (by decide) [K_X12_isName_1] [K_X12_bad_1] [K_X12_findIn_8] [K_X12_bad_3] [] ⟨4, 168, List.forall_mem_cons.mpr ⟨m_X12_isName_1, fun _ h => absurd h List.not_mem_nil⟩, by decide, by decide, by decide⟩ ⟨2, 120, List.forall_mem_cons.mpr ⟨m_X12_bad_1, fun _ h => absurd h List.not_mem_nil⟩, by decide, by decide, by decide⟩ ⟨2, 120, List.forall_mem_cons.mpr ⟨m_X12_findIn_8, fun _ h => absurd h List.not_mem_nil⟩, by decide, by decide, by decide⟩ ⟨2, 120, List.forall_mem_cons.mpr ⟨m_X12_bad_3, fun _ h => absurd h List.not_mem_nil⟩, by decide, by decide, by decide⟩ (tb_ML0 (by decide) (by decide))) (by decide) (by decide +kernel)
set_option maxRecDepth 200000 in
set_option maxHeartbeats 4000000 in
def K_X12_put_91 : tb_K := ([.inr (.inl (some 1)), .inl (2, 0), .inl (3, 0)], [(1, (0, 13), .inl (4, 0))], [], [(0, 0), (1180591620717411303424, 1180591620717411303424), (20, 20), (0, 0), (-1, 999)], [(some (.inl (3, 0)), [(1, (0, 13), .inl (4, 0))], [], [(0, 0), (1180591620717411303424, 1180591620717411303424), (20, 20), (0, 0), (-1, 999)])], [])
set_option maxRecDepth 200000 in
set_option maxHeartbeats 4000000 in
def T_X12_put_91 : List (tb_S × tb_l) := []
set_option maxRecDepth 200000 in
set_option maxHeartbeats 4000000 in
theorem m_X12_put_91 {l : Launch} : tb_Met l vwCl sa_Ts tb_Z0 yX12_put cX12_put 3 (some .boolean) 2 120 K_X12_put_91 := tb_method (by decide) [15] (t_X12_put [] ) T_X12_put_91 [] 6000 (List.forall_mem_cons.mpr ⟨dX12_put_15, fun _ h => absurd h List.not_mem_nil⟩) (h_X12_put [] 2 120 (by decide) (by decide)  ) (by decide) (by decide +kernel)
set_option maxRecDepth 200000 in
set_option maxHeartbeats 4000000 in
def K_X12_put_92 : tb_K := ([.inr (.inl (some 1)), .inl (2, 0), .inl (3, 0)], [(1, (0, 13), .inl (4, 0))], [], [(0, 0), (1180591620717411303424, 1180591620717411303424), (20, 20), (1, 1), (0, 4)], [(some (.inl (3, 0)), [(1, (0, 15), .inr (.inl (some 5))), (1, (0, 13), .inl (4, 0)), (5, (2, 0), .inl (4, 0))], [], [(0, 0), (1180591620717411303424, 1180591620717411303424), (20, 20), (1, 1), (0, 4), (1180591620717411303432, 1180591620717411303432)])], [(8, 20, 20)])
set_option maxRecDepth 200000 in
set_option maxHeartbeats 4000000 in
def T_X12_put_92 : List (tb_S × tb_l) := []
set_option maxRecDepth 200000 in
set_option maxHeartbeats 4000000 in
theorem m_X12_put_92 {l : Launch} : tb_Met l vwCl sa_Ts tb_Z0 yX12_put cX12_put 3 (some .boolean) 2 120 K_X12_put_92 := tb_method (by decide) [15] (t_X12_put [(8, 20, 20)] ) T_X12_put_92 [] 6000 (List.forall_mem_cons.mpr ⟨dX12_put_15, fun _ h => absurd h List.not_mem_nil⟩) (h_X12_put [(8, 20, 20)] 2 120 (by decide) (by decide)  ) (by decide) (by decide +kernel)
set_option maxRecDepth 200000 in
set_option maxHeartbeats 4000000 in
def K_X12_put_93 : tb_K := ([.inr (.inl (some 1)), .inl (2, 0), .inl (3, 0)], [(1, (0, 13), .inl (4, 0))], [], [(0, 0), (1180591620717411303424, 1180591620717411303424), (19, 19), (0, 0), (-1, 999)], [(some (.inl (3, 0)), [(1, (0, 13), .inl (4, 0))], [], [(0, 0), (1180591620717411303424, 1180591620717411303424), (19, 19), (0, 0), (-1, 999)])], [])
set_option maxRecDepth 200000 in
set_option maxHeartbeats 4000000 in
def T_X12_put_93 : List (tb_S × tb_l) := []
set_option maxRecDepth 200000 in
set_option maxHeartbeats 4000000 in
theorem m_X12_put_93 {l : Launch} : tb_Met l vwCl sa_Ts tb_Z0 yX12_put cX12_put 3 (some .boolean) 2 120 K_X12_put_93 := tb_method (by decide) [15] (t_X12_put [] ) T_X12_put_93 [] 6000 (List.forall_mem_cons.mpr ⟨dX12_put_15, fun _ h => absurd h List.not_mem_nil⟩) (h_X12_put [] 2 120 (by decide) (by decide)  ) (by decide) (by decide +kernel)
set_option maxRecDepth 200000 in
set_option maxHeartbeats 4000000 in
def K_X12_put_94 : tb_K := ([.inr (.inl (some 1)), .inl (2, 0), .inl (3, 0)], [(1, (0, 13), .inl (4, 0))], [], [(0, 0), (1180591620717411303424, 1180591620717411303424), (19, 19), (1, 1), (0, 3)], [(some (.inl (3, 0)), [(1, (0, 15), .inr (.inl (some 5))), (1, (0, 13), .inl (4, 0)), (5, (2, 0), .inl (4, 0))], [], [(0, 0), (1180591620717411303424, 1180591620717411303424), (19, 19), (1, 1), (0, 3), (1180591620717411303432, 1180591620717411303432)])], [(8, 19, 19)])
set_option maxRecDepth 200000 in
set_option maxHeartbeats 4000000 in
def T_X12_put_94 : List (tb_S × tb_l) := []
set_option maxRecDepth 200000 in
set_option maxHeartbeats 4000000 in
theorem m_X12_put_94 {l : Launch} : tb_Met l vwCl sa_Ts tb_Z0 yX12_put cX12_put 3 (some .boolean) 2 120 K_X12_put_94 := tb_method (by decide) [15] (t_X12_put [(8, 19, 19)] ) T_X12_put_94 [] 6000 (List.forall_mem_cons.mpr ⟨dX12_put_15, fun _ h => absurd h List.not_mem_nil⟩) (h_X12_put [(8, 19, 19)] 2 120 (by decide) (by decide)  ) (by decide) (by decide +kernel)
set_option maxRecDepth 200000 in
set_option maxHeartbeats 4000000 in
def K_X12_put_95 : tb_K := ([.inr (.inl (some 1)), .inl (2, 0), .inl (3, 0)], [(1, (0, 13), .inl (4, 0))], [], [(0, 0), (1180591620717411303424, 1180591620717411303424), (18, 18), (0, 0), (-1, 999)], [(some (.inl (3, 0)), [(1, (0, 13), .inl (4, 0))], [], [(0, 0), (1180591620717411303424, 1180591620717411303424), (18, 18), (0, 0), (-1, 999)])], [])
set_option maxRecDepth 200000 in
set_option maxHeartbeats 4000000 in
def T_X12_put_95 : List (tb_S × tb_l) := []
set_option maxRecDepth 200000 in
set_option maxHeartbeats 4000000 in
theorem m_X12_put_95 {l : Launch} : tb_Met l vwCl sa_Ts tb_Z0 yX12_put cX12_put 3 (some .boolean) 2 120 K_X12_put_95 := tb_method (by decide) [15] (t_X12_put [] ) T_X12_put_95 [] 6000 (List.forall_mem_cons.mpr ⟨dX12_put_15, fun _ h => absurd h List.not_mem_nil⟩) (h_X12_put [] 2 120 (by decide) (by decide)  ) (by decide) (by decide +kernel)
set_option maxRecDepth 200000 in
set_option maxHeartbeats 4000000 in
def K_X12_put_96 : tb_K := ([.inr (.inl (some 1)), .inl (2, 0), .inl (3, 0)], [(1, (0, 13), .inl (4, 0))], [], [(0, 0), (1180591620717411303424, 1180591620717411303424), (18, 18), (1, 1), (0, 2)], [(some (.inl (3, 0)), [(1, (0, 15), .inr (.inl (some 5))), (1, (0, 13), .inl (4, 0)), (5, (2, 0), .inl (4, 0))], [], [(0, 0), (1180591620717411303424, 1180591620717411303424), (18, 18), (1, 1), (0, 2), (1180591620717411303432, 1180591620717411303432)])], [(8, 18, 18)])
set_option maxRecDepth 200000 in
set_option maxHeartbeats 4000000 in
def T_X12_put_96 : List (tb_S × tb_l) := []
set_option maxRecDepth 200000 in
set_option maxHeartbeats 4000000 in
theorem m_X12_put_96 {l : Launch} : tb_Met l vwCl sa_Ts tb_Z0 yX12_put cX12_put 3 (some .boolean) 2 120 K_X12_put_96 := tb_method (by decide) [15] (t_X12_put [(8, 18, 18)] ) T_X12_put_96 [] 6000 (List.forall_mem_cons.mpr ⟨dX12_put_15, fun _ h => absurd h List.not_mem_nil⟩) (h_X12_put [(8, 18, 18)] 2 120 (by decide) (by decide)  ) (by decide) (by decide +kernel)
set_option maxRecDepth 200000 in
set_option maxHeartbeats 4000000 in
def K_X12_put_97 : tb_K := ([.inr (.inl (some 1)), .inl (2, 0), .inl (3, 0)], [(1, (0, 13), .inl (4, 0))], [], [(0, 0), (1180591620717411303424, 1180591620717411303424), (17, 17), (0, 0), (-1, 999)], [(some (.inl (3, 0)), [(1, (0, 13), .inl (4, 0))], [], [(0, 0), (1180591620717411303424, 1180591620717411303424), (17, 17), (0, 0), (-1, 999)])], [])
set_option maxRecDepth 200000 in
set_option maxHeartbeats 4000000 in
def T_X12_put_97 : List (tb_S × tb_l) := []
set_option maxRecDepth 200000 in
set_option maxHeartbeats 4000000 in
theorem m_X12_put_97 {l : Launch} : tb_Met l vwCl sa_Ts tb_Z0 yX12_put cX12_put 3 (some .boolean) 2 120 K_X12_put_97 := tb_method (by decide) [15] (t_X12_put [] ) T_X12_put_97 [] 6000 (List.forall_mem_cons.mpr ⟨dX12_put_15, fun _ h => absurd h List.not_mem_nil⟩) (h_X12_put [] 2 120 (by decide) (by decide)  ) (by decide) (by decide +kernel)
set_option maxRecDepth 200000 in
set_option maxHeartbeats 4000000 in
def K_X12_put_98 : tb_K := ([.inr (.inl (some 1)), .inl (2, 0), .inl (3, 0)], [(1, (0, 13), .inl (4, 0))], [], [(0, 0), (1180591620717411303424, 1180591620717411303424), (17, 17), (1, 1), (0, 1)], [(some (.inl (3, 0)), [(1, (0, 15), .inr (.inl (some 5))), (1, (0, 13), .inl (4, 0)), (5, (2, 0), .inl (4, 0))], [], [(0, 0), (1180591620717411303424, 1180591620717411303424), (17, 17), (1, 1), (0, 1), (1180591620717411303432, 1180591620717411303432)])], [(8, 17, 17)])
set_option maxRecDepth 200000 in
set_option maxHeartbeats 4000000 in
def T_X12_put_98 : List (tb_S × tb_l) := []
set_option maxRecDepth 200000 in
set_option maxHeartbeats 4000000 in
theorem m_X12_put_98 {l : Launch} : tb_Met l vwCl sa_Ts tb_Z0 yX12_put cX12_put 3 (some .boolean) 2 120 K_X12_put_98 := tb_method (by decide) [15] (t_X12_put [(8, 17, 17)] ) T_X12_put_98 [] 6000 (List.forall_mem_cons.mpr ⟨dX12_put_15, fun _ h => absurd h List.not_mem_nil⟩) (h_X12_put [(8, 17, 17)] 2 120 (by decide) (by decide)  ) (by decide) (by decide +kernel)
set_option maxRecDepth 200000 in
set_option maxHeartbeats 4000000 in
def K_X12_put_99 : tb_K := ([.inr (.inl (some 1)), .inl (2, 0), .inl (3, 0)], [(1, (0, 13), .inl (4, 0))], [], [(0, 0), (1180591620717411303424, 1180591620717411303424), (16, 16), (0, 0), (-1, 999)], [(some (.inl (3, 0)), [(1, (0, 13), .inl (4, 0))], [], [(0, 0), (1180591620717411303424, 1180591620717411303424), (16, 16), (0, 0), (-1, 999)])], [])
set_option maxRecDepth 200000 in
set_option maxHeartbeats 4000000 in
def T_X12_put_99 : List (tb_S × tb_l) := []
set_option maxRecDepth 200000 in
set_option maxHeartbeats 4000000 in
theorem m_X12_put_99 {l : Launch} : tb_Met l vwCl sa_Ts tb_Z0 yX12_put cX12_put 3 (some .boolean) 2 120 K_X12_put_99 := tb_method (by decide) [15] (t_X12_put [] ) T_X12_put_99 [] 6000 (List.forall_mem_cons.mpr ⟨dX12_put_15, fun _ h => absurd h List.not_mem_nil⟩) (h_X12_put [] 2 120 (by decide) (by decide)  ) (by decide) (by decide +kernel)
set_option maxRecDepth 200000 in
set_option maxHeartbeats 4000000 in
def K_X12_put_100 : tb_K := ([.inr (.inl (some 1)), .inl (2, 0), .inl (3, 0)], [(1, (0, 13), .inl (4, 0))], [], [(0, 0), (1180591620717411303424, 1180591620717411303424), (16, 16), (1, 1), (0, 0)], [(some (.inl (3, 0)), [(1, (0, 15), .inr (.inl (some 5))), (1, (0, 13), .inl (4, 0)), (5, (2, 0), .inl (4, 0))], [], [(0, 0), (1180591620717411303424, 1180591620717411303424), (16, 16), (1, 1), (0, 0), (1180591620717411303432, 1180591620717411303432)])], [(8, 16, 16)])
set_option maxRecDepth 200000 in
set_option maxHeartbeats 4000000 in
def T_X12_put_100 : List (tb_S × tb_l) := []
set_option maxRecDepth 200000 in
set_option maxHeartbeats 4000000 in
theorem m_X12_put_100 {l : Launch} : tb_Met l vwCl sa_Ts tb_Z0 yX12_put cX12_put 3 (some .boolean) 2 120 K_X12_put_100 := tb_method (by decide) [15] (t_X12_put [(8, 16, 16)] ) T_X12_put_100 [] 6000 (List.forall_mem_cons.mpr ⟨dX12_put_15, fun _ h => absurd h List.not_mem_nil⟩) (h_X12_put [(8, 16, 16)] 2 120 (by decide) (by decide)  ) (by decide) (by decide +kernel)
set_option maxRecDepth 200000 in
set_option maxHeartbeats 4000000 in
def K_X12_put_101 : tb_K := ([.inr (.inl (some 1)), .inl (2, 0), .inl (3, 0)], [(1, (0, 13), .inl (4, 0))], [], [(0, 0), (1180591620717411303424, 1180591620717411303424), (15, 15), (0, 0), (-1, 999)], [(some (.inl (3, 0)), [(1, (0, 13), .inl (4, 0))], [], [(0, 0), (1180591620717411303424, 1180591620717411303424), (15, 15), (0, 0), (-1, 999)])], [])
set_option maxRecDepth 200000 in
set_option maxHeartbeats 4000000 in
def T_X12_put_101 : List (tb_S × tb_l) := []
set_option maxRecDepth 200000 in
set_option maxHeartbeats 4000000 in
theorem m_X12_put_101 {l : Launch} : tb_Met l vwCl sa_Ts tb_Z0 yX12_put cX12_put 3 (some .boolean) 2 120 K_X12_put_101 := tb_method (by decide) [15] (t_X12_put [] ) T_X12_put_101 [] 6000 (List.forall_mem_cons.mpr ⟨dX12_put_15, fun _ h => absurd h List.not_mem_nil⟩) (h_X12_put [] 2 120 (by decide) (by decide)  ) (by decide) (by decide +kernel)
noncomputable def t_X12_readThing (mod : List (Nat × Nat × Nat)) (L4 : List tb_K) (L21 : List tb_K) (L35 : List tb_K) (L38 : List tb_K) (L53 : List tb_K) (L56 : List tb_K) (L77 : List tb_K) (L84 : List tb_K) (L95 : List tb_K) (L98 : List tb_K) : List (Nat × tb_op) := [(0, to_then 1 (to_aload 0 1) (to_then 2 (to_int (0) 1) (to_then 4 (to_int (6) 2) (to_cs tb_Z0 mod (tb_gV tb_Z0 12 3 0 0) L4)))), (7, to_if tr_ne tr_eq 12), (10, to_int (0) 1), (12, to_then 13 (to_aload 0 1) (to_get tb_Z0 [] 12 15)), (16, to_then 17 (to_int (0) 1) (to_ald tb_Z0 [] 0)), (18, to_istore 2 1 1), (19, tb_seq (tb_spl tb_Z0 1 []) (to_aload 0 1)), (20, to_then 21 (to_iload 1 1) (to_cs tb_Z0 mod (tb_gV tb_Z0 12 2 0 0) L21)), (24, to_if tr_eq tr_ne 62), (27, to_then 28 (to_aload 0 1) (to_then 29 (to_int (3) 1) (to_then 30 (to_iload 1 1) (to_bin tf_add)))), (31, to_then 32 (to_aload 0 1) (to_then 33 (to_int (1) 1) (to_then 35 (to_int (30) 2) (to_cs tb_Z0 mod (tb_gV tb_Z0 12 3 0 0) L35)))), (38, to_cs tb_Z0 mod (tb_gV tb_Z0 12 3 0 0) L38), (41, to_if tr_eq tr_ne 62), (44, to_then 45 (to_aload 0 1) (to_then 47 (to_int (9) 2) (to_then 48 (to_iload 1 1) (to_bin tf_add)))), (49, to_then 50 (to_aload 0 1) (to_then 51 (to_int (0) 1) (to_then 53 (to_int (20) 2) (to_cs tb_Z0 mod (tb_gV tb_Z0 12 3 0 0) L53)))), (56, to_cs tb_Z0 mod (tb_gV tb_Z0 12 3 0 0) L56), (59, to_if tr_ne tr_eq 64), (62, to_int (0) 1), (64, to_then 65 (to_aload 0 1) (to_get tb_Z0 [] 12 15)), (68, to_then 70 (to_int (15) 2) (to_then 71 (to_iload 1 1) (to_bin tf_add))), (72, to_then 73 (to_int (-1) 1) (to_iast tb_Z0 tb_RT0 mod [])), (74, to_then 75 (to_aload 0 1) (to_then 77 (to_int (16) 2) (to_cs tb_Z0 mod (tb_gV tb_Z0 12 2 0 0) L77))), (80, to_if tr_eq tr_ne 106), (83, to_then 84 (to_aload 0 1) (to_cs tb_Z0 mod (tb_gV tb_Z0 12 1 0 0) L84)), (87, to_then 88 (to_aload 0 1) (to_then 90 (to_int (15) 2) (to_then 91 (to_iload 1 1) (to_bin tf_add)))), (92, to_then 93 (to_aload 0 1) (to_then 94 (to_int (0) 1) (to_then 95 (to_iload 1 1) (to_cs tb_Z0 mod (tb_gV tb_Z0 12 3 0 0) L95)))), (98, to_cs tb_Z0 mod (tb_gV tb_Z0 12 3 0 0) L98), (101, to_if tr_ne tr_eq 106), (104, to_int (0) 1), (106, to_then 107 (to_aload 0 1) (to_get tb_Z0 [] 12 15)), (110, to_then 111 (to_int (0) 1) (to_dup2)), (112, to_ald tb_Z0 [] 0), (113, to_then 114 (to_int (1) 1) (to_bin tf_add)), (115, to_iast tb_Z0 tb_RT0 mod []), (116, to_int (1) 1)]
set_option maxRecDepth 200000 in
set_option maxHeartbeats 4000000 in
theorem h_X12_readThing {l : Launch} (mod : List (Nat × Nat × Nat)) (fr lc : Nat) (hfr : 1 + 1 ≤ fr) (hlc : 8 + (2 + 11) + 20 ≤ lc) (L4 : List tb_K) (L21 : List tb_K) (L35 : List tb_K) (L38 : List tb_K) (L53 : List tb_K) (L56 : List tb_K) (L77 : List tb_K) (L84 : List tb_K) (L95 : List tb_K) (L98 : List tb_K) (h4 : tb_ML l yX12_readFirst cX12_readFirst 3 (some .boolean) fr lc 3 L4) (h21 : tb_ML l yX12_readNew cX12_readNew 2 (some .boolean) fr lc 2 L21) (h35 : tb_ML l yX12_readNumber cX12_readNumber 3 (some .boolean) fr lc 3 L35) (h38 : tb_ML l yX12_put cX12_put 3 (some .boolean) fr lc 3 L38) (h53 : tb_ML l yX12_readNumber cX12_readNumber 3 (some .boolean) fr lc 3 L53) (h56 : tb_ML l yX12_put cX12_put 3 (some .boolean) fr lc 3 L56) (h77 : tb_ML l yX12_isWord cX12_isWord 2 (some .boolean) fr lc 2 L77) (h84 : tb_ML l yX12_go cX12_go 5 none fr lc 1 L84) (h95 : tb_ML l yX12_readOne cX12_readOne 3 (some .boolean) fr lc 3 L95) (h98 : tb_ML l yX12_put cX12_put 3 (some .boolean) fr lc 3 L98) : ∀ (p : Program) (e : Env) (s : State) (m : MethodId) (args : Array Value) (below : List Frame) (meth : Method) (c : Code) (Q : State → Prop) (D : va_G) (dA : Nat → ClassId) (A : Nat → Prop) (n0 : Nat) (V0 : sa_V) (E : tb_E), sa_C p s m args c D dA A 2 vwCl sa_Ts cX12_readThing yX12_readThing.cls → sa_U D vwCl dA s → tb_Ou A s s.heap → tb_z E = tb_Z0 → tb_mod E = mod → ∀ q ∈ t_X12_readThing mod L4 L21 L35 L38 L53 L56 L77 L84 L95 L98, tb_snd p l e { frames := fr, cells := 0, slots := 0, locals := lc } s m args below meth c Q D dA A 2 vwCl n0 V0 E q.1 q.2 := fun p e s m args below meth c Q D dA A n0 V0 E C0 hU hO hz hm => List.forall_mem_cons.mpr ⟨tn_then (tn_aload_n C0 dX12_readThing_0) (tn_then (tn_iconst C0 dX12_readThing_1) (tn_then (tn_bipush C0 dX12_readThing_2 (by decide)) (tn_cV C0 hz hm hU hO h4 tv_1463 dX12_readThing_4 tv_1460 tv_1462 tq_X12_readFirst tv_13 rfl yb_X12_readFirst (Nat.le_refl _) (Nat.le_refl _)))), List.forall_mem_cons.mpr ⟨tx_if_ne C0 dX12_readThing_7 (by decide), List.forall_mem_cons.mpr ⟨tn_iconst C0 dX12_readThing_10, List.forall_mem_cons.mpr ⟨tn_then (tn_aload_n C0 dX12_readThing_12) (tn_get C0 hz hcv0 kcX12 dX12_readThing_13 (by decide) tv_1276), List.forall_mem_cons.mpr ⟨tn_then (tn_iconst C0 dX12_readThing_16) (tn_iald C0 hz hcv0 dX12_readThing_17), List.forall_mem_cons.mpr ⟨tn_istore_n C0 dX12_readThing_18, List.forall_mem_cons.mpr ⟨tn_seq (tn_spl hz hcv0) (tn_aload_n C0 dX12_readThing_19), List.forall_mem_cons.mpr ⟨tn_then (tn_iload_n C0 dX12_readThing_20) (tn_cV C0 hz hm hU hO h21 tv_1471 dX12_readThing_21 tv_1468 tv_1470 tq_X12_readNew tv_13 rfl yb_X12_readNew (Nat.le_refl _) (Nat.le_refl _)), List.forall_mem_cons.mpr ⟨tx_if_eq C0 dX12_readThing_24 (by decide), List.forall_mem_cons.mpr ⟨tn_then (tn_aload_n C0 dX12_readThing_27) (tn_then (tn_iconst C0 dX12_readThing_28) (tn_then (tn_iload_n C0 dX12_readThing_29) (tn_iadd C0 tf_add_ok dX12_readThing_30))), List.forall_mem_cons.mpr ⟨tn_then (tn_aload_n C0 dX12_readThing_31) (tn_then (tn_iconst C0 dX12_readThing_32) (tn_then (tn_bipush C0 dX12_readThing_33 (by decide)) (tn_cV C0 hz hm hU hO h35 tv_1482 dX12_readThing_35 tv_1479 tv_1481 tq_X12_readNumber tv_13 rfl yb_X12_readNumber (Nat.le_refl _) (Nat.le_refl _)))), List.forall_mem_cons.mpr ⟨tn_cV C0 hz hm hU hO h38 tv_1489 dX12_readThing_38 tv_1486 tv_1488 tq_X12_put tv_13 rfl yb_X12_put (Nat.le_refl _) (Nat.le_refl _), List.forall_mem_cons.mpr ⟨tx_if_eq C0 dX12_readThing_41 (by decide), List.forall_mem_cons.mpr ⟨tn_then (tn_aload_n C0 dX12_readThing_44) (tn_then (tn_bipush C0 dX12_readThing_45 (by decide)) (tn_then (tn_iload_n C0 dX12_readThing_47) (tn_iadd C0 tf_add_ok dX12_readThing_48))), List.forall_mem_cons.mpr ⟨tn_then (tn_aload_n C0 dX12_readThing_49) (tn_then (tn_iconst C0 dX12_readThing_50) (tn_then (tn_bipush C0 dX12_readThing_51 (by decide)) (tn_cV C0 hz hm hU hO h53 tv_1482 dX12_readThing_53 tv_1479 tv_1481 tq_X12_readNumber tv_13 rfl yb_X12_readNumber (Nat.le_refl _) (Nat.le_refl _)))), List.forall_mem_cons.mpr ⟨tn_cV C0 hz hm hU hO h56 tv_1489 dX12_readThing_56 tv_1486 tv_1488 tq_X12_put tv_13 rfl yb_X12_put (Nat.le_refl _) (Nat.le_refl _), List.forall_mem_cons.mpr ⟨tx_if_ne C0 dX12_readThing_59 (by decide), List.forall_mem_cons.mpr ⟨tn_iconst C0 dX12_readThing_62, List.forall_mem_cons.mpr ⟨tn_then (tn_aload_n C0 dX12_readThing_64) (tn_get C0 hz hcv0 kcX12 dX12_readThing_65 (by decide) tv_1276), List.forall_mem_cons.mpr ⟨tn_then (tn_bipush C0 dX12_readThing_68 (by decide)) (tn_then (tn_iload_n C0 dX12_readThing_70) (tn_iadd C0 tf_add_ok dX12_readThing_71)), List.forall_mem_cons.mpr ⟨tn_then (tn_iconst C0 dX12_readThing_72) (tn_iast C0 hz hcv0 hrt0 hm dX12_readThing_73), List.forall_mem_cons.mpr ⟨tn_then (tn_aload_n C0 dX12_readThing_74) (tn_then (tn_bipush C0 dX12_readThing_75 (by decide)) (tn_cV C0 hz hm hU hO h77 tv_1449 dX12_readThing_77 tv_1446 tv_1448 tq_X12_isWord tv_13 rfl yb_X12_isWord (Nat.le_refl _) (Nat.le_refl _))), List.forall_mem_cons.mpr ⟨tx_if_eq C0 dX12_readThing_80 (by decide), List.forall_mem_cons.mpr ⟨tn_then (tn_aload_n C0 dX12_readThing_83) (tn_cV C0 hz hm hU hO h84 tv_1429 dX12_readThing_84 tv_1426 tv_1428 tq_X12_go tv_13 rfl yb_X12_go (Nat.le_refl _) (Nat.le_refl _)), List.forall_mem_cons.mpr ⟨tn_then (tn_aload_n C0 dX12_readThing_87) (tn_then (tn_bipush C0 dX12_readThing_88 (by decide)) (tn_then (tn_iload_n C0 dX12_readThing_90) (tn_iadd C0 tf_add_ok dX12_readThing_91))), List.forall_mem_cons.mpr ⟨tn_then (tn_aload_n C0 dX12_readThing_92) (tn_then (tn_iconst C0 dX12_readThing_93) (tn_then (tn_iload_n C0 dX12_readThing_94) (tn_cV C0 hz hm hU hO h95 tv_1493 dX12_readThing_95 tv_1490 tv_1492 tq_X12_readOne tv_13 rfl yb_X12_readOne (Nat.le_refl _) (Nat.le_refl _)))), List.forall_mem_cons.mpr ⟨tn_cV C0 hz hm hU hO h98 tv_1489 dX12_readThing_98 tv_1486 tv_1488 tq_X12_put tv_13 rfl yb_X12_put (Nat.le_refl _) (Nat.le_refl _), List.forall_mem_cons.mpr ⟨tx_if_ne C0 dX12_readThing_101 (by decide), List.forall_mem_cons.mpr ⟨tn_iconst C0 dX12_readThing_104, List.forall_mem_cons.mpr ⟨tn_then (tn_aload_n C0 dX12_readThing_106) (tn_get C0 hz hcv0 kcX12 dX12_readThing_107 (by decide) tv_1276), List.forall_mem_cons.mpr ⟨tn_then (tn_iconst C0 dX12_readThing_110) (tn_dup2 C0 dX12_readThing_111), List.forall_mem_cons.mpr ⟨tn_iald C0 hz hcv0 dX12_readThing_112, List.forall_mem_cons.mpr ⟨tn_then (tn_iconst C0 dX12_readThing_113) (tn_iadd C0 tf_add_ok dX12_readThing_114), List.forall_mem_cons.mpr ⟨tn_iast C0 hz hcv0 hrt0 hm dX12_readThing_115, List.forall_mem_cons.mpr ⟨tn_iconst C0 dX12_readThing_116, fun _ h => absurd h List.not_mem_nil⟩⟩⟩⟩⟩⟩⟩⟩⟩⟩⟩⟩⟩⟩⟩⟩⟩⟩⟩⟩⟩⟩⟩⟩⟩⟩⟩⟩⟩⟩⟩⟩⟩⟩⟩
set_option maxRecDepth 200000 in
set_option maxHeartbeats 4000000 in
def K_X12_readThing_1 : tb_K := ([.inr (.inl (some 1))], [(1, (0, 15), .inr (.inl (some 2))), (2, (0, 0), .inl (3, 0)), (2, (0, 1), .inl (4, 0)), (2, (0, 2), .inl (5, 0))], [], [(0, 0), (1180591620717411303424, 1180591620717411303424), (1180591620717411303432, 1180591620717411303432), (0, 6), (0, 8), (0, 16)], [(some (.inl (6, 0)), [(1, (0, 15), .inr (.inl (some 2))), (2, (0, 0), .inl (3, 0)), (2, (0, 1), .inl (4, 0)), (2, (0, 2), .inl (5, 0))], [], [(0, 0), (1180591620717411303424, 1180591620717411303424), (1180591620717411303432, 1180591620717411303432), (0, 6), (0, 8), (0, 16), (0, 0)]), (some (.inl (6, 0)), [(1, (0, 15), .inr (.inl (some 2))), (2, (0, 0), .inl (3, 1)), (2, (0, 1), .inl (4, 0)), (2, (0, 2), .inl (5, 0))], [], [(0, 0), (1180591620717411303424, 1180591620717411303424), (1180591620717411303432, 1180591620717411303432), (0, 5), (0, 8), (0, 16), (1, 1)])], [(0, 5, 13), (8, 0, 0), (8, 3, 20), (79, 0, 5)])
set_option maxRecDepth 200000 in
set_option maxHeartbeats 4000000 in
def T_X12_readThing_1 : List (tb_S × tb_l) := []
set_option maxRecDepth 200000 in
set_option maxHeartbeats 4000000 in
theorem m_X12_readThing_1 {l : Launch} : tb_Met l vwCl sa_Ts tb_Z0 yX12_readThing cX12_readThing 2 (some .boolean) 6 211 K_X12_readThing_1 := tb_method (by decide) [11, 63, 105, 117] (t_X12_readThing [(0, 5, 13), (8, 0, 0), (8, 3, 20), (79, 0, 5)] [K_X12_readFirst_3] [K_X12_readNew_9, K_X12_readNew_10, K_X12_readNew_11, K_X12_readNew_12, K_X12_readNew_13, K_X12_readNew_14] [K_X12_readNumber_5] [K_X12_put_68, K_X12_put_70, K_X12_put_72, K_X12_put_74, K_X12_put_76, K_X12_put_78, K_X12_put_67, K_X12_put_69, K_X12_put_71, K_X12_put_73, K_X12_put_75, K_X12_put_77] [K_X12_readNumber_6] [K_X12_put_80, K_X12_put_82, K_X12_put_84, K_X12_put_86, K_X12_put_88, K_X12_put_90, K_X12_put_79, K_X12_put_81, K_X12_put_83, K_X12_put_85, K_X12_put_87, K_X12_put_89] [K_X12_isWord_1] [K_X12_go_1] [K_X12_readOne_3, K_X12_readOne_4, K_X12_readOne_5, K_X12_readOne_6, K_X12_readOne_7, K_X12_readOne_8] [K_X12_put_100, K_X12_put_98, K_X12_put_94, K_X12_put_96, K_X12_put_92, K_X12_put_91, K_X12_put_93, K_X12_put_95, K_X12_put_97, K_X12_put_99, K_X12_put_101]) T_X12_readThing_1 [] 6000 (List.forall_mem_cons.mpr ⟨dX12_readThing_11, List.forall_mem_cons.mpr ⟨dX12_readThing_63, List.forall_mem_cons.mpr ⟨dX12_readThing_105, List.forall_mem_cons.mpr ⟨dX12_readThing_117, fun _ h => absurd h List.not_mem_nil⟩⟩⟩⟩) (h_X12_readThing [(0, 5, 13), (8, 0, 0), (8, 3, 20), (79, 0, 5)] 6 211 (by decide) (by decide) [K_X12_readFirst_3] [K_X12_readNew_9, K_X12_readNew_10, K_X12_readNew_11, K_X12_readNew_12, K_X12_readNew_13, K_X12_readNew_14] [K_X12_readNumber_5] [K_X12_put_68, K_X12_put_70, K_X12_put_72, K_X12_put_74, K_X12_put_76, K_X12_put_78, K_X12_put_67, K_X12_put_69, K_X12_put_71, K_X12_put_73, K_X12_put_75, K_X12_put_77] [K_X12_readNumber_6] [K_X12_put_80, K_X12_put_82, K_X12_put_84, K_X12_put_86, K_X12_put_88, K_X12_put_90, K_X12_put_79, K_X12_put_81, K_X12_put_83, K_X12_put_85, K_X12_put_87, K_X12_put_89] [K_X12_isWord_1] [K_X12_go_1] [K_X12_readOne_3, K_X12_readOne_4, K_X12_readOne_5, K_X12_readOne_6, K_X12_readOne_7, K_X12_readOne_8] [K_X12_put_100, K_X12_put_98, K_X12_put_94, K_X12_put_96, K_X12_put_92, K_X12_put_91, K_X12_put_93, K_X12_put_95, K_X12_put_97, K_X12_put_99, K_X12_put_101] ⟨4, 165, List.forall_mem_cons.mpr ⟨m_X12_readFirst_3, fun _ h => absurd h List.not_mem_nil⟩, by decide, by decide, by decide⟩ ⟨5, 189, List.forall_mem_cons.mpr ⟨m_X12_readNew_9, List.forall_mem_cons.mpr ⟨m_X12_readNew_10, List.forall_mem_cons.mpr ⟨m_X12_readNew_11, List.forall_mem_cons.mpr ⟨m_X12_readNew_12, List.forall_mem_cons.mpr ⟨m_X12_readNew_13, List.forall_mem_cons.mpr ⟨m_X12_readNew_14, fun _ h => absurd h List.not_mem_nil⟩⟩⟩⟩⟩⟩, by decide, by decide, by decide⟩ ⟨4, 165, List.forall_mem_cons.mpr ⟨m_X12_readNumber_5, fun _ h => absurd h List.not_mem_nil⟩, by decide, by decide, by decide⟩ ⟨2, 120, List.forall_mem_cons.mpr ⟨m_X12_put_68, List.forall_mem_cons.mpr ⟨m_X12_put_70, List.forall_mem_cons.mpr ⟨m_X12_put_72, List.forall_mem_cons.mpr ⟨m_X12_put_74, List.forall_mem_cons.mpr ⟨m_X12_put_76, List.forall_mem_cons.mpr ⟨m_X12_put_78, List.forall_mem_cons.mpr ⟨m_X12_put_67, List.forall_mem_cons.mpr ⟨m_X12_put_69, List.forall_mem_cons.mpr ⟨m_X12_put_71, List.forall_mem_cons.mpr ⟨m_X12_put_73, List.forall_mem_cons.mpr ⟨m_X12_put_75, List.forall_mem_cons.mpr ⟨m_X12_put_77, fun _ h => absurd h List.not_mem_nil⟩⟩⟩⟩⟩⟩⟩⟩⟩⟩⟩⟩, by decide, by decide, by decide⟩ ⟨4, 165, List.forall_mem_cons.mpr ⟨m_X12_readNumber_6, fun _ h => absurd h List.not_mem_nil⟩, by decide, by decide, by decide⟩ ⟨2, 120, List.forall_mem_cons.mpr ⟨m_X12_put_80, List.forall_mem_cons.mpr ⟨m_X12_put_82, List.forall_mem_cons.mpr ⟨m_X12_put_84, List.forall_mem_cons.mpr ⟨m_X12_put_86, List.forall_mem_cons.mpr ⟨m_X12_put_88, List.forall_mem_cons.mpr ⟨m_X12_put_90, List.forall_mem_cons.mpr ⟨m_X12_put_79, List.forall_mem_cons.mpr ⟨m_X12_put_81, List.forall_mem_cons.mpr ⟨m_X12_put_83, List.forall_mem_cons.mpr ⟨m_X12_put_85, List.forall_mem_cons.mpr ⟨m_X12_put_87, List.forall_mem_cons.mpr ⟨m_X12_put_89, fun _ h => absurd h List.not_mem_nil⟩⟩⟩⟩⟩⟩⟩⟩⟩⟩⟩⟩, by decide, by decide, by decide⟩ ⟨4, 168, List.forall_mem_cons.mpr ⟨m_X12_isWord_1, fun _ h => absurd h List.not_mem_nil⟩, by decide, by decide, by decide⟩ ⟨3, 141, List.forall_mem_cons.mpr ⟨m_X12_go_1, fun _ h => absurd h List.not_mem_nil⟩, by decide, by decide, by decide⟩ ⟨5, 189, List.forall_mem_cons.mpr ⟨m_X12_readOne_3, List.forall_mem_cons.mpr ⟨m_X12_readOne_4, List.forall_mem_cons.mpr ⟨m_X12_readOne_5, List.forall_mem_cons.mpr ⟨m_X12_readOne_6, List.forall_mem_cons.mpr ⟨m_X12_readOne_7, List.forall_mem_cons.mpr ⟨m_X12_readOne_8, fun _ h => absurd h List.not_mem_nil⟩⟩⟩⟩⟩⟩, by decide, by decide, by decide⟩ ⟨2, 120, List.forall_mem_cons.mpr ⟨m_X12_put_100, List.forall_mem_cons.mpr ⟨m_X12_put_98, List.forall_mem_cons.mpr ⟨m_X12_put_94, List.forall_mem_cons.mpr ⟨m_X12_put_96, List.forall_mem_cons.mpr ⟨m_X12_put_92, List.forall_mem_cons.mpr ⟨m_X12_put_91, List.forall_mem_cons.mpr ⟨m_X12_put_93, List.forall_mem_cons.mpr ⟨m_X12_put_95, List.forall_mem_cons.mpr ⟨m_X12_put_97, List.forall_mem_cons.mpr ⟨m_X12_put_99, List.forall_mem_cons.mpr ⟨m_X12_put_101, fun _ h => absurd h List.not_mem_nil⟩⟩⟩⟩⟩⟩⟩⟩⟩⟩⟩, by decide, by decide, by decide⟩) (by decide) (by decide +kernel)
