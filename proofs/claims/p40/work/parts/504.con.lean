set_option maxRecDepth 200000 in
set_option maxHeartbeats 4000000 in
def K_X12_readNumber_4 : tb_K := ([.inr (.inl (some 1)), .inl (2, 0), .inl (3, 0)], [], [], [(0, 0), (1180591620717411303492, 1180591620717411303492), (1, 1), (15, 15)], [(some (.inl (4, 0)), [(1, (0, 13), .inl (5, 0))], [], [(0, 0), (1180591620717411303492, 1180591620717411303492), (1, 1), (15, 15), (0, 0), (-1, 999)]), (some (.inl (4, 0)), [(1, (0, 13), .inl (5, 0))], [], [(0, 0), (1180591620717411303492, 1180591620717411303492), (1, 1), (15, 15), (1, 1), (1, 15)])], [(68, 5, 13)])
set_option maxRecDepth 200000 in
set_option maxHeartbeats 4000000 in
def T_X12_readNumber_4 : List (tb_S × tb_l) := []
set_option maxRecDepth 200000 in
set_option maxHeartbeats 4000000 in
theorem m_X12_readNumber_4 {l : Launch} : tb_Met l vwCl sa_Ts tb_Z0 yX12_readNumber cX12_readNumber 3 (some .boolean) 4 165 K_X12_readNumber_4 := tb_method (by decide) [13, 31, 45] (t_X12_readNumber [(68, 5, 13)] [K_X12_bad_1] [K_X12_isIn_4] [K_X12_bad_4] [K_X12_go_1]) T_X12_readNumber_4 [] 6000 (List.forall_mem_cons.mpr ⟨dX12_readNumber_13, List.forall_mem_cons.mpr ⟨dX12_readNumber_31, List.forall_mem_cons.mpr ⟨dX12_readNumber_45, fun _ h => absurd h List.not_mem_nil⟩⟩⟩) (h_X12_readNumber [(68, 5, 13)] 4 165 (by decide) (by decide) [K_X12_bad_1] [K_X12_isIn_4] [K_X12_bad_4] [K_X12_go_1] ⟨2, 120, List.forall_mem_cons.mpr ⟨m_X12_bad_1, fun _ h => absurd h List.not_mem_nil⟩, by decide, by decide, by decide⟩ ⟨2, 120, List.forall_mem_cons.mpr ⟨m_X12_isIn_4, fun _ h => absurd h List.not_mem_nil⟩, by decide, by decide, by decide⟩ ⟨2, 120, List.forall_mem_cons.mpr ⟨m_X12_bad_4, fun _ h => absurd h List.not_mem_nil⟩, by decide, by decide, by decide⟩ ⟨3, 141, List.forall_mem_cons.mpr ⟨m_X12_go_1, fun _ h => absurd h List.not_mem_nil⟩, by decide, by decide, by decide⟩) (by decide) (by decide +kernel)
set_option maxRecDepth 200000 in
set_option maxHeartbeats 4000000 in
def K_X12_put_51 : tb_K := ([.inr (.inl (some 1)), .inl (2, 0), .inl (3, 0)], [(1, (0, 13), .inl (4, 0))], [], [(0, 0), (1180591620717411303492, 1180591620717411303492), (52, 52), (0, 0), (-1, 999)], [(some (.inl (3, 0)), [(1, (0, 15), .inr (.inl (some 5))), (1, (0, 13), .inl (4, 0)), (5, (2, 0), .inl (6, 0))], [], [(0, 0), (1180591620717411303492, 1180591620717411303492), (52, 52), (0, 0), (-1, 999), (1180591620717411303495, 1180591620717411303495), (-2147483648, 2147483647)])], [])
set_option maxRecDepth 200000 in
set_option maxHeartbeats 4000000 in
def T_X12_put_51 : List (tb_S × tb_l) := []
set_option maxRecDepth 200000 in
set_option maxHeartbeats 4000000 in
theorem m_X12_put_51 {l : Launch} : tb_Met l vwCl sa_Ts tb_Z0 yX12_put cX12_put 3 (some .boolean) 2 120 K_X12_put_51 := tb_method (by decide) [15] (t_X12_put [] ) T_X12_put_51 [] 6000 (List.forall_mem_cons.mpr ⟨dX12_put_15, fun _ h => absurd h List.not_mem_nil⟩) (h_X12_put [] 2 120 (by decide) (by decide)  ) (by decide) (by decide +kernel)
set_option maxRecDepth 200000 in
set_option maxHeartbeats 4000000 in
def K_X12_put_52 : tb_K := ([.inr (.inl (some 1)), .inl (2, 0), .inl (3, 0)], [(1, (0, 13), .inl (4, 0))], [], [(0, 0), (1180591620717411303492, 1180591620717411303492), (52, 52), (1, 1), (1, 15)], [(some (.inl (3, 0)), [(1, (0, 15), .inr (.inl (some 5))), (1, (0, 13), .inl (4, 0)), (5, (2, 0), .inl (4, 0))], [], [(0, 0), (1180591620717411303492, 1180591620717411303492), (52, 52), (1, 1), (1, 15), (1180591620717411303495, 1180591620717411303495)])], [(71, 52, 52)])
set_option maxRecDepth 200000 in
set_option maxHeartbeats 4000000 in
def T_X12_put_52 : List (tb_S × tb_l) := []
set_option maxRecDepth 200000 in
set_option maxHeartbeats 4000000 in
theorem m_X12_put_52 {l : Launch} : tb_Met l vwCl sa_Ts tb_Z0 yX12_put cX12_put 3 (some .boolean) 2 120 K_X12_put_52 := tb_method (by decide) [15] (t_X12_put [(71, 52, 52)] ) T_X12_put_52 [] 6000 (List.forall_mem_cons.mpr ⟨dX12_put_15, fun _ h => absurd h List.not_mem_nil⟩) (h_X12_put [(71, 52, 52)] 2 120 (by decide) (by decide)  ) (by decide) (by decide +kernel)
set_option maxRecDepth 200000 in
set_option maxHeartbeats 4000000 in
def K_X12_put_53 : tb_K := ([.inr (.inl (some 1)), .inl (2, 0), .inl (3, 0)], [(1, (0, 13), .inl (4, 0))], [], [(0, 0), (1180591620717411303492, 1180591620717411303492), (51, 51), (0, 0), (-1, 999)], [(some (.inl (3, 0)), [(1, (0, 15), .inr (.inl (some 5))), (1, (0, 13), .inl (4, 0)), (5, (2, 0), .inl (6, 0))], [], [(0, 0), (1180591620717411303492, 1180591620717411303492), (51, 51), (0, 0), (-1, 999), (1180591620717411303495, 1180591620717411303495), (-2147483648, 2147483647)])], [])
set_option maxRecDepth 200000 in
set_option maxHeartbeats 4000000 in
def T_X12_put_53 : List (tb_S × tb_l) := []
set_option maxRecDepth 200000 in
set_option maxHeartbeats 4000000 in
theorem m_X12_put_53 {l : Launch} : tb_Met l vwCl sa_Ts tb_Z0 yX12_put cX12_put 3 (some .boolean) 2 120 K_X12_put_53 := tb_method (by decide) [15] (t_X12_put [] ) T_X12_put_53 [] 6000 (List.forall_mem_cons.mpr ⟨dX12_put_15, fun _ h => absurd h List.not_mem_nil⟩) (h_X12_put [] 2 120 (by decide) (by decide)  ) (by decide) (by decide +kernel)
set_option maxRecDepth 200000 in
set_option maxHeartbeats 4000000 in
def K_X12_put_54 : tb_K := ([.inr (.inl (some 1)), .inl (2, 0), .inl (3, 0)], [(1, (0, 13), .inl (4, 0))], [], [(0, 0), (1180591620717411303492, 1180591620717411303492), (51, 51), (1, 1), (1, 15)], [(some (.inl (3, 0)), [(1, (0, 15), .inr (.inl (some 5))), (1, (0, 13), .inl (4, 0)), (5, (2, 0), .inl (4, 0))], [], [(0, 0), (1180591620717411303492, 1180591620717411303492), (51, 51), (1, 1), (1, 15), (1180591620717411303495, 1180591620717411303495)])], [(71, 51, 51)])
set_option maxRecDepth 200000 in
set_option maxHeartbeats 4000000 in
def T_X12_put_54 : List (tb_S × tb_l) := []
set_option maxRecDepth 200000 in
set_option maxHeartbeats 4000000 in
theorem m_X12_put_54 {l : Launch} : tb_Met l vwCl sa_Ts tb_Z0 yX12_put cX12_put 3 (some .boolean) 2 120 K_X12_put_54 := tb_method (by decide) [15] (t_X12_put [(71, 51, 51)] ) T_X12_put_54 [] 6000 (List.forall_mem_cons.mpr ⟨dX12_put_15, fun _ h => absurd h List.not_mem_nil⟩) (h_X12_put [(71, 51, 51)] 2 120 (by decide) (by decide)  ) (by decide) (by decide +kernel)
set_option maxRecDepth 200000 in
set_option maxHeartbeats 4000000 in
def K_X12_put_55 : tb_K := ([.inr (.inl (some 1)), .inl (2, 0), .inl (3, 0)], [(1, (0, 13), .inl (4, 0))], [], [(0, 0), (1180591620717411303492, 1180591620717411303492), (50, 50), (0, 0), (-1, 999)], [(some (.inl (3, 0)), [(1, (0, 15), .inr (.inl (some 5))), (1, (0, 13), .inl (4, 0)), (5, (2, 0), .inl (6, 0))], [], [(0, 0), (1180591620717411303492, 1180591620717411303492), (50, 50), (0, 0), (-1, 999), (1180591620717411303495, 1180591620717411303495), (-2147483648, 2147483647)])], [])
set_option maxRecDepth 200000 in
set_option maxHeartbeats 4000000 in
def T_X12_put_55 : List (tb_S × tb_l) := []
set_option maxRecDepth 200000 in
set_option maxHeartbeats 4000000 in
theorem m_X12_put_55 {l : Launch} : tb_Met l vwCl sa_Ts tb_Z0 yX12_put cX12_put 3 (some .boolean) 2 120 K_X12_put_55 := tb_method (by decide) [15] (t_X12_put [] ) T_X12_put_55 [] 6000 (List.forall_mem_cons.mpr ⟨dX12_put_15, fun _ h => absurd h List.not_mem_nil⟩) (h_X12_put [] 2 120 (by decide) (by decide)  ) (by decide) (by decide +kernel)
set_option maxRecDepth 200000 in
set_option maxHeartbeats 4000000 in
def K_X12_put_56 : tb_K := ([.inr (.inl (some 1)), .inl (2, 0), .inl (3, 0)], [(1, (0, 13), .inl (4, 0))], [], [(0, 0), (1180591620717411303492, 1180591620717411303492), (50, 50), (1, 1), (1, 15)], [(some (.inl (3, 0)), [(1, (0, 15), .inr (.inl (some 5))), (1, (0, 13), .inl (4, 0)), (5, (2, 0), .inl (4, 0))], [], [(0, 0), (1180591620717411303492, 1180591620717411303492), (50, 50), (1, 1), (1, 15), (1180591620717411303495, 1180591620717411303495)])], [(71, 50, 50)])
set_option maxRecDepth 200000 in
set_option maxHeartbeats 4000000 in
def T_X12_put_56 : List (tb_S × tb_l) := []
set_option maxRecDepth 200000 in
set_option maxHeartbeats 4000000 in
theorem m_X12_put_56 {l : Launch} : tb_Met l vwCl sa_Ts tb_Z0 yX12_put cX12_put 3 (some .boolean) 2 120 K_X12_put_56 := tb_method (by decide) [15] (t_X12_put [(71, 50, 50)] ) T_X12_put_56 [] 6000 (List.forall_mem_cons.mpr ⟨dX12_put_15, fun _ h => absurd h List.not_mem_nil⟩) (h_X12_put [(71, 50, 50)] 2 120 (by decide) (by decide)  ) (by decide) (by decide +kernel)
set_option maxRecDepth 200000 in
set_option maxHeartbeats 4000000 in
def K_X12_put_57 : tb_K := ([.inr (.inl (some 1)), .inl (2, 0), .inl (3, 0)], [(1, (0, 13), .inl (4, 0))], [], [(0, 0), (1180591620717411303492, 1180591620717411303492), (49, 49), (0, 0), (-1, 999)], [(some (.inl (3, 0)), [(1, (0, 15), .inr (.inl (some 5))), (1, (0, 13), .inl (4, 0)), (5, (2, 0), .inl (6, 0))], [], [(0, 0), (1180591620717411303492, 1180591620717411303492), (49, 49), (0, 0), (-1, 999), (1180591620717411303495, 1180591620717411303495), (-2147483648, 2147483647)])], [])
set_option maxRecDepth 200000 in
set_option maxHeartbeats 4000000 in
def T_X12_put_57 : List (tb_S × tb_l) := []
set_option maxRecDepth 200000 in
set_option maxHeartbeats 4000000 in
theorem m_X12_put_57 {l : Launch} : tb_Met l vwCl sa_Ts tb_Z0 yX12_put cX12_put 3 (some .boolean) 2 120 K_X12_put_57 := tb_method (by decide) [15] (t_X12_put [] ) T_X12_put_57 [] 6000 (List.forall_mem_cons.mpr ⟨dX12_put_15, fun _ h => absurd h List.not_mem_nil⟩) (h_X12_put [] 2 120 (by decide) (by decide)  ) (by decide) (by decide +kernel)
set_option maxRecDepth 200000 in
set_option maxHeartbeats 4000000 in
def K_X12_put_58 : tb_K := ([.inr (.inl (some 1)), .inl (2, 0), .inl (3, 0)], [(1, (0, 13), .inl (4, 0))], [], [(0, 0), (1180591620717411303492, 1180591620717411303492), (49, 49), (1, 1), (1, 15)], [(some (.inl (3, 0)), [(1, (0, 15), .inr (.inl (some 5))), (1, (0, 13), .inl (4, 0)), (5, (2, 0), .inl (4, 0))], [], [(0, 0), (1180591620717411303492, 1180591620717411303492), (49, 49), (1, 1), (1, 15), (1180591620717411303495, 1180591620717411303495)])], [(71, 49, 49)])
set_option maxRecDepth 200000 in
set_option maxHeartbeats 4000000 in
def T_X12_put_58 : List (tb_S × tb_l) := []
set_option maxRecDepth 200000 in
set_option maxHeartbeats 4000000 in
theorem m_X12_put_58 {l : Launch} : tb_Met l vwCl sa_Ts tb_Z0 yX12_put cX12_put 3 (some .boolean) 2 120 K_X12_put_58 := tb_method (by decide) [15] (t_X12_put [(71, 49, 49)] ) T_X12_put_58 [] 6000 (List.forall_mem_cons.mpr ⟨dX12_put_15, fun _ h => absurd h List.not_mem_nil⟩) (h_X12_put [(71, 49, 49)] 2 120 (by decide) (by decide)  ) (by decide) (by decide +kernel)
set_option maxRecDepth 200000 in
set_option maxHeartbeats 4000000 in
def K_X12_put_59 : tb_K := ([.inr (.inl (some 1)), .inl (2, 0), .inl (3, 0)], [(1, (0, 13), .inl (4, 0))], [], [(0, 0), (1180591620717411303492, 1180591620717411303492), (48, 48), (0, 0), (-1, 999)], [(some (.inl (3, 0)), [(1, (0, 15), .inr (.inl (some 5))), (1, (0, 13), .inl (4, 0)), (5, (2, 0), .inl (6, 0))], [], [(0, 0), (1180591620717411303492, 1180591620717411303492), (48, 48), (0, 0), (-1, 999), (1180591620717411303495, 1180591620717411303495), (-2147483648, 2147483647)])], [])
set_option maxRecDepth 200000 in
set_option maxHeartbeats 4000000 in
def T_X12_put_59 : List (tb_S × tb_l) := []
set_option maxRecDepth 200000 in
set_option maxHeartbeats 4000000 in
theorem m_X12_put_59 {l : Launch} : tb_Met l vwCl sa_Ts tb_Z0 yX12_put cX12_put 3 (some .boolean) 2 120 K_X12_put_59 := tb_method (by decide) [15] (t_X12_put [] ) T_X12_put_59 [] 6000 (List.forall_mem_cons.mpr ⟨dX12_put_15, fun _ h => absurd h List.not_mem_nil⟩) (h_X12_put [] 2 120 (by decide) (by decide)  ) (by decide) (by decide +kernel)
set_option maxRecDepth 200000 in
set_option maxHeartbeats 4000000 in
def K_X12_put_60 : tb_K := ([.inr (.inl (some 1)), .inl (2, 0), .inl (3, 0)], [(1, (0, 13), .inl (4, 0))], [], [(0, 0), (1180591620717411303492, 1180591620717411303492), (48, 48), (1, 1), (1, 15)], [(some (.inl (3, 0)), [(1, (0, 15), .inr (.inl (some 5))), (1, (0, 13), .inl (4, 0)), (5, (2, 0), .inl (4, 0))], [], [(0, 0), (1180591620717411303492, 1180591620717411303492), (48, 48), (1, 1), (1, 15), (1180591620717411303495, 1180591620717411303495)])], [(71, 48, 48)])
set_option maxRecDepth 200000 in
set_option maxHeartbeats 4000000 in
def T_X12_put_60 : List (tb_S × tb_l) := []
set_option maxRecDepth 200000 in
set_option maxHeartbeats 4000000 in
theorem m_X12_put_60 {l : Launch} : tb_Met l vwCl sa_Ts tb_Z0 yX12_put cX12_put 3 (some .boolean) 2 120 K_X12_put_60 := tb_method (by decide) [15] (t_X12_put [(71, 48, 48)] ) T_X12_put_60 [] 6000 (List.forall_mem_cons.mpr ⟨dX12_put_15, fun _ h => absurd h List.not_mem_nil⟩) (h_X12_put [(71, 48, 48)] 2 120 (by decide) (by decide)  ) (by decide) (by decide +kernel)
set_option maxRecDepth 200000 in
set_option maxHeartbeats 4000000 in
def K_X12_put_61 : tb_K := ([.inr (.inl (some 1)), .inl (2, 0), .inl (3, 0)], [(1, (0, 13), .inl (4, 0))], [], [(0, 0), (1180591620717411303492, 1180591620717411303492), (47, 47), (0, 0), (-1, 999)], [(some (.inl (3, 0)), [(1, (0, 15), .inr (.inl (some 5))), (1, (0, 13), .inl (4, 0)), (5, (2, 0), .inl (6, 0))], [], [(0, 0), (1180591620717411303492, 1180591620717411303492), (47, 47), (0, 0), (-1, 999), (1180591620717411303495, 1180591620717411303495), (-2147483648, 2147483647)])], [])
set_option maxRecDepth 200000 in
set_option maxHeartbeats 4000000 in
def T_X12_put_61 : List (tb_S × tb_l) := []
set_option maxRecDepth 200000 in
set_option maxHeartbeats 4000000 in
theorem m_X12_put_61 {l : Launch} : tb_Met l vwCl sa_Ts tb_Z0 yX12_put cX12_put 3 (some .boolean) 2 120 K_X12_put_61 := tb_method (by decide) [15] (t_X12_put [] ) T_X12_put_61 [] 6000 (List.forall_mem_cons.mpr ⟨dX12_put_15, fun _ h => absurd h List.not_mem_nil⟩) (h_X12_put [] 2 120 (by decide) (by decide)  ) (by decide) (by decide +kernel)
set_option maxRecDepth 200000 in
set_option maxHeartbeats 4000000 in
def K_X12_put_62 : tb_K := ([.inr (.inl (some 1)), .inl (2, 0), .inl (3, 0)], [(1, (0, 13), .inl (4, 0))], [], [(0, 0), (1180591620717411303492, 1180591620717411303492), (47, 47), (1, 1), (1, 15)], [(some (.inl (3, 0)), [(1, (0, 15), .inr (.inl (some 5))), (1, (0, 13), .inl (4, 0)), (5, (2, 0), .inl (4, 0))], [], [(0, 0), (1180591620717411303492, 1180591620717411303492), (47, 47), (1, 1), (1, 15), (1180591620717411303495, 1180591620717411303495)])], [(71, 47, 47)])
set_option maxRecDepth 200000 in
set_option maxHeartbeats 4000000 in
def T_X12_put_62 : List (tb_S × tb_l) := []
set_option maxRecDepth 200000 in
set_option maxHeartbeats 4000000 in
theorem m_X12_put_62 {l : Launch} : tb_Met l vwCl sa_Ts tb_Z0 yX12_put cX12_put 3 (some .boolean) 2 120 K_X12_put_62 := tb_method (by decide) [15] (t_X12_put [(71, 47, 47)] ) T_X12_put_62 [] 6000 (List.forall_mem_cons.mpr ⟨dX12_put_15, fun _ h => absurd h List.not_mem_nil⟩) (h_X12_put [(71, 47, 47)] 2 120 (by decide) (by decide)  ) (by decide) (by decide +kernel)
set_option maxRecDepth 200000 in
set_option maxHeartbeats 4000000 in
def K_X12_put_63 : tb_K := ([.inr (.inl (some 1)), .inl (2, 0), .inl (3, 0)], [(1, (0, 13), .inl (4, 0))], [], [(0, 0), (1180591620717411303492, 1180591620717411303492), (46, 46), (0, 0), (-1, 999)], [(some (.inl (3, 0)), [(1, (0, 15), .inr (.inl (some 5))), (1, (0, 13), .inl (4, 0)), (5, (2, 0), .inl (6, 0))], [], [(0, 0), (1180591620717411303492, 1180591620717411303492), (46, 46), (0, 0), (-1, 999), (1180591620717411303495, 1180591620717411303495), (-2147483648, 2147483647)])], [])
set_option maxRecDepth 200000 in
set_option maxHeartbeats 4000000 in
def T_X12_put_63 : List (tb_S × tb_l) := []
set_option maxRecDepth 200000 in
set_option maxHeartbeats 4000000 in
theorem m_X12_put_63 {l : Launch} : tb_Met l vwCl sa_Ts tb_Z0 yX12_put cX12_put 3 (some .boolean) 2 120 K_X12_put_63 := tb_method (by decide) [15] (t_X12_put [] ) T_X12_put_63 [] 6000 (List.forall_mem_cons.mpr ⟨dX12_put_15, fun _ h => absurd h List.not_mem_nil⟩) (h_X12_put [] 2 120 (by decide) (by decide)  ) (by decide) (by decide +kernel)
set_option maxRecDepth 200000 in
set_option maxHeartbeats 4000000 in
def K_X12_put_64 : tb_K := ([.inr (.inl (some 1)), .inl (2, 0), .inl (3, 0)], [(1, (0, 13), .inl (4, 0))], [], [(0, 0), (1180591620717411303492, 1180591620717411303492), (46, 46), (1, 1), (1, 15)], [(some (.inl (3, 0)), [(1, (0, 15), .inr (.inl (some 5))), (1, (0, 13), .inl (4, 0)), (5, (2, 0), .inl (4, 0))], [], [(0, 0), (1180591620717411303492, 1180591620717411303492), (46, 46), (1, 1), (1, 15), (1180591620717411303495, 1180591620717411303495)])], [(71, 46, 46)])
set_option maxRecDepth 200000 in
set_option maxHeartbeats 4000000 in
def T_X12_put_64 : List (tb_S × tb_l) := []
set_option maxRecDepth 200000 in
set_option maxHeartbeats 4000000 in
theorem m_X12_put_64 {l : Launch} : tb_Met l vwCl sa_Ts tb_Z0 yX12_put cX12_put 3 (some .boolean) 2 120 K_X12_put_64 := tb_method (by decide) [15] (t_X12_put [(71, 46, 46)] ) T_X12_put_64 [] 6000 (List.forall_mem_cons.mpr ⟨dX12_put_15, fun _ h => absurd h List.not_mem_nil⟩) (h_X12_put [(71, 46, 46)] 2 120 (by decide) (by decide)  ) (by decide) (by decide +kernel)
set_option maxRecDepth 200000 in
set_option maxHeartbeats 4000000 in
def K_X12_put_65 : tb_K := ([.inr (.inl (some 1)), .inl (2, 0), .inl (3, 0)], [(1, (0, 13), .inl (4, 0))], [], [(0, 0), (1180591620717411303492, 1180591620717411303492), (45, 45), (0, 0), (-1, 999)], [(some (.inl (3, 0)), [(1, (0, 15), .inr (.inl (some 5))), (1, (0, 13), .inl (4, 0)), (5, (2, 0), .inl (6, 0))], [], [(0, 0), (1180591620717411303492, 1180591620717411303492), (45, 45), (0, 0), (-1, 999), (1180591620717411303495, 1180591620717411303495), (-2147483648, 2147483647)])], [])
set_option maxRecDepth 200000 in
set_option maxHeartbeats 4000000 in
def T_X12_put_65 : List (tb_S × tb_l) := []
set_option maxRecDepth 200000 in
set_option maxHeartbeats 4000000 in
theorem m_X12_put_65 {l : Launch} : tb_Met l vwCl sa_Ts tb_Z0 yX12_put cX12_put 3 (some .boolean) 2 120 K_X12_put_65 := tb_method (by decide) [15] (t_X12_put [] ) T_X12_put_65 [] 6000 (List.forall_mem_cons.mpr ⟨dX12_put_15, fun _ h => absurd h List.not_mem_nil⟩) (h_X12_put [] 2 120 (by decide) (by decide)  ) (by decide) (by decide +kernel)
set_option maxRecDepth 200000 in
set_option maxHeartbeats 4000000 in
def K_X12_put_66 : tb_K := ([.inr (.inl (some 1)), .inl (2, 0), .inl (3, 0)], [(1, (0, 13), .inl (4, 0))], [], [(0, 0), (1180591620717411303492, 1180591620717411303492), (45, 45), (1, 1), (1, 15)], [(some (.inl (3, 0)), [(1, (0, 15), .inr (.inl (some 5))), (1, (0, 13), .inl (4, 0)), (5, (2, 0), .inl (4, 0))], [], [(0, 0), (1180591620717411303492, 1180591620717411303492), (45, 45), (1, 1), (1, 15), (1180591620717411303495, 1180591620717411303495)])], [(71, 45, 45)])
set_option maxRecDepth 200000 in
set_option maxHeartbeats 4000000 in
def T_X12_put_66 : List (tb_S × tb_l) := []
set_option maxRecDepth 200000 in
set_option maxHeartbeats 4000000 in
theorem m_X12_put_66 {l : Launch} : tb_Met l vwCl sa_Ts tb_Z0 yX12_put cX12_put 3 (some .boolean) 2 120 K_X12_put_66 := tb_method (by decide) [15] (t_X12_put [(71, 45, 45)] ) T_X12_put_66 [] 6000 (List.forall_mem_cons.mpr ⟨dX12_put_15, fun _ h => absurd h List.not_mem_nil⟩) (h_X12_put [(71, 45, 45)] 2 120 (by decide) (by decide)  ) (by decide) (by decide +kernel)
def t_X12_readFault (mod : List (Nat × Nat × Nat)) (L4 : List tb_K) (L24 : List tb_K) (L43 : List tb_K) (L46 : List tb_K) (L64 : List tb_K) (L67 : List tb_K) (L82 : List tb_K) (L85 : List tb_K) (L100 : List tb_K) (L103 : List tb_K) : List (Nat × tb_op) := [(0, to_aload 0 1), (1, to_int (1) 1), (2, to_int (8) 2), (4, to_cs tb_Z0 mod (tb_gV tb_Z0 12 3 0 0) L4), (7, to_if tr_ne tr_eq 12), (10, to_int (0) 1), (12, to_aload 0 1), (13, to_get tb_Z0 [] 12 15), (16, to_int (1) 1), (17, to_ald tb_Z0 [] 0), (18, to_istore 2 1 1), (19, tb_seq (tb_spl tb_Z0 1 []) (to_aload 0 1)), (20, to_int (6) 2), (22, to_iload 1 1), (23, to_bin tf_add), (24, to_cs tb_Z0 mod (tb_gV tb_Z0 12 2 0 0) L24), (27, to_if tr_eq tr_ne 52), (30, to_aload 0 1), (31, to_int (21) 2), (33, to_iload 1 1), (34, to_bin tf_add), (35, to_aload 0 1), (36, to_int (0) 1), (37, to_aload 0 1), (38, to_get tb_Z0 [] 12 15), (41, to_int (0) 1), (42, to_ald tb_Z0 [] 0), (43, to_cs tb_Z0 mod (tb_gV tb_Z0 12 3 0 0) L43), (46, to_cs tb_Z0 mod (tb_gV tb_Z0 12 3 0 0) L46), (49, to_if tr_ne tr_eq 54), (52, to_int (0) 1), (54, to_aload 0 1), (55, to_int (29) 2), (57, to_iload 1 1), (58, to_bin tf_add), (59, to_aload 0 1), (60, to_int (0) 1), (61, to_int (200) 3), (64, to_cs tb_Z0 mod (tb_gV tb_Z0 12 3 0 0) L64), (67, to_cs tb_Z0 mod (tb_gV tb_Z0 12 3 0 0) L67), (70, to_if tr_eq tr_ne 109), (73, to_aload 0 1), (74, to_int (37) 2), (76, to_iload 1 1), (77, to_bin tf_add), (78, to_aload 0 1), (79, to_int (1) 1), (80, to_int (99) 2), (82, to_cs tb_Z0 mod (tb_gV tb_Z0 12 3 0 0) L82), (85, to_cs tb_Z0 mod (tb_gV tb_Z0 12 3 0 0) L85), (88, to_if tr_eq tr_ne 109), (91, to_aload 0 1), (92, to_int (45) 2), (94, to_iload 1 1), (95, to_bin tf_add), (96, to_aload 0 1), (97, to_int (1) 1), (98, to_int (15) 2), (100, to_cs tb_Z0 mod (tb_gV tb_Z0 12 3 0 0) L100), (103, to_cs tb_Z0 mod (tb_gV tb_Z0 12 3 0 0) L103), (106, to_if tr_ne tr_eq 111), (109, to_int (0) 1), (111, to_aload 0 1), (112, to_get tb_Z0 [] 12 15), (115, to_int (1) 1), (116, to_dup2), (117, to_ald tb_Z0 [] 0), (118, to_int (1) 1), (119, to_bin tf_add), (120, to_iast tb_Z0 tb_RT0 mod []), (121, to_int (1) 1)]
set_option maxRecDepth 200000 in
set_option maxHeartbeats 4000000 in
theorem h_X12_readFault {l : Launch} (mod : List (Nat × Nat × Nat)) (fr lc : Nat) (hfr : 1 + 1 ≤ fr) (hlc : 8 + (2 + 11) + 20 ≤ lc) (L4 : List tb_K) (L24 : List tb_K) (L43 : List tb_K) (L46 : List tb_K) (L64 : List tb_K) (L67 : List tb_K) (L82 : List tb_K) (L85 : List tb_K) (L100 : List tb_K) (L103 : List tb_K) (h4 : tb_ML l yX12_readFirst cX12_readFirst 3 (some .boolean) fr lc 3 L4) (h24 : tb_ML l yX12_readNew cX12_readNew 2 (some .boolean) fr lc 2 L24) (h43 : tb_ML l yX12_readOne cX12_readOne 3 (some .boolean) fr lc 3 L43) (h46 : tb_ML l yX12_put cX12_put 3 (some .boolean) fr lc 3 L46) (h64 : tb_ML l yX12_readNumber cX12_readNumber 3 (some .boolean) fr lc 3 L64) (h67 : tb_ML l yX12_put cX12_put 3 (some .boolean) fr lc 3 L67) (h82 : tb_ML l yX12_readNumber cX12_readNumber 3 (some .boolean) fr lc 3 L82) (h85 : tb_ML l yX12_put cX12_put 3 (some .boolean) fr lc 3 L85) (h100 : tb_ML l yX12_readNumber cX12_readNumber 3 (some .boolean) fr lc 3 L100) (h103 : tb_ML l yX12_put cX12_put 3 (some .boolean) fr lc 3 L103) : ∀ (p : Program) (e : Env) (s : State) (m : MethodId) (args : Array Value) (below : List Frame) (meth : Method) (c : Code) (Q : State → Prop) (D : va_G) (dA : Nat → ClassId) (A : Nat → Prop) (n0 : Nat) (V0 : sa_V) (E : tb_E), sa_C p s m args c D dA A 2 vwCl sa_Ts cX12_readFault yX12_readFault.cls → sa_U D vwCl dA s → tb_z E = tb_Z0 → tb_mod E = mod → ∀ q ∈ t_X12_readFault mod L4 L24 L43 L46 L64 L67 L82 L85 L100 L103, tb_snd p l e { frames := fr, cells := 0, slots := 0, locals := lc } s m args below meth c Q D dA A 2 vwCl n0 V0 E q.1 q.2 := fun p e s m args below meth c Q D dA A n0 V0 E C0 hU hz hm => List.forall_mem_cons.mpr ⟨tn_aload_n C0 dX12_readFault_0, List.forall_mem_cons.mpr ⟨tn_iconst C0 dX12_readFault_1, List.forall_mem_cons.mpr ⟨tn_bipush C0 dX12_readFault_2 (by decide), List.forall_mem_cons.mpr ⟨tn_cV C0 hz hm hU h4 tv_1459 dX12_readFault_4 tv_1456 tv_1458 tq_X12_readFirst tv_13 rfl yb_X12_readFirst (Nat.le_refl _) (Nat.le_refl _), List.forall_mem_cons.mpr ⟨tx_if_ne C0 dX12_readFault_7 (by decide), List.forall_mem_cons.mpr ⟨tn_iconst C0 dX12_readFault_10, List.forall_mem_cons.mpr ⟨tn_aload_n C0 dX12_readFault_12, List.forall_mem_cons.mpr ⟨tn_get C0 hz hcv0 kcX12 dX12_readFault_13 (by decide) tv_1276, List.forall_mem_cons.mpr ⟨tn_iconst C0 dX12_readFault_16, List.forall_mem_cons.mpr ⟨tn_iald C0 hz hcv0 dX12_readFault_17, List.forall_mem_cons.mpr ⟨tn_istore_n C0 dX12_readFault_18, List.forall_mem_cons.mpr ⟨tn_seq (tn_spl hz hcv0) (tn_aload_n C0 dX12_readFault_19), List.forall_mem_cons.mpr ⟨tn_bipush C0 dX12_readFault_20 (by decide), List.forall_mem_cons.mpr ⟨tn_iload_n C0 dX12_readFault_22, List.forall_mem_cons.mpr ⟨tn_iadd C0 tf_add_ok dX12_readFault_23, List.forall_mem_cons.mpr ⟨tn_cV C0 hz hm hU h24 tv_1467 dX12_readFault_24 tv_1464 tv_1466 tq_X12_readNew tv_13 rfl yb_X12_readNew (Nat.le_refl _) (Nat.le_refl _), List.forall_mem_cons.mpr ⟨tx_if_eq C0 dX12_readFault_27 (by decide), List.forall_mem_cons.mpr ⟨tn_aload_n C0 dX12_readFault_30, List.forall_mem_cons.mpr ⟨tn_bipush C0 dX12_readFault_31 (by decide), List.forall_mem_cons.mpr ⟨tn_iload_n C0 dX12_readFault_33, List.forall_mem_cons.mpr ⟨tn_iadd C0 tf_add_ok dX12_readFault_34, List.forall_mem_cons.mpr ⟨tn_aload_n C0 dX12_readFault_35, List.forall_mem_cons.mpr ⟨tn_iconst C0 dX12_readFault_36, List.forall_mem_cons.mpr ⟨tn_aload_n C0 dX12_readFault_37, List.forall_mem_cons.mpr ⟨tn_get C0 hz hcv0 kcX12 dX12_readFault_38 (by decide) tv_1276, List.forall_mem_cons.mpr ⟨tn_iconst C0 dX12_readFault_41, List.forall_mem_cons.mpr ⟨tn_iald C0 hz hcv0 dX12_readFault_42, List.forall_mem_cons.mpr ⟨tn_cV C0 hz hm hU h43 tv_1489 dX12_readFault_43 tv_1486 tv_1488 tq_X12_readOne tv_13 rfl yb_X12_readOne (Nat.le_refl _) (Nat.le_refl _), List.forall_mem_cons.mpr ⟨tn_cV C0 hz hm hU h46 tv_1485 dX12_readFault_46 tv_1482 tv_1484 tq_X12_put tv_13 rfl yb_X12_put (Nat.le_refl _) (Nat.le_refl _), List.forall_mem_cons.mpr ⟨tx_if_ne C0 dX12_readFault_49 (by decide), List.forall_mem_cons.mpr ⟨tn_iconst C0 dX12_readFault_52, List.forall_mem_cons.mpr ⟨tn_aload_n C0 dX12_readFault_54, List.forall_mem_cons.mpr ⟨tn_bipush C0 dX12_readFault_55 (by decide), List.forall_mem_cons.mpr ⟨tn_iload_n C0 dX12_readFault_57, List.forall_mem_cons.mpr ⟨tn_iadd C0 tf_add_ok dX12_readFault_58, List.forall_mem_cons.mpr ⟨tn_aload_n C0 dX12_readFault_59, List.forall_mem_cons.mpr ⟨tn_iconst C0 dX12_readFault_60, List.forall_mem_cons.mpr ⟨tn_sipush C0 dX12_readFault_61 (by decide), List.forall_mem_cons.mpr ⟨tn_cV C0 hz hm hU h64 tv_1478 dX12_readFault_64 tv_1475 tv_1477 tq_X12_readNumber tv_13 rfl yb_X12_readNumber (Nat.le_refl _) (Nat.le_refl _), List.forall_mem_cons.mpr ⟨tn_cV C0 hz hm hU h67 tv_1485 dX12_readFault_67 tv_1482 tv_1484 tq_X12_put tv_13 rfl yb_X12_put (Nat.le_refl _) (Nat.le_refl _), List.forall_mem_cons.mpr ⟨tx_if_eq C0 dX12_readFault_70 (by decide), List.forall_mem_cons.mpr ⟨tn_aload_n C0 dX12_readFault_73, List.forall_mem_cons.mpr ⟨tn_bipush C0 dX12_readFault_74 (by decide), List.forall_mem_cons.mpr ⟨tn_iload_n C0 dX12_readFault_76, List.forall_mem_cons.mpr ⟨tn_iadd C0 tf_add_ok dX12_readFault_77, List.forall_mem_cons.mpr ⟨tn_aload_n C0 dX12_readFault_78, List.forall_mem_cons.mpr ⟨tn_iconst C0 dX12_readFault_79, List.forall_mem_cons.mpr ⟨tn_bipush C0 dX12_readFault_80 (by decide), List.forall_mem_cons.mpr ⟨tn_cV C0 hz hm hU h82 tv_1478 dX12_readFault_82 tv_1475 tv_1477 tq_X12_readNumber tv_13 rfl yb_X12_readNumber (Nat.le_refl _) (Nat.le_refl _), List.forall_mem_cons.mpr ⟨tn_cV C0 hz hm hU h85 tv_1485 dX12_readFault_85 tv_1482 tv_1484 tq_X12_put tv_13 rfl yb_X12_put (Nat.le_refl _) (Nat.le_refl _), List.forall_mem_cons.mpr ⟨tx_if_eq C0 dX12_readFault_88 (by decide), List.forall_mem_cons.mpr ⟨tn_aload_n C0 dX12_readFault_91, List.forall_mem_cons.mpr ⟨tn_bipush C0 dX12_readFault_92 (by decide), List.forall_mem_cons.mpr ⟨tn_iload_n C0 dX12_readFault_94, List.forall_mem_cons.mpr ⟨tn_iadd C0 tf_add_ok dX12_readFault_95, List.forall_mem_cons.mpr ⟨tn_aload_n C0 dX12_readFault_96, List.forall_mem_cons.mpr ⟨tn_iconst C0 dX12_readFault_97, List.forall_mem_cons.mpr ⟨tn_bipush C0 dX12_readFault_98 (by decide), List.forall_mem_cons.mpr ⟨tn_cV C0 hz hm hU h100 tv_1478 dX12_readFault_100 tv_1475 tv_1477 tq_X12_readNumber tv_13 rfl yb_X12_readNumber (Nat.le_refl _) (Nat.le_refl _), List.forall_mem_cons.mpr ⟨tn_cV C0 hz hm hU h103 tv_1485 dX12_readFault_103 tv_1482 tv_1484 tq_X12_put tv_13 rfl yb_X12_put (Nat.le_refl _) (Nat.le_refl _), List.forall_mem_cons.mpr ⟨tx_if_ne C0 dX12_readFault_106 (by decide), List.forall_mem_cons.mpr ⟨tn_iconst C0 dX12_readFault_109, List.forall_mem_cons.mpr ⟨tn_aload_n C0 dX12_readFault_111, List.forall_mem_cons.mpr ⟨tn_get C0 hz hcv0 kcX12 dX12_readFault_112 (by decide) tv_1276, List.forall_mem_cons.mpr ⟨tn_iconst C0 dX12_readFault_115, List.forall_mem_cons.mpr ⟨tn_dup2 C0 dX12_readFault_116, List.forall_mem_cons.mpr ⟨tn_iald C0 hz hcv0 dX12_readFault_117, List.forall_mem_cons.mpr ⟨tn_iconst C0 dX12_readFault_118, List.forall_mem_cons.mpr ⟨tn_iadd C0 tf_add_ok dX12_readFault_119, List.forall_mem_cons.mpr ⟨tn_iast C0 hz hcv0 hrt0 hm dX12_readFault_120, List.forall_mem_cons.mpr ⟨tn_iconst C0 dX12_readFault_121, fun _ h => absurd h List.not_mem_nil⟩⟩⟩⟩⟩⟩⟩⟩⟩⟩⟩⟩⟩⟩⟩⟩⟩⟩⟩⟩⟩⟩⟩⟩⟩⟩⟩⟩⟩⟩⟩⟩⟩⟩⟩⟩⟩⟩⟩⟩⟩⟩⟩⟩⟩⟩⟩⟩⟩⟩⟩⟩⟩⟩⟩⟩⟩⟩⟩⟩⟩⟩⟩⟩⟩⟩⟩⟩⟩⟩⟩
set_option maxRecDepth 200000 in
set_option maxHeartbeats 4000000 in
def K_X12_readFault_1 : tb_K := ([.inr (.inl (some 1))], [(1, (0, 15), .inr (.inl (some 2))), (2, (0, 0), .inl (3, 0)), (2, (0, 1), .inl (4, 0)), (2, (0, 2), .inl (5, 0))], [], [(0, 0), (1180591620717411303492, 1180591620717411303492), (1180591620717411303495, 1180591620717411303495), (0, 6), (0, 8), (0, 16)], [(some (.inl (6, 0)), [(1, (0, 15), .inr (.inl (some 2))), (2, (0, 0), .inl (3, 0)), (2, (0, 1), .inl (4, 0)), (2, (0, 2), .inl (5, 0))], [], [(0, 0), (1180591620717411303492, 1180591620717411303492), (1180591620717411303495, 1180591620717411303495), (0, 6), (0, 8), (0, 16), (0, 0)]), (some (.inl (6, 0)), [(1, (0, 15), .inr (.inl (some 2))), (2, (0, 0), .inl (3, 0)), (2, (0, 1), .inl (4, 1)), (2, (0, 2), .inl (5, 0))], [], [(0, 0), (1180591620717411303492, 1180591620717411303492), (1180591620717411303495, 1180591620717411303495), (0, 6), (0, 7), (0, 16), (1, 1)])], [(68, 5, 13), (71, 1, 1), (71, 21, 52), (76, 6, 13)])
set_option maxRecDepth 200000 in
set_option maxHeartbeats 4000000 in
def T_X12_readFault_1 : List (tb_S × tb_l) := []
set_option maxRecDepth 200000 in
set_option maxHeartbeats 4000000 in
theorem m_X12_readFault_1 {l : Launch} : tb_Met l vwCl sa_Ts tb_Z0 yX12_readFault cX12_readFault 2 (some .boolean) 6 211 K_X12_readFault_1 := tb_method (by decide) [11, 53, 110, 122] (t_X12_readFault [(68, 5, 13), (71, 1, 1), (71, 21, 52), (76, 6, 13)] [K_X12_readFirst_2] [K_X12_readNew_1, K_X12_readNew_2, K_X12_readNew_3, K_X12_readNew_4, K_X12_readNew_5, K_X12_readNew_6, K_X12_readNew_7, K_X12_readNew_8] [K_X12_readOne_2] [K_X12_put_4, K_X12_put_6, K_X12_put_8, K_X12_put_10, K_X12_put_12, K_X12_put_14, K_X12_put_16, K_X12_put_18, K_X12_put_3, K_X12_put_5, K_X12_put_7, K_X12_put_9, K_X12_put_11, K_X12_put_13, K_X12_put_15, K_X12_put_17] [K_X12_readNumber_2] [K_X12_put_20, K_X12_put_22, K_X12_put_24, K_X12_put_26, K_X12_put_28, K_X12_put_30, K_X12_put_32, K_X12_put_34, K_X12_put_19, K_X12_put_21, K_X12_put_23, K_X12_put_25, K_X12_put_27, K_X12_put_29, K_X12_put_31, K_X12_put_33] [K_X12_readNumber_3] [K_X12_put_36, K_X12_put_38, K_X12_put_40, K_X12_put_42, K_X12_put_44, K_X12_put_46, K_X12_put_48, K_X12_put_50, K_X12_put_35, K_X12_put_37, K_X12_put_39, K_X12_put_41, K_X12_put_43, K_X12_put_45, K_X12_put_47, K_X12_put_49] [K_X12_readNumber_4] [K_X12_put_52, K_X12_put_54, K_X12_put_56, K_X12_put_58, K_X12_put_60, K_X12_put_62, K_X12_put_64, K_X12_put_66, K_X12_put_51, K_X12_put_53, K_X12_put_55, K_X12_put_57, K_X12_put_59, K_X12_put_61, K_X12_put_63, K_X12_put_65]) T_X12_readFault_1 [] 6000 (List.forall_mem_cons.mpr ⟨dX12_readFault_11, List.forall_mem_cons.mpr ⟨dX12_readFault_53, List.forall_mem_cons.mpr ⟨dX12_readFault_110, List.forall_mem_cons.mpr ⟨dX12_readFault_122, fun _ h => absurd h List.not_mem_nil⟩⟩⟩⟩) (h_X12_readFault [(68, 5, 13), (71, 1, 1), (71, 21, 52), (76, 6, 13)] 6 211 (by decide) (by decide) [K_X12_readFirst_2] [K_X12_readNew_1, K_X12_readNew_2, K_X12_readNew_3, K_X12_readNew_4, K_X12_readNew_5, K_X12_readNew_6, K_X12_readNew_7, K_X12_readNew_8] [K_X12_readOne_2] [K_X12_put_4, K_X12_put_6, K_X12_put_8, K_X12_put_10, K_X12_put_12, K_X12_put_14, K_X12_put_16, K_X12_put_18, K_X12_put_3, K_X12_put_5, K_X12_put_7, K_X12_put_9, K_X12_put_11, K_X12_put_13, K_X12_put_15, K_X12_put_17] [K_X12_readNumber_2] [K_X12_put_20, K_X12_put_22, K_X12_put_24, K_X12_put_26, K_X12_put_28, K_X12_put_30, K_X12_put_32, K_X12_put_34, K_X12_put_19, K_X12_put_21, K_X12_put_23, K_X12_put_25, K_X12_put_27, K_X12_put_29, K_X12_put_31, K_X12_put_33] [K_X12_readNumber_3] [K_X12_put_36, K_X12_put_38, K_X12_put_40, K_X12_put_42, K_X12_put_44, K_X12_put_46, K_X12_put_48, K_X12_put_50, K_X12_put_35, K_X12_put_37, K_X12_put_39, K_X12_put_41, K_X12_put_43, K_X12_put_45, K_X12_put_47, K_X12_put_49] [K_X12_readNumber_4] [K_X12_put_52, K_X12_put_54, K_X12_put_56, K_X12_put_58, K_X12_put_60, K_X12_put_62, K_X12_put_64, K_X12_put_66, K_X12_put_51, K_X12_put_53, K_X12_put_55, K_X12_put_57, K_X12_put_59, K_X12_put_61, K_X12_put_63, K_X12_put_65] ⟨4, 165, List.forall_mem_cons.mpr ⟨m_X12_readFirst_2, fun _ h => absurd h List.not_mem_nil⟩, by decide, by decide, by decide⟩ ⟨5, 189, List.forall_mem_cons.mpr ⟨m_X12_readNew_1, List.forall_mem_cons.mpr ⟨m_X12_readNew_2, List.forall_mem_cons.mpr ⟨m_X12_readNew_3, List.forall_mem_cons.mpr ⟨m_X12_readNew_4, List.forall_mem_cons.mpr ⟨m_X12_readNew_5, List.forall_mem_cons.mpr ⟨m_X12_readNew_6, List.forall_mem_cons.mpr ⟨m_X12_readNew_7, List.forall_mem_cons.mpr ⟨m_X12_readNew_8, fun _ h => absurd h List.not_mem_nil⟩⟩⟩⟩⟩⟩⟩⟩, by decide, by decide, by decide⟩ ⟨5, 189, List.forall_mem_cons.mpr ⟨m_X12_readOne_2, fun _ h => absurd h List.not_mem_nil⟩, by decide, by decide, by decide⟩ ⟨2, 120, List.forall_mem_cons.mpr ⟨m_X12_put_4, List.forall_mem_cons.mpr ⟨m_X12_put_6, List.forall_mem_cons.mpr ⟨m_X12_put_8, List.forall_mem_cons.mpr ⟨m_X12_put_10, List.forall_mem_cons.mpr ⟨m_X12_put_12, List.forall_mem_cons.mpr ⟨m_X12_put_14, List.forall_mem_cons.mpr ⟨m_X12_put_16, List.forall_mem_cons.mpr ⟨m_X12_put_18, List.forall_mem_cons.mpr ⟨m_X12_put_3, List.forall_mem_cons.mpr ⟨m_X12_put_5, List.forall_mem_cons.mpr ⟨m_X12_put_7, List.forall_mem_cons.mpr ⟨m_X12_put_9, List.forall_mem_cons.mpr ⟨m_X12_put_11, List.forall_mem_cons.mpr ⟨m_X12_put_13, List.forall_mem_cons.mpr ⟨m_X12_put_15, List.forall_mem_cons.mpr ⟨m_X12_put_17, fun _ h => absurd h List.not_mem_nil⟩⟩⟩⟩⟩⟩⟩⟩⟩⟩⟩⟩⟩⟩⟩⟩, by decide, by decide, by decide⟩ ⟨4, 165, List.forall_mem_cons.mpr ⟨m_X12_readNumber_2, fun _ h => absurd h List.not_mem_nil⟩, by decide, by decide, by decide⟩ ⟨2, 120, List.forall_mem_cons.mpr ⟨m_X12_put_20, List.forall_mem_cons.mpr ⟨m_X12_put_22, List.forall_mem_cons.mpr ⟨m_X12_put_24, List.forall_mem_cons.mpr ⟨m_X12_put_26, List.forall_mem_cons.mpr ⟨m_X12_put_28, List.forall_mem_cons.mpr ⟨m_X12_put_30, List.forall_mem_cons.mpr ⟨m_X12_put_32, List.forall_mem_cons.mpr ⟨m_X12_put_34, List.forall_mem_cons.mpr ⟨m_X12_put_19, List.forall_mem_cons.mpr ⟨m_X12_put_21, List.forall_mem_cons.mpr ⟨m_X12_put_23, List.forall_mem_cons.mpr ⟨m_X12_put_25, List.forall_mem_cons.mpr ⟨m_X12_put_27, List.forall_mem_cons.mpr ⟨m_X12_put_29, List.forall_mem_cons.mpr ⟨m_X12_put_31, List.forall_mem_cons.mpr ⟨m_X12_put_33, fun _ h => absurd h List.not_mem_nil⟩⟩⟩⟩⟩⟩⟩⟩⟩⟩⟩⟩⟩⟩⟩⟩, by decide, by decide, by decide⟩ ⟨4, 165, List.forall_mem_cons.mpr ⟨m_X12_readNumber_3, fun _ h => absurd h List.not_mem_nil⟩, by decide, by decide, by decide⟩ ⟨2, 120, List.forall_mem_cons.mpr ⟨m_X12_put_36, List.forall_mem_cons.mpr ⟨m_X12_put_38, List.forall_mem_cons.mpr ⟨m_X12_put_40, List.forall_mem_cons.mpr ⟨m_X12_put_42, List.forall_mem_cons.mpr ⟨m_X12_put_44, List.forall_mem_cons.mpr ⟨m_X12_put_46, List.forall_mem_cons.mpr ⟨m_X12_put_48, List.forall_mem_cons.mpr ⟨m_X12_put_50, List.forall_mem_cons.mpr ⟨m_X12_put_35, List.forall_mem_cons.mpr ⟨m_X12_put_37, List.forall_mem_cons.mpr ⟨m_X12_put_39, List.forall_mem_cons.mpr ⟨m_X12_put_41, List.forall_mem_cons.mpr ⟨m_X12_put_43, List.forall_mem_cons.mpr ⟨m_X12_put_45, List.forall_mem_cons.mpr ⟨m_X12_put_47, List.forall_mem_cons.mpr ⟨m_X12_put_49, fun _ h => absurd h List.not_mem_nil⟩⟩⟩⟩⟩⟩⟩⟩⟩⟩⟩⟩⟩⟩⟩⟩, by decide, by decide, by decide⟩ ⟨4, 165, List.forall_mem_cons.mpr ⟨m_X12_readNumber_4, fun _ h => absurd h List.not_mem_nil⟩, by decide, by decide, by decide⟩ ⟨2, 120, List.forall_mem_cons.mpr ⟨m_X12_put_52, List.forall_mem_cons.mpr ⟨m_X12_put_54, List.forall_mem_cons.mpr ⟨m_X12_put_56, List.forall_mem_cons.mpr ⟨m_X12_put_58, List.forall_mem_cons.mpr ⟨m_X12_put_60, List.forall_mem_cons.mpr ⟨m_X12_put_62, List.forall_mem_cons.mpr ⟨m_X12_put_64, List.forall_mem_cons.mpr ⟨m_X12_put_66, List.forall_mem_cons.mpr ⟨m_X12_put_51, List.forall_mem_cons.mpr ⟨m_X12_put_53, List.forall_mem_cons.mpr ⟨m_X12_put_55, List.forall_mem_cons.mpr ⟨m_X12_put_57, List.forall_mem_cons.mpr ⟨m_X12_put_59, List.forall_mem_cons.mpr ⟨m_X12_put_61, List.forall_mem_cons.mpr ⟨m_X12_put_63, List.forall_mem_cons.mpr ⟨m_X12_put_65, fun _ h => absurd h List.not_mem_nil⟩⟩⟩⟩⟩⟩⟩⟩⟩⟩⟩⟩⟩⟩⟩⟩, by decide, by decide, by decide⟩) (by decide) (by decide +kernel)
set_option maxRecDepth 200000 in
set_option maxHeartbeats 4000000 in
def K_X12_readFirst_3 : tb_K := ([.inr (.inl (some 1)), .inl (2, 0), .inl (3, 0)], [(1, (0, 15), .inr (.inl (some 4))), (4, (2, 0), .inl (5, 0))], [], [(0, 0), (1180591620717411303492, 1180591620717411303492), (0, 0), (6, 6), (1180591620717411303495, 1180591620717411303495), (0, 6)], [(some (.inl (6, 0)), [(1, (0, 15), .inr (.inl (some 4))), (4, (2, 0), .inl (5, 0))], [], [(0, 0), (1180591620717411303492, 1180591620717411303492), (0, 0), (6, 6), (1180591620717411303495, 1180591620717411303495), (0, 5), (1, 1)]), (some (.inl (6, 0)), [(1, (0, 15), .inr (.inl (some 4))), (4, (2, 0), .inl (5, 0))], [], [(0, 0), (1180591620717411303492, 1180591620717411303492), (0, 0), (6, 6), (1180591620717411303495, 1180591620717411303495), (6, 6), (0, 0)])], [(68, 5, 12)])
set_option maxRecDepth 200000 in
set_option maxHeartbeats 4000000 in
def T_X12_readFirst_3 : List (tb_S × tb_l) := []
set_option maxRecDepth 200000 in
set_option maxHeartbeats 4000000 in
theorem m_X12_readFirst_3 {l : Launch} : tb_Met l vwCl sa_Ts tb_Z0 yX12_readFirst cX12_readFirst 3 (some .boolean) 4 165 K_X12_readFirst_3 := tb_method (by decide) [15, 21] (t_X12_readFirst [(68, 5, 12)] [K_X12_bad_2] [K_X12_go_1]) T_X12_readFirst_3 [] 6000 (List.forall_mem_cons.mpr ⟨dX12_readFirst_15, List.forall_mem_cons.mpr ⟨dX12_readFirst_21, fun _ h => absurd h List.not_mem_nil⟩⟩) (h_X12_readFirst [(68, 5, 12)] 4 165 (by decide) (by decide) [K_X12_bad_2] [K_X12_go_1] ⟨2, 120, List.forall_mem_cons.mpr ⟨m_X12_bad_2, fun _ h => absurd h List.not_mem_nil⟩, by decide, by decide, by decide⟩ ⟨3, 141, List.forall_mem_cons.mpr ⟨m_X12_go_1, fun _ h => absurd h List.not_mem_nil⟩, by decide, by decide, by decide⟩) (by decide) (by decide +kernel)
set_option maxRecDepth 200000 in
set_option maxHeartbeats 4000000 in
def K_X12_readNew_9 : tb_K := ([.inr (.inl (some 1)), .inl (2, 0)], [], [], [(0, 0), (1180591620717411303492, 1180591620717411303492), (5, 5)], [(some (.inl (3, 0)), [], [], [(0, 0), (1180591620717411303492, 1180591620717411303492), (5, 5), (0, 0)]), (some (.inl (3, 0)), [], [], [(0, 0), (1180591620717411303492, 1180591620717411303492), (5, 5), (1, 1)])], [(68, 5, 12), (76, 5, 5)])
set_option maxRecDepth 200000 in
set_option maxHeartbeats 4000000 in
def T_X12_readNew_9 : List (tb_S × tb_l) := []
set_option maxRecDepth 200000 in
set_option maxHeartbeats 4000000 in
theorem m_X12_readNew_9 {l : Launch} : tb_Met l vwCl sa_Ts tb_Z0 yX12_readNew cX12_readNew 2 (some .boolean) 5 189 K_X12_readNew_9 := tb_method (by decide) [12, 63, 79] (t_X12_readNew [(68, 5, 12), (76, 5, 5)] [K_X12_isName_1] [K_X12_bad_1] [K_X12_findIn_2] [K_X12_findIn_1] [K_X12_bad_3] [K_X12_go_1]) T_X12_readNew_9 [] 6000 (List.forall_mem_cons.mpr ⟨dX12_readNew_12, List.forall_mem_cons.mpr ⟨dX12_readNew_63, List.forall_mem_cons.mpr ⟨dX12_readNew_79, fun _ h => absurd h List.not_mem_nil⟩⟩⟩) (h_X12_readNew [(68, 5, 12), (76, 5, 5)] 5 189 (by decide) (by decide) [K_X12_isName_1] [K_X12_bad_1] [K_X12_findIn_2] [K_X12_findIn_1] [K_X12_bad_3] [K_X12_go_1] ⟨4, 168, List.forall_mem_cons.mpr ⟨m_X12_isName_1, fun _ h => absurd h List.not_mem_nil⟩, by decide, by decide, by decide⟩ ⟨2, 120, List.forall_mem_cons.mpr ⟨m_X12_bad_1, fun _ h => absurd h List.not_mem_nil⟩, by decide, by decide, by decide⟩ ⟨2, 120, List.forall_mem_cons.mpr ⟨m_X12_findIn_2, fun _ h => absurd h List.not_mem_nil⟩, by decide, by decide, by decide⟩ ⟨2, 120, List.forall_mem_cons.mpr ⟨m_X12_findIn_1, fun _ h => absurd h List.not_mem_nil⟩, by decide, by decide, by decide⟩ ⟨2, 120, List.forall_mem_cons.mpr ⟨m_X12_bad_3, fun _ h => absurd h List.not_mem_nil⟩, by decide, by decide, by decide⟩ ⟨3, 141, List.forall_mem_cons.mpr ⟨m_X12_go_1, fun _ h => absurd h List.not_mem_nil⟩, by decide, by decide, by decide⟩) (by decide) (by decide +kernel)
set_option maxRecDepth 200000 in
set_option maxHeartbeats 4000000 in
def K_X12_readNew_10 : tb_K := ([.inr (.inl (some 1)), .inl (2, 0)], [], [], [(0, 0), (1180591620717411303492, 1180591620717411303492), (4, 4)], [(some (.inl (3, 0)), [], [], [(0, 0), (1180591620717411303492, 1180591620717411303492), (4, 4), (0, 0)]), (some (.inl (3, 0)), [], [], [(0, 0), (1180591620717411303492, 1180591620717411303492), (4, 4), (1, 1)])], [(68, 5, 12), (76, 4, 4)])
set_option maxRecDepth 200000 in
set_option maxHeartbeats 4000000 in
def T_X12_readNew_10 : List (tb_S × tb_l) := []
set_option maxRecDepth 200000 in
set_option maxHeartbeats 4000000 in
theorem m_X12_readNew_10 {l : Launch} : tb_Met l vwCl sa_Ts tb_Z0 yX12_readNew cX12_readNew 2 (some .boolean) 5 189 K_X12_readNew_10 := tb_method (by decide) [12, 63, 79] (t_X12_readNew [(68, 5, 12), (76, 4, 4)] [K_X12_isName_1] [K_X12_bad_1] [K_X12_findIn_2] [K_X12_findIn_1] [K_X12_bad_3] [K_X12_go_1]) T_X12_readNew_10 [] 6000 (List.forall_mem_cons.mpr ⟨dX12_readNew_12, List.forall_mem_cons.mpr ⟨dX12_readNew_63, List.forall_mem_cons.mpr ⟨dX12_readNew_79, fun _ h => absurd h List.not_mem_nil⟩⟩⟩) (h_X12_readNew [(68, 5, 12), (76, 4, 4)] 5 189 (by decide) (by decide) [K_X12_isName_1] [K_X12_bad_1] [K_X12_findIn_2] [K_X12_findIn_1] [K_X12_bad_3] [K_X12_go_1] ⟨4, 168, List.forall_mem_cons.mpr ⟨m_X12_isName_1, fun _ h => absurd h List.not_mem_nil⟩, by decide, by decide, by decide⟩ ⟨2, 120, List.forall_mem_cons.mpr ⟨m_X12_bad_1, fun _ h => absurd h List.not_mem_nil⟩, by decide, by decide, by decide⟩ ⟨2, 120, List.forall_mem_cons.mpr ⟨m_X12_findIn_2, fun _ h => absurd h List.not_mem_nil⟩, by decide, by decide, by decide⟩ ⟨2, 120, List.forall_mem_cons.mpr ⟨m_X12_findIn_1, fun _ h => absurd h List.not_mem_nil⟩, by decide, by decide, by decide⟩ ⟨2, 120, List.forall_mem_cons.mpr ⟨m_X12_bad_3, fun _ h => absurd h List.not_mem_nil⟩, by decide, by decide, by decide⟩ ⟨3, 141, List.forall_mem_cons.mpr ⟨m_X12_go_1, fun _ h => absurd h List.not_mem_nil⟩, by decide, by decide, by decide⟩) (by decide) (by decide +kernel)
set_option maxRecDepth 200000 in
set_option maxHeartbeats 4000000 in
def K_X12_readNew_11 : tb_K := ([.inr (.inl (some 1)), .inl (2, 0)], [], [], [(0, 0), (1180591620717411303492, 1180591620717411303492), (3, 3)], [(some (.inl (3, 0)), [], [], [(0, 0), (1180591620717411303492, 1180591620717411303492), (3, 3), (0, 0)]), (some (.inl (3, 0)), [], [], [(0, 0), (1180591620717411303492, 1180591620717411303492), (3, 3), (1, 1)])], [(68, 5, 12), (76, 3, 3)])
set_option maxRecDepth 200000 in
set_option maxHeartbeats 4000000 in
def T_X12_readNew_11 : List (tb_S × tb_l) := []
set_option maxRecDepth 200000 in
set_option maxHeartbeats 4000000 in
theorem m_X12_readNew_11 {l : Launch} : tb_Met l vwCl sa_Ts tb_Z0 yX12_readNew cX12_readNew 2 (some .boolean) 5 189 K_X12_readNew_11 := tb_method (by decide) [12, 63, 79] (t_X12_readNew [(68, 5, 12), (76, 3, 3)] [K_X12_isName_1] [K_X12_bad_1] [K_X12_findIn_2] [K_X12_findIn_1] [K_X12_bad_3] [K_X12_go_1]) T_X12_readNew_11 [] 6000 (List.forall_mem_cons.mpr ⟨dX12_readNew_12, List.forall_mem_cons.mpr ⟨dX12_readNew_63, List.forall_mem_cons.mpr ⟨dX12_readNew_79, fun _ h => absurd h List.not_mem_nil⟩⟩⟩) (h_X12_readNew [(68, 5, 12), (76, 3, 3)] 5 189 (by decide) (by decide) [K_X12_isName_1] [K_X12_bad_1] [K_X12_findIn_2] [K_X12_findIn_1] [K_X12_bad_3] [K_X12_go_1] ⟨4, 168, List.forall_mem_cons.mpr ⟨m_X12_isName_1, fun _ h => absurd h List.not_mem_nil⟩, by decide, by decide, by decide⟩ ⟨2, 120, List.forall_mem_cons.mpr ⟨m_X12_bad_1, fun _ h => absurd h List.not_mem_nil⟩, by decide, by decide, by decide⟩ ⟨2, 120, List.forall_mem_cons.mpr ⟨m_X12_findIn_2, fun _ h => absurd h List.not_mem_nil⟩, by decide, by decide, by decide⟩ ⟨2, 120, List.forall_mem_cons.mpr ⟨m_X12_findIn_1, fun _ h => absurd h List.not_mem_nil⟩, by decide, by decide, by decide⟩ ⟨2, 120, List.forall_mem_cons.mpr ⟨m_X12_bad_3, fun _ h => absurd h List.not_mem_nil⟩, by decide, by decide, by decide⟩ ⟨3, 141, List.forall_mem_cons.mpr ⟨m_X12_go_1, fun _ h => absurd h List.not_mem_nil⟩, by decide, by decide, by decide⟩) (by decide) (by decide +kernel)
set_option maxRecDepth 200000 in
set_option maxHeartbeats 4000000 in
def K_X12_readNew_12 : tb_K := ([.inr (.inl (some 1)), .inl (2, 0)], [], [], [(0, 0), (1180591620717411303492, 1180591620717411303492), (2, 2)], [(some (.inl (3, 0)), [], [], [(0, 0), (1180591620717411303492, 1180591620717411303492), (2, 2), (0, 0)]), (some (.inl (3, 0)), [], [], [(0, 0), (1180591620717411303492, 1180591620717411303492), (2, 2), (1, 1)])], [(68, 5, 12), (76, 2, 2)])
set_option maxRecDepth 200000 in
set_option maxHeartbeats 4000000 in
def T_X12_readNew_12 : List (tb_S × tb_l) := []
set_option maxRecDepth 200000 in
set_option maxHeartbeats 4000000 in
theorem m_X12_readNew_12 {l : Launch} : tb_Met l vwCl sa_Ts tb_Z0 yX12_readNew cX12_readNew 2 (some .boolean) 5 189 K_X12_readNew_12 := tb_method (by decide) [12, 63, 79] (t_X12_readNew [(68, 5, 12), (76, 2, 2)] [K_X12_isName_1] [K_X12_bad_1] [K_X12_findIn_2] [K_X12_findIn_1] [K_X12_bad_3] [K_X12_go_1]) T_X12_readNew_12 [] 6000 (List.forall_mem_cons.mpr ⟨dX12_readNew_12, List.forall_mem_cons.mpr ⟨dX12_readNew_63, List.forall_mem_cons.mpr ⟨dX12_readNew_79, fun _ h => absurd h List.not_mem_nil⟩⟩⟩) (h_X12_readNew [(68, 5, 12), (76, 2, 2)] 5 189 (by decide) (by decide) [K_X12_isName_1] [K_X12_bad_1] [K_X12_findIn_2] [K_X12_findIn_1] [K_X12_bad_3] [K_X12_go_1] ⟨4, 168, List.forall_mem_cons.mpr ⟨m_X12_isName_1, fun _ h => absurd h List.not_mem_nil⟩, by decide, by decide, by decide⟩ ⟨2, 120, List.forall_mem_cons.mpr ⟨m_X12_bad_1, fun _ h => absurd h List.not_mem_nil⟩, by decide, by decide, by decide⟩ ⟨2, 120, List.forall_mem_cons.mpr ⟨m_X12_findIn_2, fun _ h => absurd h List.not_mem_nil⟩, by decide, by decide, by decide⟩ ⟨2, 120, List.forall_mem_cons.mpr ⟨m_X12_findIn_1, fun _ h => absurd h List.not_mem_nil⟩, by decide, by decide, by decide⟩ ⟨2, 120, List.forall_mem_cons.mpr ⟨m_X12_bad_3, fun _ h => absurd h List.not_mem_nil⟩, by decide, by decide, by decide⟩ ⟨3, 141, List.forall_mem_cons.mpr ⟨m_X12_go_1, fun _ h => absurd h List.not_mem_nil⟩, by decide, by decide, by decide⟩) (by decide) (by decide +kernel)
set_option maxRecDepth 200000 in
set_option maxHeartbeats 4000000 in
def K_X12_readNew_13 : tb_K := ([.inr (.inl (some 1)), .inl (2, 0)], [], [], [(0, 0), (1180591620717411303492, 1180591620717411303492), (1, 1)], [(some (.inl (3, 0)), [], [], [(0, 0), (1180591620717411303492, 1180591620717411303492), (1, 1), (0, 0)]), (some (.inl (3, 0)), [], [], [(0, 0), (1180591620717411303492, 1180591620717411303492), (1, 1), (1, 1)])], [(68, 5, 12), (76, 1, 1)])
set_option maxRecDepth 200000 in
set_option maxHeartbeats 4000000 in
def T_X12_readNew_13 : List (tb_S × tb_l) := []
set_option maxRecDepth 200000 in
set_option maxHeartbeats 4000000 in
theorem m_X12_readNew_13 {l : Launch} : tb_Met l vwCl sa_Ts tb_Z0 yX12_readNew cX12_readNew 2 (some .boolean) 5 189 K_X12_readNew_13 := tb_method (by decide) [12, 63, 79] (t_X12_readNew [(68, 5, 12), (76, 1, 1)] [K_X12_isName_1] [K_X12_bad_1] [K_X12_findIn_2] [K_X12_findIn_1] [K_X12_bad_3] [K_X12_go_1]) T_X12_readNew_13 [] 6000 (List.forall_mem_cons.mpr ⟨dX12_readNew_12, List.forall_mem_cons.mpr ⟨dX12_readNew_63, List.forall_mem_cons.mpr ⟨dX12_readNew_79, fun _ h => absurd h List.not_mem_nil⟩⟩⟩) (h_X12_readNew [(68, 5, 12), (76, 1, 1)] 5 189 (by decide) (by decide) [K_X12_isName_1] [K_X12_bad_1] [K_X12_findIn_2] [K_X12_findIn_1] [K_X12_bad_3] [K_X12_go_1] ⟨4, 168, List.forall_mem_cons.mpr ⟨m_X12_isName_1, fun _ h => absurd h List.not_mem_nil⟩, by decide, by decide, by decide⟩ ⟨2, 120, List.forall_mem_cons.mpr ⟨m_X12_bad_1, fun _ h => absurd h List.not_mem_nil⟩, by decide, by decide, by decide⟩ ⟨2, 120, List.forall_mem_cons.mpr ⟨m_X12_findIn_2, fun _ h => absurd h List.not_mem_nil⟩, by decide, by decide, by decide⟩ ⟨2, 120, List.forall_mem_cons.mpr ⟨m_X12_findIn_1, fun _ h => absurd h List.not_mem_nil⟩, by decide, by decide, by decide⟩ ⟨2, 120, List.forall_mem_cons.mpr ⟨m_X12_bad_3, fun _ h => absurd h List.not_mem_nil⟩, by decide, by decide, by decide⟩ ⟨3, 141, List.forall_mem_cons.mpr ⟨m_X12_go_1, fun _ h => absurd h List.not_mem_nil⟩, by decide, by decide, by decide⟩) (by decide) (by decide +kernel)
set_option maxRecDepth 200000 in
set_option maxHeartbeats 4000000 in
def K_X12_readNew_14 : tb_K := ([.inr (.inl (some 1)), .inl (2, 0)], [], [], [(0, 0), (1180591620717411303492, 1180591620717411303492), (0, 0)], [(some (.inl (3, 0)), [], [], [(0, 0), (1180591620717411303492, 1180591620717411303492), (0, 0), (0, 0)]), (some (.inl (3, 0)), [], [], [(0, 0), (1180591620717411303492, 1180591620717411303492), (0, 0), (1, 1)])], [(68, 5, 12), (76, 0, 0)])
set_option maxRecDepth 200000 in
set_option maxHeartbeats 4000000 in
def T_X12_readNew_14 : List (tb_S × tb_l) := []
set_option maxRecDepth 200000 in
set_option maxHeartbeats 4000000 in
theorem m_X12_readNew_14 {l : Launch} : tb_Met l vwCl sa_Ts tb_Z0 yX12_readNew cX12_readNew 2 (some .boolean) 5 189 K_X12_readNew_14 := tb_method (by decide) [12, 63, 79] (t_X12_readNew [(68, 5, 12), (76, 0, 0)] [K_X12_isName_1] [K_X12_bad_1] [K_X12_findIn_2] [K_X12_findIn_1] [K_X12_bad_3] [K_X12_go_1]) T_X12_readNew_14 [] 6000 (List.forall_mem_cons.mpr ⟨dX12_readNew_12, List.forall_mem_cons.mpr ⟨dX12_readNew_63, List.forall_mem_cons.mpr ⟨dX12_readNew_79, fun _ h => absurd h List.not_mem_nil⟩⟩⟩) (h_X12_readNew [(68, 5, 12), (76, 0, 0)] 5 189 (by decide) (by decide) [K_X12_isName_1] [K_X12_bad_1] [K_X12_findIn_2] [K_X12_findIn_1] [K_X12_bad_3] [K_X12_go_1] ⟨4, 168, List.forall_mem_cons.mpr ⟨m_X12_isName_1, fun _ h => absurd h List.not_mem_nil⟩, by decide, by decide, by decide⟩ ⟨2, 120, List.forall_mem_cons.mpr ⟨m_X12_bad_1, fun _ h => absurd h List.not_mem_nil⟩, by decide, by decide, by decide⟩ ⟨2, 120, List.forall_mem_cons.mpr ⟨m_X12_findIn_2, fun _ h => absurd h List.not_mem_nil⟩, by decide, by decide, by decide⟩ ⟨2, 120, List.forall_mem_cons.mpr ⟨m_X12_findIn_1, fun _ h => absurd h List.not_mem_nil⟩, by decide, by decide, by decide⟩ ⟨2, 120, List.forall_mem_cons.mpr ⟨m_X12_bad_3, fun _ h => absurd h List.not_mem_nil⟩, by decide, by decide, by decide⟩ ⟨3, 141, List.forall_mem_cons.mpr ⟨m_X12_go_1, fun _ h => absurd h List.not_mem_nil⟩, by decide, by decide, by decide⟩) (by decide) (by decide +kernel)
set_option maxRecDepth 200000 in
set_option maxHeartbeats 4000000 in
def K_X12_isIn_5 : tb_K := ([.inl (1, 0), .inl (2, 0), .inl (3, 0)], [], [], [(0, 0), (-2147483648, 2147483647), (1, 1), (30, 30)], [(some (.inl (4, 0)), [], [], [(0, 0), (-2147483648, 2147483647), (1, 1), (30, 30), (0, 0)]), (some (.inl (4, 0)), [], [], [(0, 0), (1, 30), (1, 1), (30, 30), (1, 1)])], [])
set_option maxRecDepth 200000 in
set_option maxHeartbeats 4000000 in
def T_X12_isIn_5 : List (tb_S × tb_l) := []
set_option maxRecDepth 200000 in
set_option maxHeartbeats 4000000 in
theorem m_X12_isIn_5 {l : Launch} : tb_Met l vwCl sa_Ts tb_Z0 yX12_isIn cX12_isIn 3 (some .boolean) 2 120 K_X12_isIn_5 := tb_method (by decide) [15] (t_X12_isIn [] ) T_X12_isIn_5 [] 6000 (List.forall_mem_cons.mpr ⟨dX12_isIn_15, fun _ h => absurd h List.not_mem_nil⟩) (h_X12_isIn [] 2 120 (by decide) (by decide)  ) (by decide) (by decide +kernel)
set_option maxRecDepth 200000 in
set_option maxHeartbeats 4000000 in
def K_X12_readNumber_5 : tb_K := ([.inr (.inl (some 1)), .inl (2, 0), .inl (3, 0)], [], [], [(0, 0), (1180591620717411303492, 1180591620717411303492), (1, 1), (30, 30)], [(some (.inl (4, 0)), [(1, (0, 13), .inl (5, 0))], [], [(0, 0), (1180591620717411303492, 1180591620717411303492), (1, 1), (30, 30), (0, 0), (-1, 999)]), (some (.inl (4, 0)), [(1, (0, 13), .inl (5, 0))], [], [(0, 0), (1180591620717411303492, 1180591620717411303492), (1, 1), (30, 30), (1, 1), (1, 30)])], [(68, 5, 13)])
set_option maxRecDepth 200000 in
set_option maxHeartbeats 4000000 in
def T_X12_readNumber_5 : List (tb_S × tb_l) := []
set_option maxRecDepth 200000 in
set_option maxHeartbeats 4000000 in
theorem m_X12_readNumber_5 {l : Launch} : tb_Met l vwCl sa_Ts tb_Z0 yX12_readNumber cX12_readNumber 3 (some .boolean) 4 165 K_X12_readNumber_5 := tb_method (by decide) [13, 31, 45] (t_X12_readNumber [(68, 5, 13)] [K_X12_bad_1] [K_X12_isIn_5] [K_X12_bad_4] [K_X12_go_1]) T_X12_readNumber_5 [] 6000 (List.forall_mem_cons.mpr ⟨dX12_readNumber_13, List.forall_mem_cons.mpr ⟨dX12_readNumber_31, List.forall_mem_cons.mpr ⟨dX12_readNumber_45, fun _ h => absurd h List.not_mem_nil⟩⟩⟩) (h_X12_readNumber [(68, 5, 13)] 4 165 (by decide) (by decide) [K_X12_bad_1] [K_X12_isIn_5] [K_X12_bad_4] [K_X12_go_1] ⟨2, 120, List.forall_mem_cons.mpr ⟨m_X12_bad_1, fun _ h => absurd h List.not_mem_nil⟩, by decide, by decide, by decide⟩ ⟨2, 120, List.forall_mem_cons.mpr ⟨m_X12_isIn_5, fun _ h => absurd h List.not_mem_nil⟩, by decide, by decide, by decide⟩ ⟨2, 120, List.forall_mem_cons.mpr ⟨m_X12_bad_4, fun _ h => absurd h List.not_mem_nil⟩, by decide, by decide, by decide⟩ ⟨3, 141, List.forall_mem_cons.mpr ⟨m_X12_go_1, fun _ h => absurd h List.not_mem_nil⟩, by decide, by decide, by decide⟩) (by decide) (by decide +kernel)
set_option maxRecDepth 200000 in
set_option maxHeartbeats 4000000 in
def K_X12_put_67 : tb_K := ([.inr (.inl (some 1)), .inl (2, 0), .inl (3, 0)], [(1, (0, 13), .inl (4, 0))], [], [(0, 0), (1180591620717411303492, 1180591620717411303492), (8, 8), (0, 0), (-1, 999)], [(some (.inl (3, 0)), [(1, (0, 15), .inr (.inl (some 5))), (1, (0, 13), .inl (4, 0)), (5, (2, 0), .inl (6, 0))], [], [(0, 0), (1180591620717411303492, 1180591620717411303492), (8, 8), (0, 0), (-1, 999), (1180591620717411303495, 1180591620717411303495), (0, 30)])], [])
set_option maxRecDepth 200000 in
set_option maxHeartbeats 4000000 in
def T_X12_put_67 : List (tb_S × tb_l) := []
set_option maxRecDepth 200000 in
set_option maxHeartbeats 4000000 in
theorem m_X12_put_67 {l : Launch} : tb_Met l vwCl sa_Ts tb_Z0 yX12_put cX12_put 3 (some .boolean) 2 120 K_X12_put_67 := tb_method (by decide) [15] (t_X12_put [] ) T_X12_put_67 [] 6000 (List.forall_mem_cons.mpr ⟨dX12_put_15, fun _ h => absurd h List.not_mem_nil⟩) (h_X12_put [] 2 120 (by decide) (by decide)  ) (by decide) (by decide +kernel)
set_option maxRecDepth 200000 in
set_option maxHeartbeats 4000000 in
def K_X12_put_68 : tb_K := ([.inr (.inl (some 1)), .inl (2, 0), .inl (3, 0)], [(1, (0, 13), .inl (4, 0))], [], [(0, 0), (1180591620717411303492, 1180591620717411303492), (8, 8), (1, 1), (1, 30)], [(some (.inl (3, 0)), [(1, (0, 15), .inr (.inl (some 5))), (1, (0, 13), .inl (4, 0)), (5, (2, 0), .inl (4, 0))], [], [(0, 0), (1180591620717411303492, 1180591620717411303492), (8, 8), (1, 1), (1, 30), (1180591620717411303495, 1180591620717411303495)])], [(71, 8, 8)])
set_option maxRecDepth 200000 in
set_option maxHeartbeats 4000000 in
def T_X12_put_68 : List (tb_S × tb_l) := []
set_option maxRecDepth 200000 in
set_option maxHeartbeats 4000000 in
theorem m_X12_put_68 {l : Launch} : tb_Met l vwCl sa_Ts tb_Z0 yX12_put cX12_put 3 (some .boolean) 2 120 K_X12_put_68 := tb_method (by decide) [15] (t_X12_put [(71, 8, 8)] ) T_X12_put_68 [] 6000 (List.forall_mem_cons.mpr ⟨dX12_put_15, fun _ h => absurd h List.not_mem_nil⟩) (h_X12_put [(71, 8, 8)] 2 120 (by decide) (by decide)  ) (by decide) (by decide +kernel)
set_option maxRecDepth 200000 in
set_option maxHeartbeats 4000000 in
def K_X12_put_69 : tb_K := ([.inr (.inl (some 1)), .inl (2, 0), .inl (3, 0)], [(1, (0, 13), .inl (4, 0))], [], [(0, 0), (1180591620717411303492, 1180591620717411303492), (7, 7), (0, 0), (-1, 999)], [(some (.inl (3, 0)), [(1, (0, 15), .inr (.inl (some 5))), (1, (0, 13), .inl (4, 0)), (5, (2, 0), .inl (6, 0))], [], [(0, 0), (1180591620717411303492, 1180591620717411303492), (7, 7), (0, 0), (-1, 999), (1180591620717411303495, 1180591620717411303495), (0, 30)])], [])
set_option maxRecDepth 200000 in
set_option maxHeartbeats 4000000 in
def T_X12_put_69 : List (tb_S × tb_l) := []
set_option maxRecDepth 200000 in
set_option maxHeartbeats 4000000 in
theorem m_X12_put_69 {l : Launch} : tb_Met l vwCl sa_Ts tb_Z0 yX12_put cX12_put 3 (some .boolean) 2 120 K_X12_put_69 := tb_method (by decide) [15] (t_X12_put [] ) T_X12_put_69 [] 6000 (List.forall_mem_cons.mpr ⟨dX12_put_15, fun _ h => absurd h List.not_mem_nil⟩) (h_X12_put [] 2 120 (by decide) (by decide)  ) (by decide) (by decide +kernel)
set_option maxRecDepth 200000 in
set_option maxHeartbeats 4000000 in
def K_X12_put_70 : tb_K := ([.inr (.inl (some 1)), .inl (2, 0), .inl (3, 0)], [(1, (0, 13), .inl (4, 0))], [], [(0, 0), (1180591620717411303492, 1180591620717411303492), (7, 7), (1, 1), (1, 30)], [(some (.inl (3, 0)), [(1, (0, 15), .inr (.inl (some 5))), (1, (0, 13), .inl (4, 0)), (5, (2, 0), .inl (4, 0))], [], [(0, 0), (1180591620717411303492, 1180591620717411303492), (7, 7), (1, 1), (1, 30), (1180591620717411303495, 1180591620717411303495)])], [(71, 7, 7)])
set_option maxRecDepth 200000 in
set_option maxHeartbeats 4000000 in
def T_X12_put_70 : List (tb_S × tb_l) := []
set_option maxRecDepth 200000 in
set_option maxHeartbeats 4000000 in
theorem m_X12_put_70 {l : Launch} : tb_Met l vwCl sa_Ts tb_Z0 yX12_put cX12_put 3 (some .boolean) 2 120 K_X12_put_70 := tb_method (by decide) [15] (t_X12_put [(71, 7, 7)] ) T_X12_put_70 [] 6000 (List.forall_mem_cons.mpr ⟨dX12_put_15, fun _ h => absurd h List.not_mem_nil⟩) (h_X12_put [(71, 7, 7)] 2 120 (by decide) (by decide)  ) (by decide) (by decide +kernel)
set_option maxRecDepth 200000 in
set_option maxHeartbeats 4000000 in
def K_X12_put_71 : tb_K := ([.inr (.inl (some 1)), .inl (2, 0), .inl (3, 0)], [(1, (0, 13), .inl (4, 0))], [], [(0, 0), (1180591620717411303492, 1180591620717411303492), (6, 6), (0, 0), (-1, 999)], [(some (.inl (3, 0)), [(1, (0, 15), .inr (.inl (some 5))), (1, (0, 13), .inl (4, 0)), (5, (2, 0), .inl (6, 0))], [], [(0, 0), (1180591620717411303492, 1180591620717411303492), (6, 6), (0, 0), (-1, 999), (1180591620717411303495, 1180591620717411303495), (0, 30)])], [])
set_option maxRecDepth 200000 in
set_option maxHeartbeats 4000000 in
def T_X12_put_71 : List (tb_S × tb_l) := []
set_option maxRecDepth 200000 in
set_option maxHeartbeats 4000000 in
theorem m_X12_put_71 {l : Launch} : tb_Met l vwCl sa_Ts tb_Z0 yX12_put cX12_put 3 (some .boolean) 2 120 K_X12_put_71 := tb_method (by decide) [15] (t_X12_put [] ) T_X12_put_71 [] 6000 (List.forall_mem_cons.mpr ⟨dX12_put_15, fun _ h => absurd h List.not_mem_nil⟩) (h_X12_put [] 2 120 (by decide) (by decide)  ) (by decide) (by decide +kernel)
set_option maxRecDepth 200000 in
set_option maxHeartbeats 4000000 in
def K_X12_put_72 : tb_K := ([.inr (.inl (some 1)), .inl (2, 0), .inl (3, 0)], [(1, (0, 13), .inl (4, 0))], [], [(0, 0), (1180591620717411303492, 1180591620717411303492), (6, 6), (1, 1), (1, 30)], [(some (.inl (3, 0)), [(1, (0, 15), .inr (.inl (some 5))), (1, (0, 13), .inl (4, 0)), (5, (2, 0), .inl (4, 0))], [], [(0, 0), (1180591620717411303492, 1180591620717411303492), (6, 6), (1, 1), (1, 30), (1180591620717411303495, 1180591620717411303495)])], [(71, 6, 6)])
set_option maxRecDepth 200000 in
set_option maxHeartbeats 4000000 in
def T_X12_put_72 : List (tb_S × tb_l) := []
set_option maxRecDepth 200000 in
set_option maxHeartbeats 4000000 in
theorem m_X12_put_72 {l : Launch} : tb_Met l vwCl sa_Ts tb_Z0 yX12_put cX12_put 3 (some .boolean) 2 120 K_X12_put_72 := tb_method (by decide) [15] (t_X12_put [(71, 6, 6)] ) T_X12_put_72 [] 6000 (List.forall_mem_cons.mpr ⟨dX12_put_15, fun _ h => absurd h List.not_mem_nil⟩) (h_X12_put [(71, 6, 6)] 2 120 (by decide) (by decide)  ) (by decide) (by decide +kernel)
set_option maxRecDepth 200000 in
set_option maxHeartbeats 4000000 in
def K_X12_put_73 : tb_K := ([.inr (.inl (some 1)), .inl (2, 0), .inl (3, 0)], [(1, (0, 13), .inl (4, 0))], [], [(0, 0), (1180591620717411303492, 1180591620717411303492), (5, 5), (0, 0), (-1, 999)], [(some (.inl (3, 0)), [(1, (0, 15), .inr (.inl (some 5))), (1, (0, 13), .inl (4, 0)), (5, (2, 0), .inl (6, 0))], [], [(0, 0), (1180591620717411303492, 1180591620717411303492), (5, 5), (0, 0), (-1, 999), (1180591620717411303495, 1180591620717411303495), (0, 30)])], [])
set_option maxRecDepth 200000 in
set_option maxHeartbeats 4000000 in
def T_X12_put_73 : List (tb_S × tb_l) := []
set_option maxRecDepth 200000 in
set_option maxHeartbeats 4000000 in
theorem m_X12_put_73 {l : Launch} : tb_Met l vwCl sa_Ts tb_Z0 yX12_put cX12_put 3 (some .boolean) 2 120 K_X12_put_73 := tb_method (by decide) [15] (t_X12_put [] ) T_X12_put_73 [] 6000 (List.forall_mem_cons.mpr ⟨dX12_put_15, fun _ h => absurd h List.not_mem_nil⟩) (h_X12_put [] 2 120 (by decide) (by decide)  ) (by decide) (by decide +kernel)
set_option maxRecDepth 200000 in
set_option maxHeartbeats 4000000 in
def K_X12_put_74 : tb_K := ([.inr (.inl (some 1)), .inl (2, 0), .inl (3, 0)], [(1, (0, 13), .inl (4, 0))], [], [(0, 0), (1180591620717411303492, 1180591620717411303492), (5, 5), (1, 1), (1, 30)], [(some (.inl (3, 0)), [(1, (0, 15), .inr (.inl (some 5))), (1, (0, 13), .inl (4, 0)), (5, (2, 0), .inl (4, 0))], [], [(0, 0), (1180591620717411303492, 1180591620717411303492), (5, 5), (1, 1), (1, 30), (1180591620717411303495, 1180591620717411303495)])], [(71, 5, 5)])
set_option maxRecDepth 200000 in
set_option maxHeartbeats 4000000 in
def T_X12_put_74 : List (tb_S × tb_l) := []
set_option maxRecDepth 200000 in
set_option maxHeartbeats 4000000 in
theorem m_X12_put_74 {l : Launch} : tb_Met l vwCl sa_Ts tb_Z0 yX12_put cX12_put 3 (some .boolean) 2 120 K_X12_put_74 := tb_method (by decide) [15] (t_X12_put [(71, 5, 5)] ) T_X12_put_74 [] 6000 (List.forall_mem_cons.mpr ⟨dX12_put_15, fun _ h => absurd h List.not_mem_nil⟩) (h_X12_put [(71, 5, 5)] 2 120 (by decide) (by decide)  ) (by decide) (by decide +kernel)
set_option maxRecDepth 200000 in
set_option maxHeartbeats 4000000 in
def K_X12_put_75 : tb_K := ([.inr (.inl (some 1)), .inl (2, 0), .inl (3, 0)], [(1, (0, 13), .inl (4, 0))], [], [(0, 0), (1180591620717411303492, 1180591620717411303492), (4, 4), (0, 0), (-1, 999)], [(some (.inl (3, 0)), [(1, (0, 15), .inr (.inl (some 5))), (1, (0, 13), .inl (4, 0)), (5, (2, 0), .inl (6, 0))], [], [(0, 0), (1180591620717411303492, 1180591620717411303492), (4, 4), (0, 0), (-1, 999), (1180591620717411303495, 1180591620717411303495), (0, 30)])], [])
set_option maxRecDepth 200000 in
set_option maxHeartbeats 4000000 in
def T_X12_put_75 : List (tb_S × tb_l) := []
set_option maxRecDepth 200000 in
set_option maxHeartbeats 4000000 in
theorem m_X12_put_75 {l : Launch} : tb_Met l vwCl sa_Ts tb_Z0 yX12_put cX12_put 3 (some .boolean) 2 120 K_X12_put_75 := tb_method (by decide) [15] (t_X12_put [] ) T_X12_put_75 [] 6000 (List.forall_mem_cons.mpr ⟨dX12_put_15, fun _ h => absurd h List.not_mem_nil⟩) (h_X12_put [] 2 120 (by decide) (by decide)  ) (by decide) (by decide +kernel)
set_option maxRecDepth 200000 in
set_option maxHeartbeats 4000000 in
def K_X12_put_76 : tb_K := ([.inr (.inl (some 1)), .inl (2, 0), .inl (3, 0)], [(1, (0, 13), .inl (4, 0))], [], [(0, 0), (1180591620717411303492, 1180591620717411303492), (4, 4), (1, 1), (1, 30)], [(some (.inl (3, 0)), [(1, (0, 15), .inr (.inl (some 5))), (1, (0, 13), .inl (4, 0)), (5, (2, 0), .inl (4, 0))], [], [(0, 0), (1180591620717411303492, 1180591620717411303492), (4, 4), (1, 1), (1, 30), (1180591620717411303495, 1180591620717411303495)])], [(71, 4, 4)])
set_option maxRecDepth 200000 in
set_option maxHeartbeats 4000000 in
def T_X12_put_76 : List (tb_S × tb_l) := []
set_option maxRecDepth 200000 in
set_option maxHeartbeats 4000000 in
theorem m_X12_put_76 {l : Launch} : tb_Met l vwCl sa_Ts tb_Z0 yX12_put cX12_put 3 (some .boolean) 2 120 K_X12_put_76 := tb_method (by decide) [15] (t_X12_put [(71, 4, 4)] ) T_X12_put_76 [] 6000 (List.forall_mem_cons.mpr ⟨dX12_put_15, fun _ h => absurd h List.not_mem_nil⟩) (h_X12_put [(71, 4, 4)] 2 120 (by decide) (by decide)  ) (by decide) (by decide +kernel)
set_option maxRecDepth 200000 in
set_option maxHeartbeats 4000000 in
def K_X12_put_77 : tb_K := ([.inr (.inl (some 1)), .inl (2, 0), .inl (3, 0)], [(1, (0, 13), .inl (4, 0))], [], [(0, 0), (1180591620717411303492, 1180591620717411303492), (3, 3), (0, 0), (-1, 999)], [(some (.inl (3, 0)), [(1, (0, 15), .inr (.inl (some 5))), (1, (0, 13), .inl (4, 0)), (5, (2, 0), .inl (6, 0))], [], [(0, 0), (1180591620717411303492, 1180591620717411303492), (3, 3), (0, 0), (-1, 999), (1180591620717411303495, 1180591620717411303495), (0, 30)])], [])
set_option maxRecDepth 200000 in
set_option maxHeartbeats 4000000 in
def T_X12_put_77 : List (tb_S × tb_l) := []
set_option maxRecDepth 200000 in
set_option maxHeartbeats 4000000 in
theorem m_X12_put_77 {l : Launch} : tb_Met l vwCl sa_Ts tb_Z0 yX12_put cX12_put 3 (some .boolean) 2 120 K_X12_put_77 := tb_method (by decide) [15] (t_X12_put [] ) T_X12_put_77 [] 6000 (List.forall_mem_cons.mpr ⟨dX12_put_15, fun _ h => absurd h List.not_mem_nil⟩) (h_X12_put [] 2 120 (by decide) (by decide)  ) (by decide) (by decide +kernel)
set_option maxRecDepth 200000 in
set_option maxHeartbeats 4000000 in
def K_X12_put_78 : tb_K := ([.inr (.inl (some 1)), .inl (2, 0), .inl (3, 0)], [(1, (0, 13), .inl (4, 0))], [], [(0, 0), (1180591620717411303492, 1180591620717411303492), (3, 3), (1, 1), (1, 30)], [(some (.inl (3, 0)), [(1, (0, 15), .inr (.inl (some 5))), (1, (0, 13), .inl (4, 0)), (5, (2, 0), .inl (4, 0))], [], [(0, 0), (1180591620717411303492, 1180591620717411303492), (3, 3), (1, 1), (1, 30), (1180591620717411303495, 1180591620717411303495)])], [(71, 3, 3)])
set_option maxRecDepth 200000 in
set_option maxHeartbeats 4000000 in
def T_X12_put_78 : List (tb_S × tb_l) := []
set_option maxRecDepth 200000 in
set_option maxHeartbeats 4000000 in
theorem m_X12_put_78 {l : Launch} : tb_Met l vwCl sa_Ts tb_Z0 yX12_put cX12_put 3 (some .boolean) 2 120 K_X12_put_78 := tb_method (by decide) [15] (t_X12_put [(71, 3, 3)] ) T_X12_put_78 [] 6000 (List.forall_mem_cons.mpr ⟨dX12_put_15, fun _ h => absurd h List.not_mem_nil⟩) (h_X12_put [(71, 3, 3)] 2 120 (by decide) (by decide)  ) (by decide) (by decide +kernel)
set_option maxRecDepth 200000 in
set_option maxHeartbeats 4000000 in
def K_X12_isIn_6 : tb_K := ([.inl (1, 0), .inl (2, 0), .inl (3, 0)], [], [], [(0, 0), (-2147483648, 2147483647), (0, 0), (20, 20)], [(some (.inl (4, 0)), [], [], [(0, 0), (-2147483648, 2147483647), (0, 0), (20, 20), (0, 0)]), (some (.inl (4, 0)), [], [], [(0, 0), (0, 20), (0, 0), (20, 20), (1, 1)])], [])
set_option maxRecDepth 200000 in
set_option maxHeartbeats 4000000 in
def T_X12_isIn_6 : List (tb_S × tb_l) := []
set_option maxRecDepth 200000 in
set_option maxHeartbeats 4000000 in
theorem m_X12_isIn_6 {l : Launch} : tb_Met l vwCl sa_Ts tb_Z0 yX12_isIn cX12_isIn 3 (some .boolean) 2 120 K_X12_isIn_6 := tb_method (by decide) [15] (t_X12_isIn [] ) T_X12_isIn_6 [] 6000 (List.forall_mem_cons.mpr ⟨dX12_isIn_15, fun _ h => absurd h List.not_mem_nil⟩) (h_X12_isIn [] 2 120 (by decide) (by decide)  ) (by decide) (by decide +kernel)
set_option maxRecDepth 200000 in
set_option maxHeartbeats 4000000 in
def K_X12_readNumber_6 : tb_K := ([.inr (.inl (some 1)), .inl (2, 0), .inl (3, 0)], [], [], [(0, 0), (1180591620717411303492, 1180591620717411303492), (0, 0), (20, 20)], [(some (.inl (4, 0)), [(1, (0, 13), .inl (5, 0))], [], [(0, 0), (1180591620717411303492, 1180591620717411303492), (0, 0), (20, 20), (0, 0), (-1, 999)]), (some (.inl (4, 0)), [(1, (0, 13), .inl (5, 0))], [], [(0, 0), (1180591620717411303492, 1180591620717411303492), (0, 0), (20, 20), (1, 1), (0, 20)])], [(68, 5, 13)])
set_option maxRecDepth 200000 in
set_option maxHeartbeats 4000000 in
def T_X12_readNumber_6 : List (tb_S × tb_l) := []
set_option maxRecDepth 200000 in
set_option maxHeartbeats 4000000 in
theorem m_X12_readNumber_6 {l : Launch} : tb_Met l vwCl sa_Ts tb_Z0 yX12_readNumber cX12_readNumber 3 (some .boolean) 4 165 K_X12_readNumber_6 := tb_method (by decide) [13, 31, 45] (t_X12_readNumber [(68, 5, 13)] [K_X12_bad_1] [K_X12_isIn_6] [K_X12_bad_4] [K_X12_go_1]) T_X12_readNumber_6 [] 6000 (List.forall_mem_cons.mpr ⟨dX12_readNumber_13, List.forall_mem_cons.mpr ⟨dX12_readNumber_31, List.forall_mem_cons.mpr ⟨dX12_readNumber_45, fun _ h => absurd h List.not_mem_nil⟩⟩⟩) (h_X12_readNumber [(68, 5, 13)] 4 165 (by decide) (by decide) [K_X12_bad_1] [K_X12_isIn_6] [K_X12_bad_4] [K_X12_go_1] ⟨2, 120, List.forall_mem_cons.mpr ⟨m_X12_bad_1, fun _ h => absurd h List.not_mem_nil⟩, by decide, by decide, by decide⟩ ⟨2, 120, List.forall_mem_cons.mpr ⟨m_X12_isIn_6, fun _ h => absurd h List.not_mem_nil⟩, by decide, by decide, by decide⟩ ⟨2, 120, List.forall_mem_cons.mpr ⟨m_X12_bad_4, fun _ h => absurd h List.not_mem_nil⟩, by decide, by decide, by decide⟩ ⟨3, 141, List.forall_mem_cons.mpr ⟨m_X12_go_1, fun _ h => absurd h List.not_mem_nil⟩, by decide, by decide, by decide⟩) (by decide) (by decide +kernel)
set_option maxRecDepth 200000 in
set_option maxHeartbeats 4000000 in
def K_X12_put_79 : tb_K := ([.inr (.inl (some 1)), .inl (2, 0), .inl (3, 0)], [(1, (0, 13), .inl (4, 0))], [], [(0, 0), (1180591620717411303492, 1180591620717411303492), (14, 14), (0, 0), (-1, 999)], [(some (.inl (3, 0)), [(1, (0, 15), .inr (.inl (some 5))), (1, (0, 13), .inl (4, 0)), (5, (2, 0), .inl (6, 0))], [], [(0, 0), (1180591620717411303492, 1180591620717411303492), (14, 14), (0, 0), (-1, 999), (1180591620717411303495, 1180591620717411303495), (0, 20)])], [])
set_option maxRecDepth 200000 in
set_option maxHeartbeats 4000000 in
def T_X12_put_79 : List (tb_S × tb_l) := []
set_option maxRecDepth 200000 in
set_option maxHeartbeats 4000000 in
theorem m_X12_put_79 {l : Launch} : tb_Met l vwCl sa_Ts tb_Z0 yX12_put cX12_put 3 (some .boolean) 2 120 K_X12_put_79 := tb_method (by decide) [15] (t_X12_put [] ) T_X12_put_79 [] 6000 (List.forall_mem_cons.mpr ⟨dX12_put_15, fun _ h => absurd h List.not_mem_nil⟩) (h_X12_put [] 2 120 (by decide) (by decide)  ) (by decide) (by decide +kernel)
set_option maxRecDepth 200000 in
set_option maxHeartbeats 4000000 in
def K_X12_put_80 : tb_K := ([.inr (.inl (some 1)), .inl (2, 0), .inl (3, 0)], [(1, (0, 13), .inl (4, 0))], [], [(0, 0), (1180591620717411303492, 1180591620717411303492), (14, 14), (1, 1), (0, 20)], [(some (.inl (3, 0)), [(1, (0, 15), .inr (.inl (some 5))), (1, (0, 13), .inl (4, 0)), (5, (2, 0), .inl (4, 0))], [], [(0, 0), (1180591620717411303492, 1180591620717411303492), (14, 14), (1, 1), (0, 20), (1180591620717411303495, 1180591620717411303495)])], [(71, 14, 14)])
set_option maxRecDepth 200000 in
set_option maxHeartbeats 4000000 in
def T_X12_put_80 : List (tb_S × tb_l) := []
set_option maxRecDepth 200000 in
set_option maxHeartbeats 4000000 in
theorem m_X12_put_80 {l : Launch} : tb_Met l vwCl sa_Ts tb_Z0 yX12_put cX12_put 3 (some .boolean) 2 120 K_X12_put_80 := tb_method (by decide) [15] (t_X12_put [(71, 14, 14)] ) T_X12_put_80 [] 6000 (List.forall_mem_cons.mpr ⟨dX12_put_15, fun _ h => absurd h List.not_mem_nil⟩) (h_X12_put [(71, 14, 14)] 2 120 (by decide) (by decide)  ) (by decide) (by decide +kernel)
set_option maxRecDepth 200000 in
set_option maxHeartbeats 4000000 in
def K_X12_put_81 : tb_K := ([.inr (.inl (some 1)), .inl (2, 0), .inl (3, 0)], [(1, (0, 13), .inl (4, 0))], [], [(0, 0), (1180591620717411303492, 1180591620717411303492), (13, 13), (0, 0), (-1, 999)], [(some (.inl (3, 0)), [(1, (0, 15), .inr (.inl (some 5))), (1, (0, 13), .inl (4, 0)), (5, (2, 0), .inl (6, 0))], [], [(0, 0), (1180591620717411303492, 1180591620717411303492), (13, 13), (0, 0), (-1, 999), (1180591620717411303495, 1180591620717411303495), (0, 20)])], [])
set_option maxRecDepth 200000 in
set_option maxHeartbeats 4000000 in
def T_X12_put_81 : List (tb_S × tb_l) := []
set_option maxRecDepth 200000 in
set_option maxHeartbeats 4000000 in
theorem m_X12_put_81 {l : Launch} : tb_Met l vwCl sa_Ts tb_Z0 yX12_put cX12_put 3 (some .boolean) 2 120 K_X12_put_81 := tb_method (by decide) [15] (t_X12_put [] ) T_X12_put_81 [] 6000 (List.forall_mem_cons.mpr ⟨dX12_put_15, fun _ h => absurd h List.not_mem_nil⟩) (h_X12_put [] 2 120 (by decide) (by decide)  ) (by decide) (by decide +kernel)
set_option maxRecDepth 200000 in
set_option maxHeartbeats 4000000 in
def K_X12_put_82 : tb_K := ([.inr (.inl (some 1)), .inl (2, 0), .inl (3, 0)], [(1, (0, 13), .inl (4, 0))], [], [(0, 0), (1180591620717411303492, 1180591620717411303492), (13, 13), (1, 1), (0, 20)], [(some (.inl (3, 0)), [(1, (0, 15), .inr (.inl (some 5))), (1, (0, 13), .inl (4, 0)), (5, (2, 0), .inl (4, 0))], [], [(0, 0), (1180591620717411303492, 1180591620717411303492), (13, 13), (1, 1), (0, 20), (1180591620717411303495, 1180591620717411303495)])], [(71, 13, 13)])
set_option maxRecDepth 200000 in
set_option maxHeartbeats 4000000 in
def T_X12_put_82 : List (tb_S × tb_l) := []
set_option maxRecDepth 200000 in
set_option maxHeartbeats 4000000 in
theorem m_X12_put_82 {l : Launch} : tb_Met l vwCl sa_Ts tb_Z0 yX12_put cX12_put 3 (some .boolean) 2 120 K_X12_put_82 := tb_method (by decide) [15] (t_X12_put [(71, 13, 13)] ) T_X12_put_82 [] 6000 (List.forall_mem_cons.mpr ⟨dX12_put_15, fun _ h => absurd h List.not_mem_nil⟩) (h_X12_put [(71, 13, 13)] 2 120 (by decide) (by decide)  ) (by decide) (by decide +kernel)
set_option maxRecDepth 200000 in
set_option maxHeartbeats 4000000 in
def K_X12_put_83 : tb_K := ([.inr (.inl (some 1)), .inl (2, 0), .inl (3, 0)], [(1, (0, 13), .inl (4, 0))], [], [(0, 0), (1180591620717411303492, 1180591620717411303492), (12, 12), (0, 0), (-1, 999)], [(some (.inl (3, 0)), [(1, (0, 15), .inr (.inl (some 5))), (1, (0, 13), .inl (4, 0)), (5, (2, 0), .inl (6, 0))], [], [(0, 0), (1180591620717411303492, 1180591620717411303492), (12, 12), (0, 0), (-1, 999), (1180591620717411303495, 1180591620717411303495), (0, 20)])], [])
set_option maxRecDepth 200000 in
set_option maxHeartbeats 4000000 in
def T_X12_put_83 : List (tb_S × tb_l) := []
set_option maxRecDepth 200000 in
set_option maxHeartbeats 4000000 in
theorem m_X12_put_83 {l : Launch} : tb_Met l vwCl sa_Ts tb_Z0 yX12_put cX12_put 3 (some .boolean) 2 120 K_X12_put_83 := tb_method (by decide) [15] (t_X12_put [] ) T_X12_put_83 [] 6000 (List.forall_mem_cons.mpr ⟨dX12_put_15, fun _ h => absurd h List.not_mem_nil⟩) (h_X12_put [] 2 120 (by decide) (by decide)  ) (by decide) (by decide +kernel)
set_option maxRecDepth 200000 in
set_option maxHeartbeats 4000000 in
def K_X12_put_84 : tb_K := ([.inr (.inl (some 1)), .inl (2, 0), .inl (3, 0)], [(1, (0, 13), .inl (4, 0))], [], [(0, 0), (1180591620717411303492, 1180591620717411303492), (12, 12), (1, 1), (0, 20)], [(some (.inl (3, 0)), [(1, (0, 15), .inr (.inl (some 5))), (1, (0, 13), .inl (4, 0)), (5, (2, 0), .inl (4, 0))], [], [(0, 0), (1180591620717411303492, 1180591620717411303492), (12, 12), (1, 1), (0, 20), (1180591620717411303495, 1180591620717411303495)])], [(71, 12, 12)])
set_option maxRecDepth 200000 in
set_option maxHeartbeats 4000000 in
def T_X12_put_84 : List (tb_S × tb_l) := []
set_option maxRecDepth 200000 in
set_option maxHeartbeats 4000000 in
theorem m_X12_put_84 {l : Launch} : tb_Met l vwCl sa_Ts tb_Z0 yX12_put cX12_put 3 (some .boolean) 2 120 K_X12_put_84 := tb_method (by decide) [15] (t_X12_put [(71, 12, 12)] ) T_X12_put_84 [] 6000 (List.forall_mem_cons.mpr ⟨dX12_put_15, fun _ h => absurd h List.not_mem_nil⟩) (h_X12_put [(71, 12, 12)] 2 120 (by decide) (by decide)  ) (by decide) (by decide +kernel)
set_option maxRecDepth 200000 in
set_option maxHeartbeats 4000000 in
def K_X12_put_85 : tb_K := ([.inr (.inl (some 1)), .inl (2, 0), .inl (3, 0)], [(1, (0, 13), .inl (4, 0))], [], [(0, 0), (1180591620717411303492, 1180591620717411303492), (11, 11), (0, 0), (-1, 999)], [(some (.inl (3, 0)), [(1, (0, 15), .inr (.inl (some 5))), (1, (0, 13), .inl (4, 0)), (5, (2, 0), .inl (6, 0))], [], [(0, 0), (1180591620717411303492, 1180591620717411303492), (11, 11), (0, 0), (-1, 999), (1180591620717411303495, 1180591620717411303495), (0, 20)])], [])
set_option maxRecDepth 200000 in
set_option maxHeartbeats 4000000 in
def T_X12_put_85 : List (tb_S × tb_l) := []
set_option maxRecDepth 200000 in
set_option maxHeartbeats 4000000 in
theorem m_X12_put_85 {l : Launch} : tb_Met l vwCl sa_Ts tb_Z0 yX12_put cX12_put 3 (some .boolean) 2 120 K_X12_put_85 := tb_method (by decide) [15] (t_X12_put [] ) T_X12_put_85 [] 6000 (List.forall_mem_cons.mpr ⟨dX12_put_15, fun _ h => absurd h List.not_mem_nil⟩) (h_X12_put [] 2 120 (by decide) (by decide)  ) (by decide) (by decide +kernel)
set_option maxRecDepth 200000 in
set_option maxHeartbeats 4000000 in
def K_X12_put_86 : tb_K := ([.inr (.inl (some 1)), .inl (2, 0), .inl (3, 0)], [(1, (0, 13), .inl (4, 0))], [], [(0, 0), (1180591620717411303492, 1180591620717411303492), (11, 11), (1, 1), (0, 20)], [(some (.inl (3, 0)), [(1, (0, 15), .inr (.inl (some 5))), (1, (0, 13), .inl (4, 0)), (5, (2, 0), .inl (4, 0))], [], [(0, 0), (1180591620717411303492, 1180591620717411303492), (11, 11), (1, 1), (0, 20), (1180591620717411303495, 1180591620717411303495)])], [(71, 11, 11)])
set_option maxRecDepth 200000 in
set_option maxHeartbeats 4000000 in
def T_X12_put_86 : List (tb_S × tb_l) := []
set_option maxRecDepth 200000 in
set_option maxHeartbeats 4000000 in
theorem m_X12_put_86 {l : Launch} : tb_Met l vwCl sa_Ts tb_Z0 yX12_put cX12_put 3 (some .boolean) 2 120 K_X12_put_86 := tb_method (by decide) [15] (t_X12_put [(71, 11, 11)] ) T_X12_put_86 [] 6000 (List.forall_mem_cons.mpr ⟨dX12_put_15, fun _ h => absurd h List.not_mem_nil⟩) (h_X12_put [(71, 11, 11)] 2 120 (by decide) (by decide)  ) (by decide) (by decide +kernel)
set_option maxRecDepth 200000 in
set_option maxHeartbeats 4000000 in
def K_X12_put_87 : tb_K := ([.inr (.inl (some 1)), .inl (2, 0), .inl (3, 0)], [(1, (0, 13), .inl (4, 0))], [], [(0, 0), (1180591620717411303492, 1180591620717411303492), (10, 10), (0, 0), (-1, 999)], [(some (.inl (3, 0)), [(1, (0, 15), .inr (.inl (some 5))), (1, (0, 13), .inl (4, 0)), (5, (2, 0), .inl (6, 0))], [], [(0, 0), (1180591620717411303492, 1180591620717411303492), (10, 10), (0, 0), (-1, 999), (1180591620717411303495, 1180591620717411303495), (0, 20)])], [])
set_option maxRecDepth 200000 in
set_option maxHeartbeats 4000000 in
def T_X12_put_87 : List (tb_S × tb_l) := []
set_option maxRecDepth 200000 in
set_option maxHeartbeats 4000000 in
theorem m_X12_put_87 {l : Launch} : tb_Met l vwCl sa_Ts tb_Z0 yX12_put cX12_put 3 (some .boolean) 2 120 K_X12_put_87 := tb_method (by decide) [15] (t_X12_put [] ) T_X12_put_87 [] 6000 (List.forall_mem_cons.mpr ⟨dX12_put_15, fun _ h => absurd h List.not_mem_nil⟩) (h_X12_put [] 2 120 (by decide) (by decide)  ) (by decide) (by decide +kernel)
set_option maxRecDepth 200000 in
set_option maxHeartbeats 4000000 in
def K_X12_put_88 : tb_K := ([.inr (.inl (some 1)), .inl (2, 0), .inl (3, 0)], [(1, (0, 13), .inl (4, 0))], [], [(0, 0), (1180591620717411303492, 1180591620717411303492), (10, 10), (1, 1), (0, 20)], [(some (.inl (3, 0)), [(1, (0, 15), .inr (.inl (some 5))), (1, (0, 13), .inl (4, 0)), (5, (2, 0), .inl (4, 0))], [], [(0, 0), (1180591620717411303492, 1180591620717411303492), (10, 10), (1, 1), (0, 20), (1180591620717411303495, 1180591620717411303495)])], [(71, 10, 10)])
set_option maxRecDepth 200000 in
set_option maxHeartbeats 4000000 in
def T_X12_put_88 : List (tb_S × tb_l) := []
set_option maxRecDepth 200000 in
set_option maxHeartbeats 4000000 in
theorem m_X12_put_88 {l : Launch} : tb_Met l vwCl sa_Ts tb_Z0 yX12_put cX12_put 3 (some .boolean) 2 120 K_X12_put_88 := tb_method (by decide) [15] (t_X12_put [(71, 10, 10)] ) T_X12_put_88 [] 6000 (List.forall_mem_cons.mpr ⟨dX12_put_15, fun _ h => absurd h List.not_mem_nil⟩) (h_X12_put [(71, 10, 10)] 2 120 (by decide) (by decide)  ) (by decide) (by decide +kernel)
set_option maxRecDepth 200000 in
set_option maxHeartbeats 4000000 in
def K_X12_put_89 : tb_K := ([.inr (.inl (some 1)), .inl (2, 0), .inl (3, 0)], [(1, (0, 13), .inl (4, 0))], [], [(0, 0), (1180591620717411303492, 1180591620717411303492), (9, 9), (0, 0), (-1, 999)], [(some (.inl (3, 0)), [(1, (0, 15), .inr (.inl (some 5))), (1, (0, 13), .inl (4, 0)), (5, (2, 0), .inl (6, 0))], [], [(0, 0), (1180591620717411303492, 1180591620717411303492), (9, 9), (0, 0), (-1, 999), (1180591620717411303495, 1180591620717411303495), (0, 20)])], [])
set_option maxRecDepth 200000 in
set_option maxHeartbeats 4000000 in
def T_X12_put_89 : List (tb_S × tb_l) := []
set_option maxRecDepth 200000 in
set_option maxHeartbeats 4000000 in
theorem m_X12_put_89 {l : Launch} : tb_Met l vwCl sa_Ts tb_Z0 yX12_put cX12_put 3 (some .boolean) 2 120 K_X12_put_89 := tb_method (by decide) [15] (t_X12_put [] ) T_X12_put_89 [] 6000 (List.forall_mem_cons.mpr ⟨dX12_put_15, fun _ h => absurd h List.not_mem_nil⟩) (h_X12_put [] 2 120 (by decide) (by decide)  ) (by decide) (by decide +kernel)
set_option maxRecDepth 200000 in
set_option maxHeartbeats 4000000 in
def K_X12_put_90 : tb_K := ([.inr (.inl (some 1)), .inl (2, 0), .inl (3, 0)], [(1, (0, 13), .inl (4, 0))], [], [(0, 0), (1180591620717411303492, 1180591620717411303492), (9, 9), (1, 1), (0, 20)], [(some (.inl (3, 0)), [(1, (0, 15), .inr (.inl (some 5))), (1, (0, 13), .inl (4, 0)), (5, (2, 0), .inl (4, 0))], [], [(0, 0), (1180591620717411303492, 1180591620717411303492), (9, 9), (1, 1), (0, 20), (1180591620717411303495, 1180591620717411303495)])], [(71, 9, 9)])
set_option maxRecDepth 200000 in
set_option maxHeartbeats 4000000 in
def T_X12_put_90 : List (tb_S × tb_l) := []
set_option maxRecDepth 200000 in
set_option maxHeartbeats 4000000 in
theorem m_X12_put_90 {l : Launch} : tb_Met l vwCl sa_Ts tb_Z0 yX12_put cX12_put 3 (some .boolean) 2 120 K_X12_put_90 := tb_method (by decide) [15] (t_X12_put [(71, 9, 9)] ) T_X12_put_90 [] 6000 (List.forall_mem_cons.mpr ⟨dX12_put_15, fun _ h => absurd h List.not_mem_nil⟩) (h_X12_put [(71, 9, 9)] 2 120 (by decide) (by decide)  ) (by decide) (by decide +kernel)
set_option maxRecDepth 200000 in
set_option maxHeartbeats 4000000 in
def K_X12_findIn_3 : tb_K := ([.inr (.inl (some 1)), .inl (2, 0), .inl (3, 0), .inr (.inr 4)], [], [], [(0, 0), (1180591620717411303500, 1180591620717411303500), (0, 0), (5, 5), (-9223372036854775808, 9223372036854775807)], [(some (.inl (5, 0)), [], [], [(0, 0), (1180591620717411303500, 1180591620717411303500), (0, 0), (5, 5), (-9223372036854775808, 9223372036854775807), (-1, 4)])], [])
set_option maxRecDepth 200000 in
set_option maxHeartbeats 4000000 in
def T_X12_findIn_3 : List (tb_S × tb_l) := [((3, [(0, .inr (.inl (some 1))), (1, .inl (2, 0)), (2, .inl (3, 0)), (3, .inr (.inr 4)), (5, .inl (5, 0))], [], ([], [], []), [(0, 0), (1180591620717411303500, 1180591620717411303500), (0, 0), (5, 5), (-9223372036854775808, 9223372036854775807), (0, 5)], 0, 0), ([(5, (-1))], 5))]
set_option maxRecDepth 200000 in
set_option maxHeartbeats 4000000 in
theorem m_X12_findIn_3 {l : Launch} : tb_Met l vwCl sa_Ts tb_Z0 yX12_findIn cX12_findIn 6 (some .int) 2 120 K_X12_findIn_3 := tb_method (by decide) [22, 30] (t_X12_findIn [] ) T_X12_findIn_3 [3] 6000 (List.forall_mem_cons.mpr ⟨dX12_findIn_22, List.forall_mem_cons.mpr ⟨dX12_findIn_30, fun _ h => absurd h List.not_mem_nil⟩⟩) (h_X12_findIn [] 2 120 (by decide) (by decide)  ) (by decide) (by decide +kernel)
set_option maxRecDepth 200000 in
set_option maxHeartbeats 4000000 in
def K_X12_readOne_3 : tb_K := ([.inr (.inl (some 1)), .inl (2, 0), .inl (3, 0)], [], [], [(0, 0), (1180591620717411303492, 1180591620717411303492), (0, 0), (5, 5)], [(some (.inl (4, 0)), [(1, (0, 13), .inl (5, 0))], [], [(0, 0), (1180591620717411303492, 1180591620717411303492), (0, 0), (5, 5), (0, 0), (-1, 999)]), (some (.inl (4, 0)), [(1, (0, 13), .inl (5, 0))], [], [(0, 0), (1180591620717411303492, 1180591620717411303492), (0, 0), (5, 5), (1, 1), (0, 4)])], [(68, 5, 13)])
set_option maxRecDepth 200000 in
set_option maxHeartbeats 4000000 in
def T_X12_readOne_3 : List (tb_S × tb_l) := []
set_option maxRecDepth 200000 in
set_option maxHeartbeats 4000000 in
theorem m_X12_readOne_3 {l : Launch} : tb_Met l vwCl sa_Ts tb_Z0 yX12_readOne cX12_readOne 3 (some .boolean) 5 189 K_X12_readOne_3 := tb_method (by decide) [12, 43, 49] (t_X12_readOne [(68, 5, 13)] [K_X12_isName_1] [K_X12_bad_1] [K_X12_findIn_3] [K_X12_bad_3] [K_X12_go_1]) T_X12_readOne_3 [] 6000 (List.forall_mem_cons.mpr ⟨dX12_readOne_12, List.forall_mem_cons.mpr ⟨dX12_readOne_43, List.forall_mem_cons.mpr ⟨dX12_readOne_49, fun _ h => absurd h List.not_mem_nil⟩⟩⟩) (h_X12_readOne [(68, 5, 13)] 5 189 (by decide) (by decide) [K_X12_isName_1] [K_X12_bad_1] [K_X12_findIn_3] [K_X12_bad_3] [K_X12_go_1] ⟨4, 168, List.forall_mem_cons.mpr ⟨m_X12_isName_1, fun _ h => absurd h List.not_mem_nil⟩, by decide, by decide, by decide⟩ ⟨2, 120, List.forall_mem_cons.mpr ⟨m_X12_bad_1, fun _ h => absurd h List.not_mem_nil⟩, by decide, by decide, by decide⟩ ⟨2, 120, List.forall_mem_cons.mpr ⟨m_X12_findIn_3, fun _ h => absurd h List.not_mem_nil⟩, by decide, by decide, by decide⟩ ⟨2, 120, List.forall_mem_cons.mpr ⟨m_X12_bad_3, fun _ h => absurd h List.not_mem_nil⟩, by decide, by decide, by decide⟩ ⟨3, 141, List.forall_mem_cons.mpr ⟨m_X12_go_1, fun _ h => absurd h List.not_mem_nil⟩, by decide, by decide, by decide⟩) (by decide) (by decide +kernel)
set_option maxRecDepth 200000 in
set_option maxHeartbeats 4000000 in
def K_X12_findIn_4 : tb_K := ([.inr (.inl (some 1)), .inl (2, 0), .inl (3, 0), .inr (.inr 4)], [], [], [(0, 0), (1180591620717411303500, 1180591620717411303500), (0, 0), (4, 4), (-9223372036854775808, 9223372036854775807)], [(some (.inl (5, 0)), [], [], [(0, 0), (1180591620717411303500, 1180591620717411303500), (0, 0), (4, 4), (-9223372036854775808, 9223372036854775807), (-1, 3)])], [])
set_option maxRecDepth 200000 in
set_option maxHeartbeats 4000000 in
def T_X12_findIn_4 : List (tb_S × tb_l) := [((3, [(0, .inr (.inl (some 1))), (1, .inl (2, 0)), (2, .inl (3, 0)), (3, .inr (.inr 4)), (5, .inl (5, 0))], [], ([], [], []), [(0, 0), (1180591620717411303500, 1180591620717411303500), (0, 0), (4, 4), (-9223372036854775808, 9223372036854775807), (0, 4)], 0, 0), ([(5, (-1))], 4))]
set_option maxRecDepth 200000 in
set_option maxHeartbeats 4000000 in
theorem m_X12_findIn_4 {l : Launch} : tb_Met l vwCl sa_Ts tb_Z0 yX12_findIn cX12_findIn 6 (some .int) 2 120 K_X12_findIn_4 := tb_method (by decide) [22, 30] (t_X12_findIn [] ) T_X12_findIn_4 [3] 6000 (List.forall_mem_cons.mpr ⟨dX12_findIn_22, List.forall_mem_cons.mpr ⟨dX12_findIn_30, fun _ h => absurd h List.not_mem_nil⟩⟩) (h_X12_findIn [] 2 120 (by decide) (by decide)  ) (by decide) (by decide +kernel)
set_option maxRecDepth 200000 in
set_option maxHeartbeats 4000000 in
def K_X12_readOne_4 : tb_K := ([.inr (.inl (some 1)), .inl (2, 0), .inl (3, 0)], [], [], [(0, 0), (1180591620717411303492, 1180591620717411303492), (0, 0), (4, 4)], [(some (.inl (4, 0)), [(1, (0, 13), .inl (5, 0))], [], [(0, 0), (1180591620717411303492, 1180591620717411303492), (0, 0), (4, 4), (0, 0), (-1, 999)]), (some (.inl (4, 0)), [(1, (0, 13), .inl (5, 0))], [], [(0, 0), (1180591620717411303492, 1180591620717411303492), (0, 0), (4, 4), (1, 1), (0, 3)])], [(68, 5, 13)])
set_option maxRecDepth 200000 in
set_option maxHeartbeats 4000000 in
def T_X12_readOne_4 : List (tb_S × tb_l) := []
set_option maxRecDepth 200000 in
set_option maxHeartbeats 4000000 in
theorem m_X12_readOne_4 {l : Launch} : tb_Met l vwCl sa_Ts tb_Z0 yX12_readOne cX12_readOne 3 (some .boolean) 5 189 K_X12_readOne_4 := tb_method (by decide) [12, 43, 49] (t_X12_readOne [(68, 5, 13)] [K_X12_isName_1] [K_X12_bad_1] [K_X12_findIn_4] [K_X12_bad_3] [K_X12_go_1]) T_X12_readOne_4 [] 6000 (List.forall_mem_cons.mpr ⟨dX12_readOne_12, List.forall_mem_cons.mpr ⟨dX12_readOne_43, List.forall_mem_cons.mpr ⟨dX12_readOne_49, fun _ h => absurd h List.not_mem_nil⟩⟩⟩) (h_X12_readOne [(68, 5, 13)] 5 189 (by decide) (by decide) [K_X12_isName_1] [K_X12_bad_1] [K_X12_findIn_4] [K_X12_bad_3] [K_X12_go_1] ⟨4, 168, List.forall_mem_cons.mpr ⟨m_X12_isName_1, fun _ h => absurd h List.not_mem_nil⟩, by decide, by decide, by decide⟩ ⟨2, 120, List.forall_mem_cons.mpr ⟨m_X12_bad_1, fun _ h => absurd h List.not_mem_nil⟩, by decide, by decide, by decide⟩ ⟨2, 120, List.forall_mem_cons.mpr ⟨m_X12_findIn_4, fun _ h => absurd h List.not_mem_nil⟩, by decide, by decide, by decide⟩ ⟨2, 120, List.forall_mem_cons.mpr ⟨m_X12_bad_3, fun _ h => absurd h List.not_mem_nil⟩, by decide, by decide, by decide⟩ ⟨3, 141, List.forall_mem_cons.mpr ⟨m_X12_go_1, fun _ h => absurd h List.not_mem_nil⟩, by decide, by decide, by decide⟩) (by decide) (by decide +kernel)
