set_option maxRecDepth 200000 in
set_option maxHeartbeats 4000000 in
def K_X12_put_4 : tb_K := ([.inr (.inl (some 1)), .inl (2, 0), .inl (3, 0)], [(1, (0, 13), .inl (4, 0))], [], [(0, 0), (1180591620717411303424, 1180591620717411303424), (28, 28), (1, 1), (0, 5)], [(some (.inl (3, 0)), [(1, (0, 15), .inr (.inl (some 5))), (1, (0, 13), .inl (4, 0)), (5, (2, 0), .inl (4, 0))], [], [(0, 0), (1180591620717411303424, 1180591620717411303424), (28, 28), (1, 1), (0, 5), (1180591620717411303432, 1180591620717411303432)])], [(8, 28, 28)])
set_option maxRecDepth 200000 in
set_option maxHeartbeats 4000000 in
def T_X12_put_4 : List (tb_S × tb_l) := []
set_option maxRecDepth 200000 in
set_option maxHeartbeats 4000000 in
theorem m_X12_put_4 {l : Launch} : tb_Met l vwCl sa_Ts tb_Z0 yX12_put cX12_put 3 (some .boolean) 2 120 K_X12_put_4 := tb_method (by decide) [15] (t_X12_put [(8, 28, 28)] ) T_X12_put_4 [] 6000 (List.forall_mem_cons.mpr ⟨dX12_put_15, fun _ h => absurd h List.not_mem_nil⟩) (h_X12_put [(8, 28, 28)] 2 120 (by decide) (by decide)  ) (by decide) (by decide +kernel)
set_option maxRecDepth 200000 in
set_option maxHeartbeats 4000000 in
def K_X12_put_5 : tb_K := ([.inr (.inl (some 1)), .inl (2, 0), .inl (3, 0)], [(1, (0, 13), .inl (4, 0))], [], [(0, 0), (1180591620717411303424, 1180591620717411303424), (27, 27), (0, 0), (-1, 999)], [(some (.inl (3, 0)), [(1, (0, 13), .inl (4, 0))], [], [(0, 0), (1180591620717411303424, 1180591620717411303424), (27, 27), (0, 0), (-1, 999)])], [])
set_option maxRecDepth 200000 in
set_option maxHeartbeats 4000000 in
def T_X12_put_5 : List (tb_S × tb_l) := []
set_option maxRecDepth 200000 in
set_option maxHeartbeats 4000000 in
theorem m_X12_put_5 {l : Launch} : tb_Met l vwCl sa_Ts tb_Z0 yX12_put cX12_put 3 (some .boolean) 2 120 K_X12_put_5 := tb_method (by decide) [15] (t_X12_put [] ) T_X12_put_5 [] 6000 (List.forall_mem_cons.mpr ⟨dX12_put_15, fun _ h => absurd h List.not_mem_nil⟩) (h_X12_put [] 2 120 (by decide) (by decide)  ) (by decide) (by decide +kernel)
set_option maxRecDepth 200000 in
set_option maxHeartbeats 4000000 in
def K_X12_put_6 : tb_K := ([.inr (.inl (some 1)), .inl (2, 0), .inl (3, 0)], [(1, (0, 13), .inl (4, 0))], [], [(0, 0), (1180591620717411303424, 1180591620717411303424), (27, 27), (1, 1), (0, 5)], [(some (.inl (3, 0)), [(1, (0, 15), .inr (.inl (some 5))), (1, (0, 13), .inl (4, 0)), (5, (2, 0), .inl (4, 0))], [], [(0, 0), (1180591620717411303424, 1180591620717411303424), (27, 27), (1, 1), (0, 5), (1180591620717411303432, 1180591620717411303432)])], [(8, 27, 27)])
set_option maxRecDepth 200000 in
set_option maxHeartbeats 4000000 in
def T_X12_put_6 : List (tb_S × tb_l) := []
set_option maxRecDepth 200000 in
set_option maxHeartbeats 4000000 in
theorem m_X12_put_6 {l : Launch} : tb_Met l vwCl sa_Ts tb_Z0 yX12_put cX12_put 3 (some .boolean) 2 120 K_X12_put_6 := tb_method (by decide) [15] (t_X12_put [(8, 27, 27)] ) T_X12_put_6 [] 6000 (List.forall_mem_cons.mpr ⟨dX12_put_15, fun _ h => absurd h List.not_mem_nil⟩) (h_X12_put [(8, 27, 27)] 2 120 (by decide) (by decide)  ) (by decide) (by decide +kernel)
set_option maxRecDepth 200000 in
set_option maxHeartbeats 4000000 in
def K_X12_put_7 : tb_K := ([.inr (.inl (some 1)), .inl (2, 0), .inl (3, 0)], [(1, (0, 13), .inl (4, 0))], [], [(0, 0), (1180591620717411303424, 1180591620717411303424), (26, 26), (0, 0), (-1, 999)], [(some (.inl (3, 0)), [(1, (0, 13), .inl (4, 0))], [], [(0, 0), (1180591620717411303424, 1180591620717411303424), (26, 26), (0, 0), (-1, 999)])], [])
set_option maxRecDepth 200000 in
set_option maxHeartbeats 4000000 in
def T_X12_put_7 : List (tb_S × tb_l) := []
set_option maxRecDepth 200000 in
set_option maxHeartbeats 4000000 in
theorem m_X12_put_7 {l : Launch} : tb_Met l vwCl sa_Ts tb_Z0 yX12_put cX12_put 3 (some .boolean) 2 120 K_X12_put_7 := tb_method (by decide) [15] (t_X12_put [] ) T_X12_put_7 [] 6000 (List.forall_mem_cons.mpr ⟨dX12_put_15, fun _ h => absurd h List.not_mem_nil⟩) (h_X12_put [] 2 120 (by decide) (by decide)  ) (by decide) (by decide +kernel)
set_option maxRecDepth 200000 in
set_option maxHeartbeats 4000000 in
def K_X12_put_8 : tb_K := ([.inr (.inl (some 1)), .inl (2, 0), .inl (3, 0)], [(1, (0, 13), .inl (4, 0))], [], [(0, 0), (1180591620717411303424, 1180591620717411303424), (26, 26), (1, 1), (0, 5)], [(some (.inl (3, 0)), [(1, (0, 15), .inr (.inl (some 5))), (1, (0, 13), .inl (4, 0)), (5, (2, 0), .inl (4, 0))], [], [(0, 0), (1180591620717411303424, 1180591620717411303424), (26, 26), (1, 1), (0, 5), (1180591620717411303432, 1180591620717411303432)])], [(8, 26, 26)])
set_option maxRecDepth 200000 in
set_option maxHeartbeats 4000000 in
def T_X12_put_8 : List (tb_S × tb_l) := []
set_option maxRecDepth 200000 in
set_option maxHeartbeats 4000000 in
theorem m_X12_put_8 {l : Launch} : tb_Met l vwCl sa_Ts tb_Z0 yX12_put cX12_put 3 (some .boolean) 2 120 K_X12_put_8 := tb_method (by decide) [15] (t_X12_put [(8, 26, 26)] ) T_X12_put_8 [] 6000 (List.forall_mem_cons.mpr ⟨dX12_put_15, fun _ h => absurd h List.not_mem_nil⟩) (h_X12_put [(8, 26, 26)] 2 120 (by decide) (by decide)  ) (by decide) (by decide +kernel)
set_option maxRecDepth 200000 in
set_option maxHeartbeats 4000000 in
def K_X12_put_9 : tb_K := ([.inr (.inl (some 1)), .inl (2, 0), .inl (3, 0)], [(1, (0, 13), .inl (4, 0))], [], [(0, 0), (1180591620717411303424, 1180591620717411303424), (25, 25), (0, 0), (-1, 999)], [(some (.inl (3, 0)), [(1, (0, 13), .inl (4, 0))], [], [(0, 0), (1180591620717411303424, 1180591620717411303424), (25, 25), (0, 0), (-1, 999)])], [])
set_option maxRecDepth 200000 in
set_option maxHeartbeats 4000000 in
def T_X12_put_9 : List (tb_S × tb_l) := []
set_option maxRecDepth 200000 in
set_option maxHeartbeats 4000000 in
theorem m_X12_put_9 {l : Launch} : tb_Met l vwCl sa_Ts tb_Z0 yX12_put cX12_put 3 (some .boolean) 2 120 K_X12_put_9 := tb_method (by decide) [15] (t_X12_put [] ) T_X12_put_9 [] 6000 (List.forall_mem_cons.mpr ⟨dX12_put_15, fun _ h => absurd h List.not_mem_nil⟩) (h_X12_put [] 2 120 (by decide) (by decide)  ) (by decide) (by decide +kernel)
set_option maxRecDepth 200000 in
set_option maxHeartbeats 4000000 in
def K_X12_put_10 : tb_K := ([.inr (.inl (some 1)), .inl (2, 0), .inl (3, 0)], [(1, (0, 13), .inl (4, 0))], [], [(0, 0), (1180591620717411303424, 1180591620717411303424), (25, 25), (1, 1), (0, 5)], [(some (.inl (3, 0)), [(1, (0, 15), .inr (.inl (some 5))), (1, (0, 13), .inl (4, 0)), (5, (2, 0), .inl (4, 0))], [], [(0, 0), (1180591620717411303424, 1180591620717411303424), (25, 25), (1, 1), (0, 5), (1180591620717411303432, 1180591620717411303432)])], [(8, 25, 25)])
set_option maxRecDepth 200000 in
set_option maxHeartbeats 4000000 in
def T_X12_put_10 : List (tb_S × tb_l) := []
set_option maxRecDepth 200000 in
set_option maxHeartbeats 4000000 in
theorem m_X12_put_10 {l : Launch} : tb_Met l vwCl sa_Ts tb_Z0 yX12_put cX12_put 3 (some .boolean) 2 120 K_X12_put_10 := tb_method (by decide) [15] (t_X12_put [(8, 25, 25)] ) T_X12_put_10 [] 6000 (List.forall_mem_cons.mpr ⟨dX12_put_15, fun _ h => absurd h List.not_mem_nil⟩) (h_X12_put [(8, 25, 25)] 2 120 (by decide) (by decide)  ) (by decide) (by decide +kernel)
set_option maxRecDepth 200000 in
set_option maxHeartbeats 4000000 in
def K_X12_put_11 : tb_K := ([.inr (.inl (some 1)), .inl (2, 0), .inl (3, 0)], [(1, (0, 13), .inl (4, 0))], [], [(0, 0), (1180591620717411303424, 1180591620717411303424), (24, 24), (0, 0), (-1, 999)], [(some (.inl (3, 0)), [(1, (0, 13), .inl (4, 0))], [], [(0, 0), (1180591620717411303424, 1180591620717411303424), (24, 24), (0, 0), (-1, 999)])], [])
set_option maxRecDepth 200000 in
set_option maxHeartbeats 4000000 in
def T_X12_put_11 : List (tb_S × tb_l) := []
set_option maxRecDepth 200000 in
set_option maxHeartbeats 4000000 in
theorem m_X12_put_11 {l : Launch} : tb_Met l vwCl sa_Ts tb_Z0 yX12_put cX12_put 3 (some .boolean) 2 120 K_X12_put_11 := tb_method (by decide) [15] (t_X12_put [] ) T_X12_put_11 [] 6000 (List.forall_mem_cons.mpr ⟨dX12_put_15, fun _ h => absurd h List.not_mem_nil⟩) (h_X12_put [] 2 120 (by decide) (by decide)  ) (by decide) (by decide +kernel)
set_option maxRecDepth 200000 in
set_option maxHeartbeats 4000000 in
def K_X12_put_12 : tb_K := ([.inr (.inl (some 1)), .inl (2, 0), .inl (3, 0)], [(1, (0, 13), .inl (4, 0))], [], [(0, 0), (1180591620717411303424, 1180591620717411303424), (24, 24), (1, 1), (0, 5)], [(some (.inl (3, 0)), [(1, (0, 15), .inr (.inl (some 5))), (1, (0, 13), .inl (4, 0)), (5, (2, 0), .inl (4, 0))], [], [(0, 0), (1180591620717411303424, 1180591620717411303424), (24, 24), (1, 1), (0, 5), (1180591620717411303432, 1180591620717411303432)])], [(8, 24, 24)])
set_option maxRecDepth 200000 in
set_option maxHeartbeats 4000000 in
def T_X12_put_12 : List (tb_S × tb_l) := []
set_option maxRecDepth 200000 in
set_option maxHeartbeats 4000000 in
theorem m_X12_put_12 {l : Launch} : tb_Met l vwCl sa_Ts tb_Z0 yX12_put cX12_put 3 (some .boolean) 2 120 K_X12_put_12 := tb_method (by decide) [15] (t_X12_put [(8, 24, 24)] ) T_X12_put_12 [] 6000 (List.forall_mem_cons.mpr ⟨dX12_put_15, fun _ h => absurd h List.not_mem_nil⟩) (h_X12_put [(8, 24, 24)] 2 120 (by decide) (by decide)  ) (by decide) (by decide +kernel)
set_option maxRecDepth 200000 in
set_option maxHeartbeats 4000000 in
def K_X12_put_13 : tb_K := ([.inr (.inl (some 1)), .inl (2, 0), .inl (3, 0)], [(1, (0, 13), .inl (4, 0))], [], [(0, 0), (1180591620717411303424, 1180591620717411303424), (23, 23), (0, 0), (-1, 999)], [(some (.inl (3, 0)), [(1, (0, 13), .inl (4, 0))], [], [(0, 0), (1180591620717411303424, 1180591620717411303424), (23, 23), (0, 0), (-1, 999)])], [])
set_option maxRecDepth 200000 in
set_option maxHeartbeats 4000000 in
def T_X12_put_13 : List (tb_S × tb_l) := []
set_option maxRecDepth 200000 in
set_option maxHeartbeats 4000000 in
theorem m_X12_put_13 {l : Launch} : tb_Met l vwCl sa_Ts tb_Z0 yX12_put cX12_put 3 (some .boolean) 2 120 K_X12_put_13 := tb_method (by decide) [15] (t_X12_put [] ) T_X12_put_13 [] 6000 (List.forall_mem_cons.mpr ⟨dX12_put_15, fun _ h => absurd h List.not_mem_nil⟩) (h_X12_put [] 2 120 (by decide) (by decide)  ) (by decide) (by decide +kernel)
set_option maxRecDepth 200000 in
set_option maxHeartbeats 4000000 in
def K_X12_put_14 : tb_K := ([.inr (.inl (some 1)), .inl (2, 0), .inl (3, 0)], [(1, (0, 13), .inl (4, 0))], [], [(0, 0), (1180591620717411303424, 1180591620717411303424), (23, 23), (1, 1), (0, 5)], [(some (.inl (3, 0)), [(1, (0, 15), .inr (.inl (some 5))), (1, (0, 13), .inl (4, 0)), (5, (2, 0), .inl (4, 0))], [], [(0, 0), (1180591620717411303424, 1180591620717411303424), (23, 23), (1, 1), (0, 5), (1180591620717411303432, 1180591620717411303432)])], [(8, 23, 23)])
set_option maxRecDepth 200000 in
set_option maxHeartbeats 4000000 in
def T_X12_put_14 : List (tb_S × tb_l) := []
set_option maxRecDepth 200000 in
set_option maxHeartbeats 4000000 in
theorem m_X12_put_14 {l : Launch} : tb_Met l vwCl sa_Ts tb_Z0 yX12_put cX12_put 3 (some .boolean) 2 120 K_X12_put_14 := tb_method (by decide) [15] (t_X12_put [(8, 23, 23)] ) T_X12_put_14 [] 6000 (List.forall_mem_cons.mpr ⟨dX12_put_15, fun _ h => absurd h List.not_mem_nil⟩) (h_X12_put [(8, 23, 23)] 2 120 (by decide) (by decide)  ) (by decide) (by decide +kernel)
set_option maxRecDepth 200000 in
set_option maxHeartbeats 4000000 in
def K_X12_put_15 : tb_K := ([.inr (.inl (some 1)), .inl (2, 0), .inl (3, 0)], [(1, (0, 13), .inl (4, 0))], [], [(0, 0), (1180591620717411303424, 1180591620717411303424), (22, 22), (0, 0), (-1, 999)], [(some (.inl (3, 0)), [(1, (0, 13), .inl (4, 0))], [], [(0, 0), (1180591620717411303424, 1180591620717411303424), (22, 22), (0, 0), (-1, 999)])], [])
set_option maxRecDepth 200000 in
set_option maxHeartbeats 4000000 in
def T_X12_put_15 : List (tb_S × tb_l) := []
set_option maxRecDepth 200000 in
set_option maxHeartbeats 4000000 in
theorem m_X12_put_15 {l : Launch} : tb_Met l vwCl sa_Ts tb_Z0 yX12_put cX12_put 3 (some .boolean) 2 120 K_X12_put_15 := tb_method (by decide) [15] (t_X12_put [] ) T_X12_put_15 [] 6000 (List.forall_mem_cons.mpr ⟨dX12_put_15, fun _ h => absurd h List.not_mem_nil⟩) (h_X12_put [] 2 120 (by decide) (by decide)  ) (by decide) (by decide +kernel)
set_option maxRecDepth 200000 in
set_option maxHeartbeats 4000000 in
def K_X12_put_16 : tb_K := ([.inr (.inl (some 1)), .inl (2, 0), .inl (3, 0)], [(1, (0, 13), .inl (4, 0))], [], [(0, 0), (1180591620717411303424, 1180591620717411303424), (22, 22), (1, 1), (0, 5)], [(some (.inl (3, 0)), [(1, (0, 15), .inr (.inl (some 5))), (1, (0, 13), .inl (4, 0)), (5, (2, 0), .inl (4, 0))], [], [(0, 0), (1180591620717411303424, 1180591620717411303424), (22, 22), (1, 1), (0, 5), (1180591620717411303432, 1180591620717411303432)])], [(8, 22, 22)])
set_option maxRecDepth 200000 in
set_option maxHeartbeats 4000000 in
def T_X12_put_16 : List (tb_S × tb_l) := []
set_option maxRecDepth 200000 in
set_option maxHeartbeats 4000000 in
theorem m_X12_put_16 {l : Launch} : tb_Met l vwCl sa_Ts tb_Z0 yX12_put cX12_put 3 (some .boolean) 2 120 K_X12_put_16 := tb_method (by decide) [15] (t_X12_put [(8, 22, 22)] ) T_X12_put_16 [] 6000 (List.forall_mem_cons.mpr ⟨dX12_put_15, fun _ h => absurd h List.not_mem_nil⟩) (h_X12_put [(8, 22, 22)] 2 120 (by decide) (by decide)  ) (by decide) (by decide +kernel)
set_option maxRecDepth 200000 in
set_option maxHeartbeats 4000000 in
def K_X12_put_17 : tb_K := ([.inr (.inl (some 1)), .inl (2, 0), .inl (3, 0)], [(1, (0, 13), .inl (4, 0))], [], [(0, 0), (1180591620717411303424, 1180591620717411303424), (21, 21), (0, 0), (-1, 999)], [(some (.inl (3, 0)), [(1, (0, 13), .inl (4, 0))], [], [(0, 0), (1180591620717411303424, 1180591620717411303424), (21, 21), (0, 0), (-1, 999)])], [])
set_option maxRecDepth 200000 in
set_option maxHeartbeats 4000000 in
def T_X12_put_17 : List (tb_S × tb_l) := []
set_option maxRecDepth 200000 in
set_option maxHeartbeats 4000000 in
theorem m_X12_put_17 {l : Launch} : tb_Met l vwCl sa_Ts tb_Z0 yX12_put cX12_put 3 (some .boolean) 2 120 K_X12_put_17 := tb_method (by decide) [15] (t_X12_put [] ) T_X12_put_17 [] 6000 (List.forall_mem_cons.mpr ⟨dX12_put_15, fun _ h => absurd h List.not_mem_nil⟩) (h_X12_put [] 2 120 (by decide) (by decide)  ) (by decide) (by decide +kernel)
set_option maxRecDepth 200000 in
set_option maxHeartbeats 4000000 in
def K_X12_put_18 : tb_K := ([.inr (.inl (some 1)), .inl (2, 0), .inl (3, 0)], [(1, (0, 13), .inl (4, 0))], [], [(0, 0), (1180591620717411303424, 1180591620717411303424), (21, 21), (1, 1), (0, 5)], [(some (.inl (3, 0)), [(1, (0, 15), .inr (.inl (some 5))), (1, (0, 13), .inl (4, 0)), (5, (2, 0), .inl (4, 0))], [], [(0, 0), (1180591620717411303424, 1180591620717411303424), (21, 21), (1, 1), (0, 5), (1180591620717411303432, 1180591620717411303432)])], [(8, 21, 21)])
set_option maxRecDepth 200000 in
set_option maxHeartbeats 4000000 in
def T_X12_put_18 : List (tb_S × tb_l) := []
set_option maxRecDepth 200000 in
set_option maxHeartbeats 4000000 in
theorem m_X12_put_18 {l : Launch} : tb_Met l vwCl sa_Ts tb_Z0 yX12_put cX12_put 3 (some .boolean) 2 120 K_X12_put_18 := tb_method (by decide) [15] (t_X12_put [(8, 21, 21)] ) T_X12_put_18 [] 6000 (List.forall_mem_cons.mpr ⟨dX12_put_15, fun _ h => absurd h List.not_mem_nil⟩) (h_X12_put [(8, 21, 21)] 2 120 (by decide) (by decide)  ) (by decide) (by decide +kernel)
set_option maxRecDepth 200000 in
set_option maxHeartbeats 4000000 in
def K_X12_isIn_2 : tb_K := ([.inl (1, 0), .inl (2, 0), .inl (3, 0)], [], [], [(0, 0), (-2147483648, 2147483647), (0, 0), (200, 200)], [(some (.inl (4, 0)), [], [], [(0, 0), (-2147483648, 2147483647), (0, 0), (200, 200), (0, 0)]), (some (.inl (4, 0)), [], [], [(0, 0), (0, 200), (0, 0), (200, 200), (1, 1)])], [])
set_option maxRecDepth 200000 in
set_option maxHeartbeats 4000000 in
def T_X12_isIn_2 : List (tb_S × tb_l) := []
set_option maxRecDepth 200000 in
set_option maxHeartbeats 4000000 in
theorem m_X12_isIn_2 {l : Launch} : tb_Met l vwCl sa_Ts tb_Z0 yX12_isIn cX12_isIn 3 (some .boolean) 2 120 K_X12_isIn_2 := tb_method (by decide) [15] (t_X12_isIn [] ) T_X12_isIn_2 [] 6000 (List.forall_mem_cons.mpr ⟨dX12_isIn_15, fun _ h => absurd h List.not_mem_nil⟩) (h_X12_isIn [] 2 120 (by decide) (by decide)  ) (by decide) (by decide +kernel)
set_option maxRecDepth 200000 in
set_option maxHeartbeats 4000000 in
def K_X12_readNumber_2 : tb_K := ([.inr (.inl (some 1)), .inl (2, 0), .inl (3, 0)], [], [], [(0, 0), (1180591620717411303424, 1180591620717411303424), (0, 0), (200, 200)], [(some (.inl (4, 0)), [], [], [(0, 0), (1180591620717411303424, 1180591620717411303424), (0, 0), (200, 200), (0, 0)]), (some (.inl (4, 0)), [(1, (0, 13), .inl (5, 0))], [], [(0, 0), (1180591620717411303424, 1180591620717411303424), (0, 0), (200, 200), (1, 1), (0, 200)])], [(0, 5, 13)])
set_option maxRecDepth 200000 in
set_option maxHeartbeats 4000000 in
def T_X12_readNumber_2 : List (tb_S × tb_l) := []
set_option maxRecDepth 200000 in
set_option maxHeartbeats 4000000 in
theorem m_X12_readNumber_2 {l : Launch} : tb_Met l vwCl sa_Ts tb_Z0 yX12_readNumber cX12_readNumber 3 (some .boolean) 4 165 K_X12_readNumber_2 := tb_method (by decide) [13, 31, 45] (t_X12_readNumber [(0, 5, 13)] [K_X12_bad_1] [K_X12_isIn_2] [K_X12_bad_4] [K_X12_go_1]) T_X12_readNumber_2 [] 6000 (List.forall_mem_cons.mpr ⟨dX12_readNumber_13, List.forall_mem_cons.mpr ⟨dX12_readNumber_31, List.forall_mem_cons.mpr ⟨dX12_readNumber_45, fun _ h => absurd h List.not_mem_nil⟩⟩⟩) (h_X12_readNumber [(0, 5, 13)] 4 165 (by decide) (by decide) [K_X12_bad_1] [K_X12_isIn_2] [K_X12_bad_4] [K_X12_go_1] ⟨2, 120, List.forall_mem_cons.mpr ⟨m_X12_bad_1, fun _ h => absurd h List.not_mem_nil⟩, by decide, by decide, by decide⟩ ⟨2, 120, List.forall_mem_cons.mpr ⟨m_X12_isIn_2, fun _ h => absurd h List.not_mem_nil⟩, by decide, by decide, by decide⟩ ⟨2, 120, List.forall_mem_cons.mpr ⟨m_X12_bad_4, fun _ h => absurd h List.not_mem_nil⟩, by decide, by decide, by decide⟩ ⟨3, 141, List.forall_mem_cons.mpr ⟨m_X12_go_1, fun _ h => absurd h List.not_mem_nil⟩, by decide, by decide, by decide⟩) (by decide) (by decide +kernel)
set_option maxRecDepth 200000 in
set_option maxHeartbeats 4000000 in
def K_X12_put_19 : tb_K := ([.inr (.inl (some 1)), .inl (2, 0), .inl (3, 0)], [(1, (0, 13), .inl (4, 0))], [], [(0, 0), (1180591620717411303424, 1180591620717411303424), (36, 36), (0, 0), (-1, 999)], [(some (.inl (3, 0)), [(1, (0, 13), .inl (4, 0))], [], [(0, 0), (1180591620717411303424, 1180591620717411303424), (36, 36), (0, 0), (-1, 999)])], [])
set_option maxRecDepth 200000 in
set_option maxHeartbeats 4000000 in
def T_X12_put_19 : List (tb_S × tb_l) := []
set_option maxRecDepth 200000 in
set_option maxHeartbeats 4000000 in
theorem m_X12_put_19 {l : Launch} : tb_Met l vwCl sa_Ts tb_Z0 yX12_put cX12_put 3 (some .boolean) 2 120 K_X12_put_19 := tb_method (by decide) [15] (t_X12_put [] ) T_X12_put_19 [] 6000 (List.forall_mem_cons.mpr ⟨dX12_put_15, fun _ h => absurd h List.not_mem_nil⟩) (h_X12_put [] 2 120 (by decide) (by decide)  ) (by decide) (by decide +kernel)
set_option maxRecDepth 200000 in
set_option maxHeartbeats 4000000 in
def K_X12_put_20 : tb_K := ([.inr (.inl (some 1)), .inl (2, 0), .inl (3, 0)], [(1, (0, 13), .inl (4, 0))], [], [(0, 0), (1180591620717411303424, 1180591620717411303424), (36, 36), (1, 1), (0, 200)], [(some (.inl (3, 0)), [(1, (0, 15), .inr (.inl (some 5))), (1, (0, 13), .inl (4, 0)), (5, (2, 0), .inl (4, 0))], [], [(0, 0), (1180591620717411303424, 1180591620717411303424), (36, 36), (1, 1), (0, 200), (1180591620717411303432, 1180591620717411303432)])], [(8, 36, 36)])
set_option maxRecDepth 200000 in
set_option maxHeartbeats 4000000 in
def T_X12_put_20 : List (tb_S × tb_l) := []
set_option maxRecDepth 200000 in
set_option maxHeartbeats 4000000 in
theorem m_X12_put_20 {l : Launch} : tb_Met l vwCl sa_Ts tb_Z0 yX12_put cX12_put 3 (some .boolean) 2 120 K_X12_put_20 := tb_method (by decide) [15] (t_X12_put [(8, 36, 36)] ) T_X12_put_20 [] 6000 (List.forall_mem_cons.mpr ⟨dX12_put_15, fun _ h => absurd h List.not_mem_nil⟩) (h_X12_put [(8, 36, 36)] 2 120 (by decide) (by decide)  ) (by decide) (by decide +kernel)
set_option maxRecDepth 200000 in
set_option maxHeartbeats 4000000 in
def K_X12_put_21 : tb_K := ([.inr (.inl (some 1)), .inl (2, 0), .inl (3, 0)], [(1, (0, 13), .inl (4, 0))], [], [(0, 0), (1180591620717411303424, 1180591620717411303424), (35, 35), (0, 0), (-1, 999)], [(some (.inl (3, 0)), [(1, (0, 13), .inl (4, 0))], [], [(0, 0), (1180591620717411303424, 1180591620717411303424), (35, 35), (0, 0), (-1, 999)])], [])
set_option maxRecDepth 200000 in
set_option maxHeartbeats 4000000 in
def T_X12_put_21 : List (tb_S × tb_l) := []
set_option maxRecDepth 200000 in
set_option maxHeartbeats 4000000 in
theorem m_X12_put_21 {l : Launch} : tb_Met l vwCl sa_Ts tb_Z0 yX12_put cX12_put 3 (some .boolean) 2 120 K_X12_put_21 := tb_method (by decide) [15] (t_X12_put [] ) T_X12_put_21 [] 6000 (List.forall_mem_cons.mpr ⟨dX12_put_15, fun _ h => absurd h List.not_mem_nil⟩) (h_X12_put [] 2 120 (by decide) (by decide)  ) (by decide) (by decide +kernel)
set_option maxRecDepth 200000 in
set_option maxHeartbeats 4000000 in
def K_X12_put_22 : tb_K := ([.inr (.inl (some 1)), .inl (2, 0), .inl (3, 0)], [(1, (0, 13), .inl (4, 0))], [], [(0, 0), (1180591620717411303424, 1180591620717411303424), (35, 35), (1, 1), (0, 200)], [(some (.inl (3, 0)), [(1, (0, 15), .inr (.inl (some 5))), (1, (0, 13), .inl (4, 0)), (5, (2, 0), .inl (4, 0))], [], [(0, 0), (1180591620717411303424, 1180591620717411303424), (35, 35), (1, 1), (0, 200), (1180591620717411303432, 1180591620717411303432)])], [(8, 35, 35)])
set_option maxRecDepth 200000 in
set_option maxHeartbeats 4000000 in
def T_X12_put_22 : List (tb_S × tb_l) := []
set_option maxRecDepth 200000 in
set_option maxHeartbeats 4000000 in
theorem m_X12_put_22 {l : Launch} : tb_Met l vwCl sa_Ts tb_Z0 yX12_put cX12_put 3 (some .boolean) 2 120 K_X12_put_22 := tb_method (by decide) [15] (t_X12_put [(8, 35, 35)] ) T_X12_put_22 [] 6000 (List.forall_mem_cons.mpr ⟨dX12_put_15, fun _ h => absurd h List.not_mem_nil⟩) (h_X12_put [(8, 35, 35)] 2 120 (by decide) (by decide)  ) (by decide) (by decide +kernel)
set_option maxRecDepth 200000 in
set_option maxHeartbeats 4000000 in
def K_X12_put_23 : tb_K := ([.inr (.inl (some 1)), .inl (2, 0), .inl (3, 0)], [(1, (0, 13), .inl (4, 0))], [], [(0, 0), (1180591620717411303424, 1180591620717411303424), (34, 34), (0, 0), (-1, 999)], [(some (.inl (3, 0)), [(1, (0, 13), .inl (4, 0))], [], [(0, 0), (1180591620717411303424, 1180591620717411303424), (34, 34), (0, 0), (-1, 999)])], [])
set_option maxRecDepth 200000 in
set_option maxHeartbeats 4000000 in
def T_X12_put_23 : List (tb_S × tb_l) := []
set_option maxRecDepth 200000 in
set_option maxHeartbeats 4000000 in
theorem m_X12_put_23 {l : Launch} : tb_Met l vwCl sa_Ts tb_Z0 yX12_put cX12_put 3 (some .boolean) 2 120 K_X12_put_23 := tb_method (by decide) [15] (t_X12_put [] ) T_X12_put_23 [] 6000 (List.forall_mem_cons.mpr ⟨dX12_put_15, fun _ h => absurd h List.not_mem_nil⟩) (h_X12_put [] 2 120 (by decide) (by decide)  ) (by decide) (by decide +kernel)
set_option maxRecDepth 200000 in
set_option maxHeartbeats 4000000 in
def K_X12_put_24 : tb_K := ([.inr (.inl (some 1)), .inl (2, 0), .inl (3, 0)], [(1, (0, 13), .inl (4, 0))], [], [(0, 0), (1180591620717411303424, 1180591620717411303424), (34, 34), (1, 1), (0, 200)], [(some (.inl (3, 0)), [(1, (0, 15), .inr (.inl (some 5))), (1, (0, 13), .inl (4, 0)), (5, (2, 0), .inl (4, 0))], [], [(0, 0), (1180591620717411303424, 1180591620717411303424), (34, 34), (1, 1), (0, 200), (1180591620717411303432, 1180591620717411303432)])], [(8, 34, 34)])
set_option maxRecDepth 200000 in
set_option maxHeartbeats 4000000 in
def T_X12_put_24 : List (tb_S × tb_l) := []
set_option maxRecDepth 200000 in
set_option maxHeartbeats 4000000 in
theorem m_X12_put_24 {l : Launch} : tb_Met l vwCl sa_Ts tb_Z0 yX12_put cX12_put 3 (some .boolean) 2 120 K_X12_put_24 := tb_method (by decide) [15] (t_X12_put [(8, 34, 34)] ) T_X12_put_24 [] 6000 (List.forall_mem_cons.mpr ⟨dX12_put_15, fun _ h => absurd h List.not_mem_nil⟩) (h_X12_put [(8, 34, 34)] 2 120 (by decide) (by decide)  ) (by decide) (by decide +kernel)
set_option maxRecDepth 200000 in
set_option maxHeartbeats 4000000 in
def K_X12_put_25 : tb_K := ([.inr (.inl (some 1)), .inl (2, 0), .inl (3, 0)], [(1, (0, 13), .inl (4, 0))], [], [(0, 0), (1180591620717411303424, 1180591620717411303424), (33, 33), (0, 0), (-1, 999)], [(some (.inl (3, 0)), [(1, (0, 13), .inl (4, 0))], [], [(0, 0), (1180591620717411303424, 1180591620717411303424), (33, 33), (0, 0), (-1, 999)])], [])
set_option maxRecDepth 200000 in
set_option maxHeartbeats 4000000 in
def T_X12_put_25 : List (tb_S × tb_l) := []
set_option maxRecDepth 200000 in
set_option maxHeartbeats 4000000 in
theorem m_X12_put_25 {l : Launch} : tb_Met l vwCl sa_Ts tb_Z0 yX12_put cX12_put 3 (some .boolean) 2 120 K_X12_put_25 := tb_method (by decide) [15] (t_X12_put [] ) T_X12_put_25 [] 6000 (List.forall_mem_cons.mpr ⟨dX12_put_15, fun _ h => absurd h List.not_mem_nil⟩) (h_X12_put [] 2 120 (by decide) (by decide)  ) (by decide) (by decide +kernel)
set_option maxRecDepth 200000 in
set_option maxHeartbeats 4000000 in
def K_X12_put_26 : tb_K := ([.inr (.inl (some 1)), .inl (2, 0), .inl (3, 0)], [(1, (0, 13), .inl (4, 0))], [], [(0, 0), (1180591620717411303424, 1180591620717411303424), (33, 33), (1, 1), (0, 200)], [(some (.inl (3, 0)), [(1, (0, 15), .inr (.inl (some 5))), (1, (0, 13), .inl (4, 0)), (5, (2, 0), .inl (4, 0))], [], [(0, 0), (1180591620717411303424, 1180591620717411303424), (33, 33), (1, 1), (0, 200), (1180591620717411303432, 1180591620717411303432)])], [(8, 33, 33)])
set_option maxRecDepth 200000 in
set_option maxHeartbeats 4000000 in
def T_X12_put_26 : List (tb_S × tb_l) := []
set_option maxRecDepth 200000 in
set_option maxHeartbeats 4000000 in
theorem m_X12_put_26 {l : Launch} : tb_Met l vwCl sa_Ts tb_Z0 yX12_put cX12_put 3 (some .boolean) 2 120 K_X12_put_26 := tb_method (by decide) [15] (t_X12_put [(8, 33, 33)] ) T_X12_put_26 [] 6000 (List.forall_mem_cons.mpr ⟨dX12_put_15, fun _ h => absurd h List.not_mem_nil⟩) (h_X12_put [(8, 33, 33)] 2 120 (by decide) (by decide)  ) (by decide) (by decide +kernel)
set_option maxRecDepth 200000 in
set_option maxHeartbeats 4000000 in
def K_X12_put_27 : tb_K := ([.inr (.inl (some 1)), .inl (2, 0), .inl (3, 0)], [(1, (0, 13), .inl (4, 0))], [], [(0, 0), (1180591620717411303424, 1180591620717411303424), (32, 32), (0, 0), (-1, 999)], [(some (.inl (3, 0)), [(1, (0, 13), .inl (4, 0))], [], [(0, 0), (1180591620717411303424, 1180591620717411303424), (32, 32), (0, 0), (-1, 999)])], [])
set_option maxRecDepth 200000 in
set_option maxHeartbeats 4000000 in
def T_X12_put_27 : List (tb_S × tb_l) := []
set_option maxRecDepth 200000 in
set_option maxHeartbeats 4000000 in
theorem m_X12_put_27 {l : Launch} : tb_Met l vwCl sa_Ts tb_Z0 yX12_put cX12_put 3 (some .boolean) 2 120 K_X12_put_27 := tb_method (by decide) [15] (t_X12_put [] ) T_X12_put_27 [] 6000 (List.forall_mem_cons.mpr ⟨dX12_put_15, fun _ h => absurd h List.not_mem_nil⟩) (h_X12_put [] 2 120 (by decide) (by decide)  ) (by decide) (by decide +kernel)
set_option maxRecDepth 200000 in
set_option maxHeartbeats 4000000 in
def K_X12_put_28 : tb_K := ([.inr (.inl (some 1)), .inl (2, 0), .inl (3, 0)], [(1, (0, 13), .inl (4, 0))], [], [(0, 0), (1180591620717411303424, 1180591620717411303424), (32, 32), (1, 1), (0, 200)], [(some (.inl (3, 0)), [(1, (0, 15), .inr (.inl (some 5))), (1, (0, 13), .inl (4, 0)), (5, (2, 0), .inl (4, 0))], [], [(0, 0), (1180591620717411303424, 1180591620717411303424), (32, 32), (1, 1), (0, 200), (1180591620717411303432, 1180591620717411303432)])], [(8, 32, 32)])
set_option maxRecDepth 200000 in
set_option maxHeartbeats 4000000 in
def T_X12_put_28 : List (tb_S × tb_l) := []
set_option maxRecDepth 200000 in
set_option maxHeartbeats 4000000 in
theorem m_X12_put_28 {l : Launch} : tb_Met l vwCl sa_Ts tb_Z0 yX12_put cX12_put 3 (some .boolean) 2 120 K_X12_put_28 := tb_method (by decide) [15] (t_X12_put [(8, 32, 32)] ) T_X12_put_28 [] 6000 (List.forall_mem_cons.mpr ⟨dX12_put_15, fun _ h => absurd h List.not_mem_nil⟩) (h_X12_put [(8, 32, 32)] 2 120 (by decide) (by decide)  ) (by decide) (by decide +kernel)
set_option maxRecDepth 200000 in
set_option maxHeartbeats 4000000 in
def K_X12_put_29 : tb_K := ([.inr (.inl (some 1)), .inl (2, 0), .inl (3, 0)], [(1, (0, 13), .inl (4, 0))], [], [(0, 0), (1180591620717411303424, 1180591620717411303424), (31, 31), (0, 0), (-1, 999)], [(some (.inl (3, 0)), [(1, (0, 13), .inl (4, 0))], [], [(0, 0), (1180591620717411303424, 1180591620717411303424), (31, 31), (0, 0), (-1, 999)])], [])
set_option maxRecDepth 200000 in
set_option maxHeartbeats 4000000 in
def T_X12_put_29 : List (tb_S × tb_l) := []
set_option maxRecDepth 200000 in
set_option maxHeartbeats 4000000 in
theorem m_X12_put_29 {l : Launch} : tb_Met l vwCl sa_Ts tb_Z0 yX12_put cX12_put 3 (some .boolean) 2 120 K_X12_put_29 := tb_method (by decide) [15] (t_X12_put [] ) T_X12_put_29 [] 6000 (List.forall_mem_cons.mpr ⟨dX12_put_15, fun _ h => absurd h List.not_mem_nil⟩) (h_X12_put [] 2 120 (by decide) (by decide)  ) (by decide) (by decide +kernel)
set_option maxRecDepth 200000 in
set_option maxHeartbeats 4000000 in
def K_X12_put_30 : tb_K := ([.inr (.inl (some 1)), .inl (2, 0), .inl (3, 0)], [(1, (0, 13), .inl (4, 0))], [], [(0, 0), (1180591620717411303424, 1180591620717411303424), (31, 31), (1, 1), (0, 200)], [(some (.inl (3, 0)), [(1, (0, 15), .inr (.inl (some 5))), (1, (0, 13), .inl (4, 0)), (5, (2, 0), .inl (4, 0))], [], [(0, 0), (1180591620717411303424, 1180591620717411303424), (31, 31), (1, 1), (0, 200), (1180591620717411303432, 1180591620717411303432)])], [(8, 31, 31)])
set_option maxRecDepth 200000 in
set_option maxHeartbeats 4000000 in
def T_X12_put_30 : List (tb_S × tb_l) := []
set_option maxRecDepth 200000 in
set_option maxHeartbeats 4000000 in
theorem m_X12_put_30 {l : Launch} : tb_Met l vwCl sa_Ts tb_Z0 yX12_put cX12_put 3 (some .boolean) 2 120 K_X12_put_30 := tb_method (by decide) [15] (t_X12_put [(8, 31, 31)] ) T_X12_put_30 [] 6000 (List.forall_mem_cons.mpr ⟨dX12_put_15, fun _ h => absurd h List.not_mem_nil⟩) (h_X12_put [(8, 31, 31)] 2 120 (by decide) (by decide)  ) (by decide) (by decide +kernel)
set_option maxRecDepth 200000 in
set_option maxHeartbeats 4000000 in
def K_X12_put_31 : tb_K := ([.inr (.inl (some 1)), .inl (2, 0), .inl (3, 0)], [(1, (0, 13), .inl (4, 0))], [], [(0, 0), (1180591620717411303424, 1180591620717411303424), (30, 30), (0, 0), (-1, 999)], [(some (.inl (3, 0)), [(1, (0, 13), .inl (4, 0))], [], [(0, 0), (1180591620717411303424, 1180591620717411303424), (30, 30), (0, 0), (-1, 999)])], [])
set_option maxRecDepth 200000 in
set_option maxHeartbeats 4000000 in
def T_X12_put_31 : List (tb_S × tb_l) := []
set_option maxRecDepth 200000 in
set_option maxHeartbeats 4000000 in
theorem m_X12_put_31 {l : Launch} : tb_Met l vwCl sa_Ts tb_Z0 yX12_put cX12_put 3 (some .boolean) 2 120 K_X12_put_31 := tb_method (by decide) [15] (t_X12_put [] ) T_X12_put_31 [] 6000 (List.forall_mem_cons.mpr ⟨dX12_put_15, fun _ h => absurd h List.not_mem_nil⟩) (h_X12_put [] 2 120 (by decide) (by decide)  ) (by decide) (by decide +kernel)
set_option maxRecDepth 200000 in
set_option maxHeartbeats 4000000 in
def K_X12_put_32 : tb_K := ([.inr (.inl (some 1)), .inl (2, 0), .inl (3, 0)], [(1, (0, 13), .inl (4, 0))], [], [(0, 0), (1180591620717411303424, 1180591620717411303424), (30, 30), (1, 1), (0, 200)], [(some (.inl (3, 0)), [(1, (0, 15), .inr (.inl (some 5))), (1, (0, 13), .inl (4, 0)), (5, (2, 0), .inl (4, 0))], [], [(0, 0), (1180591620717411303424, 1180591620717411303424), (30, 30), (1, 1), (0, 200), (1180591620717411303432, 1180591620717411303432)])], [(8, 30, 30)])
set_option maxRecDepth 200000 in
set_option maxHeartbeats 4000000 in
def T_X12_put_32 : List (tb_S × tb_l) := []
set_option maxRecDepth 200000 in
set_option maxHeartbeats 4000000 in
theorem m_X12_put_32 {l : Launch} : tb_Met l vwCl sa_Ts tb_Z0 yX12_put cX12_put 3 (some .boolean) 2 120 K_X12_put_32 := tb_method (by decide) [15] (t_X12_put [(8, 30, 30)] ) T_X12_put_32 [] 6000 (List.forall_mem_cons.mpr ⟨dX12_put_15, fun _ h => absurd h List.not_mem_nil⟩) (h_X12_put [(8, 30, 30)] 2 120 (by decide) (by decide)  ) (by decide) (by decide +kernel)
set_option maxRecDepth 200000 in
set_option maxHeartbeats 4000000 in
def K_X12_put_33 : tb_K := ([.inr (.inl (some 1)), .inl (2, 0), .inl (3, 0)], [(1, (0, 13), .inl (4, 0))], [], [(0, 0), (1180591620717411303424, 1180591620717411303424), (29, 29), (0, 0), (-1, 999)], [(some (.inl (3, 0)), [(1, (0, 13), .inl (4, 0))], [], [(0, 0), (1180591620717411303424, 1180591620717411303424), (29, 29), (0, 0), (-1, 999)])], [])
set_option maxRecDepth 200000 in
set_option maxHeartbeats 4000000 in
def T_X12_put_33 : List (tb_S × tb_l) := []
set_option maxRecDepth 200000 in
set_option maxHeartbeats 4000000 in
theorem m_X12_put_33 {l : Launch} : tb_Met l vwCl sa_Ts tb_Z0 yX12_put cX12_put 3 (some .boolean) 2 120 K_X12_put_33 := tb_method (by decide) [15] (t_X12_put [] ) T_X12_put_33 [] 6000 (List.forall_mem_cons.mpr ⟨dX12_put_15, fun _ h => absurd h List.not_mem_nil⟩) (h_X12_put [] 2 120 (by decide) (by decide)  ) (by decide) (by decide +kernel)
set_option maxRecDepth 200000 in
set_option maxHeartbeats 4000000 in
def K_X12_put_34 : tb_K := ([.inr (.inl (some 1)), .inl (2, 0), .inl (3, 0)], [(1, (0, 13), .inl (4, 0))], [], [(0, 0), (1180591620717411303424, 1180591620717411303424), (29, 29), (1, 1), (0, 200)], [(some (.inl (3, 0)), [(1, (0, 15), .inr (.inl (some 5))), (1, (0, 13), .inl (4, 0)), (5, (2, 0), .inl (4, 0))], [], [(0, 0), (1180591620717411303424, 1180591620717411303424), (29, 29), (1, 1), (0, 200), (1180591620717411303432, 1180591620717411303432)])], [(8, 29, 29)])
set_option maxRecDepth 200000 in
set_option maxHeartbeats 4000000 in
def T_X12_put_34 : List (tb_S × tb_l) := []
set_option maxRecDepth 200000 in
set_option maxHeartbeats 4000000 in
theorem m_X12_put_34 {l : Launch} : tb_Met l vwCl sa_Ts tb_Z0 yX12_put cX12_put 3 (some .boolean) 2 120 K_X12_put_34 := tb_method (by decide) [15] (t_X12_put [(8, 29, 29)] ) T_X12_put_34 [] 6000 (List.forall_mem_cons.mpr ⟨dX12_put_15, fun _ h => absurd h List.not_mem_nil⟩) (h_X12_put [(8, 29, 29)] 2 120 (by decide) (by decide)  ) (by decide) (by decide +kernel)
set_option maxRecDepth 200000 in
set_option maxHeartbeats 4000000 in
def K_X12_isIn_3 : tb_K := ([.inl (1, 0), .inl (2, 0), .inl (3, 0)], [], [], [(0, 0), (-2147483648, 2147483647), (1, 1), (99, 99)], [(some (.inl (4, 0)), [], [], [(0, 0), (-2147483648, 2147483647), (1, 1), (99, 99), (0, 0)]), (some (.inl (4, 0)), [], [], [(0, 0), (1, 99), (1, 1), (99, 99), (1, 1)])], [])
set_option maxRecDepth 200000 in
set_option maxHeartbeats 4000000 in
def T_X12_isIn_3 : List (tb_S × tb_l) := []
set_option maxRecDepth 200000 in
set_option maxHeartbeats 4000000 in
theorem m_X12_isIn_3 {l : Launch} : tb_Met l vwCl sa_Ts tb_Z0 yX12_isIn cX12_isIn 3 (some .boolean) 2 120 K_X12_isIn_3 := tb_method (by decide) [15] (t_X12_isIn [] ) T_X12_isIn_3 [] 6000 (List.forall_mem_cons.mpr ⟨dX12_isIn_15, fun _ h => absurd h List.not_mem_nil⟩) (h_X12_isIn [] 2 120 (by decide) (by decide)  ) (by decide) (by decide +kernel)
set_option maxRecDepth 200000 in
set_option maxHeartbeats 4000000 in
def K_X12_readNumber_3 : tb_K := ([.inr (.inl (some 1)), .inl (2, 0), .inl (3, 0)], [], [], [(0, 0), (1180591620717411303424, 1180591620717411303424), (1, 1), (99, 99)], [(some (.inl (4, 0)), [], [], [(0, 0), (1180591620717411303424, 1180591620717411303424), (1, 1), (99, 99), (0, 0)]), (some (.inl (4, 0)), [(1, (0, 13), .inl (5, 0))], [], [(0, 0), (1180591620717411303424, 1180591620717411303424), (1, 1), (99, 99), (1, 1), (1, 99)])], [(0, 5, 13)])
set_option maxRecDepth 200000 in
set_option maxHeartbeats 4000000 in
def T_X12_readNumber_3 : List (tb_S × tb_l) := []
set_option maxRecDepth 200000 in
set_option maxHeartbeats 4000000 in
theorem m_X12_readNumber_3 {l : Launch} : tb_Met l vwCl sa_Ts tb_Z0 yX12_readNumber cX12_readNumber 3 (some .boolean) 4 165 K_X12_readNumber_3 := tb_method (by decide) [13, 31, 45] (t_X12_readNumber [(0, 5, 13)] [K_X12_bad_1] [K_X12_isIn_3] [K_X12_bad_4] [K_X12_go_1]) T_X12_readNumber_3 [] 6000 (List.forall_mem_cons.mpr ⟨dX12_readNumber_13, List.forall_mem_cons.mpr ⟨dX12_readNumber_31, List.forall_mem_cons.mpr ⟨dX12_readNumber_45, fun _ h => absurd h List.not_mem_nil⟩⟩⟩) (h_X12_readNumber [(0, 5, 13)] 4 165 (by decide) (by decide) [K_X12_bad_1] [K_X12_isIn_3] [K_X12_bad_4] [K_X12_go_1] ⟨2, 120, List.forall_mem_cons.mpr ⟨m_X12_bad_1, fun _ h => absurd h List.not_mem_nil⟩, by decide, by decide, by decide⟩ ⟨2, 120, List.forall_mem_cons.mpr ⟨m_X12_isIn_3, fun _ h => absurd h List.not_mem_nil⟩, by decide, by decide, by decide⟩ ⟨2, 120, List.forall_mem_cons.mpr ⟨m_X12_bad_4, fun _ h => absurd h List.not_mem_nil⟩, by decide, by decide, by decide⟩ ⟨3, 141, List.forall_mem_cons.mpr ⟨m_X12_go_1, fun _ h => absurd h List.not_mem_nil⟩, by decide, by decide, by decide⟩) (by decide) (by decide +kernel)
set_option maxRecDepth 200000 in
set_option maxHeartbeats 4000000 in
def K_X12_put_35 : tb_K := ([.inr (.inl (some 1)), .inl (2, 0), .inl (3, 0)], [(1, (0, 13), .inl (4, 0))], [], [(0, 0), (1180591620717411303424, 1180591620717411303424), (44, 44), (0, 0), (-1, 999)], [(some (.inl (3, 0)), [(1, (0, 13), .inl (4, 0))], [], [(0, 0), (1180591620717411303424, 1180591620717411303424), (44, 44), (0, 0), (-1, 999)])], [])
set_option maxRecDepth 200000 in
set_option maxHeartbeats 4000000 in
def T_X12_put_35 : List (tb_S × tb_l) := []
set_option maxRecDepth 200000 in
set_option maxHeartbeats 4000000 in
theorem m_X12_put_35 {l : Launch} : tb_Met l vwCl sa_Ts tb_Z0 yX12_put cX12_put 3 (some .boolean) 2 120 K_X12_put_35 := tb_method (by decide) [15] (t_X12_put [] ) T_X12_put_35 [] 6000 (List.forall_mem_cons.mpr ⟨dX12_put_15, fun _ h => absurd h List.not_mem_nil⟩) (h_X12_put [] 2 120 (by decide) (by decide)  ) (by decide) (by decide +kernel)
set_option maxRecDepth 200000 in
set_option maxHeartbeats 4000000 in
def K_X12_put_36 : tb_K := ([.inr (.inl (some 1)), .inl (2, 0), .inl (3, 0)], [(1, (0, 13), .inl (4, 0))], [], [(0, 0), (1180591620717411303424, 1180591620717411303424), (44, 44), (1, 1), (1, 99)], [(some (.inl (3, 0)), [(1, (0, 15), .inr (.inl (some 5))), (1, (0, 13), .inl (4, 0)), (5, (2, 0), .inl (4, 0))], [], [(0, 0), (1180591620717411303424, 1180591620717411303424), (44, 44), (1, 1), (1, 99), (1180591620717411303432, 1180591620717411303432)])], [(8, 44, 44)])
set_option maxRecDepth 200000 in
set_option maxHeartbeats 4000000 in
def T_X12_put_36 : List (tb_S × tb_l) := []
set_option maxRecDepth 200000 in
set_option maxHeartbeats 4000000 in
theorem m_X12_put_36 {l : Launch} : tb_Met l vwCl sa_Ts tb_Z0 yX12_put cX12_put 3 (some .boolean) 2 120 K_X12_put_36 := tb_method (by decide) [15] (t_X12_put [(8, 44, 44)] ) T_X12_put_36 [] 6000 (List.forall_mem_cons.mpr ⟨dX12_put_15, fun _ h => absurd h List.not_mem_nil⟩) (h_X12_put [(8, 44, 44)] 2 120 (by decide) (by decide)  ) (by decide) (by decide +kernel)
set_option maxRecDepth 200000 in
set_option maxHeartbeats 4000000 in
def K_X12_put_37 : tb_K := ([.inr (.inl (some 1)), .inl (2, 0), .inl (3, 0)], [(1, (0, 13), .inl (4, 0))], [], [(0, 0), (1180591620717411303424, 1180591620717411303424), (43, 43), (0, 0), (-1, 999)], [(some (.inl (3, 0)), [(1, (0, 13), .inl (4, 0))], [], [(0, 0), (1180591620717411303424, 1180591620717411303424), (43, 43), (0, 0), (-1, 999)])], [])
set_option maxRecDepth 200000 in
set_option maxHeartbeats 4000000 in
def T_X12_put_37 : List (tb_S × tb_l) := []
set_option maxRecDepth 200000 in
set_option maxHeartbeats 4000000 in
theorem m_X12_put_37 {l : Launch} : tb_Met l vwCl sa_Ts tb_Z0 yX12_put cX12_put 3 (some .boolean) 2 120 K_X12_put_37 := tb_method (by decide) [15] (t_X12_put [] ) T_X12_put_37 [] 6000 (List.forall_mem_cons.mpr ⟨dX12_put_15, fun _ h => absurd h List.not_mem_nil⟩) (h_X12_put [] 2 120 (by decide) (by decide)  ) (by decide) (by decide +kernel)
set_option maxRecDepth 200000 in
set_option maxHeartbeats 4000000 in
def K_X12_put_38 : tb_K := ([.inr (.inl (some 1)), .inl (2, 0), .inl (3, 0)], [(1, (0, 13), .inl (4, 0))], [], [(0, 0), (1180591620717411303424, 1180591620717411303424), (43, 43), (1, 1), (1, 99)], [(some (.inl (3, 0)), [(1, (0, 15), .inr (.inl (some 5))), (1, (0, 13), .inl (4, 0)), (5, (2, 0), .inl (4, 0))], [], [(0, 0), (1180591620717411303424, 1180591620717411303424), (43, 43), (1, 1), (1, 99), (1180591620717411303432, 1180591620717411303432)])], [(8, 43, 43)])
set_option maxRecDepth 200000 in
set_option maxHeartbeats 4000000 in
def T_X12_put_38 : List (tb_S × tb_l) := []
set_option maxRecDepth 200000 in
set_option maxHeartbeats 4000000 in
theorem m_X12_put_38 {l : Launch} : tb_Met l vwCl sa_Ts tb_Z0 yX12_put cX12_put 3 (some .boolean) 2 120 K_X12_put_38 := tb_method (by decide) [15] (t_X12_put [(8, 43, 43)] ) T_X12_put_38 [] 6000 (List.forall_mem_cons.mpr ⟨dX12_put_15, fun _ h => absurd h List.not_mem_nil⟩) (h_X12_put [(8, 43, 43)] 2 120 (by decide) (by decide)  ) (by decide) (by decide +kernel)
set_option maxRecDepth 200000 in
set_option maxHeartbeats 4000000 in
def K_X12_put_39 : tb_K := ([.inr (.inl (some 1)), .inl (2, 0), .inl (3, 0)], [(1, (0, 13), .inl (4, 0))], [], [(0, 0), (1180591620717411303424, 1180591620717411303424), (42, 42), (0, 0), (-1, 999)], [(some (.inl (3, 0)), [(1, (0, 13), .inl (4, 0))], [], [(0, 0), (1180591620717411303424, 1180591620717411303424), (42, 42), (0, 0), (-1, 999)])], [])
set_option maxRecDepth 200000 in
set_option maxHeartbeats 4000000 in
def T_X12_put_39 : List (tb_S × tb_l) := []
set_option maxRecDepth 200000 in
set_option maxHeartbeats 4000000 in
theorem m_X12_put_39 {l : Launch} : tb_Met l vwCl sa_Ts tb_Z0 yX12_put cX12_put 3 (some .boolean) 2 120 K_X12_put_39 := tb_method (by decide) [15] (t_X12_put [] ) T_X12_put_39 [] 6000 (List.forall_mem_cons.mpr ⟨dX12_put_15, fun _ h => absurd h List.not_mem_nil⟩) (h_X12_put [] 2 120 (by decide) (by decide)  ) (by decide) (by decide +kernel)
set_option maxRecDepth 200000 in
set_option maxHeartbeats 4000000 in
def K_X12_put_40 : tb_K := ([.inr (.inl (some 1)), .inl (2, 0), .inl (3, 0)], [(1, (0, 13), .inl (4, 0))], [], [(0, 0), (1180591620717411303424, 1180591620717411303424), (42, 42), (1, 1), (1, 99)], [(some (.inl (3, 0)), [(1, (0, 15), .inr (.inl (some 5))), (1, (0, 13), .inl (4, 0)), (5, (2, 0), .inl (4, 0))], [], [(0, 0), (1180591620717411303424, 1180591620717411303424), (42, 42), (1, 1), (1, 99), (1180591620717411303432, 1180591620717411303432)])], [(8, 42, 42)])
set_option maxRecDepth 200000 in
set_option maxHeartbeats 4000000 in
def T_X12_put_40 : List (tb_S × tb_l) := []
set_option maxRecDepth 200000 in
set_option maxHeartbeats 4000000 in
theorem m_X12_put_40 {l : Launch} : tb_Met l vwCl sa_Ts tb_Z0 yX12_put cX12_put 3 (some .boolean) 2 120 K_X12_put_40 := tb_method (by decide) [15] (t_X12_put [(8, 42, 42)] ) T_X12_put_40 [] 6000 (List.forall_mem_cons.mpr ⟨dX12_put_15, fun _ h => absurd h List.not_mem_nil⟩) (h_X12_put [(8, 42, 42)] 2 120 (by decide) (by decide)  ) (by decide) (by decide +kernel)
set_option maxRecDepth 200000 in
set_option maxHeartbeats 4000000 in
def K_X12_put_41 : tb_K := ([.inr (.inl (some 1)), .inl (2, 0), .inl (3, 0)], [(1, (0, 13), .inl (4, 0))], [], [(0, 0), (1180591620717411303424, 1180591620717411303424), (41, 41), (0, 0), (-1, 999)], [(some (.inl (3, 0)), [(1, (0, 13), .inl (4, 0))], [], [(0, 0), (1180591620717411303424, 1180591620717411303424), (41, 41), (0, 0), (-1, 999)])], [])
set_option maxRecDepth 200000 in
set_option maxHeartbeats 4000000 in
def T_X12_put_41 : List (tb_S × tb_l) := []
set_option maxRecDepth 200000 in
set_option maxHeartbeats 4000000 in
theorem m_X12_put_41 {l : Launch} : tb_Met l vwCl sa_Ts tb_Z0 yX12_put cX12_put 3 (some .boolean) 2 120 K_X12_put_41 := tb_method (by decide) [15] (t_X12_put [] ) T_X12_put_41 [] 6000 (List.forall_mem_cons.mpr ⟨dX12_put_15, fun _ h => absurd h List.not_mem_nil⟩) (h_X12_put [] 2 120 (by decide) (by decide)  ) (by decide) (by decide +kernel)
set_option maxRecDepth 200000 in
set_option maxHeartbeats 4000000 in
def K_X12_put_42 : tb_K := ([.inr (.inl (some 1)), .inl (2, 0), .inl (3, 0)], [(1, (0, 13), .inl (4, 0))], [], [(0, 0), (1180591620717411303424, 1180591620717411303424), (41, 41), (1, 1), (1, 99)], [(some (.inl (3, 0)), [(1, (0, 15), .inr (.inl (some 5))), (1, (0, 13), .inl (4, 0)), (5, (2, 0), .inl (4, 0))], [], [(0, 0), (1180591620717411303424, 1180591620717411303424), (41, 41), (1, 1), (1, 99), (1180591620717411303432, 1180591620717411303432)])], [(8, 41, 41)])
set_option maxRecDepth 200000 in
set_option maxHeartbeats 4000000 in
def T_X12_put_42 : List (tb_S × tb_l) := []
set_option maxRecDepth 200000 in
set_option maxHeartbeats 4000000 in
theorem m_X12_put_42 {l : Launch} : tb_Met l vwCl sa_Ts tb_Z0 yX12_put cX12_put 3 (some .boolean) 2 120 K_X12_put_42 := tb_method (by decide) [15] (t_X12_put [(8, 41, 41)] ) T_X12_put_42 [] 6000 (List.forall_mem_cons.mpr ⟨dX12_put_15, fun _ h => absurd h List.not_mem_nil⟩) (h_X12_put [(8, 41, 41)] 2 120 (by decide) (by decide)  ) (by decide) (by decide +kernel)
set_option maxRecDepth 200000 in
set_option maxHeartbeats 4000000 in
def K_X12_put_43 : tb_K := ([.inr (.inl (some 1)), .inl (2, 0), .inl (3, 0)], [(1, (0, 13), .inl (4, 0))], [], [(0, 0), (1180591620717411303424, 1180591620717411303424), (40, 40), (0, 0), (-1, 999)], [(some (.inl (3, 0)), [(1, (0, 13), .inl (4, 0))], [], [(0, 0), (1180591620717411303424, 1180591620717411303424), (40, 40), (0, 0), (-1, 999)])], [])
set_option maxRecDepth 200000 in
set_option maxHeartbeats 4000000 in
def T_X12_put_43 : List (tb_S × tb_l) := []
set_option maxRecDepth 200000 in
set_option maxHeartbeats 4000000 in
theorem m_X12_put_43 {l : Launch} : tb_Met l vwCl sa_Ts tb_Z0 yX12_put cX12_put 3 (some .boolean) 2 120 K_X12_put_43 := tb_method (by decide) [15] (t_X12_put [] ) T_X12_put_43 [] 6000 (List.forall_mem_cons.mpr ⟨dX12_put_15, fun _ h => absurd h List.not_mem_nil⟩) (h_X12_put [] 2 120 (by decide) (by decide)  ) (by decide) (by decide +kernel)
set_option maxRecDepth 200000 in
set_option maxHeartbeats 4000000 in
def K_X12_put_44 : tb_K := ([.inr (.inl (some 1)), .inl (2, 0), .inl (3, 0)], [(1, (0, 13), .inl (4, 0))], [], [(0, 0), (1180591620717411303424, 1180591620717411303424), (40, 40), (1, 1), (1, 99)], [(some (.inl (3, 0)), [(1, (0, 15), .inr (.inl (some 5))), (1, (0, 13), .inl (4, 0)), (5, (2, 0), .inl (4, 0))], [], [(0, 0), (1180591620717411303424, 1180591620717411303424), (40, 40), (1, 1), (1, 99), (1180591620717411303432, 1180591620717411303432)])], [(8, 40, 40)])
set_option maxRecDepth 200000 in
set_option maxHeartbeats 4000000 in
def T_X12_put_44 : List (tb_S × tb_l) := []
set_option maxRecDepth 200000 in
set_option maxHeartbeats 4000000 in
theorem m_X12_put_44 {l : Launch} : tb_Met l vwCl sa_Ts tb_Z0 yX12_put cX12_put 3 (some .boolean) 2 120 K_X12_put_44 := tb_method (by decide) [15] (t_X12_put [(8, 40, 40)] ) T_X12_put_44 [] 6000 (List.forall_mem_cons.mpr ⟨dX12_put_15, fun _ h => absurd h List.not_mem_nil⟩) (h_X12_put [(8, 40, 40)] 2 120 (by decide) (by decide)  ) (by decide) (by decide +kernel)
set_option maxRecDepth 200000 in
set_option maxHeartbeats 4000000 in
def K_X12_put_45 : tb_K := ([.inr (.inl (some 1)), .inl (2, 0), .inl (3, 0)], [(1, (0, 13), .inl (4, 0))], [], [(0, 0), (1180591620717411303424, 1180591620717411303424), (39, 39), (0, 0), (-1, 999)], [(some (.inl (3, 0)), [(1, (0, 13), .inl (4, 0))], [], [(0, 0), (1180591620717411303424, 1180591620717411303424), (39, 39), (0, 0), (-1, 999)])], [])
set_option maxRecDepth 200000 in
set_option maxHeartbeats 4000000 in
def T_X12_put_45 : List (tb_S × tb_l) := []
set_option maxRecDepth 200000 in
set_option maxHeartbeats 4000000 in
theorem m_X12_put_45 {l : Launch} : tb_Met l vwCl sa_Ts tb_Z0 yX12_put cX12_put 3 (some .boolean) 2 120 K_X12_put_45 := tb_method (by decide) [15] (t_X12_put [] ) T_X12_put_45 [] 6000 (List.forall_mem_cons.mpr ⟨dX12_put_15, fun _ h => absurd h List.not_mem_nil⟩) (h_X12_put [] 2 120 (by decide) (by decide)  ) (by decide) (by decide +kernel)
set_option maxRecDepth 200000 in
set_option maxHeartbeats 4000000 in
def K_X12_put_46 : tb_K := ([.inr (.inl (some 1)), .inl (2, 0), .inl (3, 0)], [(1, (0, 13), .inl (4, 0))], [], [(0, 0), (1180591620717411303424, 1180591620717411303424), (39, 39), (1, 1), (1, 99)], [(some (.inl (3, 0)), [(1, (0, 15), .inr (.inl (some 5))), (1, (0, 13), .inl (4, 0)), (5, (2, 0), .inl (4, 0))], [], [(0, 0), (1180591620717411303424, 1180591620717411303424), (39, 39), (1, 1), (1, 99), (1180591620717411303432, 1180591620717411303432)])], [(8, 39, 39)])
set_option maxRecDepth 200000 in
set_option maxHeartbeats 4000000 in
def T_X12_put_46 : List (tb_S × tb_l) := []
set_option maxRecDepth 200000 in
set_option maxHeartbeats 4000000 in
theorem m_X12_put_46 {l : Launch} : tb_Met l vwCl sa_Ts tb_Z0 yX12_put cX12_put 3 (some .boolean) 2 120 K_X12_put_46 := tb_method (by decide) [15] (t_X12_put [(8, 39, 39)] ) T_X12_put_46 [] 6000 (List.forall_mem_cons.mpr ⟨dX12_put_15, fun _ h => absurd h List.not_mem_nil⟩) (h_X12_put [(8, 39, 39)] 2 120 (by decide) (by decide)  ) (by decide) (by decide +kernel)
set_option maxRecDepth 200000 in
set_option maxHeartbeats 4000000 in
def K_X12_put_47 : tb_K := ([.inr (.inl (some 1)), .inl (2, 0), .inl (3, 0)], [(1, (0, 13), .inl (4, 0))], [], [(0, 0), (1180591620717411303424, 1180591620717411303424), (38, 38), (0, 0), (-1, 999)], [(some (.inl (3, 0)), [(1, (0, 13), .inl (4, 0))], [], [(0, 0), (1180591620717411303424, 1180591620717411303424), (38, 38), (0, 0), (-1, 999)])], [])
set_option maxRecDepth 200000 in
set_option maxHeartbeats 4000000 in
def T_X12_put_47 : List (tb_S × tb_l) := []
set_option maxRecDepth 200000 in
set_option maxHeartbeats 4000000 in
theorem m_X12_put_47 {l : Launch} : tb_Met l vwCl sa_Ts tb_Z0 yX12_put cX12_put 3 (some .boolean) 2 120 K_X12_put_47 := tb_method (by decide) [15] (t_X12_put [] ) T_X12_put_47 [] 6000 (List.forall_mem_cons.mpr ⟨dX12_put_15, fun _ h => absurd h List.not_mem_nil⟩) (h_X12_put [] 2 120 (by decide) (by decide)  ) (by decide) (by decide +kernel)
set_option maxRecDepth 200000 in
set_option maxHeartbeats 4000000 in
def K_X12_put_48 : tb_K := ([.inr (.inl (some 1)), .inl (2, 0), .inl (3, 0)], [(1, (0, 13), .inl (4, 0))], [], [(0, 0), (1180591620717411303424, 1180591620717411303424), (38, 38), (1, 1), (1, 99)], [(some (.inl (3, 0)), [(1, (0, 15), .inr (.inl (some 5))), (1, (0, 13), .inl (4, 0)), (5, (2, 0), .inl (4, 0))], [], [(0, 0), (1180591620717411303424, 1180591620717411303424), (38, 38), (1, 1), (1, 99), (1180591620717411303432, 1180591620717411303432)])], [(8, 38, 38)])
set_option maxRecDepth 200000 in
set_option maxHeartbeats 4000000 in
def T_X12_put_48 : List (tb_S × tb_l) := []
set_option maxRecDepth 200000 in
set_option maxHeartbeats 4000000 in
theorem m_X12_put_48 {l : Launch} : tb_Met l vwCl sa_Ts tb_Z0 yX12_put cX12_put 3 (some .boolean) 2 120 K_X12_put_48 := tb_method (by decide) [15] (t_X12_put [(8, 38, 38)] ) T_X12_put_48 [] 6000 (List.forall_mem_cons.mpr ⟨dX12_put_15, fun _ h => absurd h List.not_mem_nil⟩) (h_X12_put [(8, 38, 38)] 2 120 (by decide) (by decide)  ) (by decide) (by decide +kernel)
set_option maxRecDepth 200000 in
set_option maxHeartbeats 4000000 in
def K_X12_put_49 : tb_K := ([.inr (.inl (some 1)), .inl (2, 0), .inl (3, 0)], [(1, (0, 13), .inl (4, 0))], [], [(0, 0), (1180591620717411303424, 1180591620717411303424), (37, 37), (0, 0), (-1, 999)], [(some (.inl (3, 0)), [(1, (0, 13), .inl (4, 0))], [], [(0, 0), (1180591620717411303424, 1180591620717411303424), (37, 37), (0, 0), (-1, 999)])], [])
set_option maxRecDepth 200000 in
set_option maxHeartbeats 4000000 in
def T_X12_put_49 : List (tb_S × tb_l) := []
set_option maxRecDepth 200000 in
set_option maxHeartbeats 4000000 in
theorem m_X12_put_49 {l : Launch} : tb_Met l vwCl sa_Ts tb_Z0 yX12_put cX12_put 3 (some .boolean) 2 120 K_X12_put_49 := tb_method (by decide) [15] (t_X12_put [] ) T_X12_put_49 [] 6000 (List.forall_mem_cons.mpr ⟨dX12_put_15, fun _ h => absurd h List.not_mem_nil⟩) (h_X12_put [] 2 120 (by decide) (by decide)  ) (by decide) (by decide +kernel)
set_option maxRecDepth 200000 in
set_option maxHeartbeats 4000000 in
def K_X12_put_50 : tb_K := ([.inr (.inl (some 1)), .inl (2, 0), .inl (3, 0)], [(1, (0, 13), .inl (4, 0))], [], [(0, 0), (1180591620717411303424, 1180591620717411303424), (37, 37), (1, 1), (1, 99)], [(some (.inl (3, 0)), [(1, (0, 15), .inr (.inl (some 5))), (1, (0, 13), .inl (4, 0)), (5, (2, 0), .inl (4, 0))], [], [(0, 0), (1180591620717411303424, 1180591620717411303424), (37, 37), (1, 1), (1, 99), (1180591620717411303432, 1180591620717411303432)])], [(8, 37, 37)])
set_option maxRecDepth 200000 in
set_option maxHeartbeats 4000000 in
def T_X12_put_50 : List (tb_S × tb_l) := []
set_option maxRecDepth 200000 in
set_option maxHeartbeats 4000000 in
theorem m_X12_put_50 {l : Launch} : tb_Met l vwCl sa_Ts tb_Z0 yX12_put cX12_put 3 (some .boolean) 2 120 K_X12_put_50 := tb_method (by decide) [15] (t_X12_put [(8, 37, 37)] ) T_X12_put_50 [] 6000 (List.forall_mem_cons.mpr ⟨dX12_put_15, fun _ h => absurd h List.not_mem_nil⟩) (h_X12_put [(8, 37, 37)] 2 120 (by decide) (by decide)  ) (by decide) (by decide +kernel)
set_option maxRecDepth 200000 in
set_option maxHeartbeats 4000000 in
def K_X12_isIn_4 : tb_K := ([.inl (1, 0), .inl (2, 0), .inl (3, 0)], [], [], [(0, 0), (-2147483648, 2147483647), (1, 1), (15, 15)], [(some (.inl (4, 0)), [], [], [(0, 0), (-2147483648, 2147483647), (1, 1), (15, 15), (0, 0)]), (some (.inl (4, 0)), [], [], [(0, 0), (1, 15), (1, 1), (15, 15), (1, 1)])], [])
set_option maxRecDepth 200000 in
set_option maxHeartbeats 4000000 in
def T_X12_isIn_4 : List (tb_S × tb_l) := []
set_option maxRecDepth 200000 in
set_option maxHeartbeats 4000000 in
theorem m_X12_isIn_4 {l : Launch} : tb_Met l vwCl sa_Ts tb_Z0 yX12_isIn cX12_isIn 3 (some .boolean) 2 120 K_X12_isIn_4 := tb_method (by decide) [15] (t_X12_isIn [] ) T_X12_isIn_4 [] 6000 (List.forall_mem_cons.mpr ⟨dX12_isIn_15, fun _ h => absurd h List.not_mem_nil⟩) (h_X12_isIn [] 2 120 (by decide) (by decide)  ) (by decide) (by decide +kernel)
set_option maxRecDepth 200000 in
set_option maxHeartbeats 4000000 in
def K_X12_readNumber_4 : tb_K := ([.inr (.inl (some 1)), .inl (2, 0), .inl (3, 0)], [], [], [(0, 0), (1180591620717411303424, 1180591620717411303424), (1, 1), (15, 15)], [(some (.inl (4, 0)), [], [], [(0, 0), (1180591620717411303424, 1180591620717411303424), (1, 1), (15, 15), (0, 0)]), (some (.inl (4, 0)), [(1, (0, 13), .inl (5, 0))], [], [(0, 0), (1180591620717411303424, 1180591620717411303424), (1, 1), (15, 15), (1, 1), (1, 15)])], [(0, 5, 13)])
set_option maxRecDepth 200000 in
set_option maxHeartbeats 4000000 in
def T_X12_readNumber_4 : List (tb_S × tb_l) := []
set_option maxRecDepth 200000 in
set_option maxHeartbeats 4000000 in
theorem m_X12_readNumber_4 {l : Launch} : tb_Met l vwCl sa_Ts tb_Z0 yX12_readNumber cX12_readNumber 3 (some .boolean) 4 165 K_X12_readNumber_4 := tb_method (by decide) [13, 31, 45] (t_X12_readNumber [(0, 5, 13)] [K_X12_bad_1] [K_X12_isIn_4] [K_X12_bad_4] [K_X12_go_1]) T_X12_readNumber_4 [] 6000 (List.forall_mem_cons.mpr ⟨dX12_readNumber_13, List.forall_mem_cons.mpr ⟨dX12_readNumber_31, List.forall_mem_cons.mpr ⟨dX12_readNumber_45, fun _ h => absurd h List.not_mem_nil⟩⟩⟩) (h_X12_readNumber [(0, 5, 13)] 4 165 (by decide) (by decide) [K_X12_bad_1] [K_X12_isIn_4] [K_X12_bad_4] [K_X12_go_1] ⟨2, 120, List.forall_mem_cons.mpr ⟨m_X12_bad_1, fun _ h => absurd h List.not_mem_nil⟩, by decide, by decide, by decide⟩ ⟨2, 120, List.forall_mem_cons.mpr ⟨m_X12_isIn_4, fun _ h => absurd h List.not_mem_nil⟩, by decide, by decide, by decide⟩ ⟨2, 120, List.forall_mem_cons.mpr ⟨m_X12_bad_4, fun _ h => absurd h List.not_mem_nil⟩, by decide, by decide, by decide⟩ ⟨3, 141, List.forall_mem_cons.mpr ⟨m_X12_go_1, fun _ h => absurd h List.not_mem_nil⟩, by decide, by decide, by decide⟩) (by decide) (by decide +kernel)
set_option maxRecDepth 200000 in
set_option maxHeartbeats 4000000 in
def K_X12_put_51 : tb_K := ([.inr (.inl (some 1)), .inl (2, 0), .inl (3, 0)], [(1, (0, 13), .inl (4, 0))], [], [(0, 0), (1180591620717411303424, 1180591620717411303424), (52, 52), (0, 0), (-1, 999)], [(some (.inl (3, 0)), [(1, (0, 13), .inl (4, 0))], [], [(0, 0), (1180591620717411303424, 1180591620717411303424), (52, 52), (0, 0), (-1, 999)])], [])
set_option maxRecDepth 200000 in
set_option maxHeartbeats 4000000 in
def T_X12_put_51 : List (tb_S × tb_l) := []
set_option maxRecDepth 200000 in
set_option maxHeartbeats 4000000 in
theorem m_X12_put_51 {l : Launch} : tb_Met l vwCl sa_Ts tb_Z0 yX12_put cX12_put 3 (some .boolean) 2 120 K_X12_put_51 := tb_method (by decide) [15] (t_X12_put [] ) T_X12_put_51 [] 6000 (List.forall_mem_cons.mpr ⟨dX12_put_15, fun _ h => absurd h List.not_mem_nil⟩) (h_X12_put [] 2 120 (by decide) (by decide)  ) (by decide) (by decide +kernel)
set_option maxRecDepth 200000 in
set_option maxHeartbeats 4000000 in
def K_X12_put_52 : tb_K := ([.inr (.inl (some 1)), .inl (2, 0), .inl (3, 0)], [(1, (0, 13), .inl (4, 0))], [], [(0, 0), (1180591620717411303424, 1180591620717411303424), (52, 52), (1, 1), (1, 15)], [(some (.inl (3, 0)), [(1, (0, 15), .inr (.inl (some 5))), (1, (0, 13), .inl (4, 0)), (5, (2, 0), .inl (4, 0))], [], [(0, 0), (1180591620717411303424, 1180591620717411303424), (52, 52), (1, 1), (1, 15), (1180591620717411303432, 1180591620717411303432)])], [(8, 52, 52)])
set_option maxRecDepth 200000 in
set_option maxHeartbeats 4000000 in
def T_X12_put_52 : List (tb_S × tb_l) := []
set_option maxRecDepth 200000 in
set_option maxHeartbeats 4000000 in
theorem m_X12_put_52 {l : Launch} : tb_Met l vwCl sa_Ts tb_Z0 yX12_put cX12_put 3 (some .boolean) 2 120 K_X12_put_52 := tb_method (by decide) [15] (t_X12_put [(8, 52, 52)] ) T_X12_put_52 [] 6000 (List.forall_mem_cons.mpr ⟨dX12_put_15, fun _ h => absurd h List.not_mem_nil⟩) (h_X12_put [(8, 52, 52)] 2 120 (by decide) (by decide)  ) (by decide) (by decide +kernel)
set_option maxRecDepth 200000 in
set_option maxHeartbeats 4000000 in
def K_X12_put_53 : tb_K := ([.inr (.inl (some 1)), .inl (2, 0), .inl (3, 0)], [(1, (0, 13), .inl (4, 0))], [], [(0, 0), (1180591620717411303424, 1180591620717411303424), (51, 51), (0, 0), (-1, 999)], [(some (.inl (3, 0)), [(1, (0, 13), .inl (4, 0))], [], [(0, 0), (1180591620717411303424, 1180591620717411303424), (51, 51), (0, 0), (-1, 999)])], [])
set_option maxRecDepth 200000 in
set_option maxHeartbeats 4000000 in
def T_X12_put_53 : List (tb_S × tb_l) := []
set_option maxRecDepth 200000 in
set_option maxHeartbeats 4000000 in
theorem m_X12_put_53 {l : Launch} : tb_Met l vwCl sa_Ts tb_Z0 yX12_put cX12_put 3 (some .boolean) 2 120 K_X12_put_53 := tb_method (by decide) [15] (t_X12_put [] ) T_X12_put_53 [] 6000 (List.forall_mem_cons.mpr ⟨dX12_put_15, fun _ h => absurd h List.not_mem_nil⟩) (h_X12_put [] 2 120 (by decide) (by decide)  ) (by decide) (by decide +kernel)
set_option maxRecDepth 200000 in
set_option maxHeartbeats 4000000 in
def K_X12_put_54 : tb_K := ([.inr (.inl (some 1)), .inl (2, 0), .inl (3, 0)], [(1, (0, 13), .inl (4, 0))], [], [(0, 0), (1180591620717411303424, 1180591620717411303424), (51, 51), (1, 1), (1, 15)], [(some (.inl (3, 0)), [(1, (0, 15), .inr (.inl (some 5))), (1, (0, 13), .inl (4, 0)), (5, (2, 0), .inl (4, 0))], [], [(0, 0), (1180591620717411303424, 1180591620717411303424), (51, 51), (1, 1), (1, 15), (1180591620717411303432, 1180591620717411303432)])], [(8, 51, 51)])
set_option maxRecDepth 200000 in
set_option maxHeartbeats 4000000 in
def T_X12_put_54 : List (tb_S × tb_l) := []
set_option maxRecDepth 200000 in
set_option maxHeartbeats 4000000 in
theorem m_X12_put_54 {l : Launch} : tb_Met l vwCl sa_Ts tb_Z0 yX12_put cX12_put 3 (some .boolean) 2 120 K_X12_put_54 := tb_method (by decide) [15] (t_X12_put [(8, 51, 51)] ) T_X12_put_54 [] 6000 (List.forall_mem_cons.mpr ⟨dX12_put_15, fun _ h => absurd h List.not_mem_nil⟩) (h_X12_put [(8, 51, 51)] 2 120 (by decide) (by decide)  ) (by decide) (by decide +kernel)
set_option maxRecDepth 200000 in
set_option maxHeartbeats 4000000 in
def K_X12_put_55 : tb_K := ([.inr (.inl (some 1)), .inl (2, 0), .inl (3, 0)], [(1, (0, 13), .inl (4, 0))], [], [(0, 0), (1180591620717411303424, 1180591620717411303424), (50, 50), (0, 0), (-1, 999)], [(some (.inl (3, 0)), [(1, (0, 13), .inl (4, 0))], [], [(0, 0), (1180591620717411303424, 1180591620717411303424), (50, 50), (0, 0), (-1, 999)])], [])
set_option maxRecDepth 200000 in
set_option maxHeartbeats 4000000 in
def T_X12_put_55 : List (tb_S × tb_l) := []
set_option maxRecDepth 200000 in
set_option maxHeartbeats 4000000 in
theorem m_X12_put_55 {l : Launch} : tb_Met l vwCl sa_Ts tb_Z0 yX12_put cX12_put 3 (some .boolean) 2 120 K_X12_put_55 := tb_method (by decide) [15] (t_X12_put [] ) T_X12_put_55 [] 6000 (List.forall_mem_cons.mpr ⟨dX12_put_15, fun _ h => absurd h List.not_mem_nil⟩) (h_X12_put [] 2 120 (by decide) (by decide)  ) (by decide) (by decide +kernel)
set_option maxRecDepth 200000 in
set_option maxHeartbeats 4000000 in
def K_X12_put_56 : tb_K := ([.inr (.inl (some 1)), .inl (2, 0), .inl (3, 0)], [(1, (0, 13), .inl (4, 0))], [], [(0, 0), (1180591620717411303424, 1180591620717411303424), (50, 50), (1, 1), (1, 15)], [(some (.inl (3, 0)), [(1, (0, 15), .inr (.inl (some 5))), (1, (0, 13), .inl (4, 0)), (5, (2, 0), .inl (4, 0))], [], [(0, 0), (1180591620717411303424, 1180591620717411303424), (50, 50), (1, 1), (1, 15), (1180591620717411303432, 1180591620717411303432)])], [(8, 50, 50)])
set_option maxRecDepth 200000 in
set_option maxHeartbeats 4000000 in
def T_X12_put_56 : List (tb_S × tb_l) := []
set_option maxRecDepth 200000 in
set_option maxHeartbeats 4000000 in
theorem m_X12_put_56 {l : Launch} : tb_Met l vwCl sa_Ts tb_Z0 yX12_put cX12_put 3 (some .boolean) 2 120 K_X12_put_56 := tb_method (by decide) [15] (t_X12_put [(8, 50, 50)] ) T_X12_put_56 [] 6000 (List.forall_mem_cons.mpr ⟨dX12_put_15, fun _ h => absurd h List.not_mem_nil⟩) (h_X12_put [(8, 50, 50)] 2 120 (by decide) (by decide)  ) (by decide) (by decide +kernel)
set_option maxRecDepth 200000 in
set_option maxHeartbeats 4000000 in
def K_X12_put_57 : tb_K := ([.inr (.inl (some 1)), .inl (2, 0), .inl (3, 0)], [(1, (0, 13), .inl (4, 0))], [], [(0, 0), (1180591620717411303424, 1180591620717411303424), (49, 49), (0, 0), (-1, 999)], [(some (.inl (3, 0)), [(1, (0, 13), .inl (4, 0))], [], [(0, 0), (1180591620717411303424, 1180591620717411303424), (49, 49), (0, 0), (-1, 999)])], [])
set_option maxRecDepth 200000 in
set_option maxHeartbeats 4000000 in
def T_X12_put_57 : List (tb_S × tb_l) := []
set_option maxRecDepth 200000 in
set_option maxHeartbeats 4000000 in
theorem m_X12_put_57 {l : Launch} : tb_Met l vwCl sa_Ts tb_Z0 yX12_put cX12_put 3 (some .boolean) 2 120 K_X12_put_57 := tb_method (by decide) [15] (t_X12_put [] ) T_X12_put_57 [] 6000 (List.forall_mem_cons.mpr ⟨dX12_put_15, fun _ h => absurd h List.not_mem_nil⟩) (h_X12_put [] 2 120 (by decide) (by decide)  ) (by decide) (by decide +kernel)
set_option maxRecDepth 200000 in
set_option maxHeartbeats 4000000 in
def K_X12_put_58 : tb_K := ([.inr (.inl (some 1)), .inl (2, 0), .inl (3, 0)], [(1, (0, 13), .inl (4, 0))], [], [(0, 0), (1180591620717411303424, 1180591620717411303424), (49, 49), (1, 1), (1, 15)], [(some (.inl (3, 0)), [(1, (0, 15), .inr (.inl (some 5))), (1, (0, 13), .inl (4, 0)), (5, (2, 0), .inl (4, 0))], [], [(0, 0), (1180591620717411303424, 1180591620717411303424), (49, 49), (1, 1), (1, 15), (1180591620717411303432, 1180591620717411303432)])], [(8, 49, 49)])
set_option maxRecDepth 200000 in
set_option maxHeartbeats 4000000 in
def T_X12_put_58 : List (tb_S × tb_l) := []
set_option maxRecDepth 200000 in
set_option maxHeartbeats 4000000 in
theorem m_X12_put_58 {l : Launch} : tb_Met l vwCl sa_Ts tb_Z0 yX12_put cX12_put 3 (some .boolean) 2 120 K_X12_put_58 := tb_method (by decide) [15] (t_X12_put [(8, 49, 49)] ) T_X12_put_58 [] 6000 (List.forall_mem_cons.mpr ⟨dX12_put_15, fun _ h => absurd h List.not_mem_nil⟩) (h_X12_put [(8, 49, 49)] 2 120 (by decide) (by decide)  ) (by decide) (by decide +kernel)
set_option maxRecDepth 200000 in
set_option maxHeartbeats 4000000 in
def K_X12_put_59 : tb_K := ([.inr (.inl (some 1)), .inl (2, 0), .inl (3, 0)], [(1, (0, 13), .inl (4, 0))], [], [(0, 0), (1180591620717411303424, 1180591620717411303424), (48, 48), (0, 0), (-1, 999)], [(some (.inl (3, 0)), [(1, (0, 13), .inl (4, 0))], [], [(0, 0), (1180591620717411303424, 1180591620717411303424), (48, 48), (0, 0), (-1, 999)])], [])
set_option maxRecDepth 200000 in
set_option maxHeartbeats 4000000 in
def T_X12_put_59 : List (tb_S × tb_l) := []
set_option maxRecDepth 200000 in
set_option maxHeartbeats 4000000 in
theorem m_X12_put_59 {l : Launch} : tb_Met l vwCl sa_Ts tb_Z0 yX12_put cX12_put 3 (some .boolean) 2 120 K_X12_put_59 := tb_method (by decide) [15] (t_X12_put [] ) T_X12_put_59 [] 6000 (List.forall_mem_cons.mpr ⟨dX12_put_15, fun _ h => absurd h List.not_mem_nil⟩) (h_X12_put [] 2 120 (by decide) (by decide)  ) (by decide) (by decide +kernel)
set_option maxRecDepth 200000 in
set_option maxHeartbeats 4000000 in
def K_X12_put_60 : tb_K := ([.inr (.inl (some 1)), .inl (2, 0), .inl (3, 0)], [(1, (0, 13), .inl (4, 0))], [], [(0, 0), (1180591620717411303424, 1180591620717411303424), (48, 48), (1, 1), (1, 15)], [(some (.inl (3, 0)), [(1, (0, 15), .inr (.inl (some 5))), (1, (0, 13), .inl (4, 0)), (5, (2, 0), .inl (4, 0))], [], [(0, 0), (1180591620717411303424, 1180591620717411303424), (48, 48), (1, 1), (1, 15), (1180591620717411303432, 1180591620717411303432)])], [(8, 48, 48)])
set_option maxRecDepth 200000 in
set_option maxHeartbeats 4000000 in
def T_X12_put_60 : List (tb_S × tb_l) := []
set_option maxRecDepth 200000 in
set_option maxHeartbeats 4000000 in
theorem m_X12_put_60 {l : Launch} : tb_Met l vwCl sa_Ts tb_Z0 yX12_put cX12_put 3 (some .boolean) 2 120 K_X12_put_60 := tb_method (by decide) [15] (t_X12_put [(8, 48, 48)] ) T_X12_put_60 [] 6000 (List.forall_mem_cons.mpr ⟨dX12_put_15, fun _ h => absurd h List.not_mem_nil⟩) (h_X12_put [(8, 48, 48)] 2 120 (by decide) (by decide)  ) (by decide) (by decide +kernel)
set_option maxRecDepth 200000 in
set_option maxHeartbeats 4000000 in
def K_X12_put_61 : tb_K := ([.inr (.inl (some 1)), .inl (2, 0), .inl (3, 0)], [(1, (0, 13), .inl (4, 0))], [], [(0, 0), (1180591620717411303424, 1180591620717411303424), (47, 47), (0, 0), (-1, 999)], [(some (.inl (3, 0)), [(1, (0, 13), .inl (4, 0))], [], [(0, 0), (1180591620717411303424, 1180591620717411303424), (47, 47), (0, 0), (-1, 999)])], [])
set_option maxRecDepth 200000 in
set_option maxHeartbeats 4000000 in
def T_X12_put_61 : List (tb_S × tb_l) := []
set_option maxRecDepth 200000 in
set_option maxHeartbeats 4000000 in
theorem m_X12_put_61 {l : Launch} : tb_Met l vwCl sa_Ts tb_Z0 yX12_put cX12_put 3 (some .boolean) 2 120 K_X12_put_61 := tb_method (by decide) [15] (t_X12_put [] ) T_X12_put_61 [] 6000 (List.forall_mem_cons.mpr ⟨dX12_put_15, fun _ h => absurd h List.not_mem_nil⟩) (h_X12_put [] 2 120 (by decide) (by decide)  ) (by decide) (by decide +kernel)
set_option maxRecDepth 200000 in
set_option maxHeartbeats 4000000 in
def K_X12_put_62 : tb_K := ([.inr (.inl (some 1)), .inl (2, 0), .inl (3, 0)], [(1, (0, 13), .inl (4, 0))], [], [(0, 0), (1180591620717411303424, 1180591620717411303424), (47, 47), (1, 1), (1, 15)], [(some (.inl (3, 0)), [(1, (0, 15), .inr (.inl (some 5))), (1, (0, 13), .inl (4, 0)), (5, (2, 0), .inl (4, 0))], [], [(0, 0), (1180591620717411303424, 1180591620717411303424), (47, 47), (1, 1), (1, 15), (1180591620717411303432, 1180591620717411303432)])], [(8, 47, 47)])
set_option maxRecDepth 200000 in
set_option maxHeartbeats 4000000 in
def T_X12_put_62 : List (tb_S × tb_l) := []
set_option maxRecDepth 200000 in
set_option maxHeartbeats 4000000 in
theorem m_X12_put_62 {l : Launch} : tb_Met l vwCl sa_Ts tb_Z0 yX12_put cX12_put 3 (some .boolean) 2 120 K_X12_put_62 := tb_method (by decide) [15] (t_X12_put [(8, 47, 47)] ) T_X12_put_62 [] 6000 (List.forall_mem_cons.mpr ⟨dX12_put_15, fun _ h => absurd h List.not_mem_nil⟩) (h_X12_put [(8, 47, 47)] 2 120 (by decide) (by decide)  ) (by decide) (by decide +kernel)
set_option maxRecDepth 200000 in
set_option maxHeartbeats 4000000 in
def K_X12_put_63 : tb_K := ([.inr (.inl (some 1)), .inl (2, 0), .inl (3, 0)], [(1, (0, 13), .inl (4, 0))], [], [(0, 0), (1180591620717411303424, 1180591620717411303424), (46, 46), (0, 0), (-1, 999)], [(some (.inl (3, 0)), [(1, (0, 13), .inl (4, 0))], [], [(0, 0), (1180591620717411303424, 1180591620717411303424), (46, 46), (0, 0), (-1, 999)])], [])
set_option maxRecDepth 200000 in
set_option maxHeartbeats 4000000 in
def T_X12_put_63 : List (tb_S × tb_l) := []
set_option maxRecDepth 200000 in
set_option maxHeartbeats 4000000 in
theorem m_X12_put_63 {l : Launch} : tb_Met l vwCl sa_Ts tb_Z0 yX12_put cX12_put 3 (some .boolean) 2 120 K_X12_put_63 := tb_method (by decide) [15] (t_X12_put [] ) T_X12_put_63 [] 6000 (List.forall_mem_cons.mpr ⟨dX12_put_15, fun _ h => absurd h List.not_mem_nil⟩) (h_X12_put [] 2 120 (by decide) (by decide)  ) (by decide) (by decide +kernel)
set_option maxRecDepth 200000 in
set_option maxHeartbeats 4000000 in
def K_X12_put_64 : tb_K := ([.inr (.inl (some 1)), .inl (2, 0), .inl (3, 0)], [(1, (0, 13), .inl (4, 0))], [], [(0, 0), (1180591620717411303424, 1180591620717411303424), (46, 46), (1, 1), (1, 15)], [(some (.inl (3, 0)), [(1, (0, 15), .inr (.inl (some 5))), (1, (0, 13), .inl (4, 0)), (5, (2, 0), .inl (4, 0))], [], [(0, 0), (1180591620717411303424, 1180591620717411303424), (46, 46), (1, 1), (1, 15), (1180591620717411303432, 1180591620717411303432)])], [(8, 46, 46)])
set_option maxRecDepth 200000 in
set_option maxHeartbeats 4000000 in
def T_X12_put_64 : List (tb_S × tb_l) := []
set_option maxRecDepth 200000 in
set_option maxHeartbeats 4000000 in
theorem m_X12_put_64 {l : Launch} : tb_Met l vwCl sa_Ts tb_Z0 yX12_put cX12_put 3 (some .boolean) 2 120 K_X12_put_64 := tb_method (by decide) [15] (t_X12_put [(8, 46, 46)] ) T_X12_put_64 [] 6000 (List.forall_mem_cons.mpr ⟨dX12_put_15, fun _ h => absurd h List.not_mem_nil⟩) (h_X12_put [(8, 46, 46)] 2 120 (by decide) (by decide)  ) (by decide) (by decide +kernel)
set_option maxRecDepth 200000 in
set_option maxHeartbeats 4000000 in
def K_X12_put_65 : tb_K := ([.inr (.inl (some 1)), .inl (2, 0), .inl (3, 0)], [(1, (0, 13), .inl (4, 0))], [], [(0, 0), (1180591620717411303424, 1180591620717411303424), (45, 45), (0, 0), (-1, 999)], [(some (.inl (3, 0)), [(1, (0, 13), .inl (4, 0))], [], [(0, 0), (1180591620717411303424, 1180591620717411303424), (45, 45), (0, 0), (-1, 999)])], [])
set_option maxRecDepth 200000 in
set_option maxHeartbeats 4000000 in
def T_X12_put_65 : List (tb_S × tb_l) := []
set_option maxRecDepth 200000 in
set_option maxHeartbeats 4000000 in
theorem m_X12_put_65 {l : Launch} : tb_Met l vwCl sa_Ts tb_Z0 yX12_put cX12_put 3 (some .boolean) 2 120 K_X12_put_65 := tb_method (by decide) [15] (t_X12_put [] ) T_X12_put_65 [] 6000 (List.forall_mem_cons.mpr ⟨dX12_put_15, fun _ h => absurd h List.not_mem_nil⟩) (h_X12_put [] 2 120 (by decide) (by decide)  ) (by decide) (by decide +kernel)
set_option maxRecDepth 200000 in
set_option maxHeartbeats 4000000 in
def K_X12_put_66 : tb_K := ([.inr (.inl (some 1)), .inl (2, 0), .inl (3, 0)], [(1, (0, 13), .inl (4, 0))], [], [(0, 0), (1180591620717411303424, 1180591620717411303424), (45, 45), (1, 1), (1, 15)], [(some (.inl (3, 0)), [(1, (0, 15), .inr (.inl (some 5))), (1, (0, 13), .inl (4, 0)), (5, (2, 0), .inl (4, 0))], [], [(0, 0), (1180591620717411303424, 1180591620717411303424), (45, 45), (1, 1), (1, 15), (1180591620717411303432, 1180591620717411303432)])], [(8, 45, 45)])
set_option maxRecDepth 200000 in
set_option maxHeartbeats 4000000 in
def T_X12_put_66 : List (tb_S × tb_l) := []
set_option maxRecDepth 200000 in
set_option maxHeartbeats 4000000 in
theorem m_X12_put_66 {l : Launch} : tb_Met l vwCl sa_Ts tb_Z0 yX12_put cX12_put 3 (some .boolean) 2 120 K_X12_put_66 := tb_method (by decide) [15] (t_X12_put [(8, 45, 45)] ) T_X12_put_66 [] 6000 (List.forall_mem_cons.mpr ⟨dX12_put_15, fun _ h => absurd h List.not_mem_nil⟩) (h_X12_put [(8, 45, 45)] 2 120 (by decide) (by decide)  ) (by decide) (by decide +kernel)
noncomputable def t_X12_readFault (mod : List (Nat × Nat × Nat)) (L4 : List tb_K) (L24 : List tb_K) (L43 : List tb_K) (L46 : List tb_K) (L64 : List tb_K) (L67 : List tb_K) (L82 : List tb_K) (L85 : List tb_K) (L100 : List tb_K) (L103 : List tb_K) : List (Nat × tb_op) := [(0, to_then 1 (to_aload 0 1) (to_then 2 (to_int (1) 1) (to_then 4 (to_int (8) 2) (to_cs tb_Z0 mod (tb_gV tb_Z0 12 3 0 0) L4)))), (7, to_if tr_ne tr_eq 12), (10, to_int (0) 1), (12, to_then 13 (to_aload 0 1) (to_get tb_Z0 [] 12 15)), (16, to_then 17 (to_int (1) 1) (to_ald tb_Z0 [] 0)), (18, to_istore 2 1 1), (19, tb_seq (tb_spl tb_Z0 1 []) (to_aload 0 1)), (20, to_then 22 (to_int (6) 2) (to_then 23 (to_iload 1 1) (to_bin tf_add))), (24, to_cs tb_Z0 mod (tb_gV tb_Z0 12 2 0 0) L24), (27, to_if tr_eq tr_ne 52), (30, to_then 31 (to_aload 0 1) (to_then 33 (to_int (21) 2) (to_then 34 (to_iload 1 1) (to_bin tf_add)))), (35, to_then 36 (to_aload 0 1) (to_then 37 (to_int (0) 1) (to_then 38 (to_aload 0 1) (to_get tb_Z0 [] 12 15)))), (41, to_then 42 (to_int (0) 1) (to_ald tb_Z0 [] 0)), (43, to_cs tb_Z0 mod (tb_gV tb_Z0 12 3 0 0) L43), (46, to_cs tb_Z0 mod (tb_gV tb_Z0 12 3 0 0) L46), (49, to_if tr_ne tr_eq 54), (52, to_int (0) 1), (54, to_then 55 (to_aload 0 1) (to_then 57 (to_int (29) 2) (to_then 58 (to_iload 1 1) (to_bin tf_add)))), (59, to_then 60 (to_aload 0 1) (to_then 61 (to_int (0) 1) (to_then 64 (to_int (200) 3) (to_cs tb_Z0 mod (tb_gV tb_Z0 12 3 0 0) L64)))), (67, to_cs tb_Z0 mod (tb_gV tb_Z0 12 3 0 0) L67), (70, to_if tr_eq tr_ne 109), (73, to_then 74 (to_aload 0 1) (to_then 76 (to_int (37) 2) (to_then 77 (to_iload 1 1) (to_bin tf_add)))), (78, to_then 79 (to_aload 0 1) (to_then 80 (to_int (1) 1) (to_then 82 (to_int (99) 2) (to_cs tb_Z0 mod (tb_gV tb_Z0 12 3 0 0) L82)))), (85, to_cs tb_Z0 mod (tb_gV tb_Z0 12 3 0 0) L85), (88, to_if tr_eq tr_ne 109), (91, to_then 92 (to_aload 0 1) (to_then 94 (to_int (45) 2) (to_then 95 (to_iload 1 1) (to_bin tf_add)))), (96, to_then 97 (to_aload 0 1) (to_then 98 (to_int (1) 1) (to_then 100 (to_int (15) 2) (to_cs tb_Z0 mod (tb_gV tb_Z0 12 3 0 0) L100)))), (103, to_cs tb_Z0 mod (tb_gV tb_Z0 12 3 0 0) L103), (106, to_if tr_ne tr_eq 111), (109, to_int (0) 1), (111, to_then 112 (to_aload 0 1) (to_get tb_Z0 [] 12 15)), (115, to_then 116 (to_int (1) 1) (to_dup2)), (117, to_ald tb_Z0 [] 0), (118, to_then 119 (to_int (1) 1) (to_bin tf_add)), (120, to_iast tb_Z0 tb_RT0 mod []), (121, to_int (1) 1)]
set_option maxRecDepth 200000 in
set_option maxHeartbeats 4000000 in
theorem h_X12_readFault {l : Launch} (mod : List (Nat × Nat × Nat)) (fr lc : Nat) (hfr : 1 + 1 ≤ fr) (hlc : 8 + (2 + 11) + 20 ≤ lc) (L4 : List tb_K) (L24 : List tb_K) (L43 : List tb_K) (L46 : List tb_K) (L64 : List tb_K) (L67 : List tb_K) (L82 : List tb_K) (L85 : List tb_K) (L100 : List tb_K) (L103 : List tb_K) (h4 : tb_ML l yX12_readFirst cX12_readFirst 3 (some .boolean) fr lc 3 L4) (h24 : tb_ML l yX12_readNew cX12_readNew 2 (some .boolean) fr lc 2 L24) (h43 : tb_ML l yX12_readOne cX12_readOne 3 (some .boolean) fr lc 3 L43) (h46 : tb_ML l yX12_put cX12_put 3 (some .boolean) fr lc 3 L46) (h64 : tb_ML l yX12_readNumber cX12_readNumber 3 (some .boolean) fr lc 3 L64) (h67 : tb_ML l yX12_put cX12_put 3 (some .boolean) fr lc 3 L67) (h82 : tb_ML l yX12_readNumber cX12_readNumber 3 (some .boolean) fr lc 3 L82) (h85 : tb_ML l yX12_put cX12_put 3 (some .boolean) fr lc 3 L85) (h100 : tb_ML l yX12_readNumber cX12_readNumber 3 (some .boolean) fr lc 3 L100) (h103 : tb_ML l yX12_put cX12_put 3 (some .boolean) fr lc 3 L103) : ∀ (p : Program) (e : Env) (s : State) (m : MethodId) (args : Array Value) (below : List Frame) (meth : Method) (c : Code) (Q : State → Prop) (D : va_G) (dA : Nat → ClassId) (A : Nat → Prop) (n0 : Nat) (V0 : sa_V) (E : tb_E), sa_C p s m args c D dA A 2 vwCl sa_Ts cX12_readFault yX12_readFault.cls → sa_U D vwCl dA s → tb_Ou A s s.heap → tb_z E = tb_Z0 → tb_mod E = mod → ∀ q ∈ t_X12_readFault mod L4 L24 L43 L46 L64 L67 L82 L85 L100 L103, tb_snd p l e { frames := fr, cells := 0, slots := 0, locals := lc } s m args below meth c Q D dA A 2 vwCl n0 V0 E q.1 q.2 := fun p e s m args below meth c Q D dA A n0 V0 E C0 hU hO hz hm => List.forall_mem_cons.mpr ⟨tn_then (tn_aload_n C0 dX12_readFault_0) (tn_then (tn_iconst C0 dX12_readFault_1) (tn_then (tn_bipush C0 dX12_readFault_2 (by decide)) (tn_cV C0 hz hm hU hO h4 tv_1463 dX12_readFault_4 tv_1460 tv_1462 tq_X12_readFirst tv_13 rfl yb_X12_readFirst (Nat.le_refl _) (Nat.le_refl _)))), List.forall_mem_cons.mpr ⟨tx_if_ne C0 dX12_readFault_7 (by decide), List.forall_mem_cons.mpr ⟨tn_iconst C0 dX12_readFault_10, List.forall_mem_cons.mpr ⟨tn_then (tn_aload_n C0 dX12_readFault_12) (tn_get C0 hz hcv0 kcX12 dX12_readFault_13 (by decide) tv_1276), List.forall_mem_cons.mpr ⟨tn_then (tn_iconst C0 dX12_readFault_16) (tn_iald C0 hz hcv0 dX12_readFault_17), List.forall_mem_cons.mpr ⟨tn_istore_n C0 dX12_readFault_18, List.forall_mem_cons.mpr ⟨tn_seq (tn_spl hz hcv0) (tn_aload_n C0 dX12_readFault_19), List.forall_mem_cons.mpr ⟨tn_then (tn_bipush C0 dX12_readFault_20 (by decide)) (tn_then (tn_iload_n C0 dX12_readFault_22) (tn_iadd C0 tf_add_ok dX12_readFault_23)), List.forall_mem_cons.mpr ⟨tn_cV C0 hz hm hU hO h24 tv_1471 dX12_readFault_24 tv_1468 tv_1470 tq_X12_readNew tv_13 rfl yb_X12_readNew (Nat.le_refl _) (Nat.le_refl _), List.forall_mem_cons.mpr ⟨tx_if_eq C0 dX12_readFault_27 (by decide), List.forall_mem_cons.mpr ⟨tn_then (tn_aload_n C0 dX12_readFault_30) (tn_then (tn_bipush C0 dX12_readFault_31 (by decide)) (tn_then (tn_iload_n C0 dX12_readFault_33) (tn_iadd C0 tf_add_ok dX12_readFault_34))), List.forall_mem_cons.mpr ⟨tn_then (tn_aload_n C0 dX12_readFault_35) (tn_then (tn_iconst C0 dX12_readFault_36) (tn_then (tn_aload_n C0 dX12_readFault_37) (tn_get C0 hz hcv0 kcX12 dX12_readFault_38 (by decide) tv_1276))), List.forall_mem_cons.mpr ⟨tn_then (tn_iconst C0 dX12_readFault_41) (tn_iald C0 hz hcv0 dX12_readFault_42), List.forall_mem_cons.mpr ⟨tn_cV C0 hz hm hU hO h43 tv_1493 dX12_readFault_43 tv_1490 tv_1492 tq_X12_readOne tv_13 rfl yb_X12_readOne (Nat.le_refl _) (Nat.le_refl _), List.forall_mem_cons.mpr ⟨tn_cV C0 hz hm hU hO h46 tv_1489 dX12_readFault_46 tv_1486 tv_1488 tq_X12_put tv_13 rfl yb_X12_put (Nat.le_refl _) (Nat.le_refl _), List.forall_mem_cons.mpr ⟨tx_if_ne C0 dX12_readFault_49 (by decide), List.forall_mem_cons.mpr ⟨tn_iconst C0 dX12_readFault_52, List.forall_mem_cons.mpr ⟨tn_then (tn_aload_n C0 dX12_readFault_54) (tn_then (tn_bipush C0 dX12_readFault_55 (by decide)) (tn_then (tn_iload_n C0 dX12_readFault_57) (tn_iadd C0 tf_add_ok dX12_readFault_58))), List.forall_mem_cons.mpr ⟨tn_then (tn_aload_n C0 dX12_readFault_59) (tn_then (tn_iconst C0 dX12_readFault_60) (tn_then (tn_sipush C0 dX12_readFault_61 (by decide)) (tn_cV C0 hz hm hU hO h64 tv_1482 dX12_readFault_64 tv_1479 tv_1481 tq_X12_readNumber tv_13 rfl yb_X12_readNumber (Nat.le_refl _) (Nat.le_refl _)))), List.forall_mem_cons.mpr ⟨tn_cV C0 hz hm hU hO h67 tv_1489 dX12_readFault_67 tv_1486 tv_1488 tq_X12_put tv_13 rfl yb_X12_put (Nat.le_refl _) (Nat.le_refl _), List.forall_mem_cons.mpr ⟨tx_if_eq C0 dX12_readFault_70 (by decide), List.forall_mem_cons.mpr ⟨tn_then (tn_aload_n C0 dX12_readFault_73) (tn_then (tn_bipush C0 dX12_readFault_74 (by decide)) (tn_then (tn_iload_n C0 dX12_readFault_76) (tn_iadd C0 tf_add_ok dX12_readFault_77))), List.forall_mem_cons.mpr ⟨tn_then (tn_aload_n C0 dX12_readFault_78) (tn_then (tn_iconst C0 dX12_readFault_79) (tn_then (tn_bipush C0 dX12_readFault_80 (by decide)) (tn_cV C0 hz hm hU hO h82 tv_1482 dX12_readFault_82 tv_1479 tv_1481 tq_X12_readNumber tv_13 rfl yb_X12_readNumber (Nat.le_refl _) (Nat.le_refl _)))), List.forall_mem_cons.mpr ⟨tn_cV C0 hz hm hU hO h85 tv_1489 dX12_readFault_85 tv_1486 tv_1488 tq_X12_put tv_13 rfl yb_X12_put (Nat.le_refl _) (Nat.le_refl _), List.forall_mem_cons.mpr ⟨tx_if_eq C0 dX12_readFault_88 (by decide), List.forall_mem_cons.mpr ⟨tn_then (tn_aload_n C0 dX12_readFault_91) (tn_then (tn_bipush C0 dX12_readFault_92 (by decide)) (tn_then (tn_iload_n C0 dX12_readFault_94) (tn_iadd C0 tf_add_ok dX12_readFault_95))), List.forall_mem_cons.mpr ⟨tn_then (tn_aload_n C0 dX12_readFault_96) (tn_then (tn_iconst C0 dX12_readFault_97) (tn_then (tn_bipush C0 dX12_readFault_98 (by decide)) (tn_cV C0 hz hm hU hO h100 tv_1482 dX12_readFault_100 tv_1479 tv_1481 tq_X12_readNumber tv_13 rfl yb_X12_readNumber (Nat.le_refl _) (Nat.le_refl _)))), List.forall_mem_cons.mpr ⟨tn_cV C0 hz hm hU hO h103 tv_1489 dX12_readFault_103 tv_1486 tv_1488 tq_X12_put tv_13 rfl yb_X12_put (Nat.le_refl _) (Nat.le_refl _), List.forall_mem_cons.mpr ⟨tx_if_ne C0 dX12_readFault_106 (by decide), List.forall_mem_cons.mpr ⟨tn_iconst C0 dX12_readFault_109, List.forall_mem_cons.mpr ⟨tn_then (tn_aload_n C0 dX12_readFault_111) (tn_get C0 hz hcv0 kcX12 dX12_readFault_112 (by decide) tv_1276), List.forall_mem_cons.mpr ⟨tn_then (tn_iconst C0 dX12_readFault_115) (tn_dup2 C0 dX12_readFault_116), List.forall_mem_cons.mpr ⟨tn_iald C0 hz hcv0 dX12_readFault_117, List.forall_mem_cons.mpr ⟨tn_then (tn_iconst C0 dX12_readFault_118) (tn_iadd C0 tf_add_ok dX12_readFault_119), List.forall_mem_cons.mpr ⟨tn_iast C0 hz hcv0 hrt0 hm dX12_readFault_120, List.forall_mem_cons.mpr ⟨tn_iconst C0 dX12_readFault_121, fun _ h => absurd h List.not_mem_nil⟩⟩⟩⟩⟩⟩⟩⟩⟩⟩⟩⟩⟩⟩⟩⟩⟩⟩⟩⟩⟩⟩⟩⟩⟩⟩⟩⟩⟩⟩⟩⟩⟩⟩⟩⟩
set_option maxRecDepth 200000 in
set_option maxHeartbeats 4000000 in
def K_X12_readFault_1 : tb_K := ([.inr (.inl (some 1))], [(1, (0, 15), .inr (.inl (some 2))), (2, (0, 0), .inl (3, 0)), (2, (0, 1), .inl (4, 0)), (2, (0, 2), .inl (5, 0))], [], [(0, 0), (1180591620717411303424, 1180591620717411303424), (1180591620717411303432, 1180591620717411303432), (0, 6), (0, 8), (0, 16)], [(some (.inl (6, 0)), [(1, (0, 15), .inr (.inl (some 2))), (2, (0, 0), .inl (3, 0)), (2, (0, 1), .inl (4, 0)), (2, (0, 2), .inl (5, 0))], [], [(0, 0), (1180591620717411303424, 1180591620717411303424), (1180591620717411303432, 1180591620717411303432), (0, 6), (0, 8), (0, 16), (0, 0)]), (some (.inl (6, 0)), [(1, (0, 15), .inr (.inl (some 2))), (2, (0, 0), .inl (3, 0)), (2, (0, 1), .inl (4, 1)), (2, (0, 2), .inl (5, 0))], [], [(0, 0), (1180591620717411303424, 1180591620717411303424), (1180591620717411303432, 1180591620717411303432), (0, 6), (0, 7), (0, 16), (1, 1)])], [(0, 5, 13), (8, 1, 1), (8, 21, 52), (79, 6, 13)])
set_option maxRecDepth 200000 in
set_option maxHeartbeats 4000000 in
def T_X12_readFault_1 : List (tb_S × tb_l) := []
set_option maxRecDepth 200000 in
set_option maxHeartbeats 4000000 in
theorem m_X12_readFault_1 {l : Launch} : tb_Met l vwCl sa_Ts tb_Z0 yX12_readFault cX12_readFault 2 (some .boolean) 6 211 K_X12_readFault_1 := tb_method (by decide) [11, 53, 110, 122] (t_X12_readFault [(0, 5, 13), (8, 1, 1), (8, 21, 52), (79, 6, 13)] [K_X12_readFirst_2] [K_X12_readNew_1, K_X12_readNew_2, K_X12_readNew_3, K_X12_readNew_4, K_X12_readNew_5, K_X12_readNew_6, K_X12_readNew_7, K_X12_readNew_8] [K_X12_readOne_2] [K_X12_put_4, K_X12_put_6, K_X12_put_8, K_X12_put_10, K_X12_put_12, K_X12_put_14, K_X12_put_16, K_X12_put_18, K_X12_put_3, K_X12_put_5, K_X12_put_7, K_X12_put_9, K_X12_put_11, K_X12_put_13, K_X12_put_15, K_X12_put_17] [K_X12_readNumber_2] [K_X12_put_20, K_X12_put_22, K_X12_put_24, K_X12_put_26, K_X12_put_28, K_X12_put_30, K_X12_put_32, K_X12_put_34, K_X12_put_19, K_X12_put_21, K_X12_put_23, K_X12_put_25, K_X12_put_27, K_X12_put_29, K_X12_put_31, K_X12_put_33] [K_X12_readNumber_3] [K_X12_put_36, K_X12_put_38, K_X12_put_40, K_X12_put_42, K_X12_put_44, K_X12_put_46, K_X12_put_48, K_X12_put_50, K_X12_put_35, K_X12_put_37, K_X12_put_39, K_X12_put_41, K_X12_put_43, K_X12_put_45, K_X12_put_47, K_X12_put_49] [K_X12_readNumber_4] [K_X12_put_52, K_X12_put_54, K_X12_put_56, K_X12_put_58, K_X12_put_60, K_X12_put_62, K_X12_put_64, K_X12_put_66, K_X12_put_51, K_X12_put_53, K_X12_put_55, K_X12_put_57, K_X12_put_59, K_X12_put_61, K_X12_put_63, K_X12_put_65]) T_X12_readFault_1 [] 6000 (List.forall_mem_cons.mpr ⟨dX12_readFault_11, List.forall_mem_cons.mpr ⟨dX12_readFault_53, List.forall_mem_cons.mpr ⟨dX12_readFault_110, List.forall_mem_cons.mpr ⟨dX12_readFault_122, fun _ h => absurd h List.not_mem_nil⟩⟩⟩⟩) (h_X12_readFault [(0, 5, 13), (8, 1, 1), (8, 21, 52), (79, 6, 13)] 6 211 (by decide) (by decide) [K_X12_readFirst_2] [K_X12_readNew_1, K_X12_readNew_2, K_X12_readNew_3, K_X12_readNew_4, K_X12_readNew_5, K_X12_readNew_6, K_X12_readNew_7, K_X12_readNew_8] [K_X12_readOne_2] [K_X12_put_4, K_X12_put_6, K_X12_put_8, K_X12_put_10, K_X12_put_12, K_X12_put_14, K_X12_put_16, K_X12_put_18, K_X12_put_3, K_X12_put_5, K_X12_put_7, K_X12_put_9, K_X12_put_11, K_X12_put_13, K_X12_put_15, K_X12_put_17] [K_X12_readNumber_2] [K_X12_put_20, K_X12_put_22, K_X12_put_24, K_X12_put_26, K_X12_put_28, K_X12_put_30, K_X12_put_32, K_X12_put_34, K_X12_put_19, K_X12_put_21, K_X12_put_23, K_X12_put_25, K_X12_put_27, K_X12_put_29, K_X12_put_31, K_X12_put_33] [K_X12_readNumber_3] [K_X12_put_36, K_X12_put_38, K_X12_put_40, K_X12_put_42, K_X12_put_44, K_X12_put_46, K_X12_put_48, K_X12_put_50, K_X12_put_35, K_X12_put_37, K_X12_put_39, K_X12_put_41, K_X12_put_43, K_X12_put_45, K_X12_put_47, K_X12_put_49] [K_X12_readNumber_4] [K_X12_put_52, K_X12_put_54, K_X12_put_56, K_X12_put_58, K_X12_put_60, K_X12_put_62, K_X12_put_64, K_X12_put_66, K_X12_put_51, K_X12_put_53, K_X12_put_55, K_X12_put_57, K_X12_put_59, K_X12_put_61, K_X12_put_63, K_X12_put_65] ⟨4, 165, List.forall_mem_cons.mpr ⟨m_X12_readFirst_2, fun _ h => absurd h List.not_mem_nil⟩, by decide, by decide, by decide⟩ ⟨5, 189, List.forall_mem_cons.mpr ⟨m_X12_readNew_1, List.forall_mem_cons.mpr ⟨m_X12_readNew_2, List.forall_mem_cons.mpr ⟨m_X12_readNew_3, List.forall_mem_cons.mpr ⟨m_X12_readNew_4, List.forall_mem_cons.mpr ⟨m_X12_readNew_5, List.forall_mem_cons.mpr ⟨m_X12_readNew_6, List.forall_mem_cons.mpr ⟨m_X12_readNew_7, List.forall_mem_cons.mpr ⟨m_X12_readNew_8, fun _ h => absurd h List.not_mem_nil⟩⟩⟩⟩⟩⟩⟩⟩, by decide, by decide, by decide⟩ ⟨5, 189, List.forall_mem_cons.mpr ⟨m_X12_readOne_2, fun _ h => absurd h List.not_mem_nil⟩, by decide, by decide, by decide⟩ ⟨2, 120, List.forall_mem_cons.mpr ⟨m_X12_put_4, List.forall_mem_cons.mpr ⟨m_X12_put_6, List.forall_mem_cons.mpr ⟨m_X12_put_8, List.forall_mem_cons.mpr ⟨m_X12_put_10, List.forall_mem_cons.mpr ⟨m_X12_put_12, List.forall_mem_cons.mpr ⟨m_X12_put_14, List.forall_mem_cons.mpr ⟨m_X12_put_16, List.forall_mem_cons.mpr ⟨m_X12_put_18, List.forall_mem_cons.mpr ⟨m_X12_put_3, List.forall_mem_cons.mpr ⟨m_X12_put_5, List.forall_mem_cons.mpr ⟨m_X12_put_7, List.forall_mem_cons.mpr ⟨m_X12_put_9, List.forall_mem_cons.mpr ⟨m_X12_put_11, List.forall_mem_cons.mpr ⟨m_X12_put_13, List.forall_mem_cons.mpr ⟨m_X12_put_15, List.forall_mem_cons.mpr ⟨m_X12_put_17, fun _ h => absurd h List.not_mem_nil⟩⟩⟩⟩⟩⟩⟩⟩⟩⟩⟩⟩⟩⟩⟩⟩, by decide, by decide, by decide⟩ ⟨4, 165, List.forall_mem_cons.mpr ⟨m_X12_readNumber_2, fun _ h => absurd h List.not_mem_nil⟩, by decide, by decide, by decide⟩ ⟨2, 120, List.forall_mem_cons.mpr ⟨m_X12_put_20, List.forall_mem_cons.mpr ⟨m_X12_put_22, List.forall_mem_cons.mpr ⟨m_X12_put_24, List.forall_mem_cons.mpr ⟨m_X12_put_26, List.forall_mem_cons.mpr ⟨m_X12_put_28, List.forall_mem_cons.mpr ⟨m_X12_put_30, List.forall_mem_cons.mpr ⟨m_X12_put_32, List.forall_mem_cons.mpr ⟨m_X12_put_34, List.forall_mem_cons.mpr ⟨m_X12_put_19, List.forall_mem_cons.mpr ⟨m_X12_put_21, List.forall_mem_cons.mpr ⟨m_X12_put_23, List.forall_mem_cons.mpr ⟨m_X12_put_25, List.forall_mem_cons.mpr ⟨m_X12_put_27, List.forall_mem_cons.mpr ⟨m_X12_put_29, List.forall_mem_cons.mpr ⟨m_X12_put_31, List.forall_mem_cons.mpr ⟨m_X12_put_33, fun _ h => absurd h List.not_mem_nil⟩⟩⟩⟩⟩⟩⟩⟩⟩⟩⟩⟩⟩⟩⟩⟩, by decide, by decide, by decide⟩ ⟨4, 165, List.forall_mem_cons.mpr ⟨m_X12_readNumber_3, fun _ h => absurd h List.not_mem_nil⟩, by decide, by decide, by decide⟩ ⟨2, 120, List.forall_mem_cons.mpr ⟨m_X12_put_36, List.forall_mem_cons.mpr ⟨m_X12_put_38, List.forall_mem_cons.mpr ⟨m_X12_put_40, List.forall_mem_cons.mpr ⟨m_X12_put_42, List.forall_mem_cons.mpr ⟨m_X12_put_44, List.forall_mem_cons.mpr ⟨m_X12_put_46, List.forall_mem_cons.mpr ⟨m_X12_put_48, List.forall_mem_cons.mpr ⟨m_X12_put_50, List.forall_mem_cons.mpr ⟨m_X12_put_35, List.forall_mem_cons.mpr ⟨m_X12_put_37, List.forall_mem_cons.mpr ⟨m_X12_put_39, List.forall_mem_cons.mpr ⟨m_X12_put_41, List.forall_mem_cons.mpr ⟨m_X12_put_43, List.forall_mem_cons.mpr ⟨m_X12_put_45, List.forall_mem_cons.mpr ⟨m_X12_put_47, List.forall_mem_cons.mpr ⟨m_X12_put_49, fun _ h => absurd h List.not_mem_nil⟩⟩⟩⟩⟩⟩⟩⟩⟩⟩⟩⟩⟩⟩⟩⟩, by decide, by decide, by decide⟩ ⟨4, 165, List.forall_mem_cons.mpr ⟨m_X12_readNumber_4, fun _ h => absurd h List.not_mem_nil⟩, by decide, by decide, by decide⟩ ⟨2, 120, List.forall_mem_cons.mpr ⟨m_X12_put_52, List.forall_mem_cons.mpr ⟨m_X12_put_54, List.forall_mem_cons.mpr ⟨m_X12_put_56, List.forall_mem_cons.mpr ⟨m_X12_put_58, List.forall_mem_cons.mpr ⟨m_X12_put_60, List.forall_mem_cons.mpr ⟨m_X12_put_62, List.forall_mem_cons.mpr ⟨m_X12_put_64, List.forall_mem_cons.mpr ⟨m_X12_put_66, List.forall_mem_cons.mpr ⟨m_X12_put_51, List.forall_mem_cons.mpr ⟨m_X12_put_53, List.forall_mem_cons.mpr ⟨m_X12_put_55, List.forall_mem_cons.mpr ⟨m_X12_put_57, List.forall_mem_cons.mpr ⟨m_X12_put_59, List.forall_mem_cons.mpr ⟨m_X12_put_61, List.forall_mem_cons.mpr ⟨m_X12_put_63, List.forall_mem_cons.mpr ⟨m_X12_put_65, fun _ h => absurd h List.not_mem_nil⟩⟩⟩⟩⟩⟩⟩⟩⟩⟩⟩⟩⟩⟩⟩⟩, by decide, by decide, by decide⟩) (by decide) (by decide +kernel)
