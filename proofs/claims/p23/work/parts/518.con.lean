set_option maxRecDepth 200000 in
set_option maxHeartbeats 4000000 in
def K_X12_areAlike_3 : tb_K := ([.inr (.inl (some 1)), .inl (2, 0), .inl (3, 0)], [], [], [(0, 0), (1180591620717411303424, 1180591620717411303424), (1, 1), (0, 0)], [(some (.inl (4, 0)), [], [], [(0, 0), (1180591620717411303424, 1180591620717411303424), (1, 1), (0, 0), (0, 0)]), (some (.inl (4, 0)), [], [], [(0, 0), (1180591620717411303424, 1180591620717411303424), (1, 1), (0, 0), (1, 1)])], [])
set_option maxRecDepth 200000 in
set_option maxHeartbeats 4000000 in
def T_X12_areAlike_3 : List (tb_S × tb_l) := []
set_option maxRecDepth 200000 in
set_option maxHeartbeats 4000000 in
theorem m_X12_areAlike_3 {l : Launch} : tb_Met l vwCl sa_Ts tb_Z0 yX12_areAlike cX12_areAlike 3 (some .boolean) 2 120 K_X12_areAlike_3 := tb_method (by decide) [47] (t_X12_areAlike [] ) T_X12_areAlike_3 [] 6000 (List.forall_mem_cons.mpr ⟨dX12_areAlike_47, fun _ h => absurd h List.not_mem_nil⟩) (h_X12_areAlike [] 2 120 (by decide) (by decide)  ) (by decide) (by decide +kernel)
set_option maxRecDepth 200000 in
set_option maxHeartbeats 4000000 in
def K_X12_areAlike_4 : tb_K := ([.inr (.inl (some 1)), .inl (2, 0), .inl (3, 0)], [], [], [(0, 0), (1180591620717411303424, 1180591620717411303424), (1, 1), (1, 1)], [(some (.inl (4, 0)), [], [], [(0, 0), (1180591620717411303424, 1180591620717411303424), (1, 1), (1, 1), (1, 1)])], [])
set_option maxRecDepth 200000 in
set_option maxHeartbeats 4000000 in
def T_X12_areAlike_4 : List (tb_S × tb_l) := []
set_option maxRecDepth 200000 in
set_option maxHeartbeats 4000000 in
theorem m_X12_areAlike_4 {l : Launch} : tb_Met l vwCl sa_Ts tb_Z0 yX12_areAlike cX12_areAlike 3 (some .boolean) 2 120 K_X12_areAlike_4 := tb_method (by decide) [47] (t_X12_areAlike [] ) T_X12_areAlike_4 [] 6000 (List.forall_mem_cons.mpr ⟨dX12_areAlike_47, fun _ h => absurd h List.not_mem_nil⟩) (h_X12_areAlike [] 2 120 (by decide) (by decide)  ) (by decide) (by decide +kernel)
set_option maxRecDepth 200000 in
set_option maxHeartbeats 4000000 in
def K_X12_areAlike_5 : tb_K := ([.inr (.inl (some 1)), .inl (2, 0), .inl (3, 0)], [], [], [(0, 0), (1180591620717411303424, 1180591620717411303424), (2, 2), (0, 0)], [(some (.inl (4, 0)), [], [], [(0, 0), (1180591620717411303424, 1180591620717411303424), (2, 2), (0, 0), (0, 0)]), (some (.inl (4, 0)), [], [], [(0, 0), (1180591620717411303424, 1180591620717411303424), (2, 2), (0, 0), (1, 1)])], [])
set_option maxRecDepth 200000 in
set_option maxHeartbeats 4000000 in
def T_X12_areAlike_5 : List (tb_S × tb_l) := []
set_option maxRecDepth 200000 in
set_option maxHeartbeats 4000000 in
theorem m_X12_areAlike_5 {l : Launch} : tb_Met l vwCl sa_Ts tb_Z0 yX12_areAlike cX12_areAlike 3 (some .boolean) 2 120 K_X12_areAlike_5 := tb_method (by decide) [47] (t_X12_areAlike [] ) T_X12_areAlike_5 [] 6000 (List.forall_mem_cons.mpr ⟨dX12_areAlike_47, fun _ h => absurd h List.not_mem_nil⟩) (h_X12_areAlike [] 2 120 (by decide) (by decide)  ) (by decide) (by decide +kernel)
set_option maxRecDepth 200000 in
set_option maxHeartbeats 4000000 in
def K_X12_areAlike_6 : tb_K := ([.inr (.inl (some 1)), .inl (2, 0), .inl (3, 0)], [], [], [(0, 0), (1180591620717411303424, 1180591620717411303424), (2, 2), (1, 1)], [(some (.inl (4, 0)), [], [], [(0, 0), (1180591620717411303424, 1180591620717411303424), (2, 2), (1, 1), (0, 0)]), (some (.inl (4, 0)), [], [], [(0, 0), (1180591620717411303424, 1180591620717411303424), (2, 2), (1, 1), (1, 1)])], [])
set_option maxRecDepth 200000 in
set_option maxHeartbeats 4000000 in
def T_X12_areAlike_6 : List (tb_S × tb_l) := []
set_option maxRecDepth 200000 in
set_option maxHeartbeats 4000000 in
theorem m_X12_areAlike_6 {l : Launch} : tb_Met l vwCl sa_Ts tb_Z0 yX12_areAlike cX12_areAlike 3 (some .boolean) 2 120 K_X12_areAlike_6 := tb_method (by decide) [47] (t_X12_areAlike [] ) T_X12_areAlike_6 [] 6000 (List.forall_mem_cons.mpr ⟨dX12_areAlike_47, fun _ h => absurd h List.not_mem_nil⟩) (h_X12_areAlike [] 2 120 (by decide) (by decide)  ) (by decide) (by decide +kernel)
set_option maxRecDepth 200000 in
set_option maxHeartbeats 4000000 in
def K_X12_areAlike_7 : tb_K := ([.inr (.inl (some 1)), .inl (2, 0), .inl (3, 0)], [], [], [(0, 0), (1180591620717411303424, 1180591620717411303424), (2, 2), (2, 2)], [(some (.inl (4, 0)), [], [], [(0, 0), (1180591620717411303424, 1180591620717411303424), (2, 2), (2, 2), (1, 1)])], [])
set_option maxRecDepth 200000 in
set_option maxHeartbeats 4000000 in
def T_X12_areAlike_7 : List (tb_S × tb_l) := []
set_option maxRecDepth 200000 in
set_option maxHeartbeats 4000000 in
theorem m_X12_areAlike_7 {l : Launch} : tb_Met l vwCl sa_Ts tb_Z0 yX12_areAlike cX12_areAlike 3 (some .boolean) 2 120 K_X12_areAlike_7 := tb_method (by decide) [47] (t_X12_areAlike [] ) T_X12_areAlike_7 [] 6000 (List.forall_mem_cons.mpr ⟨dX12_areAlike_47, fun _ h => absurd h List.not_mem_nil⟩) (h_X12_areAlike [] 2 120 (by decide) (by decide)  ) (by decide) (by decide +kernel)
set_option maxRecDepth 200000 in
set_option maxHeartbeats 4000000 in
def K_X12_areAlike_8 : tb_K := ([.inr (.inl (some 1)), .inl (2, 0), .inl (3, 0)], [], [], [(0, 0), (1180591620717411303424, 1180591620717411303424), (3, 3), (0, 0)], [(some (.inl (4, 0)), [], [], [(0, 0), (1180591620717411303424, 1180591620717411303424), (3, 3), (0, 0), (0, 0)]), (some (.inl (4, 0)), [], [], [(0, 0), (1180591620717411303424, 1180591620717411303424), (3, 3), (0, 0), (1, 1)])], [])
set_option maxRecDepth 200000 in
set_option maxHeartbeats 4000000 in
def T_X12_areAlike_8 : List (tb_S × tb_l) := []
set_option maxRecDepth 200000 in
set_option maxHeartbeats 4000000 in
theorem m_X12_areAlike_8 {l : Launch} : tb_Met l vwCl sa_Ts tb_Z0 yX12_areAlike cX12_areAlike 3 (some .boolean) 2 120 K_X12_areAlike_8 := tb_method (by decide) [47] (t_X12_areAlike [] ) T_X12_areAlike_8 [] 6000 (List.forall_mem_cons.mpr ⟨dX12_areAlike_47, fun _ h => absurd h List.not_mem_nil⟩) (h_X12_areAlike [] 2 120 (by decide) (by decide)  ) (by decide) (by decide +kernel)
set_option maxRecDepth 200000 in
set_option maxHeartbeats 4000000 in
def K_X12_areAlike_9 : tb_K := ([.inr (.inl (some 1)), .inl (2, 0), .inl (3, 0)], [], [], [(0, 0), (1180591620717411303424, 1180591620717411303424), (3, 3), (1, 1)], [(some (.inl (4, 0)), [], [], [(0, 0), (1180591620717411303424, 1180591620717411303424), (3, 3), (1, 1), (0, 0)]), (some (.inl (4, 0)), [], [], [(0, 0), (1180591620717411303424, 1180591620717411303424), (3, 3), (1, 1), (1, 1)])], [])
set_option maxRecDepth 200000 in
set_option maxHeartbeats 4000000 in
def T_X12_areAlike_9 : List (tb_S × tb_l) := []
set_option maxRecDepth 200000 in
set_option maxHeartbeats 4000000 in
theorem m_X12_areAlike_9 {l : Launch} : tb_Met l vwCl sa_Ts tb_Z0 yX12_areAlike cX12_areAlike 3 (some .boolean) 2 120 K_X12_areAlike_9 := tb_method (by decide) [47] (t_X12_areAlike [] ) T_X12_areAlike_9 [] 6000 (List.forall_mem_cons.mpr ⟨dX12_areAlike_47, fun _ h => absurd h List.not_mem_nil⟩) (h_X12_areAlike [] 2 120 (by decide) (by decide)  ) (by decide) (by decide +kernel)
set_option maxRecDepth 200000 in
set_option maxHeartbeats 4000000 in
def K_X12_areAlike_10 : tb_K := ([.inr (.inl (some 1)), .inl (2, 0), .inl (3, 0)], [], [], [(0, 0), (1180591620717411303424, 1180591620717411303424), (3, 3), (2, 2)], [(some (.inl (4, 0)), [], [], [(0, 0), (1180591620717411303424, 1180591620717411303424), (3, 3), (2, 2), (0, 0)]), (some (.inl (4, 0)), [], [], [(0, 0), (1180591620717411303424, 1180591620717411303424), (3, 3), (2, 2), (1, 1)])], [])
set_option maxRecDepth 200000 in
set_option maxHeartbeats 4000000 in
def T_X12_areAlike_10 : List (tb_S × tb_l) := []
set_option maxRecDepth 200000 in
set_option maxHeartbeats 4000000 in
theorem m_X12_areAlike_10 {l : Launch} : tb_Met l vwCl sa_Ts tb_Z0 yX12_areAlike cX12_areAlike 3 (some .boolean) 2 120 K_X12_areAlike_10 := tb_method (by decide) [47] (t_X12_areAlike [] ) T_X12_areAlike_10 [] 6000 (List.forall_mem_cons.mpr ⟨dX12_areAlike_47, fun _ h => absurd h List.not_mem_nil⟩) (h_X12_areAlike [] 2 120 (by decide) (by decide)  ) (by decide) (by decide +kernel)
set_option maxRecDepth 200000 in
set_option maxHeartbeats 4000000 in
def K_X12_areAlike_11 : tb_K := ([.inr (.inl (some 1)), .inl (2, 0), .inl (3, 0)], [], [], [(0, 0), (1180591620717411303424, 1180591620717411303424), (4, 4), (0, 0)], [(some (.inl (4, 0)), [], [], [(0, 0), (1180591620717411303424, 1180591620717411303424), (4, 4), (0, 0), (0, 0)]), (some (.inl (4, 0)), [], [], [(0, 0), (1180591620717411303424, 1180591620717411303424), (4, 4), (0, 0), (1, 1)])], [])
set_option maxRecDepth 200000 in
set_option maxHeartbeats 4000000 in
def T_X12_areAlike_11 : List (tb_S × tb_l) := []
set_option maxRecDepth 200000 in
set_option maxHeartbeats 4000000 in
theorem m_X12_areAlike_11 {l : Launch} : tb_Met l vwCl sa_Ts tb_Z0 yX12_areAlike cX12_areAlike 3 (some .boolean) 2 120 K_X12_areAlike_11 := tb_method (by decide) [47] (t_X12_areAlike [] ) T_X12_areAlike_11 [] 6000 (List.forall_mem_cons.mpr ⟨dX12_areAlike_47, fun _ h => absurd h List.not_mem_nil⟩) (h_X12_areAlike [] 2 120 (by decide) (by decide)  ) (by decide) (by decide +kernel)
set_option maxRecDepth 200000 in
set_option maxHeartbeats 4000000 in
def K_X12_areAlike_12 : tb_K := ([.inr (.inl (some 1)), .inl (2, 0), .inl (3, 0)], [], [], [(0, 0), (1180591620717411303424, 1180591620717411303424), (3, 3), (3, 3)], [(some (.inl (4, 0)), [], [], [(0, 0), (1180591620717411303424, 1180591620717411303424), (3, 3), (3, 3), (1, 1)])], [])
set_option maxRecDepth 200000 in
set_option maxHeartbeats 4000000 in
def T_X12_areAlike_12 : List (tb_S × tb_l) := []
set_option maxRecDepth 200000 in
set_option maxHeartbeats 4000000 in
theorem m_X12_areAlike_12 {l : Launch} : tb_Met l vwCl sa_Ts tb_Z0 yX12_areAlike cX12_areAlike 3 (some .boolean) 2 120 K_X12_areAlike_12 := tb_method (by decide) [47] (t_X12_areAlike [] ) T_X12_areAlike_12 [] 6000 (List.forall_mem_cons.mpr ⟨dX12_areAlike_47, fun _ h => absurd h List.not_mem_nil⟩) (h_X12_areAlike [] 2 120 (by decide) (by decide)  ) (by decide) (by decide +kernel)
set_option maxRecDepth 200000 in
set_option maxHeartbeats 4000000 in
def K_X12_areAlike_13 : tb_K := ([.inr (.inl (some 1)), .inl (2, 0), .inl (3, 0)], [], [], [(0, 0), (1180591620717411303424, 1180591620717411303424), (4, 4), (1, 1)], [(some (.inl (4, 0)), [], [], [(0, 0), (1180591620717411303424, 1180591620717411303424), (4, 4), (1, 1), (0, 0)]), (some (.inl (4, 0)), [], [], [(0, 0), (1180591620717411303424, 1180591620717411303424), (4, 4), (1, 1), (1, 1)])], [])
set_option maxRecDepth 200000 in
set_option maxHeartbeats 4000000 in
def T_X12_areAlike_13 : List (tb_S × tb_l) := []
set_option maxRecDepth 200000 in
set_option maxHeartbeats 4000000 in
theorem m_X12_areAlike_13 {l : Launch} : tb_Met l vwCl sa_Ts tb_Z0 yX12_areAlike cX12_areAlike 3 (some .boolean) 2 120 K_X12_areAlike_13 := tb_method (by decide) [47] (t_X12_areAlike [] ) T_X12_areAlike_13 [] 6000 (List.forall_mem_cons.mpr ⟨dX12_areAlike_47, fun _ h => absurd h List.not_mem_nil⟩) (h_X12_areAlike [] 2 120 (by decide) (by decide)  ) (by decide) (by decide +kernel)
set_option maxRecDepth 200000 in
set_option maxHeartbeats 4000000 in
def K_X12_areAlike_14 : tb_K := ([.inr (.inl (some 1)), .inl (2, 0), .inl (3, 0)], [], [], [(0, 0), (1180591620717411303424, 1180591620717411303424), (4, 4), (2, 2)], [(some (.inl (4, 0)), [], [], [(0, 0), (1180591620717411303424, 1180591620717411303424), (4, 4), (2, 2), (0, 0)]), (some (.inl (4, 0)), [], [], [(0, 0), (1180591620717411303424, 1180591620717411303424), (4, 4), (2, 2), (1, 1)])], [])
set_option maxRecDepth 200000 in
set_option maxHeartbeats 4000000 in
def T_X12_areAlike_14 : List (tb_S × tb_l) := []
set_option maxRecDepth 200000 in
set_option maxHeartbeats 4000000 in
theorem m_X12_areAlike_14 {l : Launch} : tb_Met l vwCl sa_Ts tb_Z0 yX12_areAlike cX12_areAlike 3 (some .boolean) 2 120 K_X12_areAlike_14 := tb_method (by decide) [47] (t_X12_areAlike [] ) T_X12_areAlike_14 [] 6000 (List.forall_mem_cons.mpr ⟨dX12_areAlike_47, fun _ h => absurd h List.not_mem_nil⟩) (h_X12_areAlike [] 2 120 (by decide) (by decide)  ) (by decide) (by decide +kernel)
set_option maxRecDepth 200000 in
set_option maxHeartbeats 4000000 in
def K_X12_areAlike_15 : tb_K := ([.inr (.inl (some 1)), .inl (2, 0), .inl (3, 0)], [], [], [(0, 0), (1180591620717411303424, 1180591620717411303424), (5, 5), (0, 0)], [(some (.inl (4, 0)), [], [], [(0, 0), (1180591620717411303424, 1180591620717411303424), (5, 5), (0, 0), (0, 0)]), (some (.inl (4, 0)), [], [], [(0, 0), (1180591620717411303424, 1180591620717411303424), (5, 5), (0, 0), (1, 1)])], [])
set_option maxRecDepth 200000 in
set_option maxHeartbeats 4000000 in
def T_X12_areAlike_15 : List (tb_S × tb_l) := []
set_option maxRecDepth 200000 in
set_option maxHeartbeats 4000000 in
theorem m_X12_areAlike_15 {l : Launch} : tb_Met l vwCl sa_Ts tb_Z0 yX12_areAlike cX12_areAlike 3 (some .boolean) 2 120 K_X12_areAlike_15 := tb_method (by decide) [47] (t_X12_areAlike [] ) T_X12_areAlike_15 [] 6000 (List.forall_mem_cons.mpr ⟨dX12_areAlike_47, fun _ h => absurd h List.not_mem_nil⟩) (h_X12_areAlike [] 2 120 (by decide) (by decide)  ) (by decide) (by decide +kernel)
set_option maxRecDepth 200000 in
set_option maxHeartbeats 4000000 in
def K_X12_areAlike_16 : tb_K := ([.inr (.inl (some 1)), .inl (2, 0), .inl (3, 0)], [], [], [(0, 0), (1180591620717411303424, 1180591620717411303424), (4, 4), (3, 3)], [(some (.inl (4, 0)), [], [], [(0, 0), (1180591620717411303424, 1180591620717411303424), (4, 4), (3, 3), (0, 0)]), (some (.inl (4, 0)), [], [], [(0, 0), (1180591620717411303424, 1180591620717411303424), (4, 4), (3, 3), (1, 1)])], [])
set_option maxRecDepth 200000 in
set_option maxHeartbeats 4000000 in
def T_X12_areAlike_16 : List (tb_S × tb_l) := []
set_option maxRecDepth 200000 in
set_option maxHeartbeats 4000000 in
theorem m_X12_areAlike_16 {l : Launch} : tb_Met l vwCl sa_Ts tb_Z0 yX12_areAlike cX12_areAlike 3 (some .boolean) 2 120 K_X12_areAlike_16 := tb_method (by decide) [47] (t_X12_areAlike [] ) T_X12_areAlike_16 [] 6000 (List.forall_mem_cons.mpr ⟨dX12_areAlike_47, fun _ h => absurd h List.not_mem_nil⟩) (h_X12_areAlike [] 2 120 (by decide) (by decide)  ) (by decide) (by decide +kernel)
set_option maxRecDepth 200000 in
set_option maxHeartbeats 4000000 in
def K_X12_areAlike_17 : tb_K := ([.inr (.inl (some 1)), .inl (2, 0), .inl (3, 0)], [], [], [(0, 0), (1180591620717411303424, 1180591620717411303424), (5, 5), (1, 1)], [(some (.inl (4, 0)), [], [], [(0, 0), (1180591620717411303424, 1180591620717411303424), (5, 5), (1, 1), (0, 0)]), (some (.inl (4, 0)), [], [], [(0, 0), (1180591620717411303424, 1180591620717411303424), (5, 5), (1, 1), (1, 1)])], [])
set_option maxRecDepth 200000 in
set_option maxHeartbeats 4000000 in
def T_X12_areAlike_17 : List (tb_S × tb_l) := []
set_option maxRecDepth 200000 in
set_option maxHeartbeats 4000000 in
theorem m_X12_areAlike_17 {l : Launch} : tb_Met l vwCl sa_Ts tb_Z0 yX12_areAlike cX12_areAlike 3 (some .boolean) 2 120 K_X12_areAlike_17 := tb_method (by decide) [47] (t_X12_areAlike [] ) T_X12_areAlike_17 [] 6000 (List.forall_mem_cons.mpr ⟨dX12_areAlike_47, fun _ h => absurd h List.not_mem_nil⟩) (h_X12_areAlike [] 2 120 (by decide) (by decide)  ) (by decide) (by decide +kernel)
set_option maxRecDepth 200000 in
set_option maxHeartbeats 4000000 in
def K_X12_areAlike_18 : tb_K := ([.inr (.inl (some 1)), .inl (2, 0), .inl (3, 0)], [], [], [(0, 0), (1180591620717411303424, 1180591620717411303424), (4, 4), (4, 4)], [(some (.inl (4, 0)), [], [], [(0, 0), (1180591620717411303424, 1180591620717411303424), (4, 4), (4, 4), (1, 1)])], [])
set_option maxRecDepth 200000 in
set_option maxHeartbeats 4000000 in
def T_X12_areAlike_18 : List (tb_S × tb_l) := []
set_option maxRecDepth 200000 in
set_option maxHeartbeats 4000000 in
theorem m_X12_areAlike_18 {l : Launch} : tb_Met l vwCl sa_Ts tb_Z0 yX12_areAlike cX12_areAlike 3 (some .boolean) 2 120 K_X12_areAlike_18 := tb_method (by decide) [47] (t_X12_areAlike [] ) T_X12_areAlike_18 [] 6000 (List.forall_mem_cons.mpr ⟨dX12_areAlike_47, fun _ h => absurd h List.not_mem_nil⟩) (h_X12_areAlike [] 2 120 (by decide) (by decide)  ) (by decide) (by decide +kernel)
set_option maxRecDepth 200000 in
set_option maxHeartbeats 4000000 in
def K_X12_areAlike_19 : tb_K := ([.inr (.inl (some 1)), .inl (2, 0), .inl (3, 0)], [], [], [(0, 0), (1180591620717411303424, 1180591620717411303424), (5, 5), (2, 2)], [(some (.inl (4, 0)), [], [], [(0, 0), (1180591620717411303424, 1180591620717411303424), (5, 5), (2, 2), (0, 0)]), (some (.inl (4, 0)), [], [], [(0, 0), (1180591620717411303424, 1180591620717411303424), (5, 5), (2, 2), (1, 1)])], [])
set_option maxRecDepth 200000 in
set_option maxHeartbeats 4000000 in
def T_X12_areAlike_19 : List (tb_S × tb_l) := []
set_option maxRecDepth 200000 in
set_option maxHeartbeats 4000000 in
theorem m_X12_areAlike_19 {l : Launch} : tb_Met l vwCl sa_Ts tb_Z0 yX12_areAlike cX12_areAlike 3 (some .boolean) 2 120 K_X12_areAlike_19 := tb_method (by decide) [47] (t_X12_areAlike [] ) T_X12_areAlike_19 [] 6000 (List.forall_mem_cons.mpr ⟨dX12_areAlike_47, fun _ h => absurd h List.not_mem_nil⟩) (h_X12_areAlike [] 2 120 (by decide) (by decide)  ) (by decide) (by decide +kernel)
set_option maxRecDepth 200000 in
set_option maxHeartbeats 4000000 in
def K_X12_areAlike_20 : tb_K := ([.inr (.inl (some 1)), .inl (2, 0), .inl (3, 0)], [], [], [(0, 0), (1180591620717411303424, 1180591620717411303424), (6, 6), (0, 0)], [(some (.inl (4, 0)), [], [], [(0, 0), (1180591620717411303424, 1180591620717411303424), (6, 6), (0, 0), (0, 0)]), (some (.inl (4, 0)), [], [], [(0, 0), (1180591620717411303424, 1180591620717411303424), (6, 6), (0, 0), (1, 1)])], [])
set_option maxRecDepth 200000 in
set_option maxHeartbeats 4000000 in
def T_X12_areAlike_20 : List (tb_S × tb_l) := []
set_option maxRecDepth 200000 in
set_option maxHeartbeats 4000000 in
theorem m_X12_areAlike_20 {l : Launch} : tb_Met l vwCl sa_Ts tb_Z0 yX12_areAlike cX12_areAlike 3 (some .boolean) 2 120 K_X12_areAlike_20 := tb_method (by decide) [47] (t_X12_areAlike [] ) T_X12_areAlike_20 [] 6000 (List.forall_mem_cons.mpr ⟨dX12_areAlike_47, fun _ h => absurd h List.not_mem_nil⟩) (h_X12_areAlike [] 2 120 (by decide) (by decide)  ) (by decide) (by decide +kernel)
set_option maxRecDepth 200000 in
set_option maxHeartbeats 4000000 in
def K_X12_areAlike_21 : tb_K := ([.inr (.inl (some 1)), .inl (2, 0), .inl (3, 0)], [], [], [(0, 0), (1180591620717411303424, 1180591620717411303424), (5, 5), (3, 3)], [(some (.inl (4, 0)), [], [], [(0, 0), (1180591620717411303424, 1180591620717411303424), (5, 5), (3, 3), (0, 0)]), (some (.inl (4, 0)), [], [], [(0, 0), (1180591620717411303424, 1180591620717411303424), (5, 5), (3, 3), (1, 1)])], [])
set_option maxRecDepth 200000 in
set_option maxHeartbeats 4000000 in
def T_X12_areAlike_21 : List (tb_S × tb_l) := []
set_option maxRecDepth 200000 in
set_option maxHeartbeats 4000000 in
theorem m_X12_areAlike_21 {l : Launch} : tb_Met l vwCl sa_Ts tb_Z0 yX12_areAlike cX12_areAlike 3 (some .boolean) 2 120 K_X12_areAlike_21 := tb_method (by decide) [47] (t_X12_areAlike [] ) T_X12_areAlike_21 [] 6000 (List.forall_mem_cons.mpr ⟨dX12_areAlike_47, fun _ h => absurd h List.not_mem_nil⟩) (h_X12_areAlike [] 2 120 (by decide) (by decide)  ) (by decide) (by decide +kernel)
set_option maxRecDepth 200000 in
set_option maxHeartbeats 4000000 in
def K_X12_areAlike_22 : tb_K := ([.inr (.inl (some 1)), .inl (2, 0), .inl (3, 0)], [], [], [(0, 0), (1180591620717411303424, 1180591620717411303424), (6, 6), (1, 1)], [(some (.inl (4, 0)), [], [], [(0, 0), (1180591620717411303424, 1180591620717411303424), (6, 6), (1, 1), (0, 0)]), (some (.inl (4, 0)), [], [], [(0, 0), (1180591620717411303424, 1180591620717411303424), (6, 6), (1, 1), (1, 1)])], [])
set_option maxRecDepth 200000 in
set_option maxHeartbeats 4000000 in
def T_X12_areAlike_22 : List (tb_S × tb_l) := []
set_option maxRecDepth 200000 in
set_option maxHeartbeats 4000000 in
theorem m_X12_areAlike_22 {l : Launch} : tb_Met l vwCl sa_Ts tb_Z0 yX12_areAlike cX12_areAlike 3 (some .boolean) 2 120 K_X12_areAlike_22 := tb_method (by decide) [47] (t_X12_areAlike [] ) T_X12_areAlike_22 [] 6000 (List.forall_mem_cons.mpr ⟨dX12_areAlike_47, fun _ h => absurd h List.not_mem_nil⟩) (h_X12_areAlike [] 2 120 (by decide) (by decide)  ) (by decide) (by decide +kernel)
set_option maxRecDepth 200000 in
set_option maxHeartbeats 4000000 in
def K_X12_areAlike_23 : tb_K := ([.inr (.inl (some 1)), .inl (2, 0), .inl (3, 0)], [], [], [(0, 0), (1180591620717411303424, 1180591620717411303424), (5, 5), (4, 4)], [(some (.inl (4, 0)), [], [], [(0, 0), (1180591620717411303424, 1180591620717411303424), (5, 5), (4, 4), (0, 0)]), (some (.inl (4, 0)), [], [], [(0, 0), (1180591620717411303424, 1180591620717411303424), (5, 5), (4, 4), (1, 1)])], [])
set_option maxRecDepth 200000 in
set_option maxHeartbeats 4000000 in
def T_X12_areAlike_23 : List (tb_S × tb_l) := []
set_option maxRecDepth 200000 in
set_option maxHeartbeats 4000000 in
theorem m_X12_areAlike_23 {l : Launch} : tb_Met l vwCl sa_Ts tb_Z0 yX12_areAlike cX12_areAlike 3 (some .boolean) 2 120 K_X12_areAlike_23 := tb_method (by decide) [47] (t_X12_areAlike [] ) T_X12_areAlike_23 [] 6000 (List.forall_mem_cons.mpr ⟨dX12_areAlike_47, fun _ h => absurd h List.not_mem_nil⟩) (h_X12_areAlike [] 2 120 (by decide) (by decide)  ) (by decide) (by decide +kernel)
set_option maxRecDepth 200000 in
set_option maxHeartbeats 4000000 in
def K_X12_areAlike_24 : tb_K := ([.inr (.inl (some 1)), .inl (2, 0), .inl (3, 0)], [], [], [(0, 0), (1180591620717411303424, 1180591620717411303424), (6, 6), (2, 2)], [(some (.inl (4, 0)), [], [], [(0, 0), (1180591620717411303424, 1180591620717411303424), (6, 6), (2, 2), (0, 0)]), (some (.inl (4, 0)), [], [], [(0, 0), (1180591620717411303424, 1180591620717411303424), (6, 6), (2, 2), (1, 1)])], [])
set_option maxRecDepth 200000 in
set_option maxHeartbeats 4000000 in
def T_X12_areAlike_24 : List (tb_S × tb_l) := []
set_option maxRecDepth 200000 in
set_option maxHeartbeats 4000000 in
theorem m_X12_areAlike_24 {l : Launch} : tb_Met l vwCl sa_Ts tb_Z0 yX12_areAlike cX12_areAlike 3 (some .boolean) 2 120 K_X12_areAlike_24 := tb_method (by decide) [47] (t_X12_areAlike [] ) T_X12_areAlike_24 [] 6000 (List.forall_mem_cons.mpr ⟨dX12_areAlike_47, fun _ h => absurd h List.not_mem_nil⟩) (h_X12_areAlike [] 2 120 (by decide) (by decide)  ) (by decide) (by decide +kernel)
set_option maxRecDepth 200000 in
set_option maxHeartbeats 4000000 in
def K_X12_areAlike_25 : tb_K := ([.inr (.inl (some 1)), .inl (2, 0), .inl (3, 0)], [], [], [(0, 0), (1180591620717411303424, 1180591620717411303424), (7, 7), (0, 0)], [(some (.inl (4, 0)), [], [], [(0, 0), (1180591620717411303424, 1180591620717411303424), (7, 7), (0, 0), (0, 0)]), (some (.inl (4, 0)), [], [], [(0, 0), (1180591620717411303424, 1180591620717411303424), (7, 7), (0, 0), (1, 1)])], [])
set_option maxRecDepth 200000 in
set_option maxHeartbeats 4000000 in
def T_X12_areAlike_25 : List (tb_S × tb_l) := []
set_option maxRecDepth 200000 in
set_option maxHeartbeats 4000000 in
theorem m_X12_areAlike_25 {l : Launch} : tb_Met l vwCl sa_Ts tb_Z0 yX12_areAlike cX12_areAlike 3 (some .boolean) 2 120 K_X12_areAlike_25 := tb_method (by decide) [47] (t_X12_areAlike [] ) T_X12_areAlike_25 [] 6000 (List.forall_mem_cons.mpr ⟨dX12_areAlike_47, fun _ h => absurd h List.not_mem_nil⟩) (h_X12_areAlike [] 2 120 (by decide) (by decide)  ) (by decide) (by decide +kernel)
set_option maxRecDepth 200000 in
set_option maxHeartbeats 4000000 in
def K_X12_areAlike_26 : tb_K := ([.inr (.inl (some 1)), .inl (2, 0), .inl (3, 0)], [], [], [(0, 0), (1180591620717411303424, 1180591620717411303424), (5, 5), (5, 5)], [(some (.inl (4, 0)), [], [], [(0, 0), (1180591620717411303424, 1180591620717411303424), (5, 5), (5, 5), (1, 1)])], [])
set_option maxRecDepth 200000 in
set_option maxHeartbeats 4000000 in
def T_X12_areAlike_26 : List (tb_S × tb_l) := []
set_option maxRecDepth 200000 in
set_option maxHeartbeats 4000000 in
theorem m_X12_areAlike_26 {l : Launch} : tb_Met l vwCl sa_Ts tb_Z0 yX12_areAlike cX12_areAlike 3 (some .boolean) 2 120 K_X12_areAlike_26 := tb_method (by decide) [47] (t_X12_areAlike [] ) T_X12_areAlike_26 [] 6000 (List.forall_mem_cons.mpr ⟨dX12_areAlike_47, fun _ h => absurd h List.not_mem_nil⟩) (h_X12_areAlike [] 2 120 (by decide) (by decide)  ) (by decide) (by decide +kernel)
set_option maxRecDepth 200000 in
set_option maxHeartbeats 4000000 in
def K_X12_areAlike_27 : tb_K := ([.inr (.inl (some 1)), .inl (2, 0), .inl (3, 0)], [], [], [(0, 0), (1180591620717411303424, 1180591620717411303424), (6, 6), (3, 3)], [(some (.inl (4, 0)), [], [], [(0, 0), (1180591620717411303424, 1180591620717411303424), (6, 6), (3, 3), (0, 0)]), (some (.inl (4, 0)), [], [], [(0, 0), (1180591620717411303424, 1180591620717411303424), (6, 6), (3, 3), (1, 1)])], [])
set_option maxRecDepth 200000 in
set_option maxHeartbeats 4000000 in
def T_X12_areAlike_27 : List (tb_S × tb_l) := []
set_option maxRecDepth 200000 in
set_option maxHeartbeats 4000000 in
theorem m_X12_areAlike_27 {l : Launch} : tb_Met l vwCl sa_Ts tb_Z0 yX12_areAlike cX12_areAlike 3 (some .boolean) 2 120 K_X12_areAlike_27 := tb_method (by decide) [47] (t_X12_areAlike [] ) T_X12_areAlike_27 [] 6000 (List.forall_mem_cons.mpr ⟨dX12_areAlike_47, fun _ h => absurd h List.not_mem_nil⟩) (h_X12_areAlike [] 2 120 (by decide) (by decide)  ) (by decide) (by decide +kernel)
set_option maxRecDepth 200000 in
set_option maxHeartbeats 4000000 in
def K_X12_areAlike_28 : tb_K := ([.inr (.inl (some 1)), .inl (2, 0), .inl (3, 0)], [], [], [(0, 0), (1180591620717411303424, 1180591620717411303424), (7, 7), (1, 1)], [(some (.inl (4, 0)), [], [], [(0, 0), (1180591620717411303424, 1180591620717411303424), (7, 7), (1, 1), (0, 0)]), (some (.inl (4, 0)), [], [], [(0, 0), (1180591620717411303424, 1180591620717411303424), (7, 7), (1, 1), (1, 1)])], [])
set_option maxRecDepth 200000 in
set_option maxHeartbeats 4000000 in
def T_X12_areAlike_28 : List (tb_S × tb_l) := []
set_option maxRecDepth 200000 in
set_option maxHeartbeats 4000000 in
theorem m_X12_areAlike_28 {l : Launch} : tb_Met l vwCl sa_Ts tb_Z0 yX12_areAlike cX12_areAlike 3 (some .boolean) 2 120 K_X12_areAlike_28 := tb_method (by decide) [47] (t_X12_areAlike [] ) T_X12_areAlike_28 [] 6000 (List.forall_mem_cons.mpr ⟨dX12_areAlike_47, fun _ h => absurd h List.not_mem_nil⟩) (h_X12_areAlike [] 2 120 (by decide) (by decide)  ) (by decide) (by decide +kernel)
set_option maxRecDepth 200000 in
set_option maxHeartbeats 4000000 in
def K_X12_areAlike_29 : tb_K := ([.inr (.inl (some 1)), .inl (2, 0), .inl (3, 0)], [], [], [(0, 0), (1180591620717411303424, 1180591620717411303424), (6, 6), (4, 4)], [(some (.inl (4, 0)), [], [], [(0, 0), (1180591620717411303424, 1180591620717411303424), (6, 6), (4, 4), (0, 0)]), (some (.inl (4, 0)), [], [], [(0, 0), (1180591620717411303424, 1180591620717411303424), (6, 6), (4, 4), (1, 1)])], [])
set_option maxRecDepth 200000 in
set_option maxHeartbeats 4000000 in
def T_X12_areAlike_29 : List (tb_S × tb_l) := []
set_option maxRecDepth 200000 in
set_option maxHeartbeats 4000000 in
theorem m_X12_areAlike_29 {l : Launch} : tb_Met l vwCl sa_Ts tb_Z0 yX12_areAlike cX12_areAlike 3 (some .boolean) 2 120 K_X12_areAlike_29 := tb_method (by decide) [47] (t_X12_areAlike [] ) T_X12_areAlike_29 [] 6000 (List.forall_mem_cons.mpr ⟨dX12_areAlike_47, fun _ h => absurd h List.not_mem_nil⟩) (h_X12_areAlike [] 2 120 (by decide) (by decide)  ) (by decide) (by decide +kernel)
set_option maxRecDepth 200000 in
set_option maxHeartbeats 4000000 in
def K_X12_areAlike_30 : tb_K := ([.inr (.inl (some 1)), .inl (2, 0), .inl (3, 0)], [], [], [(0, 0), (1180591620717411303424, 1180591620717411303424), (7, 7), (2, 2)], [(some (.inl (4, 0)), [], [], [(0, 0), (1180591620717411303424, 1180591620717411303424), (7, 7), (2, 2), (0, 0)]), (some (.inl (4, 0)), [], [], [(0, 0), (1180591620717411303424, 1180591620717411303424), (7, 7), (2, 2), (1, 1)])], [])
set_option maxRecDepth 200000 in
set_option maxHeartbeats 4000000 in
def T_X12_areAlike_30 : List (tb_S × tb_l) := []
set_option maxRecDepth 200000 in
set_option maxHeartbeats 4000000 in
theorem m_X12_areAlike_30 {l : Launch} : tb_Met l vwCl sa_Ts tb_Z0 yX12_areAlike cX12_areAlike 3 (some .boolean) 2 120 K_X12_areAlike_30 := tb_method (by decide) [47] (t_X12_areAlike [] ) T_X12_areAlike_30 [] 6000 (List.forall_mem_cons.mpr ⟨dX12_areAlike_47, fun _ h => absurd h List.not_mem_nil⟩) (h_X12_areAlike [] 2 120 (by decide) (by decide)  ) (by decide) (by decide +kernel)
set_option maxRecDepth 200000 in
set_option maxHeartbeats 4000000 in
def K_X12_areAlike_31 : tb_K := ([.inr (.inl (some 1)), .inl (2, 0), .inl (3, 0)], [], [], [(0, 0), (1180591620717411303424, 1180591620717411303424), (6, 6), (5, 5)], [(some (.inl (4, 0)), [], [], [(0, 0), (1180591620717411303424, 1180591620717411303424), (6, 6), (5, 5), (0, 0)]), (some (.inl (4, 0)), [], [], [(0, 0), (1180591620717411303424, 1180591620717411303424), (6, 6), (5, 5), (1, 1)])], [])
set_option maxRecDepth 200000 in
set_option maxHeartbeats 4000000 in
def T_X12_areAlike_31 : List (tb_S × tb_l) := []
set_option maxRecDepth 200000 in
set_option maxHeartbeats 4000000 in
theorem m_X12_areAlike_31 {l : Launch} : tb_Met l vwCl sa_Ts tb_Z0 yX12_areAlike cX12_areAlike 3 (some .boolean) 2 120 K_X12_areAlike_31 := tb_method (by decide) [47] (t_X12_areAlike [] ) T_X12_areAlike_31 [] 6000 (List.forall_mem_cons.mpr ⟨dX12_areAlike_47, fun _ h => absurd h List.not_mem_nil⟩) (h_X12_areAlike [] 2 120 (by decide) (by decide)  ) (by decide) (by decide +kernel)
set_option maxRecDepth 200000 in
set_option maxHeartbeats 4000000 in
def K_X12_areAlike_32 : tb_K := ([.inr (.inl (some 1)), .inl (2, 0), .inl (3, 0)], [], [], [(0, 0), (1180591620717411303424, 1180591620717411303424), (7, 7), (3, 3)], [(some (.inl (4, 0)), [], [], [(0, 0), (1180591620717411303424, 1180591620717411303424), (7, 7), (3, 3), (0, 0)]), (some (.inl (4, 0)), [], [], [(0, 0), (1180591620717411303424, 1180591620717411303424), (7, 7), (3, 3), (1, 1)])], [])
set_option maxRecDepth 200000 in
set_option maxHeartbeats 4000000 in
def T_X12_areAlike_32 : List (tb_S × tb_l) := []
set_option maxRecDepth 200000 in
set_option maxHeartbeats 4000000 in
theorem m_X12_areAlike_32 {l : Launch} : tb_Met l vwCl sa_Ts tb_Z0 yX12_areAlike cX12_areAlike 3 (some .boolean) 2 120 K_X12_areAlike_32 := tb_method (by decide) [47] (t_X12_areAlike [] ) T_X12_areAlike_32 [] 6000 (List.forall_mem_cons.mpr ⟨dX12_areAlike_47, fun _ h => absurd h List.not_mem_nil⟩) (h_X12_areAlike [] 2 120 (by decide) (by decide)  ) (by decide) (by decide +kernel)
set_option maxRecDepth 200000 in
set_option maxHeartbeats 4000000 in
def K_X12_areAlike_33 : tb_K := ([.inr (.inl (some 1)), .inl (2, 0), .inl (3, 0)], [], [], [(0, 0), (1180591620717411303424, 1180591620717411303424), (6, 6), (6, 6)], [(some (.inl (4, 0)), [], [], [(0, 0), (1180591620717411303424, 1180591620717411303424), (6, 6), (6, 6), (1, 1)])], [])
set_option maxRecDepth 200000 in
set_option maxHeartbeats 4000000 in
def T_X12_areAlike_33 : List (tb_S × tb_l) := []
set_option maxRecDepth 200000 in
set_option maxHeartbeats 4000000 in
theorem m_X12_areAlike_33 {l : Launch} : tb_Met l vwCl sa_Ts tb_Z0 yX12_areAlike cX12_areAlike 3 (some .boolean) 2 120 K_X12_areAlike_33 := tb_method (by decide) [47] (t_X12_areAlike [] ) T_X12_areAlike_33 [] 6000 (List.forall_mem_cons.mpr ⟨dX12_areAlike_47, fun _ h => absurd h List.not_mem_nil⟩) (h_X12_areAlike [] 2 120 (by decide) (by decide)  ) (by decide) (by decide +kernel)
set_option maxRecDepth 200000 in
set_option maxHeartbeats 4000000 in
def K_X12_areAlike_34 : tb_K := ([.inr (.inl (some 1)), .inl (2, 0), .inl (3, 0)], [], [], [(0, 0), (1180591620717411303424, 1180591620717411303424), (7, 7), (4, 4)], [(some (.inl (4, 0)), [], [], [(0, 0), (1180591620717411303424, 1180591620717411303424), (7, 7), (4, 4), (0, 0)]), (some (.inl (4, 0)), [], [], [(0, 0), (1180591620717411303424, 1180591620717411303424), (7, 7), (4, 4), (1, 1)])], [])
set_option maxRecDepth 200000 in
set_option maxHeartbeats 4000000 in
def T_X12_areAlike_34 : List (tb_S × tb_l) := []
set_option maxRecDepth 200000 in
set_option maxHeartbeats 4000000 in
theorem m_X12_areAlike_34 {l : Launch} : tb_Met l vwCl sa_Ts tb_Z0 yX12_areAlike cX12_areAlike 3 (some .boolean) 2 120 K_X12_areAlike_34 := tb_method (by decide) [47] (t_X12_areAlike [] ) T_X12_areAlike_34 [] 6000 (List.forall_mem_cons.mpr ⟨dX12_areAlike_47, fun _ h => absurd h List.not_mem_nil⟩) (h_X12_areAlike [] 2 120 (by decide) (by decide)  ) (by decide) (by decide +kernel)
set_option maxRecDepth 200000 in
set_option maxHeartbeats 4000000 in
def K_X12_areAlike_35 : tb_K := ([.inr (.inl (some 1)), .inl (2, 0), .inl (3, 0)], [], [], [(0, 0), (1180591620717411303424, 1180591620717411303424), (7, 7), (5, 5)], [(some (.inl (4, 0)), [], [], [(0, 0), (1180591620717411303424, 1180591620717411303424), (7, 7), (5, 5), (0, 0)]), (some (.inl (4, 0)), [], [], [(0, 0), (1180591620717411303424, 1180591620717411303424), (7, 7), (5, 5), (1, 1)])], [])
set_option maxRecDepth 200000 in
set_option maxHeartbeats 4000000 in
def T_X12_areAlike_35 : List (tb_S × tb_l) := []
set_option maxRecDepth 200000 in
set_option maxHeartbeats 4000000 in
theorem m_X12_areAlike_35 {l : Launch} : tb_Met l vwCl sa_Ts tb_Z0 yX12_areAlike cX12_areAlike 3 (some .boolean) 2 120 K_X12_areAlike_35 := tb_method (by decide) [47] (t_X12_areAlike [] ) T_X12_areAlike_35 [] 6000 (List.forall_mem_cons.mpr ⟨dX12_areAlike_47, fun _ h => absurd h List.not_mem_nil⟩) (h_X12_areAlike [] 2 120 (by decide) (by decide)  ) (by decide) (by decide +kernel)
set_option maxRecDepth 200000 in
set_option maxHeartbeats 4000000 in
def K_X12_areAlike_36 : tb_K := ([.inr (.inl (some 1)), .inl (2, 0), .inl (3, 0)], [], [], [(0, 0), (1180591620717411303424, 1180591620717411303424), (7, 7), (6, 6)], [(some (.inl (4, 0)), [], [], [(0, 0), (1180591620717411303424, 1180591620717411303424), (7, 7), (6, 6), (0, 0)]), (some (.inl (4, 0)), [], [], [(0, 0), (1180591620717411303424, 1180591620717411303424), (7, 7), (6, 6), (1, 1)])], [])
set_option maxRecDepth 200000 in
set_option maxHeartbeats 4000000 in
def T_X12_areAlike_36 : List (tb_S × tb_l) := []
set_option maxRecDepth 200000 in
set_option maxHeartbeats 4000000 in
theorem m_X12_areAlike_36 {l : Launch} : tb_Met l vwCl sa_Ts tb_Z0 yX12_areAlike cX12_areAlike 3 (some .boolean) 2 120 K_X12_areAlike_36 := tb_method (by decide) [47] (t_X12_areAlike [] ) T_X12_areAlike_36 [] 6000 (List.forall_mem_cons.mpr ⟨dX12_areAlike_47, fun _ h => absurd h List.not_mem_nil⟩) (h_X12_areAlike [] 2 120 (by decide) (by decide)  ) (by decide) (by decide +kernel)
set_option maxRecDepth 200000 in
set_option maxHeartbeats 4000000 in
def K_X12_areAlike_37 : tb_K := ([.inr (.inl (some 1)), .inl (2, 0), .inl (3, 0)], [], [], [(0, 0), (1180591620717411303424, 1180591620717411303424), (7, 7), (7, 7)], [(some (.inl (4, 0)), [], [], [(0, 0), (1180591620717411303424, 1180591620717411303424), (7, 7), (7, 7), (1, 1)])], [])
set_option maxRecDepth 200000 in
set_option maxHeartbeats 4000000 in
def T_X12_areAlike_37 : List (tb_S × tb_l) := []
set_option maxRecDepth 200000 in
set_option maxHeartbeats 4000000 in
theorem m_X12_areAlike_37 {l : Launch} : tb_Met l vwCl sa_Ts tb_Z0 yX12_areAlike cX12_areAlike 3 (some .boolean) 2 120 K_X12_areAlike_37 := tb_method (by decide) [47] (t_X12_areAlike [] ) T_X12_areAlike_37 [] 6000 (List.forall_mem_cons.mpr ⟨dX12_areAlike_47, fun _ h => absurd h List.not_mem_nil⟩) (h_X12_areAlike [] 2 120 (by decide) (by decide)  ) (by decide) (by decide +kernel)
noncomputable def t_X12_kinds (mod : List (Nat × Nat × Nat)) (L24 : List tb_K) : List (Nat × tb_op) := [(0, to_then 1 (to_aload 0 1) (to_then 2 (to_int (0) 1) (to_put tb_Z0 tb_RT0 mod [] 12 0 .int))), (5, to_then 6 (to_int (0) 1) (to_istore 4 1 1)), (7, to_then 8 (to_int (0) 1) (to_istore 4 2 1)), (9, to_then 10 (to_iload 2 1) (to_then 11 (to_aload 0 1) (to_get tb_Z0 [] 12 14))), (14, to_then 15 (to_int (1) 1) (to_ald tb_Z0 [] 0)), (16, to_icmp (sr_flip tr_le) tr_lt 50), (19, to_then 20 (to_int (0) 1) (to_istore 4 3 1)), (21, to_then 22 (to_aload 0 1) (to_then 23 (to_iload 2 1) (to_then 24 (to_iload 3 1) (to_cs tb_Z0 mod (tb_gV tb_Z0 12 3 0 0) L24)))), (27, to_if tr_ne tr_eq 36), (30, to_inc 4 3 (1)), (33, to_goto 21), (36, to_then 37 (to_iload 3 1) (to_then 38 (to_iload 2 1) (to_icmp tr_ne tr_eq 44))), (41, to_inc 4 1 (1)), (44, to_inc 4 2 (1)), (47, to_goto 9), (50, to_iload 1 1)]
set_option maxRecDepth 200000 in
set_option maxHeartbeats 4000000 in
theorem h_X12_kinds {l : Launch} (mod : List (Nat × Nat × Nat)) (fr lc : Nat) (hfr : 1 + 1 ≤ fr) (hlc : 8 + (2 + 11) + 20 ≤ lc) (L24 : List tb_K) (h24 : tb_ML l yX12_areAlike cX12_areAlike 3 (some .boolean) fr lc 3 L24) : ∀ (p : Program) (e : Env) (s : State) (m : MethodId) (args : Array Value) (below : List Frame) (meth : Method) (c : Code) (Q : State → Prop) (D : va_G) (dA : Nat → ClassId) (A : Nat → Prop) (n0 : Nat) (V0 : sa_V) (E : tb_E), sa_C p s m args c D dA A 4 vwCl sa_Ts cX12_kinds yX12_kinds.cls → sa_U D vwCl dA s → tb_Ou A s s.heap → tb_z E = tb_Z0 → tb_mod E = mod → ∀ q ∈ t_X12_kinds mod L24, tb_snd p l e { frames := fr, cells := 0, slots := 0, locals := lc } s m args below meth c Q D dA A 4 vwCl n0 V0 E q.1 q.2 := fun p e s m args below meth c Q D dA A n0 V0 E C0 hU hO hz hm => List.forall_mem_cons.mpr ⟨tn_then (tn_aload_n C0 dX12_kinds_0) (tn_then (tn_iconst C0 dX12_kinds_1) (tn_put C0 hz hcv0 hrt0 hm kcX12 dX12_kinds_2 (by decide) tv_1261 rfl rfl)), List.forall_mem_cons.mpr ⟨tn_then (tn_iconst C0 dX12_kinds_5) (tn_istore_n C0 dX12_kinds_6), List.forall_mem_cons.mpr ⟨tn_then (tn_iconst C0 dX12_kinds_7) (tn_istore_n C0 dX12_kinds_8), List.forall_mem_cons.mpr ⟨tn_then (tn_iload_n C0 dX12_kinds_9) (tn_then (tn_aload_n C0 dX12_kinds_10) (tn_get C0 hz hcv0 kcX12 dX12_kinds_11 (by decide) tv_1275)), List.forall_mem_cons.mpr ⟨tn_then (tn_iconst C0 dX12_kinds_14) (tn_iald C0 hz hcv0 dX12_kinds_15), List.forall_mem_cons.mpr ⟨tx_icmp_ge C0 dX12_kinds_16 (by decide), List.forall_mem_cons.mpr ⟨tn_then (tn_iconst C0 dX12_kinds_19) (tn_istore_n C0 dX12_kinds_20), List.forall_mem_cons.mpr ⟨tn_then (tn_aload_n C0 dX12_kinds_21) (tn_then (tn_iload_n C0 dX12_kinds_22) (tn_then (tn_iload_n C0 dX12_kinds_23) (tn_cV C0 hz hm hU hO h24 tv_1723 dX12_kinds_24 tv_1720 tv_1722 tq_X12_areAlike tv_13 rfl yb_X12_areAlike (Nat.le_refl _) (Nat.le_refl _)))), List.forall_mem_cons.mpr ⟨tx_if_ne C0 dX12_kinds_27 (by decide), List.forall_mem_cons.mpr ⟨tn_inc C0 dX12_kinds_30, List.forall_mem_cons.mpr ⟨tn_goto C0 dX12_kinds_33 (by decide), List.forall_mem_cons.mpr ⟨tn_then (tn_iload_n C0 dX12_kinds_36) (tn_then (tn_iload_n C0 dX12_kinds_37) (tx_icmp_ne C0 dX12_kinds_38 (by decide))), List.forall_mem_cons.mpr ⟨tn_inc C0 dX12_kinds_41, List.forall_mem_cons.mpr ⟨tn_inc C0 dX12_kinds_44, List.forall_mem_cons.mpr ⟨tn_goto C0 dX12_kinds_47 (by decide), List.forall_mem_cons.mpr ⟨tn_iload_n C0 dX12_kinds_50, fun _ h => absurd h List.not_mem_nil⟩⟩⟩⟩⟩⟩⟩⟩⟩⟩⟩⟩⟩⟩⟩⟩
set_option maxRecDepth 200000 in
set_option maxHeartbeats 4000000 in
def K_X12_kinds_1 : tb_K := ([.inr (.inl (some 1))], [], [], [(0, 0), (1180591620717411303424, 1180591620717411303424)], [(some (.inl (2, 0)), [], [], [(0, 0), (1180591620717411303424, 1180591620717411303424), (0, 8)])], [(0, 0, 0)])
set_option maxRecDepth 200000 in
set_option maxHeartbeats 4000000 in
def T_X12_kinds_1_0 : List (tb_S × tb_l) := [((9, [(0, .inr (.inl (some 1))), (1, .inl (2, 0)), (2, .inl (2, 0))], [], ([(1, (0, 0), .inl (2, 0))], [], []), [(0, 0), (1180591620717411303424, 1180591620717411303424), (0, 0)], 0, 0), ([], 341)),
  ((21, [(0, .inr (.inl (some 1))), (1, .inl (2, 0)), (2, .inl (2, 0)), (3, .inl (2, 0))], [], ([(1, (0, 0), .inl (2, 0)), (1, (0, 14), .inr (.inl (some 3))), (3, (0, 1), .inl (4, 0))], [], []), [(0, 0), (1180591620717411303424, 1180591620717411303424), (0, 0), (1180591620717411303425, 1180591620717411303425), (1, 8)], 0, 0), ([], 339)),
  ((9, [(0, .inr (.inl (some 1))), (1, .inl (2, 0)), (2, .inl (2, 0)), (3, .inl (3, 0))], [], ([(1, (0, 0), .inl (3, 0)), (1, (0, 14), .inr (.inl (some 4))), (4, (0, 1), .inl (5, 0))], [], []), [(0, 0), (1180591620717411303424, 1180591620717411303424), (1, 1), (0, 0), (1180591620717411303425, 1180591620717411303425), (1, 8)], 0, 0), ([], 303)),
  ((21, [(0, .inr (.inl (some 1))), (1, .inl (2, 0)), (2, .inl (2, 0)), (3, .inl (3, 0))], [], ([(1, (0, 0), .inl (3, 0)), (1, (0, 14), .inr (.inl (some 4))), (4, (0, 1), .inl (5, 0))], [], []), [(0, 0), (1180591620717411303424, 1180591620717411303424), (1, 1), (0, 0), (1180591620717411303425, 1180591620717411303425), (2, 8)], 0, 0), ([], 300)),
  ((21, [(0, .inr (.inl (some 1))), (1, .inl (2, 0)), (2, .inl (2, 0)), (3, .inl (2, 0))], [], ([(1, (0, 0), .inl (3, 0)), (1, (0, 14), .inr (.inl (some 4))), (4, (0, 1), .inl (5, 0))], [], []), [(0, 0), (1180591620717411303424, 1180591620717411303424), (1, 1), (0, 0), (1180591620717411303425, 1180591620717411303425), (2, 8)], 0, 0), ([], 299)),
  ((9, [(0, .inr (.inl (some 1))), (1, .inl (2, 0)), (2, .inl (3, 0)), (3, .inl (4, 0))], [], ([(1, (0, 0), .inl (5, 0)), (1, (0, 14), .inr (.inl (some 6))), (6, (0, 1), .inl (7, 0))], [], []), [(0, 0), (1180591620717411303424, 1180591620717411303424), (1, 2), (2, 2), (0, 1), (0, 0), (1180591620717411303425, 1180591620717411303425), (2, 8)], 0, 0), ([], 265)),
  ((21, [(0, .inr (.inl (some 1))), (1, .inl (2, 0)), (2, .inl (3, 0)), (3, .inl (4, 0))], [], ([(1, (0, 0), .inl (4, 0)), (1, (0, 14), .inr (.inl (some 5))), (5, (0, 1), .inl (6, 0))], [], []), [(0, 0), (1180591620717411303424, 1180591620717411303424), (1, 2), (2, 2), (0, 0), (1180591620717411303425, 1180591620717411303425), (3, 8)], 0, 0), ([], 260)),
  ((21, [(0, .inr (.inl (some 1))), (1, .inl (2, 0)), (2, .inl (3, 0)), (3, .inl (4, 0))], [], ([(1, (0, 0), .inl (5, 0)), (1, (0, 14), .inr (.inl (some 6))), (6, (0, 1), .inl (7, 0))], [], []), [(0, 0), (1180591620717411303424, 1180591620717411303424), (1, 2), (2, 2), (1, 1), (0, 0), (1180591620717411303425, 1180591620717411303425), (3, 8)], 0, 0), ([], 259)),
  ((9, [(0, .inr (.inl (some 1))), (1, .inl (2, 0)), (2, .inl (3, 0)), (3, .inl (4, 0))], [], ([(1, (0, 0), .inl (5, 0)), (1, (0, 14), .inr (.inl (some 6))), (6, (0, 1), .inl (7, 0))], [], []), [(0, 0), (1180591620717411303424, 1180591620717411303424), (1, 3), (3, 3), (0, 2), (0, 0), (1180591620717411303425, 1180591620717411303425), (3, 8)], 0, 0), ([], 227)),
  ((21, [(0, .inr (.inl (some 1))), (1, .inl (2, 0)), (2, .inl (3, 0)), (3, .inl (3, 0))], [], ([(1, (0, 0), .inl (4, 0)), (1, (0, 14), .inr (.inl (some 5))), (5, (0, 1), .inl (6, 0))], [], []), [(0, 0), (1180591620717411303424, 1180591620717411303424), (1, 2), (2, 2), (0, 0), (1180591620717411303425, 1180591620717411303425), (3, 8)], 0, 0), ([], 258)),
  ((21, [(0, .inr (.inl (some 1))), (1, .inl (2, 0)), (2, .inl (3, 0)), (3, .inl (4, 0))], [], ([(1, (0, 0), .inl (4, 0)), (1, (0, 14), .inr (.inl (some 5))), (5, (0, 1), .inl (6, 0))], [], []), [(0, 0), (1180591620717411303424, 1180591620717411303424), (1, 3), (3, 3), (0, 0), (1180591620717411303425, 1180591620717411303425), (4, 8)], 0, 0), ([], 219)),
  ((21, [(0, .inr (.inl (some 1))), (1, .inl (2, 0)), (2, .inl (3, 0)), (3, .inl (4, 0))], [], ([(1, (0, 0), .inl (5, 0)), (1, (0, 14), .inr (.inl (some 6))), (6, (0, 1), .inl (7, 0))], [], []), [(0, 0), (1180591620717411303424, 1180591620717411303424), (1, 3), (3, 3), (1, 1), (0, 0), (1180591620717411303425, 1180591620717411303425), (4, 8)], 0, 0), ([], 218)),
  ((9, [(0, .inr (.inl (some 1))), (1, .inl (2, 0)), (2, .inl (3, 0)), (3, .inl (4, 0))], [], ([(1, (0, 0), .inl (5, 0)), (1, (0, 14), .inr (.inl (some 6))), (6, (0, 1), .inl (7, 0))], [], []), [(0, 0), (1180591620717411303424, 1180591620717411303424), (1, 4), (4, 4), (0, 3), (0, 0), (1180591620717411303425, 1180591620717411303425), (4, 8)], 0, 0), ([], 189)),
  ((21, [(0, .inr (.inl (some 1))), (1, .inl (2, 0)), (2, .inl (3, 0)), (3, .inl (4, 0))], [], ([(1, (0, 0), .inl (5, 0)), (1, (0, 14), .inr (.inl (some 6))), (6, (0, 1), .inl (7, 0))], [], []), [(0, 0), (1180591620717411303424, 1180591620717411303424), (1, 3), (3, 3), (2, 2), (0, 0), (1180591620717411303425, 1180591620717411303425), (4, 8)], 0, 0), ([], 217)),
  ((21, [(0, .inr (.inl (some 1))), (1, .inl (2, 0)), (2, .inl (3, 0)), (3, .inl (4, 0))], [], ([(1, (0, 0), .inl (4, 0)), (1, (0, 14), .inr (.inl (some 5))), (5, (0, 1), .inl (6, 0))], [], []), [(0, 0), (1180591620717411303424, 1180591620717411303424), (1, 4), (4, 4), (0, 0), (1180591620717411303425, 1180591620717411303425), (5, 8)], 0, 0), ([], 177)),
  ((21, [(0, .inr (.inl (some 1))), (1, .inl (2, 0)), (2, .inl (3, 0)), (3, .inl (3, 0))], [], ([(1, (0, 0), .inl (4, 0)), (1, (0, 14), .inr (.inl (some 5))), (5, (0, 1), .inl (6, 0))], [], []), [(0, 0), (1180591620717411303424, 1180591620717411303424), (1, 3), (3, 3), (0, 0), (1180591620717411303425, 1180591620717411303425), (4, 8)], 0, 0), ([], 216)),
  ((21, [(0, .inr (.inl (some 1))), (1, .inl (2, 0)), (2, .inl (3, 0)), (3, .inl (4, 0))], [], ([(1, (0, 0), .inl (5, 0)), (1, (0, 14), .inr (.inl (some 6))), (6, (0, 1), .inl (7, 0))], [], []), [(0, 0), (1180591620717411303424, 1180591620717411303424), (1, 4), (4, 4), (1, 1), (0, 0), (1180591620717411303425, 1180591620717411303425), (5, 8)], 0, 0), ([], 176)),
  ((9, [(0, .inr (.inl (some 1))), (1, .inl (2, 0)), (2, .inl (3, 0)), (3, .inl (4, 0))], [], ([(1, (0, 0), .inl (5, 0)), (1, (0, 14), .inr (.inl (some 6))), (6, (0, 1), .inl (7, 0))], [], []), [(0, 0), (1180591620717411303424, 1180591620717411303424), (1, 5), (5, 5), (0, 4), (0, 0), (1180591620717411303425, 1180591620717411303425), (5, 8)], 0, 0), ([], 151)),
  ((21, [(0, .inr (.inl (some 1))), (1, .inl (2, 0)), (2, .inl (3, 0)), (3, .inl (4, 0))], [], ([(1, (0, 0), .inl (5, 0)), (1, (0, 14), .inr (.inl (some 6))), (6, (0, 1), .inl (7, 0))], [], []), [(0, 0), (1180591620717411303424, 1180591620717411303424), (1, 4), (4, 4), (2, 2), (0, 0), (1180591620717411303425, 1180591620717411303425), (5, 8)], 0, 0), ([], 175)),
  ((21, [(0, .inr (.inl (some 1))), (1, .inl (2, 0)), (2, .inl (3, 0)), (3, .inl (4, 0))], [], ([(1, (0, 0), .inl (4, 0)), (1, (0, 14), .inr (.inl (some 5))), (5, (0, 1), .inl (6, 0))], [], []), [(0, 0), (1180591620717411303424, 1180591620717411303424), (1, 5), (5, 5), (0, 0), (1180591620717411303425, 1180591620717411303425), (6, 8)], 0, 0), ([], 134)),
  ((21, [(0, .inr (.inl (some 1))), (1, .inl (2, 0)), (2, .inl (3, 0)), (3, .inl (4, 0))], [], ([(1, (0, 0), .inl (5, 0)), (1, (0, 14), .inr (.inl (some 6))), (6, (0, 1), .inl (7, 0))], [], []), [(0, 0), (1180591620717411303424, 1180591620717411303424), (1, 4), (4, 4), (3, 3), (0, 0), (1180591620717411303425, 1180591620717411303425), (5, 8)], 0, 0), ([], 174)),
  ((21, [(0, .inr (.inl (some 1))), (1, .inl (2, 0)), (2, .inl (3, 0)), (3, .inl (4, 0))], [], ([(1, (0, 0), .inl (5, 0)), (1, (0, 14), .inr (.inl (some 6))), (6, (0, 1), .inl (7, 0))], [], []), [(0, 0), (1180591620717411303424, 1180591620717411303424), (1, 5), (5, 5), (1, 1), (0, 0), (1180591620717411303425, 1180591620717411303425), (6, 8)], 0, 0), ([], 133)),
  ((9, [(0, .inr (.inl (some 1))), (1, .inl (2, 0)), (2, .inl (3, 0)), (3, .inl (4, 0))], [], ([(1, (0, 0), .inl (5, 0)), (1, (0, 14), .inr (.inl (some 6))), (6, (0, 1), .inl (7, 0))], [], []), [(0, 0), (1180591620717411303424, 1180591620717411303424), (1, 6), (6, 6), (0, 5), (0, 0), (1180591620717411303425, 1180591620717411303425), (6, 8)], 0, 0), ([], 113)),
  ((21, [(0, .inr (.inl (some 1))), (1, .inl (2, 0)), (2, .inl (3, 0)), (3, .inl (3, 0))], [], ([(1, (0, 0), .inl (4, 0)), (1, (0, 14), .inr (.inl (some 5))), (5, (0, 1), .inl (6, 0))], [], []), [(0, 0), (1180591620717411303424, 1180591620717411303424), (1, 4), (4, 4), (0, 0), (1180591620717411303425, 1180591620717411303425), (5, 8)], 0, 0), ([], 173)),
  ((21, [(0, .inr (.inl (some 1))), (1, .inl (2, 0)), (2, .inl (3, 0)), (3, .inl (4, 0))], [], ([(1, (0, 0), .inl (5, 0)), (1, (0, 14), .inr (.inl (some 6))), (6, (0, 1), .inl (7, 0))], [], []), [(0, 0), (1180591620717411303424, 1180591620717411303424), (1, 5), (5, 5), (2, 2), (0, 0), (1180591620717411303425, 1180591620717411303425), (6, 8)], 0, 0), ([], 132)),
  ((21, [(0, .inr (.inl (some 1))), (1, .inl (2, 0)), (2, .inl (3, 0)), (3, .inl (4, 0))], [], ([(1, (0, 0), .inl (4, 0)), (1, (0, 14), .inr (.inl (some 5))), (5, (0, 1), .inl (6, 0))], [], []), [(0, 0), (1180591620717411303424, 1180591620717411303424), (1, 6), (6, 6), (0, 0), (1180591620717411303425, 1180591620717411303425), (7, 8)], 0, 0), ([], 90)),
  ((21, [(0, .inr (.inl (some 1))), (1, .inl (2, 0)), (2, .inl (3, 0)), (3, .inl (4, 0))], [], ([(1, (0, 0), .inl (5, 0)), (1, (0, 14), .inr (.inl (some 6))), (6, (0, 1), .inl (7, 0))], [], []), [(0, 0), (1180591620717411303424, 1180591620717411303424), (1, 5), (5, 5), (3, 3), (0, 0), (1180591620717411303425, 1180591620717411303425), (6, 8)], 0, 0), ([], 131)),
  ((21, [(0, .inr (.inl (some 1))), (1, .inl (2, 0)), (2, .inl (3, 0)), (3, .inl (4, 0))], [], ([(1, (0, 0), .inl (5, 0)), (1, (0, 14), .inr (.inl (some 6))), (6, (0, 1), .inl (7, 0))], [], []), [(0, 0), (1180591620717411303424, 1180591620717411303424), (1, 6), (6, 6), (1, 1), (0, 0), (1180591620717411303425, 1180591620717411303425), (7, 8)], 0, 0), ([], 89)),
  ((9, [(0, .inr (.inl (some 1))), (1, .inl (2, 0)), (2, .inl (3, 0)), (3, .inl (4, 0))], [], ([(1, (0, 0), .inl (5, 0)), (1, (0, 14), .inr (.inl (some 6))), (6, (0, 1), .inl (7, 0))], [], []), [(0, 0), (1180591620717411303424, 1180591620717411303424), (1, 7), (7, 7), (0, 6), (0, 0), (1180591620717411303425, 1180591620717411303425), (7, 8)], 0, 0), ([], 75)),
  ((21, [(0, .inr (.inl (some 1))), (1, .inl (2, 0)), (2, .inl (3, 0)), (3, .inl (4, 0))], [], ([(1, (0, 0), .inl (5, 0)), (1, (0, 14), .inr (.inl (some 6))), (6, (0, 1), .inl (7, 0))], [], []), [(0, 0), (1180591620717411303424, 1180591620717411303424), (1, 5), (5, 5), (4, 4), (0, 0), (1180591620717411303425, 1180591620717411303425), (6, 8)], 0, 0), ([], 130)),
  ((21, [(0, .inr (.inl (some 1))), (1, .inl (2, 0)), (2, .inl (3, 0)), (3, .inl (4, 0))], [], ([(1, (0, 0), .inl (5, 0)), (1, (0, 14), .inr (.inl (some 6))), (6, (0, 1), .inl (7, 0))], [], []), [(0, 0), (1180591620717411303424, 1180591620717411303424), (1, 6), (6, 6), (2, 2), (0, 0), (1180591620717411303425, 1180591620717411303425), (7, 8)], 0, 0), ([], 88)),
  ((21, [(0, .inr (.inl (some 1))), (1, .inl (2, 0)), (2, .inl (3, 0)), (3, .inl (4, 0))], [], ([(1, (0, 0), .inl (4, 0)), (1, (0, 14), .inr (.inl (some 5))), (5, (0, 1), .inl (6, 0))], [], []), [(0, 0), (1180591620717411303424, 1180591620717411303424), (1, 7), (7, 7), (0, 0), (1180591620717411303425, 1180591620717411303425), (8, 8)], 0, 0), ([], 45)),
  ((21, [(0, .inr (.inl (some 1))), (1, .inl (2, 0)), (2, .inl (3, 0)), (3, .inl (3, 0))], [], ([(1, (0, 0), .inl (4, 0)), (1, (0, 14), .inr (.inl (some 5))), (5, (0, 1), .inl (6, 0))], [], []), [(0, 0), (1180591620717411303424, 1180591620717411303424), (1, 5), (5, 5), (0, 0), (1180591620717411303425, 1180591620717411303425), (6, 8)], 0, 0), ([], 129)),
  ((21, [(0, .inr (.inl (some 1))), (1, .inl (2, 0)), (2, .inl (3, 0)), (3, .inl (4, 0))], [], ([(1, (0, 0), .inl (5, 0)), (1, (0, 14), .inr (.inl (some 6))), (6, (0, 1), .inl (7, 0))], [], []), [(0, 0), (1180591620717411303424, 1180591620717411303424), (1, 6), (6, 6), (3, 3), (0, 0), (1180591620717411303425, 1180591620717411303425), (7, 8)], 0, 0), ([], 87)),
  ((21, [(0, .inr (.inl (some 1))), (1, .inl (2, 0)), (2, .inl (3, 0)), (3, .inl (4, 0))], [], ([(1, (0, 0), .inl (5, 0)), (1, (0, 14), .inr (.inl (some 6))), (6, (0, 1), .inl (7, 0))], [], []), [(0, 0), (1180591620717411303424, 1180591620717411303424), (1, 7), (7, 7), (1, 1), (0, 0), (1180591620717411303425, 1180591620717411303425), (8, 8)], 0, 0), ([], 44)),
  ((9, [(0, .inr (.inl (some 1))), (1, .inl (2, 0)), (2, .inl (3, 0)), (3, .inl (4, 0))], [], ([(1, (0, 0), .inl (5, 0)), (1, (0, 14), .inr (.inl (some 6))), (6, (0, 1), .inl (3, 0))], [], []), [(0, 0), (1180591620717411303424, 1180591620717411303424), (1, 8), (8, 8), (0, 7), (0, 0), (1180591620717411303425, 1180591620717411303425)], 0, 0), ([], 37)),
  ((21, [(0, .inr (.inl (some 1))), (1, .inl (2, 0)), (2, .inl (3, 0)), (3, .inl (4, 0))], [], ([(1, (0, 0), .inl (5, 0)), (1, (0, 14), .inr (.inl (some 6))), (6, (0, 1), .inl (7, 0))], [], []), [(0, 0), (1180591620717411303424, 1180591620717411303424), (1, 6), (6, 6), (4, 4), (0, 0), (1180591620717411303425, 1180591620717411303425), (7, 8)], 0, 0), ([], 86)),
  ((21, [(0, .inr (.inl (some 1))), (1, .inl (2, 0)), (2, .inl (3, 0)), (3, .inl (4, 0))], [], ([(1, (0, 0), .inl (5, 0)), (1, (0, 14), .inr (.inl (some 6))), (6, (0, 1), .inl (7, 0))], [], []), [(0, 0), (1180591620717411303424, 1180591620717411303424), (1, 7), (7, 7), (2, 2), (0, 0), (1180591620717411303425, 1180591620717411303425), (8, 8)], 0, 0), ([], 43)),
  ((21, [(0, .inr (.inl (some 1))), (1, .inl (2, 0)), (2, .inl (3, 0)), (3, .inl (4, 0))], [], ([(1, (0, 0), .inl (5, 0)), (1, (0, 14), .inr (.inl (some 6))), (6, (0, 1), .inl (7, 0))], [], []), [(0, 0), (1180591620717411303424, 1180591620717411303424), (1, 6), (6, 6), (5, 5), (0, 0), (1180591620717411303425, 1180591620717411303425), (7, 8)], 0, 0), ([], 85)),
  ((21, [(0, .inr (.inl (some 1))), (1, .inl (2, 0)), (2, .inl (3, 0)), (3, .inl (4, 0))], [], ([(1, (0, 0), .inl (5, 0)), (1, (0, 14), .inr (.inl (some 6))), (6, (0, 1), .inl (7, 0))], [], []), [(0, 0), (1180591620717411303424, 1180591620717411303424), (1, 7), (7, 7), (3, 3), (0, 0), (1180591620717411303425, 1180591620717411303425), (8, 8)], 0, 0), ([], 42)),
  ((21, [(0, .inr (.inl (some 1))), (1, .inl (2, 0)), (2, .inl (3, 0)), (3, .inl (3, 0))], [], ([(1, (0, 0), .inl (4, 0)), (1, (0, 14), .inr (.inl (some 5))), (5, (0, 1), .inl (6, 0))], [], []), [(0, 0), (1180591620717411303424, 1180591620717411303424), (1, 6), (6, 6), (0, 0), (1180591620717411303425, 1180591620717411303425), (7, 8)], 0, 0), ([], 84)),
  ((21, [(0, .inr (.inl (some 1))), (1, .inl (2, 0)), (2, .inl (3, 0)), (3, .inl (4, 0))], [], ([(1, (0, 0), .inl (5, 0)), (1, (0, 14), .inr (.inl (some 6))), (6, (0, 1), .inl (7, 0))], [], []), [(0, 0), (1180591620717411303424, 1180591620717411303424), (1, 7), (7, 7), (4, 4), (0, 0), (1180591620717411303425, 1180591620717411303425), (8, 8)], 0, 0), ([], 41)),
  ((21, [(0, .inr (.inl (some 1))), (1, .inl (2, 0)), (2, .inl (3, 0)), (3, .inl (4, 0))], [], ([(1, (0, 0), .inl (5, 0)), (1, (0, 14), .inr (.inl (some 6))), (6, (0, 1), .inl (7, 0))], [], []), [(0, 0), (1180591620717411303424, 1180591620717411303424), (1, 7), (7, 7), (5, 5), (0, 0), (1180591620717411303425, 1180591620717411303425), (8, 8)], 0, 0), ([], 40)),
  ((21, [(0, .inr (.inl (some 1))), (1, .inl (2, 0)), (2, .inl (3, 0)), (3, .inl (4, 0))], [], ([(1, (0, 0), .inl (5, 0)), (1, (0, 14), .inr (.inl (some 6))), (6, (0, 1), .inl (7, 0))], [], []), [(0, 0), (1180591620717411303424, 1180591620717411303424), (1, 7), (7, 7), (6, 6), (0, 0), (1180591620717411303425, 1180591620717411303425), (8, 8)], 0, 0), ([], 39)),
  ((21, [(0, .inr (.inl (some 1))), (1, .inl (2, 0)), (2, .inl (3, 0)), (3, .inl (3, 0))], [], ([(1, (0, 0), .inl (4, 0)), (1, (0, 14), .inr (.inl (some 5))), (5, (0, 1), .inl (6, 0))], [], []), [(0, 0), (1180591620717411303424, 1180591620717411303424), (1, 7), (7, 7), (0, 0), (1180591620717411303425, 1180591620717411303425), (8, 8)], 0, 0), ([], 38))]
def T_X12_kinds_1 : List (tb_S × tb_l) := T_X12_kinds_1_0 ++ []
set_option maxRecDepth 200000 in
set_option maxHeartbeats 4000000 in
theorem c_X12_kinds_1_0 : tb_ckl K_X12_kinds_1 T_X12_kinds_1 [9, 21] (t_X12_kinds [(0, 0, 0)] [K_X12_areAlike_2, K_X12_areAlike_3, K_X12_areAlike_4, K_X12_areAlike_5, K_X12_areAlike_6, K_X12_areAlike_7, K_X12_areAlike_8, K_X12_areAlike_9, K_X12_areAlike_10, K_X12_areAlike_11, K_X12_areAlike_12, K_X12_areAlike_13, K_X12_areAlike_14, K_X12_areAlike_15, K_X12_areAlike_16, K_X12_areAlike_17, K_X12_areAlike_18, K_X12_areAlike_19, K_X12_areAlike_20, K_X12_areAlike_21, K_X12_areAlike_22, K_X12_areAlike_23, K_X12_areAlike_24, K_X12_areAlike_25, K_X12_areAlike_26, K_X12_areAlike_27, K_X12_areAlike_28, K_X12_areAlike_29, K_X12_areAlike_30, K_X12_areAlike_31, K_X12_areAlike_32, K_X12_areAlike_33, K_X12_areAlike_34, K_X12_areAlike_35, K_X12_areAlike_36, K_X12_areAlike_37]) (tb_fin tb_Z0 [51] (some .int) K_X12_kinds_1) 6000 T_X12_kinds_1_0 [[1], [2], [3], [4, 5], [5], [6], [7, 8], [8, 9], [10], [8], [11, 12], [12, 13], [14], [12, 15], [16, 17], [12], [17, 18], [19], [17, 20], [21, 22], [17, 23], [22, 24], [25], [17], [22, 26], [27, 28], [22, 29], [28, 30], [31], [22, 32], [28, 33], [34, 35], [22], [28, 36], [35, 37], [], [28, 38], [35, 39], [28, 40], [35, 41], [28], [35, 42], [35, 43], [35, 44], [35]] = true := by decide +kernel
set_option maxRecDepth 200000 in
set_option maxHeartbeats 4000000 in
theorem c_X12_kinds_1_z : tb_ck0c K_X12_kinds_1 T_X12_kinds_1 [9, 21] (t_X12_kinds [(0, 0, 0)] [K_X12_areAlike_2, K_X12_areAlike_3, K_X12_areAlike_4, K_X12_areAlike_5, K_X12_areAlike_6, K_X12_areAlike_7, K_X12_areAlike_8, K_X12_areAlike_9, K_X12_areAlike_10, K_X12_areAlike_11, K_X12_areAlike_12, K_X12_areAlike_13, K_X12_areAlike_14, K_X12_areAlike_15, K_X12_areAlike_16, K_X12_areAlike_17, K_X12_areAlike_18, K_X12_areAlike_19, K_X12_areAlike_20, K_X12_areAlike_21, K_X12_areAlike_22, K_X12_areAlike_23, K_X12_areAlike_24, K_X12_areAlike_25, K_X12_areAlike_26, K_X12_areAlike_27, K_X12_areAlike_28, K_X12_areAlike_29, K_X12_areAlike_30, K_X12_areAlike_31, K_X12_areAlike_32, K_X12_areAlike_33, K_X12_areAlike_34, K_X12_areAlike_35, K_X12_areAlike_36, K_X12_areAlike_37]) (tb_fin tb_Z0 [51] (some .int) K_X12_kinds_1) 6000 [0] = true := by decide +kernel
set_option maxRecDepth 200000 in
set_option maxHeartbeats 4000000 in
theorem m_X12_kinds_1 {l : Launch} : tb_Met l vwCl sa_Ts tb_Z0 yX12_kinds cX12_kinds 4 (some .int) 3 142 K_X12_kinds_1 := tb_method (by decide) [51] (t_X12_kinds [(0, 0, 0)] [K_X12_areAlike_2, K_X12_areAlike_3, K_X12_areAlike_4, K_X12_areAlike_5, K_X12_areAlike_6, K_X12_areAlike_7, K_X12_areAlike_8, K_X12_areAlike_9, K_X12_areAlike_10, K_X12_areAlike_11, K_X12_areAlike_12, K_X12_areAlike_13, K_X12_areAlike_14, K_X12_areAlike_15, K_X12_areAlike_16, K_X12_areAlike_17, K_X12_areAlike_18, K_X12_areAlike_19, K_X12_areAlike_20, K_X12_areAlike_21, K_X12_areAlike_22, K_X12_areAlike_23, K_X12_areAlike_24, K_X12_areAlike_25, K_X12_areAlike_26, K_X12_areAlike_27, K_X12_areAlike_28, K_X12_areAlike_29, K_X12_areAlike_30, K_X12_areAlike_31, K_X12_areAlike_32, K_X12_areAlike_33, K_X12_areAlike_34, K_X12_areAlike_35, K_X12_areAlike_36, K_X12_areAlike_37]) T_X12_kinds_1 [9, 21] 6000 (List.forall_mem_cons.mpr ⟨dX12_kinds_51, fun _ h => absurd h List.not_mem_nil⟩) (h_X12_kinds [(0, 0, 0)] 3 142 (by decide) (by decide) [K_X12_areAlike_2, K_X12_areAlike_3, K_X12_areAlike_4, K_X12_areAlike_5, K_X12_areAlike_6, K_X12_areAlike_7, K_X12_areAlike_8, K_X12_areAlike_9, K_X12_areAlike_10, K_X12_areAlike_11, K_X12_areAlike_12, K_X12_areAlike_13, K_X12_areAlike_14, K_X12_areAlike_15, K_X12_areAlike_16, K_X12_areAlike_17, K_X12_areAlike_18, K_X12_areAlike_19, K_X12_areAlike_20, K_X12_areAlike_21, K_X12_areAlike_22, K_X12_areAlike_23, K_X12_areAlike_24, K_X12_areAlike_25, K_X12_areAlike_26, K_X12_areAlike_27, K_X12_areAlike_28, K_X12_areAlike_29, K_X12_areAlike_30, K_X12_areAlike_31, K_X12_areAlike_32, K_X12_areAlike_33, K_X12_areAlike_34, K_X12_areAlike_35, K_X12_areAlike_36, K_X12_areAlike_37] ⟨2, 120, List.forall_mem_cons.mpr ⟨m_X12_areAlike_2, List.forall_mem_cons.mpr ⟨m_X12_areAlike_3, List.forall_mem_cons.mpr ⟨m_X12_areAlike_4, List.forall_mem_cons.mpr ⟨m_X12_areAlike_5, List.forall_mem_cons.mpr ⟨m_X12_areAlike_6, List.forall_mem_cons.mpr ⟨m_X12_areAlike_7, List.forall_mem_cons.mpr ⟨m_X12_areAlike_8, List.forall_mem_cons.mpr ⟨m_X12_areAlike_9, List.forall_mem_cons.mpr ⟨m_X12_areAlike_10, List.forall_mem_cons.mpr ⟨m_X12_areAlike_11, List.forall_mem_cons.mpr ⟨m_X12_areAlike_12, List.forall_mem_cons.mpr ⟨m_X12_areAlike_13, List.forall_mem_cons.mpr ⟨m_X12_areAlike_14, List.forall_mem_cons.mpr ⟨m_X12_areAlike_15, List.forall_mem_cons.mpr ⟨m_X12_areAlike_16, List.forall_mem_cons.mpr ⟨m_X12_areAlike_17, List.forall_mem_cons.mpr ⟨m_X12_areAlike_18, List.forall_mem_cons.mpr ⟨m_X12_areAlike_19, List.forall_mem_cons.mpr ⟨m_X12_areAlike_20, List.forall_mem_cons.mpr ⟨m_X12_areAlike_21, List.forall_mem_cons.mpr ⟨m_X12_areAlike_22, List.forall_mem_cons.mpr ⟨m_X12_areAlike_23, List.forall_mem_cons.mpr ⟨m_X12_areAlike_24, List.forall_mem_cons.mpr ⟨m_X12_areAlike_25, List.forall_mem_cons.mpr ⟨m_X12_areAlike_26, List.forall_mem_cons.mpr ⟨m_X12_areAlike_27, List.forall_mem_cons.mpr ⟨m_X12_areAlike_28, List.forall_mem_cons.mpr ⟨m_X12_areAlike_29, List.forall_mem_cons.mpr ⟨m_X12_areAlike_30, List.forall_mem_cons.mpr ⟨m_X12_areAlike_31, List.forall_mem_cons.mpr ⟨m_X12_areAlike_32, List.forall_mem_cons.mpr ⟨m_X12_areAlike_33, List.forall_mem_cons.mpr ⟨m_X12_areAlike_34, List.forall_mem_cons.mpr ⟨m_X12_areAlike_35, List.forall_mem_cons.mpr ⟨m_X12_areAlike_36, List.forall_mem_cons.mpr ⟨m_X12_areAlike_37, fun _ h => absurd h List.not_mem_nil⟩⟩⟩⟩⟩⟩⟩⟩⟩⟩⟩⟩⟩⟩⟩⟩⟩⟩⟩⟩⟩⟩⟩⟩⟩⟩⟩⟩⟩⟩⟩⟩⟩⟩⟩⟩, by decide, by decide, by decide⟩) (by decide) (tb_chk_of (tb_ckl_app c_X12_kinds_1_0 (fun _ h => absurd h List.not_mem_nil)) (tb_ck0c_ok c_X12_kinds_1_z))
noncomputable def t_J_bitCount (mod : List (Nat × Nat × Nat))  : List (Nat × tb_op) := [(0, to_then 1 (to_iload 0 1) (to_then 2 (to_iload 0 1) (to_then 3 (to_int (1) 1) (to_bin tf_ushr)))), (4, to_int (1431655765) 3), (7, to_bin tf_and), (8, to_sub), (9, to_istore 1 0 1), (10, to_then 11 (to_iload 0 1) (to_int (858993459) 3)), (14, to_bin tf_and), (15, to_then 16 (to_iload 0 1) (to_then 17 (to_int (2) 1) (to_bin tf_ushr))), (18, to_int (858993459) 3), (21, to_bin tf_and), (22, to_bin tf_add), (23, to_istore 1 0 1), (24, to_then 25 (to_iload 0 1) (to_then 26 (to_iload 0 1) (to_then 27 (to_int (4) 1) (to_bin tf_ushr)))), (28, to_bin tf_add), (29, to_int (252645135) 3), (32, to_bin tf_and), (33, to_istore 1 0 1), (34, to_then 35 (to_iload 0 1) (to_then 36 (to_iload 0 1) (to_then 38 (to_int (8) 2) (to_bin tf_ushr)))), (39, to_bin tf_add), (40, to_istore 1 0 1), (41, to_then 42 (to_iload 0 1) (to_then 43 (to_iload 0 1) (to_then 45 (to_int (16) 2) (to_bin tf_ushr)))), (46, to_bin tf_add), (47, to_istore 1 0 1), (48, to_then 49 (to_iload 0 1) (to_then 51 (to_int (63) 2) (to_bin tf_and)))]
set_option maxRecDepth 200000 in
set_option maxHeartbeats 4000000 in
theorem h_J_bitCount {l : Launch} (mod : List (Nat × Nat × Nat)) (fr lc : Nat) (hfr : 1 + 1 ≤ fr) (hlc : 8 + (2 + 11) + 20 ≤ lc)   : ∀ (p : Program) (e : Env) (s : State) (m : MethodId) (args : Array Value) (below : List Frame) (meth : Method) (c : Code) (Q : State → Prop) (D : va_G) (dA : Nat → ClassId) (A : Nat → Prop) (n0 : Nat) (V0 : sa_V) (E : tb_E), sa_C p s m args c D dA A 1 vwCl sa_Ts cJ_bitCount yJ_bitCount.cls → sa_U D vwCl dA s → tb_Ou A s s.heap → tb_z E = tb_Z0 → tb_mod E = mod → ∀ q ∈ t_J_bitCount mod , tb_snd p l e { frames := fr, cells := 0, slots := 0, locals := lc } s m args below meth c Q D dA A 1 vwCl n0 V0 E q.1 q.2 := fun p e s m args below meth c Q D dA A n0 V0 E C0 hU hO hz hm => List.forall_mem_cons.mpr ⟨tn_then (tn_iload_n C0 dJ_bitCount_0) (tn_then (tn_iload_n C0 dJ_bitCount_1) (tn_then (tn_iconst C0 dJ_bitCount_2) (tn_iushr C0 tf_ushr_ok dJ_bitCount_3))), List.forall_mem_cons.mpr ⟨tn_ldcw C0 dJ_bitCount_4 tv_836, List.forall_mem_cons.mpr ⟨tn_iand C0 tf_and_ok dJ_bitCount_7, List.forall_mem_cons.mpr ⟨tn_sub C0 dJ_bitCount_8, List.forall_mem_cons.mpr ⟨tn_istore_n C0 dJ_bitCount_9, List.forall_mem_cons.mpr ⟨tn_then (tn_iload_n C0 dJ_bitCount_10) (tn_ldcw C0 dJ_bitCount_11 tv_837), List.forall_mem_cons.mpr ⟨tn_iand C0 tf_and_ok dJ_bitCount_14, List.forall_mem_cons.mpr ⟨tn_then (tn_iload_n C0 dJ_bitCount_15) (tn_then (tn_iconst C0 dJ_bitCount_16) (tn_iushr C0 tf_ushr_ok dJ_bitCount_17)), List.forall_mem_cons.mpr ⟨tn_ldcw C0 dJ_bitCount_18 tv_837, List.forall_mem_cons.mpr ⟨tn_iand C0 tf_and_ok dJ_bitCount_21, List.forall_mem_cons.mpr ⟨tn_iadd C0 tf_add_ok dJ_bitCount_22, List.forall_mem_cons.mpr ⟨tn_istore_n C0 dJ_bitCount_23, List.forall_mem_cons.mpr ⟨tn_then (tn_iload_n C0 dJ_bitCount_24) (tn_then (tn_iload_n C0 dJ_bitCount_25) (tn_then (tn_iconst C0 dJ_bitCount_26) (tn_iushr C0 tf_ushr_ok dJ_bitCount_27))), List.forall_mem_cons.mpr ⟨tn_iadd C0 tf_add_ok dJ_bitCount_28, List.forall_mem_cons.mpr ⟨tn_ldcw C0 dJ_bitCount_29 tv_838, List.forall_mem_cons.mpr ⟨tn_iand C0 tf_and_ok dJ_bitCount_32, List.forall_mem_cons.mpr ⟨tn_istore_n C0 dJ_bitCount_33, List.forall_mem_cons.mpr ⟨tn_then (tn_iload_n C0 dJ_bitCount_34) (tn_then (tn_iload_n C0 dJ_bitCount_35) (tn_then (tn_bipush C0 dJ_bitCount_36 (by decide)) (tn_iushr C0 tf_ushr_ok dJ_bitCount_38))), List.forall_mem_cons.mpr ⟨tn_iadd C0 tf_add_ok dJ_bitCount_39, List.forall_mem_cons.mpr ⟨tn_istore_n C0 dJ_bitCount_40, List.forall_mem_cons.mpr ⟨tn_then (tn_iload_n C0 dJ_bitCount_41) (tn_then (tn_iload_n C0 dJ_bitCount_42) (tn_then (tn_bipush C0 dJ_bitCount_43 (by decide)) (tn_iushr C0 tf_ushr_ok dJ_bitCount_45))), List.forall_mem_cons.mpr ⟨tn_iadd C0 tf_add_ok dJ_bitCount_46, List.forall_mem_cons.mpr ⟨tn_istore_n C0 dJ_bitCount_47, List.forall_mem_cons.mpr ⟨tn_then (tn_iload_n C0 dJ_bitCount_48) (tn_then (tn_bipush C0 dJ_bitCount_49 (by decide)) (tn_iand C0 tf_and_ok dJ_bitCount_51)), fun _ h => absurd h List.not_mem_nil⟩⟩⟩⟩⟩⟩⟩⟩⟩⟩⟩⟩⟩⟩⟩⟩⟩⟩⟩⟩⟩⟩⟩⟩
set_option maxRecDepth 200000 in
set_option maxHeartbeats 4000000 in
def K_J_bitCount_1 : tb_K := ([.inl (1, 0)], [], [], [(0, 0), (-2147483648, 2147483647)], [(some (.inl (2, 0)), [], [], [(0, 0), (-2147483648, 2147483647), (0, 63)])], [])
set_option maxRecDepth 200000 in
set_option maxHeartbeats 4000000 in
def T_J_bitCount_1 : List (tb_S × tb_l) := []
set_option maxRecDepth 200000 in
set_option maxHeartbeats 4000000 in
theorem m_J_bitCount_1 {l : Launch} : tb_Met l vwCl sa_Ts tb_Z0 yJ_bitCount cJ_bitCount 1 (some .int) 2 120 K_J_bitCount_1 := tb_method (by decide) [52] (t_J_bitCount [] ) T_J_bitCount_1 [] 6000 (List.forall_mem_cons.mpr ⟨dJ_bitCount_52, fun _ h => absurd h List.not_mem_nil⟩) (h_J_bitCount [] 2 120 (by decide) (by decide)  ) (by decide) (by decide +kernel)
noncomputable def t_X2_mostLeft (mod : List (Nat × Nat × Nat)) (L10 : List tb_K) (L48 : List tb_K) (L52 : List tb_K) : List (Nat × tb_op) := [(0, to_then 1 (to_iload 2 1) (to_then 2 (to_aload 0 1) (to_get tb_Z0 [] 2 6))), (5, to_then 6 (to_iload 1 1) (to_ald tb_Z0 [] 0)), (7, to_then 8 (to_int (-1) 1) (to_bin (sf_cc (fun x y => x ^^^ y)))), (9, to_bin tf_and), (10, to_cs tb_Z0 mod (tb_gS 0 0) L10), (13, to_istore 5 3 1), (14, to_then 15 (to_int (0) 1) (to_istore 5 4 2)), (17, to_then 19 (to_iload 4 2) (to_then 20 (to_aload 0 1) (to_get tb_Z0 [] 2 14))), (23, to_icmp (sr_flip tr_le) tr_lt 65), (26, to_then 27 (to_iload 2 1) (to_then 28 (to_aload 0 1) (to_get tb_Z0 [] 2 6))), (31, to_then 32 (to_iload 1 1) (to_ald tb_Z0 [] 0)), (33, to_bin tf_and), (34, to_then 36 (to_iload 4 2) (to_hasA 0 0)), (39, to_then 40 (to_int (1) 1) (to_icmp tr_ne tr_eq 59)), (43, to_then 44 (to_iload 3 1) (to_then 45 (to_iload 2 1) (to_then 46 (to_aload 0 1) (to_then 48 (to_iload 4 2) (to_cs tb_Z0 mod (tb_gV tb_Z0 2 2 0 0) L48))))), (51, to_bin tf_and), (52, to_cs tb_Z0 mod (tb_gS 0 0) L52), (55, to_max 0 0), (58, to_istore 5 3 1), (59, to_inc 5 4 (1)), (62, to_goto 17), (65, to_iload 3 1)]
set_option maxRecDepth 200000 in
set_option maxHeartbeats 4000000 in
theorem h_X2_mostLeft {l : Launch} (mod : List (Nat × Nat × Nat)) (fr lc : Nat) (hfr : 1 + 1 ≤ fr) (hlc : 8 + (2 + 11) + 20 ≤ lc) (L10 : List tb_K) (L48 : List tb_K) (L52 : List tb_K) (h10 : tb_ML l yJ_bitCount cJ_bitCount 1 (some .int) fr lc 1 L10) (h48 : tb_ML l yX2_lookingLike cX2_lookingLike 2 (some .int) fr lc 2 L48) (h52 : tb_ML l yJ_bitCount cJ_bitCount 1 (some .int) fr lc 1 L52) : ∀ (p : Program) (e : Env) (s : State) (m : MethodId) (args : Array Value) (below : List Frame) (meth : Method) (c : Code) (Q : State → Prop) (D : va_G) (dA : Nat → ClassId) (A : Nat → Prop) (n0 : Nat) (V0 : sa_V) (E : tb_E), sa_C p s m args c D dA A 5 vwCl sa_Ts cX2_mostLeft yX2_mostLeft.cls → sa_U D vwCl dA s → tb_Ou A s s.heap → tb_z E = tb_Z0 → tb_mod E = mod → ∀ q ∈ t_X2_mostLeft mod L10 L48 L52, tb_snd p l e { frames := fr, cells := 0, slots := 0, locals := lc } s m args below meth c Q D dA A 5 vwCl n0 V0 E q.1 q.2 := fun p e s m args below meth c Q D dA A n0 V0 E C0 hU hO hz hm => List.forall_mem_cons.mpr ⟨tn_then (tn_iload_n C0 dX2_mostLeft_0) (tn_then (tn_aload_n C0 dX2_mostLeft_1) (tn_get C0 hz hcv0 kcX2 dX2_mostLeft_2 (by decide) tv_78)), List.forall_mem_cons.mpr ⟨tn_then (tn_iload_n C0 dX2_mostLeft_5) (tn_iald C0 hz hcv0 dX2_mostLeft_6), List.forall_mem_cons.mpr ⟨tn_then (tn_iconst C0 dX2_mostLeft_7) (tn_ixor C0 (sf_cc_ok _) dX2_mostLeft_8), List.forall_mem_cons.mpr ⟨tn_iand C0 tf_and_ok dX2_mostLeft_9, List.forall_mem_cons.mpr ⟨tn_cS C0 hz hm hU hO h10 tv_835 dX2_mostLeft_10 tv_833 tv_834 tv_20 yb_J_bitCount (Nat.le_refl _) (Nat.le_refl _), List.forall_mem_cons.mpr ⟨tn_istore_n C0 dX2_mostLeft_13, List.forall_mem_cons.mpr ⟨tn_then (tn_iconst C0 dX2_mostLeft_14) (tn_istore C0 dX2_mostLeft_15), List.forall_mem_cons.mpr ⟨tn_then (tn_iload C0 dX2_mostLeft_17) (tn_then (tn_aload_n C0 dX2_mostLeft_19) (tn_get C0 hz hcv0 kcX2 dX2_mostLeft_20 (by decide) tv_101)), List.forall_mem_cons.mpr ⟨tx_icmp_ge C0 dX2_mostLeft_23 (by decide), List.forall_mem_cons.mpr ⟨tn_then (tn_iload_n C0 dX2_mostLeft_26) (tn_then (tn_aload_n C0 dX2_mostLeft_27) (tn_get C0 hz hcv0 kcX2 dX2_mostLeft_28 (by decide) tv_78)), List.forall_mem_cons.mpr ⟨tn_then (tn_iload_n C0 dX2_mostLeft_31) (tn_iald C0 hz hcv0 dX2_mostLeft_32), List.forall_mem_cons.mpr ⟨tn_iand C0 tf_and_ok dX2_mostLeft_33, List.forall_mem_cons.mpr ⟨tn_then (tn_iload C0 dX2_mostLeft_34) (tn_hasASN C0 hU sa_Tg (pu_X11_bit (l := l)) tv_589 dX2_mostLeft_36 nl_15 tv_588 tv_1 yb_X11_bit ⟨hfr, hlc⟩ (Nat.le_refl _) (Nat.le_refl _)), List.forall_mem_cons.mpr ⟨tn_then (tn_iconst C0 dX2_mostLeft_39) (tx_icmp_ne C0 dX2_mostLeft_40 (by decide)), List.forall_mem_cons.mpr ⟨tn_then (tn_iload_n C0 dX2_mostLeft_43) (tn_then (tn_iload_n C0 dX2_mostLeft_44) (tn_then (tn_aload_n C0 dX2_mostLeft_45) (tn_then (tn_iload C0 dX2_mostLeft_46) (tn_cV C0 hz hm hU hO h48 tv_819 dX2_mostLeft_48 tv_839 tv_817 tv_818 tv_4 rfl yb_X2_lookingLike (Nat.le_refl _) (Nat.le_refl _))))), List.forall_mem_cons.mpr ⟨tn_iand C0 tf_and_ok dX2_mostLeft_51, List.forall_mem_cons.mpr ⟨tn_cS C0 hz hm hU hO h52 tv_835 dX2_mostLeft_52 tv_833 tv_834 tv_20 yb_J_bitCount (Nat.le_refl _) (Nat.le_refl _), List.forall_mem_cons.mpr ⟨tn_max C0 dX2_mostLeft_55 tv_801 tv_802 tv_19 tv_803 (Nat.le_trans (by decide) hfr) (Nat.le_trans (by decide) hlc) (Nat.zero_le _) (Nat.zero_le _), List.forall_mem_cons.mpr ⟨tn_istore_n C0 dX2_mostLeft_58, List.forall_mem_cons.mpr ⟨tn_inc C0 dX2_mostLeft_59, List.forall_mem_cons.mpr ⟨tn_goto C0 dX2_mostLeft_62 (by decide), List.forall_mem_cons.mpr ⟨tn_iload_n C0 dX2_mostLeft_65, fun _ h => absurd h List.not_mem_nil⟩⟩⟩⟩⟩⟩⟩⟩⟩⟩⟩⟩⟩⟩⟩⟩⟩⟩⟩⟩⟩⟩
set_option maxRecDepth 200000 in
set_option maxHeartbeats 4000000 in
def K_X2_mostLeft_1 : tb_K := ([.inr (.inl (some 1)), .inl (2, 0), .inl (3, 0)], [], [], [(0, 0), (1180591620717411303452, 1180591620717411303452), (0, 0), (-2147483648, (-1))], [(some (.inl (4, 0)), [], [], [(0, 0), (1180591620717411303452, 1180591620717411303452), (0, 0), (-2147483648, (-1)), (0, 63)])], [])
set_option maxRecDepth 200000 in
set_option maxHeartbeats 4000000 in
def T_X2_mostLeft_1 : List (tb_S × tb_l) := [((17, [(0, .inr (.inl (some 1))), (1, .inl (2, 0)), (2, .inl (3, 0)), (3, .inl (4, 0)), (4, .inl (5, 0))], [], ([(1, (0, 6), .inr (.inl (some 6))), (6, (2, 0), .inl (7, 0))], [], []), [(0, 0), (1180591620717411303452, 1180591620717411303452), (0, 0), (-2147483648, (-1)), (0, 63), (0, 8), (1180591620717411303459, 1180591620717411303459), (-2147483648, 2147483647)], 0, 0), ([(5, (-1))], 8))]
set_option maxRecDepth 200000 in
set_option maxHeartbeats 4000000 in
theorem m_X2_mostLeft_1 {l : Launch} : tb_Met l vwCl sa_Ts tb_Z0 yX2_mostLeft cX2_mostLeft 5 (some .int) 4 166 K_X2_mostLeft_1 := tb_method (by decide) [66] (t_X2_mostLeft [] [K_J_bitCount_1] [K_X2_lookingLike_1] [K_J_bitCount_1]) T_X2_mostLeft_1 [17] 6000 (List.forall_mem_cons.mpr ⟨dX2_mostLeft_66, fun _ h => absurd h List.not_mem_nil⟩) (h_X2_mostLeft [] 4 166 (by decide) (by decide) [K_J_bitCount_1] [K_X2_lookingLike_1] [K_J_bitCount_1] ⟨2, 120, List.forall_mem_cons.mpr ⟨m_J_bitCount_1, fun _ h => absurd h List.not_mem_nil⟩, by decide, by decide, by decide⟩ ⟨3, 145, List.forall_mem_cons.mpr ⟨m_X2_lookingLike_1, fun _ h => absurd h List.not_mem_nil⟩, by decide, by decide, by decide⟩ ⟨2, 120, List.forall_mem_cons.mpr ⟨m_J_bitCount_1, fun _ h => absurd h List.not_mem_nil⟩, by decide, by decide, by decide⟩) (by decide) (by decide +kernel)
set_option maxRecDepth 200000 in
set_option maxHeartbeats 4000000 in
def K_X2_mostLeft_2 : tb_K := ([.inr (.inl (some 1)), .inl (2, 0), .inl (3, 0)], [], [], [(0, 0), (1180591620717411303452, 1180591620717411303452), (0, 0), (1, 2147483647)], [(some (.inl (4, 0)), [], [], [(0, 0), (1180591620717411303452, 1180591620717411303452), (0, 0), (1, 2147483647), (0, 63)])], [])
set_option maxRecDepth 200000 in
set_option maxHeartbeats 4000000 in
def T_X2_mostLeft_2 : List (tb_S × tb_l) := [((17, [(0, .inr (.inl (some 1))), (1, .inl (2, 0)), (2, .inl (3, 0)), (3, .inl (4, 0)), (4, .inl (5, 0))], [], ([(1, (0, 6), .inr (.inl (some 6))), (6, (2, 0), .inl (7, 0))], [], []), [(0, 0), (1180591620717411303452, 1180591620717411303452), (0, 0), (1, 2147483647), (0, 63), (0, 8), (1180591620717411303459, 1180591620717411303459), (-2147483648, 2147483647)], 0, 0), ([(5, (-1))], 8))]
set_option maxRecDepth 200000 in
set_option maxHeartbeats 4000000 in
theorem m_X2_mostLeft_2 {l : Launch} : tb_Met l vwCl sa_Ts tb_Z0 yX2_mostLeft cX2_mostLeft 5 (some .int) 4 166 K_X2_mostLeft_2 := tb_method (by decide) [66] (t_X2_mostLeft [] [K_J_bitCount_1] [K_X2_lookingLike_1] [K_J_bitCount_1]) T_X2_mostLeft_2 [17] 6000 (List.forall_mem_cons.mpr ⟨dX2_mostLeft_66, fun _ h => absurd h List.not_mem_nil⟩) (h_X2_mostLeft [] 4 166 (by decide) (by decide) [K_J_bitCount_1] [K_X2_lookingLike_1] [K_J_bitCount_1] ⟨2, 120, List.forall_mem_cons.mpr ⟨m_J_bitCount_1, fun _ h => absurd h List.not_mem_nil⟩, by decide, by decide, by decide⟩ ⟨3, 145, List.forall_mem_cons.mpr ⟨m_X2_lookingLike_1, fun _ h => absurd h List.not_mem_nil⟩, by decide, by decide, by decide⟩ ⟨2, 120, List.forall_mem_cons.mpr ⟨m_J_bitCount_1, fun _ h => absurd h List.not_mem_nil⟩, by decide, by decide, by decide⟩) (by decide) (by decide +kernel)
set_option maxRecDepth 200000 in
set_option maxHeartbeats 4000000 in
def K_X2_mostLeft_3 : tb_K := ([.inr (.inl (some 1)), .inl (2, 0), .inl (3, 0)], [], [], [(0, 0), (1180591620717411303452, 1180591620717411303452), (1, 5), (-2147483648, 2147483647)], [(some (.inl (4, 0)), [], [], [(0, 0), (1180591620717411303452, 1180591620717411303452), (1, 5), (-2147483648, 2147483647), (0, 63)])], [])
set_option maxRecDepth 200000 in
set_option maxHeartbeats 4000000 in
def T_X2_mostLeft_3 : List (tb_S × tb_l) := [((17, [(0, .inr (.inl (some 1))), (1, .inl (2, 0)), (2, .inl (3, 0)), (3, .inl (4, 0)), (4, .inl (5, 0))], [], ([(1, (0, 6), .inr (.inl (some 6))), (6, (2, 0), .inl (7, 0))], [], []), [(0, 0), (1180591620717411303452, 1180591620717411303452), (1, 5), (-2147483648, 2147483647), (0, 63), (0, 8), (1180591620717411303459, 1180591620717411303459), (-2147483648, 2147483647)], 0, 0), ([(5, (-1))], 8))]
set_option maxRecDepth 200000 in
set_option maxHeartbeats 4000000 in
theorem m_X2_mostLeft_3 {l : Launch} : tb_Met l vwCl sa_Ts tb_Z0 yX2_mostLeft cX2_mostLeft 5 (some .int) 4 166 K_X2_mostLeft_3 := tb_method (by decide) [66] (t_X2_mostLeft [] [K_J_bitCount_1] [K_X2_lookingLike_1] [K_J_bitCount_1]) T_X2_mostLeft_3 [17] 6000 (List.forall_mem_cons.mpr ⟨dX2_mostLeft_66, fun _ h => absurd h List.not_mem_nil⟩) (h_X2_mostLeft [] 4 166 (by decide) (by decide) [K_J_bitCount_1] [K_X2_lookingLike_1] [K_J_bitCount_1] ⟨2, 120, List.forall_mem_cons.mpr ⟨m_J_bitCount_1, fun _ h => absurd h List.not_mem_nil⟩, by decide, by decide, by decide⟩ ⟨3, 145, List.forall_mem_cons.mpr ⟨m_X2_lookingLike_1, fun _ h => absurd h List.not_mem_nil⟩, by decide, by decide, by decide⟩ ⟨2, 120, List.forall_mem_cons.mpr ⟨m_J_bitCount_1, fun _ h => absurd h List.not_mem_nil⟩, by decide, by decide, by decide⟩) (by decide) (by decide +kernel)
noncomputable def t_X11_look (mod : List (Nat × Nat × Nat)) (L34 : List tb_K) (L55 : List tb_K) : List (Nat × tb_op) := [(0, to_then 1 (to_aload 0 1) (to_get tb_Z0 [] 11 1)), (4, to_get tb_Z0 [] 10 0), (7, to_astore 7 2 1), (8, to_then 9 (to_iload 1 1) (to_if tr_eq tr_ne 27)), (12, to_then 13 (to_iload 1 1) (to_then 14 (to_int (1) 1) (to_then 15 (to_aload 2 1) (to_get tb_Z0 [] 2 14)))), (18, to_bin tf_shl), (19, to_then 20 (to_int (1) 1) (to_sub)), (21, to_then 22 (to_int (-1) 1) (to_bin (sf_cc (fun x y => x ^^^ y)))), (23, to_bin tf_and), (24, to_if tr_eq tr_ne 29), (27, to_int (-1) 1), (29, to_then 30 (to_int (0) 1) (to_istore 7 3 1)), (31, to_then 32 (to_aload 2 1) (to_then 33 (to_int (0) 1) (to_then 34 (to_iload 1 1) (to_cs tb_Z0 mod (tb_gV tb_Z0 2 3 0 0) L34)))), (37, to_istore 7 4 2), (39, to_then 40 (to_int (1) 1) (to_istore 7 5 2)), (42, to_then 44 (to_iload 5 2) (to_then 45 (to_aload 2 1) (to_get tb_Z0 [] 2 13))), (48, to_icmp (sr_flip tr_le) tr_lt 80), (51, to_then 52 (to_aload 2 1) (to_then 54 (to_iload 5 2) (to_then 55 (to_iload 1 1) (to_cs tb_Z0 mod (tb_gV tb_Z0 2 3 0 0) L55)))), (58, to_istore 7 6 2), (60, to_then 62 (to_iload 6 2) (to_then 64 (to_iload 4 2) (to_icmp (sr_flip tr_le) tr_lt 74))), (67, to_then 69 (to_iload 5 2) (to_istore 7 3 1)), (70, to_then 72 (to_iload 6 2) (to_istore 7 4 2)), (74, to_inc 7 5 (1)), (77, to_goto 42), (80, to_then 81 (to_aload 0 1) (to_then 83 (to_iload 4 2) (to_put tb_Z0 tb_RT0 mod [] 11 15 .int))), (86, to_iload 3 1)]
set_option maxRecDepth 200000 in
set_option maxHeartbeats 4000000 in
theorem h_X11_look {l : Launch} (mod : List (Nat × Nat × Nat)) (fr lc : Nat) (hfr : 1 + 1 ≤ fr) (hlc : 8 + (2 + 11) + 20 ≤ lc) (L34 : List tb_K) (L55 : List tb_K) (h34 : tb_ML l yX2_mostLeft cX2_mostLeft 5 (some .int) fr lc 3 L34) (h55 : tb_ML l yX2_mostLeft cX2_mostLeft 5 (some .int) fr lc 3 L55) : ∀ (p : Program) (e : Env) (s : State) (m : MethodId) (args : Array Value) (below : List Frame) (meth : Method) (c : Code) (Q : State → Prop) (D : va_G) (dA : Nat → ClassId) (A : Nat → Prop) (n0 : Nat) (V0 : sa_V) (E : tb_E), sa_C p s m args c D dA A 7 vwCl sa_Ts cX11_look yX11_look.cls → sa_U D vwCl dA s → tb_Ou A s s.heap → tb_z E = tb_Z0 → tb_mod E = mod → ∀ q ∈ t_X11_look mod L34 L55, tb_snd p l e { frames := fr, cells := 0, slots := 0, locals := lc } s m args below meth c Q D dA A 7 vwCl n0 V0 E q.1 q.2 := fun p e s m args below meth c Q D dA A n0 V0 E C0 hU hO hz hm => List.forall_mem_cons.mpr ⟨tn_then (tn_aload_n C0 dX11_look_0) (tn_get C0 hz hcv0 kcX11 dX11_look_1 (by decide) tv_423), List.forall_mem_cons.mpr ⟨tn_get C0 hz hcv0 kcX10 dX11_look_4 (by decide) tv_234, List.forall_mem_cons.mpr ⟨tn_astore_n C0 dX11_look_7, List.forall_mem_cons.mpr ⟨tn_then (tn_iload_n C0 dX11_look_8) (tx_if_eq C0 dX11_look_9 (by decide)), List.forall_mem_cons.mpr ⟨tn_then (tn_iload_n C0 dX11_look_12) (tn_then (tn_iconst C0 dX11_look_13) (tn_then (tn_aload_n C0 dX11_look_14) (tn_get C0 hz hcv0 kcX2 dX11_look_15 (by decide) tv_104))), List.forall_mem_cons.mpr ⟨tn_ishl C0 tf_shl_ok dX11_look_18, List.forall_mem_cons.mpr ⟨tn_then (tn_iconst C0 dX11_look_19) (tn_sub C0 dX11_look_20), List.forall_mem_cons.mpr ⟨tn_then (tn_iconst C0 dX11_look_21) (tn_ixor C0 (sf_cc_ok _) dX11_look_22), List.forall_mem_cons.mpr ⟨tn_iand C0 tf_and_ok dX11_look_23, List.forall_mem_cons.mpr ⟨tx_if_eq C0 dX11_look_24 (by decide), List.forall_mem_cons.mpr ⟨tn_iconst C0 dX11_look_27, List.forall_mem_cons.mpr ⟨tn_then (tn_iconst C0 dX11_look_29) (tn_istore_n C0 dX11_look_30), List.forall_mem_cons.mpr ⟨tn_then (tn_aload_n C0 dX11_look_31) (tn_then (tn_iconst C0 dX11_look_32) (tn_then (tn_iload_n C0 dX11_look_33) (tn_cV C0 hz hm hU hO h34 tv_832 dX11_look_34 tv_829 tv_830 tv_831 tv_4 rfl yb_X2_mostLeft (Nat.le_refl _) (Nat.le_refl _)))), List.forall_mem_cons.mpr ⟨tn_istore C0 dX11_look_37, List.forall_mem_cons.mpr ⟨tn_then (tn_iconst C0 dX11_look_39) (tn_istore C0 dX11_look_40), List.forall_mem_cons.mpr ⟨tn_then (tn_iload C0 dX11_look_42) (tn_then (tn_aload_n C0 dX11_look_44) (tn_get C0 hz hcv0 kcX2 dX11_look_45 (by decide) tv_100)), List.forall_mem_cons.mpr ⟨tx_icmp_ge C0 dX11_look_48 (by decide), List.forall_mem_cons.mpr ⟨tn_then (tn_aload_n C0 dX11_look_51) (tn_then (tn_iload C0 dX11_look_52) (tn_then (tn_iload_n C0 dX11_look_54) (tn_cV C0 hz hm hU hO h55 tv_832 dX11_look_55 tv_829 tv_830 tv_831 tv_4 rfl yb_X2_mostLeft (Nat.le_refl _) (Nat.le_refl _)))), List.forall_mem_cons.mpr ⟨tn_istore C0 dX11_look_58, List.forall_mem_cons.mpr ⟨tn_then (tn_iload C0 dX11_look_60) (tn_then (tn_iload C0 dX11_look_62) (tx_icmp_ge C0 dX11_look_64 (by decide))), List.forall_mem_cons.mpr ⟨tn_then (tn_iload C0 dX11_look_67) (tn_istore_n C0 dX11_look_69), List.forall_mem_cons.mpr ⟨tn_then (tn_iload C0 dX11_look_70) (tn_istore C0 dX11_look_72), List.forall_mem_cons.mpr ⟨tn_inc C0 dX11_look_74, List.forall_mem_cons.mpr ⟨tn_goto C0 dX11_look_77 (by decide), List.forall_mem_cons.mpr ⟨tn_then (tn_aload_n C0 dX11_look_80) (tn_then (tn_iload C0 dX11_look_81) (tn_put C0 hz hcv0 hrt0 hm kcX11 dX11_look_83 (by decide) tv_437 rfl rfl)), List.forall_mem_cons.mpr ⟨tn_iload_n C0 dX11_look_86, fun _ h => absurd h List.not_mem_nil⟩⟩⟩⟩⟩⟩⟩⟩⟩⟩⟩⟩⟩⟩⟩⟩⟩⟩⟩⟩⟩⟩⟩⟩⟩⟩
set_option maxRecDepth 200000 in
set_option maxHeartbeats 4000000 in
def K_X11_look_1 : tb_K := ([.inr (.inl (some 1)), .inl (2, 0)], [], [], [(0, 0), (1180591620717411303451, 1180591620717411303451), (-2147483648, 2147483647)], [(some (.inl (3, 0)), [], [], [(0, 0), (1180591620717411303451, 1180591620717411303451), (-2147483648, 2147483647), (-1, 5)])], [(27, 15, 15)])
set_option maxRecDepth 200000 in
set_option maxHeartbeats 4000000 in
def T_X11_look_1 : List (tb_S × tb_l) := [((42, [(0, .inr (.inl (some 1))), (1, .inl (2, 0)), (2, .inr (.inl (some 3))), (3, .inl (4, 0)), (4, .inl (5, 0)), (5, .inl (6, 0))], [], ([(1, (0, 1), .inr (.inl (some 7))), (3, (0, 14), .inl (8, 0)), (7, (0, 0), .inr (.inl (some 3)))], [], []), [(0, 0), (1180591620717411303451, 1180591620717411303451), (-2147483648, 2147483647), (1180591620717411303452, 1180591620717411303452), (0, 5), (0, 63), (1, 6), (1180591620717411303448, 1180591620717411303448), (0, 8)], 0, 0), ([(6, (-1))], 6))]
set_option maxRecDepth 200000 in
set_option maxHeartbeats 4000000 in
theorem m_X11_look_1 {l : Launch} : tb_Met l vwCl sa_Ts tb_Z0 yX11_look cX11_look 7 (some .int) 5 190 K_X11_look_1 := tb_method (by decide) [28, 87] (t_X11_look [(27, 15, 15)] [K_X2_mostLeft_1, K_X2_mostLeft_2] [K_X2_mostLeft_3]) T_X11_look_1 [42] 6000 (List.forall_mem_cons.mpr ⟨dX11_look_28, List.forall_mem_cons.mpr ⟨dX11_look_87, fun _ h => absurd h List.not_mem_nil⟩⟩) (h_X11_look [(27, 15, 15)] 5 190 (by decide) (by decide) [K_X2_mostLeft_1, K_X2_mostLeft_2] [K_X2_mostLeft_3] ⟨4, 166, List.forall_mem_cons.mpr ⟨m_X2_mostLeft_1, List.forall_mem_cons.mpr ⟨m_X2_mostLeft_2, fun _ h => absurd h List.not_mem_nil⟩⟩, by decide, by decide, by decide⟩ ⟨4, 166, List.forall_mem_cons.mpr ⟨m_X2_mostLeft_3, fun _ h => absurd h List.not_mem_nil⟩, by decide, by decide, by decide⟩) (by decide) (by decide +kernel)
