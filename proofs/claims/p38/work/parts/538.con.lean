set_option maxRecDepth 200000 in
set_option maxHeartbeats 4000000 in
def K_X7_thingsOfStep_14 : tb_K := ([.inr (.inl (some 1)), .inr (.inl (some 2)), .inr (.inl (some 3)), .inl (4, 0)], [], [], [(0, 0), (1180591620717411303473, 1180591620717411303473), (1180591620717411303452, 1180591620717411303452), (1180591620717411303466, 1180591620717411303466), (13, 13)], [(some (.inl (5, 0)), [], [], [(0, 0), (1180591620717411303473, 1180591620717411303473), (1180591620717411303452, 1180591620717411303452), (1180591620717411303466, 1180591620717411303466), (13, 13), (-2147483648, 2147483647)])], [])
set_option maxRecDepth 200000 in
set_option maxHeartbeats 4000000 in
def T_X7_thingsOfStep_14 : List (tb_S × tb_l) := []
set_option maxRecDepth 200000 in
set_option maxHeartbeats 4000000 in
theorem m_X7_thingsOfStep_14 {l : Launch} : tb_Met l vwCl sa_Ts tb_Z0 yX7_thingsOfStep cX7_thingsOfStep 5 (some .int) 5 194 K_X7_thingsOfStep_14 := tb_method (by decide) [69, 76, 83, 101, 109, 117] (t_X7_thingsOfStep [] [K_X9_working_1] [K_X9_thingsIn_1] [K_X9_thingsIn_1] [K_X7_thingsCompared_14]) T_X7_thingsOfStep_14 [] 6000 (List.forall_mem_cons.mpr ⟨dX7_thingsOfStep_69, List.forall_mem_cons.mpr ⟨dX7_thingsOfStep_76, List.forall_mem_cons.mpr ⟨dX7_thingsOfStep_83, List.forall_mem_cons.mpr ⟨dX7_thingsOfStep_101, List.forall_mem_cons.mpr ⟨dX7_thingsOfStep_109, List.forall_mem_cons.mpr ⟨dX7_thingsOfStep_117, fun _ h => absurd h List.not_mem_nil⟩⟩⟩⟩⟩⟩) (h_X7_thingsOfStep [] 5 194 (by decide) (by decide) [K_X9_working_1] [K_X9_thingsIn_1] [K_X9_thingsIn_1] [K_X7_thingsCompared_14] ⟨2, 120, List.forall_mem_cons.mpr ⟨m_X9_working_1, fun _ h => absurd h List.not_mem_nil⟩, by decide, by decide, by decide⟩ ⟨2, 120, List.forall_mem_cons.mpr ⟨m_X9_thingsIn_1, fun _ h => absurd h List.not_mem_nil⟩, by decide, by decide, by decide⟩ ⟨2, 120, List.forall_mem_cons.mpr ⟨m_X9_thingsIn_1, fun _ h => absurd h List.not_mem_nil⟩, by decide, by decide, by decide⟩ ⟨4, 169, List.forall_mem_cons.mpr ⟨m_X7_thingsCompared_14, fun _ h => absurd h List.not_mem_nil⟩, by decide, by decide, by decide⟩) (by decide) (by decide +kernel)
set_option maxRecDepth 200000 in
set_option maxHeartbeats 4000000 in
def K_X7_valueOf_15 : tb_K := ([.inr (.inl (some 1)), .inr (.inl (some 2)), .inr (.inl (some 3)), .inl (4, 0), .inl (5, 0)], [], [], [(0, 0), (1180591620717411303473, 1180591620717411303473), (1180591620717411303452, 1180591620717411303452), (1180591620717411303466, 1180591620717411303466), (14, 14), (0, 5)], [(some (.inl (6, 0)), [], [], [(0, 0), (1180591620717411303473, 1180591620717411303473), (1180591620717411303452, 1180591620717411303452), (1180591620717411303466, 1180591620717411303466), (14, 14), (0, 5), (-2147483648, 2147483647)])], [])
set_option maxRecDepth 200000 in
set_option maxHeartbeats 4000000 in
def T_X7_valueOf_15 : List (tb_S × tb_l) := []
set_option maxRecDepth 200000 in
set_option maxHeartbeats 4000000 in
theorem m_X7_valueOf_15 {l : Launch} : tb_Met l vwCl sa_Ts tb_Z0 yX7_valueOf cX7_valueOf 5 (some .int) 3 145 K_X7_valueOf_15 := tb_method (by decide) [43, 51, 54] (t_X7_valueOf [] [K_X9_lampOf_2]) T_X7_valueOf_15 [] 6000 (List.forall_mem_cons.mpr ⟨dX7_valueOf_43, List.forall_mem_cons.mpr ⟨dX7_valueOf_51, List.forall_mem_cons.mpr ⟨dX7_valueOf_54, fun _ h => absurd h List.not_mem_nil⟩⟩⟩) (h_X7_valueOf [] 3 145 (by decide) (by decide) [K_X9_lampOf_2] ⟨2, 120, List.forall_mem_cons.mpr ⟨m_X9_lampOf_2, fun _ h => absurd h List.not_mem_nil⟩, by decide, by decide, by decide⟩) (by decide) (by decide +kernel)
set_option maxRecDepth 200000 in
set_option maxHeartbeats 4000000 in
def K_X7_thingsCompared_15 : tb_K := ([.inr (.inl (some 1)), .inr (.inl (some 2)), .inr (.inl (some 3)), .inl (4, 0)], [], [], [(0, 0), (1180591620717411303473, 1180591620717411303473), (1180591620717411303452, 1180591620717411303452), (1180591620717411303466, 1180591620717411303466), (14, 14)], [(some (.inl (5, 0)), [], [], [(0, 0), (1180591620717411303473, 1180591620717411303473), (1180591620717411303452, 1180591620717411303452), (1180591620717411303466, 1180591620717411303466), (14, 14), (0, 255)])], [])
set_option maxRecDepth 200000 in
set_option maxHeartbeats 4000000 in
def T_X7_thingsCompared_15 : List (tb_S × tb_l) := [((6, [(0, .inr (.inl (some 1))), (1, .inr (.inl (some 2))), (2, .inr (.inl (some 3))), (3, .inl (4, 0)), (4, .inl (5, 0)), (5, .inl (6, 0))], [], ([], [], []), [(0, 0), (1180591620717411303473, 1180591620717411303473), (1180591620717411303452, 1180591620717411303452), (1180591620717411303466, 1180591620717411303466), (14, 14), (0, 255), (0, 6)], 0, 0), ([(6, (-1))], 6))]
set_option maxRecDepth 200000 in
set_option maxHeartbeats 4000000 in
theorem m_X7_thingsCompared_15 {l : Launch} : tb_Met l vwCl sa_Ts tb_Z0 yX7_thingsCompared cX7_thingsCompared 6 (some .int) 4 169 K_X7_thingsCompared_15 := tb_method (by decide) [59] (t_X7_thingsCompared [] [K_X7_valueOf_15] [K_X7_holds_1]) T_X7_thingsCompared_15 [6] 6000 (List.forall_mem_cons.mpr ⟨dX7_thingsCompared_59, fun _ h => absurd h List.not_mem_nil⟩) (h_X7_thingsCompared [] 4 169 (by decide) (by decide) [K_X7_valueOf_15] [K_X7_holds_1] ⟨3, 145, List.forall_mem_cons.mpr ⟨m_X7_valueOf_15, fun _ h => absurd h List.not_mem_nil⟩, by decide, by decide, by decide⟩ ⟨2, 120, List.forall_mem_cons.mpr ⟨m_X7_holds_1, fun _ h => absurd h List.not_mem_nil⟩, by decide, by decide, by decide⟩) (by decide) (by decide +kernel)
set_option maxRecDepth 200000 in
set_option maxHeartbeats 4000000 in
def K_X7_thingsOfStep_15 : tb_K := ([.inr (.inl (some 1)), .inr (.inl (some 2)), .inr (.inl (some 3)), .inl (4, 0)], [], [], [(0, 0), (1180591620717411303473, 1180591620717411303473), (1180591620717411303452, 1180591620717411303452), (1180591620717411303466, 1180591620717411303466), (14, 14)], [(some (.inl (5, 0)), [], [], [(0, 0), (1180591620717411303473, 1180591620717411303473), (1180591620717411303452, 1180591620717411303452), (1180591620717411303466, 1180591620717411303466), (14, 14), (-2147483648, 2147483647)])], [])
set_option maxRecDepth 200000 in
set_option maxHeartbeats 4000000 in
def T_X7_thingsOfStep_15 : List (tb_S × tb_l) := []
set_option maxRecDepth 200000 in
set_option maxHeartbeats 4000000 in
theorem m_X7_thingsOfStep_15 {l : Launch} : tb_Met l vwCl sa_Ts tb_Z0 yX7_thingsOfStep cX7_thingsOfStep 5 (some .int) 5 194 K_X7_thingsOfStep_15 := tb_method (by decide) [69, 76, 83, 101, 109, 117] (t_X7_thingsOfStep [] [K_X9_working_1] [K_X9_thingsIn_1] [K_X9_thingsIn_1] [K_X7_thingsCompared_15]) T_X7_thingsOfStep_15 [] 6000 (List.forall_mem_cons.mpr ⟨dX7_thingsOfStep_69, List.forall_mem_cons.mpr ⟨dX7_thingsOfStep_76, List.forall_mem_cons.mpr ⟨dX7_thingsOfStep_83, List.forall_mem_cons.mpr ⟨dX7_thingsOfStep_101, List.forall_mem_cons.mpr ⟨dX7_thingsOfStep_109, List.forall_mem_cons.mpr ⟨dX7_thingsOfStep_117, fun _ h => absurd h List.not_mem_nil⟩⟩⟩⟩⟩⟩) (h_X7_thingsOfStep [] 5 194 (by decide) (by decide) [K_X9_working_1] [K_X9_thingsIn_1] [K_X9_thingsIn_1] [K_X7_thingsCompared_15] ⟨2, 120, List.forall_mem_cons.mpr ⟨m_X9_working_1, fun _ h => absurd h List.not_mem_nil⟩, by decide, by decide, by decide⟩ ⟨2, 120, List.forall_mem_cons.mpr ⟨m_X9_thingsIn_1, fun _ h => absurd h List.not_mem_nil⟩, by decide, by decide, by decide⟩ ⟨2, 120, List.forall_mem_cons.mpr ⟨m_X9_thingsIn_1, fun _ h => absurd h List.not_mem_nil⟩, by decide, by decide, by decide⟩ ⟨4, 169, List.forall_mem_cons.mpr ⟨m_X7_thingsCompared_15, fun _ h => absurd h List.not_mem_nil⟩, by decide, by decide, by decide⟩) (by decide) (by decide +kernel)
set_option maxRecDepth 200000 in
set_option maxHeartbeats 4000000 in
def K_X7_valueOf_16 : tb_K := ([.inr (.inl (some 1)), .inr (.inl (some 2)), .inr (.inl (some 3)), .inl (4, 0), .inl (5, 0)], [], [], [(0, 0), (1180591620717411303473, 1180591620717411303473), (1180591620717411303452, 1180591620717411303452), (1180591620717411303466, 1180591620717411303466), (15, 15), (0, 5)], [(some (.inl (6, 0)), [], [], [(0, 0), (1180591620717411303473, 1180591620717411303473), (1180591620717411303452, 1180591620717411303452), (1180591620717411303466, 1180591620717411303466), (15, 15), (0, 5), (-2147483648, 2147483647)])], [])
set_option maxRecDepth 200000 in
set_option maxHeartbeats 4000000 in
def T_X7_valueOf_16 : List (tb_S × tb_l) := []
set_option maxRecDepth 200000 in
set_option maxHeartbeats 4000000 in
theorem m_X7_valueOf_16 {l : Launch} : tb_Met l vwCl sa_Ts tb_Z0 yX7_valueOf cX7_valueOf 5 (some .int) 3 145 K_X7_valueOf_16 := tb_method (by decide) [43, 51, 54] (t_X7_valueOf [] [K_X9_lampOf_2]) T_X7_valueOf_16 [] 6000 (List.forall_mem_cons.mpr ⟨dX7_valueOf_43, List.forall_mem_cons.mpr ⟨dX7_valueOf_51, List.forall_mem_cons.mpr ⟨dX7_valueOf_54, fun _ h => absurd h List.not_mem_nil⟩⟩⟩) (h_X7_valueOf [] 3 145 (by decide) (by decide) [K_X9_lampOf_2] ⟨2, 120, List.forall_mem_cons.mpr ⟨m_X9_lampOf_2, fun _ h => absurd h List.not_mem_nil⟩, by decide, by decide, by decide⟩) (by decide) (by decide +kernel)
set_option maxRecDepth 200000 in
set_option maxHeartbeats 4000000 in
def K_X7_thingsCompared_16 : tb_K := ([.inr (.inl (some 1)), .inr (.inl (some 2)), .inr (.inl (some 3)), .inl (4, 0)], [], [], [(0, 0), (1180591620717411303473, 1180591620717411303473), (1180591620717411303452, 1180591620717411303452), (1180591620717411303466, 1180591620717411303466), (15, 15)], [(some (.inl (5, 0)), [], [], [(0, 0), (1180591620717411303473, 1180591620717411303473), (1180591620717411303452, 1180591620717411303452), (1180591620717411303466, 1180591620717411303466), (15, 15), (0, 255)])], [])
set_option maxRecDepth 200000 in
set_option maxHeartbeats 4000000 in
def T_X7_thingsCompared_16 : List (tb_S × tb_l) := [((6, [(0, .inr (.inl (some 1))), (1, .inr (.inl (some 2))), (2, .inr (.inl (some 3))), (3, .inl (4, 0)), (4, .inl (5, 0)), (5, .inl (6, 0))], [], ([], [], []), [(0, 0), (1180591620717411303473, 1180591620717411303473), (1180591620717411303452, 1180591620717411303452), (1180591620717411303466, 1180591620717411303466), (15, 15), (0, 255), (0, 6)], 0, 0), ([(6, (-1))], 6))]
set_option maxRecDepth 200000 in
set_option maxHeartbeats 4000000 in
theorem m_X7_thingsCompared_16 {l : Launch} : tb_Met l vwCl sa_Ts tb_Z0 yX7_thingsCompared cX7_thingsCompared 6 (some .int) 4 169 K_X7_thingsCompared_16 := tb_method (by decide) [59] (t_X7_thingsCompared [] [K_X7_valueOf_16] [K_X7_holds_1]) T_X7_thingsCompared_16 [6] 6000 (List.forall_mem_cons.mpr ⟨dX7_thingsCompared_59, fun _ h => absurd h List.not_mem_nil⟩) (h_X7_thingsCompared [] 4 169 (by decide) (by decide) [K_X7_valueOf_16] [K_X7_holds_1] ⟨3, 145, List.forall_mem_cons.mpr ⟨m_X7_valueOf_16, fun _ h => absurd h List.not_mem_nil⟩, by decide, by decide, by decide⟩ ⟨2, 120, List.forall_mem_cons.mpr ⟨m_X7_holds_1, fun _ h => absurd h List.not_mem_nil⟩, by decide, by decide, by decide⟩) (by decide) (by decide +kernel)
set_option maxRecDepth 200000 in
set_option maxHeartbeats 4000000 in
def K_X7_thingsOfStep_16 : tb_K := ([.inr (.inl (some 1)), .inr (.inl (some 2)), .inr (.inl (some 3)), .inl (4, 0)], [], [], [(0, 0), (1180591620717411303473, 1180591620717411303473), (1180591620717411303452, 1180591620717411303452), (1180591620717411303466, 1180591620717411303466), (15, 15)], [(some (.inl (5, 0)), [], [], [(0, 0), (1180591620717411303473, 1180591620717411303473), (1180591620717411303452, 1180591620717411303452), (1180591620717411303466, 1180591620717411303466), (15, 15), (-2147483648, 2147483647)])], [])
set_option maxRecDepth 200000 in
set_option maxHeartbeats 4000000 in
def T_X7_thingsOfStep_16 : List (tb_S × tb_l) := []
set_option maxRecDepth 200000 in
set_option maxHeartbeats 4000000 in
theorem m_X7_thingsOfStep_16 {l : Launch} : tb_Met l vwCl sa_Ts tb_Z0 yX7_thingsOfStep cX7_thingsOfStep 5 (some .int) 5 194 K_X7_thingsOfStep_16 := tb_method (by decide) [69, 76, 83, 101, 109, 117] (t_X7_thingsOfStep [] [K_X9_working_1] [K_X9_thingsIn_1] [K_X9_thingsIn_1] [K_X7_thingsCompared_16]) T_X7_thingsOfStep_16 [] 6000 (List.forall_mem_cons.mpr ⟨dX7_thingsOfStep_69, List.forall_mem_cons.mpr ⟨dX7_thingsOfStep_76, List.forall_mem_cons.mpr ⟨dX7_thingsOfStep_83, List.forall_mem_cons.mpr ⟨dX7_thingsOfStep_101, List.forall_mem_cons.mpr ⟨dX7_thingsOfStep_109, List.forall_mem_cons.mpr ⟨dX7_thingsOfStep_117, fun _ h => absurd h List.not_mem_nil⟩⟩⟩⟩⟩⟩) (h_X7_thingsOfStep [] 5 194 (by decide) (by decide) [K_X9_working_1] [K_X9_thingsIn_1] [K_X9_thingsIn_1] [K_X7_thingsCompared_16] ⟨2, 120, List.forall_mem_cons.mpr ⟨m_X9_working_1, fun _ h => absurd h List.not_mem_nil⟩, by decide, by decide, by decide⟩ ⟨2, 120, List.forall_mem_cons.mpr ⟨m_X9_thingsIn_1, fun _ h => absurd h List.not_mem_nil⟩, by decide, by decide, by decide⟩ ⟨2, 120, List.forall_mem_cons.mpr ⟨m_X9_thingsIn_1, fun _ h => absurd h List.not_mem_nil⟩, by decide, by decide, by decide⟩ ⟨4, 169, List.forall_mem_cons.mpr ⟨m_X7_thingsCompared_16, fun _ h => absurd h List.not_mem_nil⟩, by decide, by decide, by decide⟩) (by decide) (by decide +kernel)
set_option maxRecDepth 200000 in
set_option maxHeartbeats 4000000 in
def K_X7_valueOf_17 : tb_K := ([.inr (.inl (some 1)), .inr (.inl (some 2)), .inr (.inl (some 3)), .inl (4, 0), .inl (5, 0)], [], [], [(0, 0), (1180591620717411303473, 1180591620717411303473), (1180591620717411303452, 1180591620717411303452), (1180591620717411303466, 1180591620717411303466), (16, 16), (0, 5)], [(some (.inl (6, 0)), [], [], [(0, 0), (1180591620717411303473, 1180591620717411303473), (1180591620717411303452, 1180591620717411303452), (1180591620717411303466, 1180591620717411303466), (16, 16), (0, 5), (-2147483648, 2147483647)])], [])
set_option maxRecDepth 200000 in
set_option maxHeartbeats 4000000 in
def T_X7_valueOf_17 : List (tb_S × tb_l) := []
set_option maxRecDepth 200000 in
set_option maxHeartbeats 4000000 in
theorem m_X7_valueOf_17 {l : Launch} : tb_Met l vwCl sa_Ts tb_Z0 yX7_valueOf cX7_valueOf 5 (some .int) 3 145 K_X7_valueOf_17 := tb_method (by decide) [43, 51, 54] (t_X7_valueOf [] [K_X9_lampOf_2]) T_X7_valueOf_17 [] 6000 (List.forall_mem_cons.mpr ⟨dX7_valueOf_43, List.forall_mem_cons.mpr ⟨dX7_valueOf_51, List.forall_mem_cons.mpr ⟨dX7_valueOf_54, fun _ h => absurd h List.not_mem_nil⟩⟩⟩) (h_X7_valueOf [] 3 145 (by decide) (by decide) [K_X9_lampOf_2] ⟨2, 120, List.forall_mem_cons.mpr ⟨m_X9_lampOf_2, fun _ h => absurd h List.not_mem_nil⟩, by decide, by decide, by decide⟩) (by decide) (by decide +kernel)
set_option maxRecDepth 200000 in
set_option maxHeartbeats 4000000 in
def K_X7_thingsCompared_17 : tb_K := ([.inr (.inl (some 1)), .inr (.inl (some 2)), .inr (.inl (some 3)), .inl (4, 0)], [], [], [(0, 0), (1180591620717411303473, 1180591620717411303473), (1180591620717411303452, 1180591620717411303452), (1180591620717411303466, 1180591620717411303466), (16, 16)], [(some (.inl (5, 0)), [], [], [(0, 0), (1180591620717411303473, 1180591620717411303473), (1180591620717411303452, 1180591620717411303452), (1180591620717411303466, 1180591620717411303466), (16, 16), (0, 255)])], [])
set_option maxRecDepth 200000 in
set_option maxHeartbeats 4000000 in
def T_X7_thingsCompared_17 : List (tb_S × tb_l) := [((6, [(0, .inr (.inl (some 1))), (1, .inr (.inl (some 2))), (2, .inr (.inl (some 3))), (3, .inl (4, 0)), (4, .inl (5, 0)), (5, .inl (6, 0))], [], ([], [], []), [(0, 0), (1180591620717411303473, 1180591620717411303473), (1180591620717411303452, 1180591620717411303452), (1180591620717411303466, 1180591620717411303466), (16, 16), (0, 255), (0, 6)], 0, 0), ([(6, (-1))], 6))]
set_option maxRecDepth 200000 in
set_option maxHeartbeats 4000000 in
theorem m_X7_thingsCompared_17 {l : Launch} : tb_Met l vwCl sa_Ts tb_Z0 yX7_thingsCompared cX7_thingsCompared 6 (some .int) 4 169 K_X7_thingsCompared_17 := tb_method (by decide) [59] (t_X7_thingsCompared [] [K_X7_valueOf_17] [K_X7_holds_1]) T_X7_thingsCompared_17 [6] 6000 (List.forall_mem_cons.mpr ⟨dX7_thingsCompared_59, fun _ h => absurd h List.not_mem_nil⟩) (h_X7_thingsCompared [] 4 169 (by decide) (by decide) [K_X7_valueOf_17] [K_X7_holds_1] ⟨3, 145, List.forall_mem_cons.mpr ⟨m_X7_valueOf_17, fun _ h => absurd h List.not_mem_nil⟩, by decide, by decide, by decide⟩ ⟨2, 120, List.forall_mem_cons.mpr ⟨m_X7_holds_1, fun _ h => absurd h List.not_mem_nil⟩, by decide, by decide, by decide⟩) (by decide) (by decide +kernel)
set_option maxRecDepth 200000 in
set_option maxHeartbeats 4000000 in
def K_X7_thingsOfStep_17 : tb_K := ([.inr (.inl (some 1)), .inr (.inl (some 2)), .inr (.inl (some 3)), .inl (4, 0)], [], [], [(0, 0), (1180591620717411303473, 1180591620717411303473), (1180591620717411303452, 1180591620717411303452), (1180591620717411303466, 1180591620717411303466), (16, 16)], [(some (.inl (5, 0)), [], [], [(0, 0), (1180591620717411303473, 1180591620717411303473), (1180591620717411303452, 1180591620717411303452), (1180591620717411303466, 1180591620717411303466), (16, 16), (-2147483648, 2147483647)])], [])
set_option maxRecDepth 200000 in
set_option maxHeartbeats 4000000 in
def T_X7_thingsOfStep_17 : List (tb_S × tb_l) := []
set_option maxRecDepth 200000 in
set_option maxHeartbeats 4000000 in
theorem m_X7_thingsOfStep_17 {l : Launch} : tb_Met l vwCl sa_Ts tb_Z0 yX7_thingsOfStep cX7_thingsOfStep 5 (some .int) 5 194 K_X7_thingsOfStep_17 := tb_method (by decide) [69, 76, 83, 101, 109, 117] (t_X7_thingsOfStep [] [K_X9_working_1] [K_X9_thingsIn_1] [K_X9_thingsIn_1] [K_X7_thingsCompared_17]) T_X7_thingsOfStep_17 [] 6000 (List.forall_mem_cons.mpr ⟨dX7_thingsOfStep_69, List.forall_mem_cons.mpr ⟨dX7_thingsOfStep_76, List.forall_mem_cons.mpr ⟨dX7_thingsOfStep_83, List.forall_mem_cons.mpr ⟨dX7_thingsOfStep_101, List.forall_mem_cons.mpr ⟨dX7_thingsOfStep_109, List.forall_mem_cons.mpr ⟨dX7_thingsOfStep_117, fun _ h => absurd h List.not_mem_nil⟩⟩⟩⟩⟩⟩) (h_X7_thingsOfStep [] 5 194 (by decide) (by decide) [K_X9_working_1] [K_X9_thingsIn_1] [K_X9_thingsIn_1] [K_X7_thingsCompared_17] ⟨2, 120, List.forall_mem_cons.mpr ⟨m_X9_working_1, fun _ h => absurd h List.not_mem_nil⟩, by decide, by decide, by decide⟩ ⟨2, 120, List.forall_mem_cons.mpr ⟨m_X9_thingsIn_1, fun _ h => absurd h List.not_mem_nil⟩, by decide, by decide, by decide⟩ ⟨2, 120, List.forall_mem_cons.mpr ⟨m_X9_thingsIn_1, fun _ h => absurd h List.not_mem_nil⟩, by decide, by decide, by decide⟩ ⟨4, 169, List.forall_mem_cons.mpr ⟨m_X7_thingsCompared_17, fun _ h => absurd h List.not_mem_nil⟩, by decide, by decide, by decide⟩) (by decide) (by decide +kernel)
set_option maxRecDepth 200000 in
set_option maxHeartbeats 4000000 in
def K_X7_valueOf_18 : tb_K := ([.inr (.inl (some 1)), .inr (.inl (some 2)), .inr (.inl (some 3)), .inl (4, 0), .inl (5, 0)], [], [], [(0, 0), (1180591620717411303473, 1180591620717411303473), (1180591620717411303452, 1180591620717411303452), (1180591620717411303466, 1180591620717411303466), (17, 17), (0, 5)], [(some (.inl (6, 0)), [], [], [(0, 0), (1180591620717411303473, 1180591620717411303473), (1180591620717411303452, 1180591620717411303452), (1180591620717411303466, 1180591620717411303466), (17, 17), (0, 5), (-2147483648, 2147483647)])], [])
set_option maxRecDepth 200000 in
set_option maxHeartbeats 4000000 in
def T_X7_valueOf_18 : List (tb_S × tb_l) := []
set_option maxRecDepth 200000 in
set_option maxHeartbeats 4000000 in
theorem m_X7_valueOf_18 {l : Launch} : tb_Met l vwCl sa_Ts tb_Z0 yX7_valueOf cX7_valueOf 5 (some .int) 3 145 K_X7_valueOf_18 := tb_method (by decide) [43, 51, 54] (t_X7_valueOf [] [K_X9_lampOf_2]) T_X7_valueOf_18 [] 6000 (List.forall_mem_cons.mpr ⟨dX7_valueOf_43, List.forall_mem_cons.mpr ⟨dX7_valueOf_51, List.forall_mem_cons.mpr ⟨dX7_valueOf_54, fun _ h => absurd h List.not_mem_nil⟩⟩⟩) (h_X7_valueOf [] 3 145 (by decide) (by decide) [K_X9_lampOf_2] ⟨2, 120, List.forall_mem_cons.mpr ⟨m_X9_lampOf_2, fun _ h => absurd h List.not_mem_nil⟩, by decide, by decide, by decide⟩) (by decide) (by decide +kernel)
set_option maxRecDepth 200000 in
set_option maxHeartbeats 4000000 in
def K_X7_thingsCompared_18 : tb_K := ([.inr (.inl (some 1)), .inr (.inl (some 2)), .inr (.inl (some 3)), .inl (4, 0)], [], [], [(0, 0), (1180591620717411303473, 1180591620717411303473), (1180591620717411303452, 1180591620717411303452), (1180591620717411303466, 1180591620717411303466), (17, 17)], [(some (.inl (5, 0)), [], [], [(0, 0), (1180591620717411303473, 1180591620717411303473), (1180591620717411303452, 1180591620717411303452), (1180591620717411303466, 1180591620717411303466), (17, 17), (0, 255)])], [])
set_option maxRecDepth 200000 in
set_option maxHeartbeats 4000000 in
def T_X7_thingsCompared_18 : List (tb_S × tb_l) := [((6, [(0, .inr (.inl (some 1))), (1, .inr (.inl (some 2))), (2, .inr (.inl (some 3))), (3, .inl (4, 0)), (4, .inl (5, 0)), (5, .inl (6, 0))], [], ([], [], []), [(0, 0), (1180591620717411303473, 1180591620717411303473), (1180591620717411303452, 1180591620717411303452), (1180591620717411303466, 1180591620717411303466), (17, 17), (0, 255), (0, 6)], 0, 0), ([(6, (-1))], 6))]
set_option maxRecDepth 200000 in
set_option maxHeartbeats 4000000 in
theorem m_X7_thingsCompared_18 {l : Launch} : tb_Met l vwCl sa_Ts tb_Z0 yX7_thingsCompared cX7_thingsCompared 6 (some .int) 4 169 K_X7_thingsCompared_18 := tb_method (by decide) [59] (t_X7_thingsCompared [] [K_X7_valueOf_18] [K_X7_holds_1]) T_X7_thingsCompared_18 [6] 6000 (List.forall_mem_cons.mpr ⟨dX7_thingsCompared_59, fun _ h => absurd h List.not_mem_nil⟩) (h_X7_thingsCompared [] 4 169 (by decide) (by decide) [K_X7_valueOf_18] [K_X7_holds_1] ⟨3, 145, List.forall_mem_cons.mpr ⟨m_X7_valueOf_18, fun _ h => absurd h List.not_mem_nil⟩, by decide, by decide, by decide⟩ ⟨2, 120, List.forall_mem_cons.mpr ⟨m_X7_holds_1, fun _ h => absurd h List.not_mem_nil⟩, by decide, by decide, by decide⟩) (by decide) (by decide +kernel)
set_option maxRecDepth 200000 in
set_option maxHeartbeats 4000000 in
def K_X7_thingsOfStep_18 : tb_K := ([.inr (.inl (some 1)), .inr (.inl (some 2)), .inr (.inl (some 3)), .inl (4, 0)], [], [], [(0, 0), (1180591620717411303473, 1180591620717411303473), (1180591620717411303452, 1180591620717411303452), (1180591620717411303466, 1180591620717411303466), (17, 17)], [(some (.inl (5, 0)), [], [], [(0, 0), (1180591620717411303473, 1180591620717411303473), (1180591620717411303452, 1180591620717411303452), (1180591620717411303466, 1180591620717411303466), (17, 17), (-2147483648, 2147483647)])], [])
set_option maxRecDepth 200000 in
set_option maxHeartbeats 4000000 in
def T_X7_thingsOfStep_18 : List (tb_S × tb_l) := []
set_option maxRecDepth 200000 in
set_option maxHeartbeats 4000000 in
theorem m_X7_thingsOfStep_18 {l : Launch} : tb_Met l vwCl sa_Ts tb_Z0 yX7_thingsOfStep cX7_thingsOfStep 5 (some .int) 5 194 K_X7_thingsOfStep_18 := tb_method (by decide) [69, 76, 83, 101, 109, 117] (t_X7_thingsOfStep [] [K_X9_working_1] [K_X9_thingsIn_1] [K_X9_thingsIn_1] [K_X7_thingsCompared_18]) T_X7_thingsOfStep_18 [] 6000 (List.forall_mem_cons.mpr ⟨dX7_thingsOfStep_69, List.forall_mem_cons.mpr ⟨dX7_thingsOfStep_76, List.forall_mem_cons.mpr ⟨dX7_thingsOfStep_83, List.forall_mem_cons.mpr ⟨dX7_thingsOfStep_101, List.forall_mem_cons.mpr ⟨dX7_thingsOfStep_109, List.forall_mem_cons.mpr ⟨dX7_thingsOfStep_117, fun _ h => absurd h List.not_mem_nil⟩⟩⟩⟩⟩⟩) (h_X7_thingsOfStep [] 5 194 (by decide) (by decide) [K_X9_working_1] [K_X9_thingsIn_1] [K_X9_thingsIn_1] [K_X7_thingsCompared_18] ⟨2, 120, List.forall_mem_cons.mpr ⟨m_X9_working_1, fun _ h => absurd h List.not_mem_nil⟩, by decide, by decide, by decide⟩ ⟨2, 120, List.forall_mem_cons.mpr ⟨m_X9_thingsIn_1, fun _ h => absurd h List.not_mem_nil⟩, by decide, by decide, by decide⟩ ⟨2, 120, List.forall_mem_cons.mpr ⟨m_X9_thingsIn_1, fun _ h => absurd h List.not_mem_nil⟩, by decide, by decide, by decide⟩ ⟨4, 169, List.forall_mem_cons.mpr ⟨m_X7_thingsCompared_18, fun _ h => absurd h List.not_mem_nil⟩, by decide, by decide, by decide⟩) (by decide) (by decide +kernel)
set_option maxRecDepth 200000 in
set_option maxHeartbeats 4000000 in
def K_X7_valueOf_19 : tb_K := ([.inr (.inl (some 1)), .inr (.inl (some 2)), .inr (.inl (some 3)), .inl (4, 0), .inl (5, 0)], [], [], [(0, 0), (1180591620717411303473, 1180591620717411303473), (1180591620717411303452, 1180591620717411303452), (1180591620717411303466, 1180591620717411303466), (18, 18), (0, 5)], [(some (.inl (6, 0)), [], [], [(0, 0), (1180591620717411303473, 1180591620717411303473), (1180591620717411303452, 1180591620717411303452), (1180591620717411303466, 1180591620717411303466), (18, 18), (0, 5), (-2147483648, 2147483647)])], [])
set_option maxRecDepth 200000 in
set_option maxHeartbeats 4000000 in
def T_X7_valueOf_19 : List (tb_S × tb_l) := []
set_option maxRecDepth 200000 in
set_option maxHeartbeats 4000000 in
theorem m_X7_valueOf_19 {l : Launch} : tb_Met l vwCl sa_Ts tb_Z0 yX7_valueOf cX7_valueOf 5 (some .int) 3 145 K_X7_valueOf_19 := tb_method (by decide) [43, 51, 54] (t_X7_valueOf [] [K_X9_lampOf_2]) T_X7_valueOf_19 [] 6000 (List.forall_mem_cons.mpr ⟨dX7_valueOf_43, List.forall_mem_cons.mpr ⟨dX7_valueOf_51, List.forall_mem_cons.mpr ⟨dX7_valueOf_54, fun _ h => absurd h List.not_mem_nil⟩⟩⟩) (h_X7_valueOf [] 3 145 (by decide) (by decide) [K_X9_lampOf_2] ⟨2, 120, List.forall_mem_cons.mpr ⟨m_X9_lampOf_2, fun _ h => absurd h List.not_mem_nil⟩, by decide, by decide, by decide⟩) (by decide) (by decide +kernel)
set_option maxRecDepth 200000 in
set_option maxHeartbeats 4000000 in
def K_X7_thingsCompared_19 : tb_K := ([.inr (.inl (some 1)), .inr (.inl (some 2)), .inr (.inl (some 3)), .inl (4, 0)], [], [], [(0, 0), (1180591620717411303473, 1180591620717411303473), (1180591620717411303452, 1180591620717411303452), (1180591620717411303466, 1180591620717411303466), (18, 18)], [(some (.inl (5, 0)), [], [], [(0, 0), (1180591620717411303473, 1180591620717411303473), (1180591620717411303452, 1180591620717411303452), (1180591620717411303466, 1180591620717411303466), (18, 18), (0, 255)])], [])
set_option maxRecDepth 200000 in
set_option maxHeartbeats 4000000 in
def T_X7_thingsCompared_19 : List (tb_S × tb_l) := [((6, [(0, .inr (.inl (some 1))), (1, .inr (.inl (some 2))), (2, .inr (.inl (some 3))), (3, .inl (4, 0)), (4, .inl (5, 0)), (5, .inl (6, 0))], [], ([], [], []), [(0, 0), (1180591620717411303473, 1180591620717411303473), (1180591620717411303452, 1180591620717411303452), (1180591620717411303466, 1180591620717411303466), (18, 18), (0, 255), (0, 6)], 0, 0), ([(6, (-1))], 6))]
set_option maxRecDepth 200000 in
set_option maxHeartbeats 4000000 in
theorem m_X7_thingsCompared_19 {l : Launch} : tb_Met l vwCl sa_Ts tb_Z0 yX7_thingsCompared cX7_thingsCompared 6 (some .int) 4 169 K_X7_thingsCompared_19 := tb_method (by decide) [59] (t_X7_thingsCompared [] [K_X7_valueOf_19] [K_X7_holds_1]) T_X7_thingsCompared_19 [6] 6000 (List.forall_mem_cons.mpr ⟨dX7_thingsCompared_59, fun _ h => absurd h List.not_mem_nil⟩) (h_X7_thingsCompared [] 4 169 (by decide) (by decide) [K_X7_valueOf_19] [K_X7_holds_1] ⟨3, 145, List.forall_mem_cons.mpr ⟨m_X7_valueOf_19, fun _ h => absurd h List.not_mem_nil⟩, by decide, by decide, by decide⟩ ⟨2, 120, List.forall_mem_cons.mpr ⟨m_X7_holds_1, fun _ h => absurd h List.not_mem_nil⟩, by decide, by decide, by decide⟩) (by decide) (by decide +kernel)
set_option maxRecDepth 200000 in
set_option maxHeartbeats 4000000 in
def K_X7_thingsOfStep_19 : tb_K := ([.inr (.inl (some 1)), .inr (.inl (some 2)), .inr (.inl (some 3)), .inl (4, 0)], [], [], [(0, 0), (1180591620717411303473, 1180591620717411303473), (1180591620717411303452, 1180591620717411303452), (1180591620717411303466, 1180591620717411303466), (18, 18)], [(some (.inl (5, 0)), [], [], [(0, 0), (1180591620717411303473, 1180591620717411303473), (1180591620717411303452, 1180591620717411303452), (1180591620717411303466, 1180591620717411303466), (18, 18), (-2147483648, 2147483647)])], [])
set_option maxRecDepth 200000 in
set_option maxHeartbeats 4000000 in
def T_X7_thingsOfStep_19 : List (tb_S × tb_l) := []
set_option maxRecDepth 200000 in
set_option maxHeartbeats 4000000 in
theorem m_X7_thingsOfStep_19 {l : Launch} : tb_Met l vwCl sa_Ts tb_Z0 yX7_thingsOfStep cX7_thingsOfStep 5 (some .int) 5 194 K_X7_thingsOfStep_19 := tb_method (by decide) [69, 76, 83, 101, 109, 117] (t_X7_thingsOfStep [] [K_X9_working_1] [K_X9_thingsIn_1] [K_X9_thingsIn_1] [K_X7_thingsCompared_19]) T_X7_thingsOfStep_19 [] 6000 (List.forall_mem_cons.mpr ⟨dX7_thingsOfStep_69, List.forall_mem_cons.mpr ⟨dX7_thingsOfStep_76, List.forall_mem_cons.mpr ⟨dX7_thingsOfStep_83, List.forall_mem_cons.mpr ⟨dX7_thingsOfStep_101, List.forall_mem_cons.mpr ⟨dX7_thingsOfStep_109, List.forall_mem_cons.mpr ⟨dX7_thingsOfStep_117, fun _ h => absurd h List.not_mem_nil⟩⟩⟩⟩⟩⟩) (h_X7_thingsOfStep [] 5 194 (by decide) (by decide) [K_X9_working_1] [K_X9_thingsIn_1] [K_X9_thingsIn_1] [K_X7_thingsCompared_19] ⟨2, 120, List.forall_mem_cons.mpr ⟨m_X9_working_1, fun _ h => absurd h List.not_mem_nil⟩, by decide, by decide, by decide⟩ ⟨2, 120, List.forall_mem_cons.mpr ⟨m_X9_thingsIn_1, fun _ h => absurd h List.not_mem_nil⟩, by decide, by decide, by decide⟩ ⟨2, 120, List.forall_mem_cons.mpr ⟨m_X9_thingsIn_1, fun _ h => absurd h List.not_mem_nil⟩, by decide, by decide, by decide⟩ ⟨4, 169, List.forall_mem_cons.mpr ⟨m_X7_thingsCompared_19, fun _ h => absurd h List.not_mem_nil⟩, by decide, by decide, by decide⟩) (by decide) (by decide +kernel)
set_option maxRecDepth 200000 in
set_option maxHeartbeats 4000000 in
def K_X7_valueOf_20 : tb_K := ([.inr (.inl (some 1)), .inr (.inl (some 2)), .inr (.inl (some 3)), .inl (4, 0), .inl (5, 0)], [], [], [(0, 0), (1180591620717411303473, 1180591620717411303473), (1180591620717411303452, 1180591620717411303452), (1180591620717411303466, 1180591620717411303466), (19, 19), (0, 5)], [(some (.inl (6, 0)), [], [], [(0, 0), (1180591620717411303473, 1180591620717411303473), (1180591620717411303452, 1180591620717411303452), (1180591620717411303466, 1180591620717411303466), (19, 19), (0, 5), (-2147483648, 2147483647)])], [])
set_option maxRecDepth 200000 in
set_option maxHeartbeats 4000000 in
def T_X7_valueOf_20 : List (tb_S × tb_l) := []
set_option maxRecDepth 200000 in
set_option maxHeartbeats 4000000 in
theorem m_X7_valueOf_20 {l : Launch} : tb_Met l vwCl sa_Ts tb_Z0 yX7_valueOf cX7_valueOf 5 (some .int) 3 145 K_X7_valueOf_20 := tb_method (by decide) [43, 51, 54] (t_X7_valueOf [] [K_X9_lampOf_2]) T_X7_valueOf_20 [] 6000 (List.forall_mem_cons.mpr ⟨dX7_valueOf_43, List.forall_mem_cons.mpr ⟨dX7_valueOf_51, List.forall_mem_cons.mpr ⟨dX7_valueOf_54, fun _ h => absurd h List.not_mem_nil⟩⟩⟩) (h_X7_valueOf [] 3 145 (by decide) (by decide) [K_X9_lampOf_2] ⟨2, 120, List.forall_mem_cons.mpr ⟨m_X9_lampOf_2, fun _ h => absurd h List.not_mem_nil⟩, by decide, by decide, by decide⟩) (by decide) (by decide +kernel)
set_option maxRecDepth 200000 in
set_option maxHeartbeats 4000000 in
def K_X7_thingsCompared_20 : tb_K := ([.inr (.inl (some 1)), .inr (.inl (some 2)), .inr (.inl (some 3)), .inl (4, 0)], [], [], [(0, 0), (1180591620717411303473, 1180591620717411303473), (1180591620717411303452, 1180591620717411303452), (1180591620717411303466, 1180591620717411303466), (19, 19)], [(some (.inl (5, 0)), [], [], [(0, 0), (1180591620717411303473, 1180591620717411303473), (1180591620717411303452, 1180591620717411303452), (1180591620717411303466, 1180591620717411303466), (19, 19), (0, 255)])], [])
set_option maxRecDepth 200000 in
set_option maxHeartbeats 4000000 in
def T_X7_thingsCompared_20 : List (tb_S × tb_l) := [((6, [(0, .inr (.inl (some 1))), (1, .inr (.inl (some 2))), (2, .inr (.inl (some 3))), (3, .inl (4, 0)), (4, .inl (5, 0)), (5, .inl (6, 0))], [], ([], [], []), [(0, 0), (1180591620717411303473, 1180591620717411303473), (1180591620717411303452, 1180591620717411303452), (1180591620717411303466, 1180591620717411303466), (19, 19), (0, 255), (0, 6)], 0, 0), ([(6, (-1))], 6))]
set_option maxRecDepth 200000 in
set_option maxHeartbeats 4000000 in
theorem m_X7_thingsCompared_20 {l : Launch} : tb_Met l vwCl sa_Ts tb_Z0 yX7_thingsCompared cX7_thingsCompared 6 (some .int) 4 169 K_X7_thingsCompared_20 := tb_method (by decide) [59] (t_X7_thingsCompared [] [K_X7_valueOf_20] [K_X7_holds_1]) T_X7_thingsCompared_20 [6] 6000 (List.forall_mem_cons.mpr ⟨dX7_thingsCompared_59, fun _ h => absurd h List.not_mem_nil⟩) (h_X7_thingsCompared [] 4 169 (by decide) (by decide) [K_X7_valueOf_20] [K_X7_holds_1] ⟨3, 145, List.forall_mem_cons.mpr ⟨m_X7_valueOf_20, fun _ h => absurd h List.not_mem_nil⟩, by decide, by decide, by decide⟩ ⟨2, 120, List.forall_mem_cons.mpr ⟨m_X7_holds_1, fun _ h => absurd h List.not_mem_nil⟩, by decide, by decide, by decide⟩) (by decide) (by decide +kernel)
set_option maxRecDepth 200000 in
set_option maxHeartbeats 4000000 in
def K_X7_thingsOfStep_20 : tb_K := ([.inr (.inl (some 1)), .inr (.inl (some 2)), .inr (.inl (some 3)), .inl (4, 0)], [], [], [(0, 0), (1180591620717411303473, 1180591620717411303473), (1180591620717411303452, 1180591620717411303452), (1180591620717411303466, 1180591620717411303466), (19, 19)], [(some (.inl (5, 0)), [], [], [(0, 0), (1180591620717411303473, 1180591620717411303473), (1180591620717411303452, 1180591620717411303452), (1180591620717411303466, 1180591620717411303466), (19, 19), (-2147483648, 2147483647)])], [])
set_option maxRecDepth 200000 in
set_option maxHeartbeats 4000000 in
def T_X7_thingsOfStep_20 : List (tb_S × tb_l) := []
set_option maxRecDepth 200000 in
set_option maxHeartbeats 4000000 in
theorem m_X7_thingsOfStep_20 {l : Launch} : tb_Met l vwCl sa_Ts tb_Z0 yX7_thingsOfStep cX7_thingsOfStep 5 (some .int) 5 194 K_X7_thingsOfStep_20 := tb_method (by decide) [69, 76, 83, 101, 109, 117] (t_X7_thingsOfStep [] [K_X9_working_1] [K_X9_thingsIn_1] [K_X9_thingsIn_1] [K_X7_thingsCompared_20]) T_X7_thingsOfStep_20 [] 6000 (List.forall_mem_cons.mpr ⟨dX7_thingsOfStep_69, List.forall_mem_cons.mpr ⟨dX7_thingsOfStep_76, List.forall_mem_cons.mpr ⟨dX7_thingsOfStep_83, List.forall_mem_cons.mpr ⟨dX7_thingsOfStep_101, List.forall_mem_cons.mpr ⟨dX7_thingsOfStep_109, List.forall_mem_cons.mpr ⟨dX7_thingsOfStep_117, fun _ h => absurd h List.not_mem_nil⟩⟩⟩⟩⟩⟩) (h_X7_thingsOfStep [] 5 194 (by decide) (by decide) [K_X9_working_1] [K_X9_thingsIn_1] [K_X9_thingsIn_1] [K_X7_thingsCompared_20] ⟨2, 120, List.forall_mem_cons.mpr ⟨m_X9_working_1, fun _ h => absurd h List.not_mem_nil⟩, by decide, by decide, by decide⟩ ⟨2, 120, List.forall_mem_cons.mpr ⟨m_X9_thingsIn_1, fun _ h => absurd h List.not_mem_nil⟩, by decide, by decide, by decide⟩ ⟨2, 120, List.forall_mem_cons.mpr ⟨m_X9_thingsIn_1, fun _ h => absurd h List.not_mem_nil⟩, by decide, by decide, by decide⟩ ⟨4, 169, List.forall_mem_cons.mpr ⟨m_X7_thingsCompared_20, fun _ h => absurd h List.not_mem_nil⟩, by decide, by decide, by decide⟩) (by decide) (by decide +kernel)
set_option maxRecDepth 200000 in
set_option maxHeartbeats 4000000 in
def K_X7_valueOf_21 : tb_K := ([.inr (.inl (some 1)), .inr (.inl (some 2)), .inr (.inl (some 3)), .inl (4, 0), .inl (5, 0)], [], [], [(0, 0), (1180591620717411303473, 1180591620717411303473), (1180591620717411303452, 1180591620717411303452), (1180591620717411303466, 1180591620717411303466), (20, 20), (0, 5)], [(some (.inl (6, 0)), [], [], [(0, 0), (1180591620717411303473, 1180591620717411303473), (1180591620717411303452, 1180591620717411303452), (1180591620717411303466, 1180591620717411303466), (20, 20), (0, 5), (-2147483648, 2147483647)])], [])
set_option maxRecDepth 200000 in
set_option maxHeartbeats 4000000 in
def T_X7_valueOf_21 : List (tb_S × tb_l) := []
set_option maxRecDepth 200000 in
set_option maxHeartbeats 4000000 in
theorem m_X7_valueOf_21 {l : Launch} : tb_Met l vwCl sa_Ts tb_Z0 yX7_valueOf cX7_valueOf 5 (some .int) 3 145 K_X7_valueOf_21 := tb_method (by decide) [43, 51, 54] (t_X7_valueOf [] [K_X9_lampOf_2]) T_X7_valueOf_21 [] 6000 (List.forall_mem_cons.mpr ⟨dX7_valueOf_43, List.forall_mem_cons.mpr ⟨dX7_valueOf_51, List.forall_mem_cons.mpr ⟨dX7_valueOf_54, fun _ h => absurd h List.not_mem_nil⟩⟩⟩) (h_X7_valueOf [] 3 145 (by decide) (by decide) [K_X9_lampOf_2] ⟨2, 120, List.forall_mem_cons.mpr ⟨m_X9_lampOf_2, fun _ h => absurd h List.not_mem_nil⟩, by decide, by decide, by decide⟩) (by decide) (by decide +kernel)
set_option maxRecDepth 200000 in
set_option maxHeartbeats 4000000 in
def K_X7_thingsCompared_21 : tb_K := ([.inr (.inl (some 1)), .inr (.inl (some 2)), .inr (.inl (some 3)), .inl (4, 0)], [], [], [(0, 0), (1180591620717411303473, 1180591620717411303473), (1180591620717411303452, 1180591620717411303452), (1180591620717411303466, 1180591620717411303466), (20, 20)], [(some (.inl (5, 0)), [], [], [(0, 0), (1180591620717411303473, 1180591620717411303473), (1180591620717411303452, 1180591620717411303452), (1180591620717411303466, 1180591620717411303466), (20, 20), (0, 255)])], [])
set_option maxRecDepth 200000 in
set_option maxHeartbeats 4000000 in
def T_X7_thingsCompared_21 : List (tb_S × tb_l) := [((6, [(0, .inr (.inl (some 1))), (1, .inr (.inl (some 2))), (2, .inr (.inl (some 3))), (3, .inl (4, 0)), (4, .inl (5, 0)), (5, .inl (6, 0))], [], ([], [], []), [(0, 0), (1180591620717411303473, 1180591620717411303473), (1180591620717411303452, 1180591620717411303452), (1180591620717411303466, 1180591620717411303466), (20, 20), (0, 255), (0, 6)], 0, 0), ([(6, (-1))], 6))]
set_option maxRecDepth 200000 in
set_option maxHeartbeats 4000000 in
theorem m_X7_thingsCompared_21 {l : Launch} : tb_Met l vwCl sa_Ts tb_Z0 yX7_thingsCompared cX7_thingsCompared 6 (some .int) 4 169 K_X7_thingsCompared_21 := tb_method (by decide) [59] (t_X7_thingsCompared [] [K_X7_valueOf_21] [K_X7_holds_1]) T_X7_thingsCompared_21 [6] 6000 (List.forall_mem_cons.mpr ⟨dX7_thingsCompared_59, fun _ h => absurd h List.not_mem_nil⟩) (h_X7_thingsCompared [] 4 169 (by decide) (by decide) [K_X7_valueOf_21] [K_X7_holds_1] ⟨3, 145, List.forall_mem_cons.mpr ⟨m_X7_valueOf_21, fun _ h => absurd h List.not_mem_nil⟩, by decide, by decide, by decide⟩ ⟨2, 120, List.forall_mem_cons.mpr ⟨m_X7_holds_1, fun _ h => absurd h List.not_mem_nil⟩, by decide, by decide, by decide⟩) (by decide) (by decide +kernel)
set_option maxRecDepth 200000 in
set_option maxHeartbeats 4000000 in
def K_X7_thingsOfStep_21 : tb_K := ([.inr (.inl (some 1)), .inr (.inl (some 2)), .inr (.inl (some 3)), .inl (4, 0)], [], [], [(0, 0), (1180591620717411303473, 1180591620717411303473), (1180591620717411303452, 1180591620717411303452), (1180591620717411303466, 1180591620717411303466), (20, 20)], [(some (.inl (5, 0)), [], [], [(0, 0), (1180591620717411303473, 1180591620717411303473), (1180591620717411303452, 1180591620717411303452), (1180591620717411303466, 1180591620717411303466), (20, 20), (-2147483648, 2147483647)])], [])
set_option maxRecDepth 200000 in
set_option maxHeartbeats 4000000 in
def T_X7_thingsOfStep_21 : List (tb_S × tb_l) := []
set_option maxRecDepth 200000 in
set_option maxHeartbeats 4000000 in
theorem m_X7_thingsOfStep_21 {l : Launch} : tb_Met l vwCl sa_Ts tb_Z0 yX7_thingsOfStep cX7_thingsOfStep 5 (some .int) 5 194 K_X7_thingsOfStep_21 := tb_method (by decide) [69, 76, 83, 101, 109, 117] (t_X7_thingsOfStep [] [K_X9_working_1] [K_X9_thingsIn_1] [K_X9_thingsIn_1] [K_X7_thingsCompared_21]) T_X7_thingsOfStep_21 [] 6000 (List.forall_mem_cons.mpr ⟨dX7_thingsOfStep_69, List.forall_mem_cons.mpr ⟨dX7_thingsOfStep_76, List.forall_mem_cons.mpr ⟨dX7_thingsOfStep_83, List.forall_mem_cons.mpr ⟨dX7_thingsOfStep_101, List.forall_mem_cons.mpr ⟨dX7_thingsOfStep_109, List.forall_mem_cons.mpr ⟨dX7_thingsOfStep_117, fun _ h => absurd h List.not_mem_nil⟩⟩⟩⟩⟩⟩) (h_X7_thingsOfStep [] 5 194 (by decide) (by decide) [K_X9_working_1] [K_X9_thingsIn_1] [K_X9_thingsIn_1] [K_X7_thingsCompared_21] ⟨2, 120, List.forall_mem_cons.mpr ⟨m_X9_working_1, fun _ h => absurd h List.not_mem_nil⟩, by decide, by decide, by decide⟩ ⟨2, 120, List.forall_mem_cons.mpr ⟨m_X9_thingsIn_1, fun _ h => absurd h List.not_mem_nil⟩, by decide, by decide, by decide⟩ ⟨2, 120, List.forall_mem_cons.mpr ⟨m_X9_thingsIn_1, fun _ h => absurd h List.not_mem_nil⟩, by decide, by decide, by decide⟩ ⟨4, 169, List.forall_mem_cons.mpr ⟨m_X7_thingsCompared_21, fun _ h => absurd h List.not_mem_nil⟩, by decide, by decide, by decide⟩) (by decide) (by decide +kernel)
set_option maxRecDepth 200000 in
set_option maxHeartbeats 4000000 in
def K_X7_valueOf_22 : tb_K := ([.inr (.inl (some 1)), .inr (.inl (some 2)), .inr (.inl (some 3)), .inl (4, 0), .inl (5, 0)], [], [], [(0, 0), (1180591620717411303473, 1180591620717411303473), (1180591620717411303452, 1180591620717411303452), (1180591620717411303466, 1180591620717411303466), (21, 21), (0, 5)], [(some (.inl (6, 0)), [], [], [(0, 0), (1180591620717411303473, 1180591620717411303473), (1180591620717411303452, 1180591620717411303452), (1180591620717411303466, 1180591620717411303466), (21, 21), (0, 5), (-2147483648, 2147483647)])], [])
set_option maxRecDepth 200000 in
set_option maxHeartbeats 4000000 in
def T_X7_valueOf_22 : List (tb_S × tb_l) := []
set_option maxRecDepth 200000 in
set_option maxHeartbeats 4000000 in
theorem m_X7_valueOf_22 {l : Launch} : tb_Met l vwCl sa_Ts tb_Z0 yX7_valueOf cX7_valueOf 5 (some .int) 3 145 K_X7_valueOf_22 := tb_method (by decide) [43, 51, 54] (t_X7_valueOf [] [K_X9_lampOf_2]) T_X7_valueOf_22 [] 6000 (List.forall_mem_cons.mpr ⟨dX7_valueOf_43, List.forall_mem_cons.mpr ⟨dX7_valueOf_51, List.forall_mem_cons.mpr ⟨dX7_valueOf_54, fun _ h => absurd h List.not_mem_nil⟩⟩⟩) (h_X7_valueOf [] 3 145 (by decide) (by decide) [K_X9_lampOf_2] ⟨2, 120, List.forall_mem_cons.mpr ⟨m_X9_lampOf_2, fun _ h => absurd h List.not_mem_nil⟩, by decide, by decide, by decide⟩) (by decide) (by decide +kernel)
set_option maxRecDepth 200000 in
set_option maxHeartbeats 4000000 in
def K_X7_thingsCompared_22 : tb_K := ([.inr (.inl (some 1)), .inr (.inl (some 2)), .inr (.inl (some 3)), .inl (4, 0)], [], [], [(0, 0), (1180591620717411303473, 1180591620717411303473), (1180591620717411303452, 1180591620717411303452), (1180591620717411303466, 1180591620717411303466), (21, 21)], [(some (.inl (5, 0)), [], [], [(0, 0), (1180591620717411303473, 1180591620717411303473), (1180591620717411303452, 1180591620717411303452), (1180591620717411303466, 1180591620717411303466), (21, 21), (0, 255)])], [])
set_option maxRecDepth 200000 in
set_option maxHeartbeats 4000000 in
def T_X7_thingsCompared_22 : List (tb_S × tb_l) := [((6, [(0, .inr (.inl (some 1))), (1, .inr (.inl (some 2))), (2, .inr (.inl (some 3))), (3, .inl (4, 0)), (4, .inl (5, 0)), (5, .inl (6, 0))], [], ([], [], []), [(0, 0), (1180591620717411303473, 1180591620717411303473), (1180591620717411303452, 1180591620717411303452), (1180591620717411303466, 1180591620717411303466), (21, 21), (0, 255), (0, 6)], 0, 0), ([(6, (-1))], 6))]
set_option maxRecDepth 200000 in
set_option maxHeartbeats 4000000 in
theorem m_X7_thingsCompared_22 {l : Launch} : tb_Met l vwCl sa_Ts tb_Z0 yX7_thingsCompared cX7_thingsCompared 6 (some .int) 4 169 K_X7_thingsCompared_22 := tb_method (by decide) [59] (t_X7_thingsCompared [] [K_X7_valueOf_22] [K_X7_holds_1]) T_X7_thingsCompared_22 [6] 6000 (List.forall_mem_cons.mpr ⟨dX7_thingsCompared_59, fun _ h => absurd h List.not_mem_nil⟩) (h_X7_thingsCompared [] 4 169 (by decide) (by decide) [K_X7_valueOf_22] [K_X7_holds_1] ⟨3, 145, List.forall_mem_cons.mpr ⟨m_X7_valueOf_22, fun _ h => absurd h List.not_mem_nil⟩, by decide, by decide, by decide⟩ ⟨2, 120, List.forall_mem_cons.mpr ⟨m_X7_holds_1, fun _ h => absurd h List.not_mem_nil⟩, by decide, by decide, by decide⟩) (by decide) (by decide +kernel)
set_option maxRecDepth 200000 in
set_option maxHeartbeats 4000000 in
def K_X7_thingsOfStep_22 : tb_K := ([.inr (.inl (some 1)), .inr (.inl (some 2)), .inr (.inl (some 3)), .inl (4, 0)], [], [], [(0, 0), (1180591620717411303473, 1180591620717411303473), (1180591620717411303452, 1180591620717411303452), (1180591620717411303466, 1180591620717411303466), (21, 21)], [(some (.inl (5, 0)), [], [], [(0, 0), (1180591620717411303473, 1180591620717411303473), (1180591620717411303452, 1180591620717411303452), (1180591620717411303466, 1180591620717411303466), (21, 21), (-2147483648, 2147483647)])], [])
set_option maxRecDepth 200000 in
set_option maxHeartbeats 4000000 in
def T_X7_thingsOfStep_22 : List (tb_S × tb_l) := []
set_option maxRecDepth 200000 in
set_option maxHeartbeats 4000000 in
theorem m_X7_thingsOfStep_22 {l : Launch} : tb_Met l vwCl sa_Ts tb_Z0 yX7_thingsOfStep cX7_thingsOfStep 5 (some .int) 5 194 K_X7_thingsOfStep_22 := tb_method (by decide) [69, 76, 83, 101, 109, 117] (t_X7_thingsOfStep [] [K_X9_working_1] [K_X9_thingsIn_1] [K_X9_thingsIn_1] [K_X7_thingsCompared_22]) T_X7_thingsOfStep_22 [] 6000 (List.forall_mem_cons.mpr ⟨dX7_thingsOfStep_69, List.forall_mem_cons.mpr ⟨dX7_thingsOfStep_76, List.forall_mem_cons.mpr ⟨dX7_thingsOfStep_83, List.forall_mem_cons.mpr ⟨dX7_thingsOfStep_101, List.forall_mem_cons.mpr ⟨dX7_thingsOfStep_109, List.forall_mem_cons.mpr ⟨dX7_thingsOfStep_117, fun _ h => absurd h List.not_mem_nil⟩⟩⟩⟩⟩⟩) (h_X7_thingsOfStep [] 5 194 (by decide) (by decide) [K_X9_working_1] [K_X9_thingsIn_1] [K_X9_thingsIn_1] [K_X7_thingsCompared_22] ⟨2, 120, List.forall_mem_cons.mpr ⟨m_X9_working_1, fun _ h => absurd h List.not_mem_nil⟩, by decide, by decide, by decide⟩ ⟨2, 120, List.forall_mem_cons.mpr ⟨m_X9_thingsIn_1, fun _ h => absurd h List.not_mem_nil⟩, by decide, by decide, by decide⟩ ⟨2, 120, List.forall_mem_cons.mpr ⟨m_X9_thingsIn_1, fun _ h => absurd h List.not_mem_nil⟩, by decide, by decide, by decide⟩ ⟨4, 169, List.forall_mem_cons.mpr ⟨m_X7_thingsCompared_22, fun _ h => absurd h List.not_mem_nil⟩, by decide, by decide, by decide⟩) (by decide) (by decide +kernel)
set_option maxRecDepth 200000 in
set_option maxHeartbeats 4000000 in
def K_X7_valueOf_23 : tb_K := ([.inr (.inl (some 1)), .inr (.inl (some 2)), .inr (.inl (some 3)), .inl (4, 0), .inl (5, 0)], [], [], [(0, 0), (1180591620717411303473, 1180591620717411303473), (1180591620717411303452, 1180591620717411303452), (1180591620717411303466, 1180591620717411303466), (22, 22), (0, 5)], [(some (.inl (6, 0)), [], [], [(0, 0), (1180591620717411303473, 1180591620717411303473), (1180591620717411303452, 1180591620717411303452), (1180591620717411303466, 1180591620717411303466), (22, 22), (0, 5), (-2147483648, 2147483647)])], [])
set_option maxRecDepth 200000 in
set_option maxHeartbeats 4000000 in
def T_X7_valueOf_23 : List (tb_S × tb_l) := []
set_option maxRecDepth 200000 in
set_option maxHeartbeats 4000000 in
theorem m_X7_valueOf_23 {l : Launch} : tb_Met l vwCl sa_Ts tb_Z0 yX7_valueOf cX7_valueOf 5 (some .int) 3 145 K_X7_valueOf_23 := tb_method (by decide) [43, 51, 54] (t_X7_valueOf [] [K_X9_lampOf_2]) T_X7_valueOf_23 [] 6000 (List.forall_mem_cons.mpr ⟨dX7_valueOf_43, List.forall_mem_cons.mpr ⟨dX7_valueOf_51, List.forall_mem_cons.mpr ⟨dX7_valueOf_54, fun _ h => absurd h List.not_mem_nil⟩⟩⟩) (h_X7_valueOf [] 3 145 (by decide) (by decide) [K_X9_lampOf_2] ⟨2, 120, List.forall_mem_cons.mpr ⟨m_X9_lampOf_2, fun _ h => absurd h List.not_mem_nil⟩, by decide, by decide, by decide⟩) (by decide) (by decide +kernel)
set_option maxRecDepth 200000 in
set_option maxHeartbeats 4000000 in
def K_X7_thingsCompared_23 : tb_K := ([.inr (.inl (some 1)), .inr (.inl (some 2)), .inr (.inl (some 3)), .inl (4, 0)], [], [], [(0, 0), (1180591620717411303473, 1180591620717411303473), (1180591620717411303452, 1180591620717411303452), (1180591620717411303466, 1180591620717411303466), (22, 22)], [(some (.inl (5, 0)), [], [], [(0, 0), (1180591620717411303473, 1180591620717411303473), (1180591620717411303452, 1180591620717411303452), (1180591620717411303466, 1180591620717411303466), (22, 22), (0, 255)])], [])
set_option maxRecDepth 200000 in
set_option maxHeartbeats 4000000 in
def T_X7_thingsCompared_23 : List (tb_S × tb_l) := [((6, [(0, .inr (.inl (some 1))), (1, .inr (.inl (some 2))), (2, .inr (.inl (some 3))), (3, .inl (4, 0)), (4, .inl (5, 0)), (5, .inl (6, 0))], [], ([], [], []), [(0, 0), (1180591620717411303473, 1180591620717411303473), (1180591620717411303452, 1180591620717411303452), (1180591620717411303466, 1180591620717411303466), (22, 22), (0, 255), (0, 6)], 0, 0), ([(6, (-1))], 6))]
set_option maxRecDepth 200000 in
set_option maxHeartbeats 4000000 in
theorem m_X7_thingsCompared_23 {l : Launch} : tb_Met l vwCl sa_Ts tb_Z0 yX7_thingsCompared cX7_thingsCompared 6 (some .int) 4 169 K_X7_thingsCompared_23 := tb_method (by decide) [59] (t_X7_thingsCompared [] [K_X7_valueOf_23] [K_X7_holds_1]) T_X7_thingsCompared_23 [6] 6000 (List.forall_mem_cons.mpr ⟨dX7_thingsCompared_59, fun _ h => absurd h List.not_mem_nil⟩) (h_X7_thingsCompared [] 4 169 (by decide) (by decide) [K_X7_valueOf_23] [K_X7_holds_1] ⟨3, 145, List.forall_mem_cons.mpr ⟨m_X7_valueOf_23, fun _ h => absurd h List.not_mem_nil⟩, by decide, by decide, by decide⟩ ⟨2, 120, List.forall_mem_cons.mpr ⟨m_X7_holds_1, fun _ h => absurd h List.not_mem_nil⟩, by decide, by decide, by decide⟩) (by decide) (by decide +kernel)
set_option maxRecDepth 200000 in
set_option maxHeartbeats 4000000 in
def K_X7_thingsOfStep_23 : tb_K := ([.inr (.inl (some 1)), .inr (.inl (some 2)), .inr (.inl (some 3)), .inl (4, 0)], [], [], [(0, 0), (1180591620717411303473, 1180591620717411303473), (1180591620717411303452, 1180591620717411303452), (1180591620717411303466, 1180591620717411303466), (22, 22)], [(some (.inl (5, 0)), [], [], [(0, 0), (1180591620717411303473, 1180591620717411303473), (1180591620717411303452, 1180591620717411303452), (1180591620717411303466, 1180591620717411303466), (22, 22), (-2147483648, 2147483647)])], [])
set_option maxRecDepth 200000 in
set_option maxHeartbeats 4000000 in
def T_X7_thingsOfStep_23 : List (tb_S × tb_l) := []
set_option maxRecDepth 200000 in
set_option maxHeartbeats 4000000 in
theorem m_X7_thingsOfStep_23 {l : Launch} : tb_Met l vwCl sa_Ts tb_Z0 yX7_thingsOfStep cX7_thingsOfStep 5 (some .int) 5 194 K_X7_thingsOfStep_23 := tb_method (by decide) [69, 76, 83, 101, 109, 117] (t_X7_thingsOfStep [] [K_X9_working_1] [K_X9_thingsIn_1] [K_X9_thingsIn_1] [K_X7_thingsCompared_23]) T_X7_thingsOfStep_23 [] 6000 (List.forall_mem_cons.mpr ⟨dX7_thingsOfStep_69, List.forall_mem_cons.mpr ⟨dX7_thingsOfStep_76, List.forall_mem_cons.mpr ⟨dX7_thingsOfStep_83, List.forall_mem_cons.mpr ⟨dX7_thingsOfStep_101, List.forall_mem_cons.mpr ⟨dX7_thingsOfStep_109, List.forall_mem_cons.mpr ⟨dX7_thingsOfStep_117, fun _ h => absurd h List.not_mem_nil⟩⟩⟩⟩⟩⟩) (h_X7_thingsOfStep [] 5 194 (by decide) (by decide) [K_X9_working_1] [K_X9_thingsIn_1] [K_X9_thingsIn_1] [K_X7_thingsCompared_23] ⟨2, 120, List.forall_mem_cons.mpr ⟨m_X9_working_1, fun _ h => absurd h List.not_mem_nil⟩, by decide, by decide, by decide⟩ ⟨2, 120, List.forall_mem_cons.mpr ⟨m_X9_thingsIn_1, fun _ h => absurd h List.not_mem_nil⟩, by decide, by decide, by decide⟩ ⟨2, 120, List.forall_mem_cons.mpr ⟨m_X9_thingsIn_1, fun _ h => absurd h List.not_mem_nil⟩, by decide, by decide, by decide⟩ ⟨4, 169, List.forall_mem_cons.mpr ⟨m_X7_thingsCompared_23, fun _ h => absurd h List.not_mem_nil⟩, by decide, by decide, by decide⟩) (by decide) (by decide +kernel)
set_option maxRecDepth 200000 in
set_option maxHeartbeats 4000000 in
def K_X7_valueOf_24 : tb_K := ([.inr (.inl (some 1)), .inr (.inl (some 2)), .inr (.inl (some 3)), .inl (4, 0), .inl (5, 0)], [], [], [(0, 0), (1180591620717411303473, 1180591620717411303473), (1180591620717411303452, 1180591620717411303452), (1180591620717411303466, 1180591620717411303466), (23, 23), (0, 5)], [(some (.inl (6, 0)), [], [], [(0, 0), (1180591620717411303473, 1180591620717411303473), (1180591620717411303452, 1180591620717411303452), (1180591620717411303466, 1180591620717411303466), (23, 23), (0, 5), (-2147483648, 2147483647)])], [])
set_option maxRecDepth 200000 in
set_option maxHeartbeats 4000000 in
def T_X7_valueOf_24 : List (tb_S × tb_l) := []
set_option maxRecDepth 200000 in
set_option maxHeartbeats 4000000 in
theorem m_X7_valueOf_24 {l : Launch} : tb_Met l vwCl sa_Ts tb_Z0 yX7_valueOf cX7_valueOf 5 (some .int) 3 145 K_X7_valueOf_24 := tb_method (by decide) [43, 51, 54] (t_X7_valueOf [] [K_X9_lampOf_2]) T_X7_valueOf_24 [] 6000 (List.forall_mem_cons.mpr ⟨dX7_valueOf_43, List.forall_mem_cons.mpr ⟨dX7_valueOf_51, List.forall_mem_cons.mpr ⟨dX7_valueOf_54, fun _ h => absurd h List.not_mem_nil⟩⟩⟩) (h_X7_valueOf [] 3 145 (by decide) (by decide) [K_X9_lampOf_2] ⟨2, 120, List.forall_mem_cons.mpr ⟨m_X9_lampOf_2, fun _ h => absurd h List.not_mem_nil⟩, by decide, by decide, by decide⟩) (by decide) (by decide +kernel)
set_option maxRecDepth 200000 in
set_option maxHeartbeats 4000000 in
def K_X7_thingsCompared_24 : tb_K := ([.inr (.inl (some 1)), .inr (.inl (some 2)), .inr (.inl (some 3)), .inl (4, 0)], [], [], [(0, 0), (1180591620717411303473, 1180591620717411303473), (1180591620717411303452, 1180591620717411303452), (1180591620717411303466, 1180591620717411303466), (23, 23)], [(some (.inl (5, 0)), [], [], [(0, 0), (1180591620717411303473, 1180591620717411303473), (1180591620717411303452, 1180591620717411303452), (1180591620717411303466, 1180591620717411303466), (23, 23), (0, 255)])], [])
set_option maxRecDepth 200000 in
set_option maxHeartbeats 4000000 in
def T_X7_thingsCompared_24 : List (tb_S × tb_l) := [((6, [(0, .inr (.inl (some 1))), (1, .inr (.inl (some 2))), (2, .inr (.inl (some 3))), (3, .inl (4, 0)), (4, .inl (5, 0)), (5, .inl (6, 0))], [], ([], [], []), [(0, 0), (1180591620717411303473, 1180591620717411303473), (1180591620717411303452, 1180591620717411303452), (1180591620717411303466, 1180591620717411303466), (23, 23), (0, 255), (0, 6)], 0, 0), ([(6, (-1))], 6))]
set_option maxRecDepth 200000 in
set_option maxHeartbeats 4000000 in
theorem m_X7_thingsCompared_24 {l : Launch} : tb_Met l vwCl sa_Ts tb_Z0 yX7_thingsCompared cX7_thingsCompared 6 (some .int) 4 169 K_X7_thingsCompared_24 := tb_method (by decide) [59] (t_X7_thingsCompared [] [K_X7_valueOf_24] [K_X7_holds_1]) T_X7_thingsCompared_24 [6] 6000 (List.forall_mem_cons.mpr ⟨dX7_thingsCompared_59, fun _ h => absurd h List.not_mem_nil⟩) (h_X7_thingsCompared [] 4 169 (by decide) (by decide) [K_X7_valueOf_24] [K_X7_holds_1] ⟨3, 145, List.forall_mem_cons.mpr ⟨m_X7_valueOf_24, fun _ h => absurd h List.not_mem_nil⟩, by decide, by decide, by decide⟩ ⟨2, 120, List.forall_mem_cons.mpr ⟨m_X7_holds_1, fun _ h => absurd h List.not_mem_nil⟩, by decide, by decide, by decide⟩) (by decide) (by decide +kernel)
set_option maxRecDepth 200000 in
set_option maxHeartbeats 4000000 in
def K_X7_thingsOfStep_24 : tb_K := ([.inr (.inl (some 1)), .inr (.inl (some 2)), .inr (.inl (some 3)), .inl (4, 0)], [], [], [(0, 0), (1180591620717411303473, 1180591620717411303473), (1180591620717411303452, 1180591620717411303452), (1180591620717411303466, 1180591620717411303466), (23, 23)], [(some (.inl (5, 0)), [], [], [(0, 0), (1180591620717411303473, 1180591620717411303473), (1180591620717411303452, 1180591620717411303452), (1180591620717411303466, 1180591620717411303466), (23, 23), (-2147483648, 2147483647)])], [])
set_option maxRecDepth 200000 in
set_option maxHeartbeats 4000000 in
def T_X7_thingsOfStep_24 : List (tb_S × tb_l) := []
set_option maxRecDepth 200000 in
set_option maxHeartbeats 4000000 in
theorem m_X7_thingsOfStep_24 {l : Launch} : tb_Met l vwCl sa_Ts tb_Z0 yX7_thingsOfStep cX7_thingsOfStep 5 (some .int) 5 194 K_X7_thingsOfStep_24 := tb_method (by decide) [69, 76, 83, 101, 109, 117] (t_X7_thingsOfStep [] [K_X9_working_1] [K_X9_thingsIn_1] [K_X9_thingsIn_1] [K_X7_thingsCompared_24]) T_X7_thingsOfStep_24 [] 6000 (List.forall_mem_cons.mpr ⟨dX7_thingsOfStep_69, List.forall_mem_cons.mpr ⟨dX7_thingsOfStep_76, List.forall_mem_cons.mpr ⟨dX7_thingsOfStep_83, List.forall_mem_cons.mpr ⟨dX7_thingsOfStep_101, List.forall_mem_cons.mpr ⟨dX7_thingsOfStep_109, List.forall_mem_cons.mpr ⟨dX7_thingsOfStep_117, fun _ h => absurd h List.not_mem_nil⟩⟩⟩⟩⟩⟩) (h_X7_thingsOfStep [] 5 194 (by decide) (by decide) [K_X9_working_1] [K_X9_thingsIn_1] [K_X9_thingsIn_1] [K_X7_thingsCompared_24] ⟨2, 120, List.forall_mem_cons.mpr ⟨m_X9_working_1, fun _ h => absurd h List.not_mem_nil⟩, by decide, by decide, by decide⟩ ⟨2, 120, List.forall_mem_cons.mpr ⟨m_X9_thingsIn_1, fun _ h => absurd h List.not_mem_nil⟩, by decide, by decide, by decide⟩ ⟨2, 120, List.forall_mem_cons.mpr ⟨m_X9_thingsIn_1, fun _ h => absurd h List.not_mem_nil⟩, by decide, by decide, by decide⟩ ⟨4, 169, List.forall_mem_cons.mpr ⟨m_X7_thingsCompared_24, fun _ h => absurd h List.not_mem_nil⟩, by decide, by decide, by decide⟩) (by decide) (by decide +kernel)
set_option maxRecDepth 200000 in
set_option maxHeartbeats 4000000 in
def K_X7_valueOf_25 : tb_K := ([.inr (.inl (some 1)), .inr (.inl (some 2)), .inr (.inl (some 3)), .inl (4, 0), .inl (5, 0)], [], [], [(0, 0), (1180591620717411303473, 1180591620717411303473), (1180591620717411303452, 1180591620717411303452), (1180591620717411303466, 1180591620717411303466), (24, 24), (0, 5)], [(some (.inl (6, 0)), [], [], [(0, 0), (1180591620717411303473, 1180591620717411303473), (1180591620717411303452, 1180591620717411303452), (1180591620717411303466, 1180591620717411303466), (24, 24), (0, 5), (-2147483648, 2147483647)])], [])
set_option maxRecDepth 200000 in
set_option maxHeartbeats 4000000 in
def T_X7_valueOf_25 : List (tb_S × tb_l) := []
set_option maxRecDepth 200000 in
set_option maxHeartbeats 4000000 in
theorem m_X7_valueOf_25 {l : Launch} : tb_Met l vwCl sa_Ts tb_Z0 yX7_valueOf cX7_valueOf 5 (some .int) 3 145 K_X7_valueOf_25 := tb_method (by decide) [43, 51, 54] (t_X7_valueOf [] [K_X9_lampOf_2]) T_X7_valueOf_25 [] 6000 (List.forall_mem_cons.mpr ⟨dX7_valueOf_43, List.forall_mem_cons.mpr ⟨dX7_valueOf_51, List.forall_mem_cons.mpr ⟨dX7_valueOf_54, fun _ h => absurd h List.not_mem_nil⟩⟩⟩) (h_X7_valueOf [] 3 145 (by decide) (by decide) [K_X9_lampOf_2] ⟨2, 120, List.forall_mem_cons.mpr ⟨m_X9_lampOf_2, fun _ h => absurd h List.not_mem_nil⟩, by decide, by decide, by decide⟩) (by decide) (by decide +kernel)
set_option maxRecDepth 200000 in
set_option maxHeartbeats 4000000 in
def K_X7_thingsCompared_25 : tb_K := ([.inr (.inl (some 1)), .inr (.inl (some 2)), .inr (.inl (some 3)), .inl (4, 0)], [], [], [(0, 0), (1180591620717411303473, 1180591620717411303473), (1180591620717411303452, 1180591620717411303452), (1180591620717411303466, 1180591620717411303466), (24, 24)], [(some (.inl (5, 0)), [], [], [(0, 0), (1180591620717411303473, 1180591620717411303473), (1180591620717411303452, 1180591620717411303452), (1180591620717411303466, 1180591620717411303466), (24, 24), (0, 255)])], [])
set_option maxRecDepth 200000 in
set_option maxHeartbeats 4000000 in
def T_X7_thingsCompared_25 : List (tb_S × tb_l) := [((6, [(0, .inr (.inl (some 1))), (1, .inr (.inl (some 2))), (2, .inr (.inl (some 3))), (3, .inl (4, 0)), (4, .inl (5, 0)), (5, .inl (6, 0))], [], ([], [], []), [(0, 0), (1180591620717411303473, 1180591620717411303473), (1180591620717411303452, 1180591620717411303452), (1180591620717411303466, 1180591620717411303466), (24, 24), (0, 255), (0, 6)], 0, 0), ([(6, (-1))], 6))]
set_option maxRecDepth 200000 in
set_option maxHeartbeats 4000000 in
theorem m_X7_thingsCompared_25 {l : Launch} : tb_Met l vwCl sa_Ts tb_Z0 yX7_thingsCompared cX7_thingsCompared 6 (some .int) 4 169 K_X7_thingsCompared_25 := tb_method (by decide) [59] (t_X7_thingsCompared [] [K_X7_valueOf_25] [K_X7_holds_1]) T_X7_thingsCompared_25 [6] 6000 (List.forall_mem_cons.mpr ⟨dX7_thingsCompared_59, fun _ h => absurd h List.not_mem_nil⟩) (h_X7_thingsCompared [] 4 169 (by decide) (by decide) [K_X7_valueOf_25] [K_X7_holds_1] ⟨3, 145, List.forall_mem_cons.mpr ⟨m_X7_valueOf_25, fun _ h => absurd h List.not_mem_nil⟩, by decide, by decide, by decide⟩ ⟨2, 120, List.forall_mem_cons.mpr ⟨m_X7_holds_1, fun _ h => absurd h List.not_mem_nil⟩, by decide, by decide, by decide⟩) (by decide) (by decide +kernel)
set_option maxRecDepth 200000 in
set_option maxHeartbeats 4000000 in
def K_X7_thingsOfStep_25 : tb_K := ([.inr (.inl (some 1)), .inr (.inl (some 2)), .inr (.inl (some 3)), .inl (4, 0)], [], [], [(0, 0), (1180591620717411303473, 1180591620717411303473), (1180591620717411303452, 1180591620717411303452), (1180591620717411303466, 1180591620717411303466), (24, 24)], [(some (.inl (5, 0)), [], [], [(0, 0), (1180591620717411303473, 1180591620717411303473), (1180591620717411303452, 1180591620717411303452), (1180591620717411303466, 1180591620717411303466), (24, 24), (-2147483648, 2147483647)])], [])
set_option maxRecDepth 200000 in
set_option maxHeartbeats 4000000 in
def T_X7_thingsOfStep_25 : List (tb_S × tb_l) := []
set_option maxRecDepth 200000 in
set_option maxHeartbeats 4000000 in
theorem m_X7_thingsOfStep_25 {l : Launch} : tb_Met l vwCl sa_Ts tb_Z0 yX7_thingsOfStep cX7_thingsOfStep 5 (some .int) 5 194 K_X7_thingsOfStep_25 := tb_method (by decide) [69, 76, 83, 101, 109, 117] (t_X7_thingsOfStep [] [K_X9_working_1] [K_X9_thingsIn_1] [K_X9_thingsIn_1] [K_X7_thingsCompared_25]) T_X7_thingsOfStep_25 [] 6000 (List.forall_mem_cons.mpr ⟨dX7_thingsOfStep_69, List.forall_mem_cons.mpr ⟨dX7_thingsOfStep_76, List.forall_mem_cons.mpr ⟨dX7_thingsOfStep_83, List.forall_mem_cons.mpr ⟨dX7_thingsOfStep_101, List.forall_mem_cons.mpr ⟨dX7_thingsOfStep_109, List.forall_mem_cons.mpr ⟨dX7_thingsOfStep_117, fun _ h => absurd h List.not_mem_nil⟩⟩⟩⟩⟩⟩) (h_X7_thingsOfStep [] 5 194 (by decide) (by decide) [K_X9_working_1] [K_X9_thingsIn_1] [K_X9_thingsIn_1] [K_X7_thingsCompared_25] ⟨2, 120, List.forall_mem_cons.mpr ⟨m_X9_working_1, fun _ h => absurd h List.not_mem_nil⟩, by decide, by decide, by decide⟩ ⟨2, 120, List.forall_mem_cons.mpr ⟨m_X9_thingsIn_1, fun _ h => absurd h List.not_mem_nil⟩, by decide, by decide, by decide⟩ ⟨2, 120, List.forall_mem_cons.mpr ⟨m_X9_thingsIn_1, fun _ h => absurd h List.not_mem_nil⟩, by decide, by decide, by decide⟩ ⟨4, 169, List.forall_mem_cons.mpr ⟨m_X7_thingsCompared_25, fun _ h => absurd h List.not_mem_nil⟩, by decide, by decide, by decide⟩) (by decide) (by decide +kernel)
set_option maxRecDepth 200000 in
set_option maxHeartbeats 4000000 in
def K_X7_valueOf_26 : tb_K := ([.inr (.inl (some 1)), .inr (.inl (some 2)), .inr (.inl (some 3)), .inl (4, 0), .inl (5, 0)], [], [], [(0, 0), (1180591620717411303473, 1180591620717411303473), (1180591620717411303452, 1180591620717411303452), (1180591620717411303466, 1180591620717411303466), (25, 25), (0, 5)], [(some (.inl (6, 0)), [], [], [(0, 0), (1180591620717411303473, 1180591620717411303473), (1180591620717411303452, 1180591620717411303452), (1180591620717411303466, 1180591620717411303466), (25, 25), (0, 5), (-2147483648, 2147483647)])], [])
set_option maxRecDepth 200000 in
set_option maxHeartbeats 4000000 in
def T_X7_valueOf_26 : List (tb_S × tb_l) := []
set_option maxRecDepth 200000 in
set_option maxHeartbeats 4000000 in
theorem m_X7_valueOf_26 {l : Launch} : tb_Met l vwCl sa_Ts tb_Z0 yX7_valueOf cX7_valueOf 5 (some .int) 3 145 K_X7_valueOf_26 := tb_method (by decide) [43, 51, 54] (t_X7_valueOf [] [K_X9_lampOf_2]) T_X7_valueOf_26 [] 6000 (List.forall_mem_cons.mpr ⟨dX7_valueOf_43, List.forall_mem_cons.mpr ⟨dX7_valueOf_51, List.forall_mem_cons.mpr ⟨dX7_valueOf_54, fun _ h => absurd h List.not_mem_nil⟩⟩⟩) (h_X7_valueOf [] 3 145 (by decide) (by decide) [K_X9_lampOf_2] ⟨2, 120, List.forall_mem_cons.mpr ⟨m_X9_lampOf_2, fun _ h => absurd h List.not_mem_nil⟩, by decide, by decide, by decide⟩) (by decide) (by decide +kernel)
set_option maxRecDepth 200000 in
set_option maxHeartbeats 4000000 in
def K_X7_thingsCompared_26 : tb_K := ([.inr (.inl (some 1)), .inr (.inl (some 2)), .inr (.inl (some 3)), .inl (4, 0)], [], [], [(0, 0), (1180591620717411303473, 1180591620717411303473), (1180591620717411303452, 1180591620717411303452), (1180591620717411303466, 1180591620717411303466), (25, 25)], [(some (.inl (5, 0)), [], [], [(0, 0), (1180591620717411303473, 1180591620717411303473), (1180591620717411303452, 1180591620717411303452), (1180591620717411303466, 1180591620717411303466), (25, 25), (0, 255)])], [])
set_option maxRecDepth 200000 in
set_option maxHeartbeats 4000000 in
def T_X7_thingsCompared_26 : List (tb_S × tb_l) := [((6, [(0, .inr (.inl (some 1))), (1, .inr (.inl (some 2))), (2, .inr (.inl (some 3))), (3, .inl (4, 0)), (4, .inl (5, 0)), (5, .inl (6, 0))], [], ([], [], []), [(0, 0), (1180591620717411303473, 1180591620717411303473), (1180591620717411303452, 1180591620717411303452), (1180591620717411303466, 1180591620717411303466), (25, 25), (0, 255), (0, 6)], 0, 0), ([(6, (-1))], 6))]
set_option maxRecDepth 200000 in
set_option maxHeartbeats 4000000 in
theorem m_X7_thingsCompared_26 {l : Launch} : tb_Met l vwCl sa_Ts tb_Z0 yX7_thingsCompared cX7_thingsCompared 6 (some .int) 4 169 K_X7_thingsCompared_26 := tb_method (by decide) [59] (t_X7_thingsCompared [] [K_X7_valueOf_26] [K_X7_holds_1]) T_X7_thingsCompared_26 [6] 6000 (List.forall_mem_cons.mpr ⟨dX7_thingsCompared_59, fun _ h => absurd h List.not_mem_nil⟩) (h_X7_thingsCompared [] 4 169 (by decide) (by decide) [K_X7_valueOf_26] [K_X7_holds_1] ⟨3, 145, List.forall_mem_cons.mpr ⟨m_X7_valueOf_26, fun _ h => absurd h List.not_mem_nil⟩, by decide, by decide, by decide⟩ ⟨2, 120, List.forall_mem_cons.mpr ⟨m_X7_holds_1, fun _ h => absurd h List.not_mem_nil⟩, by decide, by decide, by decide⟩) (by decide) (by decide +kernel)
set_option maxRecDepth 200000 in
set_option maxHeartbeats 4000000 in
def K_X7_thingsOfStep_26 : tb_K := ([.inr (.inl (some 1)), .inr (.inl (some 2)), .inr (.inl (some 3)), .inl (4, 0)], [], [], [(0, 0), (1180591620717411303473, 1180591620717411303473), (1180591620717411303452, 1180591620717411303452), (1180591620717411303466, 1180591620717411303466), (25, 25)], [(some (.inl (5, 0)), [], [], [(0, 0), (1180591620717411303473, 1180591620717411303473), (1180591620717411303452, 1180591620717411303452), (1180591620717411303466, 1180591620717411303466), (25, 25), (-2147483648, 2147483647)])], [])
set_option maxRecDepth 200000 in
set_option maxHeartbeats 4000000 in
def T_X7_thingsOfStep_26 : List (tb_S × tb_l) := []
set_option maxRecDepth 200000 in
set_option maxHeartbeats 4000000 in
theorem m_X7_thingsOfStep_26 {l : Launch} : tb_Met l vwCl sa_Ts tb_Z0 yX7_thingsOfStep cX7_thingsOfStep 5 (some .int) 5 194 K_X7_thingsOfStep_26 := tb_method (by decide) [69, 76, 83, 101, 109, 117] (t_X7_thingsOfStep [] [K_X9_working_1] [K_X9_thingsIn_1] [K_X9_thingsIn_1] [K_X7_thingsCompared_26]) T_X7_thingsOfStep_26 [] 6000 (List.forall_mem_cons.mpr ⟨dX7_thingsOfStep_69, List.forall_mem_cons.mpr ⟨dX7_thingsOfStep_76, List.forall_mem_cons.mpr ⟨dX7_thingsOfStep_83, List.forall_mem_cons.mpr ⟨dX7_thingsOfStep_101, List.forall_mem_cons.mpr ⟨dX7_thingsOfStep_109, List.forall_mem_cons.mpr ⟨dX7_thingsOfStep_117, fun _ h => absurd h List.not_mem_nil⟩⟩⟩⟩⟩⟩) (h_X7_thingsOfStep [] 5 194 (by decide) (by decide) [K_X9_working_1] [K_X9_thingsIn_1] [K_X9_thingsIn_1] [K_X7_thingsCompared_26] ⟨2, 120, List.forall_mem_cons.mpr ⟨m_X9_working_1, fun _ h => absurd h List.not_mem_nil⟩, by decide, by decide, by decide⟩ ⟨2, 120, List.forall_mem_cons.mpr ⟨m_X9_thingsIn_1, fun _ h => absurd h List.not_mem_nil⟩, by decide, by decide, by decide⟩ ⟨2, 120, List.forall_mem_cons.mpr ⟨m_X9_thingsIn_1, fun _ h => absurd h List.not_mem_nil⟩, by decide, by decide, by decide⟩ ⟨4, 169, List.forall_mem_cons.mpr ⟨m_X7_thingsCompared_26, fun _ h => absurd h List.not_mem_nil⟩, by decide, by decide, by decide⟩) (by decide) (by decide +kernel)
set_option maxRecDepth 200000 in
set_option maxHeartbeats 4000000 in
def K_X7_valueOf_27 : tb_K := ([.inr (.inl (some 1)), .inr (.inl (some 2)), .inr (.inl (some 3)), .inl (4, 0), .inl (5, 0)], [], [], [(0, 0), (1180591620717411303473, 1180591620717411303473), (1180591620717411303452, 1180591620717411303452), (1180591620717411303466, 1180591620717411303466), (26, 26), (0, 5)], [(some (.inl (6, 0)), [], [], [(0, 0), (1180591620717411303473, 1180591620717411303473), (1180591620717411303452, 1180591620717411303452), (1180591620717411303466, 1180591620717411303466), (26, 26), (0, 5), (-2147483648, 2147483647)])], [])
set_option maxRecDepth 200000 in
set_option maxHeartbeats 4000000 in
def T_X7_valueOf_27 : List (tb_S × tb_l) := []
set_option maxRecDepth 200000 in
set_option maxHeartbeats 4000000 in
theorem m_X7_valueOf_27 {l : Launch} : tb_Met l vwCl sa_Ts tb_Z0 yX7_valueOf cX7_valueOf 5 (some .int) 3 145 K_X7_valueOf_27 := tb_method (by decide) [43, 51, 54] (t_X7_valueOf [] [K_X9_lampOf_2]) T_X7_valueOf_27 [] 6000 (List.forall_mem_cons.mpr ⟨dX7_valueOf_43, List.forall_mem_cons.mpr ⟨dX7_valueOf_51, List.forall_mem_cons.mpr ⟨dX7_valueOf_54, fun _ h => absurd h List.not_mem_nil⟩⟩⟩) (h_X7_valueOf [] 3 145 (by decide) (by decide) [K_X9_lampOf_2] ⟨2, 120, List.forall_mem_cons.mpr ⟨m_X9_lampOf_2, fun _ h => absurd h List.not_mem_nil⟩, by decide, by decide, by decide⟩) (by decide) (by decide +kernel)
set_option maxRecDepth 200000 in
set_option maxHeartbeats 4000000 in
def K_X7_thingsCompared_27 : tb_K := ([.inr (.inl (some 1)), .inr (.inl (some 2)), .inr (.inl (some 3)), .inl (4, 0)], [], [], [(0, 0), (1180591620717411303473, 1180591620717411303473), (1180591620717411303452, 1180591620717411303452), (1180591620717411303466, 1180591620717411303466), (26, 26)], [(some (.inl (5, 0)), [], [], [(0, 0), (1180591620717411303473, 1180591620717411303473), (1180591620717411303452, 1180591620717411303452), (1180591620717411303466, 1180591620717411303466), (26, 26), (0, 255)])], [])
set_option maxRecDepth 200000 in
set_option maxHeartbeats 4000000 in
def T_X7_thingsCompared_27 : List (tb_S × tb_l) := [((6, [(0, .inr (.inl (some 1))), (1, .inr (.inl (some 2))), (2, .inr (.inl (some 3))), (3, .inl (4, 0)), (4, .inl (5, 0)), (5, .inl (6, 0))], [], ([], [], []), [(0, 0), (1180591620717411303473, 1180591620717411303473), (1180591620717411303452, 1180591620717411303452), (1180591620717411303466, 1180591620717411303466), (26, 26), (0, 255), (0, 6)], 0, 0), ([(6, (-1))], 6))]
set_option maxRecDepth 200000 in
set_option maxHeartbeats 4000000 in
theorem m_X7_thingsCompared_27 {l : Launch} : tb_Met l vwCl sa_Ts tb_Z0 yX7_thingsCompared cX7_thingsCompared 6 (some .int) 4 169 K_X7_thingsCompared_27 := tb_method (by decide) [59] (t_X7_thingsCompared [] [K_X7_valueOf_27] [K_X7_holds_1]) T_X7_thingsCompared_27 [6] 6000 (List.forall_mem_cons.mpr ⟨dX7_thingsCompared_59, fun _ h => absurd h List.not_mem_nil⟩) (h_X7_thingsCompared [] 4 169 (by decide) (by decide) [K_X7_valueOf_27] [K_X7_holds_1] ⟨3, 145, List.forall_mem_cons.mpr ⟨m_X7_valueOf_27, fun _ h => absurd h List.not_mem_nil⟩, by decide, by decide, by decide⟩ ⟨2, 120, List.forall_mem_cons.mpr ⟨m_X7_holds_1, fun _ h => absurd h List.not_mem_nil⟩, by decide, by decide, by decide⟩) (by decide) (by decide +kernel)
set_option maxRecDepth 200000 in
set_option maxHeartbeats 4000000 in
def K_X7_thingsOfStep_27 : tb_K := ([.inr (.inl (some 1)), .inr (.inl (some 2)), .inr (.inl (some 3)), .inl (4, 0)], [], [], [(0, 0), (1180591620717411303473, 1180591620717411303473), (1180591620717411303452, 1180591620717411303452), (1180591620717411303466, 1180591620717411303466), (26, 26)], [(some (.inl (5, 0)), [], [], [(0, 0), (1180591620717411303473, 1180591620717411303473), (1180591620717411303452, 1180591620717411303452), (1180591620717411303466, 1180591620717411303466), (26, 26), (-2147483648, 2147483647)])], [])
set_option maxRecDepth 200000 in
set_option maxHeartbeats 4000000 in
def T_X7_thingsOfStep_27 : List (tb_S × tb_l) := []
set_option maxRecDepth 200000 in
set_option maxHeartbeats 4000000 in
theorem m_X7_thingsOfStep_27 {l : Launch} : tb_Met l vwCl sa_Ts tb_Z0 yX7_thingsOfStep cX7_thingsOfStep 5 (some .int) 5 194 K_X7_thingsOfStep_27 := tb_method (by decide) [69, 76, 83, 101, 109, 117] (t_X7_thingsOfStep [] [K_X9_working_1] [K_X9_thingsIn_1] [K_X9_thingsIn_1] [K_X7_thingsCompared_27]) T_X7_thingsOfStep_27 [] 6000 (List.forall_mem_cons.mpr ⟨dX7_thingsOfStep_69, List.forall_mem_cons.mpr ⟨dX7_thingsOfStep_76, List.forall_mem_cons.mpr ⟨dX7_thingsOfStep_83, List.forall_mem_cons.mpr ⟨dX7_thingsOfStep_101, List.forall_mem_cons.mpr ⟨dX7_thingsOfStep_109, List.forall_mem_cons.mpr ⟨dX7_thingsOfStep_117, fun _ h => absurd h List.not_mem_nil⟩⟩⟩⟩⟩⟩) (h_X7_thingsOfStep [] 5 194 (by decide) (by decide) [K_X9_working_1] [K_X9_thingsIn_1] [K_X9_thingsIn_1] [K_X7_thingsCompared_27] ⟨2, 120, List.forall_mem_cons.mpr ⟨m_X9_working_1, fun _ h => absurd h List.not_mem_nil⟩, by decide, by decide, by decide⟩ ⟨2, 120, List.forall_mem_cons.mpr ⟨m_X9_thingsIn_1, fun _ h => absurd h List.not_mem_nil⟩, by decide, by decide, by decide⟩ ⟨2, 120, List.forall_mem_cons.mpr ⟨m_X9_thingsIn_1, fun _ h => absurd h List.not_mem_nil⟩, by decide, by decide, by decide⟩ ⟨4, 169, List.forall_mem_cons.mpr ⟨m_X7_thingsCompared_27, fun _ h => absurd h List.not_mem_nil⟩, by decide, by decide, by decide⟩) (by decide) (by decide +kernel)
set_option maxRecDepth 200000 in
set_option maxHeartbeats 4000000 in
def K_X7_valueOf_28 : tb_K := ([.inr (.inl (some 1)), .inr (.inl (some 2)), .inr (.inl (some 3)), .inl (4, 0), .inl (5, 0)], [], [], [(0, 0), (1180591620717411303473, 1180591620717411303473), (1180591620717411303452, 1180591620717411303452), (1180591620717411303466, 1180591620717411303466), (27, 27), (0, 5)], [(some (.inl (6, 0)), [], [], [(0, 0), (1180591620717411303473, 1180591620717411303473), (1180591620717411303452, 1180591620717411303452), (1180591620717411303466, 1180591620717411303466), (27, 27), (0, 5), (-2147483648, 2147483647)])], [])
set_option maxRecDepth 200000 in
set_option maxHeartbeats 4000000 in
def T_X7_valueOf_28 : List (tb_S × tb_l) := []
set_option maxRecDepth 200000 in
set_option maxHeartbeats 4000000 in
theorem m_X7_valueOf_28 {l : Launch} : tb_Met l vwCl sa_Ts tb_Z0 yX7_valueOf cX7_valueOf 5 (some .int) 3 145 K_X7_valueOf_28 := tb_method (by decide) [43, 51, 54] (t_X7_valueOf [] [K_X9_lampOf_2]) T_X7_valueOf_28 [] 6000 (List.forall_mem_cons.mpr ⟨dX7_valueOf_43, List.forall_mem_cons.mpr ⟨dX7_valueOf_51, List.forall_mem_cons.mpr ⟨dX7_valueOf_54, fun _ h => absurd h List.not_mem_nil⟩⟩⟩) (h_X7_valueOf [] 3 145 (by decide) (by decide) [K_X9_lampOf_2] ⟨2, 120, List.forall_mem_cons.mpr ⟨m_X9_lampOf_2, fun _ h => absurd h List.not_mem_nil⟩, by decide, by decide, by decide⟩) (by decide) (by decide +kernel)
set_option maxRecDepth 200000 in
set_option maxHeartbeats 4000000 in
def K_X7_thingsCompared_28 : tb_K := ([.inr (.inl (some 1)), .inr (.inl (some 2)), .inr (.inl (some 3)), .inl (4, 0)], [], [], [(0, 0), (1180591620717411303473, 1180591620717411303473), (1180591620717411303452, 1180591620717411303452), (1180591620717411303466, 1180591620717411303466), (27, 27)], [(some (.inl (5, 0)), [], [], [(0, 0), (1180591620717411303473, 1180591620717411303473), (1180591620717411303452, 1180591620717411303452), (1180591620717411303466, 1180591620717411303466), (27, 27), (0, 255)])], [])
set_option maxRecDepth 200000 in
set_option maxHeartbeats 4000000 in
def T_X7_thingsCompared_28 : List (tb_S × tb_l) := [((6, [(0, .inr (.inl (some 1))), (1, .inr (.inl (some 2))), (2, .inr (.inl (some 3))), (3, .inl (4, 0)), (4, .inl (5, 0)), (5, .inl (6, 0))], [], ([], [], []), [(0, 0), (1180591620717411303473, 1180591620717411303473), (1180591620717411303452, 1180591620717411303452), (1180591620717411303466, 1180591620717411303466), (27, 27), (0, 255), (0, 6)], 0, 0), ([(6, (-1))], 6))]
set_option maxRecDepth 200000 in
set_option maxHeartbeats 4000000 in
theorem m_X7_thingsCompared_28 {l : Launch} : tb_Met l vwCl sa_Ts tb_Z0 yX7_thingsCompared cX7_thingsCompared 6 (some .int) 4 169 K_X7_thingsCompared_28 := tb_method (by decide) [59] (t_X7_thingsCompared [] [K_X7_valueOf_28] [K_X7_holds_1]) T_X7_thingsCompared_28 [6] 6000 (List.forall_mem_cons.mpr ⟨dX7_thingsCompared_59, fun _ h => absurd h List.not_mem_nil⟩) (h_X7_thingsCompared [] 4 169 (by decide) (by decide) [K_X7_valueOf_28] [K_X7_holds_1] ⟨3, 145, List.forall_mem_cons.mpr ⟨m_X7_valueOf_28, fun _ h => absurd h List.not_mem_nil⟩, by decide, by decide, by decide⟩ ⟨2, 120, List.forall_mem_cons.mpr ⟨m_X7_holds_1, fun _ h => absurd h List.not_mem_nil⟩, by decide, by decide, by decide⟩) (by decide) (by decide +kernel)
set_option maxRecDepth 200000 in
set_option maxHeartbeats 4000000 in
def K_X7_thingsOfStep_28 : tb_K := ([.inr (.inl (some 1)), .inr (.inl (some 2)), .inr (.inl (some 3)), .inl (4, 0)], [], [], [(0, 0), (1180591620717411303473, 1180591620717411303473), (1180591620717411303452, 1180591620717411303452), (1180591620717411303466, 1180591620717411303466), (27, 27)], [(some (.inl (5, 0)), [], [], [(0, 0), (1180591620717411303473, 1180591620717411303473), (1180591620717411303452, 1180591620717411303452), (1180591620717411303466, 1180591620717411303466), (27, 27), (-2147483648, 2147483647)])], [])
set_option maxRecDepth 200000 in
set_option maxHeartbeats 4000000 in
def T_X7_thingsOfStep_28 : List (tb_S × tb_l) := []
set_option maxRecDepth 200000 in
set_option maxHeartbeats 4000000 in
theorem m_X7_thingsOfStep_28 {l : Launch} : tb_Met l vwCl sa_Ts tb_Z0 yX7_thingsOfStep cX7_thingsOfStep 5 (some .int) 5 194 K_X7_thingsOfStep_28 := tb_method (by decide) [69, 76, 83, 101, 109, 117] (t_X7_thingsOfStep [] [K_X9_working_1] [K_X9_thingsIn_1] [K_X9_thingsIn_1] [K_X7_thingsCompared_28]) T_X7_thingsOfStep_28 [] 6000 (List.forall_mem_cons.mpr ⟨dX7_thingsOfStep_69, List.forall_mem_cons.mpr ⟨dX7_thingsOfStep_76, List.forall_mem_cons.mpr ⟨dX7_thingsOfStep_83, List.forall_mem_cons.mpr ⟨dX7_thingsOfStep_101, List.forall_mem_cons.mpr ⟨dX7_thingsOfStep_109, List.forall_mem_cons.mpr ⟨dX7_thingsOfStep_117, fun _ h => absurd h List.not_mem_nil⟩⟩⟩⟩⟩⟩) (h_X7_thingsOfStep [] 5 194 (by decide) (by decide) [K_X9_working_1] [K_X9_thingsIn_1] [K_X9_thingsIn_1] [K_X7_thingsCompared_28] ⟨2, 120, List.forall_mem_cons.mpr ⟨m_X9_working_1, fun _ h => absurd h List.not_mem_nil⟩, by decide, by decide, by decide⟩ ⟨2, 120, List.forall_mem_cons.mpr ⟨m_X9_thingsIn_1, fun _ h => absurd h List.not_mem_nil⟩, by decide, by decide, by decide⟩ ⟨2, 120, List.forall_mem_cons.mpr ⟨m_X9_thingsIn_1, fun _ h => absurd h List.not_mem_nil⟩, by decide, by decide, by decide⟩ ⟨4, 169, List.forall_mem_cons.mpr ⟨m_X7_thingsCompared_28, fun _ h => absurd h List.not_mem_nil⟩, by decide, by decide, by decide⟩) (by decide) (by decide +kernel)
set_option maxRecDepth 200000 in
set_option maxHeartbeats 4000000 in
def K_X7_valueOf_29 : tb_K := ([.inr (.inl (some 1)), .inr (.inl (some 2)), .inr (.inl (some 3)), .inl (4, 0), .inl (5, 0)], [], [], [(0, 0), (1180591620717411303473, 1180591620717411303473), (1180591620717411303452, 1180591620717411303452), (1180591620717411303466, 1180591620717411303466), (28, 28), (0, 5)], [(some (.inl (6, 0)), [], [], [(0, 0), (1180591620717411303473, 1180591620717411303473), (1180591620717411303452, 1180591620717411303452), (1180591620717411303466, 1180591620717411303466), (28, 28), (0, 5), (-2147483648, 2147483647)])], [])
set_option maxRecDepth 200000 in
set_option maxHeartbeats 4000000 in
def T_X7_valueOf_29 : List (tb_S × tb_l) := []
set_option maxRecDepth 200000 in
set_option maxHeartbeats 4000000 in
theorem m_X7_valueOf_29 {l : Launch} : tb_Met l vwCl sa_Ts tb_Z0 yX7_valueOf cX7_valueOf 5 (some .int) 3 145 K_X7_valueOf_29 := tb_method (by decide) [43, 51, 54] (t_X7_valueOf [] [K_X9_lampOf_2]) T_X7_valueOf_29 [] 6000 (List.forall_mem_cons.mpr ⟨dX7_valueOf_43, List.forall_mem_cons.mpr ⟨dX7_valueOf_51, List.forall_mem_cons.mpr ⟨dX7_valueOf_54, fun _ h => absurd h List.not_mem_nil⟩⟩⟩) (h_X7_valueOf [] 3 145 (by decide) (by decide) [K_X9_lampOf_2] ⟨2, 120, List.forall_mem_cons.mpr ⟨m_X9_lampOf_2, fun _ h => absurd h List.not_mem_nil⟩, by decide, by decide, by decide⟩) (by decide) (by decide +kernel)
set_option maxRecDepth 200000 in
set_option maxHeartbeats 4000000 in
def K_X7_thingsCompared_29 : tb_K := ([.inr (.inl (some 1)), .inr (.inl (some 2)), .inr (.inl (some 3)), .inl (4, 0)], [], [], [(0, 0), (1180591620717411303473, 1180591620717411303473), (1180591620717411303452, 1180591620717411303452), (1180591620717411303466, 1180591620717411303466), (28, 28)], [(some (.inl (5, 0)), [], [], [(0, 0), (1180591620717411303473, 1180591620717411303473), (1180591620717411303452, 1180591620717411303452), (1180591620717411303466, 1180591620717411303466), (28, 28), (0, 255)])], [])
set_option maxRecDepth 200000 in
set_option maxHeartbeats 4000000 in
def T_X7_thingsCompared_29 : List (tb_S × tb_l) := [((6, [(0, .inr (.inl (some 1))), (1, .inr (.inl (some 2))), (2, .inr (.inl (some 3))), (3, .inl (4, 0)), (4, .inl (5, 0)), (5, .inl (6, 0))], [], ([], [], []), [(0, 0), (1180591620717411303473, 1180591620717411303473), (1180591620717411303452, 1180591620717411303452), (1180591620717411303466, 1180591620717411303466), (28, 28), (0, 255), (0, 6)], 0, 0), ([(6, (-1))], 6))]
set_option maxRecDepth 200000 in
set_option maxHeartbeats 4000000 in
theorem m_X7_thingsCompared_29 {l : Launch} : tb_Met l vwCl sa_Ts tb_Z0 yX7_thingsCompared cX7_thingsCompared 6 (some .int) 4 169 K_X7_thingsCompared_29 := tb_method (by decide) [59] (t_X7_thingsCompared [] [K_X7_valueOf_29] [K_X7_holds_1]) T_X7_thingsCompared_29 [6] 6000 (List.forall_mem_cons.mpr ⟨dX7_thingsCompared_59, fun _ h => absurd h List.not_mem_nil⟩) (h_X7_thingsCompared [] 4 169 (by decide) (by decide) [K_X7_valueOf_29] [K_X7_holds_1] ⟨3, 145, List.forall_mem_cons.mpr ⟨m_X7_valueOf_29, fun _ h => absurd h List.not_mem_nil⟩, by decide, by decide, by decide⟩ ⟨2, 120, List.forall_mem_cons.mpr ⟨m_X7_holds_1, fun _ h => absurd h List.not_mem_nil⟩, by decide, by decide, by decide⟩) (by decide) (by decide +kernel)
set_option maxRecDepth 200000 in
set_option maxHeartbeats 4000000 in
def K_X7_thingsOfStep_29 : tb_K := ([.inr (.inl (some 1)), .inr (.inl (some 2)), .inr (.inl (some 3)), .inl (4, 0)], [], [], [(0, 0), (1180591620717411303473, 1180591620717411303473), (1180591620717411303452, 1180591620717411303452), (1180591620717411303466, 1180591620717411303466), (28, 28)], [(some (.inl (5, 0)), [], [], [(0, 0), (1180591620717411303473, 1180591620717411303473), (1180591620717411303452, 1180591620717411303452), (1180591620717411303466, 1180591620717411303466), (28, 28), (-2147483648, 2147483647)])], [])
set_option maxRecDepth 200000 in
set_option maxHeartbeats 4000000 in
def T_X7_thingsOfStep_29 : List (tb_S × tb_l) := []
set_option maxRecDepth 200000 in
set_option maxHeartbeats 4000000 in
theorem m_X7_thingsOfStep_29 {l : Launch} : tb_Met l vwCl sa_Ts tb_Z0 yX7_thingsOfStep cX7_thingsOfStep 5 (some .int) 5 194 K_X7_thingsOfStep_29 := tb_method (by decide) [69, 76, 83, 101, 109, 117] (t_X7_thingsOfStep [] [K_X9_working_1] [K_X9_thingsIn_1] [K_X9_thingsIn_1] [K_X7_thingsCompared_29]) T_X7_thingsOfStep_29 [] 6000 (List.forall_mem_cons.mpr ⟨dX7_thingsOfStep_69, List.forall_mem_cons.mpr ⟨dX7_thingsOfStep_76, List.forall_mem_cons.mpr ⟨dX7_thingsOfStep_83, List.forall_mem_cons.mpr ⟨dX7_thingsOfStep_101, List.forall_mem_cons.mpr ⟨dX7_thingsOfStep_109, List.forall_mem_cons.mpr ⟨dX7_thingsOfStep_117, fun _ h => absurd h List.not_mem_nil⟩⟩⟩⟩⟩⟩) (h_X7_thingsOfStep [] 5 194 (by decide) (by decide) [K_X9_working_1] [K_X9_thingsIn_1] [K_X9_thingsIn_1] [K_X7_thingsCompared_29] ⟨2, 120, List.forall_mem_cons.mpr ⟨m_X9_working_1, fun _ h => absurd h List.not_mem_nil⟩, by decide, by decide, by decide⟩ ⟨2, 120, List.forall_mem_cons.mpr ⟨m_X9_thingsIn_1, fun _ h => absurd h List.not_mem_nil⟩, by decide, by decide, by decide⟩ ⟨2, 120, List.forall_mem_cons.mpr ⟨m_X9_thingsIn_1, fun _ h => absurd h List.not_mem_nil⟩, by decide, by decide, by decide⟩ ⟨4, 169, List.forall_mem_cons.mpr ⟨m_X7_thingsCompared_29, fun _ h => absurd h List.not_mem_nil⟩, by decide, by decide, by decide⟩) (by decide) (by decide +kernel)
set_option maxRecDepth 200000 in
set_option maxHeartbeats 4000000 in
def K_X7_valueOf_30 : tb_K := ([.inr (.inl (some 1)), .inr (.inl (some 2)), .inr (.inl (some 3)), .inl (4, 0), .inl (5, 0)], [], [], [(0, 0), (1180591620717411303473, 1180591620717411303473), (1180591620717411303452, 1180591620717411303452), (1180591620717411303466, 1180591620717411303466), (29, 29), (0, 5)], [(some (.inl (6, 0)), [], [], [(0, 0), (1180591620717411303473, 1180591620717411303473), (1180591620717411303452, 1180591620717411303452), (1180591620717411303466, 1180591620717411303466), (29, 29), (0, 5), (-2147483648, 2147483647)])], [])
set_option maxRecDepth 200000 in
set_option maxHeartbeats 4000000 in
def T_X7_valueOf_30 : List (tb_S × tb_l) := []
set_option maxRecDepth 200000 in
set_option maxHeartbeats 4000000 in
theorem m_X7_valueOf_30 {l : Launch} : tb_Met l vwCl sa_Ts tb_Z0 yX7_valueOf cX7_valueOf 5 (some .int) 3 145 K_X7_valueOf_30 := tb_method (by decide) [43, 51, 54] (t_X7_valueOf [] [K_X9_lampOf_2]) T_X7_valueOf_30 [] 6000 (List.forall_mem_cons.mpr ⟨dX7_valueOf_43, List.forall_mem_cons.mpr ⟨dX7_valueOf_51, List.forall_mem_cons.mpr ⟨dX7_valueOf_54, fun _ h => absurd h List.not_mem_nil⟩⟩⟩) (h_X7_valueOf [] 3 145 (by decide) (by decide) [K_X9_lampOf_2] ⟨2, 120, List.forall_mem_cons.mpr ⟨m_X9_lampOf_2, fun _ h => absurd h List.not_mem_nil⟩, by decide, by decide, by decide⟩) (by decide) (by decide +kernel)
set_option maxRecDepth 200000 in
set_option maxHeartbeats 4000000 in
def K_X7_thingsCompared_30 : tb_K := ([.inr (.inl (some 1)), .inr (.inl (some 2)), .inr (.inl (some 3)), .inl (4, 0)], [], [], [(0, 0), (1180591620717411303473, 1180591620717411303473), (1180591620717411303452, 1180591620717411303452), (1180591620717411303466, 1180591620717411303466), (29, 29)], [(some (.inl (5, 0)), [], [], [(0, 0), (1180591620717411303473, 1180591620717411303473), (1180591620717411303452, 1180591620717411303452), (1180591620717411303466, 1180591620717411303466), (29, 29), (0, 255)])], [])
set_option maxRecDepth 200000 in
set_option maxHeartbeats 4000000 in
def T_X7_thingsCompared_30 : List (tb_S × tb_l) := [((6, [(0, .inr (.inl (some 1))), (1, .inr (.inl (some 2))), (2, .inr (.inl (some 3))), (3, .inl (4, 0)), (4, .inl (5, 0)), (5, .inl (6, 0))], [], ([], [], []), [(0, 0), (1180591620717411303473, 1180591620717411303473), (1180591620717411303452, 1180591620717411303452), (1180591620717411303466, 1180591620717411303466), (29, 29), (0, 255), (0, 6)], 0, 0), ([(6, (-1))], 6))]
set_option maxRecDepth 200000 in
set_option maxHeartbeats 4000000 in
theorem m_X7_thingsCompared_30 {l : Launch} : tb_Met l vwCl sa_Ts tb_Z0 yX7_thingsCompared cX7_thingsCompared 6 (some .int) 4 169 K_X7_thingsCompared_30 := tb_method (by decide) [59] (t_X7_thingsCompared [] [K_X7_valueOf_30] [K_X7_holds_1]) T_X7_thingsCompared_30 [6] 6000 (List.forall_mem_cons.mpr ⟨dX7_thingsCompared_59, fun _ h => absurd h List.not_mem_nil⟩) (h_X7_thingsCompared [] 4 169 (by decide) (by decide) [K_X7_valueOf_30] [K_X7_holds_1] ⟨3, 145, List.forall_mem_cons.mpr ⟨m_X7_valueOf_30, fun _ h => absurd h List.not_mem_nil⟩, by decide, by decide, by decide⟩ ⟨2, 120, List.forall_mem_cons.mpr ⟨m_X7_holds_1, fun _ h => absurd h List.not_mem_nil⟩, by decide, by decide, by decide⟩) (by decide) (by decide +kernel)
set_option maxRecDepth 200000 in
set_option maxHeartbeats 4000000 in
def K_X7_thingsOfStep_30 : tb_K := ([.inr (.inl (some 1)), .inr (.inl (some 2)), .inr (.inl (some 3)), .inl (4, 0)], [], [], [(0, 0), (1180591620717411303473, 1180591620717411303473), (1180591620717411303452, 1180591620717411303452), (1180591620717411303466, 1180591620717411303466), (29, 29)], [(some (.inl (5, 0)), [], [], [(0, 0), (1180591620717411303473, 1180591620717411303473), (1180591620717411303452, 1180591620717411303452), (1180591620717411303466, 1180591620717411303466), (29, 29), (-2147483648, 2147483647)])], [])
set_option maxRecDepth 200000 in
set_option maxHeartbeats 4000000 in
def T_X7_thingsOfStep_30 : List (tb_S × tb_l) := []
set_option maxRecDepth 200000 in
set_option maxHeartbeats 4000000 in
theorem m_X7_thingsOfStep_30 {l : Launch} : tb_Met l vwCl sa_Ts tb_Z0 yX7_thingsOfStep cX7_thingsOfStep 5 (some .int) 5 194 K_X7_thingsOfStep_30 := tb_method (by decide) [69, 76, 83, 101, 109, 117] (t_X7_thingsOfStep [] [K_X9_working_1] [K_X9_thingsIn_1] [K_X9_thingsIn_1] [K_X7_thingsCompared_30]) T_X7_thingsOfStep_30 [] 6000 (List.forall_mem_cons.mpr ⟨dX7_thingsOfStep_69, List.forall_mem_cons.mpr ⟨dX7_thingsOfStep_76, List.forall_mem_cons.mpr ⟨dX7_thingsOfStep_83, List.forall_mem_cons.mpr ⟨dX7_thingsOfStep_101, List.forall_mem_cons.mpr ⟨dX7_thingsOfStep_109, List.forall_mem_cons.mpr ⟨dX7_thingsOfStep_117, fun _ h => absurd h List.not_mem_nil⟩⟩⟩⟩⟩⟩) (h_X7_thingsOfStep [] 5 194 (by decide) (by decide) [K_X9_working_1] [K_X9_thingsIn_1] [K_X9_thingsIn_1] [K_X7_thingsCompared_30] ⟨2, 120, List.forall_mem_cons.mpr ⟨m_X9_working_1, fun _ h => absurd h List.not_mem_nil⟩, by decide, by decide, by decide⟩ ⟨2, 120, List.forall_mem_cons.mpr ⟨m_X9_thingsIn_1, fun _ h => absurd h List.not_mem_nil⟩, by decide, by decide, by decide⟩ ⟨2, 120, List.forall_mem_cons.mpr ⟨m_X9_thingsIn_1, fun _ h => absurd h List.not_mem_nil⟩, by decide, by decide, by decide⟩ ⟨4, 169, List.forall_mem_cons.mpr ⟨m_X7_thingsCompared_30, fun _ h => absurd h List.not_mem_nil⟩, by decide, by decide, by decide⟩) (by decide) (by decide +kernel)
set_option maxRecDepth 200000 in
set_option maxHeartbeats 4000000 in
def K_X7_valueOf_31 : tb_K := ([.inr (.inl (some 1)), .inr (.inl (some 2)), .inr (.inl (some 3)), .inl (4, 0), .inl (5, 0)], [], [], [(0, 0), (1180591620717411303473, 1180591620717411303473), (1180591620717411303452, 1180591620717411303452), (1180591620717411303466, 1180591620717411303466), (30, 30), (0, 5)], [(some (.inl (6, 0)), [], [], [(0, 0), (1180591620717411303473, 1180591620717411303473), (1180591620717411303452, 1180591620717411303452), (1180591620717411303466, 1180591620717411303466), (30, 30), (0, 5), (-2147483648, 2147483647)])], [])
set_option maxRecDepth 200000 in
set_option maxHeartbeats 4000000 in
def T_X7_valueOf_31 : List (tb_S × tb_l) := []
set_option maxRecDepth 200000 in
set_option maxHeartbeats 4000000 in
theorem m_X7_valueOf_31 {l : Launch} : tb_Met l vwCl sa_Ts tb_Z0 yX7_valueOf cX7_valueOf 5 (some .int) 3 145 K_X7_valueOf_31 := tb_method (by decide) [43, 51, 54] (t_X7_valueOf [] [K_X9_lampOf_2]) T_X7_valueOf_31 [] 6000 (List.forall_mem_cons.mpr ⟨dX7_valueOf_43, List.forall_mem_cons.mpr ⟨dX7_valueOf_51, List.forall_mem_cons.mpr ⟨dX7_valueOf_54, fun _ h => absurd h List.not_mem_nil⟩⟩⟩) (h_X7_valueOf [] 3 145 (by decide) (by decide) [K_X9_lampOf_2] ⟨2, 120, List.forall_mem_cons.mpr ⟨m_X9_lampOf_2, fun _ h => absurd h List.not_mem_nil⟩, by decide, by decide, by decide⟩) (by decide) (by decide +kernel)
