set_option maxRecDepth 200000 in
set_option maxHeartbeats 4000000 in
def K_X12_isIn_5 : tb_K := ([.inl (1, 0), .inl (2, 0), .inl (3, 0)], [], [], [(0, 0), (-2147483648, 2147483647), (1, 1), (30, 30)], [(some (.inl (4, 0)), [], [], [(0, 0), (-2147483648, 2147483647), (1, 1), (30, 30), (0, 0)]), (some (.inl (4, 0)), [], [], [(0, 0), (1, 30), (1, 1), (30, 30), (1, 1)])], [])
set_option maxRecDepth 200000 in
set_option maxHeartbeats 4000000 in
def T_X12_isIn_5 : List (tb_S × tb_l) := []
set_option maxRecDepth 200000 in
set_option maxHeartbeats 4000000 in
theorem m_X12_isIn_5 {l : Launch} : tb_Met l vwCl sa_Ts tb_Z0 yX12_isIn cX12_isIn 3 (some .boolean) 2 120 K_X12_isIn_5 := tb_method (by decide) [15] (t_X12_isIn [] ) T_X12_isIn_5 [] 6000 (List.forall_mem_cons.mpr ⟨dX12_isIn_15, fun _ h => absurd h List.not_mem_nil⟩) (h_X12_isIn [] 2 120 (by decide) (by decide)  ) (by decide) (by decide +kernel)
