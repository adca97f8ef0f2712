set_option maxRecDepth 200000 in
set_option maxHeartbeats 4000000 in
theorem law_r0 : tb_run (fun pc => tb_as pc t_law) xl_leaf 3000 (tl_S33 (-2147483648) (-1)) = true := by decide +kernel
set_option maxRecDepth 200000 in
set_option maxHeartbeats 4000000 in
theorem law_r1 : tb_run (fun pc => tb_as pc t_law) xl_leaf 3000 (tl_S33 (0) (0)) = true := by decide +kernel
set_option maxRecDepth 200000 in
set_option maxHeartbeats 4000000 in
theorem law_r2 : tb_run (fun pc => tb_as pc t_law) xl_leaf 3000 (tl_S33 (1) (1)) = true := by decide +kernel
set_option maxRecDepth 200000 in
set_option maxHeartbeats 4000000 in
theorem law_r3 : tb_run (fun pc => tb_as pc t_law) xl_leaf 3000 (tl_S33 (2) (2147483647)) = true := by decide +kernel
