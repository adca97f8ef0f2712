set_option maxRecDepth 200000 in
set_option maxHeartbeats 4000000 in
theorem law_run : sa_run (fun pc => sa_fd pc t_law) sa_finL 91 (0, [(0, .inr (.inl (some 1)))], [], [], [(0, 0), (0, 0), (0, 6), (-2147483648, 2147483647), (-2147483648, 2147483647), (-2147483648, 2147483647), (-2147483648, 2147483647), (-2147483648, 2147483647), (-2147483648, 2147483647)], 0, 0) = true := by decide +kernel
