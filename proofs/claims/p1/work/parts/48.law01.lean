set_option maxRecDepth 200000 in
set_option maxHeartbeats 4000000 in
theorem o_law_28_hi : sa_Ok3 (fun pc => sa_fd pc t_law) sa_finL (S_law_28.1, S_law_28.2.1, S_law_28.2.2.1, D_law_28, sa_lw S_law_28.2.2.2.2.1 4 (1 + (60 : Nat)), S_law_28.2.2.2.2.2) := sa_Ok3.of (sa_runC_ok (Ts := []) (fun _ h => absurd h List.not_mem_nil) 25 _ (by decide +kernel))
set_option maxRecDepth 200000 in
set_option maxHeartbeats 4000000 in
theorem o_law_28_0 : sa_Ok3 (fun pc => sa_fd pc t_law) sa_finL (S_law_28.1, S_law_28.2.1, S_law_28.2.2.1, D_law_28, sa_hi (sa_lw S_law_28.2.2.2.2.1 4 (1 + (0 : Nat))) 4 (1 + (0 : Nat)), S_law_28.2.2.2.2.2) := sa_Ok3.of (sa_runC_ok (Ts := []) (fun _ h => absurd h List.not_mem_nil) 25 _ (by decide +kernel))
set_option maxRecDepth 200000 in
set_option maxHeartbeats 4000000 in
theorem o_law_28_1 : sa_Ok3 (fun pc => sa_fd pc t_law) sa_finL (S_law_28.1, S_law_28.2.1, S_law_28.2.2.1, D_law_28, sa_hi (sa_lw S_law_28.2.2.2.2.1 4 (1 + (1 : Nat))) 4 (1 + (1 : Nat)), S_law_28.2.2.2.2.2) := sa_Ok3.of (sa_runC_ok (Ts := []) (fun _ h => absurd h List.not_mem_nil) 25 _ (by decide +kernel))
set_option maxRecDepth 200000 in
set_option maxHeartbeats 4000000 in
theorem o_law_28_2 : sa_Ok3 (fun pc => sa_fd pc t_law) sa_finL (S_law_28.1, S_law_28.2.1, S_law_28.2.2.1, D_law_28, sa_hi (sa_lw S_law_28.2.2.2.2.1 4 (1 + (2 : Nat))) 4 (1 + (2 : Nat)), S_law_28.2.2.2.2.2) := sa_Ok3.of (sa_runC_ok (Ts := []) (fun _ h => absurd h List.not_mem_nil) 25 _ (by decide +kernel))
set_option maxRecDepth 200000 in
set_option maxHeartbeats 4000000 in
theorem o_law_28_3 : sa_Ok3 (fun pc => sa_fd pc t_law) sa_finL (S_law_28.1, S_law_28.2.1, S_law_28.2.2.1, D_law_28, sa_hi (sa_lw S_law_28.2.2.2.2.1 4 (1 + (3 : Nat))) 4 (1 + (3 : Nat)), S_law_28.2.2.2.2.2) := sa_Ok3.of (sa_runC_ok (Ts := []) (fun _ h => absurd h List.not_mem_nil) 25 _ (by decide +kernel))
set_option maxRecDepth 200000 in
set_option maxHeartbeats 4000000 in
theorem o_law_28_4 : sa_Ok3 (fun pc => sa_fd pc t_law) sa_finL (S_law_28.1, S_law_28.2.1, S_law_28.2.2.1, D_law_28, sa_hi (sa_lw S_law_28.2.2.2.2.1 4 (1 + (4 : Nat))) 4 (1 + (4 : Nat)), S_law_28.2.2.2.2.2) := sa_Ok3.of (sa_runC_ok (Ts := []) (fun _ h => absurd h List.not_mem_nil) 25 _ (by decide +kernel))
set_option maxRecDepth 200000 in
set_option maxHeartbeats 4000000 in
theorem o_law_28_5 : sa_Ok3 (fun pc => sa_fd pc t_law) sa_finL (S_law_28.1, S_law_28.2.1, S_law_28.2.2.1, D_law_28, sa_hi (sa_lw S_law_28.2.2.2.2.1 4 (1 + (5 : Nat))) 4 (1 + (5 : Nat)), S_law_28.2.2.2.2.2) := sa_Ok3.of (sa_runC_ok (Ts := []) (fun _ h => absurd h List.not_mem_nil) 25 _ (by decide +kernel))
set_option maxRecDepth 200000 in
set_option maxHeartbeats 4000000 in
theorem o_law_28_6 : sa_Ok3 (fun pc => sa_fd pc t_law) sa_finL (S_law_28.1, S_law_28.2.1, S_law_28.2.2.1, D_law_28, sa_hi (sa_lw S_law_28.2.2.2.2.1 4 (1 + (6 : Nat))) 4 (1 + (6 : Nat)), S_law_28.2.2.2.2.2) := sa_Ok3.of (sa_runC_ok (Ts := []) (fun _ h => absurd h List.not_mem_nil) 25 _ (by decide +kernel))
set_option maxRecDepth 200000 in
set_option maxHeartbeats 4000000 in
theorem o_law_28_7 : sa_Ok3 (fun pc => sa_fd pc t_law) sa_finL (S_law_28.1, S_law_28.2.1, S_law_28.2.2.1, D_law_28, sa_hi (sa_lw S_law_28.2.2.2.2.1 4 (1 + (7 : Nat))) 4 (1 + (7 : Nat)), S_law_28.2.2.2.2.2) := sa_Ok3.of (sa_runC_ok (Ts := []) (fun _ h => absurd h List.not_mem_nil) 25 _ (by decide +kernel))
set_option maxRecDepth 200000 in
set_option maxHeartbeats 4000000 in
theorem o_law_28_8 : sa_Ok3 (fun pc => sa_fd pc t_law) sa_finL (S_law_28.1, S_law_28.2.1, S_law_28.2.2.1, D_law_28, sa_hi (sa_lw S_law_28.2.2.2.2.1 4 (1 + (8 : Nat))) 4 (1 + (8 : Nat)), S_law_28.2.2.2.2.2) := sa_Ok3.of (sa_runC_ok (Ts := []) (fun _ h => absurd h List.not_mem_nil) 25 _ (by decide +kernel))
set_option maxRecDepth 200000 in
set_option maxHeartbeats 4000000 in
theorem o_law_28_9 : sa_Ok3 (fun pc => sa_fd pc t_law) sa_finL (S_law_28.1, S_law_28.2.1, S_law_28.2.2.1, D_law_28, sa_hi (sa_lw S_law_28.2.2.2.2.1 4 (1 + (9 : Nat))) 4 (1 + (9 : Nat)), S_law_28.2.2.2.2.2) := sa_Ok3.of (sa_runC_ok (Ts := []) (fun _ h => absurd h List.not_mem_nil) 25 _ (by decide +kernel))
set_option maxRecDepth 200000 in
set_option maxHeartbeats 4000000 in
theorem o_law_28_10 : sa_Ok3 (fun pc => sa_fd pc t_law) sa_finL (S_law_28.1, S_law_28.2.1, S_law_28.2.2.1, D_law_28, sa_hi (sa_lw S_law_28.2.2.2.2.1 4 (1 + (10 : Nat))) 4 (1 + (10 : Nat)), S_law_28.2.2.2.2.2) := sa_Ok3.of (sa_runC_ok (Ts := []) (fun _ h => absurd h List.not_mem_nil) 25 _ (by decide +kernel))
set_option maxRecDepth 200000 in
set_option maxHeartbeats 4000000 in
theorem o_law_28_11 : sa_Ok3 (fun pc => sa_fd pc t_law) sa_finL (S_law_28.1, S_law_28.2.1, S_law_28.2.2.1, D_law_28, sa_hi (sa_lw S_law_28.2.2.2.2.1 4 (1 + (11 : Nat))) 4 (1 + (11 : Nat)), S_law_28.2.2.2.2.2) := sa_Ok3.of (sa_runC_ok (Ts := []) (fun _ h => absurd h List.not_mem_nil) 25 _ (by decide +kernel))
set_option maxRecDepth 200000 in
set_option maxHeartbeats 4000000 in
theorem o_law_28_12 : sa_Ok3 (fun pc => sa_fd pc t_law) sa_finL (S_law_28.1, S_law_28.2.1, S_law_28.2.2.1, D_law_28, sa_hi (sa_lw S_law_28.2.2.2.2.1 4 (1 + (12 : Nat))) 4 (1 + (12 : Nat)), S_law_28.2.2.2.2.2) := sa_Ok3.of (sa_runC_ok (Ts := []) (fun _ h => absurd h List.not_mem_nil) 25 _ (by decide +kernel))
set_option maxRecDepth 200000 in
set_option maxHeartbeats 4000000 in
theorem o_law_28_13 : sa_Ok3 (fun pc => sa_fd pc t_law) sa_finL (S_law_28.1, S_law_28.2.1, S_law_28.2.2.1, D_law_28, sa_hi (sa_lw S_law_28.2.2.2.2.1 4 (1 + (13 : Nat))) 4 (1 + (13 : Nat)), S_law_28.2.2.2.2.2) := sa_Ok3.of (sa_runC_ok (Ts := []) (fun _ h => absurd h List.not_mem_nil) 25 _ (by decide +kernel))
set_option maxRecDepth 200000 in
set_option maxHeartbeats 4000000 in
theorem o_law_28_14 : sa_Ok3 (fun pc => sa_fd pc t_law) sa_finL (S_law_28.1, S_law_28.2.1, S_law_28.2.2.1, D_law_28, sa_hi (sa_lw S_law_28.2.2.2.2.1 4 (1 + (14 : Nat))) 4 (1 + (14 : Nat)), S_law_28.2.2.2.2.2) := sa_Ok3.of (sa_runC_ok (Ts := []) (fun _ h => absurd h List.not_mem_nil) 25 _ (by decide +kernel))
set_option maxRecDepth 200000 in
set_option maxHeartbeats 4000000 in
theorem o_law_28_15 : sa_Ok3 (fun pc => sa_fd pc t_law) sa_finL (S_law_28.1, S_law_28.2.1, S_law_28.2.2.1, D_law_28, sa_hi (sa_lw S_law_28.2.2.2.2.1 4 (1 + (15 : Nat))) 4 (1 + (15 : Nat)), S_law_28.2.2.2.2.2) := sa_Ok3.of (sa_runC_ok (Ts := []) (fun _ h => absurd h List.not_mem_nil) 25 _ (by decide +kernel))
set_option maxRecDepth 200000 in
set_option maxHeartbeats 4000000 in
theorem o_law_28_16 : sa_Ok3 (fun pc => sa_fd pc t_law) sa_finL (S_law_28.1, S_law_28.2.1, S_law_28.2.2.1, D_law_28, sa_hi (sa_lw S_law_28.2.2.2.2.1 4 (1 + (16 : Nat))) 4 (1 + (16 : Nat)), S_law_28.2.2.2.2.2) := sa_Ok3.of (sa_runC_ok (Ts := []) (fun _ h => absurd h List.not_mem_nil) 25 _ (by decide +kernel))
set_option maxRecDepth 200000 in
set_option maxHeartbeats 4000000 in
theorem o_law_28_17 : sa_Ok3 (fun pc => sa_fd pc t_law) sa_finL (S_law_28.1, S_law_28.2.1, S_law_28.2.2.1, D_law_28, sa_hi (sa_lw S_law_28.2.2.2.2.1 4 (1 + (17 : Nat))) 4 (1 + (17 : Nat)), S_law_28.2.2.2.2.2) := sa_Ok3.of (sa_runC_ok (Ts := []) (fun _ h => absurd h List.not_mem_nil) 25 _ (by decide +kernel))
set_option maxRecDepth 200000 in
set_option maxHeartbeats 4000000 in
theorem o_law_28_18 : sa_Ok3 (fun pc => sa_fd pc t_law) sa_finL (S_law_28.1, S_law_28.2.1, S_law_28.2.2.1, D_law_28, sa_hi (sa_lw S_law_28.2.2.2.2.1 4 (1 + (18 : Nat))) 4 (1 + (18 : Nat)), S_law_28.2.2.2.2.2) := sa_Ok3.of (sa_runC_ok (Ts := []) (fun _ h => absurd h List.not_mem_nil) 25 _ (by decide +kernel))
set_option maxRecDepth 200000 in
set_option maxHeartbeats 4000000 in
theorem o_law_28_19 : sa_Ok3 (fun pc => sa_fd pc t_law) sa_finL (S_law_28.1, S_law_28.2.1, S_law_28.2.2.1, D_law_28, sa_hi (sa_lw S_law_28.2.2.2.2.1 4 (1 + (19 : Nat))) 4 (1 + (19 : Nat)), S_law_28.2.2.2.2.2) := sa_Ok3.of (sa_runC_ok (Ts := []) (fun _ h => absurd h List.not_mem_nil) 25 _ (by decide +kernel))
set_option maxRecDepth 200000 in
set_option maxHeartbeats 4000000 in
theorem o_law_28_20 : sa_Ok3 (fun pc => sa_fd pc t_law) sa_finL (S_law_28.1, S_law_28.2.1, S_law_28.2.2.1, D_law_28, sa_hi (sa_lw S_law_28.2.2.2.2.1 4 (1 + (20 : Nat))) 4 (1 + (20 : Nat)), S_law_28.2.2.2.2.2) := sa_Ok3.of (sa_runC_ok (Ts := []) (fun _ h => absurd h List.not_mem_nil) 25 _ (by decide +kernel))
set_option maxRecDepth 200000 in
set_option maxHeartbeats 4000000 in
theorem o_law_28_21 : sa_Ok3 (fun pc => sa_fd pc t_law) sa_finL (S_law_28.1, S_law_28.2.1, S_law_28.2.2.1, D_law_28, sa_hi (sa_lw S_law_28.2.2.2.2.1 4 (1 + (21 : Nat))) 4 (1 + (21 : Nat)), S_law_28.2.2.2.2.2) := sa_Ok3.of (sa_runC_ok (Ts := []) (fun _ h => absurd h List.not_mem_nil) 25 _ (by decide +kernel))
set_option maxRecDepth 200000 in
set_option maxHeartbeats 4000000 in
theorem o_law_28_22 : sa_Ok3 (fun pc => sa_fd pc t_law) sa_finL (S_law_28.1, S_law_28.2.1, S_law_28.2.2.1, D_law_28, sa_hi (sa_lw S_law_28.2.2.2.2.1 4 (1 + (22 : Nat))) 4 (1 + (22 : Nat)), S_law_28.2.2.2.2.2) := sa_Ok3.of (sa_runC_ok (Ts := []) (fun _ h => absurd h List.not_mem_nil) 25 _ (by decide +kernel))
set_option maxRecDepth 200000 in
set_option maxHeartbeats 4000000 in
theorem o_law_28_23 : sa_Ok3 (fun pc => sa_fd pc t_law) sa_finL (S_law_28.1, S_law_28.2.1, S_law_28.2.2.1, D_law_28, sa_hi (sa_lw S_law_28.2.2.2.2.1 4 (1 + (23 : Nat))) 4 (1 + (23 : Nat)), S_law_28.2.2.2.2.2) := sa_Ok3.of (sa_runC_ok (Ts := []) (fun _ h => absurd h List.not_mem_nil) 25 _ (by decide +kernel))
set_option maxRecDepth 200000 in
set_option maxHeartbeats 4000000 in
theorem o_law_28_24 : sa_Ok3 (fun pc => sa_fd pc t_law) sa_finL (S_law_28.1, S_law_28.2.1, S_law_28.2.2.1, D_law_28, sa_hi (sa_lw S_law_28.2.2.2.2.1 4 (1 + (24 : Nat))) 4 (1 + (24 : Nat)), S_law_28.2.2.2.2.2) := sa_Ok3.of (sa_runC_ok (Ts := []) (fun _ h => absurd h List.not_mem_nil) 25 _ (by decide +kernel))
set_option maxRecDepth 200000 in
set_option maxHeartbeats 4000000 in
theorem o_law_28_25 : sa_Ok3 (fun pc => sa_fd pc t_law) sa_finL (S_law_28.1, S_law_28.2.1, S_law_28.2.2.1, D_law_28, sa_hi (sa_lw S_law_28.2.2.2.2.1 4 (1 + (25 : Nat))) 4 (1 + (25 : Nat)), S_law_28.2.2.2.2.2) := sa_Ok3.of (sa_runC_ok (Ts := []) (fun _ h => absurd h List.not_mem_nil) 25 _ (by decide +kernel))
