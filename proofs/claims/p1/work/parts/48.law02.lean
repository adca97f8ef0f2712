set_option maxRecDepth 200000 in
set_option maxHeartbeats 4000000 in
theorem o_law_28_26 : sa_Ok3 (fun pc => sa_fd pc t_law) sa_finL (S_law_28.1, S_law_28.2.1, S_law_28.2.2.1, D_law_28, sa_hi (sa_lw S_law_28.2.2.2.2.1 4 (1 + (26 : Nat))) 4 (1 + (26 : Nat)), S_law_28.2.2.2.2.2) := sa_Ok3.of (sa_runC_ok (Ts := []) (fun _ h => absurd h List.not_mem_nil) 25 _ (by decide +kernel))
set_option maxRecDepth 200000 in
set_option maxHeartbeats 4000000 in
theorem o_law_28_27 : sa_Ok3 (fun pc => sa_fd pc t_law) sa_finL (S_law_28.1, S_law_28.2.1, S_law_28.2.2.1, D_law_28, sa_hi (sa_lw S_law_28.2.2.2.2.1 4 (1 + (27 : Nat))) 4 (1 + (27 : Nat)), S_law_28.2.2.2.2.2) := sa_Ok3.of (sa_runC_ok (Ts := []) (fun _ h => absurd h List.not_mem_nil) 25 _ (by decide +kernel))
set_option maxRecDepth 200000 in
set_option maxHeartbeats 4000000 in
theorem o_law_28_28 : sa_Ok3 (fun pc => sa_fd pc t_law) sa_finL (S_law_28.1, S_law_28.2.1, S_law_28.2.2.1, D_law_28, sa_hi (sa_lw S_law_28.2.2.2.2.1 4 (1 + (28 : Nat))) 4 (1 + (28 : Nat)), S_law_28.2.2.2.2.2) := sa_Ok3.of (sa_runC_ok (Ts := []) (fun _ h => absurd h List.not_mem_nil) 25 _ (by decide +kernel))
set_option maxRecDepth 200000 in
set_option maxHeartbeats 4000000 in
theorem o_law_28_29 : sa_Ok3 (fun pc => sa_fd pc t_law) sa_finL (S_law_28.1, S_law_28.2.1, S_law_28.2.2.1, D_law_28, sa_hi (sa_lw S_law_28.2.2.2.2.1 4 (1 + (29 : Nat))) 4 (1 + (29 : Nat)), S_law_28.2.2.2.2.2) := sa_Ok3.of (sa_runC_ok (Ts := []) (fun _ h => absurd h List.not_mem_nil) 25 _ (by decide +kernel))
set_option maxRecDepth 200000 in
set_option maxHeartbeats 4000000 in
theorem o_law_28_30 : sa_Ok3 (fun pc => sa_fd pc t_law) sa_finL (S_law_28.1, S_law_28.2.1, S_law_28.2.2.1, D_law_28, sa_hi (sa_lw S_law_28.2.2.2.2.1 4 (1 + (30 : Nat))) 4 (1 + (30 : Nat)), S_law_28.2.2.2.2.2) := sa_Ok3.of (sa_runC_ok (Ts := []) (fun _ h => absurd h List.not_mem_nil) 25 _ (by decide +kernel))
set_option maxRecDepth 200000 in
set_option maxHeartbeats 4000000 in
theorem o_law_28_31 : sa_Ok3 (fun pc => sa_fd pc t_law) sa_finL (S_law_28.1, S_law_28.2.1, S_law_28.2.2.1, D_law_28, sa_hi (sa_lw S_law_28.2.2.2.2.1 4 (1 + (31 : Nat))) 4 (1 + (31 : Nat)), S_law_28.2.2.2.2.2) := sa_Ok3.of (sa_runC_ok (Ts := []) (fun _ h => absurd h List.not_mem_nil) 25 _ (by decide +kernel))
set_option maxRecDepth 200000 in
set_option maxHeartbeats 4000000 in
theorem o_law_28_32 : sa_Ok3 (fun pc => sa_fd pc t_law) sa_finL (S_law_28.1, S_law_28.2.1, S_law_28.2.2.1, D_law_28, sa_hi (sa_lw S_law_28.2.2.2.2.1 4 (1 + (32 : Nat))) 4 (1 + (32 : Nat)), S_law_28.2.2.2.2.2) := sa_Ok3.of (sa_runC_ok (Ts := []) (fun _ h => absurd h List.not_mem_nil) 25 _ (by decide +kernel))
set_option maxRecDepth 200000 in
set_option maxHeartbeats 4000000 in
theorem o_law_28_33 : sa_Ok3 (fun pc => sa_fd pc t_law) sa_finL (S_law_28.1, S_law_28.2.1, S_law_28.2.2.1, D_law_28, sa_hi (sa_lw S_law_28.2.2.2.2.1 4 (1 + (33 : Nat))) 4 (1 + (33 : Nat)), S_law_28.2.2.2.2.2) := sa_Ok3.of (sa_runC_ok (Ts := []) (fun _ h => absurd h List.not_mem_nil) 25 _ (by decide +kernel))
set_option maxRecDepth 200000 in
set_option maxHeartbeats 4000000 in
theorem o_law_28_34 : sa_Ok3 (fun pc => sa_fd pc t_law) sa_finL (S_law_28.1, S_law_28.2.1, S_law_28.2.2.1, D_law_28, sa_hi (sa_lw S_law_28.2.2.2.2.1 4 (1 + (34 : Nat))) 4 (1 + (34 : Nat)), S_law_28.2.2.2.2.2) := sa_Ok3.of (sa_runC_ok (Ts := []) (fun _ h => absurd h List.not_mem_nil) 25 _ (by decide +kernel))
set_option maxRecDepth 200000 in
set_option maxHeartbeats 4000000 in
theorem o_law_28_35 : sa_Ok3 (fun pc => sa_fd pc t_law) sa_finL (S_law_28.1, S_law_28.2.1, S_law_28.2.2.1, D_law_28, sa_hi (sa_lw S_law_28.2.2.2.2.1 4 (1 + (35 : Nat))) 4 (1 + (35 : Nat)), S_law_28.2.2.2.2.2) := sa_Ok3.of (sa_runC_ok (Ts := []) (fun _ h => absurd h List.not_mem_nil) 25 _ (by decide +kernel))
set_option maxRecDepth 200000 in
set_option maxHeartbeats 4000000 in
theorem o_law_28_36 : sa_Ok3 (fun pc => sa_fd pc t_law) sa_finL (S_law_28.1, S_law_28.2.1, S_law_28.2.2.1, D_law_28, sa_hi (sa_lw S_law_28.2.2.2.2.1 4 (1 + (36 : Nat))) 4 (1 + (36 : Nat)), S_law_28.2.2.2.2.2) := sa_Ok3.of (sa_runC_ok (Ts := []) (fun _ h => absurd h List.not_mem_nil) 25 _ (by decide +kernel))
set_option maxRecDepth 200000 in
set_option maxHeartbeats 4000000 in
theorem o_law_28_37 : sa_Ok3 (fun pc => sa_fd pc t_law) sa_finL (S_law_28.1, S_law_28.2.1, S_law_28.2.2.1, D_law_28, sa_hi (sa_lw S_law_28.2.2.2.2.1 4 (1 + (37 : Nat))) 4 (1 + (37 : Nat)), S_law_28.2.2.2.2.2) := sa_Ok3.of (sa_runC_ok (Ts := []) (fun _ h => absurd h List.not_mem_nil) 25 _ (by decide +kernel))
set_option maxRecDepth 200000 in
set_option maxHeartbeats 4000000 in
theorem o_law_28_38 : sa_Ok3 (fun pc => sa_fd pc t_law) sa_finL (S_law_28.1, S_law_28.2.1, S_law_28.2.2.1, D_law_28, sa_hi (sa_lw S_law_28.2.2.2.2.1 4 (1 + (38 : Nat))) 4 (1 + (38 : Nat)), S_law_28.2.2.2.2.2) := sa_Ok3.of (sa_runC_ok (Ts := []) (fun _ h => absurd h List.not_mem_nil) 25 _ (by decide +kernel))
set_option maxRecDepth 200000 in
set_option maxHeartbeats 4000000 in
theorem o_law_28_39 : sa_Ok3 (fun pc => sa_fd pc t_law) sa_finL (S_law_28.1, S_law_28.2.1, S_law_28.2.2.1, D_law_28, sa_hi (sa_lw S_law_28.2.2.2.2.1 4 (1 + (39 : Nat))) 4 (1 + (39 : Nat)), S_law_28.2.2.2.2.2) := sa_Ok3.of (sa_runC_ok (Ts := []) (fun _ h => absurd h List.not_mem_nil) 25 _ (by decide +kernel))
set_option maxRecDepth 200000 in
set_option maxHeartbeats 4000000 in
theorem o_law_28_40 : sa_Ok3 (fun pc => sa_fd pc t_law) sa_finL (S_law_28.1, S_law_28.2.1, S_law_28.2.2.1, D_law_28, sa_hi (sa_lw S_law_28.2.2.2.2.1 4 (1 + (40 : Nat))) 4 (1 + (40 : Nat)), S_law_28.2.2.2.2.2) := sa_Ok3.of (sa_runC_ok (Ts := []) (fun _ h => absurd h List.not_mem_nil) 25 _ (by decide +kernel))
set_option maxRecDepth 200000 in
set_option maxHeartbeats 4000000 in
theorem o_law_28_41 : sa_Ok3 (fun pc => sa_fd pc t_law) sa_finL (S_law_28.1, S_law_28.2.1, S_law_28.2.2.1, D_law_28, sa_hi (sa_lw S_law_28.2.2.2.2.1 4 (1 + (41 : Nat))) 4 (1 + (41 : Nat)), S_law_28.2.2.2.2.2) := sa_Ok3.of (sa_runC_ok (Ts := []) (fun _ h => absurd h List.not_mem_nil) 25 _ (by decide +kernel))
set_option maxRecDepth 200000 in
set_option maxHeartbeats 4000000 in
theorem o_law_28_42 : sa_Ok3 (fun pc => sa_fd pc t_law) sa_finL (S_law_28.1, S_law_28.2.1, S_law_28.2.2.1, D_law_28, sa_hi (sa_lw S_law_28.2.2.2.2.1 4 (1 + (42 : Nat))) 4 (1 + (42 : Nat)), S_law_28.2.2.2.2.2) := sa_Ok3.of (sa_runC_ok (Ts := []) (fun _ h => absurd h List.not_mem_nil) 25 _ (by decide +kernel))
set_option maxRecDepth 200000 in
set_option maxHeartbeats 4000000 in
theorem o_law_28_43 : sa_Ok3 (fun pc => sa_fd pc t_law) sa_finL (S_law_28.1, S_law_28.2.1, S_law_28.2.2.1, D_law_28, sa_hi (sa_lw S_law_28.2.2.2.2.1 4 (1 + (43 : Nat))) 4 (1 + (43 : Nat)), S_law_28.2.2.2.2.2) := sa_Ok3.of (sa_runC_ok (Ts := []) (fun _ h => absurd h List.not_mem_nil) 25 _ (by decide +kernel))
set_option maxRecDepth 200000 in
set_option maxHeartbeats 4000000 in
theorem o_law_28_44 : sa_Ok3 (fun pc => sa_fd pc t_law) sa_finL (S_law_28.1, S_law_28.2.1, S_law_28.2.2.1, D_law_28, sa_hi (sa_lw S_law_28.2.2.2.2.1 4 (1 + (44 : Nat))) 4 (1 + (44 : Nat)), S_law_28.2.2.2.2.2) := sa_Ok3.of (sa_runC_ok (Ts := []) (fun _ h => absurd h List.not_mem_nil) 25 _ (by decide +kernel))
set_option maxRecDepth 200000 in
set_option maxHeartbeats 4000000 in
theorem o_law_28_45 : sa_Ok3 (fun pc => sa_fd pc t_law) sa_finL (S_law_28.1, S_law_28.2.1, S_law_28.2.2.1, D_law_28, sa_hi (sa_lw S_law_28.2.2.2.2.1 4 (1 + (45 : Nat))) 4 (1 + (45 : Nat)), S_law_28.2.2.2.2.2) := sa_Ok3.of (sa_runC_ok (Ts := []) (fun _ h => absurd h List.not_mem_nil) 25 _ (by decide +kernel))
set_option maxRecDepth 200000 in
set_option maxHeartbeats 4000000 in
theorem o_law_28_46 : sa_Ok3 (fun pc => sa_fd pc t_law) sa_finL (S_law_28.1, S_law_28.2.1, S_law_28.2.2.1, D_law_28, sa_hi (sa_lw S_law_28.2.2.2.2.1 4 (1 + (46 : Nat))) 4 (1 + (46 : Nat)), S_law_28.2.2.2.2.2) := sa_Ok3.of (sa_runC_ok (Ts := []) (fun _ h => absurd h List.not_mem_nil) 25 _ (by decide +kernel))
set_option maxRecDepth 200000 in
set_option maxHeartbeats 4000000 in
theorem o_law_28_47 : sa_Ok3 (fun pc => sa_fd pc t_law) sa_finL (S_law_28.1, S_law_28.2.1, S_law_28.2.2.1, D_law_28, sa_hi (sa_lw S_law_28.2.2.2.2.1 4 (1 + (47 : Nat))) 4 (1 + (47 : Nat)), S_law_28.2.2.2.2.2) := sa_Ok3.of (sa_runC_ok (Ts := []) (fun _ h => absurd h List.not_mem_nil) 25 _ (by decide +kernel))
set_option maxRecDepth 200000 in
set_option maxHeartbeats 4000000 in
theorem o_law_28_48 : sa_Ok3 (fun pc => sa_fd pc t_law) sa_finL (S_law_28.1, S_law_28.2.1, S_law_28.2.2.1, D_law_28, sa_hi (sa_lw S_law_28.2.2.2.2.1 4 (1 + (48 : Nat))) 4 (1 + (48 : Nat)), S_law_28.2.2.2.2.2) := sa_Ok3.of (sa_runC_ok (Ts := []) (fun _ h => absurd h List.not_mem_nil) 25 _ (by decide +kernel))
set_option maxRecDepth 200000 in
set_option maxHeartbeats 4000000 in
theorem o_law_28_49 : sa_Ok3 (fun pc => sa_fd pc t_law) sa_finL (S_law_28.1, S_law_28.2.1, S_law_28.2.2.1, D_law_28, sa_hi (sa_lw S_law_28.2.2.2.2.1 4 (1 + (49 : Nat))) 4 (1 + (49 : Nat)), S_law_28.2.2.2.2.2) := sa_Ok3.of (sa_runC_ok (Ts := []) (fun _ h => absurd h List.not_mem_nil) 25 _ (by decide +kernel))
set_option maxRecDepth 200000 in
set_option maxHeartbeats 4000000 in
theorem o_law_28_50 : sa_Ok3 (fun pc => sa_fd pc t_law) sa_finL (S_law_28.1, S_law_28.2.1, S_law_28.2.2.1, D_law_28, sa_hi (sa_lw S_law_28.2.2.2.2.1 4 (1 + (50 : Nat))) 4 (1 + (50 : Nat)), S_law_28.2.2.2.2.2) := sa_Ok3.of (sa_runC_ok (Ts := []) (fun _ h => absurd h List.not_mem_nil) 25 _ (by decide +kernel))
set_option maxRecDepth 200000 in
set_option maxHeartbeats 4000000 in
theorem o_law_28_51 : sa_Ok3 (fun pc => sa_fd pc t_law) sa_finL (S_law_28.1, S_law_28.2.1, S_law_28.2.2.1, D_law_28, sa_hi (sa_lw S_law_28.2.2.2.2.1 4 (1 + (51 : Nat))) 4 (1 + (51 : Nat)), S_law_28.2.2.2.2.2) := sa_Ok3.of (sa_runC_ok (Ts := []) (fun _ h => absurd h List.not_mem_nil) 25 _ (by decide +kernel))
set_option maxRecDepth 200000 in
set_option maxHeartbeats 4000000 in
theorem o_law_28_52 : sa_Ok3 (fun pc => sa_fd pc t_law) sa_finL (S_law_28.1, S_law_28.2.1, S_law_28.2.2.1, D_law_28, sa_hi (sa_lw S_law_28.2.2.2.2.1 4 (1 + (52 : Nat))) 4 (1 + (52 : Nat)), S_law_28.2.2.2.2.2) := sa_Ok3.of (sa_runC_ok (Ts := []) (fun _ h => absurd h List.not_mem_nil) 25 _ (by decide +kernel))
