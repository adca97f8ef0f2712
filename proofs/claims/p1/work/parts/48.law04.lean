set_option maxRecDepth 200000 in
set_option maxHeartbeats 4000000 in
theorem o_law_18 : sa_Ok3 (fun pc => sa_fd pc t_law) sa_finL S_law_18 := sa_Ok3.drop (pc := S_law_18.1) (lo := S_law_18.2.1) (st := S_law_18.2.2.1) (cs := C_law) (w := D_law_18) (r := S_law_18.2.2.2.2) [0, 3, 4, 200, 202] (by decide +kernel) (by decide +kernel) o_law_18_d
set_option maxRecDepth 200000 in
set_option maxHeartbeats 4000000 in
theorem o_law_17_d : sa_Ok3 (fun pc => sa_fd pc t_law) sa_finL (S_law_17.1, S_law_17.2.1, S_law_17.2.2.1, D_law_17, S_law_17.2.2.2.2) := sa_Ok3.of (sa_runC_ok (Ts := []) (fun _ h => absurd h List.not_mem_nil) 15 _ (by decide +kernel))
set_option maxRecDepth 200000 in
set_option maxHeartbeats 4000000 in
theorem o_law_17 : sa_Ok3 (fun pc => sa_fd pc t_law) sa_finL S_law_17 := sa_Ok3.drop (pc := S_law_17.1) (lo := S_law_17.2.1) (st := S_law_17.2.2.1) (cs := C_law) (w := D_law_17) (r := S_law_17.2.2.2.2) [0, 3, 4, 200, 202] (by decide +kernel) (by decide +kernel) o_law_17_d
set_option maxRecDepth 200000 in
set_option maxHeartbeats 4000000 in
theorem o_law_16_d : sa_Ok3 (fun pc => sa_fd pc t_law) sa_finL (S_law_16.1, S_law_16.2.1, S_law_16.2.2.1, D_law_16, S_law_16.2.2.2.2) := sa_Ok3.of (sa_runC_ok (Ts := []) (fun _ h => absurd h List.not_mem_nil) 25 _ (by decide +kernel))
set_option maxRecDepth 200000 in
set_option maxHeartbeats 4000000 in
theorem o_law_16 : sa_Ok3 (fun pc => sa_fd pc t_law) sa_finL S_law_16 := sa_Ok3.drop (pc := S_law_16.1) (lo := S_law_16.2.1) (st := S_law_16.2.2.1) (cs := C_law) (w := D_law_16) (r := S_law_16.2.2.2.2) [0, 3, 4, 200, 202] (by decide +kernel) (by decide +kernel) o_law_16_d
set_option maxRecDepth 200000 in
set_option maxHeartbeats 4000000 in
theorem o_law_15_d : sa_Ok3 (fun pc => sa_fd pc t_law) sa_finL (S_law_15.1, S_law_15.2.1, S_law_15.2.2.1, D_law_15, S_law_15.2.2.2.2) := sa_Ok3.of (sa_runC_ok (Ts := []) (fun _ h => absurd h List.not_mem_nil) 15 _ (by decide +kernel))
set_option maxRecDepth 200000 in
set_option maxHeartbeats 4000000 in
theorem o_law_15 : sa_Ok3 (fun pc => sa_fd pc t_law) sa_finL S_law_15 := sa_Ok3.drop (pc := S_law_15.1) (lo := S_law_15.2.1) (st := S_law_15.2.2.1) (cs := C_law) (w := D_law_15) (r := S_law_15.2.2.2.2) [0, 200] (by decide +kernel) (by decide +kernel) o_law_15_d
set_option maxRecDepth 200000 in
set_option maxHeartbeats 4000000 in
theorem o_law_14_d : sa_Ok3 (fun pc => sa_fd pc t_law) sa_finL (S_law_14.1, S_law_14.2.1, S_law_14.2.2.1, D_law_14, S_law_14.2.2.2.2) := sa_Ok3.of (sa_runC_ok (Ts := []) (fun _ h => absurd h List.not_mem_nil) 25 _ (by decide +kernel))
set_option maxRecDepth 200000 in
set_option maxHeartbeats 4000000 in
theorem o_law_14 : sa_Ok3 (fun pc => sa_fd pc t_law) sa_finL S_law_14 := sa_Ok3.drop (pc := S_law_14.1) (lo := S_law_14.2.1) (st := S_law_14.2.2.1) (cs := C_law) (w := D_law_14) (r := S_law_14.2.2.2.2) [0, 1, 3, 4, 200, 202] (by decide +kernel) (by decide +kernel) o_law_14_d
set_option maxRecDepth 200000 in
set_option maxHeartbeats 4000000 in
theorem o_law_13_d : sa_Ok3 (fun pc => sa_fd pc t_law) sa_finL (S_law_13.1, S_law_13.2.1, S_law_13.2.2.1, D_law_13, S_law_13.2.2.2.2) := sa_Ok3.of (sa_runC_ok (Ts := []) (fun _ h => absurd h List.not_mem_nil) 25 _ (by decide +kernel))
set_option maxRecDepth 200000 in
set_option maxHeartbeats 4000000 in
theorem o_law_13 : sa_Ok3 (fun pc => sa_fd pc t_law) sa_finL S_law_13 := sa_Ok3.drop (pc := S_law_13.1) (lo := S_law_13.2.1) (st := S_law_13.2.2.1) (cs := C_law) (w := D_law_13) (r := S_law_13.2.2.2.2) [0, 3, 4, 200, 202] (by decide +kernel) (by decide +kernel) o_law_13_d
set_option maxRecDepth 200000 in
set_option maxHeartbeats 4000000 in
theorem o_law_12_d : sa_Ok3 (fun pc => sa_fd pc t_law) sa_finL (S_law_12.1, S_law_12.2.1, S_law_12.2.2.1, D_law_12, S_law_12.2.2.2.2) := sa_Ok3.of (sa_runC_ok (Ts := []) (fun _ h => absurd h List.not_mem_nil) 25 _ (by decide +kernel))
set_option maxRecDepth 200000 in
set_option maxHeartbeats 4000000 in
theorem o_law_12 : sa_Ok3 (fun pc => sa_fd pc t_law) sa_finL S_law_12 := sa_Ok3.drop (pc := S_law_12.1) (lo := S_law_12.2.1) (st := S_law_12.2.2.1) (cs := C_law) (w := D_law_12) (r := S_law_12.2.2.2.2) [0, 3, 4, 200, 202] (by decide +kernel) (by decide +kernel) o_law_12_d
set_option maxRecDepth 200000 in
set_option maxHeartbeats 4000000 in
theorem o_law_11_d : sa_Ok3 (fun pc => sa_fd pc t_law) sa_finL (S_law_11.1, S_law_11.2.1, S_law_11.2.2.1, D_law_11, S_law_11.2.2.2.2) := sa_Ok3.of (sa_runC_ok (Ts := []) (fun _ h => absurd h List.not_mem_nil) 25 _ (by decide +kernel))
set_option maxRecDepth 200000 in
set_option maxHeartbeats 4000000 in
theorem o_law_11 : sa_Ok3 (fun pc => sa_fd pc t_law) sa_finL S_law_11 := sa_Ok3.drop (pc := S_law_11.1) (lo := S_law_11.2.1) (st := S_law_11.2.2.1) (cs := C_law) (w := D_law_11) (r := S_law_11.2.2.2.2) [0, 3, 4, 200, 202] (by decide +kernel) (by decide +kernel) o_law_11_d
set_option maxRecDepth 200000 in
set_option maxHeartbeats 4000000 in
theorem o_law_10_d : sa_Ok3 (fun pc => sa_fd pc t_law) sa_finL (S_law_10.1, S_law_10.2.1, S_law_10.2.2.1, D_law_10, S_law_10.2.2.2.2) := sa_Ok3.of (sa_runC_ok (Ts := []) (fun _ h => absurd h List.not_mem_nil) 25 _ (by decide +kernel))
set_option maxRecDepth 200000 in
set_option maxHeartbeats 4000000 in
theorem o_law_10 : sa_Ok3 (fun pc => sa_fd pc t_law) sa_finL S_law_10 := sa_Ok3.drop (pc := S_law_10.1) (lo := S_law_10.2.1) (st := S_law_10.2.2.1) (cs := C_law) (w := D_law_10) (r := S_law_10.2.2.2.2) [0, 142, 200] (by decide +kernel) (by decide +kernel) o_law_10_d
set_option maxRecDepth 200000 in
set_option maxHeartbeats 4000000 in
theorem o_law_9_d : sa_Ok3 (fun pc => sa_fd pc t_law) sa_finL (S_law_9.1, S_law_9.2.1, S_law_9.2.2.1, D_law_9, S_law_9.2.2.2.2) := sa_Ok3.of (sa_runC_ok (Ts := []) (fun _ h => absurd h List.not_mem_nil) 35 _ (by decide +kernel))
set_option maxRecDepth 200000 in
set_option maxHeartbeats 4000000 in
theorem o_law_9 : sa_Ok3 (fun pc => sa_fd pc t_law) sa_finL S_law_9 := sa_Ok3.drop (pc := S_law_9.1) (lo := S_law_9.2.1) (st := S_law_9.2.2.1) (cs := C_law) (w := D_law_9) (r := S_law_9.2.2.2.2) [0, 3, 4, 200, 202] (by decide +kernel) (by decide +kernel) o_law_9_d
set_option maxRecDepth 200000 in
set_option maxHeartbeats 4000000 in
theorem o_law_8_d : sa_Ok3 (fun pc => sa_fd pc t_law) sa_finL (S_law_8.1, S_law_8.2.1, S_law_8.2.2.1, D_law_8, S_law_8.2.2.2.2) := sa_Ok3.of (sa_runC_ok (Ts := []) (fun _ h => absurd h List.not_mem_nil) 45 _ (by decide +kernel))
set_option maxRecDepth 200000 in
set_option maxHeartbeats 4000000 in
theorem o_law_8 : sa_Ok3 (fun pc => sa_fd pc t_law) sa_finL S_law_8 := sa_Ok3.drop (pc := S_law_8.1) (lo := S_law_8.2.1) (st := S_law_8.2.2.1) (cs := C_law) (w := D_law_8) (r := S_law_8.2.2.2.2) [0, 3, 4, 200, 202] (by decide +kernel) (by decide +kernel) o_law_8_d
set_option maxRecDepth 200000 in
set_option maxHeartbeats 4000000 in
theorem o_law_7_d : sa_Ok3 (fun pc => sa_fd pc t_law) sa_finL (S_law_7.1, S_law_7.2.1, S_law_7.2.2.1, D_law_7, S_law_7.2.2.2.2) := sa_Ok3.of (sa_runC_ok (Ts := []) (fun _ h => absurd h List.not_mem_nil) 25 _ (by decide +kernel))
set_option maxRecDepth 200000 in
set_option maxHeartbeats 4000000 in
theorem o_law_7 : sa_Ok3 (fun pc => sa_fd pc t_law) sa_finL S_law_7 := sa_Ok3.drop (pc := S_law_7.1) (lo := S_law_7.2.1) (st := S_law_7.2.2.1) (cs := C_law) (w := D_law_7) (r := S_law_7.2.2.2.2) [0, 1, 3, 4, 18, 19, 20, 21, 22, 23, 24, 31, 32, 33, 34, 35, 36, 37, 38, 39, 96, 97, 98, 99, 100, 101, 102, 121, 122, 145, 200, 202, 206, 217] (by decide +kernel) (by decide +kernel) o_law_7_d
set_option maxRecDepth 200000 in
set_option maxHeartbeats 4000000 in
theorem o_law_6_d : sa_Ok3 (fun pc => sa_fd pc t_law) sa_finL (S_law_6.1, S_law_6.2.1, S_law_6.2.2.1, D_law_6, S_law_6.2.2.2.2) := sa_Ok3.of (sa_runC_ok (Ts := []) (fun _ h => absurd h List.not_mem_nil) 25 _ (by decide +kernel))
set_option maxRecDepth 200000 in
set_option maxHeartbeats 4000000 in
theorem o_law_6 : sa_Ok3 (fun pc => sa_fd pc t_law) sa_finL S_law_6 := sa_Ok3.drop (pc := S_law_6.1) (lo := S_law_6.2.1) (st := S_law_6.2.2.1) (cs := C_law) (w := D_law_6) (r := S_law_6.2.2.2.2) [0, 200] (by decide +kernel) (by decide +kernel) o_law_6_d
set_option maxRecDepth 200000 in
set_option maxHeartbeats 4000000 in
theorem o_law_5_d : sa_Ok3 (fun pc => sa_fd pc t_law) sa_finL (S_law_5.1, S_law_5.2.1, S_law_5.2.2.1, D_law_5, S_law_5.2.2.2.2) := sa_Ok3.of (sa_runC_ok (Ts := []) (fun _ h => absurd h List.not_mem_nil) 15 _ (by decide +kernel))
set_option maxRecDepth 200000 in
set_option maxHeartbeats 4000000 in
theorem o_law_5 : sa_Ok3 (fun pc => sa_fd pc t_law) sa_finL S_law_5 := sa_Ok3.drop (pc := S_law_5.1) (lo := S_law_5.2.1) (st := S_law_5.2.2.1) (cs := C_law) (w := D_law_5) (r := S_law_5.2.2.2.2) [0, 1, 3, 128, 129, 132, 200] (by decide +kernel) (by decide +kernel) o_law_5_d
