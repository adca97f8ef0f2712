set_option maxRecDepth 200000 in
set_option maxHeartbeats 4000000 in
theorem o_law_41_d : sa_Ok3 (fun pc => sa_fd pc t_law) sa_finL (S_law_41.1, S_law_41.2.1, S_law_41.2.2.1, D_law_41, S_law_41.2.2.2.2) := sa_Ok3.of (sa_runC_ok (Ts := []) (fun _ h => absurd h List.not_mem_nil) 65 _ (by decide +kernel))
set_option maxRecDepth 200000 in
set_option maxHeartbeats 4000000 in
theorem o_law_41 : sa_Ok3 (fun pc => sa_fd pc t_law) sa_finL S_law_41 := sa_Ok3.drop (pc := S_law_41.1) (lo := S_law_41.2.1) (st := S_law_41.2.2.1) (cs := C_law) (w := D_law_41) (r := S_law_41.2.2.2.2) [0, 1, 2, 200, 201] (by decide +kernel) (by decide +kernel) o_law_41_d
set_option maxRecDepth 200000 in
set_option maxHeartbeats 4000000 in
theorem o_law_40_d : sa_Ok3 (fun pc => sa_fd pc t_law) sa_finL (S_law_40.1, S_law_40.2.1, S_law_40.2.2.1, D_law_40, S_law_40.2.2.2.2) := sa_Ok3.of (sa_runC_ok (Ts := []) (fun _ h => absurd h List.not_mem_nil) 25 _ (by decide +kernel))
set_option maxRecDepth 200000 in
set_option maxHeartbeats 4000000 in
theorem o_law_40 : sa_Ok3 (fun pc => sa_fd pc t_law) sa_finL S_law_40 := sa_Ok3.drop (pc := S_law_40.1) (lo := S_law_40.2.1) (st := S_law_40.2.2.1) (cs := C_law) (w := D_law_40) (r := S_law_40.2.2.2.2) [0, 1, 200] (by decide +kernel) (by decide +kernel) o_law_40_d
set_option maxRecDepth 200000 in
set_option maxHeartbeats 4000000 in
theorem o_law_39_d : sa_Ok3 (fun pc => sa_fd pc t_law) sa_finL (S_law_39.1, S_law_39.2.1, S_law_39.2.2.1, D_law_39, S_law_39.2.2.2.2) := sa_Ok3.of (sa_runC_ok (Ts := []) (fun _ h => absurd h List.not_mem_nil) 15 _ (by decide +kernel))
set_option maxRecDepth 200000 in
set_option maxHeartbeats 4000000 in
theorem o_law_39 : sa_Ok3 (fun pc => sa_fd pc t_law) sa_finL S_law_39 := sa_Ok3.drop (pc := S_law_39.1) (lo := S_law_39.2.1) (st := S_law_39.2.2.1) (cs := C_law) (w := D_law_39) (r := S_law_39.2.2.2.2) [0, 1, 3, 4, 5, 6, 7, 8, 9, 10, 11, 12, 13, 14, 15, 16, 17, 18, 19, 20, 21, 22, 23, 24, 25, 31, 103, 104, 107, 108, 109, 110, 111, 112, 113, 114, 115, 116, 117, 118, 119, 120, 200, 202, 203, 207, 208] (by decide +kernel) (by decide +kernel) o_law_39_d
set_option maxRecDepth 200000 in
set_option maxHeartbeats 4000000 in
theorem o_law_38_d : sa_Ok3 (fun pc => sa_fd pc t_law) sa_finL (S_law_38.1, S_law_38.2.1, S_law_38.2.2.1, D_law_38, S_law_38.2.2.2.2) := sa_Ok3.of (sa_runC_ok (Ts := []) (fun _ h => absurd h List.not_mem_nil) 15 _ (by decide +kernel))
set_option maxRecDepth 200000 in
set_option maxHeartbeats 4000000 in
theorem o_law_38 : sa_Ok3 (fun pc => sa_fd pc t_law) sa_finL S_law_38 := sa_Ok3.drop (pc := S_law_38.1) (lo := S_law_38.2.1) (st := S_law_38.2.2.1) (cs := C_law) (w := D_law_38) (r := S_law_38.2.2.2.2) [0, 200] (by decide +kernel) (by decide +kernel) o_law_38_d
set_option maxRecDepth 200000 in
set_option maxHeartbeats 4000000 in
theorem o_law_37_d : sa_Ok3 (fun pc => sa_fd pc t_law) sa_finL (S_law_37.1, S_law_37.2.1, S_law_37.2.2.1, D_law_37, S_law_37.2.2.2.2) := sa_Ok3.of (sa_runC_ok (Ts := []) (fun _ h => absurd h List.not_mem_nil) 44 _ (by decide +kernel))
set_option maxRecDepth 200000 in
set_option maxHeartbeats 4000000 in
theorem o_law_37 : sa_Ok3 (fun pc => sa_fd pc t_law) sa_finL S_law_37 := sa_Ok3.drop (pc := S_law_37.1) (lo := S_law_37.2.1) (st := S_law_37.2.2.1) (cs := C_law) (w := D_law_37) (r := S_law_37.2.2.2.2) [0, 3, 4, 200, 202] (by decide +kernel) (by decide +kernel) o_law_37_d
set_option maxRecDepth 200000 in
set_option maxHeartbeats 4000000 in
theorem o_law_36_d : sa_Ok3 (fun pc => sa_fd pc t_law) sa_finL (S_law_36.1, S_law_36.2.1, S_law_36.2.2.1, D_law_36, S_law_36.2.2.2.2) := sa_Ok3.of (sa_runC_ok (Ts := []) (fun _ h => absurd h List.not_mem_nil) 44 _ (by decide +kernel))
set_option maxRecDepth 200000 in
set_option maxHeartbeats 4000000 in
theorem o_law_36 : sa_Ok3 (fun pc => sa_fd pc t_law) sa_finL S_law_36 := sa_Ok3.drop (pc := S_law_36.1) (lo := S_law_36.2.1) (st := S_law_36.2.2.1) (cs := C_law) (w := D_law_36) (r := S_law_36.2.2.2.2) [0, 3, 4, 200, 202] (by decide +kernel) (by decide +kernel) o_law_36_d
set_option maxRecDepth 200000 in
set_option maxHeartbeats 4000000 in
theorem o_law_35_d : sa_Ok3 (fun pc => sa_fd pc t_law) sa_finL (S_law_35.1, S_law_35.2.1, S_law_35.2.2.1, D_law_35, S_law_35.2.2.2.2) := sa_Ok3.of (sa_runC_ok (Ts := []) (fun _ h => absurd h List.not_mem_nil) 35 _ (by decide +kernel))
set_option maxRecDepth 200000 in
set_option maxHeartbeats 4000000 in
theorem o_law_35 : sa_Ok3 (fun pc => sa_fd pc t_law) sa_finL S_law_35 := sa_Ok3.drop (pc := S_law_35.1) (lo := S_law_35.2.1) (st := S_law_35.2.2.1) (cs := C_law) (w := D_law_35) (r := S_law_35.2.2.2.2) [0, 3, 4, 200, 202] (by decide +kernel) (by decide +kernel) o_law_35_d
set_option maxRecDepth 200000 in
set_option maxHeartbeats 4000000 in
theorem o_law_34_d : sa_Ok3 (fun pc => sa_fd pc t_law) sa_finL (S_law_34.1, S_law_34.2.1, S_law_34.2.2.1, D_law_34, S_law_34.2.2.2.2) := sa_Ok3.of (sa_runC_ok (Ts := []) (fun _ h => absurd h List.not_mem_nil) 25 _ (by decide +kernel))
set_option maxRecDepth 200000 in
set_option maxHeartbeats 4000000 in
theorem o_law_34 : sa_Ok3 (fun pc => sa_fd pc t_law) sa_finL S_law_34 := sa_Ok3.drop (pc := S_law_34.1) (lo := S_law_34.2.1) (st := S_law_34.2.2.1) (cs := C_law) (w := D_law_34) (r := S_law_34.2.2.2.2) [0, 3, 4, 18, 200, 202] (by decide +kernel) (by decide +kernel) o_law_34_d
set_option maxRecDepth 200000 in
set_option maxHeartbeats 4000000 in
theorem o_law_33_d : sa_Ok3 (fun pc => sa_fd pc t_law) sa_finL (S_law_33.1, S_law_33.2.1, S_law_33.2.2.1, D_law_33, S_law_33.2.2.2.2) := sa_Ok3.of (sa_runC_ok (Ts := []) (fun _ h => absurd h List.not_mem_nil) 25 _ (by decide +kernel))
set_option maxRecDepth 200000 in
set_option maxHeartbeats 4000000 in
theorem o_law_33 : sa_Ok3 (fun pc => sa_fd pc t_law) sa_finL S_law_33 := sa_Ok3.drop (pc := S_law_33.1) (lo := S_law_33.2.1) (st := S_law_33.2.2.1) (cs := C_law) (w := D_law_33) (r := S_law_33.2.2.2.2) [0, 3, 4, 200, 202] (by decide +kernel) (by decide +kernel) o_law_33_d
set_option maxRecDepth 200000 in
set_option maxHeartbeats 4000000 in
theorem o_law_32_d : sa_Ok3 (fun pc => sa_fd pc t_law) sa_finL (S_law_32.1, S_law_32.2.1, S_law_32.2.2.1, D_law_32, S_law_32.2.2.2.2) := sa_Ok3.of (sa_runC_ok (Ts := []) (fun _ h => absurd h List.not_mem_nil) 35 _ (by decide +kernel))
set_option maxRecDepth 200000 in
set_option maxHeartbeats 4000000 in
theorem o_law_32 : sa_Ok3 (fun pc => sa_fd pc t_law) sa_finL S_law_32 := sa_Ok3.drop (pc := S_law_32.1) (lo := S_law_32.2.1) (st := S_law_32.2.2.1) (cs := C_law) (w := D_law_32) (r := S_law_32.2.2.2.2) [0, 3, 4, 200, 202] (by decide +kernel) (by decide +kernel) o_law_32_d
set_option maxRecDepth 200000 in
set_option maxHeartbeats 4000000 in
theorem o_law_31_d : sa_Ok3 (fun pc => sa_fd pc t_law) sa_finL (S_law_31.1, S_law_31.2.1, S_law_31.2.2.1, D_law_31, S_law_31.2.2.2.2) := sa_Ok3.of (sa_runC_ok (Ts := []) (fun _ h => absurd h List.not_mem_nil) 35 _ (by decide +kernel))
set_option maxRecDepth 200000 in
set_option maxHeartbeats 4000000 in
theorem o_law_31 : sa_Ok3 (fun pc => sa_fd pc t_law) sa_finL S_law_31 := sa_Ok3.drop (pc := S_law_31.1) (lo := S_law_31.2.1) (st := S_law_31.2.2.1) (cs := C_law) (w := D_law_31) (r := S_law_31.2.2.2.2) [0, 3, 4, 200, 202] (by decide +kernel) (by decide +kernel) o_law_31_d
set_option maxRecDepth 200000 in
set_option maxHeartbeats 4000000 in
theorem o_law_30_d : sa_Ok3 (fun pc => sa_fd pc t_law) sa_finL (S_law_30.1, S_law_30.2.1, S_law_30.2.2.1, D_law_30, S_law_30.2.2.2.2) := sa_Ok3.of (sa_runC_ok (Ts := []) (fun _ h => absurd h List.not_mem_nil) 35 _ (by decide +kernel))
set_option maxRecDepth 200000 in
set_option maxHeartbeats 4000000 in
theorem o_law_30 : sa_Ok3 (fun pc => sa_fd pc t_law) sa_finL S_law_30 := sa_Ok3.drop (pc := S_law_30.1) (lo := S_law_30.2.1) (st := S_law_30.2.2.1) (cs := C_law) (w := D_law_30) (r := S_law_30.2.2.2.2) [0, 3, 4, 200, 202] (by decide +kernel) (by decide +kernel) o_law_30_d
set_option maxRecDepth 200000 in
set_option maxHeartbeats 4000000 in
theorem o_law_29_d : sa_Ok3 (fun pc => sa_fd pc t_law) sa_finL (S_law_29.1, S_law_29.2.1, S_law_29.2.2.1, D_law_29, S_law_29.2.2.2.2) := sa_Ok3.of (sa_runC_ok (Ts := []) (fun _ h => absurd h List.not_mem_nil) 25 _ (by decide +kernel))
set_option maxRecDepth 200000 in
set_option maxHeartbeats 4000000 in
theorem o_law_29 : sa_Ok3 (fun pc => sa_fd pc t_law) sa_finL S_law_29 := sa_Ok3.drop (pc := S_law_29.1) (lo := S_law_29.2.1) (st := S_law_29.2.2.1) (cs := C_law) (w := D_law_29) (r := S_law_29.2.2.2.2) [0, 3, 4, 200, 202] (by decide +kernel) (by decide +kernel) o_law_29_d
set_option maxRecDepth 200000 in
set_option maxHeartbeats 4000000 in
theorem o_law_28_lo : sa_Ok3 (fun pc => sa_fd pc t_law) sa_finL (S_law_28.1, S_law_28.2.1, S_law_28.2.2.1, D_law_28, sa_hi S_law_28.2.2.2.2.1 4 (1 - 1), S_law_28.2.2.2.2.2) := sa_Ok3.of (sa_runC_ok (Ts := []) (fun _ h => absurd h List.not_mem_nil) 25 _ (by decide +kernel))
