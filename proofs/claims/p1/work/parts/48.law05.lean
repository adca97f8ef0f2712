set_option maxRecDepth 200000 in
set_option maxHeartbeats 4000000 in
theorem o_law_4_d : sa_Ok3 (fun pc => sa_fd pc t_law) sa_finL (S_law_4.1, S_law_4.2.1, S_law_4.2.2.1, D_law_4, S_law_4.2.2.2.2) := sa_Ok3.of (sa_runC_ok (Ts := []) (fun _ h => absurd h List.not_mem_nil) 25 _ (by decide +kernel))
set_option maxRecDepth 200000 in
set_option maxHeartbeats 4000000 in
theorem o_law_4 : sa_Ok3 (fun pc => sa_fd pc t_law) sa_finL S_law_4 := sa_Ok3.drop (pc := S_law_4.1) (lo := S_law_4.2.1) (st := S_law_4.2.2.1) (cs := C_law) (w := D_law_4) (r := S_law_4.2.2.2.2) [0, 3, 25, 200, 202] (by decide +kernel) (by decide +kernel) o_law_4_d
set_option maxRecDepth 200000 in
set_option maxHeartbeats 4000000 in
theorem o_law_3_d : sa_Ok3 (fun pc => sa_fd pc t_law) sa_finL (S_law_3.1, S_law_3.2.1, S_law_3.2.2.1, D_law_3, S_law_3.2.2.2.2) := sa_Ok3.of (sa_runC_ok (Ts := []) (fun _ h => absurd h List.not_mem_nil) 25 _ (by decide +kernel))
set_option maxRecDepth 200000 in
set_option maxHeartbeats 4000000 in
theorem o_law_3 : sa_Ok3 (fun pc => sa_fd pc t_law) sa_finL S_law_3 := sa_Ok3.drop (pc := S_law_3.1) (lo := S_law_3.2.1) (st := S_law_3.2.2.1) (cs := C_law) (w := D_law_3) (r := S_law_3.2.2.2.2) [0, 3, 4, 5, 6, 7, 8, 9, 10, 11, 12, 13, 14, 15, 16, 17, 18, 19, 20, 21, 22, 23, 24, 25, 26, 27, 28, 30, 146, 147, 148, 149, 150, 151, 152, 153, 154, 155, 156, 157, 158, 159, 160, 161, 162, 163, 164, 165, 166, 167, 168, 169, 170, 171, 173, 174, 175, 176, 177, 178, 179, 180, 181, 182, 183, 184, 185, 186, 187, 188, 189, 190, 191, 192, 193, 194, 195, 196, 197, 198, 200, 202, 204, 207, 209, 210] (by decide +kernel) (by decide +kernel) o_law_3_d
set_option maxRecDepth 200000 in
set_option maxHeartbeats 4000000 in
theorem o_law_2_d : sa_Ok3 (fun pc => sa_fd pc t_law) sa_finL (S_law_2.1, S_law_2.2.1, S_law_2.2.2.1, D_law_2, S_law_2.2.2.2.2) := sa_Ok3.of (sa_runC_ok (Ts := []) (fun _ h => absurd h List.not_mem_nil) 25 _ (by decide +kernel))
set_option maxRecDepth 200000 in
set_option maxHeartbeats 4000000 in
theorem o_law_2 : sa_Ok3 (fun pc => sa_fd pc t_law) sa_finL S_law_2 := sa_Ok3.drop (pc := S_law_2.1) (lo := S_law_2.2.1) (st := S_law_2.2.2.1) (cs := C_law) (w := D_law_2) (r := S_law_2.2.2.2.2) [0, 30, 146, 173, 200, 210] (by decide +kernel) (by decide +kernel) o_law_2_d
set_option maxRecDepth 200000 in
set_option maxHeartbeats 4000000 in
theorem o_law_1_d : sa_Ok3 (fun pc => sa_fd pc t_law) sa_finL (S_law_1.1, S_law_1.2.1, S_law_1.2.2.1, D_law_1, S_law_1.2.2.2.2) := sa_Ok3.of (sa_runC_ok (Ts := []) (fun _ h => absurd h List.not_mem_nil) 25 _ (by decide +kernel))
set_option maxRecDepth 200000 in
set_option maxHeartbeats 4000000 in
theorem o_law_1 : sa_Ok3 (fun pc => sa_fd pc t_law) sa_finL S_law_1 := sa_Ok3.drop (pc := S_law_1.1) (lo := S_law_1.2.1) (st := S_law_1.2.2.1) (cs := C_law) (w := D_law_1) (r := S_law_1.2.2.2.2) [0, 1, 3, 4, 200, 202] (by decide +kernel) (by decide +kernel) o_law_1_d
set_option maxRecDepth 200000 in
set_option maxHeartbeats 4000000 in
theorem o_law_0_d : sa_Ok3 (fun pc => sa_fd pc t_law) sa_finL (S_law_0.1, S_law_0.2.1, S_law_0.2.2.1, D_law_0, S_law_0.2.2.2.2) := sa_Ok3.of (sa_runC_ok (Ts := []) (fun _ h => absurd h List.not_mem_nil) 10 _ (by decide +kernel))
set_option maxRecDepth 200000 in
set_option maxHeartbeats 4000000 in
theorem o_law_0 : sa_Ok3 (fun pc => sa_fd pc t_law) sa_finL S_law_0 := sa_Ok3.drop (pc := S_law_0.1) (lo := S_law_0.2.1) (st := S_law_0.2.2.1) (cs := C_law) (w := D_law_0) (r := S_law_0.2.2.2.2) [] (by decide +kernel) (by decide +kernel) o_law_0_d
set_option maxRecDepth 200000 in
set_option maxHeartbeats 4000000 in
theorem law_ok : sa_Ok3 (fun pc => sa_fd pc t_law) sa_finL (0, [(0, .inr (.inl (some 1)))], [], [], [(0, 0), (0, 0), (0, 6), (-2147483648, 2147483647), (-2147483648, 2147483647), (-2147483648, 2147483647), (-2147483648, 2147483647), (-2147483648, 2147483647), (-2147483648, 2147483647)], 0, 0) := sa_runC_ok3 (Ts := [S_law_0, S_law_1, S_law_2, S_law_3, S_law_4, S_law_5, S_law_6, S_law_7, S_law_8, S_law_9, S_law_10, S_law_11, S_law_12, S_law_13, S_law_14, S_law_15, S_law_16, S_law_17, S_law_18, S_law_19, S_law_20, S_law_21, S_law_22, S_law_23, S_law_24, S_law_25, S_law_26, S_law_27, S_law_28, S_law_29, S_law_30, S_law_31, S_law_32, S_law_33, S_law_34, S_law_35, S_law_36, S_law_37, S_law_38, S_law_39, S_law_40, S_law_41]) (List.forall_mem_cons.mpr ⟨o_law_0, List.forall_mem_cons.mpr ⟨o_law_1, List.forall_mem_cons.mpr ⟨o_law_2, List.forall_mem_cons.mpr ⟨o_law_3, List.forall_mem_cons.mpr ⟨o_law_4, List.forall_mem_cons.mpr ⟨o_law_5, List.forall_mem_cons.mpr ⟨o_law_6, List.forall_mem_cons.mpr ⟨o_law_7, List.forall_mem_cons.mpr ⟨o_law_8, List.forall_mem_cons.mpr ⟨o_law_9, List.forall_mem_cons.mpr ⟨o_law_10, List.forall_mem_cons.mpr ⟨o_law_11, List.forall_mem_cons.mpr ⟨o_law_12, List.forall_mem_cons.mpr ⟨o_law_13, List.forall_mem_cons.mpr ⟨o_law_14, List.forall_mem_cons.mpr ⟨o_law_15, List.forall_mem_cons.mpr ⟨o_law_16, List.forall_mem_cons.mpr ⟨o_law_17, List.forall_mem_cons.mpr ⟨o_law_18, List.forall_mem_cons.mpr ⟨o_law_19, List.forall_mem_cons.mpr ⟨o_law_20, List.forall_mem_cons.mpr ⟨o_law_21, List.forall_mem_cons.mpr ⟨o_law_22, List.forall_mem_cons.mpr ⟨o_law_23, List.forall_mem_cons.mpr ⟨o_law_24, List.forall_mem_cons.mpr ⟨o_law_25, List.forall_mem_cons.mpr ⟨o_law_26, List.forall_mem_cons.mpr ⟨o_law_27, List.forall_mem_cons.mpr ⟨o_law_28, List.forall_mem_cons.mpr ⟨o_law_29, List.forall_mem_cons.mpr ⟨o_law_30, List.forall_mem_cons.mpr ⟨o_law_31, List.forall_mem_cons.mpr ⟨o_law_32, List.forall_mem_cons.mpr ⟨o_law_33, List.forall_mem_cons.mpr ⟨o_law_34, List.forall_mem_cons.mpr ⟨o_law_35, List.forall_mem_cons.mpr ⟨o_law_36, List.forall_mem_cons.mpr ⟨o_law_37, List.forall_mem_cons.mpr ⟨o_law_38, List.forall_mem_cons.mpr ⟨o_law_39, List.forall_mem_cons.mpr ⟨o_law_40, List.forall_mem_cons.mpr ⟨o_law_41, fun _ h => absurd h List.not_mem_nil⟩⟩⟩⟩⟩⟩⟩⟩⟩⟩⟩⟩⟩⟩⟩⟩⟩⟩⟩⟩⟩⟩⟩⟩⟩⟩⟩⟩⟩⟩⟩⟩⟩⟩⟩⟩⟩⟩⟩⟩⟩⟩) 26 _ (by decide +kernel)
