set_option maxRecDepth 200000 in
set_option maxHeartbeats 4000000 in
theorem o_law_28_53 : sa_Ok3 (fun pc => sa_fd pc t_law) sa_finL (S_law_28.1, S_law_28.2.1, S_law_28.2.2.1, D_law_28, sa_hi (sa_lw S_law_28.2.2.2.2.1 4 (1 + (53 : Nat))) 4 (1 + (53 : Nat)), S_law_28.2.2.2.2.2) := sa_Ok3.of (sa_runC_ok (Ts := []) (fun _ h => absurd h List.not_mem_nil) 25 _ (by decide +kernel))
set_option maxRecDepth 200000 in
set_option maxHeartbeats 4000000 in
theorem o_law_28_54 : sa_Ok3 (fun pc => sa_fd pc t_law) sa_finL (S_law_28.1, S_law_28.2.1, S_law_28.2.2.1, D_law_28, sa_hi (sa_lw S_law_28.2.2.2.2.1 4 (1 + (54 : Nat))) 4 (1 + (54 : Nat)), S_law_28.2.2.2.2.2) := sa_Ok3.of (sa_runC_ok (Ts := []) (fun _ h => absurd h List.not_mem_nil) 25 _ (by decide +kernel))
set_option maxRecDepth 200000 in
set_option maxHeartbeats 4000000 in
theorem o_law_28_55 : sa_Ok3 (fun pc => sa_fd pc t_law) sa_finL (S_law_28.1, S_law_28.2.1, S_law_28.2.2.1, D_law_28, sa_hi (sa_lw S_law_28.2.2.2.2.1 4 (1 + (55 : Nat))) 4 (1 + (55 : Nat)), S_law_28.2.2.2.2.2) := sa_Ok3.of (sa_runC_ok (Ts := []) (fun _ h => absurd h List.not_mem_nil) 25 _ (by decide +kernel))
set_option maxRecDepth 200000 in
set_option maxHeartbeats 4000000 in
theorem o_law_28_56 : sa_Ok3 (fun pc => sa_fd pc t_law) sa_finL (S_law_28.1, S_law_28.2.1, S_law_28.2.2.1, D_law_28, sa_hi (sa_lw S_law_28.2.2.2.2.1 4 (1 + (56 : Nat))) 4 (1 + (56 : Nat)), S_law_28.2.2.2.2.2) := sa_Ok3.of (sa_runC_ok (Ts := []) (fun _ h => absurd h List.not_mem_nil) 25 _ (by decide +kernel))
set_option maxRecDepth 200000 in
set_option maxHeartbeats 4000000 in
theorem o_law_28_57 : sa_Ok3 (fun pc => sa_fd pc t_law) sa_finL (S_law_28.1, S_law_28.2.1, S_law_28.2.2.1, D_law_28, sa_hi (sa_lw S_law_28.2.2.2.2.1 4 (1 + (57 : Nat))) 4 (1 + (57 : Nat)), S_law_28.2.2.2.2.2) := sa_Ok3.of (sa_runC_ok (Ts := []) (fun _ h => absurd h List.not_mem_nil) 25 _ (by decide +kernel))
set_option maxRecDepth 200000 in
set_option maxHeartbeats 4000000 in
theorem o_law_28_58 : sa_Ok3 (fun pc => sa_fd pc t_law) sa_finL (S_law_28.1, S_law_28.2.1, S_law_28.2.2.1, D_law_28, sa_hi (sa_lw S_law_28.2.2.2.2.1 4 (1 + (58 : Nat))) 4 (1 + (58 : Nat)), S_law_28.2.2.2.2.2) := sa_Ok3.of (sa_runC_ok (Ts := []) (fun _ h => absurd h List.not_mem_nil) 25 _ (by decide +kernel))
set_option maxRecDepth 200000 in
set_option maxHeartbeats 4000000 in
theorem o_law_28_59 : sa_Ok3 (fun pc => sa_fd pc t_law) sa_finL (S_law_28.1, S_law_28.2.1, S_law_28.2.2.1, D_law_28, sa_hi (sa_lw S_law_28.2.2.2.2.1 4 (1 + (59 : Nat))) 4 (1 + (59 : Nat)), S_law_28.2.2.2.2.2) := sa_Ok3.of (sa_runC_ok (Ts := []) (fun _ h => absurd h List.not_mem_nil) 25 _ (by decide +kernel))
set_option maxRecDepth 200000 in
set_option maxHeartbeats 4000000 in
theorem o_law_28 : sa_Ok3 (fun pc => sa_fd pc t_law) sa_finL S_law_28 := by
  refine sa_Ok3.drop (pc := S_law_28.1) (lo := S_law_28.2.1) (st := S_law_28.2.2.1) (cs := C_law) (w := D_law_28) (r := S_law_28.2.2.2.2) [0, 3, 4, 18, 19, 20, 21, 22, 23, 24, 31, 32, 33, 34, 35, 36, 37, 38, 39, 200, 202, 205] (by decide +kernel) (by decide +kernel) ?_
  refine sa_Ok3.cut (pc := S_law_28.1) (lo := S_law_28.2.1) (st := S_law_28.2.2.1) (cs := D_law_28) (G := S_law_28.2.2.2.2.1) (r := S_law_28.2.2.2.2.2) 4 1 60 o_law_28_lo o_law_28_hi ?_
  intro k hk
  match k, hk with
    | 0, _ => exact o_law_28_0
    | 1, _ => exact o_law_28_1
    | 2, _ => exact o_law_28_2
    | 3, _ => exact o_law_28_3
    | 4, _ => exact o_law_28_4
    | 5, _ => exact o_law_28_5
    | 6, _ => exact o_law_28_6
    | 7, _ => exact o_law_28_7
    | 8, _ => exact o_law_28_8
    | 9, _ => exact o_law_28_9
    | 10, _ => exact o_law_28_10
    | 11, _ => exact o_law_28_11
    | 12, _ => exact o_law_28_12
    | 13, _ => exact o_law_28_13
    | 14, _ => exact o_law_28_14
    | 15, _ => exact o_law_28_15
    | 16, _ => exact o_law_28_16
    | 17, _ => exact o_law_28_17
    | 18, _ => exact o_law_28_18
    | 19, _ => exact o_law_28_19
    | 20, _ => exact o_law_28_20
    | 21, _ => exact o_law_28_21
    | 22, _ => exact o_law_28_22
    | 23, _ => exact o_law_28_23
    | 24, _ => exact o_law_28_24
    | 25, _ => exact o_law_28_25
    | 26, _ => exact o_law_28_26
    | 27, _ => exact o_law_28_27
    | 28, _ => exact o_law_28_28
    | 29, _ => exact o_law_28_29
    | 30, _ => exact o_law_28_30
    | 31, _ => exact o_law_28_31
    | 32, _ => exact o_law_28_32
    | 33, _ => exact o_law_28_33
    | 34, _ => exact o_law_28_34
    | 35, _ => exact o_law_28_35
    | 36, _ => exact o_law_28_36
    | 37, _ => exact o_law_28_37
    | 38, _ => exact o_law_28_38
    | 39, _ => exact o_law_28_39
    | 40, _ => exact o_law_28_40
    | 41, _ => exact o_law_28_41
    | 42, _ => exact o_law_28_42
    | 43, _ => exact o_law_28_43
    | 44, _ => exact o_law_28_44
    | 45, _ => exact o_law_28_45
    | 46, _ => exact o_law_28_46
    | 47, _ => exact o_law_28_47
    | 48, _ => exact o_law_28_48
    | 49, _ => exact o_law_28_49
    | 50, _ => exact o_law_28_50
    | 51, _ => exact o_law_28_51
    | 52, _ => exact o_law_28_52
    | 53, _ => exact o_law_28_53
    | 54, _ => exact o_law_28_54
    | 55, _ => exact o_law_28_55
    | 56, _ => exact o_law_28_56
    | 57, _ => exact o_law_28_57
    | 58, _ => exact o_law_28_58
    | 59, _ => exact o_law_28_59
    | k + 60, hk => exact absurd hk (by omega)
set_option maxRecDepth 200000 in
set_option maxHeartbeats 4000000 in
theorem o_law_27_d : sa_Ok3 (fun pc => sa_fd pc t_law) sa_finL (S_law_27.1, S_law_27.2.1, S_law_27.2.2.1, D_law_27, S_law_27.2.2.2.2) := sa_Ok3.of (sa_runC_ok (Ts := []) (fun _ h => absurd h List.not_mem_nil) 15 _ (by decide +kernel))
set_option maxRecDepth 200000 in
set_option maxHeartbeats 4000000 in
theorem o_law_27 : sa_Ok3 (fun pc => sa_fd pc t_law) sa_finL S_law_27 := sa_Ok3.drop (pc := S_law_27.1) (lo := S_law_27.2.1) (st := S_law_27.2.2.1) (cs := C_law) (w := D_law_27) (r := S_law_27.2.2.2.2) [0, 3, 31, 200] (by decide +kernel) (by decide +kernel) o_law_27_d
set_option maxRecDepth 200000 in
set_option maxHeartbeats 4000000 in
theorem o_law_26_d : sa_Ok3 (fun pc => sa_fd pc t_law) sa_finL (S_law_26.1, S_law_26.2.1, S_law_26.2.2.1, D_law_26, S_law_26.2.2.2.2) := sa_Ok3.of (sa_runC_ok (Ts := []) (fun _ h => absurd h List.not_mem_nil) 15 _ (by decide +kernel))
set_option maxRecDepth 200000 in
set_option maxHeartbeats 4000000 in
theorem o_law_26 : sa_Ok3 (fun pc => sa_fd pc t_law) sa_finL S_law_26 := sa_Ok3.drop (pc := S_law_26.1) (lo := S_law_26.2.1) (st := S_law_26.2.2.1) (cs := C_law) (w := D_law_26) (r := S_law_26.2.2.2.2) [0, 1, 3, 200] (by decide +kernel) (by decide +kernel) o_law_26_d
set_option maxRecDepth 200000 in
set_option maxHeartbeats 4000000 in
theorem o_law_25_d : sa_Ok3 (fun pc => sa_fd pc t_law) sa_finL (S_law_25.1, S_law_25.2.1, S_law_25.2.2.1, D_law_25, S_law_25.2.2.2.2) := sa_Ok3.of (sa_runC_ok (Ts := []) (fun _ h => absurd h List.not_mem_nil) 44 _ (by decide +kernel))
set_option maxRecDepth 200000 in
set_option maxHeartbeats 4000000 in
theorem o_law_25 : sa_Ok3 (fun pc => sa_fd pc t_law) sa_finL S_law_25 := sa_Ok3.drop (pc := S_law_25.1) (lo := S_law_25.2.1) (st := S_law_25.2.2.1) (cs := C_law) (w := D_law_25) (r := S_law_25.2.2.2.2) [0, 3, 4, 200] (by decide +kernel) (by decide +kernel) o_law_25_d
set_option maxRecDepth 200000 in
set_option maxHeartbeats 4000000 in
theorem o_law_24_d : sa_Ok3 (fun pc => sa_fd pc t_law) sa_finL (S_law_24.1, S_law_24.2.1, S_law_24.2.2.1, D_law_24, S_law_24.2.2.2.2) := sa_Ok3.of (sa_runC_ok (Ts := []) (fun _ h => absurd h List.not_mem_nil) 54 _ (by decide +kernel))
set_option maxRecDepth 200000 in
set_option maxHeartbeats 4000000 in
theorem o_law_24 : sa_Ok3 (fun pc => sa_fd pc t_law) sa_finL S_law_24 := sa_Ok3.drop (pc := S_law_24.1) (lo := S_law_24.2.1) (st := S_law_24.2.2.1) (cs := C_law) (w := D_law_24) (r := S_law_24.2.2.2.2) [0, 3, 4, 200, 202] (by decide +kernel) (by decide +kernel) o_law_24_d
set_option maxRecDepth 200000 in
set_option maxHeartbeats 4000000 in
theorem o_law_23_d : sa_Ok3 (fun pc => sa_fd pc t_law) sa_finL (S_law_23.1, S_law_23.2.1, S_law_23.2.2.1, D_law_23, S_law_23.2.2.2.2) := sa_Ok3.of (sa_runC_ok (Ts := []) (fun _ h => absurd h List.not_mem_nil) 25 _ (by decide +kernel))
set_option maxRecDepth 200000 in
set_option maxHeartbeats 4000000 in
theorem o_law_23 : sa_Ok3 (fun pc => sa_fd pc t_law) sa_finL S_law_23 := sa_Ok3.drop (pc := S_law_23.1) (lo := S_law_23.2.1) (st := S_law_23.2.2.1) (cs := C_law) (w := D_law_23) (r := S_law_23.2.2.2.2) [0, 137, 200] (by decide +kernel) (by decide +kernel) o_law_23_d
set_option maxRecDepth 200000 in
set_option maxHeartbeats 4000000 in
theorem o_law_22_d : sa_Ok3 (fun pc => sa_fd pc t_law) sa_finL (S_law_22.1, S_law_22.2.1, S_law_22.2.2.1, D_law_22, S_law_22.2.2.2.2) := sa_Ok3.of (sa_runC_ok (Ts := []) (fun _ h => absurd h List.not_mem_nil) 25 _ (by decide +kernel))
set_option maxRecDepth 200000 in
set_option maxHeartbeats 4000000 in
theorem o_law_22 : sa_Ok3 (fun pc => sa_fd pc t_law) sa_finL S_law_22 := sa_Ok3.drop (pc := S_law_22.1) (lo := S_law_22.2.1) (st := S_law_22.2.2.1) (cs := C_law) (w := D_law_22) (r := S_law_22.2.2.2.2) [0, 3, 4, 200, 202] (by decide +kernel) (by decide +kernel) o_law_22_d
set_option maxRecDepth 200000 in
set_option maxHeartbeats 4000000 in
theorem o_law_21_d : sa_Ok3 (fun pc => sa_fd pc t_law) sa_finL (S_law_21.1, S_law_21.2.1, S_law_21.2.2.1, D_law_21, S_law_21.2.2.2.2) := sa_Ok3.of (sa_runC_ok (Ts := []) (fun _ h => absurd h List.not_mem_nil) 25 _ (by decide +kernel))
set_option maxRecDepth 200000 in
set_option maxHeartbeats 4000000 in
theorem o_law_21 : sa_Ok3 (fun pc => sa_fd pc t_law) sa_finL S_law_21 := sa_Ok3.drop (pc := S_law_21.1) (lo := S_law_21.2.1) (st := S_law_21.2.2.1) (cs := C_law) (w := D_law_21) (r := S_law_21.2.2.2.2) [0, 3, 4, 200, 202] (by decide +kernel) (by decide +kernel) o_law_21_d
set_option maxRecDepth 200000 in
set_option maxHeartbeats 4000000 in
theorem o_law_20_d : sa_Ok3 (fun pc => sa_fd pc t_law) sa_finL (S_law_20.1, S_law_20.2.1, S_law_20.2.2.1, D_law_20, S_law_20.2.2.2.2) := sa_Ok3.of (sa_runC_ok (Ts := []) (fun _ h => absurd h List.not_mem_nil) 24 _ (by decide +kernel))
set_option maxRecDepth 200000 in
set_option maxHeartbeats 4000000 in
theorem o_law_20 : sa_Ok3 (fun pc => sa_fd pc t_law) sa_finL S_law_20 := sa_Ok3.drop (pc := S_law_20.1) (lo := S_law_20.2.1) (st := S_law_20.2.2.1) (cs := C_law) (w := D_law_20) (r := S_law_20.2.2.2.2) [0, 1, 200] (by decide +kernel) (by decide +kernel) o_law_20_d
set_option maxRecDepth 200000 in
set_option maxHeartbeats 4000000 in
theorem o_law_19_d : sa_Ok3 (fun pc => sa_fd pc t_law) sa_finL (S_law_19.1, S_law_19.2.1, S_law_19.2.2.1, D_law_19, S_law_19.2.2.2.2) := sa_Ok3.of (sa_runC_ok (Ts := []) (fun _ h => absurd h List.not_mem_nil) 15 _ (by decide +kernel))
set_option maxRecDepth 200000 in
set_option maxHeartbeats 4000000 in
theorem o_law_19 : sa_Ok3 (fun pc => sa_fd pc t_law) sa_finL S_law_19 := sa_Ok3.drop (pc := S_law_19.1) (lo := S_law_19.2.1) (st := S_law_19.2.2.1) (cs := C_law) (w := D_law_19) (r := S_law_19.2.2.2.2) [0, 200] (by decide +kernel) (by decide +kernel) o_law_19_d
set_option maxRecDepth 200000 in
set_option maxHeartbeats 4000000 in
theorem o_law_18_d : sa_Ok3 (fun pc => sa_fd pc t_law) sa_finL (S_law_18.1, S_law_18.2.1, S_law_18.2.2.1, D_law_18, S_law_18.2.2.2.2) := sa_Ok3.of (sa_runC_ok (Ts := []) (fun _ h => absurd h List.not_mem_nil) 25 _ (by decide +kernel))
