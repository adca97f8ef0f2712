set_option maxRecDepth 20000 in
set_option maxHeartbeats 20000000 in
theorem xr_sp8 {l : Launch} {μ : xw_M} : xw_MetL l vwCl sa_Ts tb_KT0 tc_KL yX12_spelt cX12_spelt 9 (some .long) 2 120 (fun ad => [.int (Int32.ofInt 109), .int (Int32.ofInt 105), .int (Int32.ofInt 110), .int (Int32.ofInt 117), .int (Int32.ofInt 116), .int (Int32.ofInt 101), .int (Int32.ofInt 0)]) μ (fun r μ' => μ = μ' ∧ r = 191610176) :=
  xw_of (by decide) (fun _ => Nat.le_of_ble_eq_true rfl) (fun p e s m args below meth c D dA A al w0 sz C0 hU hO hKL hr hlk hA => by
    refine xw_ldc2 (pc := 0) (z := 27) C0 dX12_spelt_0 tv_1436 (by decide) ?_
    refine xw_iload_n (pc := 3) C0 0 dX12_spelt_3 rfl rfl ?_
    refine xw_i2l (pc := 4) C0 (by omega) dX12_spelt_4 ?_
    refine xw_ldc2 (pc := 5) (z := 96) C0 dX12_spelt_5 tv_1437 (by decide) ?_
    refine xw_lsub (pc := 8) C0 dX12_spelt_8 ?_
    refine xw_lmul (pc := 9) C0 dX12_spelt_9 ?_
    refine xw_iload_n (pc := 10) C0 1 dX12_spelt_10 rfl rfl ?_
    refine xw_i2l (pc := 11) C0 (by omega) dX12_spelt_11 ?_
    refine xw_ladd (pc := 12) C0 dX12_spelt_12 ?_
    refine xw_ldc2 (pc := 13) (z := 96) C0 dX12_spelt_13 tv_1437 (by decide) ?_
    refine xw_lsub (pc := 16) C0 dX12_spelt_16 ?_
    refine xw_lstore (pc := 17) (L' := [(7, .long (Int64.ofInt (((27 * (109 - 96)) + 105) - 96))), (0, .int (Int32.ofInt 109)), (1, .int (Int32.ofInt 105)), (2, .int (Int32.ofInt 110)), (3, .int (Int32.ofInt 117)), (4, .int (Int32.ofInt 116)), (5, .int (Int32.ofInt 101)), (6, .int (Int32.ofInt 0))]) C0 dX12_spelt_17 (by decide) rfl ?_
    refine xw_iload_n (pc := 19) C0 3 dX12_spelt_19 rfl rfl ?_
    refine xw_if_le (pc := 20) (tgt := 38) C0 (by omega) dX12_spelt_20 rfl (fun b1 => ?_) (fun b1 => ?_)
    · exfalso
      omega
    · refine xw_ldc2 (pc := 23) (z := 27) C0 dX12_spelt_23 tv_1436 (by decide) ?_
      refine xw_lload (pc := 26) C0 0 dX12_spelt_26 rfl ?_
      refine xw_lmul (pc := 28) C0 dX12_spelt_28 ?_
      refine xw_iload_n (pc := 29) C0 3 dX12_spelt_29 rfl rfl ?_
      refine xw_i2l (pc := 30) C0 (by omega) dX12_spelt_30 ?_
      refine xw_ladd (pc := 31) C0 dX12_spelt_31 ?_
      refine xw_ldc2 (pc := 32) (z := 96) C0 dX12_spelt_32 tv_1437 (by decide) ?_
      refine xw_lsub (pc := 35) C0 dX12_spelt_35 ?_
      refine xw_lstore (pc := 36) (L' := [(7, .long (Int64.ofInt (((27 * (((27 * (109 - 96)) + 105) - 96)) + 110) - 96))), (0, .int (Int32.ofInt 109)), (1, .int (Int32.ofInt 105)), (2, .int (Int32.ofInt 110)), (3, .int (Int32.ofInt 117)), (4, .int (Int32.ofInt 116)), (5, .int (Int32.ofInt 101)), (6, .int (Int32.ofInt 0))]) C0 dX12_spelt_36 (by decide) rfl ?_
      refine xw_iload_n (pc := 38) C0 4 dX12_spelt_38 rfl rfl ?_
      refine xw_if_le (pc := 39) (tgt := 57) C0 (by omega) dX12_spelt_39 rfl (fun b2 => ?_) (fun b2 => ?_)
      · exfalso
        omega
      · refine xw_ldc2 (pc := 42) (z := 27) C0 dX12_spelt_42 tv_1436 (by decide) ?_
        refine xw_lload (pc := 45) C0 0 dX12_spelt_45 rfl ?_
        refine xw_lmul (pc := 47) C0 dX12_spelt_47 ?_
        refine xw_iload_n (pc := 48) C0 4 dX12_spelt_48 rfl rfl ?_
        refine xw_i2l (pc := 49) C0 (by omega) dX12_spelt_49 ?_
        refine xw_ladd (pc := 50) C0 dX12_spelt_50 ?_
        refine xw_ldc2 (pc := 51) (z := 96) C0 dX12_spelt_51 tv_1437 (by decide) ?_
        refine xw_lsub (pc := 54) C0 dX12_spelt_54 ?_
        refine xw_lstore (pc := 55) (L' := [(7, .long (Int64.ofInt (((27 * (((27 * (((27 * (109 - 96)) + 105) - 96)) + 110) - 96)) + 117) - 96))), (0, .int (Int32.ofInt 109)), (1, .int (Int32.ofInt 105)), (2, .int (Int32.ofInt 110)), (3, .int (Int32.ofInt 117)), (4, .int (Int32.ofInt 116)), (5, .int (Int32.ofInt 101)), (6, .int (Int32.ofInt 0))]) C0 dX12_spelt_55 (by decide) rfl ?_
        refine xw_iload (pc := 57) C0 5 dX12_spelt_57 rfl ?_
        refine xw_if_le (pc := 59) (tgt := 78) C0 (by omega) dX12_spelt_59 rfl (fun b3 => ?_) (fun b3 => ?_)
        · exfalso
          omega
        · refine xw_ldc2 (pc := 62) (z := 27) C0 dX12_spelt_62 tv_1436 (by decide) ?_
          refine xw_lload (pc := 65) C0 0 dX12_spelt_65 rfl ?_
          refine xw_lmul (pc := 67) C0 dX12_spelt_67 ?_
          refine xw_iload (pc := 68) C0 5 dX12_spelt_68 rfl ?_
          refine xw_i2l (pc := 70) C0 (by omega) dX12_spelt_70 ?_
          refine xw_ladd (pc := 71) C0 dX12_spelt_71 ?_
          refine xw_ldc2 (pc := 72) (z := 96) C0 dX12_spelt_72 tv_1437 (by decide) ?_
          refine xw_lsub (pc := 75) C0 dX12_spelt_75 ?_
          refine xw_lstore (pc := 76) (L' := [(7, .long (Int64.ofInt (((27 * (((27 * (((27 * (((27 * (109 - 96)) + 105) - 96)) + 110) - 96)) + 117) - 96)) + 116) - 96))), (0, .int (Int32.ofInt 109)), (1, .int (Int32.ofInt 105)), (2, .int (Int32.ofInt 110)), (3, .int (Int32.ofInt 117)), (4, .int (Int32.ofInt 116)), (5, .int (Int32.ofInt 101)), (6, .int (Int32.ofInt 0))]) C0 dX12_spelt_76 (by decide) rfl ?_
          refine xw_iload (pc := 78) C0 6 dX12_spelt_78 rfl ?_
          refine xw_if_le (pc := 80) (tgt := 99) C0 (by omega) dX12_spelt_80 rfl (fun b4 => ?_) (fun b4 => ?_)
          · exfalso
            omega
          · refine xw_ldc2 (pc := 83) (z := 27) C0 dX12_spelt_83 tv_1436 (by decide) ?_
            refine xw_lload (pc := 86) C0 0 dX12_spelt_86 rfl ?_
            refine xw_lmul (pc := 88) C0 dX12_spelt_88 ?_
            refine xw_iload (pc := 89) C0 6 dX12_spelt_89 rfl ?_
            refine xw_i2l (pc := 91) C0 (by omega) dX12_spelt_91 ?_
            refine xw_ladd (pc := 92) C0 dX12_spelt_92 ?_
            refine xw_ldc2 (pc := 93) (z := 96) C0 dX12_spelt_93 tv_1437 (by decide) ?_
            refine xw_lsub (pc := 96) C0 dX12_spelt_96 ?_
            refine xw_lstore (pc := 97) (L' := [(7, .long (Int64.ofInt (((27 * (((27 * (((27 * (((27 * (((27 * (109 - 96)) + 105) - 96)) + 110) - 96)) + 117) - 96)) + 116) - 96)) + 101) - 96))), (0, .int (Int32.ofInt 109)), (1, .int (Int32.ofInt 105)), (2, .int (Int32.ofInt 110)), (3, .int (Int32.ofInt 117)), (4, .int (Int32.ofInt 116)), (5, .int (Int32.ofInt 101)), (6, .int (Int32.ofInt 0))]) C0 dX12_spelt_97 (by decide) rfl ?_
            refine xw_iload (pc := 99) C0 7 dX12_spelt_99 rfl ?_
            refine xw_if_le (pc := 101) (tgt := 120) C0 (by omega) dX12_spelt_101 rfl (fun b5 => ?_) (fun b5 => ?_)
            · refine xw_lload (pc := 120) C0 0 dX12_spelt_120 rfl ?_
              refine xw_lret C0 hA hr hlk dX12_spelt_122 ?_
              exact ⟨_, rfl, rfl, by decide⟩
            · exfalso
              omega)
set_option maxRecDepth 20000 in
set_option maxHeartbeats 20000000 in
theorem xr_sp9 {l : Launch} {μ : xw_M} : xw_MetL l vwCl sa_Ts tb_KT0 tc_KL yX12_spelt cX12_spelt 9 (some .long) 2 120 (fun ad => [.int (Int32.ofInt 111), .int (Int32.ofInt 114), .int (Int32.ofInt 0), .int (Int32.ofInt 0), .int (Int32.ofInt 0), .int (Int32.ofInt 0), .int (Int32.ofInt 0)]) μ (fun r μ' => μ = μ' ∧ r = 423) :=
  xw_of (by decide) (fun _ => Nat.le_of_ble_eq_true rfl) (fun p e s m args below meth c D dA A al w0 sz C0 hU hO hKL hr hlk hA => by
    refine xw_ldc2 (pc := 0) (z := 27) C0 dX12_spelt_0 tv_1436 (by decide) ?_
    refine xw_iload_n (pc := 3) C0 0 dX12_spelt_3 rfl rfl ?_
    refine xw_i2l (pc := 4) C0 (by omega) dX12_spelt_4 ?_
    refine xw_ldc2 (pc := 5) (z := 96) C0 dX12_spelt_5 tv_1437 (by decide) ?_
    refine xw_lsub (pc := 8) C0 dX12_spelt_8 ?_
    refine xw_lmul (pc := 9) C0 dX12_spelt_9 ?_
    refine xw_iload_n (pc := 10) C0 1 dX12_spelt_10 rfl rfl ?_
    refine xw_i2l (pc := 11) C0 (by omega) dX12_spelt_11 ?_
    refine xw_ladd (pc := 12) C0 dX12_spelt_12 ?_
    refine xw_ldc2 (pc := 13) (z := 96) C0 dX12_spelt_13 tv_1437 (by decide) ?_
    refine xw_lsub (pc := 16) C0 dX12_spelt_16 ?_
    refine xw_lstore (pc := 17) (L' := [(7, .long (Int64.ofInt (((27 * (111 - 96)) + 114) - 96))), (0, .int (Int32.ofInt 111)), (1, .int (Int32.ofInt 114)), (2, .int (Int32.ofInt 0)), (3, .int (Int32.ofInt 0)), (4, .int (Int32.ofInt 0)), (5, .int (Int32.ofInt 0)), (6, .int (Int32.ofInt 0))]) C0 dX12_spelt_17 (by decide) rfl ?_
    refine xw_iload_n (pc := 19) C0 3 dX12_spelt_19 rfl rfl ?_
    refine xw_if_le (pc := 20) (tgt := 38) C0 (by omega) dX12_spelt_20 rfl (fun b1 => ?_) (fun b1 => ?_)
    · refine xw_iload_n (pc := 38) C0 4 dX12_spelt_38 rfl rfl ?_
      refine xw_if_le (pc := 39) (tgt := 57) C0 (by omega) dX12_spelt_39 rfl (fun b2 => ?_) (fun b2 => ?_)
      · refine xw_iload (pc := 57) C0 5 dX12_spelt_57 rfl ?_
        refine xw_if_le (pc := 59) (tgt := 78) C0 (by omega) dX12_spelt_59 rfl (fun b3 => ?_) (fun b3 => ?_)
        · refine xw_iload (pc := 78) C0 6 dX12_spelt_78 rfl ?_
          refine xw_if_le (pc := 80) (tgt := 99) C0 (by omega) dX12_spelt_80 rfl (fun b4 => ?_) (fun b4 => ?_)
          · refine xw_iload (pc := 99) C0 7 dX12_spelt_99 rfl ?_
            refine xw_if_le (pc := 101) (tgt := 120) C0 (by omega) dX12_spelt_101 rfl (fun b5 => ?_) (fun b5 => ?_)
            · refine xw_lload (pc := 120) C0 0 dX12_spelt_120 rfl ?_
              refine xw_lret C0 hA hr hlk dX12_spelt_122 ?_
              exact ⟨_, rfl, rfl, by decide⟩
            · exfalso
              omega
          · exfalso
            omega
        · exfalso
          omega
      · exfalso
        omega
    · exfalso
      omega)
set_option maxRecDepth 20000 in
set_option maxHeartbeats 20000000 in
theorem xr_sp10 {l : Launch} {μ : xw_M} : xw_MetL l vwCl sa_Ts tb_KT0 tc_KL yX12_spelt cX12_spelt 9 (some .long) 2 120 (fun ad => [.int (Int32.ofInt 97), .int (Int32.ofInt 110), .int (Int32.ofInt 100), .int (Int32.ofInt 0), .int (Int32.ofInt 0), .int (Int32.ofInt 0), .int (Int32.ofInt 0)]) μ (fun r μ' => μ = μ' ∧ r = 1111) :=
  xw_of (by decide) (fun _ => Nat.le_of_ble_eq_true rfl) (fun p e s m args below meth c D dA A al w0 sz C0 hU hO hKL hr hlk hA => by
    refine xw_ldc2 (pc := 0) (z := 27) C0 dX12_spelt_0 tv_1436 (by decide) ?_
    refine xw_iload_n (pc := 3) C0 0 dX12_spelt_3 rfl rfl ?_
    refine xw_i2l (pc := 4) C0 (by omega) dX12_spelt_4 ?_
    refine xw_ldc2 (pc := 5) (z := 96) C0 dX12_spelt_5 tv_1437 (by decide) ?_
    refine xw_lsub (pc := 8) C0 dX12_spelt_8 ?_
    refine xw_lmul (pc := 9) C0 dX12_spelt_9 ?_
    refine xw_iload_n (pc := 10) C0 1 dX12_spelt_10 rfl rfl ?_
    refine xw_i2l (pc := 11) C0 (by omega) dX12_spelt_11 ?_
    refine xw_ladd (pc := 12) C0 dX12_spelt_12 ?_
    refine xw_ldc2 (pc := 13) (z := 96) C0 dX12_spelt_13 tv_1437 (by decide) ?_
    refine xw_lsub (pc := 16) C0 dX12_spelt_16 ?_
    refine xw_lstore (pc := 17) (L' := [(7, .long (Int64.ofInt (((27 * (97 - 96)) + 110) - 96))), (0, .int (Int32.ofInt 97)), (1, .int (Int32.ofInt 110)), (2, .int (Int32.ofInt 100)), (3, .int (Int32.ofInt 0)), (4, .int (Int32.ofInt 0)), (5, .int (Int32.ofInt 0)), (6, .int (Int32.ofInt 0))]) C0 dX12_spelt_17 (by decide) rfl ?_
    refine xw_iload_n (pc := 19) C0 3 dX12_spelt_19 rfl rfl ?_
    refine xw_if_le (pc := 20) (tgt := 38) C0 (by omega) dX12_spelt_20 rfl (fun b1 => ?_) (fun b1 => ?_)
    · exfalso
      omega
    · refine xw_ldc2 (pc := 23) (z := 27) C0 dX12_spelt_23 tv_1436 (by decide) ?_
      refine xw_lload (pc := 26) C0 0 dX12_spelt_26 rfl ?_
      refine xw_lmul (pc := 28) C0 dX12_spelt_28 ?_
      refine xw_iload_n (pc := 29) C0 3 dX12_spelt_29 rfl rfl ?_
      refine xw_i2l (pc := 30) C0 (by omega) dX12_spelt_30 ?_
      refine xw_ladd (pc := 31) C0 dX12_spelt_31 ?_
      refine xw_ldc2 (pc := 32) (z := 96) C0 dX12_spelt_32 tv_1437 (by decide) ?_
      refine xw_lsub (pc := 35) C0 dX12_spelt_35 ?_
      refine xw_lstore (pc := 36) (L' := [(7, .long (Int64.ofInt (((27 * (((27 * (97 - 96)) + 110) - 96)) + 100) - 96))), (0, .int (Int32.ofInt 97)), (1, .int (Int32.ofInt 110)), (2, .int (Int32.ofInt 100)), (3, .int (Int32.ofInt 0)), (4, .int (Int32.ofInt 0)), (5, .int (Int32.ofInt 0)), (6, .int (Int32.ofInt 0))]) C0 dX12_spelt_36 (by decide) rfl ?_
      refine xw_iload_n (pc := 38) C0 4 dX12_spelt_38 rfl rfl ?_
      refine xw_if_le (pc := 39) (tgt := 57) C0 (by omega) dX12_spelt_39 rfl (fun b2 => ?_) (fun b2 => ?_)
      · refine xw_iload (pc := 57) C0 5 dX12_spelt_57 rfl ?_
        refine xw_if_le (pc := 59) (tgt := 78) C0 (by omega) dX12_spelt_59 rfl (fun b3 => ?_) (fun b3 => ?_)
        · refine xw_iload (pc := 78) C0 6 dX12_spelt_78 rfl ?_
          refine xw_if_le (pc := 80) (tgt := 99) C0 (by omega) dX12_spelt_80 rfl (fun b4 => ?_) (fun b4 => ?_)
          · refine xw_iload (pc := 99) C0 7 dX12_spelt_99 rfl ?_
            refine xw_if_le (pc := 101) (tgt := 120) C0 (by omega) dX12_spelt_101 rfl (fun b5 => ?_) (fun b5 => ?_)
            · refine xw_lload (pc := 120) C0 0 dX12_spelt_120 rfl ?_
              refine xw_lret C0 hA hr hlk dX12_spelt_122 ?_
              exact ⟨_, rfl, rfl, by decide⟩
            · exfalso
              omega
          · exfalso
            omega
        · exfalso
          omega
      · exfalso
        omega)
set_option maxRecDepth 20000 in
set_option maxHeartbeats 20000000 in
theorem xr_sp11 {l : Launch} {μ : xw_M} : xw_MetL l vwCl sa_Ts tb_KT0 tc_KL yX12_spelt cX12_spelt 9 (some .long) 2 120 (fun ad => [.int (Int32.ofInt 110), .int (Int32.ofInt 111), .int (Int32.ofInt 116), .int (Int32.ofInt 0), .int (Int32.ofInt 0), .int (Int32.ofInt 0), .int (Int32.ofInt 0)]) μ (fun r μ' => μ = μ' ∧ r = 10631) :=
  xw_of (by decide) (fun _ => Nat.le_of_ble_eq_true rfl) (fun p e s m args below meth c D dA A al w0 sz C0 hU hO hKL hr hlk hA => by
    refine xw_ldc2 (pc := 0) (z := 27) C0 dX12_spelt_0 tv_1436 (by decide) ?_
    refine xw_iload_n (pc := 3) C0 0 dX12_spelt_3 rfl rfl ?_
    refine xw_i2l (pc := 4) C0 (by omega) dX12_spelt_4 ?_
    refine xw_ldc2 (pc := 5) (z := 96) C0 dX12_spelt_5 tv_1437 (by decide) ?_
    refine xw_lsub (pc := 8) C0 dX12_spelt_8 ?_
    refine xw_lmul (pc := 9) C0 dX12_spelt_9 ?_
    refine xw_iload_n (pc := 10) C0 1 dX12_spelt_10 rfl rfl ?_
    refine xw_i2l (pc := 11) C0 (by omega) dX12_spelt_11 ?_
    refine xw_ladd (pc := 12) C0 dX12_spelt_12 ?_
    refine xw_ldc2 (pc := 13) (z := 96) C0 dX12_spelt_13 tv_1437 (by decide) ?_
    refine xw_lsub (pc := 16) C0 dX12_spelt_16 ?_
    refine xw_lstore (pc := 17) (L' := [(7, .long (Int64.ofInt (((27 * (110 - 96)) + 111) - 96))), (0, .int (Int32.ofInt 110)), (1, .int (Int32.ofInt 111)), (2, .int (Int32.ofInt 116)), (3, .int (Int32.ofInt 0)), (4, .int (Int32.ofInt 0)), (5, .int (Int32.ofInt 0)), (6, .int (Int32.ofInt 0))]) C0 dX12_spelt_17 (by decide) rfl ?_
    refine xw_iload_n (pc := 19) C0 3 dX12_spelt_19 rfl rfl ?_
    refine xw_if_le (pc := 20) (tgt := 38) C0 (by omega) dX12_spelt_20 rfl (fun b1 => ?_) (fun b1 => ?_)
    · exfalso
      omega
    · refine xw_ldc2 (pc := 23) (z := 27) C0 dX12_spelt_23 tv_1436 (by decide) ?_
      refine xw_lload (pc := 26) C0 0 dX12_spelt_26 rfl ?_
      refine xw_lmul (pc := 28) C0 dX12_spelt_28 ?_
      refine xw_iload_n (pc := 29) C0 3 dX12_spelt_29 rfl rfl ?_
      refine xw_i2l (pc := 30) C0 (by omega) dX12_spelt_30 ?_
      refine xw_ladd (pc := 31) C0 dX12_spelt_31 ?_
      refine xw_ldc2 (pc := 32) (z := 96) C0 dX12_spelt_32 tv_1437 (by decide) ?_
      refine xw_lsub (pc := 35) C0 dX12_spelt_35 ?_
      refine xw_lstore (pc := 36) (L' := [(7, .long (Int64.ofInt (((27 * (((27 * (110 - 96)) + 111) - 96)) + 116) - 96))), (0, .int (Int32.ofInt 110)), (1, .int (Int32.ofInt 111)), (2, .int (Int32.ofInt 116)), (3, .int (Int32.ofInt 0)), (4, .int (Int32.ofInt 0)), (5, .int (Int32.ofInt 0)), (6, .int (Int32.ofInt 0))]) C0 dX12_spelt_36 (by decide) rfl ?_
      refine xw_iload_n (pc := 38) C0 4 dX12_spelt_38 rfl rfl ?_
      refine xw_if_le (pc := 39) (tgt := 57) C0 (by omega) dX12_spelt_39 rfl (fun b2 => ?_) (fun b2 => ?_)
      · refine xw_iload (pc := 57) C0 5 dX12_spelt_57 rfl ?_
        refine xw_if_le (pc := 59) (tgt := 78) C0 (by omega) dX12_spelt_59 rfl (fun b3 => ?_) (fun b3 => ?_)
        · refine xw_iload (pc := 78) C0 6 dX12_spelt_78 rfl ?_
          refine xw_if_le (pc := 80) (tgt := 99) C0 (by omega) dX12_spelt_80 rfl (fun b4 => ?_) (fun b4 => ?_)
          · refine xw_iload (pc := 99) C0 7 dX12_spelt_99 rfl ?_
            refine xw_if_le (pc := 101) (tgt := 120) C0 (by omega) dX12_spelt_101 rfl (fun b5 => ?_) (fun b5 => ?_)
            · refine xw_lload (pc := 120) C0 0 dX12_spelt_120 rfl ?_
              refine xw_lret C0 hA hr hlk dX12_spelt_122 ?_
              exact ⟨_, rfl, rfl, by decide⟩
            · exfalso
              omega
          · exfalso
            omega
        · exfalso
          omega
      · exfalso
        omega)
set_option maxRecDepth 20000 in
set_option maxHeartbeats 20000000 in
theorem xr_sp12 {l : Launch} {μ : xw_M} : xw_MetL l vwCl sa_Ts tb_KT0 tc_KL yX12_spelt cX12_spelt 9 (some .long) 2 120 (fun ad => [.int (Int32.ofInt 119), .int (Int32.ofInt 111), .int (Int32.ofInt 114), .int (Int32.ofInt 107), .int (Int32.ofInt 115), .int (Int32.ofInt 0), .int (Int32.ofInt 0)]) μ (fun r μ' => μ = μ' ∧ r = 12531826) :=
  xw_of (by decide) (fun _ => Nat.le_of_ble_eq_true rfl) (fun p e s m args below meth c D dA A al w0 sz C0 hU hO hKL hr hlk hA => by
    refine xw_ldc2 (pc := 0) (z := 27) C0 dX12_spelt_0 tv_1436 (by decide) ?_
    refine xw_iload_n (pc := 3) C0 0 dX12_spelt_3 rfl rfl ?_
    refine xw_i2l (pc := 4) C0 (by omega) dX12_spelt_4 ?_
    refine xw_ldc2 (pc := 5) (z := 96) C0 dX12_spelt_5 tv_1437 (by decide) ?_
    refine xw_lsub (pc := 8) C0 dX12_spelt_8 ?_
    refine xw_lmul (pc := 9) C0 dX12_spelt_9 ?_
    refine xw_iload_n (pc := 10) C0 1 dX12_spelt_10 rfl rfl ?_
    refine xw_i2l (pc := 11) C0 (by omega) dX12_spelt_11 ?_
    refine xw_ladd (pc := 12) C0 dX12_spelt_12 ?_
    refine xw_ldc2 (pc := 13) (z := 96) C0 dX12_spelt_13 tv_1437 (by decide) ?_
    refine xw_lsub (pc := 16) C0 dX12_spelt_16 ?_
    refine xw_lstore (pc := 17) (L' := [(7, .long (Int64.ofInt (((27 * (119 - 96)) + 111) - 96))), (0, .int (Int32.ofInt 119)), (1, .int (Int32.ofInt 111)), (2, .int (Int32.ofInt 114)), (3, .int (Int32.ofInt 107)), (4, .int (Int32.ofInt 115)), (5, .int (Int32.ofInt 0)), (6, .int (Int32.ofInt 0))]) C0 dX12_spelt_17 (by decide) rfl ?_
    refine xw_iload_n (pc := 19) C0 3 dX12_spelt_19 rfl rfl ?_
    refine xw_if_le (pc := 20) (tgt := 38) C0 (by omega) dX12_spelt_20 rfl (fun b1 => ?_) (fun b1 => ?_)
    · exfalso
      omega
    · refine xw_ldc2 (pc := 23) (z := 27) C0 dX12_spelt_23 tv_1436 (by decide) ?_
      refine xw_lload (pc := 26) C0 0 dX12_spelt_26 rfl ?_
      refine xw_lmul (pc := 28) C0 dX12_spelt_28 ?_
      refine xw_iload_n (pc := 29) C0 3 dX12_spelt_29 rfl rfl ?_
      refine xw_i2l (pc := 30) C0 (by omega) dX12_spelt_30 ?_
      refine xw_ladd (pc := 31) C0 dX12_spelt_31 ?_
      refine xw_ldc2 (pc := 32) (z := 96) C0 dX12_spelt_32 tv_1437 (by decide) ?_
      refine xw_lsub (pc := 35) C0 dX12_spelt_35 ?_
      refine xw_lstore (pc := 36) (L' := [(7, .long (Int64.ofInt (((27 * (((27 * (119 - 96)) + 111) - 96)) + 114) - 96))), (0, .int (Int32.ofInt 119)), (1, .int (Int32.ofInt 111)), (2, .int (Int32.ofInt 114)), (3, .int (Int32.ofInt 107)), (4, .int (Int32.ofInt 115)), (5, .int (Int32.ofInt 0)), (6, .int (Int32.ofInt 0))]) C0 dX12_spelt_36 (by decide) rfl ?_
      refine xw_iload_n (pc := 38) C0 4 dX12_spelt_38 rfl rfl ?_
      refine xw_if_le (pc := 39) (tgt := 57) C0 (by omega) dX12_spelt_39 rfl (fun b2 => ?_) (fun b2 => ?_)
      · exfalso
        omega
      · refine xw_ldc2 (pc := 42) (z := 27) C0 dX12_spelt_42 tv_1436 (by decide) ?_
        refine xw_lload (pc := 45) C0 0 dX12_spelt_45 rfl ?_
        refine xw_lmul (pc := 47) C0 dX12_spelt_47 ?_
        refine xw_iload_n (pc := 48) C0 4 dX12_spelt_48 rfl rfl ?_
        refine xw_i2l (pc := 49) C0 (by omega) dX12_spelt_49 ?_
        refine xw_ladd (pc := 50) C0 dX12_spelt_50 ?_
        refine xw_ldc2 (pc := 51) (z := 96) C0 dX12_spelt_51 tv_1437 (by decide) ?_
        refine xw_lsub (pc := 54) C0 dX12_spelt_54 ?_
        refine xw_lstore (pc := 55) (L' := [(7, .long (Int64.ofInt (((27 * (((27 * (((27 * (119 - 96)) + 111) - 96)) + 114) - 96)) + 107) - 96))), (0, .int (Int32.ofInt 119)), (1, .int (Int32.ofInt 111)), (2, .int (Int32.ofInt 114)), (3, .int (Int32.ofInt 107)), (4, .int (Int32.ofInt 115)), (5, .int (Int32.ofInt 0)), (6, .int (Int32.ofInt 0))]) C0 dX12_spelt_55 (by decide) rfl ?_
        refine xw_iload (pc := 57) C0 5 dX12_spelt_57 rfl ?_
        refine xw_if_le (pc := 59) (tgt := 78) C0 (by omega) dX12_spelt_59 rfl (fun b3 => ?_) (fun b3 => ?_)
        · exfalso
          omega
        · refine xw_ldc2 (pc := 62) (z := 27) C0 dX12_spelt_62 tv_1436 (by decide) ?_
          refine xw_lload (pc := 65) C0 0 dX12_spelt_65 rfl ?_
          refine xw_lmul (pc := 67) C0 dX12_spelt_67 ?_
          refine xw_iload (pc := 68) C0 5 dX12_spelt_68 rfl ?_
          refine xw_i2l (pc := 70) C0 (by omega) dX12_spelt_70 ?_
          refine xw_ladd (pc := 71) C0 dX12_spelt_71 ?_
          refine xw_ldc2 (pc := 72) (z := 96) C0 dX12_spelt_72 tv_1437 (by decide) ?_
          refine xw_lsub (pc := 75) C0 dX12_spelt_75 ?_
          refine xw_lstore (pc := 76) (L' := [(7, .long (Int64.ofInt (((27 * (((27 * (((27 * (((27 * (119 - 96)) + 111) - 96)) + 114) - 96)) + 107) - 96)) + 115) - 96))), (0, .int (Int32.ofInt 119)), (1, .int (Int32.ofInt 111)), (2, .int (Int32.ofInt 114)), (3, .int (Int32.ofInt 107)), (4, .int (Int32.ofInt 115)), (5, .int (Int32.ofInt 0)), (6, .int (Int32.ofInt 0))]) C0 dX12_spelt_76 (by decide) rfl ?_
          refine xw_iload (pc := 78) C0 6 dX12_spelt_78 rfl ?_
          refine xw_if_le (pc := 80) (tgt := 99) C0 (by omega) dX12_spelt_80 rfl (fun b4 => ?_) (fun b4 => ?_)
          · refine xw_iload (pc := 99) C0 7 dX12_spelt_99 rfl ?_
            refine xw_if_le (pc := 101) (tgt := 120) C0 (by omega) dX12_spelt_101 rfl (fun b5 => ?_) (fun b5 => ?_)
            · refine xw_lload (pc := 120) C0 0 dX12_spelt_120 rfl ?_
              refine xw_lret C0 hA hr hlk dX12_spelt_122 ?_
              exact ⟨_, rfl, rfl, by decide⟩
            · exfalso
              omega
          · exfalso
            omega)
set_option maxRecDepth 20000 in
set_option maxHeartbeats 20000000 in
theorem xr_sp13 {l : Launch} {μ : xw_M} : xw_MetL l vwCl sa_Ts tb_KT0 tc_KL yX12_spelt cX12_spelt 9 (some .long) 2 120 (fun ad => [.int (Int32.ofInt 117), .int (Int32.ofInt 112), .int (Int32.ofInt 0), .int (Int32.ofInt 0), .int (Int32.ofInt 0), .int (Int32.ofInt 0), .int (Int32.ofInt 0)]) μ (fun r μ' => μ = μ' ∧ r = 583) :=
  xw_of (by decide) (fun _ => Nat.le_of_ble_eq_true rfl) (fun p e s m args below meth c D dA A al w0 sz C0 hU hO hKL hr hlk hA => by
    refine xw_ldc2 (pc := 0) (z := 27) C0 dX12_spelt_0 tv_1436 (by decide) ?_
    refine xw_iload_n (pc := 3) C0 0 dX12_spelt_3 rfl rfl ?_
    refine xw_i2l (pc := 4) C0 (by omega) dX12_spelt_4 ?_
    refine xw_ldc2 (pc := 5) (z := 96) C0 dX12_spelt_5 tv_1437 (by decide) ?_
    refine xw_lsub (pc := 8) C0 dX12_spelt_8 ?_
    refine xw_lmul (pc := 9) C0 dX12_spelt_9 ?_
    refine xw_iload_n (pc := 10) C0 1 dX12_spelt_10 rfl rfl ?_
    refine xw_i2l (pc := 11) C0 (by omega) dX12_spelt_11 ?_
    refine xw_ladd (pc := 12) C0 dX12_spelt_12 ?_
    refine xw_ldc2 (pc := 13) (z := 96) C0 dX12_spelt_13 tv_1437 (by decide) ?_
    refine xw_lsub (pc := 16) C0 dX12_spelt_16 ?_
    refine xw_lstore (pc := 17) (L' := [(7, .long (Int64.ofInt (((27 * (117 - 96)) + 112) - 96))), (0, .int (Int32.ofInt 117)), (1, .int (Int32.ofInt 112)), (2, .int (Int32.ofInt 0)), (3, .int (Int32.ofInt 0)), (4, .int (Int32.ofInt 0)), (5, .int (Int32.ofInt 0)), (6, .int (Int32.ofInt 0))]) C0 dX12_spelt_17 (by decide) rfl ?_
    refine xw_iload_n (pc := 19) C0 3 dX12_spelt_19 rfl rfl ?_
    refine xw_if_le (pc := 20) (tgt := 38) C0 (by omega) dX12_spelt_20 rfl (fun b1 => ?_) (fun b1 => ?_)
    · refine xw_iload_n (pc := 38) C0 4 dX12_spelt_38 rfl rfl ?_
      refine xw_if_le (pc := 39) (tgt := 57) C0 (by omega) dX12_spelt_39 rfl (fun b2 => ?_) (fun b2 => ?_)
      · refine xw_iload (pc := 57) C0 5 dX12_spelt_57 rfl ?_
        refine xw_if_le (pc := 59) (tgt := 78) C0 (by omega) dX12_spelt_59 rfl (fun b3 => ?_) (fun b3 => ?_)
        · refine xw_iload (pc := 78) C0 6 dX12_spelt_78 rfl ?_
          refine xw_if_le (pc := 80) (tgt := 99) C0 (by omega) dX12_spelt_80 rfl (fun b4 => ?_) (fun b4 => ?_)
          · refine xw_iload (pc := 99) C0 7 dX12_spelt_99 rfl ?_
            refine xw_if_le (pc := 101) (tgt := 120) C0 (by omega) dX12_spelt_101 rfl (fun b5 => ?_) (fun b5 => ?_)
            · refine xw_lload (pc := 120) C0 0 dX12_spelt_120 rfl ?_
              refine xw_lret C0 hA hr hlk dX12_spelt_122 ?_
              exact ⟨_, rfl, rfl, by decide⟩
            · exfalso
              omega
          · exfalso
            omega
        · exfalso
          omega
      · exfalso
        omega
    · exfalso
      omega)
set_option maxRecDepth 20000 in
set_option maxHeartbeats 20000000 in
theorem xr_sp14 {l : Launch} {μ : xw_M} : xw_MetL l vwCl sa_Ts tb_KT0 tc_KL yX12_spelt cX12_spelt 9 (some .long) 2 120 (fun ad => [.int (Int32.ofInt 98), .int (Int32.ofInt 111), .int (Int32.ofInt 111), .int (Int32.ofInt 116), .int (Int32.ofInt 115), .int (Int32.ofInt 0), .int (Int32.ofInt 0)]) μ (fun r μ' => μ = μ' ∧ r = 1369621) :=
  xw_of (by decide) (fun _ => Nat.le_of_ble_eq_true rfl) (fun p e s m args below meth c D dA A al w0 sz C0 hU hO hKL hr hlk hA => by
    refine xw_ldc2 (pc := 0) (z := 27) C0 dX12_spelt_0 tv_1436 (by decide) ?_
    refine xw_iload_n (pc := 3) C0 0 dX12_spelt_3 rfl rfl ?_
    refine xw_i2l (pc := 4) C0 (by omega) dX12_spelt_4 ?_
    refine xw_ldc2 (pc := 5) (z := 96) C0 dX12_spelt_5 tv_1437 (by decide) ?_
    refine xw_lsub (pc := 8) C0 dX12_spelt_8 ?_
    refine xw_lmul (pc := 9) C0 dX12_spelt_9 ?_
    refine xw_iload_n (pc := 10) C0 1 dX12_spelt_10 rfl rfl ?_
    refine xw_i2l (pc := 11) C0 (by omega) dX12_spelt_11 ?_
    refine xw_ladd (pc := 12) C0 dX12_spelt_12 ?_
    refine xw_ldc2 (pc := 13) (z := 96) C0 dX12_spelt_13 tv_1437 (by decide) ?_
    refine xw_lsub (pc := 16) C0 dX12_spelt_16 ?_
    refine xw_lstore (pc := 17) (L' := [(7, .long (Int64.ofInt (((27 * (98 - 96)) + 111) - 96))), (0, .int (Int32.ofInt 98)), (1, .int (Int32.ofInt 111)), (2, .int (Int32.ofInt 111)), (3, .int (Int32.ofInt 116)), (4, .int (Int32.ofInt 115)), (5, .int (Int32.ofInt 0)), (6, .int (Int32.ofInt 0))]) C0 dX12_spelt_17 (by decide) rfl ?_
    refine xw_iload_n (pc := 19) C0 3 dX12_spelt_19 rfl rfl ?_
    refine xw_if_le (pc := 20) (tgt := 38) C0 (by omega) dX12_spelt_20 rfl (fun b1 => ?_) (fun b1 => ?_)
    · exfalso
      omega
    · refine xw_ldc2 (pc := 23) (z := 27) C0 dX12_spelt_23 tv_1436 (by decide) ?_
      refine xw_lload (pc := 26) C0 0 dX12_spelt_26 rfl ?_
      refine xw_lmul (pc := 28) C0 dX12_spelt_28 ?_
      refine xw_iload_n (pc := 29) C0 3 dX12_spelt_29 rfl rfl ?_
      refine xw_i2l (pc := 30) C0 (by omega) dX12_spelt_30 ?_
      refine xw_ladd (pc := 31) C0 dX12_spelt_31 ?_
      refine xw_ldc2 (pc := 32) (z := 96) C0 dX12_spelt_32 tv_1437 (by decide) ?_
      refine xw_lsub (pc := 35) C0 dX12_spelt_35 ?_
      refine xw_lstore (pc := 36) (L' := [(7, .long (Int64.ofInt (((27 * (((27 * (98 - 96)) + 111) - 96)) + 111) - 96))), (0, .int (Int32.ofInt 98)), (1, .int (Int32.ofInt 111)), (2, .int (Int32.ofInt 111)), (3, .int (Int32.ofInt 116)), (4, .int (Int32.ofInt 115)), (5, .int (Int32.ofInt 0)), (6, .int (Int32.ofInt 0))]) C0 dX12_spelt_36 (by decide) rfl ?_
      refine xw_iload_n (pc := 38) C0 4 dX12_spelt_38 rfl rfl ?_
      refine xw_if_le (pc := 39) (tgt := 57) C0 (by omega) dX12_spelt_39 rfl (fun b2 => ?_) (fun b2 => ?_)
      · exfalso
        omega
      · refine xw_ldc2 (pc := 42) (z := 27) C0 dX12_spelt_42 tv_1436 (by decide) ?_
        refine xw_lload (pc := 45) C0 0 dX12_spelt_45 rfl ?_
        refine xw_lmul (pc := 47) C0 dX12_spelt_47 ?_
        refine xw_iload_n (pc := 48) C0 4 dX12_spelt_48 rfl rfl ?_
        refine xw_i2l (pc := 49) C0 (by omega) dX12_spelt_49 ?_
        refine xw_ladd (pc := 50) C0 dX12_spelt_50 ?_
        refine xw_ldc2 (pc := 51) (z := 96) C0 dX12_spelt_51 tv_1437 (by decide) ?_
        refine xw_lsub (pc := 54) C0 dX12_spelt_54 ?_
        refine xw_lstore (pc := 55) (L' := [(7, .long (Int64.ofInt (((27 * (((27 * (((27 * (98 - 96)) + 111) - 96)) + 111) - 96)) + 116) - 96))), (0, .int (Int32.ofInt 98)), (1, .int (Int32.ofInt 111)), (2, .int (Int32.ofInt 111)), (3, .int (Int32.ofInt 116)), (4, .int (Int32.ofInt 115)), (5, .int (Int32.ofInt 0)), (6, .int (Int32.ofInt 0))]) C0 dX12_spelt_55 (by decide) rfl ?_
        refine xw_iload (pc := 57) C0 5 dX12_spelt_57 rfl ?_
        refine xw_if_le (pc := 59) (tgt := 78) C0 (by omega) dX12_spelt_59 rfl (fun b3 => ?_) (fun b3 => ?_)
        · exfalso
          omega
        · refine xw_ldc2 (pc := 62) (z := 27) C0 dX12_spelt_62 tv_1436 (by decide) ?_
          refine xw_lload (pc := 65) C0 0 dX12_spelt_65 rfl ?_
          refine xw_lmul (pc := 67) C0 dX12_spelt_67 ?_
          refine xw_iload (pc := 68) C0 5 dX12_spelt_68 rfl ?_
          refine xw_i2l (pc := 70) C0 (by omega) dX12_spelt_70 ?_
          refine xw_ladd (pc := 71) C0 dX12_spelt_71 ?_
          refine xw_ldc2 (pc := 72) (z := 96) C0 dX12_spelt_72 tv_1437 (by decide) ?_
          refine xw_lsub (pc := 75) C0 dX12_spelt_75 ?_
          refine xw_lstore (pc := 76) (L' := [(7, .long (Int64.ofInt (((27 * (((27 * (((27 * (((27 * (98 - 96)) + 111) - 96)) + 111) - 96)) + 116) - 96)) + 115) - 96))), (0, .int (Int32.ofInt 98)), (1, .int (Int32.ofInt 111)), (2, .int (Int32.ofInt 111)), (3, .int (Int32.ofInt 116)), (4, .int (Int32.ofInt 115)), (5, .int (Int32.ofInt 0)), (6, .int (Int32.ofInt 0))]) C0 dX12_spelt_76 (by decide) rfl ?_
          refine xw_iload (pc := 78) C0 6 dX12_spelt_78 rfl ?_
          refine xw_if_le (pc := 80) (tgt := 99) C0 (by omega) dX12_spelt_80 rfl (fun b4 => ?_) (fun b4 => ?_)
          · refine xw_iload (pc := 99) C0 7 dX12_spelt_99 rfl ?_
            refine xw_if_le (pc := 101) (tgt := 120) C0 (by omega) dX12_spelt_101 rfl (fun b5 => ?_) (fun b5 => ?_)
            · refine xw_lload (pc := 120) C0 0 dX12_spelt_120 rfl ?_
              refine xw_lret C0 hA hr hlk dX12_spelt_122 ?_
              exact ⟨_, rfl, rfl, by decide⟩
            · exfalso
              omega
          · exfalso
            omega)
set_option maxRecDepth 20000 in
set_option maxHeartbeats 20000000 in
theorem xr_sp15 {l : Launch} {μ : xw_M} : xw_MetL l vwCl sa_Ts tb_KT0 tc_KL yX12_spelt cX12_spelt 9 (some .long) 2 120 (fun ad => [.int (Int32.ofInt 104), .int (Int32.ofInt 97), .int (Int32.ofInt 115), .int (Int32.ofInt 0), .int (Int32.ofInt 0), .int (Int32.ofInt 0), .int (Int32.ofInt 0)]) μ (fun r μ' => μ = μ' ∧ r = 5878) :=
  xw_of (by decide) (fun _ => Nat.le_of_ble_eq_true rfl) (fun p e s m args below meth c D dA A al w0 sz C0 hU hO hKL hr hlk hA => by
    refine xw_ldc2 (pc := 0) (z := 27) C0 dX12_spelt_0 tv_1436 (by decide) ?_
    refine xw_iload_n (pc := 3) C0 0 dX12_spelt_3 rfl rfl ?_
    refine xw_i2l (pc := 4) C0 (by omega) dX12_spelt_4 ?_
    refine xw_ldc2 (pc := 5) (z := 96) C0 dX12_spelt_5 tv_1437 (by decide) ?_
    refine xw_lsub (pc := 8) C0 dX12_spelt_8 ?_
    refine xw_lmul (pc := 9) C0 dX12_spelt_9 ?_
    refine xw_iload_n (pc := 10) C0 1 dX12_spelt_10 rfl rfl ?_
    refine xw_i2l (pc := 11) C0 (by omega) dX12_spelt_11 ?_
    refine xw_ladd (pc := 12) C0 dX12_spelt_12 ?_
    refine xw_ldc2 (pc := 13) (z := 96) C0 dX12_spelt_13 tv_1437 (by decide) ?_
    refine xw_lsub (pc := 16) C0 dX12_spelt_16 ?_
    refine xw_lstore (pc := 17) (L' := [(7, .long (Int64.ofInt (((27 * (104 - 96)) + 97) - 96))), (0, .int (Int32.ofInt 104)), (1, .int (Int32.ofInt 97)), (2, .int (Int32.ofInt 115)), (3, .int (Int32.ofInt 0)), (4, .int (Int32.ofInt 0)), (5, .int (Int32.ofInt 0)), (6, .int (Int32.ofInt 0))]) C0 dX12_spelt_17 (by decide) rfl ?_
    refine xw_iload_n (pc := 19) C0 3 dX12_spelt_19 rfl rfl ?_
    refine xw_if_le (pc := 20) (tgt := 38) C0 (by omega) dX12_spelt_20 rfl (fun b1 => ?_) (fun b1 => ?_)
    · exfalso
      omega
    · refine xw_ldc2 (pc := 23) (z := 27) C0 dX12_spelt_23 tv_1436 (by decide) ?_
      refine xw_lload (pc := 26) C0 0 dX12_spelt_26 rfl ?_
      refine xw_lmul (pc := 28) C0 dX12_spelt_28 ?_
      refine xw_iload_n (pc := 29) C0 3 dX12_spelt_29 rfl rfl ?_
      refine xw_i2l (pc := 30) C0 (by omega) dX12_spelt_30 ?_
      refine xw_ladd (pc := 31) C0 dX12_spelt_31 ?_
      refine xw_ldc2 (pc := 32) (z := 96) C0 dX12_spelt_32 tv_1437 (by decide) ?_
      refine xw_lsub (pc := 35) C0 dX12_spelt_35 ?_
      refine xw_lstore (pc := 36) (L' := [(7, .long (Int64.ofInt (((27 * (((27 * (104 - 96)) + 97) - 96)) + 115) - 96))), (0, .int (Int32.ofInt 104)), (1, .int (Int32.ofInt 97)), (2, .int (Int32.ofInt 115)), (3, .int (Int32.ofInt 0)), (4, .int (Int32.ofInt 0)), (5, .int (Int32.ofInt 0)), (6, .int (Int32.ofInt 0))]) C0 dX12_spelt_36 (by decide) rfl ?_
      refine xw_iload_n (pc := 38) C0 4 dX12_spelt_38 rfl rfl ?_
      refine xw_if_le (pc := 39) (tgt := 57) C0 (by omega) dX12_spelt_39 rfl (fun b2 => ?_) (fun b2 => ?_)
      · refine xw_iload (pc := 57) C0 5 dX12_spelt_57 rfl ?_
        refine xw_if_le (pc := 59) (tgt := 78) C0 (by omega) dX12_spelt_59 rfl (fun b3 => ?_) (fun b3 => ?_)
        · refine xw_iload (pc := 78) C0 6 dX12_spelt_78 rfl ?_
          refine xw_if_le (pc := 80) (tgt := 99) C0 (by omega) dX12_spelt_80 rfl (fun b4 => ?_) (fun b4 => ?_)
          · refine xw_iload (pc := 99) C0 7 dX12_spelt_99 rfl ?_
            refine xw_if_le (pc := 101) (tgt := 120) C0 (by omega) dX12_spelt_101 rfl (fun b5 => ?_) (fun b5 => ?_)
            · refine xw_lload (pc := 120) C0 0 dX12_spelt_120 rfl ?_
              refine xw_lret C0 hA hr hlk dX12_spelt_122 ?_
              exact ⟨_, rfl, rfl, by decide⟩
            · exfalso
              omega
          · exfalso
            omega
        · exfalso
          omega
      · exfalso
        omega)
