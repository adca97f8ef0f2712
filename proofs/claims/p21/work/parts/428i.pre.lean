def tc_KL : List Nat := [27, 19, 22, 24, 28, 29, 30, 31, 32, 33, 34, 35, 36, 37, 38, 39, 40, 41, 42, 43, 44, 45, 46, 47, 48, 49, 50, 51, 52, 53, 54, 65, 66, 42, 43, 44, 45, 46, 47, 48, 42, 43, 44, 45, 46, 47, 48, 42, 43, 44, 45, 46, 47, 48, 42, 43, 44, 45, 46, 47, 48, 42, 43, 44, 45, 46, 47, 48, 42, 43, 44, 45, 46, 47, 48, 42, 43, 44, 45, 46, 47, 48, 42, 43, 44, 45, 46, 47, 48, 42, 43, 44, 45, 46, 47, 48, 42, 43, 44, 45, 46, 47, 48, 67, 17, 18, 21, 28, 29, 30, 31, 32, 33, 34, 35, 36, 37, 38, 39, 40, 41, 7, 17, 18, 21, 12, 13, 14, 68, 17, 18, 21, 3, 4, 15, 5, 16, 69, 70, 71, 72, 73, 20, 23, 74, 75, 25, 28, 29, 30, 31, 32, 33, 34, 35, 36, 37, 38, 39, 40, 41, 42, 43, 44, 45, 46, 47, 48, 55, 56, 57, 58, 59, 26, 28, 29, 30, 31, 32, 33, 34, 35, 36, 37, 38, 39, 40, 41, 42, 43, 44, 45, 46, 47, 48, 60, 61, 62, 63, 64, 0, 2, 1, 8, 10, 76, 77, 78, 79, 80, 81, 82, 11, 83, 84, 85, 9, 86, 6, 87]
theorem xk_0 : tb_KT0[0]? = some (.inl (12, [(0, 0, 1), (2, 2, 2), (0, 0, 940), (0, 0, 940), (0, 0, 900), (0, 0, 940), (0, 0, 940), (0, 0, 4), (0, (-2147483648), 2147483647), (0, (-2147483648), 2147483647), (0, 0, 4), (0, 0, 940), (1, (-9223372036854775808), 9223372036854775807), (0, (-1), 999), (2, 1, 1), (2, 8, 8), (2, 10, 10), (2, 76, 76), (2, 77, 77), (2, 78, 78), (2, 79, 79), (2, 80, 80), (2, 81, 81), (0, 0, 8), (0, (-2147483648), 2147483647), (0, 0, 255), (2, 82, 82), (2, 11, 11), (2, 83, 83), (2, 84, 84), (0, 0, 4), (0, 0, 2000000000), (0, (-2147483648), 2147483647), (0, (-2147483648), 2147483647), (2, 85, 85), (0, 0, 64), (2, 9, 9), (2, 86, 86), (0, 0, 40), (0, 0, 1), (2, 6, 6), (0, 0, 60), (0, 0, 20), (0, 0, 8), (0, 0, 59)])) := rfl
theorem xk_1 : tb_KT0[1]? = some (.inr (0, 379, [(1, (0, 0, 6)), (1, (0, 0, 8)), (1, (0, 0, 16)), (6, (0, 0, 30)), (6, (0, 0, 20)), (2, (0, (-1), 0)), (1, (0, (-1), 1)), (1, (0, (-1), 2)), (1, (0, (-1), 3)), (1, (0, (-1), 4)), (16, (0, (-2147483648), 2147483647)), (8, (0, 0, 99)), (8, (0, (-2147483648), 2147483647)), (24, (0, 0, 12)), (61, (0, (-2147483648), 2147483647)), (1, (0, 0, 59)), (1, (0, (-2147483648), 2147483647)), (1, (0, 0, 59)), (3, (0, (-2147483648), 2147483647)), (1, (0, 0, 59)), (3, (0, (-2147483648), 2147483647)), (1, (0, 0, 59)), (3, (0, (-2147483648), 2147483647)), (1, (0, 0, 59)), (3, (0, (-2147483648), 2147483647)), (1, (0, 0, 59)), (3, (0, (-2147483648), 2147483647)), (1, (0, 0, 59)), (3, (0, (-2147483648), 2147483647)), (1, (0, 0, 59)), (3, (0, (-2147483648), 2147483647)), (1, (0, 0, 59)), (3, (0, (-2147483648), 2147483647)), (1, (0, 0, 59)), (3, (0, (-2147483648), 2147483647)), (1, (0, 0, 59)), (3, (0, (-2147483648), 2147483647)), (1, (0, 0, 59)), (3, (0, (-2147483648), 2147483647)), (1, (0, 0, 59)), (3, (0, (-2147483648), 2147483647)), (1, (0, 0, 59)), (3, (0, (-2147483648), 2147483647)), (1, (0, 0, 59)), (3, (0, (-2147483648), 2147483647)), (1, (0, 0, 59)), (3, (0, (-2147483648), 2147483647)), (1, (0, 0, 59)), (3, (0, (-2147483648), 2147483647)), (1, (0, 0, 59)), (3, (0, (-2147483648), 2147483647)), (1, (0, 0, 59)), (3, (0, (-2147483648), 2147483647)), (1, (0, 0, 59)), (3, (0, (-2147483648), 2147483647)), (1, (0, 0, 59)), (3, (0, (-2147483648), 2147483647)), (1, (0, 0, 59)), (3, (0, (-2147483648), 2147483647)), (1, (0, 0, 59)), (3, (0, (-2147483648), 2147483647)), (1, (0, 0, 59)), (3, (0, (-2147483648), 2147483647)), (1, (0, 0, 59)), (3, (0, (-2147483648), 2147483647)), (1, (0, 0, 59)), (3, (0, (-2147483648), 2147483647)), (1, (0, 0, 59)), (3, (0, (-2147483648), 2147483647)), (1, (0, 0, 59)), (3, (0, (-2147483648), 2147483647)), (1, (0, 0, 59)), (3, (0, (-2147483648), 2147483647)), (1, (0, 0, 59)), (3, (0, (-2147483648), 2147483647)), (1, (0, 0, 59)), (3, (0, (-2147483648), 2147483647)), (1, (0, 0, 59)), (3, (0, (-2147483648), 2147483647)), (1, (0, 0, 59)), (3, (0, (-2147483648), 2147483647)), (1, (0, 0, 59)), (3, (0, (-2147483648), 2147483647)), (1, (0, 0, 59)), (3, (0, (-2147483648), 2147483647)), (1, (0, 0, 59)), (3, (0, (-2147483648), 2147483647)), (1, (0, 0, 59)), (3, (0, (-2147483648), 2147483647)), (1, (0, 0, 59)), (3, (0, (-2147483648), 2147483647)), (1, (0, 0, 59)), (3, (0, (-2147483648), 2147483647)), (1, (0, 0, 59)), (3, (0, (-2147483648), 2147483647)), (1, (0, 0, 59)), (3, (0, (-2147483648), 2147483647)), (1, (0, 0, 59)), (3, (0, (-2147483648), 2147483647)), (1, (0, 0, 59)), (3, (0, (-2147483648), 2147483647)), (1, (0, 0, 59)), (3, (0, (-2147483648), 2147483647)), (1, (0, 0, 59)), (3, (0, (-2147483648), 2147483647)), (1, (0, 0, 59)), (3, (0, (-2147483648), 2147483647)), (1, (0, 0, 59)), (3, (0, (-2147483648), 2147483647)), (1, (0, 0, 59)), (3, (0, (-2147483648), 2147483647)), (1, (0, 0, 59)), (3, (0, (-2147483648), 2147483647)), (1, (0, 0, 59)), (3, (0, (-2147483648), 2147483647)), (1, (0, 0, 59)), (3, (0, (-2147483648), 2147483647)), (1, (0, 0, 59)), (3, (0, (-2147483648), 2147483647)), (1, (0, 0, 59)), (3, (0, (-2147483648), 2147483647)), (1, (0, 0, 59)), (3, (0, (-2147483648), 2147483647)), (1, (0, 0, 59)), (3, (0, (-2147483648), 2147483647)), (1, (0, 0, 59)), (3, (0, (-2147483648), 2147483647)), (1, (0, 0, 59)), (3, (0, (-2147483648), 2147483647)), (1, (0, 0, 59)), (3, (0, (-2147483648), 2147483647)), (1, (0, 0, 59)), (3, (0, (-2147483648), 2147483647)), (1, (0, 0, 59)), (3, (0, (-2147483648), 2147483647)), (1, (0, 0, 59)), (2, (0, (-2147483648), 2147483647))])) := rfl
theorem xk_2 : tb_KT0[2]? = some (.inr (0, 940, [(940, (0, 0, 255))])) := rfl
theorem xk_8 : tb_KT0[8]? = some (.inr (0, 77, [(1, (0, 0, 6)), (1, (0, 0, 8)), (1, (0, 0, 16)), (6, (0, 0, 30)), (6, (0, 0, 20)), (2, (0, (-1), 0)), (1, (0, (-1), 1)), (1, (0, (-1), 2)), (1, (0, (-1), 3)), (1, (0, (-1), 4)), (16, (0, (-2147483648), 2147483647)), (8, (0, 0, 99)), (8, (0, (-2147483648), 2147483647)), (24, (0, 0, 12))])) := rfl
theorem xk_10 : tb_KT0[10]? = some (.inr (0, 758, [(1, (0, 0, 6)), (1, (0, 0, 8)), (1, (0, 0, 16)), (6, (0, 0, 30)), (6, (0, 0, 20)), (2, (0, (-1), 0)), (1, (0, (-1), 1)), (1, (0, (-1), 2)), (1, (0, (-1), 3)), (1, (0, (-1), 4)), (16, (0, (-2147483648), 2147483647)), (8, (0, 0, 99)), (8, (0, (-2147483648), 2147483647)), (24, (0, 0, 12)), (61, (0, (-2147483648), 2147483647)), (1, (0, 0, 59)), (1, (0, (-2147483648), 2147483647)), (1, (0, 0, 59)), (3, (0, (-2147483648), 2147483647)), (1, (0, 0, 59)), (3, (0, (-2147483648), 2147483647)), (1, (0, 0, 59)), (3, (0, (-2147483648), 2147483647)), (1, (0, 0, 59)), (3, (0, (-2147483648), 2147483647)), (1, (0, 0, 59)), (3, (0, (-2147483648), 2147483647)), (1, (0, 0, 59)), (3, (0, (-2147483648), 2147483647)), (1, (0, 0, 59)), (3, (0, (-2147483648), 2147483647)), (1, (0, 0, 59)), (3, (0, (-2147483648), 2147483647)), (1, (0, 0, 59)), (3, (0, (-2147483648), 2147483647)), (1, (0, 0, 59)), (3, (0, (-2147483648), 2147483647)), (1, (0, 0, 59)), (3, (0, (-2147483648), 2147483647)), (1, (0, 0, 59)), (3, (0, (-2147483648), 2147483647)), (1, (0, 0, 59)), (3, (0, (-2147483648), 2147483647)), (1, (0, 0, 59)), (3, (0, (-2147483648), 2147483647)), (1, (0, 0, 59)), (3, (0, (-2147483648), 2147483647)), (1, (0, 0, 59)), (3, (0, (-2147483648), 2147483647)), (1, (0, 0, 59)), (3, (0, (-2147483648), 2147483647)), (1, (0, 0, 59)), (3, (0, (-2147483648), 2147483647)), (1, (0, 0, 59)), (3, (0, (-2147483648), 2147483647)), (1, (0, 0, 59)), (3, (0, (-2147483648), 2147483647)), (1, (0, 0, 59)), (3, (0, (-2147483648), 2147483647)), (1, (0, 0, 59)), (3, (0, (-2147483648), 2147483647)), (1, (0, 0, 59)), (3, (0, (-2147483648), 2147483647)), (1, (0, 0, 59)), (3, (0, (-2147483648), 2147483647)), (1, (0, 0, 59)), (3, (0, (-2147483648), 2147483647)), (1, (0, 0, 59)), (3, (0, (-2147483648), 2147483647)), (1, (0, 0, 59)), (3, (0, (-2147483648), 2147483647)), (1, (0, 0, 59)), (3, (0, (-2147483648), 2147483647)), (1, (0, 0, 59)), (3, (0, (-2147483648), 2147483647)), (1, (0, 0, 59)), (3, (0, (-2147483648), 2147483647)), (1, (0, 0, 59)), (3, (0, (-2147483648), 2147483647)), (1, (0, 0, 59)), (3, (0, (-2147483648), 2147483647)), (1, (0, 0, 59)), (3, (0, (-2147483648), 2147483647)), (1, (0, 0, 59)), (3, (0, (-2147483648), 2147483647)), (1, (0, 0, 59)), (3, (0, (-2147483648), 2147483647)), (1, (0, 0, 59)), (3, (0, (-2147483648), 2147483647)), (1, (0, 0, 59)), (3, (0, (-2147483648), 2147483647)), (1, (0, 0, 59)), (3, (0, (-2147483648), 2147483647)), (1, (0, 0, 59)), (3, (0, (-2147483648), 2147483647)), (1, (0, 0, 59)), (3, (0, (-2147483648), 2147483647)), (1, (0, 0, 59)), (3, (0, (-2147483648), 2147483647)), (1, (0, 0, 59)), (3, (0, (-2147483648), 2147483647)), (1, (0, 0, 59)), (3, (0, (-2147483648), 2147483647)), (1, (0, 0, 59)), (3, (0, (-2147483648), 2147483647)), (1, (0, 0, 59)), (3, (0, (-2147483648), 2147483647)), (1, (0, 0, 59)), (3, (0, (-2147483648), 2147483647)), (1, (0, 0, 59)), (3, (0, (-2147483648), 2147483647)), (1, (0, 0, 59)), (3, (0, (-2147483648), 2147483647)), (1, (0, 0, 59)), (3, (0, (-2147483648), 2147483647)), (1, (0, 0, 59)), (3, (0, (-2147483648), 2147483647)), (1, (0, 0, 59)), (3, (0, (-2147483648), 2147483647)), (1, (0, 0, 59)), (3, (0, (-2147483648), 2147483647)), (1, (0, 0, 59)), (3, (0, (-2147483648), 2147483647)), (1, (0, 0, 59)), (3, (0, (-2147483648), 2147483647)), (1, (0, 0, 59)), (3, (0, (-2147483648), 2147483647)), (1, (0, 0, 59)), (3, (0, (-2147483648), 2147483647)), (1, (0, 0, 59)), (3, (0, (-2147483648), 2147483647)), (1, (0, 0, 59)), (3, (0, (-2147483648), 2147483647)), (1, (0, 0, 59)), (3, (0, (-2147483648), 2147483647)), (1, (0, 0, 59)), (2, (0, (-2147483648), 2147483647)), (1, (0, 0, 6)), (1, (0, 0, 8)), (1, (0, 0, 16)), (6, (0, 0, 30)), (6, (0, 0, 20)), (2, (0, (-1), 0)), (1, (0, (-1), 1)), (1, (0, (-1), 2)), (1, (0, (-1), 3)), (1, (0, (-1), 4)), (16, (0, (-2147483648), 2147483647)), (8, (0, 0, 99)), (8, (0, (-2147483648), 2147483647)), (24, (0, 0, 12)), (61, (0, (-2147483648), 2147483647)), (1, (0, 0, 59)), (1, (0, (-2147483648), 2147483647)), (1, (0, 0, 59)), (3, (0, (-2147483648), 2147483647)), (1, (0, 0, 59)), (3, (0, (-2147483648), 2147483647)), (1, (0, 0, 59)), (3, (0, (-2147483648), 2147483647)), (1, (0, 0, 59)), (3, (0, (-2147483648), 2147483647)), (1, (0, 0, 59)), (3, (0, (-2147483648), 2147483647)), (1, (0, 0, 59)), (3, (0, (-2147483648), 2147483647)), (1, (0, 0, 59)), (3, (0, (-2147483648), 2147483647)), (1, (0, 0, 59)), (3, (0, (-2147483648), 2147483647)), (1, (0, 0, 59)), (3, (0, (-2147483648), 2147483647)), (1, (0, 0, 59)), (3, (0, (-2147483648), 2147483647)), (1, (0, 0, 59)), (3, (0, (-2147483648), 2147483647)), (1, (0, 0, 59)), (3, (0, (-2147483648), 2147483647)), (1, (0, 0, 59)), (3, (0, (-2147483648), 2147483647)), (1, (0, 0, 59)), (3, (0, (-2147483648), 2147483647)), (1, (0, 0, 59)), (3, (0, (-2147483648), 2147483647)), (1, (0, 0, 59)), (3, (0, (-2147483648), 2147483647)), (1, (0, 0, 59)), (3, (0, (-2147483648), 2147483647)), (1, (0, 0, 59)), (3, (0, (-2147483648), 2147483647)), (1, (0, 0, 59)), (3, (0, (-2147483648), 2147483647)), (1, (0, 0, 59)), (3, (0, (-2147483648), 2147483647)), (1, (0, 0, 59)), (3, (0, (-2147483648), 2147483647)), (1, (0, 0, 59)), (3, (0, (-2147483648), 2147483647)), (1, (0, 0, 59)), (3, (0, (-2147483648), 2147483647)), (1, (0, 0, 59)), (3, (0, (-2147483648), 2147483647)), (1, (0, 0, 59)), (3, (0, (-2147483648), 2147483647)), (1, (0, 0, 59)), (3, (0, (-2147483648), 2147483647)), (1, (0, 0, 59)), (3, (0, (-2147483648), 2147483647)), (1, (0, 0, 59)), (3, (0, (-2147483648), 2147483647)), (1, (0, 0, 59)), (3, (0, (-2147483648), 2147483647)), (1, (0, 0, 59)), (3, (0, (-2147483648), 2147483647)), (1, (0, 0, 59)), (3, (0, (-2147483648), 2147483647)), (1, (0, 0, 59)), (3, (0, (-2147483648), 2147483647)), (1, (0, 0, 59)), (3, (0, (-2147483648), 2147483647)), (1, (0, 0, 59)), (3, (0, (-2147483648), 2147483647)), (1, (0, 0, 59)), (3, (0, (-2147483648), 2147483647)), (1, (0, 0, 59)), (3, (0, (-2147483648), 2147483647)), (1, (0, 0, 59)), (3, (0, (-2147483648), 2147483647)), (1, (0, 0, 59)), (3, (0, (-2147483648), 2147483647)), (1, (0, 0, 59)), (3, (0, (-2147483648), 2147483647)), (1, (0, 0, 59)), (3, (0, (-2147483648), 2147483647)), (1, (0, 0, 59)), (3, (0, (-2147483648), 2147483647)), (1, (0, 0, 59)), (3, (0, (-2147483648), 2147483647)), (1, (0, 0, 59)), (3, (0, (-2147483648), 2147483647)), (1, (0, 0, 59)), (3, (0, (-2147483648), 2147483647)), (1, (0, 0, 59)), (3, (0, (-2147483648), 2147483647)), (1, (0, 0, 59)), (3, (0, (-2147483648), 2147483647)), (1, (0, 0, 59)), (3, (0, (-2147483648), 2147483647)), (1, (0, 0, 59)), (3, (0, (-2147483648), 2147483647)), (1, (0, 0, 59)), (3, (0, (-2147483648), 2147483647)), (1, (0, 0, 59)), (3, (0, (-2147483648), 2147483647)), (1, (0, 0, 59)), (3, (0, (-2147483648), 2147483647)), (1, (0, 0, 59)), (3, (0, (-2147483648), 2147483647)), (1, (0, 0, 59)), (3, (0, (-2147483648), 2147483647)), (1, (0, 0, 59)), (3, (0, (-2147483648), 2147483647)), (1, (0, 0, 59)), (3, (0, (-2147483648), 2147483647)), (1, (0, 0, 59)), (3, (0, (-2147483648), 2147483647)), (1, (0, 0, 59)), (3, (0, (-2147483648), 2147483647)), (1, (0, 0, 59)), (3, (0, (-2147483648), 2147483647)), (1, (0, 0, 59)), (3, (0, (-2147483648), 2147483647)), (1, (0, 0, 59)), (2, (0, (-2147483648), 2147483647))])) := rfl
theorem xk_17 : tb_KT0[17]? = some (.inl (6, [(2, 18, 19), (0, 0, 900), (0, 0, 4), (0, (-2147483648), 2147483647), (0, (-2147483648), 2147483647), (1, (-9223372036854775808), 9223372036854775807), (0, (-1), 19), (0, (-2147483648), 2147483647), (0, 0, 4), (0, (-2147483648), 2147483647)])) := rfl
theorem xk_19 : tb_KT0[19]? = some (.inl (0, [(2, 22, 22), (0, 0, 940)])) := rfl
theorem xk_22 : tb_KT0[22]? = some (.inr (1, 940, [(940, (0, (-128), 127))])) := rfl
theorem xk_24 : tb_KT0[24]? = some (.inl (10, [(2, 28, 28), (2, 42, 42), (2, 49, 49), (0, 0, 1)])) := rfl
theorem xk_25 : tb_KT0[25]? = some (.inl (10, [(2, 28, 28), (2, 42, 42), (2, 55, 55), (0, 0, 1)])) := rfl
theorem xk_26 : tb_KT0[26]? = some (.inl (10, [(2, 28, 28), (2, 42, 42), (2, 60, 60), (0, 0, 1)])) := rfl
theorem xk_27 : tb_KT0[27]? = some (.inl (11, [(2, 19, 19), (2, 24, 24), (2, 54, 54), (2, 65, 65), (2, 42, 42), (2, 67, 67), (2, 7, 7), (2, 68, 68), (2, 69, 69), (2, 20, 20), (2, 74, 74), (2, 75, 75), (0, (-2147483648), 2147483647), (0, (-2147483648), 2147483647), (0, (-2147483648), 2147483647), (0, (-2147483648), 2147483647), (0, 0, 1)])) := rfl
theorem xk_28 : tb_KT0[28]? = some (.inl (2, [(2, 29, 29), (2, 30, 30), (2, 31, 31), (2, 32, 32), (2, 33, 33), (2, 34, 34), (2, 35, 35), (2, 36, 36), (2, 37, 37), (2, 38, 38), (2, 39, 39), (2, 40, 40), (2, 41, 41), (0, 0, 6), (0, 0, 8), (0, 0, 16)])) := rfl
theorem xk_29 : tb_KT0[29]? = some (.inr (2, 6, [(6, (1, (-9223372036854775808), 9223372036854775807))])) := rfl
theorem xk_30 : tb_KT0[30]? = some (.inr (0, 6, [(6, (0, (-2147483648), 2147483647))])) := rfl
theorem xk_31 : tb_KT0[31]? = some (.inr (0, 6, [(6, (0, (-2147483648), 2147483647))])) := rfl
theorem xk_32 : tb_KT0[32]? = some (.inr (0, 6, [(6, (0, (-1), 5))])) := rfl
theorem xk_33 : tb_KT0[33]? = some (.inr (0, 6, [(6, (0, (-2147483648), 2147483647))])) := rfl
theorem xk_34 : tb_KT0[34]? = some (.inr (0, 6, [(6, (0, (-2147483648), 2147483647))])) := rfl
theorem xk_35 : tb_KT0[35]? = some (.inr (0, 6, [(6, (0, (-2147483648), 2147483647))])) := rfl
theorem xk_36 : tb_KT0[36]? = some (.inr (2, 8, [(8, (1, (-9223372036854775808), 9223372036854775807))])) := rfl
theorem xk_37 : tb_KT0[37]? = some (.inr (0, 8, [(8, (0, 0, 5))])) := rfl
theorem xk_38 : tb_KT0[38]? = some (.inr (0, 8, [(8, (0, (-2147483648), 2147483647))])) := rfl
theorem xk_39 : tb_KT0[39]? = some (.inr (0, 8, [(8, (0, (-2147483648), 2147483647))])) := rfl
theorem xk_40 : tb_KT0[40]? = some (.inr (0, 8, [(8, (0, (-2147483648), 2147483647))])) := rfl
theorem xk_41 : tb_KT0[41]? = some (.inr (0, 24, [(24, (0, (-2147483648), 2147483647))])) := rfl
theorem xk_42 : tb_KT0[42]? = some (.inl (9, [(2, 43, 43), (2, 44, 44), (2, 45, 45), (2, 46, 46), (2, 47, 47), (2, 48, 48), (0, (-2147483648), 2147483647), (0, (-2147483648), 2147483647), (0, (-2147483648), 2147483647), (0, (-2147483648), 2147483647), (0, (-2147483648), 2147483647), (0, (-2147483648), 2147483647), (0, (-2147483648), 2147483647)])) := rfl
theorem xk_43 : tb_KT0[43]? = some (.inr (0, 6, [(6, (0, (-2147483648), 2147483647))])) := rfl
theorem xk_44 : tb_KT0[44]? = some (.inr (0, 6, [(6, (0, (-2147483648), 2147483647))])) := rfl
theorem xk_45 : tb_KT0[45]? = some (.inr (0, 6, [(6, (0, (-2147483648), 2147483647))])) := rfl
theorem xk_46 : tb_KT0[46]? = some (.inr (0, 8, [(8, (0, (-2147483648), 2147483647))])) := rfl
theorem xk_47 : tb_KT0[47]? = some (.inr (0, 8, [(8, (0, (-2147483648), 2147483647))])) := rfl
theorem xk_48 : tb_KT0[48]? = some (.inr (0, 8, [(8, (0, (-2147483648), 2147483647))])) := rfl
theorem xk_49 : tb_KT0[49]? = some (.inl (7, [(2, 50, 50), (2, 51, 51), (2, 52, 52), (2, 53, 53), (0, 0, 40), (0, 0, 20)])) := rfl
theorem xk_50 : tb_KT0[50]? = some (.inr (0, 40, [(40, (0, (-2147483648), 2147483647))])) := rfl
theorem xk_51 : tb_KT0[51]? = some (.inr (0, 40, [(40, (0, (-2147483648), 2147483647))])) := rfl
theorem xk_52 : tb_KT0[52]? = some (.inr (0, 40, [(40, (0, (-2147483648), 2147483647))])) := rfl
theorem xk_54 : tb_KT0[54]? = some (.inr (4, 2, [(1, (2, 25, 25)), (1, (2, 26, 26))])) := rfl
theorem xk_55 : tb_KT0[55]? = some (.inl (7, [(2, 56, 56), (2, 57, 57), (2, 58, 58), (2, 59, 59), (0, 0, 40), (0, 0, 20)])) := rfl
theorem xk_56 : tb_KT0[56]? = some (.inr (0, 40, [(40, (0, (-2147483648), 2147483647))])) := rfl
theorem xk_57 : tb_KT0[57]? = some (.inr (0, 40, [(40, (0, (-2147483648), 2147483647))])) := rfl
theorem xk_58 : tb_KT0[58]? = some (.inr (0, 40, [(40, (0, (-2147483648), 2147483647))])) := rfl
theorem xk_60 : tb_KT0[60]? = some (.inl (7, [(2, 61, 61), (2, 62, 62), (2, 63, 63), (2, 64, 64), (0, 0, 40), (0, 0, 20)])) := rfl
theorem xk_61 : tb_KT0[61]? = some (.inr (0, 40, [(40, (0, (-2147483648), 2147483647))])) := rfl
theorem xk_62 : tb_KT0[62]? = some (.inr (0, 40, [(40, (0, (-2147483648), 2147483647))])) := rfl
theorem xk_63 : tb_KT0[63]? = some (.inr (0, 40, [(40, (0, (-2147483648), 2147483647))])) := rfl
theorem xk_65 : tb_KT0[65]? = some (.inl (1, [(2, 66, 66), (0, 0, 8), (0, 0, 8)])) := rfl
theorem xk_67 : tb_KT0[67]? = some (.inl (3, [(2, 17, 17), (2, 28, 28), (0, 0, 31)])) := rfl
theorem xk_78 : tb_KT0[78]? = some (.inr (2, 14, [(14, (1, (-9223372036854775808), 9223372036854775807))])) := rfl
theorem xk_79 : tb_KT0[79]? = some (.inr (2, 14, [(14, (1, (-9223372036854775808), 9223372036854775807))])) := rfl
theorem xk_80 : tb_KT0[80]? = some (.inr (2, 28, [(28, (1, (-9223372036854775808), 9223372036854775807))])) := rfl
theorem xk_81 : tb_KT0[81]? = some (.inr (3, 2, [(2, (0, 0, 1))])) := rfl
theorem xk_87 : tb_KT0[87]? = some (.inr (2, 1, [(1, (1, (-9223372036854775808), 9223372036854775807))])) := rfl
def xw_GL : List (Nat × Nat × Nat) := [(0, 0, 1), (0, 1, 3), (0, 2, 30), (0, 3, 31), (0, 5, 103), (1, 0, 2), (3, 0, 4), (3, 1, 18), (3, 2, 25), (4, 0, 5), (4, 1, 6), (4, 2, 7), (4, 3, 8), (4, 4, 9), (4, 5, 10), (4, 6, 11), (4, 7, 12), (4, 8, 13), (4, 9, 14), (4, 10, 15), (4, 11, 16), (4, 12, 17), (18, 0, 19), (18, 1, 20), (18, 2, 21), (18, 3, 22), (18, 4, 23), (18, 5, 24), (25, 0, 26), (25, 1, 27), (25, 2, 28), (30, 0, 146), (30, 1, 173), (103, 0, 104), (103, 1, 107), (107, 0, 108), (107, 1, 109), (107, 2, 110), (107, 3, 111), (107, 4, 112), (107, 5, 113), (107, 6, 114), (107, 7, 115), (107, 8, 116), (107, 9, 117), (107, 10, 118), (107, 11, 119), (107, 12, 120), (146, 0, 147), (146, 1, 161), (146, 2, 168), (147, 0, 148), (147, 1, 149), (147, 2, 150), (147, 3, 151), (147, 4, 152), (147, 5, 153), (147, 6, 154), (147, 7, 155), (147, 8, 156), (147, 9, 157), (147, 10, 158), (147, 11, 159), (147, 12, 160), (161, 0, 162), (161, 1, 163), (161, 2, 164), (161, 3, 165), (161, 4, 166), (161, 5, 167), (168, 0, 169), (168, 1, 170), (168, 2, 171), (173, 0, 174), (173, 1, 188), (173, 2, 195), (174, 0, 175), (174, 1, 176), (174, 2, 177), (174, 3, 178), (174, 4, 179), (174, 5, 180), (174, 6, 181), (174, 7, 182), (174, 8, 183), (174, 9, 184), (174, 10, 185), (174, 11, 186), (174, 12, 187), (188, 0, 189), (188, 1, 190), (188, 2, 191), (188, 3, 192), (188, 4, 193), (188, 5, 194), (195, 0, 196), (195, 1, 197), (195, 2, 198), (200, 1, 201), (200, 14, 202), (200, 15, 203), (200, 16, 204), (200, 19, 207), (200, 20, 208), (200, 21, 209), (200, 22, 210)]
theorem xj_0 {al : List (Nat × Nat)} (h : al.map Prod.snd = tc_KL) : al[0]? = some (xw_ad al 0, 27) := xw_al h rfl
theorem xj_1 {al : List (Nat × Nat)} (h : al.map Prod.snd = tc_KL) : al[1]? = some (xw_ad al 1, 19) := xw_al h rfl
theorem xj_2 {al : List (Nat × Nat)} (h : al.map Prod.snd = tc_KL) : al[2]? = some (xw_ad al 2, 22) := xw_al h rfl
theorem xj_3 {al : List (Nat × Nat)} (h : al.map Prod.snd = tc_KL) : al[3]? = some (xw_ad al 3, 24) := xw_al h rfl
theorem xj_4 {al : List (Nat × Nat)} (h : al.map Prod.snd = tc_KL) : al[4]? = some (xw_ad al 4, 28) := xw_al h rfl
theorem xj_5 {al : List (Nat × Nat)} (h : al.map Prod.snd = tc_KL) : al[5]? = some (xw_ad al 5, 29) := xw_al h rfl
theorem xj_6 {al : List (Nat × Nat)} (h : al.map Prod.snd = tc_KL) : al[6]? = some (xw_ad al 6, 30) := xw_al h rfl
theorem xj_7 {al : List (Nat × Nat)} (h : al.map Prod.snd = tc_KL) : al[7]? = some (xw_ad al 7, 31) := xw_al h rfl
theorem xj_8 {al : List (Nat × Nat)} (h : al.map Prod.snd = tc_KL) : al[8]? = some (xw_ad al 8, 32) := xw_al h rfl
theorem xj_9 {al : List (Nat × Nat)} (h : al.map Prod.snd = tc_KL) : al[9]? = some (xw_ad al 9, 33) := xw_al h rfl
theorem xj_10 {al : List (Nat × Nat)} (h : al.map Prod.snd = tc_KL) : al[10]? = some (xw_ad al 10, 34) := xw_al h rfl
theorem xj_11 {al : List (Nat × Nat)} (h : al.map Prod.snd = tc_KL) : al[11]? = some (xw_ad al 11, 35) := xw_al h rfl
theorem xj_12 {al : List (Nat × Nat)} (h : al.map Prod.snd = tc_KL) : al[12]? = some (xw_ad al 12, 36) := xw_al h rfl
theorem xj_13 {al : List (Nat × Nat)} (h : al.map Prod.snd = tc_KL) : al[13]? = some (xw_ad al 13, 37) := xw_al h rfl
theorem xj_14 {al : List (Nat × Nat)} (h : al.map Prod.snd = tc_KL) : al[14]? = some (xw_ad al 14, 38) := xw_al h rfl
theorem xj_15 {al : List (Nat × Nat)} (h : al.map Prod.snd = tc_KL) : al[15]? = some (xw_ad al 15, 39) := xw_al h rfl
theorem xj_16 {al : List (Nat × Nat)} (h : al.map Prod.snd = tc_KL) : al[16]? = some (xw_ad al 16, 40) := xw_al h rfl
theorem xj_17 {al : List (Nat × Nat)} (h : al.map Prod.snd = tc_KL) : al[17]? = some (xw_ad al 17, 41) := xw_al h rfl
theorem xj_18 {al : List (Nat × Nat)} (h : al.map Prod.snd = tc_KL) : al[18]? = some (xw_ad al 18, 42) := xw_al h rfl
theorem xj_19 {al : List (Nat × Nat)} (h : al.map Prod.snd = tc_KL) : al[19]? = some (xw_ad al 19, 43) := xw_al h rfl
theorem xj_20 {al : List (Nat × Nat)} (h : al.map Prod.snd = tc_KL) : al[20]? = some (xw_ad al 20, 44) := xw_al h rfl
theorem xj_21 {al : List (Nat × Nat)} (h : al.map Prod.snd = tc_KL) : al[21]? = some (xw_ad al 21, 45) := xw_al h rfl
theorem xj_22 {al : List (Nat × Nat)} (h : al.map Prod.snd = tc_KL) : al[22]? = some (xw_ad al 22, 46) := xw_al h rfl
theorem xj_23 {al : List (Nat × Nat)} (h : al.map Prod.snd = tc_KL) : al[23]? = some (xw_ad al 23, 47) := xw_al h rfl
theorem xj_24 {al : List (Nat × Nat)} (h : al.map Prod.snd = tc_KL) : al[24]? = some (xw_ad al 24, 48) := xw_al h rfl
theorem xj_25 {al : List (Nat × Nat)} (h : al.map Prod.snd = tc_KL) : al[25]? = some (xw_ad al 25, 49) := xw_al h rfl
theorem xj_26 {al : List (Nat × Nat)} (h : al.map Prod.snd = tc_KL) : al[26]? = some (xw_ad al 26, 50) := xw_al h rfl
theorem xj_27 {al : List (Nat × Nat)} (h : al.map Prod.snd = tc_KL) : al[27]? = some (xw_ad al 27, 51) := xw_al h rfl
theorem xj_28 {al : List (Nat × Nat)} (h : al.map Prod.snd = tc_KL) : al[28]? = some (xw_ad al 28, 52) := xw_al h rfl
theorem xj_30 {al : List (Nat × Nat)} (h : al.map Prod.snd = tc_KL) : al[30]? = some (xw_ad al 30, 54) := xw_al h rfl
theorem xj_31 {al : List (Nat × Nat)} (h : al.map Prod.snd = tc_KL) : al[31]? = some (xw_ad al 31, 65) := xw_al h rfl
theorem xj_103 {al : List (Nat × Nat)} (h : al.map Prod.snd = tc_KL) : al[103]? = some (xw_ad al 103, 67) := xw_al h rfl
theorem xj_104 {al : List (Nat × Nat)} (h : al.map Prod.snd = tc_KL) : al[104]? = some (xw_ad al 104, 17) := xw_al h rfl
theorem xj_107 {al : List (Nat × Nat)} (h : al.map Prod.snd = tc_KL) : al[107]? = some (xw_ad al 107, 28) := xw_al h rfl
theorem xj_108 {al : List (Nat × Nat)} (h : al.map Prod.snd = tc_KL) : al[108]? = some (xw_ad al 108, 29) := xw_al h rfl
theorem xj_109 {al : List (Nat × Nat)} (h : al.map Prod.snd = tc_KL) : al[109]? = some (xw_ad al 109, 30) := xw_al h rfl
theorem xj_110 {al : List (Nat × Nat)} (h : al.map Prod.snd = tc_KL) : al[110]? = some (xw_ad al 110, 31) := xw_al h rfl
theorem xj_111 {al : List (Nat × Nat)} (h : al.map Prod.snd = tc_KL) : al[111]? = some (xw_ad al 111, 32) := xw_al h rfl
theorem xj_112 {al : List (Nat × Nat)} (h : al.map Prod.snd = tc_KL) : al[112]? = some (xw_ad al 112, 33) := xw_al h rfl
theorem xj_113 {al : List (Nat × Nat)} (h : al.map Prod.snd = tc_KL) : al[113]? = some (xw_ad al 113, 34) := xw_al h rfl
theorem xj_114 {al : List (Nat × Nat)} (h : al.map Prod.snd = tc_KL) : al[114]? = some (xw_ad al 114, 35) := xw_al h rfl
theorem xj_115 {al : List (Nat × Nat)} (h : al.map Prod.snd = tc_KL) : al[115]? = some (xw_ad al 115, 36) := xw_al h rfl
theorem xj_116 {al : List (Nat × Nat)} (h : al.map Prod.snd = tc_KL) : al[116]? = some (xw_ad al 116, 37) := xw_al h rfl
theorem xj_117 {al : List (Nat × Nat)} (h : al.map Prod.snd = tc_KL) : al[117]? = some (xw_ad al 117, 38) := xw_al h rfl
theorem xj_118 {al : List (Nat × Nat)} (h : al.map Prod.snd = tc_KL) : al[118]? = some (xw_ad al 118, 39) := xw_al h rfl
theorem xj_119 {al : List (Nat × Nat)} (h : al.map Prod.snd = tc_KL) : al[119]? = some (xw_ad al 119, 40) := xw_al h rfl
theorem xj_120 {al : List (Nat × Nat)} (h : al.map Prod.snd = tc_KL) : al[120]? = some (xw_ad al 120, 41) := xw_al h rfl
theorem xj_146 {al : List (Nat × Nat)} (h : al.map Prod.snd = tc_KL) : al[146]? = some (xw_ad al 146, 25) := xw_al h rfl
theorem xj_147 {al : List (Nat × Nat)} (h : al.map Prod.snd = tc_KL) : al[147]? = some (xw_ad al 147, 28) := xw_al h rfl
theorem xj_148 {al : List (Nat × Nat)} (h : al.map Prod.snd = tc_KL) : al[148]? = some (xw_ad al 148, 29) := xw_al h rfl
theorem xj_149 {al : List (Nat × Nat)} (h : al.map Prod.snd = tc_KL) : al[149]? = some (xw_ad al 149, 30) := xw_al h rfl
theorem xj_150 {al : List (Nat × Nat)} (h : al.map Prod.snd = tc_KL) : al[150]? = some (xw_ad al 150, 31) := xw_al h rfl
theorem xj_151 {al : List (Nat × Nat)} (h : al.map Prod.snd = tc_KL) : al[151]? = some (xw_ad al 151, 32) := xw_al h rfl
theorem xj_152 {al : List (Nat × Nat)} (h : al.map Prod.snd = tc_KL) : al[152]? = some (xw_ad al 152, 33) := xw_al h rfl
theorem xj_153 {al : List (Nat × Nat)} (h : al.map Prod.snd = tc_KL) : al[153]? = some (xw_ad al 153, 34) := xw_al h rfl
theorem xj_154 {al : List (Nat × Nat)} (h : al.map Prod.snd = tc_KL) : al[154]? = some (xw_ad al 154, 35) := xw_al h rfl
theorem xj_155 {al : List (Nat × Nat)} (h : al.map Prod.snd = tc_KL) : al[155]? = some (xw_ad al 155, 36) := xw_al h rfl
theorem xj_156 {al : List (Nat × Nat)} (h : al.map Prod.snd = tc_KL) : al[156]? = some (xw_ad al 156, 37) := xw_al h rfl
theorem xj_157 {al : List (Nat × Nat)} (h : al.map Prod.snd = tc_KL) : al[157]? = some (xw_ad al 157, 38) := xw_al h rfl
theorem xj_158 {al : List (Nat × Nat)} (h : al.map Prod.snd = tc_KL) : al[158]? = some (xw_ad al 158, 39) := xw_al h rfl
theorem xj_159 {al : List (Nat × Nat)} (h : al.map Prod.snd = tc_KL) : al[159]? = some (xw_ad al 159, 40) := xw_al h rfl
theorem xj_160 {al : List (Nat × Nat)} (h : al.map Prod.snd = tc_KL) : al[160]? = some (xw_ad al 160, 41) := xw_al h rfl
theorem xj_161 {al : List (Nat × Nat)} (h : al.map Prod.snd = tc_KL) : al[161]? = some (xw_ad al 161, 42) := xw_al h rfl
theorem xj_162 {al : List (Nat × Nat)} (h : al.map Prod.snd = tc_KL) : al[162]? = some (xw_ad al 162, 43) := xw_al h rfl
theorem xj_163 {al : List (Nat × Nat)} (h : al.map Prod.snd = tc_KL) : al[163]? = some (xw_ad al 163, 44) := xw_al h rfl
theorem xj_164 {al : List (Nat × Nat)} (h : al.map Prod.snd = tc_KL) : al[164]? = some (xw_ad al 164, 45) := xw_al h rfl
theorem xj_165 {al : List (Nat × Nat)} (h : al.map Prod.snd = tc_KL) : al[165]? = some (xw_ad al 165, 46) := xw_al h rfl
theorem xj_166 {al : List (Nat × Nat)} (h : al.map Prod.snd = tc_KL) : al[166]? = some (xw_ad al 166, 47) := xw_al h rfl
theorem xj_167 {al : List (Nat × Nat)} (h : al.map Prod.snd = tc_KL) : al[167]? = some (xw_ad al 167, 48) := xw_al h rfl
theorem xj_168 {al : List (Nat × Nat)} (h : al.map Prod.snd = tc_KL) : al[168]? = some (xw_ad al 168, 55) := xw_al h rfl
theorem xj_169 {al : List (Nat × Nat)} (h : al.map Prod.snd = tc_KL) : al[169]? = some (xw_ad al 169, 56) := xw_al h rfl
theorem xj_170 {al : List (Nat × Nat)} (h : al.map Prod.snd = tc_KL) : al[170]? = some (xw_ad al 170, 57) := xw_al h rfl
theorem xj_171 {al : List (Nat × Nat)} (h : al.map Prod.snd = tc_KL) : al[171]? = some (xw_ad al 171, 58) := xw_al h rfl
theorem xj_173 {al : List (Nat × Nat)} (h : al.map Prod.snd = tc_KL) : al[173]? = some (xw_ad al 173, 26) := xw_al h rfl
theorem xj_174 {al : List (Nat × Nat)} (h : al.map Prod.snd = tc_KL) : al[174]? = some (xw_ad al 174, 28) := xw_al h rfl
theorem xj_175 {al : List (Nat × Nat)} (h : al.map Prod.snd = tc_KL) : al[175]? = some (xw_ad al 175, 29) := xw_al h rfl
theorem xj_176 {al : List (Nat × Nat)} (h : al.map Prod.snd = tc_KL) : al[176]? = some (xw_ad al 176, 30) := xw_al h rfl
theorem xj_177 {al : List (Nat × Nat)} (h : al.map Prod.snd = tc_KL) : al[177]? = some (xw_ad al 177, 31) := xw_al h rfl
theorem xj_178 {al : List (Nat × Nat)} (h : al.map Prod.snd = tc_KL) : al[178]? = some (xw_ad al 178, 32) := xw_al h rfl
theorem xj_179 {al : List (Nat × Nat)} (h : al.map Prod.snd = tc_KL) : al[179]? = some (xw_ad al 179, 33) := xw_al h rfl
theorem xj_180 {al : List (Nat × Nat)} (h : al.map Prod.snd = tc_KL) : al[180]? = some (xw_ad al 180, 34) := xw_al h rfl
theorem xj_181 {al : List (Nat × Nat)} (h : al.map Prod.snd = tc_KL) : al[181]? = some (xw_ad al 181, 35) := xw_al h rfl
theorem xj_182 {al : List (Nat × Nat)} (h : al.map Prod.snd = tc_KL) : al[182]? = some (xw_ad al 182, 36) := xw_al h rfl
theorem xj_183 {al : List (Nat × Nat)} (h : al.map Prod.snd = tc_KL) : al[183]? = some (xw_ad al 183, 37) := xw_al h rfl
theorem xj_184 {al : List (Nat × Nat)} (h : al.map Prod.snd = tc_KL) : al[184]? = some (xw_ad al 184, 38) := xw_al h rfl
theorem xj_185 {al : List (Nat × Nat)} (h : al.map Prod.snd = tc_KL) : al[185]? = some (xw_ad al 185, 39) := xw_al h rfl
theorem xj_186 {al : List (Nat × Nat)} (h : al.map Prod.snd = tc_KL) : al[186]? = some (xw_ad al 186, 40) := xw_al h rfl
theorem xj_187 {al : List (Nat × Nat)} (h : al.map Prod.snd = tc_KL) : al[187]? = some (xw_ad al 187, 41) := xw_al h rfl
theorem xj_188 {al : List (Nat × Nat)} (h : al.map Prod.snd = tc_KL) : al[188]? = some (xw_ad al 188, 42) := xw_al h rfl
theorem xj_189 {al : List (Nat × Nat)} (h : al.map Prod.snd = tc_KL) : al[189]? = some (xw_ad al 189, 43) := xw_al h rfl
theorem xj_190 {al : List (Nat × Nat)} (h : al.map Prod.snd = tc_KL) : al[190]? = some (xw_ad al 190, 44) := xw_al h rfl
theorem xj_191 {al : List (Nat × Nat)} (h : al.map Prod.snd = tc_KL) : al[191]? = some (xw_ad al 191, 45) := xw_al h rfl
theorem xj_192 {al : List (Nat × Nat)} (h : al.map Prod.snd = tc_KL) : al[192]? = some (xw_ad al 192, 46) := xw_al h rfl
theorem xj_193 {al : List (Nat × Nat)} (h : al.map Prod.snd = tc_KL) : al[193]? = some (xw_ad al 193, 47) := xw_al h rfl
theorem xj_194 {al : List (Nat × Nat)} (h : al.map Prod.snd = tc_KL) : al[194]? = some (xw_ad al 194, 48) := xw_al h rfl
theorem xj_195 {al : List (Nat × Nat)} (h : al.map Prod.snd = tc_KL) : al[195]? = some (xw_ad al 195, 60) := xw_al h rfl
theorem xj_196 {al : List (Nat × Nat)} (h : al.map Prod.snd = tc_KL) : al[196]? = some (xw_ad al 196, 61) := xw_al h rfl
theorem xj_197 {al : List (Nat × Nat)} (h : al.map Prod.snd = tc_KL) : al[197]? = some (xw_ad al 197, 62) := xw_al h rfl
theorem xj_198 {al : List (Nat × Nat)} (h : al.map Prod.snd = tc_KL) : al[198]? = some (xw_ad al 198, 63) := xw_al h rfl
theorem xj_200 {al : List (Nat × Nat)} (h : al.map Prod.snd = tc_KL) : al[200]? = some (xw_ad al 200, 0) := xw_al h rfl
theorem xj_201 {al : List (Nat × Nat)} (h : al.map Prod.snd = tc_KL) : al[201]? = some (xw_ad al 201, 2) := xw_al h rfl
theorem xj_202 {al : List (Nat × Nat)} (h : al.map Prod.snd = tc_KL) : al[202]? = some (xw_ad al 202, 1) := xw_al h rfl
theorem xj_203 {al : List (Nat × Nat)} (h : al.map Prod.snd = tc_KL) : al[203]? = some (xw_ad al 203, 8) := xw_al h rfl
theorem xj_204 {al : List (Nat × Nat)} (h : al.map Prod.snd = tc_KL) : al[204]? = some (xw_ad al 204, 10) := xw_al h rfl
theorem xj_207 {al : List (Nat × Nat)} (h : al.map Prod.snd = tc_KL) : al[207]? = some (xw_ad al 207, 78) := xw_al h rfl
theorem xj_208 {al : List (Nat × Nat)} (h : al.map Prod.snd = tc_KL) : al[208]? = some (xw_ad al 208, 79) := xw_al h rfl
theorem xj_209 {al : List (Nat × Nat)} (h : al.map Prod.snd = tc_KL) : al[209]? = some (xw_ad al 209, 80) := xw_al h rfl
theorem xj_210 {al : List (Nat × Nat)} (h : al.map Prod.snd = tc_KL) : al[210]? = some (xw_ad al 210, 81) := xw_al h rfl
theorem xj_219 {al : List (Nat × Nat)} (h : al.map Prod.snd = tc_KL) : al[219]? = some (xw_ad al 219, 87) := xw_al h rfl
theorem xe_0_0 {μ : xw_M} (h : xw_G xw_GL μ) : μ 0 0 = ((1 : Nat) : Int) := xw_Gg h 0 rfl
theorem xe_0_1 {μ : xw_M} (h : xw_G xw_GL μ) : μ 0 1 = ((3 : Nat) : Int) := xw_Gg h 1 rfl
theorem xe_0_2 {μ : xw_M} (h : xw_G xw_GL μ) : μ 0 2 = ((30 : Nat) : Int) := xw_Gg h 2 rfl
theorem xe_0_3 {μ : xw_M} (h : xw_G xw_GL μ) : μ 0 3 = ((31 : Nat) : Int) := xw_Gg h 3 rfl
theorem xe_0_5 {μ : xw_M} (h : xw_G xw_GL μ) : μ 0 5 = ((103 : Nat) : Int) := xw_Gg h 4 rfl
theorem xe_1_0 {μ : xw_M} (h : xw_G xw_GL μ) : μ 1 0 = ((2 : Nat) : Int) := xw_Gg h 5 rfl
theorem xe_3_0 {μ : xw_M} (h : xw_G xw_GL μ) : μ 3 0 = ((4 : Nat) : Int) := xw_Gg h 6 rfl
theorem xe_3_1 {μ : xw_M} (h : xw_G xw_GL μ) : μ 3 1 = ((18 : Nat) : Int) := xw_Gg h 7 rfl
theorem xe_3_2 {μ : xw_M} (h : xw_G xw_GL μ) : μ 3 2 = ((25 : Nat) : Int) := xw_Gg h 8 rfl
theorem xe_4_0 {μ : xw_M} (h : xw_G xw_GL μ) : μ 4 0 = ((5 : Nat) : Int) := xw_Gg h 9 rfl
theorem xe_4_1 {μ : xw_M} (h : xw_G xw_GL μ) : μ 4 1 = ((6 : Nat) : Int) := xw_Gg h 10 rfl
theorem xe_4_2 {μ : xw_M} (h : xw_G xw_GL μ) : μ 4 2 = ((7 : Nat) : Int) := xw_Gg h 11 rfl
theorem xe_4_3 {μ : xw_M} (h : xw_G xw_GL μ) : μ 4 3 = ((8 : Nat) : Int) := xw_Gg h 12 rfl
theorem xe_4_4 {μ : xw_M} (h : xw_G xw_GL μ) : μ 4 4 = ((9 : Nat) : Int) := xw_Gg h 13 rfl
theorem xe_4_5 {μ : xw_M} (h : xw_G xw_GL μ) : μ 4 5 = ((10 : Nat) : Int) := xw_Gg h 14 rfl
theorem xe_4_6 {μ : xw_M} (h : xw_G xw_GL μ) : μ 4 6 = ((11 : Nat) : Int) := xw_Gg h 15 rfl
theorem xe_4_7 {μ : xw_M} (h : xw_G xw_GL μ) : μ 4 7 = ((12 : Nat) : Int) := xw_Gg h 16 rfl
theorem xe_4_8 {μ : xw_M} (h : xw_G xw_GL μ) : μ 4 8 = ((13 : Nat) : Int) := xw_Gg h 17 rfl
theorem xe_4_9 {μ : xw_M} (h : xw_G xw_GL μ) : μ 4 9 = ((14 : Nat) : Int) := xw_Gg h 18 rfl
theorem xe_4_10 {μ : xw_M} (h : xw_G xw_GL μ) : μ 4 10 = ((15 : Nat) : Int) := xw_Gg h 19 rfl
theorem xe_4_11 {μ : xw_M} (h : xw_G xw_GL μ) : μ 4 11 = ((16 : Nat) : Int) := xw_Gg h 20 rfl
theorem xe_4_12 {μ : xw_M} (h : xw_G xw_GL μ) : μ 4 12 = ((17 : Nat) : Int) := xw_Gg h 21 rfl
theorem xe_18_0 {μ : xw_M} (h : xw_G xw_GL μ) : μ 18 0 = ((19 : Nat) : Int) := xw_Gg h 22 rfl
theorem xe_18_1 {μ : xw_M} (h : xw_G xw_GL μ) : μ 18 1 = ((20 : Nat) : Int) := xw_Gg h 23 rfl
theorem xe_18_2 {μ : xw_M} (h : xw_G xw_GL μ) : μ 18 2 = ((21 : Nat) : Int) := xw_Gg h 24 rfl
theorem xe_18_3 {μ : xw_M} (h : xw_G xw_GL μ) : μ 18 3 = ((22 : Nat) : Int) := xw_Gg h 25 rfl
theorem xe_18_4 {μ : xw_M} (h : xw_G xw_GL μ) : μ 18 4 = ((23 : Nat) : Int) := xw_Gg h 26 rfl
theorem xe_18_5 {μ : xw_M} (h : xw_G xw_GL μ) : μ 18 5 = ((24 : Nat) : Int) := xw_Gg h 27 rfl
theorem xe_25_0 {μ : xw_M} (h : xw_G xw_GL μ) : μ 25 0 = ((26 : Nat) : Int) := xw_Gg h 28 rfl
theorem xe_25_1 {μ : xw_M} (h : xw_G xw_GL μ) : μ 25 1 = ((27 : Nat) : Int) := xw_Gg h 29 rfl
theorem xe_25_2 {μ : xw_M} (h : xw_G xw_GL μ) : μ 25 2 = ((28 : Nat) : Int) := xw_Gg h 30 rfl
theorem xe_30_0 {μ : xw_M} (h : xw_G xw_GL μ) : μ 30 0 = ((146 : Nat) : Int) := xw_Gg h 31 rfl
theorem xe_30_1 {μ : xw_M} (h : xw_G xw_GL μ) : μ 30 1 = ((173 : Nat) : Int) := xw_Gg h 32 rfl
theorem xe_103_0 {μ : xw_M} (h : xw_G xw_GL μ) : μ 103 0 = ((104 : Nat) : Int) := xw_Gg h 33 rfl
theorem xe_103_1 {μ : xw_M} (h : xw_G xw_GL μ) : μ 103 1 = ((107 : Nat) : Int) := xw_Gg h 34 rfl
theorem xe_107_0 {μ : xw_M} (h : xw_G xw_GL μ) : μ 107 0 = ((108 : Nat) : Int) := xw_Gg h 35 rfl
theorem xe_107_1 {μ : xw_M} (h : xw_G xw_GL μ) : μ 107 1 = ((109 : Nat) : Int) := xw_Gg h 36 rfl
theorem xe_107_2 {μ : xw_M} (h : xw_G xw_GL μ) : μ 107 2 = ((110 : Nat) : Int) := xw_Gg h 37 rfl
theorem xe_107_3 {μ : xw_M} (h : xw_G xw_GL μ) : μ 107 3 = ((111 : Nat) : Int) := xw_Gg h 38 rfl
theorem xe_107_4 {μ : xw_M} (h : xw_G xw_GL μ) : μ 107 4 = ((112 : Nat) : Int) := xw_Gg h 39 rfl
theorem xe_107_5 {μ : xw_M} (h : xw_G xw_GL μ) : μ 107 5 = ((113 : Nat) : Int) := xw_Gg h 40 rfl
theorem xe_107_6 {μ : xw_M} (h : xw_G xw_GL μ) : μ 107 6 = ((114 : Nat) : Int) := xw_Gg h 41 rfl
theorem xe_107_7 {μ : xw_M} (h : xw_G xw_GL μ) : μ 107 7 = ((115 : Nat) : Int) := xw_Gg h 42 rfl
theorem xe_107_8 {μ : xw_M} (h : xw_G xw_GL μ) : μ 107 8 = ((116 : Nat) : Int) := xw_Gg h 43 rfl
theorem xe_107_9 {μ : xw_M} (h : xw_G xw_GL μ) : μ 107 9 = ((117 : Nat) : Int) := xw_Gg h 44 rfl
theorem xe_107_10 {μ : xw_M} (h : xw_G xw_GL μ) : μ 107 10 = ((118 : Nat) : Int) := xw_Gg h 45 rfl
theorem xe_107_11 {μ : xw_M} (h : xw_G xw_GL μ) : μ 107 11 = ((119 : Nat) : Int) := xw_Gg h 46 rfl
theorem xe_107_12 {μ : xw_M} (h : xw_G xw_GL μ) : μ 107 12 = ((120 : Nat) : Int) := xw_Gg h 47 rfl
theorem xe_146_0 {μ : xw_M} (h : xw_G xw_GL μ) : μ 146 0 = ((147 : Nat) : Int) := xw_Gg h 48 rfl
theorem xe_146_1 {μ : xw_M} (h : xw_G xw_GL μ) : μ 146 1 = ((161 : Nat) : Int) := xw_Gg h 49 rfl
theorem xe_146_2 {μ : xw_M} (h : xw_G xw_GL μ) : μ 146 2 = ((168 : Nat) : Int) := xw_Gg h 50 rfl
theorem xe_147_0 {μ : xw_M} (h : xw_G xw_GL μ) : μ 147 0 = ((148 : Nat) : Int) := xw_Gg h 51 rfl
theorem xe_147_1 {μ : xw_M} (h : xw_G xw_GL μ) : μ 147 1 = ((149 : Nat) : Int) := xw_Gg h 52 rfl
theorem xe_147_2 {μ : xw_M} (h : xw_G xw_GL μ) : μ 147 2 = ((150 : Nat) : Int) := xw_Gg h 53 rfl
theorem xe_147_3 {μ : xw_M} (h : xw_G xw_GL μ) : μ 147 3 = ((151 : Nat) : Int) := xw_Gg h 54 rfl
theorem xe_147_4 {μ : xw_M} (h : xw_G xw_GL μ) : μ 147 4 = ((152 : Nat) : Int) := xw_Gg h 55 rfl
theorem xe_147_5 {μ : xw_M} (h : xw_G xw_GL μ) : μ 147 5 = ((153 : Nat) : Int) := xw_Gg h 56 rfl
theorem xe_147_6 {μ : xw_M} (h : xw_G xw_GL μ) : μ 147 6 = ((154 : Nat) : Int) := xw_Gg h 57 rfl
theorem xe_147_7 {μ : xw_M} (h : xw_G xw_GL μ) : μ 147 7 = ((155 : Nat) : Int) := xw_Gg h 58 rfl
theorem xe_147_8 {μ : xw_M} (h : xw_G xw_GL μ) : μ 147 8 = ((156 : Nat) : Int) := xw_Gg h 59 rfl
theorem xe_147_9 {μ : xw_M} (h : xw_G xw_GL μ) : μ 147 9 = ((157 : Nat) : Int) := xw_Gg h 60 rfl
theorem xe_147_10 {μ : xw_M} (h : xw_G xw_GL μ) : μ 147 10 = ((158 : Nat) : Int) := xw_Gg h 61 rfl
theorem xe_147_11 {μ : xw_M} (h : xw_G xw_GL μ) : μ 147 11 = ((159 : Nat) : Int) := xw_Gg h 62 rfl
theorem xe_147_12 {μ : xw_M} (h : xw_G xw_GL μ) : μ 147 12 = ((160 : Nat) : Int) := xw_Gg h 63 rfl
theorem xe_161_0 {μ : xw_M} (h : xw_G xw_GL μ) : μ 161 0 = ((162 : Nat) : Int) := xw_Gg h 64 rfl
theorem xe_161_1 {μ : xw_M} (h : xw_G xw_GL μ) : μ 161 1 = ((163 : Nat) : Int) := xw_Gg h 65 rfl
theorem xe_161_2 {μ : xw_M} (h : xw_G xw_GL μ) : μ 161 2 = ((164 : Nat) : Int) := xw_Gg h 66 rfl
theorem xe_161_3 {μ : xw_M} (h : xw_G xw_GL μ) : μ 161 3 = ((165 : Nat) : Int) := xw_Gg h 67 rfl
theorem xe_161_4 {μ : xw_M} (h : xw_G xw_GL μ) : μ 161 4 = ((166 : Nat) : Int) := xw_Gg h 68 rfl
theorem xe_161_5 {μ : xw_M} (h : xw_G xw_GL μ) : μ 161 5 = ((167 : Nat) : Int) := xw_Gg h 69 rfl
theorem xe_168_0 {μ : xw_M} (h : xw_G xw_GL μ) : μ 168 0 = ((169 : Nat) : Int) := xw_Gg h 70 rfl
theorem xe_168_1 {μ : xw_M} (h : xw_G xw_GL μ) : μ 168 1 = ((170 : Nat) : Int) := xw_Gg h 71 rfl
theorem xe_168_2 {μ : xw_M} (h : xw_G xw_GL μ) : μ 168 2 = ((171 : Nat) : Int) := xw_Gg h 72 rfl
theorem xe_173_0 {μ : xw_M} (h : xw_G xw_GL μ) : μ 173 0 = ((174 : Nat) : Int) := xw_Gg h 73 rfl
theorem xe_173_1 {μ : xw_M} (h : xw_G xw_GL μ) : μ 173 1 = ((188 : Nat) : Int) := xw_Gg h 74 rfl
theorem xe_173_2 {μ : xw_M} (h : xw_G xw_GL μ) : μ 173 2 = ((195 : Nat) : Int) := xw_Gg h 75 rfl
theorem xe_174_0 {μ : xw_M} (h : xw_G xw_GL μ) : μ 174 0 = ((175 : Nat) : Int) := xw_Gg h 76 rfl
theorem xe_174_1 {μ : xw_M} (h : xw_G xw_GL μ) : μ 174 1 = ((176 : Nat) : Int) := xw_Gg h 77 rfl
theorem xe_174_2 {μ : xw_M} (h : xw_G xw_GL μ) : μ 174 2 = ((177 : Nat) : Int) := xw_Gg h 78 rfl
theorem xe_174_3 {μ : xw_M} (h : xw_G xw_GL μ) : μ 174 3 = ((178 : Nat) : Int) := xw_Gg h 79 rfl
theorem xe_174_4 {μ : xw_M} (h : xw_G xw_GL μ) : μ 174 4 = ((179 : Nat) : Int) := xw_Gg h 80 rfl
theorem xe_174_5 {μ : xw_M} (h : xw_G xw_GL μ) : μ 174 5 = ((180 : Nat) : Int) := xw_Gg h 81 rfl
theorem xe_174_6 {μ : xw_M} (h : xw_G xw_GL μ) : μ 174 6 = ((181 : Nat) : Int) := xw_Gg h 82 rfl
theorem xe_174_7 {μ : xw_M} (h : xw_G xw_GL μ) : μ 174 7 = ((182 : Nat) : Int) := xw_Gg h 83 rfl
theorem xe_174_8 {μ : xw_M} (h : xw_G xw_GL μ) : μ 174 8 = ((183 : Nat) : Int) := xw_Gg h 84 rfl
theorem xe_174_9 {μ : xw_M} (h : xw_G xw_GL μ) : μ 174 9 = ((184 : Nat) : Int) := xw_Gg h 85 rfl
theorem xe_174_10 {μ : xw_M} (h : xw_G xw_GL μ) : μ 174 10 = ((185 : Nat) : Int) := xw_Gg h 86 rfl
theorem xe_174_11 {μ : xw_M} (h : xw_G xw_GL μ) : μ 174 11 = ((186 : Nat) : Int) := xw_Gg h 87 rfl
theorem xe_174_12 {μ : xw_M} (h : xw_G xw_GL μ) : μ 174 12 = ((187 : Nat) : Int) := xw_Gg h 88 rfl
theorem xe_188_0 {μ : xw_M} (h : xw_G xw_GL μ) : μ 188 0 = ((189 : Nat) : Int) := xw_Gg h 89 rfl
theorem xe_188_1 {μ : xw_M} (h : xw_G xw_GL μ) : μ 188 1 = ((190 : Nat) : Int) := xw_Gg h 90 rfl
theorem xe_188_2 {μ : xw_M} (h : xw_G xw_GL μ) : μ 188 2 = ((191 : Nat) : Int) := xw_Gg h 91 rfl
theorem xe_188_3 {μ : xw_M} (h : xw_G xw_GL μ) : μ 188 3 = ((192 : Nat) : Int) := xw_Gg h 92 rfl
theorem xe_188_4 {μ : xw_M} (h : xw_G xw_GL μ) : μ 188 4 = ((193 : Nat) : Int) := xw_Gg h 93 rfl
theorem xe_188_5 {μ : xw_M} (h : xw_G xw_GL μ) : μ 188 5 = ((194 : Nat) : Int) := xw_Gg h 94 rfl
theorem xe_195_0 {μ : xw_M} (h : xw_G xw_GL μ) : μ 195 0 = ((196 : Nat) : Int) := xw_Gg h 95 rfl
theorem xe_195_1 {μ : xw_M} (h : xw_G xw_GL μ) : μ 195 1 = ((197 : Nat) : Int) := xw_Gg h 96 rfl
theorem xe_195_2 {μ : xw_M} (h : xw_G xw_GL μ) : μ 195 2 = ((198 : Nat) : Int) := xw_Gg h 97 rfl
theorem xe_200_1 {μ : xw_M} (h : xw_G xw_GL μ) : μ 200 1 = ((201 : Nat) : Int) := xw_Gg h 98 rfl
theorem xe_200_14 {μ : xw_M} (h : xw_G xw_GL μ) : μ 200 14 = ((202 : Nat) : Int) := xw_Gg h 99 rfl
theorem xe_200_15 {μ : xw_M} (h : xw_G xw_GL μ) : μ 200 15 = ((203 : Nat) : Int) := xw_Gg h 100 rfl
theorem xe_200_16 {μ : xw_M} (h : xw_G xw_GL μ) : μ 200 16 = ((204 : Nat) : Int) := xw_Gg h 101 rfl
theorem xe_200_19 {μ : xw_M} (h : xw_G xw_GL μ) : μ 200 19 = ((207 : Nat) : Int) := xw_Gg h 102 rfl
theorem xe_200_20 {μ : xw_M} (h : xw_G xw_GL μ) : μ 200 20 = ((208 : Nat) : Int) := xw_Gg h 103 rfl
theorem xe_200_21 {μ : xw_M} (h : xw_G xw_GL μ) : μ 200 21 = ((209 : Nat) : Int) := xw_Gg h 104 rfl
theorem xe_200_22 {μ : xw_M} (h : xw_G xw_GL μ) : μ 200 22 = ((210 : Nat) : Int) := xw_Gg h 105 rfl
