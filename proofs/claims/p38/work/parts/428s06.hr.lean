set_option maxRecDepth 20000 in
set_option maxHeartbeats 20000000 in
theorem xr_wordOf {l : Launch} {μ : xw_M} {c9 : Nat} (hc : c9 < 20) : xw_MetL l vwCl sa_Ts tb_KT0 tc_KL yX12_wordOf cX12_wordOf 1 (some .long) 3 148 (fun ad => [.int (Int32.ofInt (c9 : Int))]) μ (fun r μ' => μ = μ' ∧ r = hp_wo c9) :=
  xw_of (by decide) (fun _ => Nat.le_of_ble_eq_true rfl) (fun p e s m args below meth c D dA A al w0 sz C0 hU hO hKL hr hlk hA => by
    rcases (show c9 = 0 ∨ c9 = 1 ∨ c9 = 2 ∨ c9 = 3 ∨ c9 = 4 ∨ c9 = 5 ∨ c9 = 6 ∨ c9 = 7 ∨ c9 = 8 ∨ c9 = 9 ∨ c9 = 10 ∨ c9 = 11 ∨ c9 = 12 ∨ c9 = 13 ∨ c9 = 14 ∨ c9 = 15 ∨ c9 = 16 ∨ c9 = 17 ∨ c9 = 18 ∨ c9 = 19 by omega) with rfl | rfl | rfl | rfl | rfl | rfl | rfl | rfl | rfl | rfl | rfl | rfl | rfl | rfl | rfl | rfl | rfl | rfl | rfl | rfl
    · refine xw_iload_n (pc := 0) C0 0 dX12_wordOf_0 rfl rfl ?_
      refine xw_tabI (pc := 1) (tgt := 92) (off := 91) C0 (by omega) dX12_wordOf_1 (by omega) (by omega) rfl rfl ?_
      refine xw_bipush (pc := 92) C0 dX12_wordOf_92 (by decide) ?_
      refine xw_bipush (pc := 94) C0 dX12_wordOf_94 (by decide) ?_
      refine xw_bipush (pc := 96) C0 dX12_wordOf_96 (by decide) ?_
      refine xw_bipush (pc := 98) C0 dX12_wordOf_98 (by decide) ?_
      refine xw_bipush (pc := 100) C0 dX12_wordOf_100 (by decide) ?_
      refine xw_iconst (pc := 102) C0 dX12_wordOf_102 ?_
      refine xw_iconst (pc := 103) C0 dX12_wordOf_103 ?_
      refine xw_callSL (pc := 104) (μ := μ) (rest := []) (As := [.int (Int32.ofInt 116), .int (Int32.ofInt 104), .int (Int32.ofInt 105), .int (Int32.ofInt 110), .int (Int32.ofInt 103), .int (Int32.ofInt 0), .int (Int32.ofInt 0)]) C0 hU hO sa_Tg hKL (xr_sp0 (l := l)) tv_1451 dX12_wordOf_104 tv_1449 tv_1450 tv_13 yb_X12_spelt (by decide) rfl rfl rfl (by decide) (Nat.le_of_ble_eq_true rfl) (fun r1 m1 w1 => ?_)
      obtain ⟨rfl, w1⟩ := w1
      refine xw_lret C0 hA hr hlk dX12_wordOf_107 ?_
      exact ⟨_, rfl, rfl, w1⟩
    · refine xw_iload_n (pc := 0) C0 0 dX12_wordOf_0 rfl rfl ?_
      refine xw_tabI (pc := 1) (tgt := 108) (off := 107) C0 (by omega) dX12_wordOf_1 (by omega) (by omega) rfl rfl ?_
      refine xw_bipush (pc := 108) C0 dX12_wordOf_108 (by decide) ?_
      refine xw_bipush (pc := 110) C0 dX12_wordOf_110 (by decide) ?_
      refine xw_bipush (pc := 112) C0 dX12_wordOf_112 (by decide) ?_
      refine xw_bipush (pc := 114) C0 dX12_wordOf_114 (by decide) ?_
      refine xw_bipush (pc := 116) C0 dX12_wordOf_116 (by decide) ?_
      refine xw_iconst (pc := 118) C0 dX12_wordOf_118 ?_
      refine xw_iconst (pc := 119) C0 dX12_wordOf_119 ?_
      refine xw_callSL (pc := 120) (μ := μ) (rest := []) (As := [.int (Int32.ofInt 102), .int (Int32.ofInt 97), .int (Int32.ofInt 117), .int (Int32.ofInt 108), .int (Int32.ofInt 116), .int (Int32.ofInt 0), .int (Int32.ofInt 0)]) C0 hU hO sa_Tg hKL (xr_sp1 (l := l)) tv_1451 dX12_wordOf_120 tv_1449 tv_1450 tv_13 yb_X12_spelt (by decide) rfl rfl rfl (by decide) (Nat.le_of_ble_eq_true rfl) (fun r101 m101 w101 => ?_)
      obtain ⟨rfl, w101⟩ := w101
      refine xw_lret C0 hA hr hlk dX12_wordOf_123 ?_
      exact ⟨_, rfl, rfl, w101⟩
    · refine xw_iload_n (pc := 0) C0 0 dX12_wordOf_0 rfl rfl ?_
      refine xw_tabI (pc := 1) (tgt := 124) (off := 123) C0 (by omega) dX12_wordOf_1 (by omega) (by omega) rfl rfl ?_
      refine xw_bipush (pc := 124) C0 dX12_wordOf_124 (by decide) ?_
      refine xw_bipush (pc := 126) C0 dX12_wordOf_126 (by decide) ?_
      refine xw_bipush (pc := 128) C0 dX12_wordOf_128 (by decide) ?_
      refine xw_bipush (pc := 130) C0 dX12_wordOf_130 (by decide) ?_
      refine xw_bipush (pc := 132) C0 dX12_wordOf_132 (by decide) ?_
      refine xw_iconst (pc := 134) C0 dX12_wordOf_134 ?_
      refine xw_iconst (pc := 135) C0 dX12_wordOf_135 ?_
      refine xw_callSL (pc := 136) (μ := μ) (rest := []) (As := [.int (Int32.ofInt 99), .int (Int32.ofInt 117), .int (Int32.ofInt 114), .int (Int32.ofInt 101), .int (Int32.ofInt 115), .int (Int32.ofInt 0), .int (Int32.ofInt 0)]) C0 hU hO sa_Tg hKL (xr_sp2 (l := l)) tv_1451 dX12_wordOf_136 tv_1449 tv_1450 tv_13 yb_X12_spelt (by decide) rfl rfl rfl (by decide) (Nat.le_of_ble_eq_true rfl) (fun r201 m201 w201 => ?_)
      obtain ⟨rfl, w201⟩ := w201
      refine xw_lret C0 hA hr hlk dX12_wordOf_139 ?_
      exact ⟨_, rfl, rfl, w201⟩
    · refine xw_iload_n (pc := 0) C0 0 dX12_wordOf_0 rfl rfl ?_
      refine xw_tabI (pc := 1) (tgt := 140) (off := 139) C0 (by omega) dX12_wordOf_1 (by omega) (by omega) rfl rfl ?_
      refine xw_bipush (pc := 140) C0 dX12_wordOf_140 (by decide) ?_
      refine xw_bipush (pc := 142) C0 dX12_wordOf_142 (by decide) ?_
      refine xw_bipush (pc := 144) C0 dX12_wordOf_144 (by decide) ?_
      refine xw_iconst (pc := 146) C0 dX12_wordOf_146 ?_
      refine xw_iconst (pc := 147) C0 dX12_wordOf_147 ?_
      refine xw_iconst (pc := 148) C0 dX12_wordOf_148 ?_
      refine xw_iconst (pc := 149) C0 dX12_wordOf_149 ?_
      refine xw_callSL (pc := 150) (μ := μ) (rest := []) (As := [.int (Int32.ofInt 111), .int (Int32.ofInt 102), .int (Int32.ofInt 102), .int (Int32.ofInt 0), .int (Int32.ofInt 0), .int (Int32.ofInt 0), .int (Int32.ofInt 0)]) C0 hU hO sa_Tg hKL (xr_sp3 (l := l)) tv_1451 dX12_wordOf_150 tv_1449 tv_1450 tv_13 yb_X12_spelt (by decide) rfl rfl rfl (by decide) (Nat.le_of_ble_eq_true rfl) (fun r301 m301 w301 => ?_)
      obtain ⟨rfl, w301⟩ := w301
      refine xw_lret C0 hA hr hlk dX12_wordOf_153 ?_
      exact ⟨_, rfl, rfl, w301⟩
    · refine xw_iload_n (pc := 0) C0 0 dX12_wordOf_0 rfl rfl ?_
      refine xw_tabI (pc := 1) (tgt := 154) (off := 153) C0 (by omega) dX12_wordOf_1 (by omega) (by omega) rfl rfl ?_
      refine xw_bipush (pc := 154) C0 dX12_wordOf_154 (by decide) ?_
      refine xw_bipush (pc := 156) C0 dX12_wordOf_156 (by decide) ?_
      refine xw_bipush (pc := 158) C0 dX12_wordOf_158 (by decide) ?_
      refine xw_bipush (pc := 160) C0 dX12_wordOf_160 (by decide) ?_
      refine xw_bipush (pc := 162) C0 dX12_wordOf_162 (by decide) ?_
      refine xw_iconst (pc := 164) C0 dX12_wordOf_164 ?_
      refine xw_iconst (pc := 165) C0 dX12_wordOf_165 ?_
      refine xw_callSL (pc := 166) (μ := μ) (rest := []) (As := [.int (Int32.ofInt 99), .int (Int32.ofInt 97), .int (Int32.ofInt 98), .int (Int32.ofInt 108), .int (Int32.ofInt 101), .int (Int32.ofInt 0), .int (Int32.ofInt 0)]) C0 hU hO sa_Tg hKL (xr_sp4 (l := l)) tv_1451 dX12_wordOf_166 tv_1449 tv_1450 tv_13 yb_X12_spelt (by decide) rfl rfl rfl (by decide) (Nat.le_of_ble_eq_true rfl) (fun r401 m401 w401 => ?_)
      obtain ⟨rfl, w401⟩ := w401
      refine xw_lret C0 hA hr hlk dX12_wordOf_169 ?_
      exact ⟨_, rfl, rfl, w401⟩
    · refine xw_iload_n (pc := 0) C0 0 dX12_wordOf_0 rfl rfl ?_
      refine xw_tabI (pc := 1) (tgt := 170) (off := 169) C0 (by omega) dX12_wordOf_1 (by omega) (by omega) rfl rfl ?_
      refine xw_bipush (pc := 170) C0 dX12_wordOf_170 (by decide) ?_
      refine xw_bipush (pc := 172) C0 dX12_wordOf_172 (by decide) ?_
      refine xw_bipush (pc := 174) C0 dX12_wordOf_174 (by decide) ?_
      refine xw_iconst (pc := 176) C0 dX12_wordOf_176 ?_
      refine xw_iconst (pc := 177) C0 dX12_wordOf_177 ?_
      refine xw_iconst (pc := 178) C0 dX12_wordOf_178 ?_
      refine xw_iconst (pc := 179) C0 dX12_wordOf_179 ?_
      refine xw_callSL (pc := 180) (μ := μ) (rest := []) (As := [.int (Int32.ofInt 112), .int (Int32.ofInt 105), .int (Int32.ofInt 110), .int (Int32.ofInt 0), .int (Int32.ofInt 0), .int (Int32.ofInt 0), .int (Int32.ofInt 0)]) C0 hU hO sa_Tg hKL (xr_sp5 (l := l)) tv_1451 dX12_wordOf_180 tv_1449 tv_1450 tv_13 yb_X12_spelt (by decide) rfl rfl rfl (by decide) (Nat.le_of_ble_eq_true rfl) (fun r501 m501 w501 => ?_)
      obtain ⟨rfl, w501⟩ := w501
      refine xw_lret C0 hA hr hlk dX12_wordOf_183 ?_
      exact ⟨_, rfl, rfl, w501⟩
    · refine xw_iload_n (pc := 0) C0 0 dX12_wordOf_0 rfl rfl ?_
      refine xw_tabI (pc := 1) (tgt := 184) (off := 183) C0 (by omega) dX12_wordOf_1 (by omega) (by omega) rfl rfl ?_
      refine xw_bipush (pc := 184) C0 dX12_wordOf_184 (by decide) ?_
      refine xw_bipush (pc := 186) C0 dX12_wordOf_186 (by decide) ?_
      refine xw_iconst (pc := 188) C0 dX12_wordOf_188 ?_
      refine xw_iconst (pc := 189) C0 dX12_wordOf_189 ?_
      refine xw_iconst (pc := 190) C0 dX12_wordOf_190 ?_
      refine xw_iconst (pc := 191) C0 dX12_wordOf_191 ?_
      refine xw_iconst (pc := 192) C0 dX12_wordOf_192 ?_
      refine xw_callSL (pc := 193) (μ := μ) (rest := []) (As := [.int (Int32.ofInt 111), .int (Int32.ofInt 110), .int (Int32.ofInt 0), .int (Int32.ofInt 0), .int (Int32.ofInt 0), .int (Int32.ofInt 0), .int (Int32.ofInt 0)]) C0 hU hO sa_Tg hKL (xr_sp6 (l := l)) tv_1451 dX12_wordOf_193 tv_1449 tv_1450 tv_13 yb_X12_spelt (by decide) rfl rfl rfl (by decide) (Nat.le_of_ble_eq_true rfl) (fun r601 m601 w601 => ?_)
      obtain ⟨rfl, w601⟩ := w601
      refine xw_lret C0 hA hr hlk dX12_wordOf_196 ?_
      exact ⟨_, rfl, rfl, w601⟩
    · refine xw_iload_n (pc := 0) C0 0 dX12_wordOf_0 rfl rfl ?_
      refine xw_tabI (pc := 1) (tgt := 197) (off := 196) C0 (by omega) dX12_wordOf_1 (by omega) (by omega) rfl rfl ?_
      refine xw_bipush (pc := 197) C0 dX12_wordOf_197 (by decide) ?_
      refine xw_bipush (pc := 199) C0 dX12_wordOf_199 (by decide) ?_
      refine xw_bipush (pc := 201) C0 dX12_wordOf_201 (by decide) ?_
      refine xw_bipush (pc := 203) C0 dX12_wordOf_203 (by decide) ?_
      refine xw_bipush (pc := 205) C0 dX12_wordOf_205 (by decide) ?_
      refine xw_bipush (pc := 207) C0 dX12_wordOf_207 (by decide) ?_
      refine xw_bipush (pc := 209) C0 dX12_wordOf_209 (by decide) ?_
      refine xw_callSL (pc := 211) (μ := μ) (rest := []) (As := [.int (Int32.ofInt 115), .int (Int32.ofInt 116), .int (Int32.ofInt 114), .int (Int32.ofInt 105), .int (Int32.ofInt 107), .int (Int32.ofInt 101), .int (Int32.ofInt 115)]) C0 hU hO sa_Tg hKL (xr_sp7 (l := l)) tv_1451 dX12_wordOf_211 tv_1449 tv_1450 tv_13 yb_X12_spelt (by decide) rfl rfl rfl (by decide) (Nat.le_of_ble_eq_true rfl) (fun r701 m701 w701 => ?_)
      obtain ⟨rfl, w701⟩ := w701
      refine xw_lret C0 hA hr hlk dX12_wordOf_214 ?_
      exact ⟨_, rfl, rfl, w701⟩
    · refine xw_iload_n (pc := 0) C0 0 dX12_wordOf_0 rfl rfl ?_
      refine xw_tabI (pc := 1) (tgt := 215) (off := 214) C0 (by omega) dX12_wordOf_1 (by omega) (by omega) rfl rfl ?_
      refine xw_bipush (pc := 215) C0 dX12_wordOf_215 (by decide) ?_
      refine xw_bipush (pc := 217) C0 dX12_wordOf_217 (by decide) ?_
      refine xw_bipush (pc := 219) C0 dX12_wordOf_219 (by decide) ?_
      refine xw_bipush (pc := 221) C0 dX12_wordOf_221 (by decide) ?_
      refine xw_bipush (pc := 223) C0 dX12_wordOf_223 (by decide) ?_
      refine xw_bipush (pc := 225) C0 dX12_wordOf_225 (by decide) ?_
      refine xw_iconst (pc := 227) C0 dX12_wordOf_227 ?_
      refine xw_callSL (pc := 228) (μ := μ) (rest := []) (As := [.int (Int32.ofInt 109), .int (Int32.ofInt 105), .int (Int32.ofInt 110), .int (Int32.ofInt 117), .int (Int32.ofInt 116), .int (Int32.ofInt 101), .int (Int32.ofInt 0)]) C0 hU hO sa_Tg hKL (xr_sp8 (l := l)) tv_1451 dX12_wordOf_228 tv_1449 tv_1450 tv_13 yb_X12_spelt (by decide) rfl rfl rfl (by decide) (Nat.le_of_ble_eq_true rfl) (fun r801 m801 w801 => ?_)
      obtain ⟨rfl, w801⟩ := w801
      refine xw_lret C0 hA hr hlk dX12_wordOf_231 ?_
      exact ⟨_, rfl, rfl, w801⟩
    · refine xw_iload_n (pc := 0) C0 0 dX12_wordOf_0 rfl rfl ?_
      refine xw_tabI (pc := 1) (tgt := 232) (off := 231) C0 (by omega) dX12_wordOf_1 (by omega) (by omega) rfl rfl ?_
      refine xw_bipush (pc := 232) C0 dX12_wordOf_232 (by decide) ?_
      refine xw_bipush (pc := 234) C0 dX12_wordOf_234 (by decide) ?_
      refine xw_iconst (pc := 236) C0 dX12_wordOf_236 ?_
      refine xw_iconst (pc := 237) C0 dX12_wordOf_237 ?_
      refine xw_iconst (pc := 238) C0 dX12_wordOf_238 ?_
      refine xw_iconst (pc := 239) C0 dX12_wordOf_239 ?_
      refine xw_iconst (pc := 240) C0 dX12_wordOf_240 ?_
      refine xw_callSL (pc := 241) (μ := μ) (rest := []) (As := [.int (Int32.ofInt 111), .int (Int32.ofInt 114), .int (Int32.ofInt 0), .int (Int32.ofInt 0), .int (Int32.ofInt 0), .int (Int32.ofInt 0), .int (Int32.ofInt 0)]) C0 hU hO sa_Tg hKL (xr_sp9 (l := l)) tv_1451 dX12_wordOf_241 tv_1449 tv_1450 tv_13 yb_X12_spelt (by decide) rfl rfl rfl (by decide) (Nat.le_of_ble_eq_true rfl) (fun r901 m901 w901 => ?_)
      obtain ⟨rfl, w901⟩ := w901
      refine xw_lret C0 hA hr hlk dX12_wordOf_244 ?_
      exact ⟨_, rfl, rfl, w901⟩
    · refine xw_iload_n (pc := 0) C0 0 dX12_wordOf_0 rfl rfl ?_
      refine xw_tabI (pc := 1) (tgt := 245) (off := 244) C0 (by omega) dX12_wordOf_1 (by omega) (by omega) rfl rfl ?_
      refine xw_bipush (pc := 245) C0 dX12_wordOf_245 (by decide) ?_
      refine xw_bipush (pc := 247) C0 dX12_wordOf_247 (by decide) ?_
      refine xw_bipush (pc := 249) C0 dX12_wordOf_249 (by decide) ?_
      refine xw_iconst (pc := 251) C0 dX12_wordOf_251 ?_
      refine xw_iconst (pc := 252) C0 dX12_wordOf_252 ?_
      refine xw_iconst (pc := 253) C0 dX12_wordOf_253 ?_
      refine xw_iconst (pc := 254) C0 dX12_wordOf_254 ?_
      refine xw_callSL (pc := 255) (μ := μ) (rest := []) (As := [.int (Int32.ofInt 97), .int (Int32.ofInt 110), .int (Int32.ofInt 100), .int (Int32.ofInt 0), .int (Int32.ofInt 0), .int (Int32.ofInt 0), .int (Int32.ofInt 0)]) C0 hU hO sa_Tg hKL (xr_sp10 (l := l)) tv_1451 dX12_wordOf_255 tv_1449 tv_1450 tv_13 yb_X12_spelt (by decide) rfl rfl rfl (by decide) (Nat.le_of_ble_eq_true rfl) (fun r1001 m1001 w1001 => ?_)
      obtain ⟨rfl, w1001⟩ := w1001
      refine xw_lret C0 hA hr hlk dX12_wordOf_258 ?_
      exact ⟨_, rfl, rfl, w1001⟩
    · refine xw_iload_n (pc := 0) C0 0 dX12_wordOf_0 rfl rfl ?_
      refine xw_tabI (pc := 1) (tgt := 259) (off := 258) C0 (by omega) dX12_wordOf_1 (by omega) (by omega) rfl rfl ?_
      refine xw_bipush (pc := 259) C0 dX12_wordOf_259 (by decide) ?_
      refine xw_bipush (pc := 261) C0 dX12_wordOf_261 (by decide) ?_
      refine xw_bipush (pc := 263) C0 dX12_wordOf_263 (by decide) ?_
      refine xw_iconst (pc := 265) C0 dX12_wordOf_265 ?_
      refine xw_iconst (pc := 266) C0 dX12_wordOf_266 ?_
      refine xw_iconst (pc := 267) C0 dX12_wordOf_267 ?_
      refine xw_iconst (pc := 268) C0 dX12_wordOf_268 ?_
      refine xw_callSL (pc := 269) (μ := μ) (rest := []) (As := [.int (Int32.ofInt 110), .int (Int32.ofInt 111), .int (Int32.ofInt 116), .int (Int32.ofInt 0), .int (Int32.ofInt 0), .int (Int32.ofInt 0), .int (Int32.ofInt 0)]) C0 hU hO sa_Tg hKL (xr_sp11 (l := l)) tv_1451 dX12_wordOf_269 tv_1449 tv_1450 tv_13 yb_X12_spelt (by decide) rfl rfl rfl (by decide) (Nat.le_of_ble_eq_true rfl) (fun r1101 m1101 w1101 => ?_)
      obtain ⟨rfl, w1101⟩ := w1101
      refine xw_lret C0 hA hr hlk dX12_wordOf_272 ?_
      exact ⟨_, rfl, rfl, w1101⟩
    · refine xw_iload_n (pc := 0) C0 0 dX12_wordOf_0 rfl rfl ?_
      refine xw_tabI (pc := 1) (tgt := 273) (off := 272) C0 (by omega) dX12_wordOf_1 (by omega) (by omega) rfl rfl ?_
      refine xw_bipush (pc := 273) C0 dX12_wordOf_273 (by decide) ?_
      refine xw_bipush (pc := 275) C0 dX12_wordOf_275 (by decide) ?_
      refine xw_bipush (pc := 277) C0 dX12_wordOf_277 (by decide) ?_
      refine xw_bipush (pc := 279) C0 dX12_wordOf_279 (by decide) ?_
      refine xw_bipush (pc := 281) C0 dX12_wordOf_281 (by decide) ?_
      refine xw_iconst (pc := 283) C0 dX12_wordOf_283 ?_
      refine xw_iconst (pc := 284) C0 dX12_wordOf_284 ?_
      refine xw_callSL (pc := 285) (μ := μ) (rest := []) (As := [.int (Int32.ofInt 119), .int (Int32.ofInt 111), .int (Int32.ofInt 114), .int (Int32.ofInt 107), .int (Int32.ofInt 115), .int (Int32.ofInt 0), .int (Int32.ofInt 0)]) C0 hU hO sa_Tg hKL (xr_sp12 (l := l)) tv_1451 dX12_wordOf_285 tv_1449 tv_1450 tv_13 yb_X12_spelt (by decide) rfl rfl rfl (by decide) (Nat.le_of_ble_eq_true rfl) (fun r1201 m1201 w1201 => ?_)
      obtain ⟨rfl, w1201⟩ := w1201
      refine xw_lret C0 hA hr hlk dX12_wordOf_288 ?_
      exact ⟨_, rfl, rfl, w1201⟩
    · refine xw_iload_n (pc := 0) C0 0 dX12_wordOf_0 rfl rfl ?_
      refine xw_tabI (pc := 1) (tgt := 289) (off := 288) C0 (by omega) dX12_wordOf_1 (by omega) (by omega) rfl rfl ?_
      refine xw_bipush (pc := 289) C0 dX12_wordOf_289 (by decide) ?_
      refine xw_bipush (pc := 291) C0 dX12_wordOf_291 (by decide) ?_
      refine xw_iconst (pc := 293) C0 dX12_wordOf_293 ?_
      refine xw_iconst (pc := 294) C0 dX12_wordOf_294 ?_
      refine xw_iconst (pc := 295) C0 dX12_wordOf_295 ?_
      refine xw_iconst (pc := 296) C0 dX12_wordOf_296 ?_
      refine xw_iconst (pc := 297) C0 dX12_wordOf_297 ?_
      refine xw_callSL (pc := 298) (μ := μ) (rest := []) (As := [.int (Int32.ofInt 117), .int (Int32.ofInt 112), .int (Int32.ofInt 0), .int (Int32.ofInt 0), .int (Int32.ofInt 0), .int (Int32.ofInt 0), .int (Int32.ofInt 0)]) C0 hU hO sa_Tg hKL (xr_sp13 (l := l)) tv_1451 dX12_wordOf_298 tv_1449 tv_1450 tv_13 yb_X12_spelt (by decide) rfl rfl rfl (by decide) (Nat.le_of_ble_eq_true rfl) (fun r1301 m1301 w1301 => ?_)
      obtain ⟨rfl, w1301⟩ := w1301
      refine xw_lret C0 hA hr hlk dX12_wordOf_301 ?_
      exact ⟨_, rfl, rfl, w1301⟩
    · refine xw_iload_n (pc := 0) C0 0 dX12_wordOf_0 rfl rfl ?_
      refine xw_tabI (pc := 1) (tgt := 302) (off := 301) C0 (by omega) dX12_wordOf_1 (by omega) (by omega) rfl rfl ?_
      refine xw_bipush (pc := 302) C0 dX12_wordOf_302 (by decide) ?_
      refine xw_bipush (pc := 304) C0 dX12_wordOf_304 (by decide) ?_
      refine xw_bipush (pc := 306) C0 dX12_wordOf_306 (by decide) ?_
      refine xw_bipush (pc := 308) C0 dX12_wordOf_308 (by decide) ?_
      refine xw_bipush (pc := 310) C0 dX12_wordOf_310 (by decide) ?_
      refine xw_iconst (pc := 312) C0 dX12_wordOf_312 ?_
      refine xw_iconst (pc := 313) C0 dX12_wordOf_313 ?_
      refine xw_callSL (pc := 314) (μ := μ) (rest := []) (As := [.int (Int32.ofInt 98), .int (Int32.ofInt 111), .int (Int32.ofInt 111), .int (Int32.ofInt 116), .int (Int32.ofInt 115), .int (Int32.ofInt 0), .int (Int32.ofInt 0)]) C0 hU hO sa_Tg hKL (xr_sp14 (l := l)) tv_1451 dX12_wordOf_314 tv_1449 tv_1450 tv_13 yb_X12_spelt (by decide) rfl rfl rfl (by decide) (Nat.le_of_ble_eq_true rfl) (fun r1401 m1401 w1401 => ?_)
      obtain ⟨rfl, w1401⟩ := w1401
      refine xw_lret C0 hA hr hlk dX12_wordOf_317 ?_
      exact ⟨_, rfl, rfl, w1401⟩
    · refine xw_iload_n (pc := 0) C0 0 dX12_wordOf_0 rfl rfl ?_
      refine xw_tabI (pc := 1) (tgt := 318) (off := 317) C0 (by omega) dX12_wordOf_1 (by omega) (by omega) rfl rfl ?_
      refine xw_bipush (pc := 318) C0 dX12_wordOf_318 (by decide) ?_
      refine xw_bipush (pc := 320) C0 dX12_wordOf_320 (by decide) ?_
      refine xw_bipush (pc := 322) C0 dX12_wordOf_322 (by decide) ?_
      refine xw_iconst (pc := 324) C0 dX12_wordOf_324 ?_
      refine xw_iconst (pc := 325) C0 dX12_wordOf_325 ?_
      refine xw_iconst (pc := 326) C0 dX12_wordOf_326 ?_
      refine xw_iconst (pc := 327) C0 dX12_wordOf_327 ?_
      refine xw_callSL (pc := 328) (μ := μ) (rest := []) (As := [.int (Int32.ofInt 104), .int (Int32.ofInt 97), .int (Int32.ofInt 115), .int (Int32.ofInt 0), .int (Int32.ofInt 0), .int (Int32.ofInt 0), .int (Int32.ofInt 0)]) C0 hU hO sa_Tg hKL (xr_sp15 (l := l)) tv_1451 dX12_wordOf_328 tv_1449 tv_1450 tv_13 yb_X12_spelt (by decide) rfl rfl rfl (by decide) (Nat.le_of_ble_eq_true rfl) (fun r1501 m1501 w1501 => ?_)
      obtain ⟨rfl, w1501⟩ := w1501
      refine xw_lret C0 hA hr hlk dX12_wordOf_331 ?_
      exact ⟨_, rfl, rfl, w1501⟩
    · refine xw_iload_n (pc := 0) C0 0 dX12_wordOf_0 rfl rfl ?_
      refine xw_tabI (pc := 1) (tgt := 332) (off := 331) C0 (by omega) dX12_wordOf_1 (by omega) (by omega) rfl rfl ?_
      refine xw_bipush (pc := 332) C0 dX12_wordOf_332 (by decide) ?_
      refine xw_bipush (pc := 334) C0 dX12_wordOf_334 (by decide) ?_
      refine xw_bipush (pc := 336) C0 dX12_wordOf_336 (by decide) ?_
      refine xw_bipush (pc := 338) C0 dX12_wordOf_338 (by decide) ?_
      refine xw_bipush (pc := 340) C0 dX12_wordOf_340 (by decide) ?_
      refine xw_bipush (pc := 342) C0 dX12_wordOf_342 (by decide) ?_
      refine xw_iconst (pc := 344) C0 dX12_wordOf_344 ?_
      refine xw_callSL (pc := 345) (μ := μ) (rest := []) (As := [.int (Int32.ofInt 98), .int (Int32.ofInt 101), .int (Int32.ofInt 104), .int (Int32.ofInt 105), .int (Int32.ofInt 110), .int (Int32.ofInt 100), .int (Int32.ofInt 0)]) C0 hU hO sa_Tg hKL (xr_sp16 (l := l)) tv_1451 dX12_wordOf_345 tv_1449 tv_1450 tv_13 yb_X12_spelt (by decide) rfl rfl rfl (by decide) (Nat.le_of_ble_eq_true rfl) (fun r1601 m1601 w1601 => ?_)
      obtain ⟨rfl, w1601⟩ := w1601
      refine xw_lret C0 hA hr hlk dX12_wordOf_348 ?_
      exact ⟨_, rfl, rfl, w1601⟩
    · refine xw_iload_n (pc := 0) C0 0 dX12_wordOf_0 rfl rfl ?_
      refine xw_tabI (pc := 1) (tgt := 349) (off := 348) C0 (by omega) dX12_wordOf_1 (by omega) (by omega) rfl rfl ?_
      refine xw_bipush (pc := 349) C0 dX12_wordOf_349 (by decide) ?_
      refine xw_bipush (pc := 351) C0 dX12_wordOf_351 (by decide) ?_
      refine xw_bipush (pc := 353) C0 dX12_wordOf_353 (by decide) ?_
      refine xw_bipush (pc := 355) C0 dX12_wordOf_355 (by decide) ?_
      refine xw_iconst (pc := 357) C0 dX12_wordOf_357 ?_
      refine xw_iconst (pc := 358) C0 dX12_wordOf_358 ?_
      refine xw_iconst (pc := 359) C0 dX12_wordOf_359 ?_
      refine xw_callSL (pc := 360) (μ := μ) (rest := []) (As := [.int (Int32.ofInt 108), .int (Int32.ofInt 97), .int (Int32.ofInt 109), .int (Int32.ofInt 112), .int (Int32.ofInt 0), .int (Int32.ofInt 0), .int (Int32.ofInt 0)]) C0 hU hO sa_Tg hKL (xr_sp17 (l := l)) tv_1451 dX12_wordOf_360 tv_1449 tv_1450 tv_13 yb_X12_spelt (by decide) rfl rfl rfl (by decide) (Nat.le_of_ble_eq_true rfl) (fun r1701 m1701 w1701 => ?_)
      obtain ⟨rfl, w1701⟩ := w1701
      refine xw_lret C0 hA hr hlk dX12_wordOf_363 ?_
      exact ⟨_, rfl, rfl, w1701⟩
    · refine xw_iload_n (pc := 0) C0 0 dX12_wordOf_0 rfl rfl ?_
      refine xw_tabI (pc := 1) (tgt := 364) (off := 363) C0 (by omega) dX12_wordOf_1 (by omega) (by omega) rfl rfl ?_
      refine xw_bipush (pc := 364) C0 dX12_wordOf_364 (by decide) ?_
      refine xw_bipush (pc := 366) C0 dX12_wordOf_366 (by decide) ?_
      refine xw_bipush (pc := 368) C0 dX12_wordOf_368 (by decide) ?_
      refine xw_bipush (pc := 370) C0 dX12_wordOf_370 (by decide) ?_
      refine xw_iconst (pc := 372) C0 dX12_wordOf_372 ?_
      refine xw_iconst (pc := 373) C0 dX12_wordOf_373 ?_
      refine xw_iconst (pc := 374) C0 dX12_wordOf_374 ?_
      refine xw_callSL (pc := 375) (μ := μ) (rest := []) (As := [.int (Int32.ofInt 100), .int (Int32.ofInt 111), .int (Int32.ofInt 119), .int (Int32.ofInt 110), .int (Int32.ofInt 0), .int (Int32.ofInt 0), .int (Int32.ofInt 0)]) C0 hU hO sa_Tg hKL (xr_sp18 (l := l)) tv_1451 dX12_wordOf_375 tv_1449 tv_1450 tv_13 yb_X12_spelt (by decide) rfl rfl rfl (by decide) (Nat.le_of_ble_eq_true rfl) (fun r1801 m1801 w1801 => ?_)
      obtain ⟨rfl, w1801⟩ := w1801
      refine xw_lret C0 hA hr hlk dX12_wordOf_378 ?_
      exact ⟨_, rfl, rfl, w1801⟩
    · refine xw_iload_n (pc := 0) C0 0 dX12_wordOf_0 rfl rfl ?_
      refine xw_tabO (pc := 1) (tgt := 379) C0 (by omega) dX12_wordOf_1 (by omega) rfl ?_
      refine xw_bipush (pc := 379) C0 dX12_wordOf_379 (by decide) ?_
      refine xw_bipush (pc := 381) C0 dX12_wordOf_381 (by decide) ?_
      refine xw_bipush (pc := 383) C0 dX12_wordOf_383 (by decide) ?_
      refine xw_bipush (pc := 385) C0 dX12_wordOf_385 (by decide) ?_
      refine xw_bipush (pc := 387) C0 dX12_wordOf_387 (by decide) ?_
      refine xw_bipush (pc := 389) C0 dX12_wordOf_389 (by decide) ?_
      refine xw_iconst (pc := 391) C0 dX12_wordOf_391 ?_
      refine xw_callSL (pc := 392) (μ := μ) (rest := []) (As := [.int (Int32.ofInt 110), .int (Int32.ofInt 117), .int (Int32.ofInt 109), .int (Int32.ofInt 98), .int (Int32.ofInt 101), .int (Int32.ofInt 114), .int (Int32.ofInt 0)]) C0 hU hO sa_Tg hKL (xr_sp19 (l := l)) tv_1451 dX12_wordOf_392 tv_1449 tv_1450 tv_13 yb_X12_spelt (by decide) rfl rfl rfl (by decide) (Nat.le_of_ble_eq_true rfl) (fun r1901 m1901 w1901 => ?_)
      obtain ⟨rfl, w1901⟩ := w1901
      refine xw_lret C0 hA hr hlk dX12_wordOf_395 ?_
      exact ⟨_, rfl, rfl, w1901⟩)
set_option maxRecDepth 20000 in
set_option maxHeartbeats 20000000 in
theorem xr_isWord {l : Launch} {t : Nat → Int} {n lim pz : Nat} {μ : xw_M} {c9 : Nat} (hS : hr_S t n lim μ) (hT : hr_T t n lim pz μ) (hc : c9 < 20) : xw_MetI l vwCl sa_Ts tb_KT0 tc_KL yX12_isWord cX12_isWord 2 (some .boolean) 4 168 (fun ad => [.ref (ad 200), .int (Int32.ofInt (c9 : Int))]) μ (fun r μ' => μ = μ' ∧ (((hp_k t n lim pz = 2 ∧ hp_kw (hp_w t n pz) = hp_pm c9) ∧ r = 1) ∨ (¬ (hp_k t n lim pz = 2 ∧ hp_kw (hp_w t n pz) = hp_pm c9) ∧ r = 0))) :=
  xw_of (by decide) (fun _ => Nat.le_of_ble_eq_true rfl) (fun p e s m args below meth c D dA A al w0 sz C0 hU hO hKL hr hlk hA => by
    have n_μ := hS.2.2.1
    have l_μ := hS.2.2.2.1
    have b_μ := hS.2.2.2.2
    obtain ⟨hp9, c2, c3, c4, c5, c6, c7⟩ := id hT
    have hpl := hp_plb (t := t) (lim := lim) hp9
    have hkb := hp_kb t n lim pz
    refine xw_aload_n (pc := 0) C0 0 dX12_isWord_0 rfl rfl ?_
    refine xw_getI (pc := 1) (f := 7) (z := μ 200 7) C0 kcX12 dX12_isWord_1 (by decide) tv_1268 (xj_200 hKL) xk_0 rfl (rfl) (fun g1 k1 => ?_)
    refine xw_iconst (pc := 4) C0 dX12_isWord_4 ?_
    refine xw_icmp_ne (pc := 5) (tgt := 24) C0 (by omega) (by omega) dX12_isWord_5 rfl (fun b2 => ?_) (fun b2 => ?_)
    · refine xw_iconst (pc := 24) C0 dX12_isWord_24 ?_
      refine xw_iret C0 hA hr hlk rfl dX12_isWord_25 ?_
      have hp9i := hp_pmi (v := hp_w t n pz) hc
      exact ⟨_, rfl, rfl, Or.inr ⟨by omega, rfl⟩⟩
    · have hw9 := c4 (by omega)
      refine xw_aload_n (pc := 8) C0 0 dX12_isWord_8 rfl rfl ?_
      refine xw_getL (pc := 9) (f := 12) (z := μ 200 12) C0 kcX12 dX12_isWord_9 (by decide) tv_1273 (xj_200 hKL) xk_0 rfl (rfl) (fun g3 k3 => ?_)
      refine xw_iload_n (pc := 12) C0 1 dX12_isWord_12 rfl rfl ?_
      refine xw_callSL (pc := 13) (μ := μ) (rest := [.long (Int64.ofInt (μ 200 12))]) (As := [.int (Int32.ofInt (c9 : Int))]) C0 hU hO sa_Tg hKL (xr_wordOf (l := l) (c9 := c9) (by omega)) tv_1448 dX12_isWord_13 tv_1446 tv_1447 tv_13 yb_X12_wordOf (by decide) rfl rfl rfl (by decide) (Nat.le_of_ble_eq_true rfl) (fun r4 m4 w4 => ?_)
      obtain ⟨rfl, w4⟩ := w4
      subst w4
      have u4 := hp_woB ⟨c9, by omega⟩
      have u4 : 0 ≤ hp_wo c9 ∧ hp_wo c9 ≤ 10460353203 := u4
      refine xw_lcmp (pc := 16) C0 (by omega) (by omega) dX12_isWord_16 (fun r5 g5 k5 c5 => ?_)
      refine xw_if_ne (pc := 17) (tgt := 24) C0 (by omega) dX12_isWord_17 rfl (fun b6 => ?_) (fun b6 => ?_)
      · refine xw_iconst (pc := 24) C0 dX12_isWord_24 ?_
        refine xw_iret C0 hA hr hlk rfl dX12_isWord_25 ?_
        have hp9i := hp_pmi (v := hp_w t n pz) hc
        exact ⟨_, rfl, rfl, Or.inr ⟨by omega, rfl⟩⟩
      · refine xw_iconst (pc := 20) C0 dX12_isWord_20 ?_
        refine xw_goto (pc := 21) (tgt := 25) C0 dX12_isWord_21 rfl ?_
        refine xw_iret C0 hA hr hlk rfl dX12_isWord_25 ?_
        have hp9i := hp_pmi (v := hp_w t n pz) hc
        exact ⟨_, rfl, rfl, Or.inl ⟨by omega, rfl⟩⟩)
set_option maxRecDepth 20000 in
set_option maxHeartbeats 20000000 in
theorem xr_inL {l : Launch} {p : Program} {e : Env} {s : State} {m : MethodId} {args : Array Value} {below : List Frame} {meth : Method} {c : Code} {Q : State → Prop} {D : va_G} {dA : Nat → ClassId} {A : Nat → Prop} {al : List (Nat × Nat)} (C0 : sa_C p s m args c D dA A 2 vwCl sa_Ts cX12_isName yX12_isName.cls) (hU : sa_U D vwCl dA s) (hO : tb_Ou A s s.heap) (hKL : al.map Prod.snd = tc_KL) {t : Nat → Int} {n lim pz : Nat} {μ : xw_M} (hS : hr_S t n lim μ) (hT : hr_T t n lim pz μ) (hk2 : hp_k t n lim pz = 2) (kx : hp_kw (hp_w t n pz) = -1 → xw_W p l e { frames := 4, cells := 0, slots := 0, locals := 168 } s m args below meth c Q D dA A 2 vwCl tb_KT0 al 0 0 μ 38 [(0, .ref (xw_ad al 200))] []) (kw : ¬ hp_kw (hp_w t n pz) = -1 → xw_W p l e { frames := 4, cells := 0, slots := 0, locals := 168 } s m args below meth c Q D dA A 2 vwCl tb_KT0 al 0 0 μ 30 [(0, .ref (xw_ad al 200))] []) : ∀ (fu9 : Nat) (k : Nat), 20 - (k : Int) < (fu9 : Int) → k ≤ 20 → (∀ c8 : Nat, c8 < k → ¬ hp_w t n pz = hp_wo c8) → xw_W p l e { frames := 4, cells := 0, slots := 0, locals := 168 } s m args below meth c Q D dA A 2 vwCl tb_KT0 al 0 0 μ 12 [(1, .int (Int32.ofInt (k : Int))), (0, .ref (xw_ad al 200))] [] := by
  intro fu9
  induction fu9 with
  | zero => intro k hm hk hq; exfalso; omega
  | succ fu9 ih =>
    intro k hm hk hq
    have n_μ := hS.2.2.1
    have l_μ := hS.2.2.2.1
    have b_μ := hS.2.2.2.2
    obtain ⟨hp9, c2, c3, c4, c5, c6, c7⟩ := id hT
    have hpl := hp_plb (t := t) (lim := lim) hp9
    have hkb := hp_kb t n lim pz
    have hw9 := c4 hk2
    refine xw_iload_n (pc := 12) C0 0 dX12_isName_12 rfl rfl ?_
    refine xw_bipush (pc := 13) C0 dX12_isName_13 (by decide) ?_
    refine xw_icmp_gt (pc := 15) (tgt := 38) C0 (by omega) (by omega) dX12_isName_15 rfl (fun b1 => ?_) (fun b1 => ?_)
    · refine xw_pk [1] (L' := [(0, .ref (xw_ad al 200))]) rfl ?_
      exact kx (hp_pmn (fun c8 hc8 => hq c8 (by omega)))
    · refine xw_aload_n (pc := 18) C0 1 dX12_isName_18 rfl rfl ?_
      refine xw_getL (pc := 19) (f := 12) (z := μ 200 12) C0 kcX12 dX12_isName_19 (by decide) tv_1273 (xj_200 hKL) xk_0 rfl (rfl) (fun g2 k2 => ?_)
      refine xw_iload_n (pc := 22) C0 0 dX12_isName_22 rfl rfl ?_
      refine xw_callSL (pc := 23) (μ := μ) (rest := [.long (Int64.ofInt (μ 200 12))]) (As := [.int (Int32.ofInt (k : Int))]) C0 hU hO sa_Tg hKL (xr_wordOf (l := l) (c9 := k) (by omega)) tv_1448 dX12_isName_23 tv_1446 tv_1447 tv_13 yb_X12_wordOf (by decide) rfl rfl rfl (by decide) (Nat.le_of_ble_eq_true rfl) (fun r3 m3 w3 => ?_)
      obtain ⟨rfl, w3⟩ := w3
      subst w3
      have u3 := hp_woB ⟨k, by omega⟩
      have u3 : 0 ≤ hp_wo k ∧ hp_wo k ≤ 10460353203 := u3
      refine xw_lcmp (pc := 26) C0 (by omega) (by omega) dX12_isName_26 (fun r4 g4 k4 c4 => ?_)
      refine xw_if_ne (pc := 27) (tgt := 32) C0 (by omega) dX12_isName_27 rfl (fun b5 => ?_) (fun b5 => ?_)
      · refine xw_iinc (pc := 32) (L' := [(1, .int (Int32.ofInt ((k : Int) + 1))), (0, .ref (xw_ad al 200))]) C0 0 dX12_isName_32 rfl (by decide) rfl ?_
        refine xw_goto (pc := 35) (tgt := 12) C0 dX12_isName_35 rfl ?_
        have e1 : (k : Int) + 1 = ((k + 1 : Nat) : Int) := by omega
        rw [e1]
        refine xw_pk [0, 1] (L' := [(1, .int (Int32.ofInt ((k + 1 : Nat) : Int))), (0, .ref (xw_ad al 200))]) rfl ?_
        refine ih (k + 1) (by omega) (by omega) (fun c8 hc8 => ?_)
        by_cases e8 : c8 = k
        · subst e8; omega
        · exact hq c8 (by omega)
      · refine xw_pk [1] (L' := [(0, .ref (xw_ad al 200))]) rfl ?_
        have e9 := (hp_pmi (v := hp_w t n pz) (c := k) (by omega)).mp (by omega)
        have e8 := hp_pmA ⟨k, by omega⟩
        obtain ⟨d9, e7, -⟩ := e8
        have e7 : hp_pm k = ((d9 : Nat) : Int) := e7
        exact kw (by omega)
set_option maxRecDepth 20000 in
set_option maxHeartbeats 20000000 in
theorem xr_isName {l : Launch} {t : Nat → Int} {n lim pz : Nat} {μ : xw_M} (hS : hr_S t n lim μ) (hT : hr_T t n lim pz μ) : xw_MetI l vwCl sa_Ts tb_KT0 tc_KL yX12_isName cX12_isName 2 (some .boolean) 4 168 (fun ad => [.ref (ad 200)]) μ (fun r μ' => μ = μ' ∧ (((hp_k t n lim pz = 2 ∧ hp_kw (hp_w t n pz) = -1) ∧ r = 1) ∨ (¬ (hp_k t n lim pz = 2 ∧ hp_kw (hp_w t n pz) = -1) ∧ r = 0))) :=
  xw_of (by decide) (fun _ => Nat.le_of_ble_eq_true rfl) (fun p e s m args below meth c D dA A al w0 sz C0 hU hO hKL hr hlk hA => by
    have n_μ := hS.2.2.1
    have l_μ := hS.2.2.2.1
    have b_μ := hS.2.2.2.2
    obtain ⟨hp9, c2, c3, c4, c5, c6, c7⟩ := id hT
    have hpl := hp_plb (t := t) (lim := lim) hp9
    have hkb := hp_kb t n lim pz
    refine xw_aload_n (pc := 0) C0 0 dX12_isName_0 rfl rfl ?_
    refine xw_getI (pc := 1) (f := 7) (z := μ 200 7) C0 kcX12 dX12_isName_1 (by decide) tv_1268 (xj_200 hKL) xk_0 rfl (rfl) (fun g1 k1 => ?_)
    refine xw_iconst (pc := 4) C0 dX12_isName_4 ?_
    refine xw_icmp_eq (pc := 5) (tgt := 10) C0 (by omega) (by omega) dX12_isName_5 rfl (fun b2 => ?_) (fun b2 => ?_)
    · refine xw_iconst (pc := 10) C0 dX12_isName_10 ?_
      refine xw_istore_n (pc := 11) (L' := [(1, .int (Int32.ofInt 0)), (0, .ref (xw_ad al 200))]) C0 dX12_isName_11 rfl (by decide) rfl ?_
      refine xw_pk [0, 1] (L' := [(1, .int (Int32.ofInt ((0 : Nat) : Int))), (0, .ref (xw_ad al 200))]) rfl ?_
      refine xr_inL C0 hU hO hKL hS hT (by omega) (fun q9 => ?_) (fun q9 => ?_) 21 0 (by omega) (by omega) (fun c8 hc8 => absurd hc8 (Nat.not_lt_zero _))
      · refine xw_iconst (pc := 38) C0 dX12_isName_38 ?_
        refine xw_iret C0 hA hr hlk rfl dX12_isName_39 ?_
        exact ⟨_, rfl, rfl, Or.inl ⟨⟨by omega, q9⟩, rfl⟩⟩
      · refine xw_iconst (pc := 30) C0 dX12_isName_30 ?_
        refine xw_iret C0 hA hr hlk rfl dX12_isName_31 ?_
        exact ⟨_, rfl, rfl, Or.inr ⟨fun z => q9 z.2, rfl⟩⟩
    · refine xw_iconst (pc := 8) C0 dX12_isName_8 ?_
      refine xw_iret C0 hA hr hlk rfl dX12_isName_9 ?_
      exact ⟨_, rfl, rfl, Or.inr ⟨by omega, rfl⟩⟩)
set_option maxRecDepth 20000 in
set_option maxHeartbeats 20000000 in
theorem xr_bad {l : Launch} {t : Nat → Int} {n lim pz : Nat} {μ : xw_M} {v : Int} (hS : hr_S t n lim μ) (hT : hr_T t n lim pz μ) (hv : 1 ≤ v ∧ v ≤ 4) (hv1 : hp_k t n lim pz = 1 → v = 1) : xw_MetI l vwCl sa_Ts tb_KT0 tc_KL yX12_bad cX12_bad 2 (some .boolean) 2 120 (fun ad => [.ref (ad 200), .int (Int32.ofInt v)]) μ (fun r μ' => r = 0 ∧ hr_W (hp_bad t n lim v pz) μ' ∧ xw_F [(200, 10, 11)] μ μ') :=
  xw_of (by decide) (fun _ => Nat.le_of_ble_eq_true rfl) (fun p e s m args below meth c D dA A al w0 sz C0 hU hO hKL hr hlk hA => by
    have n_μ := hS.2.2.1
    have l_μ := hS.2.2.2.1
    have b_μ := hS.2.2.2.2
    obtain ⟨hp9, c2, c3, c4, c5, c6, c7⟩ := id hT
    have hpl := hp_plb (t := t) (lim := lim) hp9
    have hkb := hp_kb t n lim pz
    refine xw_aload_n (pc := 0) C0 0 dX12_bad_0 rfl rfl ?_
    refine xw_aload_n (pc := 1) C0 0 dX12_bad_1 rfl rfl ?_
    refine xw_getI (pc := 2) (f := 7) (z := μ 200 7) C0 kcX12 dX12_bad_2 (by decide) tv_1268 (xj_200 hKL) xk_0 rfl (rfl) (fun g1 k1 => ?_)
    refine xw_iconst (pc := 5) C0 dX12_bad_5 ?_
    refine xw_icmp_ne (pc := 6) (tgt := 13) C0 (by omega) (by omega) dX12_bad_6 rfl (fun b2 => ?_) (fun b2 => ?_)
    · refine xw_iload_n (pc := 13) C0 1 dX12_bad_13 rfl rfl ?_
      refine xw_putI (pc := 14) (f := 10) C0 kcX12 dX12_bad_14 (by decide) tv_1271 rfl rfl (xj_200 hKL) xk_0 rfl (by omega) (by omega) ?_
      refine xw_aload_n (pc := 17) C0 0 dX12_bad_17 rfl rfl ?_
      refine xw_aload_n (pc := 18) C0 0 dX12_bad_18 rfl rfl ?_
      refine xw_getI (pc := 19) (f := 6) (z := μ 200 6) C0 kcX12 dX12_bad_19 (by decide) tv_1267 (xj_200 hKL) xk_0 rfl ((xw_un (by decide)).trans rfl) (fun g3 k3 => ?_)
      refine xw_putI (pc := 22) (f := 11) C0 kcX12 dX12_bad_22 (by decide) tv_1272 rfl rfl (xj_200 hKL) xk_0 rfl (by omega) (by omega) ?_
      refine xw_iconst (pc := 25) C0 dX12_bad_25 ?_
      refine xw_iret C0 hA hr hlk rfl dX12_bad_26 ?_
      have Ft1 : xw_F [(200, 10, 10), (200, 11, 11)] μ (xw_u (xw_u μ 200 10 v) 200 11 (μ 200 6)) := (((xw_F.rf (ML := [(200, 10, 10), (200, 11, 11)])).u (show (200, 10, 10) ∈ _ by decide) ⟨by decide, by decide⟩).u (show (200, 11, 11) ∈ _ by decide) ⟨by decide, by decide⟩)
      have vt1_200_11 : (xw_u (xw_u μ 200 10 v) 200 11 (μ 200 6)) 200 11 = μ 200 6 := xw_ug
      have vt1_200_10 : (xw_u (xw_u μ 200 10 v) 200 11 (μ 200 6)) 200 10 = v := (xw_un (by decide)).trans xw_ug
      generalize (xw_u (xw_u μ 200 10 v) 200 11 (μ 200 6)) = t1 at Ft1 vt1_200_11 vt1_200_10 ⊢
      exact ⟨_, rfl, rfl, ⟨by show _ = v; omega, by show _ = ((hp_pl t n lim pz : Nat) : Int); omega⟩, ((xw_F.rf (ML := [(200, 10, 11)])).tr Ft1 (fun j i h => xw_o_sub (by decide) j i h))⟩
    · refine xw_iconst (pc := 9) C0 dX12_bad_9 ?_
      refine xw_goto (pc := 10) (tgt := 14) C0 dX12_bad_10 rfl ?_
      refine xw_putI (pc := 14) (f := 10) C0 kcX12 dX12_bad_14 (by decide) tv_1271 rfl rfl (xj_200 hKL) xk_0 rfl (by omega) (by omega) ?_
      refine xw_aload_n (pc := 17) C0 0 dX12_bad_17 rfl rfl ?_
      refine xw_aload_n (pc := 18) C0 0 dX12_bad_18 rfl rfl ?_
      refine xw_getI (pc := 19) (f := 6) (z := μ 200 6) C0 kcX12 dX12_bad_19 (by decide) tv_1267 (xj_200 hKL) xk_0 rfl ((xw_un (by decide)).trans rfl) (fun g4 k4 => ?_)
      refine xw_putI (pc := 22) (f := 11) C0 kcX12 dX12_bad_22 (by decide) tv_1272 rfl rfl (xj_200 hKL) xk_0 rfl (by omega) (by omega) ?_
      refine xw_iconst (pc := 25) C0 dX12_bad_25 ?_
      refine xw_iret C0 hA hr hlk rfl dX12_bad_26 ?_
      have Ft2 : xw_F [(200, 10, 10), (200, 11, 11)] μ (xw_u (xw_u μ 200 10 1) 200 11 (μ 200 6)) := (((xw_F.rf (ML := [(200, 10, 10), (200, 11, 11)])).u (show (200, 10, 10) ∈ _ by decide) ⟨by decide, by decide⟩).u (show (200, 11, 11) ∈ _ by decide) ⟨by decide, by decide⟩)
      have vt2_200_11 : (xw_u (xw_u μ 200 10 1) 200 11 (μ 200 6)) 200 11 = μ 200 6 := xw_ug
      have vt2_200_10 : (xw_u (xw_u μ 200 10 1) 200 11 (μ 200 6)) 200 10 = 1 := (xw_un (by decide)).trans xw_ug
      generalize (xw_u (xw_u μ 200 10 1) 200 11 (μ 200 6)) = t2 at Ft2 vt2_200_11 vt2_200_10 ⊢
      exact ⟨_, rfl, rfl, ⟨by show _ = v; omega, by show _ = ((hp_pl t n lim pz : Nat) : Int); omega⟩, ((xw_F.rf (ML := [(200, 10, 11)])).tr Ft2 (fun j i h => xw_o_sub (by decide) j i h))⟩)
