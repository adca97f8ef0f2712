set_option maxRecDepth 20000 in
set_option maxHeartbeats 1000000 in
theorem xm_Lh {l : Launch} (hl : l.stackTraces = false) {μ : xw_M} (hG : xw_G xw_GL μ) : xw_MetH l tb_KT0 tc_KL yL_helped cL_helped 3 (some .int) [(0, 8, 11, 13)] 7 260 (fun ad => [.ref (ad 0), .ref (ad 219)]) μ (fun r μ' => (hs_acc (fun i => μ 2 i % 256) (μ 1 1) ∧ r = 0 ∧ xw_u (xw_u (xw_u μ 0 14 (hs_R (fun i => μ 2 i % 256) (μ 1 1))) 1 1 0) 219 0 (hs_Fw (fun i => μ 2 i % 256) (μ 1 1)) = μ') ∨ (¬ hs_acc (fun i => μ 2 i % 256) (μ 1 1) ∧ r = 1 ∧ xw_u μ 1 1 0 = μ')) :=
  xw_ofH (by decide) (fun _ => Nat.le_of_ble_eq_true rfl) (fun p e s m args below meth c D dA A al w0 sz C0 hU hO hKL htab hr hlk hA => by
    refine xw_aload_n C0 1 dL_helped_0 rfl rfl ?_
    refine xw_iconst C0 dL_helped_1 ?_
    refine xw_aload_n C0 0 dL_helped_2 rfl rfl ?_
    refine xw_callX (ci := 11) (rest := [.int (Int32.ofInt 0), .ref (xw_ad al 219)]) (As := []) C0 hU hO hKL (xm_help hl hG) tv_1242 dL_helped_3 tv_1239 tv_1240 tv_1241 tv_1 rfl yb_X11_helped (by decide) rfl rfl rfl (by decide) (Nat.le_of_ble_eq_true rfl) (xj_0 hKL) xk_27 htab (by decide) (by decide) tv_1118 rfl (fun r m1 w1 => ?_) (fun q m1 w1 => ?_)
    · obtain ⟨a1, rfl, a3⟩ := w1
      have hb9 := hs_Fwb a1
      refine xw_i2l (pc := 6) C0 (by omega) dL_helped_6 ?_
      refine xw_last (pc := 7) C0 dL_helped_7 (xj_219 hKL) xk_87 (by omega) (by decide) (xw_rl (by omega)) (by omega) (by omega) ?_
      refine xw_goto (pc := 8) (tgt := 14) C0 dL_helped_8 rfl ?_
      refine xw_iconst (pc := 14) C0 dL_helped_14 ?_
      refine xw_iretH C0 hA hr hlk rfl dL_helped_15 ?_
      refine ⟨_, rfl, Or.inl ⟨a1, rfl, ?_⟩⟩
      rw [a3]
      rfl
    · skip
      refine xw_astore_n (pc := 11) (L' := [(2, .ref q), (0, .ref (xw_ad al 0)), (1, .ref (xw_ad al 219))]) C0 dL_helped_11 rfl (by decide) rfl ?_
      refine xw_iconst (pc := 12) C0 dL_helped_12 ?_
      refine xw_iretH C0 hA hr hlk rfl dL_helped_13 ?_
      exact ⟨_, rfl, Or.inr ⟨w1.1, rfl, w1.2⟩⟩)
theorem xl_hpre {μ m1 : xw_M} {r1 : Int} (hΦ : xl_Φ0 μ) (hs : 0 ≤ μ 1 1 ∧ μ 1 1 ≤ 940) (w1 : ((hs_acc (fun i => μ 2 i % 256) (μ 1 1) ∧ r1 = 0 ∧ xw_u (xw_u (xw_u μ 0 14 (hs_R (fun i => μ 2 i % 256) (μ 1 1))) 1 1 0) 219 0 (hs_Fw (fun i => μ 2 i % 256) (μ 1 1)) = m1) ∨ (¬ hs_acc (fun i => μ 2 i % 256) (μ 1 1) ∧ r1 = 1 ∧ xw_u μ 1 1 0 = m1))) : xw_G xw_GL m1 ∧ (∀ i : Nat, 0 ≤ m1 201 i ∧ m1 201 i ≤ 255) ∧ (0 ≤ m1 200 2 ∧ m1 200 2 ≤ 940) := by
  obtain ⟨hG, hT, e1, e2⟩ := hΦ
  have F1 : xw_F [(0, 14, 14), (1, 1, 1), (219, 0, 0)] μ m1 := by
    have kk : ∀ x : Nat, x ≤ x ∧ x ≤ x := fun x => ⟨Nat.le_refl _, Nat.le_refl _⟩
    rcases w1 with ⟨-, -, w⟩ | ⟨-, -, w⟩
    · rw [← w]
      exact ((xw_F.rf.u (show (0, 14, 14) ∈ _ from by decide) (kk _)).u (show (1, 1, 1) ∈ _ from by decide) (kk _)).u (show (219, 0, 0) ∈ _ from by decide) (kk _)
    · rw [← w]
      exact xw_F.rf.u (show (1, 1, 1) ∈ _ from by decide) (kk _)
  refine ⟨xw_GF hG F1 (by decide +kernel), fun i => ?_, ?_⟩
  · have q1 : m1 201 i = μ 201 i := F1 201 i rfl
    have q2 := hT i
    omega
  · have q1 : m1 200 2 = μ 200 2 := F1 200 2 rfl
    omega
set_option maxRecDepth 20000 in
set_option maxHeartbeats 1000000 in
theorem xl_cF {p : Program} {l : Launch} {e : Env} {s : State} {m : MethodId} {below : List Frame} {meth : Method} {c : Code} {D : va_G} {dA : Nat → ClassId} {b L : Nat} {xs : Nat → Int32} {Q : State → Prop} {al : List (Nat × Nat)} {i kc ks : Nat} {μ : xw_M} (hl : l.stackTraces = false) (C0 : sa_C p s m #[Value.ref b] c D dA (fun q : Nat => s.heap.size ≤ q) 7 vwCl sa_Ts code R_law) (hU : sa_U D vwCl dA s) (hO : tb_Ou (fun q : Nat => s.heap.size ≤ q) s s.heap) (hKL : al.map Prod.snd = tc_KL) (hX : va_X b L xs s s.heap) (hbl : b < s.heap.size) (hbA : ¬ (fun q : Nat => s.heap.size ≤ q) b) (hL : L ≤ 3072) (hi : i + 6 ≤ L) (h9 : kc ≤ 2000 ∧ ks ≤ 40000) (hΦ : xl_Φ0 μ) (hs : 0 ≤ μ 1 1 ∧ μ 1 1 ≤ 940) (fin : ∀ μ' : xw_M, xw_F xl_CH μ μ' → ((∀ i : Nat, i < 940 → 0 ≤ μ' 201 i ∧ μ' 201 i ≤ 255) → xl_Φ0 μ') → xw_W p l e room_1 s m #[Value.ref b] below meth c Q D dA (fun q : Nat => s.heap.size ≤ q) 7 vwCl tb_KT0 al kc ks μ' 23 [(0, .ref b), (1, .ref (xw_ad al 0)), (2, .ref (xw_ad al 200)), (3, .ref (xw_ad al 219)), (4, .int (Int32.ofInt ((i + 6 : Nat) : Int)))] []) : xw_W p l e room_1 s m #[Value.ref b] below meth c Q D dA (fun q : Nat => s.heap.size ≤ q) 7 vwCl tb_KT0 al kc ks μ 220 [(0, .ref b), (1, .ref (xw_ad al 0)), (2, .ref (xw_ad al 200)), (3, .ref (xw_ad al 219)), (4, .int (Int32.ofInt (i : Int)))] [] := by
  have hG := hΦ.1
  refine xw_aload_n (pc := 220) C0 1 dL_law_220 rfl rfl ?_
  refine xw_aload_n (pc := 221) C0 0 dL_law_221 rfl rfl ?_
  refine xw_iload (pc := 222) C0 4 dL_law_222 rfl ?_
  refine xw_iconst (pc := 224) C0 dL_law_224 ?_
  refine xw_iadd (pc := 225) C0 dL_law_225 ?_
  refine xw_sld (pc := 226) (i := i) (j := 1) C0 hX hbl hbA (by omega) hL dL_law_226 ?_
  refine xw_aload_n (pc := 227) C0 0 dL_law_227 rfl rfl ?_
  refine xw_iload (pc := 228) C0 4 dL_law_228 rfl ?_
  refine xw_iconst (pc := 230) C0 dL_law_230 ?_
  refine xw_iadd (pc := 231) C0 dL_law_231 ?_
  refine xw_sld (pc := 232) (i := i) (j := 2) C0 hX hbl hbA (by omega) hL dL_law_232 ?_
  refine xw_aload_n (pc := 233) C0 0 dL_law_233 rfl rfl ?_
  refine xw_iload (pc := 234) C0 4 dL_law_234 rfl ?_
  refine xw_iconst (pc := 236) C0 dL_law_236 ?_
  refine xw_iadd (pc := 237) C0 dL_law_237 ?_
  refine xw_sld (pc := 238) (i := i) (j := 3) C0 hX hbl hbA (by omega) hL dL_law_238 ?_
  refine xw_aload_n (pc := 239) C0 0 dL_law_239 rfl rfl ?_
  refine xw_iload (pc := 240) C0 4 dL_law_240 rfl ?_
  refine xw_iconst (pc := 242) C0 dL_law_242 ?_
  refine xw_iadd (pc := 243) C0 dL_law_243 ?_
  refine xw_sld (pc := 244) (i := i) (j := 4) C0 hX hbl hbA (by omega) hL dL_law_244 ?_
  refine xw_aload_n (pc := 245) C0 0 dL_law_245 rfl rfl ?_
  refine xw_iload (pc := 246) C0 4 dL_law_246 rfl ?_
  refine xw_iconst (pc := 248) C0 dL_law_248 ?_
  refine xw_iadd (pc := 249) C0 dL_law_249 ?_
  refine xw_sld (pc := 250) (i := i) (j := 5) C0 hX hbl hbA (by omega) hL dL_law_250 ?_
  refine xw_callVI (pc := 251) (ci := 11) (rest := []) (As := [.int (Int32.ofInt ((xs (i + 1)).toInt)), .int (Int32.ofInt ((xs (i + 2)).toInt)), .int (Int32.ofInt ((xs (i + 3)).toInt)), .int (Int32.ofInt ((xs (i + 4)).toInt)), .int (Int32.ofInt ((xs (i + 5)).toInt))]) C0 hU hO sa_Tg hKL (xm_feedC (l := l) (μ := μ) (a := (xs (i + 1)).toInt) (b := (xs (i + 2)).toInt) (c9 := (xs (i + 3)).toInt) (d := (xs (i + 4)).toInt) (e9 := (xs (i + 5)).toInt) hG) tv_477 dL_law_251 tv_474 tv_475 tv_476 tv_1 rfl yb_X11_feed (by decide) rfl rfl rfl (xl_kc ⟨by omega, by omega⟩) (Nat.le_of_ble_eq_true rfl) (xj_0 hKL) xk_27 (fun r1 m1 w1 => ?_)
  have hG_m1 : xw_G xw_GL m1 := by
    rcases w1 with ⟨-, q, -⟩ | ⟨q1, q2, -⟩
    · rw [q]; exact hG
    · exact xw_GF hG (q2.F hs.1 (by omega)) (by decide +kernel)
  refine xw_pop (pc := 254) C0 dL_law_254 rfl ?_
  refine xw_aload_n (pc := 255) C0 2 dL_law_255 rfl rfl ?_
  refine xw_aload_n (pc := 256) C0 0 dL_law_256 rfl rfl ?_
  refine xw_iload (pc := 257) C0 4 dL_law_257 rfl ?_
  refine xw_iconst (pc := 259) C0 dL_law_259 ?_
  refine xw_iadd (pc := 260) C0 dL_law_260 ?_
  refine xw_sld (pc := 261) (i := i) (j := 1) C0 hX hbl hbA (by omega) hL dL_law_261 ?_
  refine xw_aload_n (pc := 262) C0 0 dL_law_262 rfl rfl ?_
  refine xw_iload (pc := 263) C0 4 dL_law_263 rfl ?_
  refine xw_iconst (pc := 265) C0 dL_law_265 ?_
  refine xw_iadd (pc := 266) C0 dL_law_266 ?_
  refine xw_sld (pc := 267) (i := i) (j := 2) C0 hX hbl hbA (by omega) hL dL_law_267 ?_
  refine xw_aload_n (pc := 268) C0 0 dL_law_268 rfl rfl ?_
  refine xw_iload (pc := 269) C0 4 dL_law_269 rfl ?_
  refine xw_iconst (pc := 271) C0 dL_law_271 ?_
  refine xw_iadd (pc := 272) C0 dL_law_272 ?_
  refine xw_sld (pc := 273) (i := i) (j := 3) C0 hX hbl hbA (by omega) hL dL_law_273 ?_
  refine xw_aload_n (pc := 274) C0 0 dL_law_274 rfl rfl ?_
  refine xw_iload (pc := 275) C0 4 dL_law_275 rfl ?_
  refine xw_iconst (pc := 277) C0 dL_law_277 ?_
  refine xw_iadd (pc := 278) C0 dL_law_278 ?_
  refine xw_sld (pc := 279) (i := i) (j := 4) C0 hX hbl hbA (by omega) hL dL_law_279 ?_
  refine xw_aload_n (pc := 280) C0 0 dL_law_280 rfl rfl ?_
  refine xw_iload (pc := 281) C0 4 dL_law_281 rfl ?_
  refine xw_iconst (pc := 283) C0 dL_law_283 ?_
  refine xw_iadd (pc := 284) C0 dL_law_284 ?_
  refine xw_sld (pc := 285) (i := i) (j := 5) C0 hX hbl hbA (by omega) hL dL_law_285 ?_
  refine xw_callVI (pc := 286) (ci := 12) (rest := []) (As := [.int (Int32.ofInt ((xs (i + 1)).toInt)), .int (Int32.ofInt ((xs (i + 2)).toInt)), .int (Int32.ofInt ((xs (i + 3)).toInt)), .int (Int32.ofInt ((xs (i + 4)).toInt)), .int (Int32.ofInt ((xs (i + 5)).toInt))]) C0 hU hO sa_Tg hKL (xm_feedR (l := l) (μ := m1) (a := (xs (i + 1)).toInt) (b := (xs (i + 2)).toInt) (c9 := (xs (i + 3)).toInt) (d := (xs (i + 4)).toInt) (e9 := (xs (i + 5)).toInt) hG_m1) tv_1401 dL_law_286 tv_1398 tv_1399 tv_1400 tv_13 rfl yb_X12_feed (by decide) rfl rfl rfl (xl_kc ⟨by omega, by omega⟩) (Nat.le_of_ble_eq_true rfl) (xj_200 hKL) xk_0 (fun r2 m2 w2 => ?_)
  obtain ⟨hF9, hr9, hΦ9⟩ := xl_feedΦ hΦ hs w1 w2
  have u1 : -1 ≤ r1 ∧ r1 ≤ 940 := by rcases w1 with ⟨q1, q2, q3⟩ | ⟨q1, q2, q3⟩ <;> omega
  refine xw_pop (pc := 289) C0 dL_law_289 rfl ?_
  refine xw_goto (pc := 290) (tgt := 1344) C0 dL_law_290 rfl ?_
  refine xw_iinc (pc := 1344) (L' := [(4, .int (Int32.ofInt ((i : Int) + 6))), (0, .ref b), (1, .ref (xw_ad al 0)), (2, .ref (xw_ad al 200)), (3, .ref (xw_ad al 219))]) C0 4 dL_law_1344 rfl (by decide) rfl ?_
  refine xw_goto (pc := 1347) (tgt := 23) C0 dL_law_1347 rfl ?_
  have e9 : (i : Int) + 6 = ((i + 6 : Nat) : Int) := by omega
  rw [e9]
  refine xw_pk [1, 2, 3, 4, 0] (L' := [(0, .ref b), (1, .ref (xw_ad al 0)), (2, .ref (xw_ad al 200)), (3, .ref (xw_ad al 219)), (4, .int (Int32.ofInt ((i + 6 : Nat) : Int)))]) rfl ?_
  exact fin m2 hF9 hΦ9
set_option maxRecDepth 20000 in
set_option maxHeartbeats 1000000 in
theorem xl_cH {p : Program} {l : Launch} {e : Env} {s : State} {m : MethodId} {below : List Frame} {meth : Method} {c : Code} {D : va_G} {dA : Nat → ClassId} {b L : Nat} {xs : Nat → Int32} {Q : State → Prop} {al : List (Nat × Nat)} {i kc ks : Nat} {μ : xw_M} (hl : l.stackTraces = false) (C0 : sa_C p s m #[Value.ref b] c D dA (fun q : Nat => s.heap.size ≤ q) 7 vwCl sa_Ts code R_law) (hU : sa_U D vwCl dA s) (hO : tb_Ou (fun q : Nat => s.heap.size ≤ q) s s.heap) (hKL : al.map Prod.snd = tc_KL) (hX : va_X b L xs s s.heap) (hbl : b < s.heap.size) (hbA : ¬ (fun q : Nat => s.heap.size ≤ q) b) (hL : L ≤ 3072) (hi : i + 6 ≤ L) (h9 : kc ≤ 2000 ∧ ks ≤ 40000) (hΦ : xl_Φ0 μ) (hs : 0 ≤ μ 1 1 ∧ μ 1 1 ≤ 940) (fin : ∀ μ' : xw_M, xw_F xl_CH μ μ' → xl_Φ0 μ' → xw_W p l e room_1 s m #[Value.ref b] below meth c Q D dA (fun q : Nat => s.heap.size ≤ q) 7 vwCl tb_KT0 al (kc + 1) (ks + 6) μ' 23 [(0, .ref b), (1, .ref (xw_ad al 0)), (2, .ref (xw_ad al 200)), (3, .ref (xw_ad al 219)), (4, .int (Int32.ofInt ((i + 6 : Nat) : Int)))] []) : xw_W p l e room_1 s m #[Value.ref b] below meth c Q D dA (fun q : Nat => s.heap.size ≤ q) 7 vwCl tb_KT0 al kc ks μ 865 [(0, .ref b), (1, .ref (xw_ad al 0)), (2, .ref (xw_ad al 200)), (3, .ref (xw_ad al 219)), (4, .int (Int32.ofInt (i : Int)))] [] := by
  have hG := hΦ.1
  refine xw_aload_n (pc := 865) C0 1 dL_law_865 rfl rfl ?_
  refine xw_aload_n (pc := 866) C0 3 dL_law_866 rfl rfl ?_
  refine xw_callSH (pc := 867) (rest := []) (As := [.ref (xw_ad al 0), .ref (xw_ad al 219)]) C0 hU hO hKL (xm_Lh (l := l) (μ := μ) hl hG) tv_1238 dL_law_867 tv_1236 tv_1237 tv_0 yb_L_helped (by decide) rfl rfl rfl (xl_kc1 ⟨by omega, by omega⟩) (Nat.le_of_ble_eq_true rfl) (fun r1 m1 w1 => ?_)
  obtain ⟨hG_m1, hT1, hN1⟩ := xl_hpre hΦ hs w1
  refine xw_istore (pc := 870) (L' := [(5, .int (Int32.ofInt r1)), (0, .ref b), (1, .ref (xw_ad al 0)), (2, .ref (xw_ad al 200)), (3, .ref (xw_ad al 219)), (4, .int (Int32.ofInt (i : Int)))]) C0 dL_law_870 (by decide) rfl ?_
  refine xw_aload_n (pc := 872) C0 3 dL_law_872 rfl rfl ?_
  refine xw_callVI (pc := 873) (ci := 12) (rest := []) (As := []) C0 hU hO sa_Tg hKL (xm_helpR (l := l) (μ := m1) hG_m1 hT1 hN1) tv_1704 dL_law_873 tv_1701 tv_1702 tv_1703 tv_13 rfl yb_X12_helped (by decide) rfl rfl rfl (xl_kc ⟨by omega, by omega⟩) (Nat.le_of_ble_eq_true rfl) (xj_200 hKL) xk_0 (fun r2 m2 w2 => ?_)
  obtain ⟨hF9, hΦ9, hr9⟩ := xl_helpΦ hΦ w1 w2
  have hb9 : 0 ≤ r2 ∧ r2 ≤ 1024 := by
    rcases w2 with ⟨q1, -, q3⟩ | ⟨-, -, q3⟩
    · rw [q3]; exact hs_Fwb q1
    · omega
  refine xw_istore (pc := 876) (L' := [(6, .int (Int32.ofInt r2)), (5, .int (Int32.ofInt r1)), (0, .ref b), (1, .ref (xw_ad al 0)), (2, .ref (xw_ad al 200)), (3, .ref (xw_ad al 219)), (4, .int (Int32.ofInt (i : Int)))]) C0 dL_law_876 (by decide) rfl ?_
  refine xw_goto (pc := 878) (tgt := 1344) C0 dL_law_878 rfl ?_
  refine xw_iinc (pc := 1344) (L' := [(4, .int (Int32.ofInt ((i : Int) + 6))), (6, .int (Int32.ofInt r2)), (5, .int (Int32.ofInt r1)), (0, .ref b), (1, .ref (xw_ad al 0)), (2, .ref (xw_ad al 200)), (3, .ref (xw_ad al 219))]) C0 6 dL_law_1344 rfl (by decide) rfl ?_
  refine xw_goto (pc := 1347) (tgt := 23) C0 dL_law_1347 rfl ?_
  have e9 : (i : Int) + 6 = ((i + 6 : Nat) : Int) := by omega
  rw [e9]
  refine xw_pk [3, 4, 5, 6, 0] (L' := [(0, .ref b), (1, .ref (xw_ad al 0)), (2, .ref (xw_ad al 200)), (3, .ref (xw_ad al 219)), (4, .int (Int32.ofInt ((i + 6 : Nat) : Int)))]) rfl ?_
  exact fin m2 hF9 hΦ9
set_option maxRecDepth 20000 in
set_option maxHeartbeats 1000000 in
theorem xl_cO {p : Program} {l : Launch} {e : Env} {s : State} {m : MethodId} {below : List Frame} {meth : Method} {c : Code} {D : va_G} {dA : Nat → ClassId} {b L : Nat} {xs : Nat → Int32} {Q : State → Prop} {al : List (Nat × Nat)} {i kc ks : Nat} {μ : xw_M} (hl : l.stackTraces = false) (C0 : sa_C p s m #[Value.ref b] c D dA (fun q : Nat => s.heap.size ≤ q) 7 vwCl sa_Ts code R_law) (hU : sa_U D vwCl dA s) (hO : tb_Ou (fun q : Nat => s.heap.size ≤ q) s s.heap) (hKL : al.map Prod.snd = tc_KL) (hX : va_X b L xs s s.heap) (hbl : b < s.heap.size) (hbA : ¬ (fun q : Nat => s.heap.size ≤ q) b) (hL : L ≤ 3072) (hi : i + 6 ≤ L) (h9 : kc ≤ 2000 ∧ ks ≤ 40000) (hΦ : xl_Φ0 μ) (hP : hx_P μ) (hs : 0 ≤ μ 1 1 ∧ μ 1 1 ≤ 940) (fin : ∀ μ' : xw_M, xw_F xl_CHX μ μ' → xl_HH μ μ' → xl_Φ μ' → xw_W p l e room_1 s m #[Value.ref b] below meth c Q D dA (fun q : Nat => s.heap.size ≤ q) 7 vwCl tb_KT0 al kc ks μ' 23 [(0, .ref b), (1, .ref (xw_ad al 0)), (2, .ref (xw_ad al 200)), (3, .ref (xw_ad al 219)), (4, .int (Int32.ofInt ((i + 6 : Nat) : Int)))] []) : xw_W p l e room_1 s m #[Value.ref b] below meth c Q D dA (fun q : Nat => s.heap.size ≤ q) 7 vwCl tb_KT0 al kc ks μ 318 [(0, .ref b), (1, .ref (xw_ad al 0)), (2, .ref (xw_ad al 200)), (3, .ref (xw_ad al 219)), (4, .int (Int32.ofInt (i : Int)))] [] := by
  have hG := hΦ.1
  refine xw_aload_n (pc := 318) C0 1 dL_law_318 rfl rfl ?_
  refine xw_callVI (pc := 319) (μ := μ) (ci := 11) (rest := []) (As := []) C0 hU hO sa_Tg hKL (xh_houseX (l := l) (μ := μ) (t := (fun i : Nat => μ 201 i)) (n := (μ 1 1).toNat) hG hΦ.2.1 (by omega) (by omega)) tv_493 dL_law_319 tv_490 tv_491 tv_492 tv_1 rfl yb_X11_house (by decide) rfl rfl rfl (xl_kc ⟨by omega, by omega⟩) (Nat.le_of_ble_eq_true rfl) (xj_0 hKL) xk_27 (fun r1 m1 w1 => ?_)
  have hG_m1 : xw_G xw_GL m1 := xw_GF hG w1.2.2 (by decide +kernel)
  have n1 : m1 200 2 = (((μ 1 1).toNat : Nat) : Int) := (w1.2.2 200 2 (by decide +kernel)).trans (by have q := hΦ.2.2.1; omega)
  have hT9 : ∀ i : Nat, i < 940 → 0 ≤ (fun i : Nat => μ 201 i) i ∧ (fun i : Nat => μ 201 i) i ≤ 255 := fun i _ => by
    have q := hΦ.2.1 i
    show 0 ≤ μ 201 i ∧ μ 201 i ≤ 255
    omega
  refine xw_pop (pc := 322) C0 dL_law_322 rfl ?_
  refine xw_aload_n (pc := 323) C0 2 dL_law_323 rfl rfl ?_
  refine xw_callVI (pc := 324) (μ := m1) (ci := 12) (rest := []) (As := []) C0 hU hO sa_Tg hKL (xr_house (l := l) (μ := m1) (t := (fun i : Nat => μ 201 i)) (n := (μ 1 1).toNat) hG_m1 (fun i => w1.2.2 201 i (xw_oj (by decide +kernel) i)) hT9 n1 (by omega)) tv_1413 dL_law_324 tv_1410 tv_1411 tv_1412 tv_13 rfl yb_X12_house (by decide) rfl rfl rfl (xl_kc ⟨by omega, by omega⟩) (Nat.le_of_ble_eq_true rfl) (xj_200 hKL) xk_0 (fun r2 m2 w2 => ?_)
  obtain ⟨hF9, hH9, hΦ9, hP9, hr9⟩ := xl_houseX hΦ hP w1 w2
  subst hr9
  refine xw_pop (pc := 327) C0 dL_law_327 rfl ?_
  refine xw_goto (pc := 328) (tgt := 1344) C0 dL_law_328 rfl ?_
  refine xw_iinc (pc := 1344) (L' := [(4, .int (Int32.ofInt ((i : Int) + 6))), (0, .ref b), (1, .ref (xw_ad al 0)), (2, .ref (xw_ad al 200)), (3, .ref (xw_ad al 219))]) C0 4 dL_law_1344 rfl (by decide) rfl ?_
  refine xw_goto (pc := 1347) (tgt := 23) C0 dL_law_1347 rfl ?_
  have e9 : (i : Int) + 6 = ((i + 6 : Nat) : Int) := by omega
  rw [e9]
  refine xw_pk [1, 2, 3, 4, 0] (L' := [(0, .ref b), (1, .ref (xw_ad al 0)), (2, .ref (xw_ad al 200)), (3, .ref (xw_ad al 219)), (4, .int (Int32.ofInt ((i + 6 : Nat) : Int)))]) rfl ?_
  exact fin m2 hF9 hH9 ⟨hΦ9, hP9⟩
set_option maxRecDepth 20000 in
set_option maxHeartbeats 1000000 in
theorem xl_cI {p : Program} {l : Launch} {e : Env} {s : State} {m : MethodId} {below : List Frame} {meth : Method} {c : Code} {D : va_G} {dA : Nat → ClassId} {b L : Nat} {xs : Nat → Int32} {Q : State → Prop} {al : List (Nat × Nat)} {i kc ks : Nat} {μ : xw_M} (hl : l.stackTraces = false) (C0 : sa_C p s m #[Value.ref b] c D dA (fun q : Nat => s.heap.size ≤ q) 7 vwCl sa_Ts code R_law) (hU : sa_U D vwCl dA s) (hO : tb_Ou (fun q : Nat => s.heap.size ≤ q) s s.heap) (hKL : al.map Prod.snd = tc_KL) (hX : va_X b L xs s s.heap) (hbl : b < s.heap.size) (hbA : ¬ (fun q : Nat => s.heap.size ≤ q) b) (hL : L ≤ 3072) (hi : i + 6 ≤ L) (h9 : kc ≤ 2000 ∧ ks ≤ 40000) (hΦ : xl_Φ0 μ) (hP : hx_P μ) (hs : 0 ≤ μ 1 1 ∧ μ 1 1 ≤ 940) (fin : ∀ μ' : xw_M, xl_Mv μ μ' → xl_Φ μ' → xw_W p l e room_1 s m #[Value.ref b] below meth c Q D dA (fun q : Nat => s.heap.size ≤ q) 7 vwCl tb_KT0 al kc ks μ' 23 [(0, .ref b), (1, .ref (xw_ad al 0)), (2, .ref (xw_ad al 200)), (3, .ref (xw_ad al 219)), (4, .int (Int32.ofInt ((i + 6 : Nat) : Int)))] []) : xw_W p l e room_1 s m #[Value.ref b] below meth c Q D dA (fun q : Nat => s.heap.size ≤ q) 7 vwCl tb_KT0 al kc ks μ 1269 [(0, .ref b), (1, .ref (xw_ad al 0)), (2, .ref (xw_ad al 200)), (3, .ref (xw_ad al 219)), (4, .int (Int32.ofInt (i : Int)))] [] := by
  have hG := hΦ.1
  have hr9 : -2147483648 ≤ (xs (i + 1)).toInt ∧ (xs (i + 1)).toInt ≤ 2147483647 := ⟨by have := (xs (i + 1)).le_toInt; omega, by have := (xs (i + 1)).toInt_lt; omega⟩
  rcases (show ((xs (i + 1)).toInt < 0 ∨ 2 ≤ (xs (i + 1)).toInt) ∨ (xs (i + 1)).toInt = 0 ∨ (xs (i + 1)).toInt = 1 by omega) with hv9 | hv9 | hv9
  · refine xw_aload_n (pc := 1269) C0 1 dL_law_1269 rfl rfl ?_
    refine xw_aload_n (pc := 1270) C0 0 dL_law_1270 rfl rfl ?_
    refine xw_iload (pc := 1271) C0 4 dL_law_1271 rfl ?_
    refine xw_iconst (pc := 1273) C0 dL_law_1273 ?_
    refine xw_iadd (pc := 1274) C0 dL_law_1274 ?_
    refine xw_sld (pc := 1275) (i := i) (j := 1) C0 hX hbl hbA (by omega) hL dL_law_1275 ?_
    refine xw_callVI (pc := 1276) (μ := μ) (ci := 11) (rest := []) (As := [.int (Int32.ofInt ((xs (i + 1)).toInt))]) C0 hU hO sa_Tg hKL (xh_imgN (l := l) (v := (xs (i + 1)).toInt) hG hv9 hr9) tv_1099 dL_law_1276 tv_1096 tv_1097 tv_1098 tv_1 rfl yb_X11_image (by decide) rfl rfl rfl (xl_kc ⟨by omega, by omega⟩) (Nat.le_of_ble_eq_true rfl) (xj_0 hKL) xk_27 (fun r1 m1 w1 => ?_)
    obtain ⟨z1, rfl⟩ := w1
    refine xw_pop (pc := 1279) C0 dL_law_1279 rfl ?_
    refine xw_aload_n (pc := 1280) C0 2 dL_law_1280 rfl rfl ?_
    refine xw_aload_n (pc := 1281) C0 0 dL_law_1281 rfl rfl ?_
    refine xw_iload (pc := 1282) C0 4 dL_law_1282 rfl ?_
    refine xw_iconst (pc := 1284) C0 dL_law_1284 ?_
    refine xw_iadd (pc := 1285) C0 dL_law_1285 ?_
    refine xw_sld (pc := 1286) (i := i) (j := 1) C0 hX hbl hbA (by omega) hL dL_law_1286 ?_
    refine xw_callVI (pc := 1287) (μ := μ) (ci := 12) (rest := []) (As := [.int (Int32.ofInt ((xs (i + 1)).toInt))]) C0 hU hO sa_Tg hKL (xr_imgN (l := l) (v := (xs (i + 1)).toInt) hG hv9 hr9) tv_1875 dL_law_1287 tv_1872 tv_1873 tv_1874 tv_13 rfl yb_X12_image (by decide) rfl rfl rfl (xl_kc ⟨by omega, by omega⟩) (Nat.le_of_ble_eq_true rfl) (xj_200 hKL) xk_0 (fun r2 m2 w2 => ?_)
    obtain ⟨hM9, hΦ9, hP9⟩ := xl_th hΦ hP w2.2
    refine xw_pop (pc := 1290) C0 dL_law_1290 rfl ?_
    refine xw_goto (pc := 1291) (tgt := 1344) C0 dL_law_1291 rfl ?_
    refine xw_iinc (pc := 1344) (L' := [(4, .int (Int32.ofInt ((i : Int) + 6))), (0, .ref b), (1, .ref (xw_ad al 0)), (2, .ref (xw_ad al 200)), (3, .ref (xw_ad al 219))]) C0 4 dL_law_1344 rfl (by decide) rfl ?_
    refine xw_goto (pc := 1347) (tgt := 23) C0 dL_law_1347 rfl ?_
    have e9 : (i : Int) + 6 = ((i + 6 : Nat) : Int) := by omega
    rw [e9]
    refine xw_pk [1, 2, 3, 4, 0] (L' := [(0, .ref b), (1, .ref (xw_ad al 0)), (2, .ref (xw_ad al 200)), (3, .ref (xw_ad al 219)), (4, .int (Int32.ofInt ((i + 6 : Nat) : Int)))]) rfl ?_
    exact fin m2 hM9 ⟨hΦ9, hP9⟩
  · refine xw_aload_n (pc := 1269) C0 1 dL_law_1269 rfl rfl ?_
    refine xw_aload_n (pc := 1270) C0 0 dL_law_1270 rfl rfl ?_
    refine xw_iload (pc := 1271) C0 4 dL_law_1271 rfl ?_
    refine xw_iconst (pc := 1273) C0 dL_law_1273 ?_
    refine xw_iadd (pc := 1274) C0 dL_law_1274 ?_
    refine xw_sld (pc := 1275) (i := i) (j := 1) C0 hX hbl hbA (by omega) hL dL_law_1275 ?_
    refine xw_nI (congrArg Int32.ofInt hv9) ?_
    refine xw_callVI (pc := 1276) (μ := μ) (ci := 11) (rest := []) (As := [.int (Int32.ofInt 0)]) C0 hU hO sa_Tg hKL (xh_img0 (l := l) (μ := μ) hG) tv_1099 dL_law_1276 tv_1096 tv_1097 tv_1098 tv_1 rfl yb_X11_image (by decide) rfl rfl rfl (xl_kc ⟨by omega, by omega⟩) (Nat.le_of_ble_eq_true rfl) (xj_0 hKL) xk_27 (fun r1 m1 w1 => ?_)
    have hG_m1 : xw_G xw_GL m1 := xw_GF hG w1.2.2.2.2 (by decide +kernel)
    refine xw_pop (pc := 1279) C0 dL_law_1279 rfl ?_
    refine xw_aload_n (pc := 1280) C0 2 dL_law_1280 rfl rfl ?_
    refine xw_aload_n (pc := 1281) C0 0 dL_law_1281 rfl rfl ?_
    refine xw_iload (pc := 1282) C0 4 dL_law_1282 rfl ?_
    refine xw_iconst (pc := 1284) C0 dL_law_1284 ?_
    refine xw_iadd (pc := 1285) C0 dL_law_1285 ?_
    refine xw_sld (pc := 1286) (i := i) (j := 1) C0 hX hbl hbA (by omega) hL dL_law_1286 ?_
    refine xw_nI (congrArg Int32.ofInt hv9) ?_
    refine xw_callVI (pc := 1287) (μ := m1) (ci := 12) (rest := []) (As := [.int (Int32.ofInt 0)]) C0 hU hO sa_Tg hKL (xr_img0 (l := l) (μ := m1) hG_m1) tv_1875 dL_law_1287 tv_1872 tv_1873 tv_1874 tv_13 rfl yb_X12_image (by decide) rfl rfl rfl (xl_kc ⟨by omega, by omega⟩) (Nat.le_of_ble_eq_true rfl) (xj_200 hKL) xk_0 (fun r2 m2 w2 => ?_)
    obtain ⟨hM9, hΦ9, hP9⟩ := xl_imgX0 hΦ hP w1 w2
    refine xw_pop (pc := 1290) C0 dL_law_1290 rfl ?_
    refine xw_goto (pc := 1291) (tgt := 1344) C0 dL_law_1291 rfl ?_
    refine xw_iinc (pc := 1344) (L' := [(4, .int (Int32.ofInt ((i : Int) + 6))), (0, .ref b), (1, .ref (xw_ad al 0)), (2, .ref (xw_ad al 200)), (3, .ref (xw_ad al 219))]) C0 4 dL_law_1344 rfl (by decide) rfl ?_
    refine xw_goto (pc := 1347) (tgt := 23) C0 dL_law_1347 rfl ?_
    have e9 : (i : Int) + 6 = ((i + 6 : Nat) : Int) := by omega
    rw [e9]
    refine xw_pk [1, 2, 3, 4, 0] (L' := [(0, .ref b), (1, .ref (xw_ad al 0)), (2, .ref (xw_ad al 200)), (3, .ref (xw_ad al 219)), (4, .int (Int32.ofInt ((i + 6 : Nat) : Int)))]) rfl ?_
    exact fin m2 hM9 ⟨hΦ9, hP9⟩
  · refine xw_aload_n (pc := 1269) C0 1 dL_law_1269 rfl rfl ?_
    refine xw_aload_n (pc := 1270) C0 0 dL_law_1270 rfl rfl ?_
    refine xw_iload (pc := 1271) C0 4 dL_law_1271 rfl ?_
    refine xw_iconst (pc := 1273) C0 dL_law_1273 ?_
    refine xw_iadd (pc := 1274) C0 dL_law_1274 ?_
    refine xw_sld (pc := 1275) (i := i) (j := 1) C0 hX hbl hbA (by omega) hL dL_law_1275 ?_
    refine xw_nI (congrArg Int32.ofInt hv9) ?_
    refine xw_callVI (pc := 1276) (μ := μ) (ci := 11) (rest := []) (As := [.int (Int32.ofInt 1)]) C0 hU hO sa_Tg hKL (xh_img1 (l := l) (μ := μ) hG) tv_1099 dL_law_1276 tv_1096 tv_1097 tv_1098 tv_1 rfl yb_X11_image (by decide) rfl rfl rfl (xl_kc ⟨by omega, by omega⟩) (Nat.le_of_ble_eq_true rfl) (xj_0 hKL) xk_27 (fun r1 m1 w1 => ?_)
    have hG_m1 : xw_G xw_GL m1 := xw_GF hG w1.2.2.2.2 (by decide +kernel)
    refine xw_pop (pc := 1279) C0 dL_law_1279 rfl ?_
    refine xw_aload_n (pc := 1280) C0 2 dL_law_1280 rfl rfl ?_
    refine xw_aload_n (pc := 1281) C0 0 dL_law_1281 rfl rfl ?_
    refine xw_iload (pc := 1282) C0 4 dL_law_1282 rfl ?_
    refine xw_iconst (pc := 1284) C0 dL_law_1284 ?_
    refine xw_iadd (pc := 1285) C0 dL_law_1285 ?_
    refine xw_sld (pc := 1286) (i := i) (j := 1) C0 hX hbl hbA (by omega) hL dL_law_1286 ?_
    refine xw_nI (congrArg Int32.ofInt hv9) ?_
    refine xw_callVI (pc := 1287) (μ := m1) (ci := 12) (rest := []) (As := [.int (Int32.ofInt 1)]) C0 hU hO sa_Tg hKL (xr_img1 (l := l) (μ := m1) hG_m1) tv_1875 dL_law_1287 tv_1872 tv_1873 tv_1874 tv_13 rfl yb_X12_image (by decide) rfl rfl rfl (xl_kc ⟨by omega, by omega⟩) (Nat.le_of_ble_eq_true rfl) (xj_200 hKL) xk_0 (fun r2 m2 w2 => ?_)
    obtain ⟨hM9, hΦ9, hP9⟩ := xl_imgX1 hΦ hP w1 w2
    refine xw_pop (pc := 1290) C0 dL_law_1290 rfl ?_
    refine xw_goto (pc := 1291) (tgt := 1344) C0 dL_law_1291 rfl ?_
    refine xw_iinc (pc := 1344) (L' := [(4, .int (Int32.ofInt ((i : Int) + 6))), (0, .ref b), (1, .ref (xw_ad al 0)), (2, .ref (xw_ad al 200)), (3, .ref (xw_ad al 219))]) C0 4 dL_law_1344 rfl (by decide) rfl ?_
    refine xw_goto (pc := 1347) (tgt := 23) C0 dL_law_1347 rfl ?_
    have e9 : (i : Int) + 6 = ((i + 6 : Nat) : Int) := by omega
    rw [e9]
    refine xw_pk [1, 2, 3, 4, 0] (L' := [(0, .ref b), (1, .ref (xw_ad al 0)), (2, .ref (xw_ad al 200)), (3, .ref (xw_ad al 219)), (4, .int (Int32.ofInt ((i + 6 : Nat) : Int)))]) rfl ?_
    exact fin m2 hM9 ⟨hΦ9, hP9⟩
set_option maxRecDepth 20000 in
set_option maxHeartbeats 1000000 in
theorem xl_cR {p : Program} {l : Launch} {e : Env} {s : State} {m : MethodId} {below : List Frame} {meth : Method} {c : Code} {D : va_G} {dA : Nat → ClassId} {b L : Nat} {xs : Nat → Int32} {Q : State → Prop} {al : List (Nat × Nat)} {i kc ks : Nat} {μ : xw_M} (hl : l.stackTraces = false) (C0 : sa_C p s m #[Value.ref b] c D dA (fun q : Nat => s.heap.size ≤ q) 7 vwCl sa_Ts code R_law) (hU : sa_U D vwCl dA s) (hO : tb_Ou (fun q : Nat => s.heap.size ≤ q) s s.heap) (hKL : al.map Prod.snd = tc_KL) (hX : va_X b L xs s s.heap) (hbl : b < s.heap.size) (hbA : ¬ (fun q : Nat => s.heap.size ≤ q) b) (hL : L ≤ 3072) (hi : i + 6 ≤ L) (h9 : kc ≤ 2000 ∧ ks ≤ 40000) (hΦ : xl_Φ0 μ) (hP : hx_P μ) (hs : 0 ≤ μ 1 1 ∧ μ 1 1 ≤ 940) (fin : ∀ μ' : xw_M, xl_Mv μ μ' → xl_Φ μ' → xw_W p l e room_1 s m #[Value.ref b] below meth c Q D dA (fun q : Nat => s.heap.size ≤ q) 7 vwCl tb_KT0 al kc ks μ' 23 [(0, .ref b), (1, .ref (xw_ad al 0)), (2, .ref (xw_ad al 200)), (3, .ref (xw_ad al 219)), (4, .int (Int32.ofInt ((i + 6 : Nat) : Int)))] []) : xw_W p l e room_1 s m #[Value.ref b] below meth c Q D dA (fun q : Nat => s.heap.size ≤ q) 7 vwCl tb_KT0 al kc ks μ 1294 [(0, .ref b), (1, .ref (xw_ad al 0)), (2, .ref (xw_ad al 200)), (3, .ref (xw_ad al 219)), (4, .int (Int32.ofInt (i : Int)))] [] := by
  have hG := hΦ.1
  have hr9 : -2147483648 ≤ (xs (i + 1)).toInt ∧ (xs (i + 1)).toInt ≤ 2147483647 := ⟨by have := (xs (i + 1)).le_toInt; omega, by have := (xs (i + 1)).toInt_lt; omega⟩
  rcases (show ((xs (i + 1)).toInt < 0 ∨ 2 ≤ (xs (i + 1)).toInt) ∨ (xs (i + 1)).toInt = 0 ∨ (xs (i + 1)).toInt = 1 by omega) with hv9 | hv9 | hv9
  · refine xw_aload_n (pc := 1294) C0 1 dL_law_1294 rfl rfl ?_
    refine xw_aload_n (pc := 1295) C0 0 dL_law_1295 rfl rfl ?_
    refine xw_iload (pc := 1296) C0 4 dL_law_1296 rfl ?_
    refine xw_iconst (pc := 1298) C0 dL_law_1298 ?_
    refine xw_iadd (pc := 1299) C0 dL_law_1299 ?_
    refine xw_sld (pc := 1300) (i := i) (j := 1) C0 hX hbl hbA (by omega) hL dL_law_1300 ?_
    refine xw_callVI (pc := 1301) (μ := μ) (ci := 11) (rest := []) (As := [.int (Int32.ofInt ((xs (i + 1)).toInt))]) C0 hU hO sa_Tg hKL (xh_rstN (l := l) (v := (xs (i + 1)).toInt) hG hv9 hr9) tv_1110 dL_law_1301 tv_1107 tv_1108 tv_1109 tv_1 rfl yb_X11_restore (by decide) rfl rfl rfl (xl_kc ⟨by omega, by omega⟩) (Nat.le_of_ble_eq_true rfl) (xj_0 hKL) xk_27 (fun r1 m1 w1 => ?_)
    obtain ⟨z1, rfl⟩ := w1
    refine xw_pop (pc := 1304) C0 dL_law_1304 rfl ?_
    refine xw_aload_n (pc := 1305) C0 2 dL_law_1305 rfl rfl ?_
    refine xw_aload_n (pc := 1306) C0 0 dL_law_1306 rfl rfl ?_
    refine xw_iload (pc := 1307) C0 4 dL_law_1307 rfl ?_
    refine xw_iconst (pc := 1309) C0 dL_law_1309 ?_
    refine xw_iadd (pc := 1310) C0 dL_law_1310 ?_
    refine xw_sld (pc := 1311) (i := i) (j := 1) C0 hX hbl hbA (by omega) hL dL_law_1311 ?_
    refine xw_callVI (pc := 1312) (μ := μ) (ci := 12) (rest := []) (As := [.int (Int32.ofInt ((xs (i + 1)).toInt))]) C0 hU hO sa_Tg hKL (xr_rstN (l := l) (v := (xs (i + 1)).toInt) hG hv9 hr9) tv_1879 dL_law_1312 tv_1876 tv_1877 tv_1878 tv_13 rfl yb_X12_restore (by decide) rfl rfl rfl (xl_kc ⟨by omega, by omega⟩) (Nat.le_of_ble_eq_true rfl) (xj_200 hKL) xk_0 (fun r2 m2 w2 => ?_)
    obtain ⟨hM9, hΦ9, hP9⟩ := xl_th hΦ hP w2.2
    refine xw_pop (pc := 1315) C0 dL_law_1315 rfl ?_
    refine xw_goto (pc := 1316) (tgt := 1344) C0 dL_law_1316 rfl ?_
    refine xw_iinc (pc := 1344) (L' := [(4, .int (Int32.ofInt ((i : Int) + 6))), (0, .ref b), (1, .ref (xw_ad al 0)), (2, .ref (xw_ad al 200)), (3, .ref (xw_ad al 219))]) C0 4 dL_law_1344 rfl (by decide) rfl ?_
    refine xw_goto (pc := 1347) (tgt := 23) C0 dL_law_1347 rfl ?_
    have e9 : (i : Int) + 6 = ((i + 6 : Nat) : Int) := by omega
    rw [e9]
    refine xw_pk [1, 2, 3, 4, 0] (L' := [(0, .ref b), (1, .ref (xw_ad al 0)), (2, .ref (xw_ad al 200)), (3, .ref (xw_ad al 219)), (4, .int (Int32.ofInt ((i + 6 : Nat) : Int)))]) rfl ?_
    exact fin m2 hM9 ⟨hΦ9, hP9⟩
  · refine xw_aload_n (pc := 1294) C0 1 dL_law_1294 rfl rfl ?_
    refine xw_aload_n (pc := 1295) C0 0 dL_law_1295 rfl rfl ?_
    refine xw_iload (pc := 1296) C0 4 dL_law_1296 rfl ?_
    refine xw_iconst (pc := 1298) C0 dL_law_1298 ?_
    refine xw_iadd (pc := 1299) C0 dL_law_1299 ?_
    refine xw_sld (pc := 1300) (i := i) (j := 1) C0 hX hbl hbA (by omega) hL dL_law_1300 ?_
    refine xw_nI (congrArg Int32.ofInt hv9) ?_
    refine xw_callVI (pc := 1301) (μ := μ) (ci := 11) (rest := []) (As := [.int (Int32.ofInt 0)]) C0 hU hO sa_Tg hKL (xh_rst0 (l := l) (μ := μ) hG) tv_1110 dL_law_1301 tv_1107 tv_1108 tv_1109 tv_1 rfl yb_X11_restore (by decide) rfl rfl rfl (xl_kc ⟨by omega, by omega⟩) (Nat.le_of_ble_eq_true rfl) (xj_0 hKL) xk_27 (fun r1 m1 w1 => ?_)
    have hG_m1 : xw_G xw_GL m1 := by
      rcases w1 with ⟨-, -, q⟩ | ⟨-, -, -, -, q⟩
      · rw [← q]; exact hG
      · exact xw_GF hG q (by decide +kernel)
    refine xw_pop (pc := 1304) C0 dL_law_1304 rfl ?_
    refine xw_aload_n (pc := 1305) C0 2 dL_law_1305 rfl rfl ?_
    refine xw_aload_n (pc := 1306) C0 0 dL_law_1306 rfl rfl ?_
    refine xw_iload (pc := 1307) C0 4 dL_law_1307 rfl ?_
    refine xw_iconst (pc := 1309) C0 dL_law_1309 ?_
    refine xw_iadd (pc := 1310) C0 dL_law_1310 ?_
    refine xw_sld (pc := 1311) (i := i) (j := 1) C0 hX hbl hbA (by omega) hL dL_law_1311 ?_
    refine xw_nI (congrArg Int32.ofInt hv9) ?_
    refine xw_callVI (pc := 1312) (μ := m1) (ci := 12) (rest := []) (As := [.int (Int32.ofInt 0)]) C0 hU hO sa_Tg hKL (xr_rst0 (l := l) (μ := m1) hG_m1) tv_1879 dL_law_1312 tv_1876 tv_1877 tv_1878 tv_13 rfl yb_X12_restore (by decide) rfl rfl rfl (xl_kc ⟨by omega, by omega⟩) (Nat.le_of_ble_eq_true rfl) (xj_200 hKL) xk_0 (fun r2 m2 w2 => ?_)
    obtain ⟨hM9, hΦ9, hP9⟩ := xl_rstX0 hΦ hP w1 w2
    refine xw_pop (pc := 1315) C0 dL_law_1315 rfl ?_
    refine xw_goto (pc := 1316) (tgt := 1344) C0 dL_law_1316 rfl ?_
    refine xw_iinc (pc := 1344) (L' := [(4, .int (Int32.ofInt ((i : Int) + 6))), (0, .ref b), (1, .ref (xw_ad al 0)), (2, .ref (xw_ad al 200)), (3, .ref (xw_ad al 219))]) C0 4 dL_law_1344 rfl (by decide) rfl ?_
    refine xw_goto (pc := 1347) (tgt := 23) C0 dL_law_1347 rfl ?_
    have e9 : (i : Int) + 6 = ((i + 6 : Nat) : Int) := by omega
    rw [e9]
    refine xw_pk [1, 2, 3, 4, 0] (L' := [(0, .ref b), (1, .ref (xw_ad al 0)), (2, .ref (xw_ad al 200)), (3, .ref (xw_ad al 219)), (4, .int (Int32.ofInt ((i + 6 : Nat) : Int)))]) rfl ?_
    exact fin m2 hM9 ⟨hΦ9, hP9⟩
  · refine xw_aload_n (pc := 1294) C0 1 dL_law_1294 rfl rfl ?_
    refine xw_aload_n (pc := 1295) C0 0 dL_law_1295 rfl rfl ?_
    refine xw_iload (pc := 1296) C0 4 dL_law_1296 rfl ?_
    refine xw_iconst (pc := 1298) C0 dL_law_1298 ?_
    refine xw_iadd (pc := 1299) C0 dL_law_1299 ?_
    refine xw_sld (pc := 1300) (i := i) (j := 1) C0 hX hbl hbA (by omega) hL dL_law_1300 ?_
    refine xw_nI (congrArg Int32.ofInt hv9) ?_
    refine xw_callVI (pc := 1301) (μ := μ) (ci := 11) (rest := []) (As := [.int (Int32.ofInt 1)]) C0 hU hO sa_Tg hKL (xh_rst1 (l := l) (μ := μ) hG) tv_1110 dL_law_1301 tv_1107 tv_1108 tv_1109 tv_1 rfl yb_X11_restore (by decide) rfl rfl rfl (xl_kc ⟨by omega, by omega⟩) (Nat.le_of_ble_eq_true rfl) (xj_0 hKL) xk_27 (fun r1 m1 w1 => ?_)
    have hG_m1 : xw_G xw_GL m1 := by
      rcases w1 with ⟨-, -, q⟩ | ⟨-, -, -, -, q⟩
      · rw [← q]; exact hG
      · exact xw_GF hG q (by decide +kernel)
    refine xw_pop (pc := 1304) C0 dL_law_1304 rfl ?_
    refine xw_aload_n (pc := 1305) C0 2 dL_law_1305 rfl rfl ?_
    refine xw_aload_n (pc := 1306) C0 0 dL_law_1306 rfl rfl ?_
    refine xw_iload (pc := 1307) C0 4 dL_law_1307 rfl ?_
    refine xw_iconst (pc := 1309) C0 dL_law_1309 ?_
    refine xw_iadd (pc := 1310) C0 dL_law_1310 ?_
    refine xw_sld (pc := 1311) (i := i) (j := 1) C0 hX hbl hbA (by omega) hL dL_law_1311 ?_
    refine xw_nI (congrArg Int32.ofInt hv9) ?_
    refine xw_callVI (pc := 1312) (μ := m1) (ci := 12) (rest := []) (As := [.int (Int32.ofInt 1)]) C0 hU hO sa_Tg hKL (xr_rst1 (l := l) (μ := m1) hG_m1) tv_1879 dL_law_1312 tv_1876 tv_1877 tv_1878 tv_13 rfl yb_X12_restore (by decide) rfl rfl rfl (xl_kc ⟨by omega, by omega⟩) (Nat.le_of_ble_eq_true rfl) (xj_200 hKL) xk_0 (fun r2 m2 w2 => ?_)
    obtain ⟨hM9, hΦ9, hP9⟩ := xl_rstX1 hΦ hP w1 w2
    refine xw_pop (pc := 1315) C0 dL_law_1315 rfl ?_
    refine xw_goto (pc := 1316) (tgt := 1344) C0 dL_law_1316 rfl ?_
    refine xw_iinc (pc := 1344) (L' := [(4, .int (Int32.ofInt ((i : Int) + 6))), (0, .ref b), (1, .ref (xw_ad al 0)), (2, .ref (xw_ad al 200)), (3, .ref (xw_ad al 219))]) C0 4 dL_law_1344 rfl (by decide) rfl ?_
    refine xw_goto (pc := 1347) (tgt := 23) C0 dL_law_1347 rfl ?_
    have e9 : (i : Int) + 6 = ((i + 6 : Nat) : Int) := by omega
    rw [e9]
    refine xw_pk [1, 2, 3, 4, 0] (L' := [(0, .ref b), (1, .ref (xw_ad al 0)), (2, .ref (xw_ad al 200)), (3, .ref (xw_ad al 219)), (4, .int (Int32.ofInt ((i + 6 : Nat) : Int)))]) rfl ?_
    exact fin m2 hM9 ⟨hΦ9, hP9⟩
set_option maxRecDepth 20000 in
set_option maxHeartbeats 1000000 in
theorem xl_cA_sentence {p : Program} {l : Launch} {e : Env} {s : State} {m : MethodId} {below : List Frame} {meth : Method} {c : Code} {D : va_G} {dA : Nat → ClassId} {b L : Nat} {xs : Nat → Int32} {Q : State → Prop} {al : List (Nat × Nat)} {i kc ks : Nat} {μ : xw_M} (hl : l.stackTraces = false) (C0 : sa_C p s m #[Value.ref b] c D dA (fun q : Nat => s.heap.size ≤ q) 7 vwCl sa_Ts code R_law) (hU : sa_U D vwCl dA s) (hO : tb_Ou (fun q : Nat => s.heap.size ≤ q) s s.heap) (hKL : al.map Prod.snd = tc_KL) (hX : va_X b L xs s s.heap) (hbl : b < s.heap.size) (hbA : ¬ (fun q : Nat => s.heap.size ≤ q) b) (hL : L ≤ 3072) (hi : i + 6 ≤ L) (h9 : kc ≤ 2000 ∧ ks ≤ 40000) (hΦ : xl_Φ0 μ) (hP : hx_P μ) (hs : 0 ≤ μ 1 1 ∧ μ 1 1 ≤ 940) (hRs : xl_Rs μ) (fin : ∀ μ' : xw_M, xl_Ms μ μ' → xl_Φ μ' → xw_W p l e room_1 s m #[Value.ref b] below meth c Q D dA (fun q : Nat => s.heap.size ≤ q) 7 vwCl tb_KT0 al kc ks μ' 23 [(0, .ref b), (1, .ref (xw_ad al 0)), (2, .ref (xw_ad al 200)), (3, .ref (xw_ad al 219)), (4, .int (Int32.ofInt ((i + 6 : Nat) : Int)))] []) : xw_W p l e room_1 s m #[Value.ref b] below meth c Q D dA (fun q : Nat => s.heap.size ≤ q) 7 vwCl tb_KT0 al kc ks μ 1231 [(0, .ref b), (1, .ref (xw_ad al 0)), (2, .ref (xw_ad al 200)), (3, .ref (xw_ad al 219)), (4, .int (Int32.ofInt (i : Int)))] [] := by
  have hG := hΦ.1
  obtain ⟨⟨vv, nv, hKv, hNv, hEv, hNa, hNb⟩, -⟩ := id hP
  refine xw_aload_n (pc := 1231) C0 1 dL_law_1231 rfl rfl ?_
  refine xw_callVI (pc := 1232) (μ := μ) (ci := 11) (rest := []) (As := []) C0 hU hO sa_Tg hKL (xs_sent (l := l) (μ := μ) (t := (fun i : Nat => μ 201 i)) (n := (μ 1 1).toNat) (rd := vv) (nm := nv) hG hΦ.2.1 (by omega) (by omega) (hx_DH hEv hNa) hKv hRs.1 hRs.2.1) tv_1017 dL_law_1232 tv_1014 tv_1015 tv_1016 tv_1 rfl yb_X11_sentence (by decide) rfl rfl rfl (xl_kc ⟨by omega, by omega⟩) (Nat.le_of_ble_eq_true rfl) (xj_0 hKL) xk_27 (fun r1 m1 w1 => ?_)
  have F1 : xw_F [(0, 13, 13), (1, 1, 1), (129, 0, 9), (132, 4, 5), (133, 0, 39), (134, 0, 39), (135, 0, 39), (25, 4, 5), (26, 0, 39), (27, 0, 39), (28, 0, 39)] μ m1 := w1.2.2.2.2
  have hG_m1 : xw_G xw_GL m1 := xw_GF hG F1 (by decide +kernel)
  have n1 : m1 200 2 = (((μ 1 1).toNat : Nat) : Int) := (F1 200 2 (by decide +kernel)).trans (by have q := hΦ.2.2.1; omega)
  have hT9 : ∀ i : Nat, i < 940 → 0 ≤ (fun i : Nat => μ 201 i) i ∧ (fun i : Nat => μ 201 i) i ≤ 255 := fun i _ => by
    have q := hΦ.2.1 i
    show 0 ≤ μ 201 i ∧ μ 201 i ≤ 255
    omega
  have hM1 : hr_M vv nv m1 := hr_MF (hx_DM hNv hNb) F1 (by decide +kernel)
  have hR1 : hr_R m1 := hr_RF hRs.2.2.1 F1 (by decide +kernel)
  have hRn1 : hr_Rn m1 := hr_RnF hRs.2.2.2 (fun i hi => F1 202 _ (xw_oj (by decide +kernel) _))
  refine xw_aload_n (pc := 1235) C0 2 dL_law_1235 rfl rfl ?_
  refine xw_callVI (pc := 1236) (μ := m1) (ci := 12) (rest := [.int (Int32.ofInt r1)]) (As := []) C0 hU hO sa_Tg hKL (xt_sent (l := l) (μ := m1) (t := (fun i : Nat => μ 201 i)) (n := (μ 1 1).toNat) (rd := vv) (nm := nv) hG_m1 (fun i => F1 201 i (xw_oj (by decide +kernel) i)) hT9 n1 (by omega) hM1 hKv hR1 hRn1) tv_1831 dL_law_1236 tv_1828 tv_1829 tv_1830 tv_13 rfl yb_X12_sentence (by decide) rfl rfl rfl (xl_kc ⟨by omega, by omega⟩) (Nat.le_of_ble_eq_true rfl) (xj_200 hKL) xk_0 (fun r2 m2 w2 => ?_)
  obtain ⟨hM9, hΦ9, hP9, hr9⟩ := xl_seX hΦ hP w1 w2
  subst hr9
  refine xw_icmp_eqS (pc := 1239) (tgt := 1344) C0 dL_law_1239 rfl ?_
  refine xw_iinc (pc := 1344) (L' := [(4, .int (Int32.ofInt ((i : Int) + 6))), (0, .ref b), (1, .ref (xw_ad al 0)), (2, .ref (xw_ad al 200)), (3, .ref (xw_ad al 219))]) C0 4 dL_law_1344 rfl (by decide) rfl ?_
  refine xw_goto (pc := 1347) (tgt := 23) C0 dL_law_1347 rfl ?_
  have e9 : (i : Int) + 6 = ((i + 6 : Nat) : Int) := by omega
  rw [e9]
  refine xw_pk [1, 2, 3, 4, 0] (L' := [(0, .ref b), (1, .ref (xw_ad al 0)), (2, .ref (xw_ad al 200)), (3, .ref (xw_ad al 219)), (4, .int (Int32.ofInt ((i + 6 : Nat) : Int)))]) rfl ?_
  exact fin m2 hM9 ⟨hΦ9, hP9⟩
theorem xl_sp {p : Program} {l : Launch} {e : Env} {s : State} {m : MethodId} {below : List Frame} {meth : Method} {c : Code} {D : va_G} {dA : Nat → ClassId} {b L : Nat} {xs : Nat → Int32} {al : List (Nat × Nat)} (hl : l.stackTraces = false) (C0 : sa_C p s m #[Value.ref b] c D dA (fun q : Nat => s.heap.size ≤ q) 7 vwCl sa_Ts code R_law) (hU : sa_U D vwCl dA s) (hO : tb_Ou (fun q : Nat => s.heap.size ≤ q) s s.heap) (hKL : al.map Prod.snd = tc_KL) (hX : va_X b L xs s s.heap) (hbl : b < s.heap.size) (hbA : ¬ (fun q : Nat => s.heap.size ≤ q) b) (hL : L ≤ 3072) : ∀ (pc i kc ks : Nat), (pc = 220 ∨ pc = 865 ∨ pc = 318 ∨ pc = 1269 ∨ pc = 1294 ∨ pc = 1231) → i + 6 ≤ L → kc ≤ 2000 → ks ≤ 40000 → (∀ (H : Heap) (locs : List Loc) (ls : Array Slot), lv_has ls 7 [(0, .ref b), (1, .ref (xw_ad al 0)), (2, .ref (xw_ad al 200)), (3, .ref (xw_ad al 219)), (4, .int (Int32.ofInt ((i + 6 : Nat) : Int)))] → xl_I D dA (fun q : Nat => s.heap.size ≤ q) al H → va_S (fun q : Nat => s.heap.size ≤ q) s.heap H locs → W p l e room_1 s m #[Value.ref b] below meth c H locs (kc + 1) (ks + 6) (lw_Z below #[Value.ref b] s) (F0 m 23 ls [])) → ∀ (H : Heap) (locs : List Loc) (ls : Array Slot), lv_has ls 7 [(0, .ref b), (1, .ref (xw_ad al 0)), (2, .ref (xw_ad al 200)), (3, .ref (xw_ad al 219)), (4, .int (Int32.ofInt (i : Int)))] → xl_I D dA (fun q : Nat => s.heap.size ≤ q) al H → va_S (fun q : Nat => s.heap.size ≤ q) s.heap H locs → W p l e room_1 s m #[Value.ref b] below meth c H locs kc ks (lw_Z below #[Value.ref b] s) (F0 m pc ls []) := by
  intro pc i kc ks hpc hi hk1 hk2 nxt H locs ls hlv hI hS
  obtain ⟨w, μ, g1, g2, g3, g4, hΦ⟩ := hI
  have hs := (xl_at (i := 1) g3 (xw_al hKL (show tc_KL[1]? = some 19 by decide +kernel)) xk_19 (show tb_ty _ 1 = some (0, 0, 940) from rfl)).2
  rcases hpc with rfl | rfl | rfl | rfl | rfl | rfl
  · exact xl_cF hl C0 hU hO hKL hX hbl hbA hL hi ⟨hk1, hk2⟩ hΦ.1 hs (fun μ' hF hP => xl_fin hKL g2 g3 g4 nxt hF (fun q => ⟨hP q, hx_Pf hΦ.2 hF (by decide +kernel)⟩) (Nat.le_succ _) (Nat.le_add_right _ _)) H locs ls w hlv g1 g2 g3 hS
  · exact xl_cH hl C0 hU hO hKL hX hbl hbA hL hi ⟨hk1, hk2⟩ hΦ.1 hs (fun μ' hF hP => xl_fin hKL g2 g3 g4 nxt hF (fun _ => ⟨hP, hx_Pf hΦ.2 hF (by decide +kernel)⟩) (Nat.le_refl _) (Nat.le_refl _)) H locs ls w hlv g1 g2 g3 hS
  · exact xl_cO hl C0 hU hO hKL hX hbl hbA hL hi ⟨hk1, hk2⟩ hΦ.1 hΦ.2 hs (fun μ' hF hH hP => xl_finH hKL g2 g3 g4 nxt hF hH hP (Nat.le_succ _) (Nat.le_add_right _ _)) H locs ls w hlv g1 g2 g3 hS
  · exact xl_cI hl C0 hU hO hKL hX hbl hbA hL hi ⟨hk1, hk2⟩ hΦ.1 hΦ.2 hs (fun μ' hM hP => xl_finM hKL g2 g3 g4 nxt hM hP (Nat.le_succ _) (Nat.le_add_right _ _)) H locs ls w hlv g1 g2 g3 hS
  · exact xl_cR hl C0 hU hO hKL hX hbl hbA hL hi ⟨hk1, hk2⟩ hΦ.1 hΦ.2 hs (fun μ' hM hP => xl_finM hKL g2 g3 g4 nxt hM hP (Nat.le_succ _) (Nat.le_add_right _ _)) H locs ls w hlv g1 g2 g3 hS
  · exact xl_cA_sentence hl C0 hU hO hKL hX hbl hbA hL hi ⟨hk1, hk2⟩ hΦ.1 hΦ.2 hs (xl_rsd hKL g2 g3 g4) (fun μ' hM hP => xl_finS hKL g2 g3 g4 nxt hM hP (Nat.le_succ _) (Nat.le_add_right _ _)) H locs ls w hlv g1 g2 g3 hS
