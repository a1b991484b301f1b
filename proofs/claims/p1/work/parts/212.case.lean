set_option maxHeartbeats 4000000 in
set_option maxRecDepth 100000 in
theorem law_1_7 {p : Program} {l : Launch} {e : Env} {s : State} {m : MethodId} {below : List Frame} {meth : Method} {c : Code} {b : Nat} {xs : Nat → Int32} {A : Nat → Prop} {dC : Nat → ClassId} {dI : Nat → Nat → Nat} {cI cZ cJ cD : ClassId} {w1 w2 w3 w4 w5 w6 w7 w8 w9 w10 w11 w12 w13 w14 w24 w26 w27 w28 w29 w30 w31 w32 w33 w34 w35 w36 w37 w38 w39 w40 w41 : Nat} (C : LC p l s m meth c b xs A dC dI cI cZ cJ cD) {H : Heap} {locs : List Loc} {ls : Array Slot} (hP : va_P (dC, dI) vwCl [(w1, .inr (3, [.ref w2, .ref w14, .ref w24, .int 0])), (w2, .inr (1, [.int 0, .ref w3, .ref w4, .ref w5, .ref w6, .ref w7, .ref w8, .ref w9, .int 0, .ref w10, .ref w11, .ref w12, .ref w13])), (w26, .inr (4, [.int 0, .int 0, .ref w27, .ref w28, .ref w29, .ref w30, .int 0, .ref w31, .ref w32, .ref w33, .ref w34, .int 0, .int 0, .int 0, .int 0, .ref w35, .ref w36, .ref w37, .ref w38, .ref w39]))] H) (hD : va_D A [(w1, .inr (3, [.ref w2, .ref w14, .ref w24, .int 0])), (w2, .inr (1, [.int 0, .ref w3, .ref w4, .ref w5, .ref w6, .ref w7, .ref w8, .ref w9, .int 0, .ref w10, .ref w11, .ref w12, .ref w13])), (w26, .inr (4, [.int 0, .int 0, .ref w27, .ref w28, .ref w29, .ref w30, .int 0, .ref w31, .ref w32, .ref w33, .ref w34, .int 0, .int 0, .int 0, .int 0, .ref w35, .ref w36, .ref w37, .ref w38, .ref w39]))]) (hS : va_S A s.heap H locs) (hl : lv_has ls 9 [(5, .int 0), (4, .ref w41), (3, .ref w40), (2, .ref w26), (1, .ref w1), (0, .ref b)]) (h0 : ¬ (xs 1) < 0) (h1 : (xs 1) ≤ 5) (h2 : ¬ (xs 1) = 4) (h3 : ¬ (xs 1) = 3) (h4 : ¬ (xs 2) < 0) : W p l e room_1 s m #[Value.ref b] below meth c H locs 41 66559 (lw_Z below #[Value.ref b] s) (F0 m 224 ls []) := by
  obtain ⟨hx, hb, hr, hml, hown, hts, hlocks, hX, hbl, hK, hE, hA, hA2, hbA, hfl⟩ := id C
  refine lv_aload_n hx hb dL_law_224 rfl (lv_at hl 4 rfl) ?_
  refine lv_aload_n hx hb dL_law_225 rfl (lv_at hl 5 rfl) ?_
  refine lv_iload hx hb dL_law_226 (lv_at hl 0 rfl) ?_
  refine lv_iconst (v := 1) hx hb dL_law_228 (by decide) ?_
  refine lv_iadd hx hb dL_law_229 ?_
  refine tI (v := 1) (by decide +kernel) ?_
  refine va_sld hx hb hX hbl hbA hS (vin (k := 1) (by decide) (by decide +kernel) (by decide)) dL_law_230 ?_
  refine tI (v := xs 1) (congrArg xs (by decide +kernel)) ?_
  refine lv_aload_n hx hb dL_law_231 rfl (lv_at hl 5 rfl) ?_
  refine lv_iload hx hb dL_law_232 (lv_at hl 0 rfl) ?_
  refine lv_iconst (v := 2) hx hb dL_law_234 (by decide) ?_
  refine lv_iadd hx hb dL_law_235 ?_
  refine tI (v := 2) (by decide +kernel) ?_
  refine va_sld hx hb hX hbl hbA hS (vin (k := 2) (by decide) (by decide +kernel) (by decide)) dL_law_236 ?_
  refine tI (v := xs 2) (congrArg xs (by decide +kernel)) ?_
  refine lv_aload_n hx hb dL_law_237 rfl (lv_at hl 5 rfl) ?_
  refine lv_iload hx hb dL_law_238 (lv_at hl 0 rfl) ?_
  refine lv_iconst (v := 3) hx hb dL_law_240 (by decide) ?_
  refine lv_iadd hx hb dL_law_241 ?_
  refine tI (v := 3) (by decide +kernel) ?_
  refine va_sld hx hb hX hbl hbA hS (vin (k := 3) (by decide) (by decide +kernel) (by decide)) dL_law_242 ?_
  refine tI (v := xs 3) (congrArg xs (by decide +kernel)) ?_
  refine lv_aload_n hx hb dL_law_243 rfl (lv_at hl 5 rfl) ?_
  refine lv_iload hx hb dL_law_244 (lv_at hl 0 rfl) ?_
  refine lv_iconst (v := 4) hx hb dL_law_246 (by decide) ?_
  refine lv_iadd hx hb dL_law_247 ?_
  refine tI (v := 4) (by decide +kernel) ?_
  refine va_sld hx hb hX hbl hbA hS (vin (k := 4) (by decide) (by decide +kernel) (by decide)) dL_law_248 ?_
  refine tI (v := xs 4) (congrArg xs (by decide +kernel)) ?_
  refine lv_aload_n hx hb dL_law_249 rfl (lv_at hl 2 rfl) ?_
  refine xc_H (wc := [(w1, .inr (3, [.ref w2, .ref w14, .ref w24, .int 0])), (w2, .inr (1, [.int 0, .ref w3, .ref w4, .ref w5, .ref w6, .ref w7, .ref w8, .ref w9, .int 0, .ref w10, .ref w11, .ref w12, .ref w13]))]) (As := [.ref w1, .int (xs 1), .int (xs 2), .int (xs 3), .int (xs 4), .ref w40]) (rest := []) (wr := [(w26, .inr (4, [.int 0, .int 0, .ref w27, .ref w28, .ref w29, .ref w30, .int 0, .ref w31, .ref w32, .ref w33, .ref w34, .int 0, .int 0, .int 0, .int 0, .ref w35, .ref w36, .ref w37, .ref w38, .ref w39]))]) ⟨hx, hb, hml, hown, hts⟩ (kL_addConstraint_7 l hfl dC dI cI cZ cJ cD w1 w40 w2 w14 w24 w3 w4 w5 w6 w7 w8 w9 w10 w11 w12 w13 (xs 1) (xs 2) (xs 3) (xs 4) _ h0 h1 h2 h3 h4) q486 okL_addConstraint hP hD hK hE hS hA [0, 1] [2] rfl rfl (by decide) (by decide) (by decide) rfl hl.1 rfl (Nat.le_of_ble_eq_true rfl) ⟨rfl, rfl⟩ ⟨Nat.le_of_ble_eq_true rfl, Nat.le_of_ble_eq_true rfl⟩ ⟨Nat.le_of_ble_eq_true rfl, Nat.le_of_ble_eq_true rfl⟩ dL_law_250 (fun H locs hP hD hS => ?_)
  have hP : va_P (dC, dI) vwCl [(w26, .inr (4, [.int 0, .int 0, .ref w27, .ref w28, .ref w29, .ref w30, .int 0, .ref w31, .ref w32, .ref w33, .ref w34, .int 0, .int 0, .int 0, .int 0, .ref w35, .ref w36, .ref w37, .ref w38, .ref w39]))] H := hP
  have hD : va_D A [(w26, .inr (4, [.int 0, .int 0, .ref w27, .ref w28, .ref w29, .ref w30, .int 0, .ref w31, .ref w32, .ref w33, .ref w34, .int 0, .int 0, .int 0, .int 0, .ref w35, .ref w36, .ref w37, .ref w38, .ref w39]))] := hD
  refine W.eq (g2 := F0 m 253 ls [.int 2]) rfl ?_
  refine lv_istore (lv' := [(6, .int 2), (5, .int 0), (4, .ref w41), (3, .ref w40), (2, .ref w26), (1, .ref w1), (0, .ref b)]) hx hb dL_law_253 hl (by decide) rfl (fun ls hl => ?_)
  refine lv_aload_n hx hb dL_law_255 rfl (lv_at hl 4 rfl) ?_
  refine lv_aload_n hx hb dL_law_256 rfl (lv_at hl 6 rfl) ?_
  refine lv_iload hx hb dL_law_257 (lv_at hl 1 rfl) ?_
  refine lv_iconst (v := 1) hx hb dL_law_259 (by decide) ?_
  refine lv_iadd hx hb dL_law_260 ?_
  refine tI (v := 1) (by decide +kernel) ?_
  refine va_sld hx hb hX hbl hbA hS (vin (k := 1) (by decide) (by decide +kernel) (by decide)) dL_law_261 ?_
  refine tI (v := xs 1) (congrArg xs (by decide +kernel)) ?_
  refine lv_aload_n hx hb dL_law_262 rfl (lv_at hl 6 rfl) ?_
  refine lv_iload hx hb dL_law_263 (lv_at hl 1 rfl) ?_
  refine lv_iconst (v := 2) hx hb dL_law_265 (by decide) ?_
  refine lv_iadd hx hb dL_law_266 ?_
  refine tI (v := 2) (by decide +kernel) ?_
  refine va_sld hx hb hX hbl hbA hS (vin (k := 2) (by decide) (by decide +kernel) (by decide)) dL_law_267 ?_
  refine tI (v := xs 2) (congrArg xs (by decide +kernel)) ?_
  refine lv_aload_n hx hb dL_law_268 rfl (lv_at hl 6 rfl) ?_
  refine lv_iload hx hb dL_law_269 (lv_at hl 1 rfl) ?_
  refine lv_iconst (v := 3) hx hb dL_law_271 (by decide) ?_
  refine lv_iadd hx hb dL_law_272 ?_
  refine tI (v := 3) (by decide +kernel) ?_
  refine va_sld hx hb hX hbl hbA hS (vin (k := 3) (by decide) (by decide +kernel) (by decide)) dL_law_273 ?_
  refine tI (v := xs 3) (congrArg xs (by decide +kernel)) ?_
  refine lv_aload_n hx hb dL_law_274 rfl (lv_at hl 6 rfl) ?_
  refine lv_iload hx hb dL_law_275 (lv_at hl 1 rfl) ?_
  refine lv_iconst (v := 4) hx hb dL_law_277 (by decide) ?_
  refine lv_iadd hx hb dL_law_278 ?_
  refine tI (v := 4) (by decide +kernel) ?_
  refine va_sld hx hb hX hbl hbA hS (vin (k := 4) (by decide) (by decide +kernel) (by decide)) dL_law_279 ?_
  refine tI (v := xs 4) (congrArg xs (by decide +kernel)) ?_
  refine xc_V (b := w26) (wc := [(w26, .inr (4, [.int 0, .int 0, .ref w27, .ref w28, .ref w29, .ref w30, .int 0, .ref w31, .ref w32, .ref w33, .ref w34, .int 0, .int 0, .int 0, .int 0, .ref w35, .ref w36, .ref w37, .ref w38, .ref w39]))]) (As := [.int (xs 1), .int (xs 2), .int (xs 3), .int (xs 4)]) (rest := []) (wr := []) ⟨hx, hb, hml, hown, hts⟩ (kX4_addConstraint_3 l hfl dC dI cI cZ cJ cD w26 w27 w28 w29 w30 w31 w32 w33 w34 w35 w36 w37 w38 w39 (xs 1) (xs 2) (xs 3) (xs 4) _ h0 h1 h4) q760 okX4_addConstraint hP hD hK hE hS hA [0] [] rfl rfl (by decide) (by decide) (by decide) (ci := 4) rfl 0 rfl rfl rfl hl.1 rfl (Nat.le_of_ble_eq_true rfl) ⟨rfl, rfl⟩ ⟨Nat.le_of_ble_eq_true rfl, Nat.le_of_ble_eq_true rfl⟩ ⟨Nat.le_of_ble_eq_true rfl, Nat.le_of_ble_eq_true rfl⟩ dL_law_280 (fun H locs hP hD hS => ?_)
  have hP : va_P (dC, dI) vwCl [(w26, .inr (4, [.int 2, .int 0, .ref w27, .ref w28, .ref w29, .ref w30, .int 0, .ref w31, .ref w32, .ref w33, .ref w34, .int 0, .int 0, .int 0, .int 0, .ref w35, .ref w36, .ref w37, .ref w38, .ref w39]))] H := hP
  have hD : va_D A [(w26, .inr (4, [.int 2, .int 0, .ref w27, .ref w28, .ref w29, .ref w30, .int 0, .ref w31, .ref w32, .ref w33, .ref w34, .int 0, .int 0, .int 0, .int 0, .ref w35, .ref w36, .ref w37, .ref w38, .ref w39]))] := hD
  refine W.eq (g2 := F0 m 283 ls [.int 0]) rfl ?_
  refine lv_istore (lv' := [(7, .int 0), (6, .int 2), (5, .int 0), (4, .ref w41), (3, .ref w40), (2, .ref w26), (1, .ref w1), (0, .ref b)]) hx hb dL_law_283 hl (by decide) rfl (fun ls hl => ?_)
  refine lv_aload_n hx hb dL_law_285 rfl (lv_at hl 5 rfl) ?_
  refine xc_V (b := w26) (wc := [(w26, .inr (4, [.int 2, .int 0, .ref w27, .ref w28, .ref w29, .ref w30, .int 0, .ref w31, .ref w32, .ref w33, .ref w34, .int 0, .int 0, .int 0, .int 0, .ref w35, .ref w36, .ref w37, .ref w38, .ref w39]))]) (As := []) (rest := []) (wr := []) ⟨hx, hb, hml, hown, hts⟩ (kX4_thrown_2 l hfl dC dI cI cZ cJ cD w26 w27 w28 w29 w30 w31 w32 w33 w34 w35 w36 w37 w38 w39 _) q748 okX4_thrown hP hD hK hE hS hA [0] [] rfl rfl (by decide) (by decide) (by decide) (ci := 4) rfl 0 rfl rfl rfl hl.1 rfl (Nat.le_of_ble_eq_true rfl) ⟨rfl, rfl⟩ ⟨Nat.le_of_ble_eq_true rfl, Nat.le_of_ble_eq_true rfl⟩ ⟨Nat.le_of_ble_eq_true rfl, Nat.le_of_ble_eq_true rfl⟩ dL_law_286 (fun H locs hP hD hS => ?_)
  have hP : va_P (dC, dI) vwCl [(w26, .inr (4, [.int 2, .int 0, .ref w27, .ref w28, .ref w29, .ref w30, .int 0, .ref w31, .ref w32, .ref w33, .ref w34, .int 0, .int 0, .int 0, .int 0, .ref w35, .ref w36, .ref w37, .ref w38, .ref w39]))] H := hP
  have hD : va_D A [(w26, .inr (4, [.int 2, .int 0, .ref w27, .ref w28, .ref w29, .ref w30, .int 0, .ref w31, .ref w32, .ref w33, .ref w34, .int 0, .int 0, .int 0, .int 0, .ref w35, .ref w36, .ref w37, .ref w38, .ref w39]))] := hD
  refine W.eq (g2 := F0 m 289 ls [.int 2]) rfl ?_
  refine lv_iload hx hb dL_law_289 (lv_at hl 1 rfl) ?_
  refine lv_icmp_eq (tgt := 296) hx hb dL_law_291 (by decide) (fun _ => ?_) (fun h9 => absurd (by decide) h9)
  refine lv_iload hx hb dL_law_296 (lv_at hl 1 rfl) ?_
  refine lv_if_ne (tgt := 313) hx hb dL_law_298 (by decide) (fun _ => ?_) (fun h9 => absurd h9 (by decide))
  refine lv_goto (tgt := 1401) hx hb dL_law_313 (by decide) ?_
  exact law_tail C hS (lv_sub hl [2, 7] rfl) (Nat.le_of_ble_eq_true rfl) (Nat.le_of_ble_eq_true rfl)
set_option maxHeartbeats 4000000 in
set_option maxRecDepth 100000 in
theorem law_2_0 {p : Program} {l : Launch} {e : Env} {s : State} {m : MethodId} {below : List Frame} {meth : Method} {c : Code} {b : Nat} {xs : Nat → Int32} {A : Nat → Prop} {dC : Nat → ClassId} {dI : Nat → Nat → Nat} {cI cZ cJ cD : ClassId} {w1 w2 w3 w4 w5 w6 w7 w8 w9 w10 w11 w12 w13 w14 w24 w26 w27 w28 w29 w30 w31 w32 w33 w34 w35 w36 w37 w38 w39 w40 w41 : Nat} (C : LC p l s m meth c b xs A dC dI cI cZ cJ cD) {H : Heap} {locs : List Loc} {ls : Array Slot} (hP : va_P (dC, dI) vwCl [(w1, .inr (3, [.ref w2, .ref w14, .ref w24, .int 0])), (w2, .inr (1, [.int 0, .ref w3, .ref w4, .ref w5, .ref w6, .ref w7, .ref w8, .ref w9, .int 0, .ref w10, .ref w11, .ref w12, .ref w13])), (w26, .inr (4, [.int 0, .int 0, .ref w27, .ref w28, .ref w29, .ref w30, .int 0, .ref w31, .ref w32, .ref w33, .ref w34, .int 0, .int 0, .int 0, .int 0, .ref w35, .ref w36, .ref w37, .ref w38, .ref w39]))] H) (hD : va_D A [(w1, .inr (3, [.ref w2, .ref w14, .ref w24, .int 0])), (w2, .inr (1, [.int 0, .ref w3, .ref w4, .ref w5, .ref w6, .ref w7, .ref w8, .ref w9, .int 0, .ref w10, .ref w11, .ref w12, .ref w13])), (w26, .inr (4, [.int 0, .int 0, .ref w27, .ref w28, .ref w29, .ref w30, .int 0, .ref w31, .ref w32, .ref w33, .ref w34, .int 0, .int 0, .int 0, .int 0, .ref w35, .ref w36, .ref w37, .ref w38, .ref w39]))]) (hS : va_S A s.heap H locs) (hl : lv_has ls 9 [(5, .int 0), (4, .ref w41), (3, .ref w40), (2, .ref w26), (1, .ref w1), (0, .ref b)])  : W p l e room_1 s m #[Value.ref b] below meth c H locs 41 66559 (lw_Z below #[Value.ref b] s) (F0 m 316 ls []) := by
  obtain ⟨hx, hb, hr, hml, hown, hts, hlocks, hX, hbl, hK, hE, hA, hA2, hbA, hfl⟩ := id C
  refine lv_aload_n hx hb dL_law_316 rfl (lv_at hl 4 rfl) ?_
  refine lv_aload_n hx hb dL_law_317 rfl (lv_at hl 2 rfl) ?_
  refine xc_H (wc := [(w1, .inr (3, [.ref w2, .ref w14, .ref w24, .int 0])), (w2, .inr (1, [.int 0, .ref w3, .ref w4, .ref w5, .ref w6, .ref w7, .ref w8, .ref w9, .int 0, .ref w10, .ref w11, .ref w12, .ref w13]))]) (As := [.ref w1, .ref w40]) (rest := []) (wr := [(w26, .inr (4, [.int 0, .int 0, .ref w27, .ref w28, .ref w29, .ref w30, .int 0, .ref w31, .ref w32, .ref w33, .ref w34, .int 0, .int 0, .int 0, .int 0, .ref w35, .ref w36, .ref w37, .ref w38, .ref w39]))]) ⟨hx, hb, hml, hown, hts⟩ (kL_dropConstraint_0 l hfl dC dI cI cZ cJ cD w1 w40 w2 w14 w24 w3 w4 w5 w6 w7 w8 w9 w10 w11 w12 w13 _) q520 okL_dropConstraint hP hD hK hE hS hA [0, 1] [2] rfl rfl (by decide) (by decide) (by decide) rfl hl.1 rfl (Nat.le_of_ble_eq_true rfl) ⟨rfl, rfl⟩ ⟨Nat.le_of_ble_eq_true rfl, Nat.le_of_ble_eq_true rfl⟩ ⟨Nat.le_of_ble_eq_true rfl, Nat.le_of_ble_eq_true rfl⟩ dL_law_318 (fun H locs hP hD hS => ?_)
  have hP : va_P (dC, dI) vwCl [(w26, .inr (4, [.int 0, .int 0, .ref w27, .ref w28, .ref w29, .ref w30, .int 0, .ref w31, .ref w32, .ref w33, .ref w34, .int 0, .int 0, .int 0, .int 0, .ref w35, .ref w36, .ref w37, .ref w38, .ref w39]))] H := hP
  have hD : va_D A [(w26, .inr (4, [.int 0, .int 0, .ref w27, .ref w28, .ref w29, .ref w30, .int 0, .ref w31, .ref w32, .ref w33, .ref w34, .int 0, .int 0, .int 0, .int 0, .ref w35, .ref w36, .ref w37, .ref w38, .ref w39]))] := hD
  refine W.eq (g2 := F0 m 321 ls [.int 1]) rfl ?_
  refine lv_istore (lv' := [(6, .int 1), (5, .int 0), (4, .ref w41), (3, .ref w40), (2, .ref w26), (1, .ref w1), (0, .ref b)]) hx hb dL_law_321 hl (by decide) rfl (fun ls hl => ?_)
  refine lv_aload_n hx hb dL_law_323 rfl (lv_at hl 4 rfl) ?_
  refine xc_V (b := w26) (wc := [(w26, .inr (4, [.int 0, .int 0, .ref w27, .ref w28, .ref w29, .ref w30, .int 0, .ref w31, .ref w32, .ref w33, .ref w34, .int 0, .int 0, .int 0, .int 0, .ref w35, .ref w36, .ref w37, .ref w38, .ref w39]))]) (As := []) (rest := []) (wr := []) ⟨hx, hb, hml, hown, hts⟩ (kX4_dropConstraint_0 l hfl dC dI cI cZ cJ cD w26 w27 w28 w29 w30 w31 w32 w33 w34 w35 w36 w37 w38 w39 _) q768 okX4_dropConstraint hP hD hK hE hS hA [0] [] rfl rfl (by decide) (by decide) (by decide) (ci := 4) rfl 0 rfl rfl rfl hl.1 rfl (Nat.le_of_ble_eq_true rfl) ⟨rfl, rfl⟩ ⟨Nat.le_of_ble_eq_true rfl, Nat.le_of_ble_eq_true rfl⟩ ⟨Nat.le_of_ble_eq_true rfl, Nat.le_of_ble_eq_true rfl⟩ dL_law_324 (fun H locs hP hD hS => ?_)
  have hP : va_P (dC, dI) vwCl [(w26, .inr (4, [.int 1, .int 0, .ref w27, .ref w28, .ref w29, .ref w30, .int 0, .ref w31, .ref w32, .ref w33, .ref w34, .int 0, .int 0, .int 0, .int 0, .ref w35, .ref w36, .ref w37, .ref w38, .ref w39]))] H := hP
  have hD : va_D A [(w26, .inr (4, [.int 1, .int 0, .ref w27, .ref w28, .ref w29, .ref w30, .int 0, .ref w31, .ref w32, .ref w33, .ref w34, .int 0, .int 0, .int 0, .int 0, .ref w35, .ref w36, .ref w37, .ref w38, .ref w39]))] := hD
  refine W.eq (g2 := F0 m 327 ls [.int 0]) rfl ?_
  refine lv_istore (lv' := [(7, .int 0), (6, .int 1), (5, .int 0), (4, .ref w41), (3, .ref w40), (2, .ref w26), (1, .ref w1), (0, .ref b)]) hx hb dL_law_327 hl (by decide) rfl (fun ls hl => ?_)
  refine lv_aload_n hx hb dL_law_329 rfl (lv_at hl 5 rfl) ?_
  refine xc_V (b := w26) (wc := [(w26, .inr (4, [.int 1, .int 0, .ref w27, .ref w28, .ref w29, .ref w30, .int 0, .ref w31, .ref w32, .ref w33, .ref w34, .int 0, .int 0, .int 0, .int 0, .ref w35, .ref w36, .ref w37, .ref w38, .ref w39]))]) (As := []) (rest := []) (wr := []) ⟨hx, hb, hml, hown, hts⟩ (kX4_thrown_0 l hfl dC dI cI cZ cJ cD w26 w27 w28 w29 w30 w31 w32 w33 w34 w35 w36 w37 w38 w39 _) q748 okX4_thrown hP hD hK hE hS hA [0] [] rfl rfl (by decide) (by decide) (by decide) (ci := 4) rfl 0 rfl rfl rfl hl.1 rfl (Nat.le_of_ble_eq_true rfl) ⟨rfl, rfl⟩ ⟨Nat.le_of_ble_eq_true rfl, Nat.le_of_ble_eq_true rfl⟩ ⟨Nat.le_of_ble_eq_true rfl, Nat.le_of_ble_eq_true rfl⟩ dL_law_330 (fun H locs hP hD hS => ?_)
  have hP : va_P (dC, dI) vwCl [(w26, .inr (4, [.int 1, .int 0, .ref w27, .ref w28, .ref w29, .ref w30, .int 0, .ref w31, .ref w32, .ref w33, .ref w34, .int 0, .int 0, .int 0, .int 0, .ref w35, .ref w36, .ref w37, .ref w38, .ref w39]))] H := hP
  have hD : va_D A [(w26, .inr (4, [.int 1, .int 0, .ref w27, .ref w28, .ref w29, .ref w30, .int 0, .ref w31, .ref w32, .ref w33, .ref w34, .int 0, .int 0, .int 0, .int 0, .ref w35, .ref w36, .ref w37, .ref w38, .ref w39]))] := hD
  refine W.eq (g2 := F0 m 333 ls [.int 1]) rfl ?_
  refine lv_iload hx hb dL_law_333 (lv_at hl 1 rfl) ?_
  refine lv_icmp_eq (tgt := 340) hx hb dL_law_335 (by decide) (fun _ => ?_) (fun h9 => absurd (by decide) h9)
  refine lv_iload hx hb dL_law_340 (lv_at hl 1 rfl) ?_
  refine lv_if_ne (tgt := 357) hx hb dL_law_342 (by decide) (fun _ => ?_) (fun h9 => absurd h9 (by decide))
  refine lv_goto (tgt := 1401) hx hb dL_law_357 (by decide) ?_
  exact law_tail C hS (lv_sub hl [2, 7] rfl) (Nat.le_of_ble_eq_true rfl) (Nat.le_of_ble_eq_true rfl)
set_option maxHeartbeats 4000000 in
set_option maxRecDepth 100000 in
theorem law_3_0 {p : Program} {l : Launch} {e : Env} {s : State} {m : MethodId} {below : List Frame} {meth : Method} {c : Code} {b : Nat} {xs : Nat → Int32} {A : Nat → Prop} {dC : Nat → ClassId} {dI : Nat → Nat → Nat} {cI cZ cJ cD : ClassId} {w1 w2 w14 w24 w26 w27 w28 w29 w30 w31 w32 w33 w34 w35 w36 w37 w38 w39 w40 w41 : Nat} (C : LC p l s m meth c b xs A dC dI cI cZ cJ cD) {H : Heap} {locs : List Loc} {ls : Array Slot} (hP : va_P (dC, dI) vwCl [(w1, .inr (3, [.ref w2, .ref w14, .ref w24, .int 0])), (w26, .inr (4, [.int 0, .int 0, .ref w27, .ref w28, .ref w29, .ref w30, .int 0, .ref w31, .ref w32, .ref w33, .ref w34, .int 0, .int 0, .int 0, .int 0, .ref w35, .ref w36, .ref w37, .ref w38, .ref w39]))] H) (hD : va_D A [(w1, .inr (3, [.ref w2, .ref w14, .ref w24, .int 0])), (w26, .inr (4, [.int 0, .int 0, .ref w27, .ref w28, .ref w29, .ref w30, .int 0, .ref w31, .ref w32, .ref w33, .ref w34, .int 0, .int 0, .int 0, .int 0, .ref w35, .ref w36, .ref w37, .ref w38, .ref w39]))]) (hS : va_S A s.heap H locs) (hl : lv_has ls 9 [(5, .int 0), (4, .ref w41), (3, .ref w40), (2, .ref w26), (1, .ref w1), (0, .ref b)]) (h0 : (xs 1) < 0) : W p l e room_1 s m #[Value.ref b] below meth c H locs 41 66559 (lw_Z below #[Value.ref b] s) (F0 m 360 ls []) := by
  obtain ⟨hx, hb, hr, hml, hown, hts, hlocks, hX, hbl, hK, hE, hA, hA2, hbA, hfl⟩ := id C
  refine lv_aload_n hx hb dL_law_360 rfl (lv_at hl 4 rfl) ?_
  refine lv_aload_n hx hb dL_law_361 rfl (lv_at hl 5 rfl) ?_
  refine lv_iload hx hb dL_law_362 (lv_at hl 0 rfl) ?_
  refine lv_iconst (v := 1) hx hb dL_law_364 (by decide) ?_
  refine lv_iadd hx hb dL_law_365 ?_
  refine tI (v := 1) (by decide +kernel) ?_
  refine va_sld hx hb hX hbl hbA hS (vin (k := 1) (by decide) (by decide +kernel) (by decide)) dL_law_366 ?_
  refine tI (v := xs 1) (congrArg xs (by decide +kernel)) ?_
  refine lv_aload_n hx hb dL_law_367 rfl (lv_at hl 5 rfl) ?_
  refine lv_iload hx hb dL_law_368 (lv_at hl 0 rfl) ?_
  refine lv_iconst (v := 2) hx hb dL_law_370 (by decide) ?_
  refine lv_iadd hx hb dL_law_371 ?_
  refine tI (v := 2) (by decide +kernel) ?_
  refine va_sld hx hb hX hbl hbA hS (vin (k := 2) (by decide) (by decide +kernel) (by decide)) dL_law_372 ?_
  refine tI (v := xs 2) (congrArg xs (by decide +kernel)) ?_
  refine lv_aload_n hx hb dL_law_373 rfl (lv_at hl 5 rfl) ?_
  refine lv_iload hx hb dL_law_374 (lv_at hl 0 rfl) ?_
  refine lv_iconst (v := 3) hx hb dL_law_376 (by decide) ?_
  refine lv_iadd hx hb dL_law_377 ?_
  refine tI (v := 3) (by decide +kernel) ?_
  refine va_sld hx hb hX hbl hbA hS (vin (k := 3) (by decide) (by decide +kernel) (by decide)) dL_law_378 ?_
  refine tI (v := xs 3) (congrArg xs (by decide +kernel)) ?_
  refine lv_aload_n hx hb dL_law_379 rfl (lv_at hl 2 rfl) ?_
  refine xc_H (wc := [(w1, .inr (3, [.ref w2, .ref w14, .ref w24, .int 0]))]) (As := [.ref w1, .int (xs 1), .int (xs 2), .int (xs 3), .ref w40]) (rest := []) (wr := [(w26, .inr (4, [.int 0, .int 0, .ref w27, .ref w28, .ref w29, .ref w30, .int 0, .ref w31, .ref w32, .ref w33, .ref w34, .int 0, .int 0, .int 0, .int 0, .ref w35, .ref w36, .ref w37, .ref w38, .ref w39]))]) ⟨hx, hb, hml, hown, hts⟩ (kL_give_0 l hfl dC dI cI cZ cJ cD w1 w40 w2 w14 w24 (xs 1) (xs 2) (xs 3) _ h0) q528 okL_give hP hD hK hE hS hA [0] [1] rfl rfl (by decide) (by decide) (by decide) rfl hl.1 rfl (Nat.le_of_ble_eq_true rfl) ⟨rfl, rfl⟩ ⟨Nat.le_of_ble_eq_true rfl, Nat.le_of_ble_eq_true rfl⟩ ⟨Nat.le_of_ble_eq_true rfl, Nat.le_of_ble_eq_true rfl⟩ dL_law_380 (fun H locs hP hD hS => ?_)
  have hP : va_P (dC, dI) vwCl [(w26, .inr (4, [.int 0, .int 0, .ref w27, .ref w28, .ref w29, .ref w30, .int 0, .ref w31, .ref w32, .ref w33, .ref w34, .int 0, .int 0, .int 0, .int 0, .ref w35, .ref w36, .ref w37, .ref w38, .ref w39]))] H := hP
  have hD : va_D A [(w26, .inr (4, [.int 0, .int 0, .ref w27, .ref w28, .ref w29, .ref w30, .int 0, .ref w31, .ref w32, .ref w33, .ref w34, .int 0, .int 0, .int 0, .int 0, .ref w35, .ref w36, .ref w37, .ref w38, .ref w39]))] := hD
  refine W.eq (g2 := F0 m 383 ls [.int 1]) rfl ?_
  refine lv_istore (lv' := [(6, .int 1), (5, .int 0), (4, .ref w41), (3, .ref w40), (2, .ref w26), (1, .ref w1), (0, .ref b)]) hx hb dL_law_383 hl (by decide) rfl (fun ls hl => ?_)
  refine lv_aload_n hx hb dL_law_385 rfl (lv_at hl 4 rfl) ?_
  refine lv_aload_n hx hb dL_law_386 rfl (lv_at hl 6 rfl) ?_
  refine lv_iload hx hb dL_law_387 (lv_at hl 1 rfl) ?_
  refine lv_iconst (v := 1) hx hb dL_law_389 (by decide) ?_
  refine lv_iadd hx hb dL_law_390 ?_
  refine tI (v := 1) (by decide +kernel) ?_
  refine va_sld hx hb hX hbl hbA hS (vin (k := 1) (by decide) (by decide +kernel) (by decide)) dL_law_391 ?_
  refine tI (v := xs 1) (congrArg xs (by decide +kernel)) ?_
  refine lv_aload_n hx hb dL_law_392 rfl (lv_at hl 6 rfl) ?_
  refine lv_iload hx hb dL_law_393 (lv_at hl 1 rfl) ?_
  refine lv_iconst (v := 2) hx hb dL_law_395 (by decide) ?_
  refine lv_iadd hx hb dL_law_396 ?_
  refine tI (v := 2) (by decide +kernel) ?_
  refine va_sld hx hb hX hbl hbA hS (vin (k := 2) (by decide) (by decide +kernel) (by decide)) dL_law_397 ?_
  refine tI (v := xs 2) (congrArg xs (by decide +kernel)) ?_
  refine lv_aload_n hx hb dL_law_398 rfl (lv_at hl 6 rfl) ?_
  refine lv_iload hx hb dL_law_399 (lv_at hl 1 rfl) ?_
  refine lv_iconst (v := 3) hx hb dL_law_401 (by decide) ?_
  refine lv_iadd hx hb dL_law_402 ?_
  refine tI (v := 3) (by decide +kernel) ?_
  refine va_sld hx hb hX hbl hbA hS (vin (k := 3) (by decide) (by decide +kernel) (by decide)) dL_law_403 ?_
  refine tI (v := xs 3) (congrArg xs (by decide +kernel)) ?_
  refine xc_V (b := w26) (wc := [(w26, .inr (4, [.int 0, .int 0, .ref w27, .ref w28, .ref w29, .ref w30, .int 0, .ref w31, .ref w32, .ref w33, .ref w34, .int 0, .int 0, .int 0, .int 0, .ref w35, .ref w36, .ref w37, .ref w38, .ref w39]))]) (As := [.int (xs 1), .int (xs 2), .int (xs 3)]) (rest := []) (wr := []) ⟨hx, hb, hml, hown, hts⟩ (kX4_give_0 l hfl dC dI cI cZ cJ cD w26 w27 w28 w29 w30 w31 w32 w33 w34 w35 w36 w37 w38 w39 (xs 1) (xs 2) (xs 3) _ h0) q772 okX4_give hP hD hK hE hS hA [0] [] rfl rfl (by decide) (by decide) (by decide) (ci := 4) rfl 0 rfl rfl rfl hl.1 rfl (Nat.le_of_ble_eq_true rfl) ⟨rfl, rfl⟩ ⟨Nat.le_of_ble_eq_true rfl, Nat.le_of_ble_eq_true rfl⟩ ⟨Nat.le_of_ble_eq_true rfl, Nat.le_of_ble_eq_true rfl⟩ dL_law_404 (fun H locs hP hD hS => ?_)
  have hP : va_P (dC, dI) vwCl [(w26, .inr (4, [.int 1, .int 0, .ref w27, .ref w28, .ref w29, .ref w30, .int 0, .ref w31, .ref w32, .ref w33, .ref w34, .int 0, .int 0, .int 0, .int 0, .ref w35, .ref w36, .ref w37, .ref w38, .ref w39]))] H := hP
  have hD : va_D A [(w26, .inr (4, [.int 1, .int 0, .ref w27, .ref w28, .ref w29, .ref w30, .int 0, .ref w31, .ref w32, .ref w33, .ref w34, .int 0, .int 0, .int 0, .int 0, .ref w35, .ref w36, .ref w37, .ref w38, .ref w39]))] := hD
  refine W.eq (g2 := F0 m 407 ls [.int 0]) rfl ?_
  refine lv_istore (lv' := [(7, .int 0), (6, .int 1), (5, .int 0), (4, .ref w41), (3, .ref w40), (2, .ref w26), (1, .ref w1), (0, .ref b)]) hx hb dL_law_407 hl (by decide) rfl (fun ls hl => ?_)
  refine lv_aload_n hx hb dL_law_409 rfl (lv_at hl 5 rfl) ?_
  refine xc_V (b := w26) (wc := [(w26, .inr (4, [.int 1, .int 0, .ref w27, .ref w28, .ref w29, .ref w30, .int 0, .ref w31, .ref w32, .ref w33, .ref w34, .int 0, .int 0, .int 0, .int 0, .ref w35, .ref w36, .ref w37, .ref w38, .ref w39]))]) (As := []) (rest := []) (wr := []) ⟨hx, hb, hml, hown, hts⟩ (kX4_thrown_0 l hfl dC dI cI cZ cJ cD w26 w27 w28 w29 w30 w31 w32 w33 w34 w35 w36 w37 w38 w39 _) q748 okX4_thrown hP hD hK hE hS hA [0] [] rfl rfl (by decide) (by decide) (by decide) (ci := 4) rfl 0 rfl rfl rfl hl.1 rfl (Nat.le_of_ble_eq_true rfl) ⟨rfl, rfl⟩ ⟨Nat.le_of_ble_eq_true rfl, Nat.le_of_ble_eq_true rfl⟩ ⟨Nat.le_of_ble_eq_true rfl, Nat.le_of_ble_eq_true rfl⟩ dL_law_410 (fun H locs hP hD hS => ?_)
  have hP : va_P (dC, dI) vwCl [(w26, .inr (4, [.int 1, .int 0, .ref w27, .ref w28, .ref w29, .ref w30, .int 0, .ref w31, .ref w32, .ref w33, .ref w34, .int 0, .int 0, .int 0, .int 0, .ref w35, .ref w36, .ref w37, .ref w38, .ref w39]))] H := hP
  have hD : va_D A [(w26, .inr (4, [.int 1, .int 0, .ref w27, .ref w28, .ref w29, .ref w30, .int 0, .ref w31, .ref w32, .ref w33, .ref w34, .int 0, .int 0, .int 0, .int 0, .ref w35, .ref w36, .ref w37, .ref w38, .ref w39]))] := hD
  refine W.eq (g2 := F0 m 413 ls [.int 1]) rfl ?_
  refine lv_iload hx hb dL_law_413 (lv_at hl 1 rfl) ?_
  refine lv_icmp_eq (tgt := 420) hx hb dL_law_415 (by decide) (fun _ => ?_) (fun h9 => absurd (by decide) h9)
  refine lv_iload hx hb dL_law_420 (lv_at hl 1 rfl) ?_
  refine lv_if_ne (tgt := 444) hx hb dL_law_422 (by decide) (fun _ => ?_) (fun h9 => absurd h9 (by decide))
  refine lv_goto (tgt := 1401) hx hb dL_law_444 (by decide) ?_
  exact law_tail C hS (lv_sub hl [2, 7] rfl) (Nat.le_of_ble_eq_true rfl) (Nat.le_of_ble_eq_true rfl)
set_option maxHeartbeats 4000000 in
set_option maxRecDepth 100000 in
theorem law_3_1 {p : Program} {l : Launch} {e : Env} {s : State} {m : MethodId} {below : List Frame} {meth : Method} {c : Code} {b : Nat} {xs : Nat → Int32} {A : Nat → Prop} {dC : Nat → ClassId} {dI : Nat → Nat → Nat} {cI cZ cJ cD : ClassId} {w1 w2 w3 w4 w5 w6 w7 w8 w9 w10 w11 w12 w13 w14 w24 w26 w27 w28 w29 w30 w31 w32 w33 w34 w35 w36 w37 w38 w39 w40 w41 : Nat} (C : LC p l s m meth c b xs A dC dI cI cZ cJ cD) {H : Heap} {locs : List Loc} {ls : Array Slot} (hP : va_P (dC, dI) vwCl [(w1, .inr (3, [.ref w2, .ref w14, .ref w24, .int 0])), (w2, .inr (1, [.int 0, .ref w3, .ref w4, .ref w5, .ref w6, .ref w7, .ref w8, .ref w9, .int 0, .ref w10, .ref w11, .ref w12, .ref w13])), (w26, .inr (4, [.int 0, .int 0, .ref w27, .ref w28, .ref w29, .ref w30, .int 0, .ref w31, .ref w32, .ref w33, .ref w34, .int 0, .int 0, .int 0, .int 0, .ref w35, .ref w36, .ref w37, .ref w38, .ref w39]))] H) (hD : va_D A [(w1, .inr (3, [.ref w2, .ref w14, .ref w24, .int 0])), (w2, .inr (1, [.int 0, .ref w3, .ref w4, .ref w5, .ref w6, .ref w7, .ref w8, .ref w9, .int 0, .ref w10, .ref w11, .ref w12, .ref w13])), (w26, .inr (4, [.int 0, .int 0, .ref w27, .ref w28, .ref w29, .ref w30, .int 0, .ref w31, .ref w32, .ref w33, .ref w34, .int 0, .int 0, .int 0, .int 0, .ref w35, .ref w36, .ref w37, .ref w38, .ref w39]))]) (hS : va_S A s.heap H locs) (hl : lv_has ls 9 [(5, .int 0), (4, .ref w41), (3, .ref w40), (2, .ref w26), (1, .ref w1), (0, .ref b)]) (h0 : ¬ (xs 1) < 0) : W p l e room_1 s m #[Value.ref b] below meth c H locs 41 66559 (lw_Z below #[Value.ref b] s) (F0 m 360 ls []) := by
  obtain ⟨hx, hb, hr, hml, hown, hts, hlocks, hX, hbl, hK, hE, hA, hA2, hbA, hfl⟩ := id C
  refine lv_aload_n hx hb dL_law_360 rfl (lv_at hl 4 rfl) ?_
  refine lv_aload_n hx hb dL_law_361 rfl (lv_at hl 5 rfl) ?_
  refine lv_iload hx hb dL_law_362 (lv_at hl 0 rfl) ?_
  refine lv_iconst (v := 1) hx hb dL_law_364 (by decide) ?_
  refine lv_iadd hx hb dL_law_365 ?_
  refine tI (v := 1) (by decide +kernel) ?_
  refine va_sld hx hb hX hbl hbA hS (vin (k := 1) (by decide) (by decide +kernel) (by decide)) dL_law_366 ?_
  refine tI (v := xs 1) (congrArg xs (by decide +kernel)) ?_
  refine lv_aload_n hx hb dL_law_367 rfl (lv_at hl 5 rfl) ?_
  refine lv_iload hx hb dL_law_368 (lv_at hl 0 rfl) ?_
  refine lv_iconst (v := 2) hx hb dL_law_370 (by decide) ?_
  refine lv_iadd hx hb dL_law_371 ?_
  refine tI (v := 2) (by decide +kernel) ?_
  refine va_sld hx hb hX hbl hbA hS (vin (k := 2) (by decide) (by decide +kernel) (by decide)) dL_law_372 ?_
  refine tI (v := xs 2) (congrArg xs (by decide +kernel)) ?_
  refine lv_aload_n hx hb dL_law_373 rfl (lv_at hl 5 rfl) ?_
  refine lv_iload hx hb dL_law_374 (lv_at hl 0 rfl) ?_
  refine lv_iconst (v := 3) hx hb dL_law_376 (by decide) ?_
  refine lv_iadd hx hb dL_law_377 ?_
  refine tI (v := 3) (by decide +kernel) ?_
  refine va_sld hx hb hX hbl hbA hS (vin (k := 3) (by decide) (by decide +kernel) (by decide)) dL_law_378 ?_
  refine tI (v := xs 3) (congrArg xs (by decide +kernel)) ?_
  refine lv_aload_n hx hb dL_law_379 rfl (lv_at hl 2 rfl) ?_
  refine xc_H (wc := [(w1, .inr (3, [.ref w2, .ref w14, .ref w24, .int 0])), (w2, .inr (1, [.int 0, .ref w3, .ref w4, .ref w5, .ref w6, .ref w7, .ref w8, .ref w9, .int 0, .ref w10, .ref w11, .ref w12, .ref w13]))]) (As := [.ref w1, .int (xs 1), .int (xs 2), .int (xs 3), .ref w40]) (rest := []) (wr := [(w26, .inr (4, [.int 0, .int 0, .ref w27, .ref w28, .ref w29, .ref w30, .int 0, .ref w31, .ref w32, .ref w33, .ref w34, .int 0, .int 0, .int 0, .int 0, .ref w35, .ref w36, .ref w37, .ref w38, .ref w39]))]) ⟨hx, hb, hml, hown, hts⟩ (kL_give_1 l hfl dC dI cI cZ cJ cD w1 w40 w2 w14 w24 w3 w4 w5 w6 w7 w8 w9 w10 w11 w12 w13 (xs 1) (xs 2) (xs 3) _ h0) q528 okL_give hP hD hK hE hS hA [0, 1] [2] rfl rfl (by decide) (by decide) (by decide) rfl hl.1 rfl (Nat.le_of_ble_eq_true rfl) ⟨rfl, rfl⟩ ⟨Nat.le_of_ble_eq_true rfl, Nat.le_of_ble_eq_true rfl⟩ ⟨Nat.le_of_ble_eq_true rfl, Nat.le_of_ble_eq_true rfl⟩ dL_law_380 (fun H locs hP hD hS => ?_)
  have hP : va_P (dC, dI) vwCl [(w26, .inr (4, [.int 0, .int 0, .ref w27, .ref w28, .ref w29, .ref w30, .int 0, .ref w31, .ref w32, .ref w33, .ref w34, .int 0, .int 0, .int 0, .int 0, .ref w35, .ref w36, .ref w37, .ref w38, .ref w39]))] H := hP
  have hD : va_D A [(w26, .inr (4, [.int 0, .int 0, .ref w27, .ref w28, .ref w29, .ref w30, .int 0, .ref w31, .ref w32, .ref w33, .ref w34, .int 0, .int 0, .int 0, .int 0, .ref w35, .ref w36, .ref w37, .ref w38, .ref w39]))] := hD
  refine W.eq (g2 := F0 m 383 ls [.int 1]) rfl ?_
  refine lv_istore (lv' := [(6, .int 1), (5, .int 0), (4, .ref w41), (3, .ref w40), (2, .ref w26), (1, .ref w1), (0, .ref b)]) hx hb dL_law_383 hl (by decide) rfl (fun ls hl => ?_)
  refine lv_aload_n hx hb dL_law_385 rfl (lv_at hl 4 rfl) ?_
  refine lv_aload_n hx hb dL_law_386 rfl (lv_at hl 6 rfl) ?_
  refine lv_iload hx hb dL_law_387 (lv_at hl 1 rfl) ?_
  refine lv_iconst (v := 1) hx hb dL_law_389 (by decide) ?_
  refine lv_iadd hx hb dL_law_390 ?_
  refine tI (v := 1) (by decide +kernel) ?_
  refine va_sld hx hb hX hbl hbA hS (vin (k := 1) (by decide) (by decide +kernel) (by decide)) dL_law_391 ?_
  refine tI (v := xs 1) (congrArg xs (by decide +kernel)) ?_
  refine lv_aload_n hx hb dL_law_392 rfl (lv_at hl 6 rfl) ?_
  refine lv_iload hx hb dL_law_393 (lv_at hl 1 rfl) ?_
  refine lv_iconst (v := 2) hx hb dL_law_395 (by decide) ?_
  refine lv_iadd hx hb dL_law_396 ?_
  refine tI (v := 2) (by decide +kernel) ?_
  refine va_sld hx hb hX hbl hbA hS (vin (k := 2) (by decide) (by decide +kernel) (by decide)) dL_law_397 ?_
  refine tI (v := xs 2) (congrArg xs (by decide +kernel)) ?_
  refine lv_aload_n hx hb dL_law_398 rfl (lv_at hl 6 rfl) ?_
  refine lv_iload hx hb dL_law_399 (lv_at hl 1 rfl) ?_
  refine lv_iconst (v := 3) hx hb dL_law_401 (by decide) ?_
  refine lv_iadd hx hb dL_law_402 ?_
  refine tI (v := 3) (by decide +kernel) ?_
  refine va_sld hx hb hX hbl hbA hS (vin (k := 3) (by decide) (by decide +kernel) (by decide)) dL_law_403 ?_
  refine tI (v := xs 3) (congrArg xs (by decide +kernel)) ?_
  refine xc_V (b := w26) (wc := [(w26, .inr (4, [.int 0, .int 0, .ref w27, .ref w28, .ref w29, .ref w30, .int 0, .ref w31, .ref w32, .ref w33, .ref w34, .int 0, .int 0, .int 0, .int 0, .ref w35, .ref w36, .ref w37, .ref w38, .ref w39]))]) (As := [.int (xs 1), .int (xs 2), .int (xs 3)]) (rest := []) (wr := []) ⟨hx, hb, hml, hown, hts⟩ (kX4_give_1 l hfl dC dI cI cZ cJ cD w26 w27 w28 w29 w30 w31 w32 w33 w34 w35 w36 w37 w38 w39 (xs 1) (xs 2) (xs 3) _ h0) q772 okX4_give hP hD hK hE hS hA [0] [] rfl rfl (by decide) (by decide) (by decide) (ci := 4) rfl 0 rfl rfl rfl hl.1 rfl (Nat.le_of_ble_eq_true rfl) ⟨rfl, rfl⟩ ⟨Nat.le_of_ble_eq_true rfl, Nat.le_of_ble_eq_true rfl⟩ ⟨Nat.le_of_ble_eq_true rfl, Nat.le_of_ble_eq_true rfl⟩ dL_law_404 (fun H locs hP hD hS => ?_)
  have hP : va_P (dC, dI) vwCl [(w26, .inr (4, [.int 1, .int 0, .ref w27, .ref w28, .ref w29, .ref w30, .int 0, .ref w31, .ref w32, .ref w33, .ref w34, .int 0, .int 0, .int 0, .int 0, .ref w35, .ref w36, .ref w37, .ref w38, .ref w39]))] H := hP
  have hD : va_D A [(w26, .inr (4, [.int 1, .int 0, .ref w27, .ref w28, .ref w29, .ref w30, .int 0, .ref w31, .ref w32, .ref w33, .ref w34, .int 0, .int 0, .int 0, .int 0, .ref w35, .ref w36, .ref w37, .ref w38, .ref w39]))] := hD
  refine W.eq (g2 := F0 m 407 ls [.int 0]) rfl ?_
  refine lv_istore (lv' := [(7, .int 0), (6, .int 1), (5, .int 0), (4, .ref w41), (3, .ref w40), (2, .ref w26), (1, .ref w1), (0, .ref b)]) hx hb dL_law_407 hl (by decide) rfl (fun ls hl => ?_)
  refine lv_aload_n hx hb dL_law_409 rfl (lv_at hl 5 rfl) ?_
  refine xc_V (b := w26) (wc := [(w26, .inr (4, [.int 1, .int 0, .ref w27, .ref w28, .ref w29, .ref w30, .int 0, .ref w31, .ref w32, .ref w33, .ref w34, .int 0, .int 0, .int 0, .int 0, .ref w35, .ref w36, .ref w37, .ref w38, .ref w39]))]) (As := []) (rest := []) (wr := []) ⟨hx, hb, hml, hown, hts⟩ (kX4_thrown_0 l hfl dC dI cI cZ cJ cD w26 w27 w28 w29 w30 w31 w32 w33 w34 w35 w36 w37 w38 w39 _) q748 okX4_thrown hP hD hK hE hS hA [0] [] rfl rfl (by decide) (by decide) (by decide) (ci := 4) rfl 0 rfl rfl rfl hl.1 rfl (Nat.le_of_ble_eq_true rfl) ⟨rfl, rfl⟩ ⟨Nat.le_of_ble_eq_true rfl, Nat.le_of_ble_eq_true rfl⟩ ⟨Nat.le_of_ble_eq_true rfl, Nat.le_of_ble_eq_true rfl⟩ dL_law_410 (fun H locs hP hD hS => ?_)
  have hP : va_P (dC, dI) vwCl [(w26, .inr (4, [.int 1, .int 0, .ref w27, .ref w28, .ref w29, .ref w30, .int 0, .ref w31, .ref w32, .ref w33, .ref w34, .int 0, .int 0, .int 0, .int 0, .ref w35, .ref w36, .ref w37, .ref w38, .ref w39]))] H := hP
  have hD : va_D A [(w26, .inr (4, [.int 1, .int 0, .ref w27, .ref w28, .ref w29, .ref w30, .int 0, .ref w31, .ref w32, .ref w33, .ref w34, .int 0, .int 0, .int 0, .int 0, .ref w35, .ref w36, .ref w37, .ref w38, .ref w39]))] := hD
  refine W.eq (g2 := F0 m 413 ls [.int 1]) rfl ?_
  refine lv_iload hx hb dL_law_413 (lv_at hl 1 rfl) ?_
  refine lv_icmp_eq (tgt := 420) hx hb dL_law_415 (by decide) (fun _ => ?_) (fun h9 => absurd (by decide) h9)
  refine lv_iload hx hb dL_law_420 (lv_at hl 1 rfl) ?_
  refine lv_if_ne (tgt := 444) hx hb dL_law_422 (by decide) (fun _ => ?_) (fun h9 => absurd h9 (by decide))
  refine lv_goto (tgt := 1401) hx hb dL_law_444 (by decide) ?_
  exact law_tail C hS (lv_sub hl [2, 7] rfl) (Nat.le_of_ble_eq_true rfl) (Nat.le_of_ble_eq_true rfl)
set_option maxHeartbeats 4000000 in
set_option maxRecDepth 100000 in
theorem law_4_0 {p : Program} {l : Launch} {e : Env} {s : State} {m : MethodId} {below : List Frame} {meth : Method} {c : Code} {b : Nat} {xs : Nat → Int32} {A : Nat → Prop} {dC : Nat → ClassId} {dI : Nat → Nat → Nat} {cI cZ cJ cD : ClassId} {w1 w2 w3 w4 w5 w6 w7 w8 w9 w10 w11 w12 w13 w14 w24 w26 w27 w28 w29 w30 w31 w32 w33 w34 w35 w36 w37 w38 w39 w40 w41 : Nat} (C : LC p l s m meth c b xs A dC dI cI cZ cJ cD) {H : Heap} {locs : List Loc} {ls : Array Slot} (hP : va_P (dC, dI) vwCl [(w1, .inr (3, [.ref w2, .ref w14, .ref w24, .int 0])), (w2, .inr (1, [.int 0, .ref w3, .ref w4, .ref w5, .ref w6, .ref w7, .ref w8, .ref w9, .int 0, .ref w10, .ref w11, .ref w12, .ref w13])), (w26, .inr (4, [.int 0, .int 0, .ref w27, .ref w28, .ref w29, .ref w30, .int 0, .ref w31, .ref w32, .ref w33, .ref w34, .int 0, .int 0, .int 0, .int 0, .ref w35, .ref w36, .ref w37, .ref w38, .ref w39]))] H) (hD : va_D A [(w1, .inr (3, [.ref w2, .ref w14, .ref w24, .int 0])), (w2, .inr (1, [.int 0, .ref w3, .ref w4, .ref w5, .ref w6, .ref w7, .ref w8, .ref w9, .int 0, .ref w10, .ref w11, .ref w12, .ref w13])), (w26, .inr (4, [.int 0, .int 0, .ref w27, .ref w28, .ref w29, .ref w30, .int 0, .ref w31, .ref w32, .ref w33, .ref w34, .int 0, .int 0, .int 0, .int 0, .ref w35, .ref w36, .ref w37, .ref w38, .ref w39]))]) (hS : va_S A s.heap H locs) (hl : lv_has ls 9 [(5, .int 0), (4, .ref w41), (3, .ref w40), (2, .ref w26), (1, .ref w1), (0, .ref b)])  : W p l e room_1 s m #[Value.ref b] below meth c H locs 41 66559 (lw_Z below #[Value.ref b] s) (F0 m 447 ls []) := by
  obtain ⟨hx, hb, hr, hml, hown, hts, hlocks, hX, hbl, hK, hE, hA, hA2, hbA, hfl⟩ := id C
  refine lv_aload_n hx hb dL_law_447 rfl (lv_at hl 4 rfl) ?_
  refine xc_V (b := w1) (wc := [(w1, .inr (3, [.ref w2, .ref w14, .ref w24, .int 0])), (w2, .inr (1, [.int 0, .ref w3, .ref w4, .ref w5, .ref w6, .ref w7, .ref w8, .ref w9, .int 0, .ref w10, .ref w11, .ref w12, .ref w13]))]) (As := []) (rest := []) (wr := [(w26, .inr (4, [.int 0, .int 0, .ref w27, .ref w28, .ref w29, .ref w30, .int 0, .ref w31, .ref w32, .ref w33, .ref w34, .int 0, .int 0, .int 0, .int 0, .ref w35, .ref w36, .ref w37, .ref w38, .ref w39]))]) ⟨hx, hb, hml, hown, hts⟩ (kX3_open_0 l hfl dC dI cI cZ cJ cD w1 w2 w14 w24 w3 w4 w5 w6 w7 w8 w9 w10 w11 w12 w13 _) q177 okX3_open hP hD hK hE hS hA [0, 1] [2] rfl rfl (by decide) (by decide) (by decide) (ci := 3) rfl 0 rfl rfl rfl hl.1 rfl (Nat.le_of_ble_eq_true rfl) ⟨rfl, rfl⟩ ⟨Nat.le_of_ble_eq_true rfl, Nat.le_of_ble_eq_true rfl⟩ ⟨Nat.le_of_ble_eq_true rfl, Nat.le_of_ble_eq_true rfl⟩ dL_law_448 (fun H locs hP hD hS => ?_)
  have hP : va_P (dC, dI) vwCl [(w26, .inr (4, [.int 0, .int 0, .ref w27, .ref w28, .ref w29, .ref w30, .int 0, .ref w31, .ref w32, .ref w33, .ref w34, .int 0, .int 0, .int 0, .int 0, .ref w35, .ref w36, .ref w37, .ref w38, .ref w39])), (w1, .inr (3, [.ref w2, .ref w14, .ref w24, .int 0])), (w2, .inr (1, [.int 0, .ref w3, .ref w4, .ref w5, .ref w6, .ref w7, .ref w8, .ref w9, .int 0, .ref w10, .ref w11, .ref w12, .ref w13]))] H := hP
  have hD : va_D A [(w26, .inr (4, [.int 0, .int 0, .ref w27, .ref w28, .ref w29, .ref w30, .int 0, .ref w31, .ref w32, .ref w33, .ref w34, .int 0, .int 0, .int 0, .int 0, .ref w35, .ref w36, .ref w37, .ref w38, .ref w39])), (w1, .inr (3, [.ref w2, .ref w14, .ref w24, .int 0])), (w2, .inr (1, [.int 0, .ref w3, .ref w4, .ref w5, .ref w6, .ref w7, .ref w8, .ref w9, .int 0, .ref w10, .ref w11, .ref w12, .ref w13]))] := hD
  refine W.eq (g2 := F0 m 451 ls [.int 0]) rfl ?_
  refine lv_aload_n hx hb dL_law_451 rfl (lv_at hl 3 rfl) ?_
  refine xc_V (b := w26) (wc := [(w26, .inr (4, [.int 0, .int 0, .ref w27, .ref w28, .ref w29, .ref w30, .int 0, .ref w31, .ref w32, .ref w33, .ref w34, .int 0, .int 0, .int 0, .int 0, .ref w35, .ref w36, .ref w37, .ref w38, .ref w39]))]) (As := []) (rest := [.int 0]) (wr := [(w1, .inr (3, [.ref w2, .ref w14, .ref w24, .int 0])), (w2, .inr (1, [.int 0, .ref w3, .ref w4, .ref w5, .ref w6, .ref w7, .ref w8, .ref w9, .int 0, .ref w10, .ref w11, .ref w12, .ref w13]))]) ⟨hx, hb, hml, hown, hts⟩ (kX4_open_0 l hfl dC dI cI cZ cJ cD w26 w27 w28 w29 w30 w31 w32 w33 w34 w35 w36 w37 w38 w39 _) q780 okX4_open hP hD hK hE hS hA [0] [1, 2] rfl rfl (by decide) (by decide) (by decide) (ci := 4) rfl 0 rfl rfl rfl hl.1 rfl (Nat.le_of_ble_eq_true rfl) ⟨rfl, rfl⟩ ⟨Nat.le_of_ble_eq_true rfl, Nat.le_of_ble_eq_true rfl⟩ ⟨Nat.le_of_ble_eq_true rfl, Nat.le_of_ble_eq_true rfl⟩ dL_law_452 (fun H locs hP hD hS => ?_)
  have hP : va_P (dC, dI) vwCl [(w1, .inr (3, [.ref w2, .ref w14, .ref w24, .int 0])), (w2, .inr (1, [.int 0, .ref w3, .ref w4, .ref w5, .ref w6, .ref w7, .ref w8, .ref w9, .int 0, .ref w10, .ref w11, .ref w12, .ref w13])), (w26, .inr (4, [.int 0, .int 0, .ref w27, .ref w28, .ref w29, .ref w30, .int 0, .ref w31, .ref w32, .ref w33, .ref w34, .int 0, .int 0, .int 0, .int 0, .ref w35, .ref w36, .ref w37, .ref w38, .ref w39]))] H := hP
  have hD : va_D A [(w1, .inr (3, [.ref w2, .ref w14, .ref w24, .int 0])), (w2, .inr (1, [.int 0, .ref w3, .ref w4, .ref w5, .ref w6, .ref w7, .ref w8, .ref w9, .int 0, .ref w10, .ref w11, .ref w12, .ref w13])), (w26, .inr (4, [.int 0, .int 0, .ref w27, .ref w28, .ref w29, .ref w30, .int 0, .ref w31, .ref w32, .ref w33, .ref w34, .int 0, .int 0, .int 0, .int 0, .ref w35, .ref w36, .ref w37, .ref w38, .ref w39]))] := hD
  refine W.eq (g2 := F0 m 455 ls [.int 0, .int 0]) rfl ?_
  refine lv_icmp_eq (tgt := 1401) hx hb dL_law_455 (by decide) (fun _ => ?_) (fun h9 => absurd (by decide) h9)
  exact law_tail C hS (lv_sub hl [0, 5] rfl) (Nat.le_of_ble_eq_true rfl) (Nat.le_of_ble_eq_true rfl)
set_option maxHeartbeats 4000000 in
set_option maxRecDepth 100000 in
theorem law_5_0 {p : Program} {l : Launch} {e : Env} {s : State} {m : MethodId} {below : List Frame} {meth : Method} {c : Code} {b : Nat} {xs : Nat → Int32} {A : Nat → Prop} {dC : Nat → ClassId} {dI : Nat → Nat → Nat} {cI cZ cJ cD : ClassId} {w1 w2 w3 w4 w5 w6 w7 w8 w9 w10 w11 w12 w13 w14 w24 w26 w27 w28 w29 w30 w31 w32 w33 w34 w35 w36 w37 w38 w39 w40 w41 : Nat} (C : LC p l s m meth c b xs A dC dI cI cZ cJ cD) {H : Heap} {locs : List Loc} {ls : Array Slot} (hP : va_P (dC, dI) vwCl [(w1, .inr (3, [.ref w2, .ref w14, .ref w24, .int 0])), (w2, .inr (1, [.int 0, .ref w3, .ref w4, .ref w5, .ref w6, .ref w7, .ref w8, .ref w9, .int 0, .ref w10, .ref w11, .ref w12, .ref w13])), (w26, .inr (4, [.int 0, .int 0, .ref w27, .ref w28, .ref w29, .ref w30, .int 0, .ref w31, .ref w32, .ref w33, .ref w34, .int 0, .int 0, .int 0, .int 0, .ref w35, .ref w36, .ref w37, .ref w38, .ref w39]))] H) (hD : va_D A [(w1, .inr (3, [.ref w2, .ref w14, .ref w24, .int 0])), (w2, .inr (1, [.int 0, .ref w3, .ref w4, .ref w5, .ref w6, .ref w7, .ref w8, .ref w9, .int 0, .ref w10, .ref w11, .ref w12, .ref w13])), (w26, .inr (4, [.int 0, .int 0, .ref w27, .ref w28, .ref w29, .ref w30, .int 0, .ref w31, .ref w32, .ref w33, .ref w34, .int 0, .int 0, .int 0, .int 0, .ref w35, .ref w36, .ref w37, .ref w38, .ref w39]))]) (hS : va_S A s.heap H locs) (hl : lv_has ls 9 [(5, .int 0), (4, .ref w41), (3, .ref w40), (2, .ref w26), (1, .ref w1), (0, .ref b)])  : W p l e room_1 s m #[Value.ref b] below meth c H locs 41 66559 (lw_Z below #[Value.ref b] s) (F0 m 460 ls []) := by
  obtain ⟨hx, hb, hr, hml, hown, hts, hlocks, hX, hbl, hK, hE, hA, hA2, hbA, hfl⟩ := id C
  refine lv_aload_n hx hb dL_law_460 rfl (lv_at hl 4 rfl) ?_
  refine xc_V (b := w1) (wc := [(w1, .inr (3, [.ref w2, .ref w14, .ref w24, .int 0])), (w2, .inr (1, [.int 0, .ref w3, .ref w4, .ref w5, .ref w6, .ref w7, .ref w8, .ref w9, .int 0, .ref w10, .ref w11, .ref w12, .ref w13]))]) (As := []) (rest := []) (wr := [(w26, .inr (4, [.int 0, .int 0, .ref w27, .ref w28, .ref w29, .ref w30, .int 0, .ref w31, .ref w32, .ref w33, .ref w34, .int 0, .int 0, .int 0, .int 0, .ref w35, .ref w36, .ref w37, .ref w38, .ref w39]))]) ⟨hx, hb, hml, hown, hts⟩ (kX3_variableCount_0 l hfl dC dI cI cZ cJ cD w1 w2 w14 w24 w3 w4 w5 w6 w7 w8 w9 w10 w11 w12 w13 _) q185 okX3_variableCount hP hD hK hE hS hA [0, 1] [2] rfl rfl (by decide) (by decide) (by decide) (ci := 3) rfl 0 rfl rfl rfl hl.1 rfl (Nat.le_of_ble_eq_true rfl) ⟨rfl, rfl⟩ ⟨Nat.le_of_ble_eq_true rfl, Nat.le_of_ble_eq_true rfl⟩ ⟨Nat.le_of_ble_eq_true rfl, Nat.le_of_ble_eq_true rfl⟩ dL_law_461 (fun H locs hP hD hS => ?_)
  have hP : va_P (dC, dI) vwCl [(w26, .inr (4, [.int 0, .int 0, .ref w27, .ref w28, .ref w29, .ref w30, .int 0, .ref w31, .ref w32, .ref w33, .ref w34, .int 0, .int 0, .int 0, .int 0, .ref w35, .ref w36, .ref w37, .ref w38, .ref w39])), (w1, .inr (3, [.ref w2, .ref w14, .ref w24, .int 0])), (w2, .inr (1, [.int 0, .ref w3, .ref w4, .ref w5, .ref w6, .ref w7, .ref w8, .ref w9, .int 0, .ref w10, .ref w11, .ref w12, .ref w13]))] H := hP
  have hD : va_D A [(w26, .inr (4, [.int 0, .int 0, .ref w27, .ref w28, .ref w29, .ref w30, .int 0, .ref w31, .ref w32, .ref w33, .ref w34, .int 0, .int 0, .int 0, .int 0, .ref w35, .ref w36, .ref w37, .ref w38, .ref w39])), (w1, .inr (3, [.ref w2, .ref w14, .ref w24, .int 0])), (w2, .inr (1, [.int 0, .ref w3, .ref w4, .ref w5, .ref w6, .ref w7, .ref w8, .ref w9, .int 0, .ref w10, .ref w11, .ref w12, .ref w13]))] := hD
  refine W.eq (g2 := F0 m 464 ls [.int 0]) rfl ?_
  refine lv_aload_n hx hb dL_law_464 rfl (lv_at hl 3 rfl) ?_
  refine xc_V (b := w26) (wc := [(w26, .inr (4, [.int 0, .int 0, .ref w27, .ref w28, .ref w29, .ref w30, .int 0, .ref w31, .ref w32, .ref w33, .ref w34, .int 0, .int 0, .int 0, .int 0, .ref w35, .ref w36, .ref w37, .ref w38, .ref w39]))]) (As := []) (rest := [.int 0]) (wr := [(w1, .inr (3, [.ref w2, .ref w14, .ref w24, .int 0])), (w2, .inr (1, [.int 0, .ref w3, .ref w4, .ref w5, .ref w6, .ref w7, .ref w8, .ref w9, .int 0, .ref w10, .ref w11, .ref w12, .ref w13]))]) ⟨hx, hb, hml, hown, hts⟩ (kX4_variableCount_0 l hfl dC dI cI cZ cJ cD w26 w27 w28 w29 w30 w31 w32 w33 w34 w35 w36 w37 w38 w39 _) q784 okX4_variableCount hP hD hK hE hS hA [0] [1, 2] rfl rfl (by decide) (by decide) (by decide) (ci := 4) rfl 0 rfl rfl rfl hl.1 rfl (Nat.le_of_ble_eq_true rfl) ⟨rfl, rfl⟩ ⟨Nat.le_of_ble_eq_true rfl, Nat.le_of_ble_eq_true rfl⟩ ⟨Nat.le_of_ble_eq_true rfl, Nat.le_of_ble_eq_true rfl⟩ dL_law_465 (fun H locs hP hD hS => ?_)
  have hP : va_P (dC, dI) vwCl [(w1, .inr (3, [.ref w2, .ref w14, .ref w24, .int 0])), (w2, .inr (1, [.int 0, .ref w3, .ref w4, .ref w5, .ref w6, .ref w7, .ref w8, .ref w9, .int 0, .ref w10, .ref w11, .ref w12, .ref w13])), (w26, .inr (4, [.int 0, .int 0, .ref w27, .ref w28, .ref w29, .ref w30, .int 0, .ref w31, .ref w32, .ref w33, .ref w34, .int 0, .int 0, .int 0, .int 0, .ref w35, .ref w36, .ref w37, .ref w38, .ref w39]))] H := hP
  have hD : va_D A [(w1, .inr (3, [.ref w2, .ref w14, .ref w24, .int 0])), (w2, .inr (1, [.int 0, .ref w3, .ref w4, .ref w5, .ref w6, .ref w7, .ref w8, .ref w9, .int 0, .ref w10, .ref w11, .ref w12, .ref w13])), (w26, .inr (4, [.int 0, .int 0, .ref w27, .ref w28, .ref w29, .ref w30, .int 0, .ref w31, .ref w32, .ref w33, .ref w34, .int 0, .int 0, .int 0, .int 0, .ref w35, .ref w36, .ref w37, .ref w38, .ref w39]))] := hD
  refine W.eq (g2 := F0 m 468 ls [.int 0, .int 0]) rfl ?_
  refine lv_icmp_eq (tgt := 1401) hx hb dL_law_468 (by decide) (fun _ => ?_) (fun h9 => absurd (by decide) h9)
  exact law_tail C hS (lv_sub hl [0, 5] rfl) (Nat.le_of_ble_eq_true rfl) (Nat.le_of_ble_eq_true rfl)
set_option maxHeartbeats 4000000 in
set_option maxRecDepth 100000 in
theorem law_6_0 {p : Program} {l : Launch} {e : Env} {s : State} {m : MethodId} {below : List Frame} {meth : Method} {c : Code} {b : Nat} {xs : Nat → Int32} {A : Nat → Prop} {dC : Nat → ClassId} {dI : Nat → Nat → Nat} {cI cZ cJ cD : ClassId} {w1 w2 w14 w24 w26 w27 w28 w29 w30 w31 w32 w33 w34 w35 w36 w37 w38 w39 w40 w41 : Nat} (C : LC p l s m meth c b xs A dC dI cI cZ cJ cD) {H : Heap} {locs : List Loc} {ls : Array Slot} (hP : va_P (dC, dI) vwCl [(w1, .inr (3, [.ref w2, .ref w14, .ref w24, .int 0])), (w26, .inr (4, [.int 0, .int 0, .ref w27, .ref w28, .ref w29, .ref w30, .int 0, .ref w31, .ref w32, .ref w33, .ref w34, .int 0, .int 0, .int 0, .int 0, .ref w35, .ref w36, .ref w37, .ref w38, .ref w39]))] H) (hD : va_D A [(w1, .inr (3, [.ref w2, .ref w14, .ref w24, .int 0])), (w26, .inr (4, [.int 0, .int 0, .ref w27, .ref w28, .ref w29, .ref w30, .int 0, .ref w31, .ref w32, .ref w33, .ref w34, .int 0, .int 0, .int 0, .int 0, .ref w35, .ref w36, .ref w37, .ref w38, .ref w39]))]) (hS : va_S A s.heap H locs) (hl : lv_has ls 9 [(5, .int 0), (4, .ref w41), (3, .ref w40), (2, .ref w26), (1, .ref w1), (0, .ref b)]) (h0 : (xs 1) < 0) : W p l e room_1 s m #[Value.ref b] below meth c H locs 41 66559 (lw_Z below #[Value.ref b] s) (F0 m 473 ls []) := by
  obtain ⟨hx, hb, hr, hml, hown, hts, hlocks, hX, hbl, hK, hE, hA, hA2, hbA, hfl⟩ := id C
  refine lv_aload_n hx hb dL_law_473 rfl (lv_at hl 4 rfl) ?_
  refine lv_aload_n hx hb dL_law_474 rfl (lv_at hl 5 rfl) ?_
  refine lv_iload hx hb dL_law_475 (lv_at hl 0 rfl) ?_
  refine lv_iconst (v := 1) hx hb dL_law_477 (by decide) ?_
  refine lv_iadd hx hb dL_law_478 ?_
  refine tI (v := 1) (by decide +kernel) ?_
  refine va_sld hx hb hX hbl hbA hS (vin (k := 1) (by decide) (by decide +kernel) (by decide)) dL_law_479 ?_
  refine tI (v := xs 1) (congrArg xs (by decide +kernel)) ?_
  refine lv_aload_n hx hb dL_law_480 rfl (lv_at hl 5 rfl) ?_
  refine lv_iload hx hb dL_law_481 (lv_at hl 0 rfl) ?_
  refine lv_iconst (v := 2) hx hb dL_law_483 (by decide) ?_
  refine lv_iadd hx hb dL_law_484 ?_
  refine tI (v := 2) (by decide +kernel) ?_
  refine va_sld hx hb hX hbl hbA hS (vin (k := 2) (by decide) (by decide +kernel) (by decide)) dL_law_485 ?_
  refine tI (v := xs 2) (congrArg xs (by decide +kernel)) ?_
  refine lv_aload_n hx hb dL_law_486 rfl (lv_at hl 2 rfl) ?_
  refine xc_H (wc := [(w1, .inr (3, [.ref w2, .ref w14, .ref w24, .int 0]))]) (As := [.ref w1, .int (xs 1), .int (xs 2), .ref w40]) (rest := []) (wr := [(w26, .inr (4, [.int 0, .int 0, .ref w27, .ref w28, .ref w29, .ref w30, .int 0, .ref w31, .ref w32, .ref w33, .ref w34, .int 0, .int 0, .int 0, .int 0, .ref w35, .ref w36, .ref w37, .ref w38, .ref w39]))]) ⟨hx, hb, hml, hown, hts⟩ (kL_sign_0 l hfl dC dI cI cZ cJ cD w1 w40 w2 w14 w24 (xs 1) (xs 2) _ h0) q542 okL_sign hP hD hK hE hS hA [0] [1] rfl rfl (by decide) (by decide) (by decide) rfl hl.1 rfl (Nat.le_of_ble_eq_true rfl) ⟨rfl, rfl⟩ ⟨Nat.le_of_ble_eq_true rfl, Nat.le_of_ble_eq_true rfl⟩ ⟨Nat.le_of_ble_eq_true rfl, Nat.le_of_ble_eq_true rfl⟩ dL_law_487 (fun H locs hP hD hS => ?_)
  have hP : va_P (dC, dI) vwCl [(w26, .inr (4, [.int 0, .int 0, .ref w27, .ref w28, .ref w29, .ref w30, .int 0, .ref w31, .ref w32, .ref w33, .ref w34, .int 0, .int 0, .int 0, .int 0, .ref w35, .ref w36, .ref w37, .ref w38, .ref w39]))] H := hP
  have hD : va_D A [(w26, .inr (4, [.int 0, .int 0, .ref w27, .ref w28, .ref w29, .ref w30, .int 0, .ref w31, .ref w32, .ref w33, .ref w34, .int 0, .int 0, .int 0, .int 0, .ref w35, .ref w36, .ref w37, .ref w38, .ref w39]))] := hD
  refine W.eq (g2 := F0 m 490 ls [.int 1]) rfl ?_
  refine lv_istore (lv' := [(6, .int 1), (5, .int 0), (4, .ref w41), (3, .ref w40), (2, .ref w26), (1, .ref w1), (0, .ref b)]) hx hb dL_law_490 hl (by decide) rfl (fun ls hl => ?_)
  refine lv_aload_n hx hb dL_law_492 rfl (lv_at hl 4 rfl) ?_
  refine lv_aload_n hx hb dL_law_493 rfl (lv_at hl 6 rfl) ?_
  refine lv_iload hx hb dL_law_494 (lv_at hl 1 rfl) ?_
  refine lv_iconst (v := 1) hx hb dL_law_496 (by decide) ?_
  refine lv_iadd hx hb dL_law_497 ?_
  refine tI (v := 1) (by decide +kernel) ?_
  refine va_sld hx hb hX hbl hbA hS (vin (k := 1) (by decide) (by decide +kernel) (by decide)) dL_law_498 ?_
  refine tI (v := xs 1) (congrArg xs (by decide +kernel)) ?_
  refine lv_aload_n hx hb dL_law_499 rfl (lv_at hl 6 rfl) ?_
  refine lv_iload hx hb dL_law_500 (lv_at hl 1 rfl) ?_
  refine lv_iconst (v := 2) hx hb dL_law_502 (by decide) ?_
  refine lv_iadd hx hb dL_law_503 ?_
  refine tI (v := 2) (by decide +kernel) ?_
  refine va_sld hx hb hX hbl hbA hS (vin (k := 2) (by decide) (by decide +kernel) (by decide)) dL_law_504 ?_
  refine tI (v := xs 2) (congrArg xs (by decide +kernel)) ?_
  refine xc_V (b := w26) (wc := [(w26, .inr (4, [.int 0, .int 0, .ref w27, .ref w28, .ref w29, .ref w30, .int 0, .ref w31, .ref w32, .ref w33, .ref w34, .int 0, .int 0, .int 0, .int 0, .ref w35, .ref w36, .ref w37, .ref w38, .ref w39]))]) (As := [.int (xs 1), .int (xs 2)]) (rest := []) (wr := []) ⟨hx, hb, hml, hown, hts⟩ (kX4_sign_0 l hfl dC dI cI cZ cJ cD w26 w27 w28 w29 w30 w31 w32 w33 w34 w35 w36 w37 w38 w39 (xs 1) (xs 2) _ h0) q788 okX4_sign hP hD hK hE hS hA [0] [] rfl rfl (by decide) (by decide) (by decide) (ci := 4) rfl 0 rfl rfl rfl hl.1 rfl (Nat.le_of_ble_eq_true rfl) ⟨rfl, rfl⟩ ⟨Nat.le_of_ble_eq_true rfl, Nat.le_of_ble_eq_true rfl⟩ ⟨Nat.le_of_ble_eq_true rfl, Nat.le_of_ble_eq_true rfl⟩ dL_law_505 (fun H locs hP hD hS => ?_)
  have hP : va_P (dC, dI) vwCl [(w26, .inr (4, [.int 1, .int 0, .ref w27, .ref w28, .ref w29, .ref w30, .int 0, .ref w31, .ref w32, .ref w33, .ref w34, .int 0, .int 0, .int 0, .int 0, .ref w35, .ref w36, .ref w37, .ref w38, .ref w39]))] H := hP
  have hD : va_D A [(w26, .inr (4, [.int 1, .int 0, .ref w27, .ref w28, .ref w29, .ref w30, .int 0, .ref w31, .ref w32, .ref w33, .ref w34, .int 0, .int 0, .int 0, .int 0, .ref w35, .ref w36, .ref w37, .ref w38, .ref w39]))] := hD
  refine W.eq (g2 := F0 m 508 ls [.int 0]) rfl ?_
  refine lv_istore (lv' := [(7, .int 0), (6, .int 1), (5, .int 0), (4, .ref w41), (3, .ref w40), (2, .ref w26), (1, .ref w1), (0, .ref b)]) hx hb dL_law_508 hl (by decide) rfl (fun ls hl => ?_)
  refine lv_aload_n hx hb dL_law_510 rfl (lv_at hl 5 rfl) ?_
  refine xc_V (b := w26) (wc := [(w26, .inr (4, [.int 1, .int 0, .ref w27, .ref w28, .ref w29, .ref w30, .int 0, .ref w31, .ref w32, .ref w33, .ref w34, .int 0, .int 0, .int 0, .int 0, .ref w35, .ref w36, .ref w37, .ref w38, .ref w39]))]) (As := []) (rest := []) (wr := []) ⟨hx, hb, hml, hown, hts⟩ (kX4_thrown_0 l hfl dC dI cI cZ cJ cD w26 w27 w28 w29 w30 w31 w32 w33 w34 w35 w36 w37 w38 w39 _) q748 okX4_thrown hP hD hK hE hS hA [0] [] rfl rfl (by decide) (by decide) (by decide) (ci := 4) rfl 0 rfl rfl rfl hl.1 rfl (Nat.le_of_ble_eq_true rfl) ⟨rfl, rfl⟩ ⟨Nat.le_of_ble_eq_true rfl, Nat.le_of_ble_eq_true rfl⟩ ⟨Nat.le_of_ble_eq_true rfl, Nat.le_of_ble_eq_true rfl⟩ dL_law_511 (fun H locs hP hD hS => ?_)
  have hP : va_P (dC, dI) vwCl [(w26, .inr (4, [.int 1, .int 0, .ref w27, .ref w28, .ref w29, .ref w30, .int 0, .ref w31, .ref w32, .ref w33, .ref w34, .int 0, .int 0, .int 0, .int 0, .ref w35, .ref w36, .ref w37, .ref w38, .ref w39]))] H := hP
  have hD : va_D A [(w26, .inr (4, [.int 1, .int 0, .ref w27, .ref w28, .ref w29, .ref w30, .int 0, .ref w31, .ref w32, .ref w33, .ref w34, .int 0, .int 0, .int 0, .int 0, .ref w35, .ref w36, .ref w37, .ref w38, .ref w39]))] := hD
  refine W.eq (g2 := F0 m 514 ls [.int 1]) rfl ?_
  refine lv_iload hx hb dL_law_514 (lv_at hl 1 rfl) ?_
  refine lv_icmp_eq (tgt := 521) hx hb dL_law_516 (by decide) (fun _ => ?_) (fun h9 => absurd (by decide) h9)
  refine lv_iload hx hb dL_law_521 (lv_at hl 1 rfl) ?_
  refine lv_if_ne (tgt := 538) hx hb dL_law_523 (by decide) (fun _ => ?_) (fun h9 => absurd h9 (by decide))
  refine lv_goto (tgt := 1401) hx hb dL_law_538 (by decide) ?_
  exact law_tail C hS (lv_sub hl [2, 7] rfl) (Nat.le_of_ble_eq_true rfl) (Nat.le_of_ble_eq_true rfl)
set_option maxHeartbeats 4000000 in
set_option maxRecDepth 100000 in
theorem law_6_1 {p : Program} {l : Launch} {e : Env} {s : State} {m : MethodId} {below : List Frame} {meth : Method} {c : Code} {b : Nat} {xs : Nat → Int32} {A : Nat → Prop} {dC : Nat → ClassId} {dI : Nat → Nat → Nat} {cI cZ cJ cD : ClassId} {w1 w2 w3 w4 w5 w6 w7 w8 w9 w10 w11 w12 w13 w14 w24 w26 w27 w28 w29 w30 w31 w32 w33 w34 w35 w36 w37 w38 w39 w40 w41 : Nat} (C : LC p l s m meth c b xs A dC dI cI cZ cJ cD) {H : Heap} {locs : List Loc} {ls : Array Slot} (hP : va_P (dC, dI) vwCl [(w1, .inr (3, [.ref w2, .ref w14, .ref w24, .int 0])), (w2, .inr (1, [.int 0, .ref w3, .ref w4, .ref w5, .ref w6, .ref w7, .ref w8, .ref w9, .int 0, .ref w10, .ref w11, .ref w12, .ref w13])), (w26, .inr (4, [.int 0, .int 0, .ref w27, .ref w28, .ref w29, .ref w30, .int 0, .ref w31, .ref w32, .ref w33, .ref w34, .int 0, .int 0, .int 0, .int 0, .ref w35, .ref w36, .ref w37, .ref w38, .ref w39]))] H) (hD : va_D A [(w1, .inr (3, [.ref w2, .ref w14, .ref w24, .int 0])), (w2, .inr (1, [.int 0, .ref w3, .ref w4, .ref w5, .ref w6, .ref w7, .ref w8, .ref w9, .int 0, .ref w10, .ref w11, .ref w12, .ref w13])), (w26, .inr (4, [.int 0, .int 0, .ref w27, .ref w28, .ref w29, .ref w30, .int 0, .ref w31, .ref w32, .ref w33, .ref w34, .int 0, .int 0, .int 0, .int 0, .ref w35, .ref w36, .ref w37, .ref w38, .ref w39]))]) (hS : va_S A s.heap H locs) (hl : lv_has ls 9 [(5, .int 0), (4, .ref w41), (3, .ref w40), (2, .ref w26), (1, .ref w1), (0, .ref b)]) (h0 : ¬ (xs 1) < 0) : W p l e room_1 s m #[Value.ref b] below meth c H locs 41 66559 (lw_Z below #[Value.ref b] s) (F0 m 473 ls []) := by
  obtain ⟨hx, hb, hr, hml, hown, hts, hlocks, hX, hbl, hK, hE, hA, hA2, hbA, hfl⟩ := id C
  refine lv_aload_n hx hb dL_law_473 rfl (lv_at hl 4 rfl) ?_
  refine lv_aload_n hx hb dL_law_474 rfl (lv_at hl 5 rfl) ?_
  refine lv_iload hx hb dL_law_475 (lv_at hl 0 rfl) ?_
  refine lv_iconst (v := 1) hx hb dL_law_477 (by decide) ?_
  refine lv_iadd hx hb dL_law_478 ?_
  refine tI (v := 1) (by decide +kernel) ?_
  refine va_sld hx hb hX hbl hbA hS (vin (k := 1) (by decide) (by decide +kernel) (by decide)) dL_law_479 ?_
  refine tI (v := xs 1) (congrArg xs (by decide +kernel)) ?_
  refine lv_aload_n hx hb dL_law_480 rfl (lv_at hl 5 rfl) ?_
  refine lv_iload hx hb dL_law_481 (lv_at hl 0 rfl) ?_
  refine lv_iconst (v := 2) hx hb dL_law_483 (by decide) ?_
  refine lv_iadd hx hb dL_law_484 ?_
  refine tI (v := 2) (by decide +kernel) ?_
  refine va_sld hx hb hX hbl hbA hS (vin (k := 2) (by decide) (by decide +kernel) (by decide)) dL_law_485 ?_
  refine tI (v := xs 2) (congrArg xs (by decide +kernel)) ?_
  refine lv_aload_n hx hb dL_law_486 rfl (lv_at hl 2 rfl) ?_
  refine xc_H (wc := [(w1, .inr (3, [.ref w2, .ref w14, .ref w24, .int 0])), (w2, .inr (1, [.int 0, .ref w3, .ref w4, .ref w5, .ref w6, .ref w7, .ref w8, .ref w9, .int 0, .ref w10, .ref w11, .ref w12, .ref w13]))]) (As := [.ref w1, .int (xs 1), .int (xs 2), .ref w40]) (rest := []) (wr := [(w26, .inr (4, [.int 0, .int 0, .ref w27, .ref w28, .ref w29, .ref w30, .int 0, .ref w31, .ref w32, .ref w33, .ref w34, .int 0, .int 0, .int 0, .int 0, .ref w35, .ref w36, .ref w37, .ref w38, .ref w39]))]) ⟨hx, hb, hml, hown, hts⟩ (kL_sign_1 l hfl dC dI cI cZ cJ cD w1 w40 w2 w14 w24 w3 w4 w5 w6 w7 w8 w9 w10 w11 w12 w13 (xs 1) (xs 2) _ h0) q542 okL_sign hP hD hK hE hS hA [0, 1] [2] rfl rfl (by decide) (by decide) (by decide) rfl hl.1 rfl (Nat.le_of_ble_eq_true rfl) ⟨rfl, rfl⟩ ⟨Nat.le_of_ble_eq_true rfl, Nat.le_of_ble_eq_true rfl⟩ ⟨Nat.le_of_ble_eq_true rfl, Nat.le_of_ble_eq_true rfl⟩ dL_law_487 (fun H locs hP hD hS => ?_)
  have hP : va_P (dC, dI) vwCl [(w26, .inr (4, [.int 0, .int 0, .ref w27, .ref w28, .ref w29, .ref w30, .int 0, .ref w31, .ref w32, .ref w33, .ref w34, .int 0, .int 0, .int 0, .int 0, .ref w35, .ref w36, .ref w37, .ref w38, .ref w39]))] H := hP
  have hD : va_D A [(w26, .inr (4, [.int 0, .int 0, .ref w27, .ref w28, .ref w29, .ref w30, .int 0, .ref w31, .ref w32, .ref w33, .ref w34, .int 0, .int 0, .int 0, .int 0, .ref w35, .ref w36, .ref w37, .ref w38, .ref w39]))] := hD
  refine W.eq (g2 := F0 m 490 ls [.int 1]) rfl ?_
  refine lv_istore (lv' := [(6, .int 1), (5, .int 0), (4, .ref w41), (3, .ref w40), (2, .ref w26), (1, .ref w1), (0, .ref b)]) hx hb dL_law_490 hl (by decide) rfl (fun ls hl => ?_)
  refine lv_aload_n hx hb dL_law_492 rfl (lv_at hl 4 rfl) ?_
  refine lv_aload_n hx hb dL_law_493 rfl (lv_at hl 6 rfl) ?_
  refine lv_iload hx hb dL_law_494 (lv_at hl 1 rfl) ?_
  refine lv_iconst (v := 1) hx hb dL_law_496 (by decide) ?_
  refine lv_iadd hx hb dL_law_497 ?_
  refine tI (v := 1) (by decide +kernel) ?_
  refine va_sld hx hb hX hbl hbA hS (vin (k := 1) (by decide) (by decide +kernel) (by decide)) dL_law_498 ?_
  refine tI (v := xs 1) (congrArg xs (by decide +kernel)) ?_
  refine lv_aload_n hx hb dL_law_499 rfl (lv_at hl 6 rfl) ?_
  refine lv_iload hx hb dL_law_500 (lv_at hl 1 rfl) ?_
  refine lv_iconst (v := 2) hx hb dL_law_502 (by decide) ?_
  refine lv_iadd hx hb dL_law_503 ?_
  refine tI (v := 2) (by decide +kernel) ?_
  refine va_sld hx hb hX hbl hbA hS (vin (k := 2) (by decide) (by decide +kernel) (by decide)) dL_law_504 ?_
  refine tI (v := xs 2) (congrArg xs (by decide +kernel)) ?_
  refine xc_V (b := w26) (wc := [(w26, .inr (4, [.int 0, .int 0, .ref w27, .ref w28, .ref w29, .ref w30, .int 0, .ref w31, .ref w32, .ref w33, .ref w34, .int 0, .int 0, .int 0, .int 0, .ref w35, .ref w36, .ref w37, .ref w38, .ref w39]))]) (As := [.int (xs 1), .int (xs 2)]) (rest := []) (wr := []) ⟨hx, hb, hml, hown, hts⟩ (kX4_sign_1 l hfl dC dI cI cZ cJ cD w26 w27 w28 w29 w30 w31 w32 w33 w34 w35 w36 w37 w38 w39 (xs 1) (xs 2) _ h0) q788 okX4_sign hP hD hK hE hS hA [0] [] rfl rfl (by decide) (by decide) (by decide) (ci := 4) rfl 0 rfl rfl rfl hl.1 rfl (Nat.le_of_ble_eq_true rfl) ⟨rfl, rfl⟩ ⟨Nat.le_of_ble_eq_true rfl, Nat.le_of_ble_eq_true rfl⟩ ⟨Nat.le_of_ble_eq_true rfl, Nat.le_of_ble_eq_true rfl⟩ dL_law_505 (fun H locs hP hD hS => ?_)
  have hP : va_P (dC, dI) vwCl [(w26, .inr (4, [.int 1, .int 0, .ref w27, .ref w28, .ref w29, .ref w30, .int 0, .ref w31, .ref w32, .ref w33, .ref w34, .int 0, .int 0, .int 0, .int 0, .ref w35, .ref w36, .ref w37, .ref w38, .ref w39]))] H := hP
  have hD : va_D A [(w26, .inr (4, [.int 1, .int 0, .ref w27, .ref w28, .ref w29, .ref w30, .int 0, .ref w31, .ref w32, .ref w33, .ref w34, .int 0, .int 0, .int 0, .int 0, .ref w35, .ref w36, .ref w37, .ref w38, .ref w39]))] := hD
  refine W.eq (g2 := F0 m 508 ls [.int 0]) rfl ?_
  refine lv_istore (lv' := [(7, .int 0), (6, .int 1), (5, .int 0), (4, .ref w41), (3, .ref w40), (2, .ref w26), (1, .ref w1), (0, .ref b)]) hx hb dL_law_508 hl (by decide) rfl (fun ls hl => ?_)
  refine lv_aload_n hx hb dL_law_510 rfl (lv_at hl 5 rfl) ?_
  refine xc_V (b := w26) (wc := [(w26, .inr (4, [.int 1, .int 0, .ref w27, .ref w28, .ref w29, .ref w30, .int 0, .ref w31, .ref w32, .ref w33, .ref w34, .int 0, .int 0, .int 0, .int 0, .ref w35, .ref w36, .ref w37, .ref w38, .ref w39]))]) (As := []) (rest := []) (wr := []) ⟨hx, hb, hml, hown, hts⟩ (kX4_thrown_0 l hfl dC dI cI cZ cJ cD w26 w27 w28 w29 w30 w31 w32 w33 w34 w35 w36 w37 w38 w39 _) q748 okX4_thrown hP hD hK hE hS hA [0] [] rfl rfl (by decide) (by decide) (by decide) (ci := 4) rfl 0 rfl rfl rfl hl.1 rfl (Nat.le_of_ble_eq_true rfl) ⟨rfl, rfl⟩ ⟨Nat.le_of_ble_eq_true rfl, Nat.le_of_ble_eq_true rfl⟩ ⟨Nat.le_of_ble_eq_true rfl, Nat.le_of_ble_eq_true rfl⟩ dL_law_511 (fun H locs hP hD hS => ?_)
  have hP : va_P (dC, dI) vwCl [(w26, .inr (4, [.int 1, .int 0, .ref w27, .ref w28, .ref w29, .ref w30, .int 0, .ref w31, .ref w32, .ref w33, .ref w34, .int 0, .int 0, .int 0, .int 0, .ref w35, .ref w36, .ref w37, .ref w38, .ref w39]))] H := hP
  have hD : va_D A [(w26, .inr (4, [.int 1, .int 0, .ref w27, .ref w28, .ref w29, .ref w30, .int 0, .ref w31, .ref w32, .ref w33, .ref w34, .int 0, .int 0, .int 0, .int 0, .ref w35, .ref w36, .ref w37, .ref w38, .ref w39]))] := hD
  refine W.eq (g2 := F0 m 514 ls [.int 1]) rfl ?_
  refine lv_iload hx hb dL_law_514 (lv_at hl 1 rfl) ?_
  refine lv_icmp_eq (tgt := 521) hx hb dL_law_516 (by decide) (fun _ => ?_) (fun h9 => absurd (by decide) h9)
  refine lv_iload hx hb dL_law_521 (lv_at hl 1 rfl) ?_
  refine lv_if_ne (tgt := 538) hx hb dL_law_523 (by decide) (fun _ => ?_) (fun h9 => absurd h9 (by decide))
  refine lv_goto (tgt := 1401) hx hb dL_law_538 (by decide) ?_
  exact law_tail C hS (lv_sub hl [2, 7] rfl) (Nat.le_of_ble_eq_true rfl) (Nat.le_of_ble_eq_true rfl)
set_option maxHeartbeats 4000000 in
set_option maxRecDepth 100000 in
theorem law_7_0 {p : Program} {l : Launch} {e : Env} {s : State} {m : MethodId} {below : List Frame} {meth : Method} {c : Code} {b : Nat} {xs : Nat → Int32} {A : Nat → Prop} {dC : Nat → ClassId} {dI : Nat → Nat → Nat} {cI cZ cJ cD : ClassId} {w1 w2 w3 w4 w5 w6 w7 w8 w9 w10 w11 w12 w13 w14 w15 w16 w17 w18 w19 w20 w21 w22 w23 w24 w25 w26 w27 w28 w29 w30 w31 w32 w33 w34 w35 w36 w37 w38 w39 w40 w41 : Nat} (C : LC p l s m meth c b xs A dC dI cI cZ cJ cD) {H : Heap} {locs : List Loc} {ls : Array Slot} (hP : va_P (dC, dI) vwCl [(w1, .inr (3, [.ref w2, .ref w14, .ref w24, .int 0])), (w2, .inr (1, [.int 0, .ref w3, .ref w4, .ref w5, .ref w6, .ref w7, .ref w8, .ref w9, .int 0, .ref w10, .ref w11, .ref w12, .ref w13])), (w14, .inr (0, [.int 0, .int 0, .int 1, .ref w15, .ref w16, .ref w17, .ref w18, .ref w19, .ref w20, .int 0, .ref w21, .ref w22, .ref w23])), (w15, .inl (cI, 250, .inl (fun _ => 0))), (w16, .inl (cZ, 250, .inl (fun _ => 0))), (w17, .inl (cI, 250, .inl (fun _ => 0))), (w18, .inl (cI, 512, .inl (fun _ => 0))), (w19, .inl (cI, 251, .inl (fun _ => 0))), (w20, .inl (cI, 1024, .inl (fun _ => 0))), (w24, .inr (2, [.ref w2, .ref w14, .ref w25, .int (-1)])), (w26, .inr (4, [.int 0, .int 0, .ref w27, .ref w28, .ref w29, .ref w30, .int 0, .ref w31, .ref w32, .ref w33, .ref w34, .int 0, .int 0, .int 0, .int 0, .ref w35, .ref w36, .ref w37, .ref w38, .ref w39])), (w35, .inl (cI, 250, .inl (fun _ => 0))), (w36, .inl (cI, 250, .inl (fun _ => 0))), (w37, .inl (cZ, 62500, .inl (fun _ => 0)))] H) (hD : va_D A [(w1, .inr (3, [.ref w2, .ref w14, .ref w24, .int 0])), (w2, .inr (1, [.int 0, .ref w3, .ref w4, .ref w5, .ref w6, .ref w7, .ref w8, .ref w9, .int 0, .ref w10, .ref w11, .ref w12, .ref w13])), (w14, .inr (0, [.int 0, .int 0, .int 1, .ref w15, .ref w16, .ref w17, .ref w18, .ref w19, .ref w20, .int 0, .ref w21, .ref w22, .ref w23])), (w15, .inl (cI, 250, .inl (fun _ => 0))), (w16, .inl (cZ, 250, .inl (fun _ => 0))), (w17, .inl (cI, 250, .inl (fun _ => 0))), (w18, .inl (cI, 512, .inl (fun _ => 0))), (w19, .inl (cI, 251, .inl (fun _ => 0))), (w20, .inl (cI, 1024, .inl (fun _ => 0))), (w24, .inr (2, [.ref w2, .ref w14, .ref w25, .int (-1)])), (w26, .inr (4, [.int 0, .int 0, .ref w27, .ref w28, .ref w29, .ref w30, .int 0, .ref w31, .ref w32, .ref w33, .ref w34, .int 0, .int 0, .int 0, .int 0, .ref w35, .ref w36, .ref w37, .ref w38, .ref w39])), (w35, .inl (cI, 250, .inl (fun _ => 0))), (w36, .inl (cI, 250, .inl (fun _ => 0))), (w37, .inl (cZ, 62500, .inl (fun _ => 0)))]) (hS : va_S A s.heap H locs) (hl : lv_has ls 9 [(5, .int 0), (4, .ref w41), (3, .ref w40), (2, .ref w26), (1, .ref w1), (0, .ref b)])  : W p l e room_1 s m #[Value.ref b] below meth c H locs 41 66559 (lw_Z below #[Value.ref b] s) (F0 m 541 ls []) := by
  obtain ⟨hx, hb, hr, hml, hown, hts, hlocks, hX, hbl, hK, hE, hA, hA2, hbA, hfl⟩ := id C
  refine lv_aload_n hx hb dL_law_541 rfl (lv_at hl 4 rfl) ?_
  refine xc_V (b := w1) (wc := [(w1, .inr (3, [.ref w2, .ref w14, .ref w24, .int 0])), (w2, .inr (1, [.int 0, .ref w3, .ref w4, .ref w5, .ref w6, .ref w7, .ref w8, .ref w9, .int 0, .ref w10, .ref w11, .ref w12, .ref w13])), (w14, .inr (0, [.int 0, .int 0, .int 1, .ref w15, .ref w16, .ref w17, .ref w18, .ref w19, .ref w20, .int 0, .ref w21, .ref w22, .ref w23])), (w15, .inl (cI, 250, .inl (fun _ => 0))), (w16, .inl (cZ, 250, .inl (fun _ => 0))), (w17, .inl (cI, 250, .inl (fun _ => 0))), (w18, .inl (cI, 512, .inl (fun _ => 0))), (w19, .inl (cI, 251, .inl (fun _ => 0))), (w20, .inl (cI, 1024, .inl (fun _ => 0))), (w24, .inr (2, [.ref w2, .ref w14, .ref w25, .int (-1)]))]) (As := []) (rest := []) (wr := [(w26, .inr (4, [.int 0, .int 0, .ref w27, .ref w28, .ref w29, .ref w30, .int 0, .ref w31, .ref w32, .ref w33, .ref w34, .int 0, .int 0, .int 0, .int 0, .ref w35, .ref w36, .ref w37, .ref w38, .ref w39])), (w35, .inl (cI, 250, .inl (fun _ => 0))), (w36, .inl (cI, 250, .inl (fun _ => 0))), (w37, .inl (cZ, 62500, .inl (fun _ => 0)))]) ⟨hx, hb, hml, hown, hts⟩ (kX3_explore_0 l hfl dC dI cI cZ cJ cD w1 w2 w14 w24 w3 w4 w5 w6 w7 w8 w9 w10 w11 w12 w13 w15 w16 w17 w18 w19 w20 w21 w22 w23 w25 _) q189 okX3_explore hP hD hK hE hS hA [0, 1, 2, 3, 4, 5, 6, 7, 8, 9] [10, 11, 12, 13] rfl rfl (by decide) (by decide) (by decide) (ci := 3) rfl 0 rfl rfl rfl hl.1 rfl (Nat.le_of_ble_eq_true rfl) ⟨rfl, rfl⟩ ⟨Nat.le_of_ble_eq_true rfl, Nat.le_of_ble_eq_true rfl⟩ ⟨Nat.le_of_ble_eq_true rfl, Nat.le_of_ble_eq_true rfl⟩ dL_law_542 (fun H locs hP hD hS => ?_)
  have hP : va_P (dC, dI) vwCl [(w26, .inr (4, [.int 0, .int 0, .ref w27, .ref w28, .ref w29, .ref w30, .int 0, .ref w31, .ref w32, .ref w33, .ref w34, .int 0, .int 0, .int 0, .int 0, .ref w35, .ref w36, .ref w37, .ref w38, .ref w39])), (w35, .inl (cI, 250, .inl (fun _ => 0))), (w36, .inl (cI, 250, .inl (fun _ => 0))), (w37, .inl (cZ, 62500, .inl (fun _ => 0))), (w1, .inr (3, [.ref w2, .ref w14, .ref w24, .int 1])), (w2, .inr (1, [.int 0, .ref w3, .ref w4, .ref w5, .ref w6, .ref w7, .ref w8, .ref w9, .int 0, .ref w10, .ref w11, .ref w12, .ref w13])), (w14, .inr (0, [.int 2, .int 1, .int 1, .ref w15, .ref w16, .ref w17, .ref w18, .ref w19, .ref w20, .int 1, .ref w21, .ref w22, .ref w23])), (w15, .inl (cI, 250, .inl (upd (upd (fun _ => 0) 0 0) 1 0))), (w16, .inl (cZ, 250, .inl (upd (upd (fun _ => 0) 0 1) 1 0))), (w17, .inl (cI, 250, .inl (upd (upd (fun _ => 0) 0 0) 1 1))), (w18, .inl (cI, 512, .inl (upd (upd (fun _ => 0) 316 1) 0 2))), (w19, .inl (cI, 251, .inl (upd (upd (upd (fun _ => 0) 0 0) 1 1) 2 1))), (w20, .inl (cI, 1024, .inl (upd (fun _ => 0) 0 1))), (w24, .inr (2, [.ref w2, .ref w14, .ref w25, .int 1]))] H := hP
  have hD : va_D A [(w26, .inr (4, [.int 0, .int 0, .ref w27, .ref w28, .ref w29, .ref w30, .int 0, .ref w31, .ref w32, .ref w33, .ref w34, .int 0, .int 0, .int 0, .int 0, .ref w35, .ref w36, .ref w37, .ref w38, .ref w39])), (w35, .inl (cI, 250, .inl (fun _ => 0))), (w36, .inl (cI, 250, .inl (fun _ => 0))), (w37, .inl (cZ, 62500, .inl (fun _ => 0))), (w1, .inr (3, [.ref w2, .ref w14, .ref w24, .int 1])), (w2, .inr (1, [.int 0, .ref w3, .ref w4, .ref w5, .ref w6, .ref w7, .ref w8, .ref w9, .int 0, .ref w10, .ref w11, .ref w12, .ref w13])), (w14, .inr (0, [.int 2, .int 1, .int 1, .ref w15, .ref w16, .ref w17, .ref w18, .ref w19, .ref w20, .int 1, .ref w21, .ref w22, .ref w23])), (w15, .inl (cI, 250, .inl (upd (upd (fun _ => 0) 0 0) 1 0))), (w16, .inl (cZ, 250, .inl (upd (upd (fun _ => 0) 0 1) 1 0))), (w17, .inl (cI, 250, .inl (upd (upd (fun _ => 0) 0 0) 1 1))), (w18, .inl (cI, 512, .inl (upd (upd (fun _ => 0) 316 1) 0 2))), (w19, .inl (cI, 251, .inl (upd (upd (upd (fun _ => 0) 0 0) 1 1) 2 1))), (w20, .inl (cI, 1024, .inl (upd (fun _ => 0) 0 1))), (w24, .inr (2, [.ref w2, .ref w14, .ref w25, .int 1]))] := hD
  refine W.eq (g2 := F0 m 545 ls [.int 2]) rfl ?_
  refine lv_aload_n hx hb dL_law_545 rfl (lv_at hl 3 rfl) ?_
  refine xc_V (b := w26) (wc := [(w26, .inr (4, [.int 0, .int 0, .ref w27, .ref w28, .ref w29, .ref w30, .int 0, .ref w31, .ref w32, .ref w33, .ref w34, .int 0, .int 0, .int 0, .int 0, .ref w35, .ref w36, .ref w37, .ref w38, .ref w39])), (w35, .inl (cI, 250, .inl (fun _ => 0))), (w36, .inl (cI, 250, .inl (fun _ => 0))), (w37, .inl (cZ, 62500, .inl (fun _ => 0)))]) (As := []) (rest := [.int 2]) (wr := [(w1, .inr (3, [.ref w2, .ref w14, .ref w24, .int 1])), (w2, .inr (1, [.int 0, .ref w3, .ref w4, .ref w5, .ref w6, .ref w7, .ref w8, .ref w9, .int 0, .ref w10, .ref w11, .ref w12, .ref w13])), (w14, .inr (0, [.int 2, .int 1, .int 1, .ref w15, .ref w16, .ref w17, .ref w18, .ref w19, .ref w20, .int 1, .ref w21, .ref w22, .ref w23])), (w15, .inl (cI, 250, .inl (upd (upd (fun _ => 0) 0 0) 1 0))), (w16, .inl (cZ, 250, .inl (upd (upd (fun _ => 0) 0 1) 1 0))), (w17, .inl (cI, 250, .inl (upd (upd (fun _ => 0) 0 0) 1 1))), (w18, .inl (cI, 512, .inl (upd (upd (fun _ => 0) 316 1) 0 2))), (w19, .inl (cI, 251, .inl (upd (upd (upd (fun _ => 0) 0 0) 1 1) 2 1))), (w20, .inl (cI, 1024, .inl (upd (fun _ => 0) 0 1))), (w24, .inr (2, [.ref w2, .ref w14, .ref w25, .int 1]))]) ⟨hx, hb, hml, hown, hts⟩ (kX4_explore_0 l hfl dC dI cI cZ cJ cD w26 w27 w28 w29 w30 w31 w32 w33 w34 w35 w36 w37 w38 w39 _) q799 okX4_explore hP hD hK hE hS hA [0, 1, 2, 3] [4, 5, 6, 7, 8, 9, 10, 11, 12, 13] rfl rfl (by decide) (by decide) (by decide) (ci := 4) rfl 0 rfl rfl rfl hl.1 rfl (Nat.le_of_ble_eq_true rfl) ⟨rfl, rfl⟩ ⟨Nat.le_of_ble_eq_true rfl, Nat.le_of_ble_eq_true rfl⟩ ⟨Nat.le_of_ble_eq_true rfl, Nat.le_of_ble_eq_true rfl⟩ dL_law_546 (fun H locs hP hD hS => ?_)
  have hP : va_P (dC, dI) vwCl [(w1, .inr (3, [.ref w2, .ref w14, .ref w24, .int 1])), (w2, .inr (1, [.int 0, .ref w3, .ref w4, .ref w5, .ref w6, .ref w7, .ref w8, .ref w9, .int 0, .ref w10, .ref w11, .ref w12, .ref w13])), (w14, .inr (0, [.int 2, .int 1, .int 1, .ref w15, .ref w16, .ref w17, .ref w18, .ref w19, .ref w20, .int 1, .ref w21, .ref w22, .ref w23])), (w15, .inl (cI, 250, .inl (upd (upd (fun _ => 0) 0 0) 1 0))), (w16, .inl (cZ, 250, .inl (upd (upd (fun _ => 0) 0 1) 1 0))), (w17, .inl (cI, 250, .inl (upd (upd (fun _ => 0) 0 0) 1 1))), (w18, .inl (cI, 512, .inl (upd (upd (fun _ => 0) 316 1) 0 2))), (w19, .inl (cI, 251, .inl (upd (upd (upd (fun _ => 0) 0 0) 1 1) 2 1))), (w20, .inl (cI, 1024, .inl (upd (fun _ => 0) 0 1))), (w24, .inr (2, [.ref w2, .ref w14, .ref w25, .int 1])), (w26, .inr (4, [.int 0, .int 0, .ref w27, .ref w28, .ref w29, .ref w30, .int 0, .ref w31, .ref w32, .ref w33, .ref w34, .int 1, .int 1, .int 2, .int 1, .ref w35, .ref w36, .ref w37, .ref w38, .ref w39])), (w35, .inl (cI, 250, .inl (upd (upd (fun _ => 0) 0 0) 1 1))), (w36, .inl (cI, 250, .inl (upd (upd (fun _ => 0) 0 0) 1 1))), (w37, .inl (cZ, 62500, .inl (upd (upd (upd (upd (fun _ => 0) 0 0) 1 1) 250 0) 251 0)))] H := hP
  have hD : va_D A [(w1, .inr (3, [.ref w2, .ref w14, .ref w24, .int 1])), (w2, .inr (1, [.int 0, .ref w3, .ref w4, .ref w5, .ref w6, .ref w7, .ref w8, .ref w9, .int 0, .ref w10, .ref w11, .ref w12, .ref w13])), (w14, .inr (0, [.int 2, .int 1, .int 1, .ref w15, .ref w16, .ref w17, .ref w18, .ref w19, .ref w20, .int 1, .ref w21, .ref w22, .ref w23])), (w15, .inl (cI, 250, .inl (upd (upd (fun _ => 0) 0 0) 1 0))), (w16, .inl (cZ, 250, .inl (upd (upd (fun _ => 0) 0 1) 1 0))), (w17, .inl (cI, 250, .inl (upd (upd (fun _ => 0) 0 0) 1 1))), (w18, .inl (cI, 512, .inl (upd (upd (fun _ => 0) 316 1) 0 2))), (w19, .inl (cI, 251, .inl (upd (upd (upd (fun _ => 0) 0 0) 1 1) 2 1))), (w20, .inl (cI, 1024, .inl (upd (fun _ => 0) 0 1))), (w24, .inr (2, [.ref w2, .ref w14, .ref w25, .int 1])), (w26, .inr (4, [.int 0, .int 0, .ref w27, .ref w28, .ref w29, .ref w30, .int 0, .ref w31, .ref w32, .ref w33, .ref w34, .int 1, .int 1, .int 2, .int 1, .ref w35, .ref w36, .ref w37, .ref w38, .ref w39])), (w35, .inl (cI, 250, .inl (upd (upd (fun _ => 0) 0 0) 1 1))), (w36, .inl (cI, 250, .inl (upd (upd (fun _ => 0) 0 0) 1 1))), (w37, .inl (cZ, 62500, .inl (upd (upd (upd (upd (fun _ => 0) 0 0) 1 1) 250 0) 251 0)))] := hD
  refine W.eq (g2 := F0 m 549 ls [.int 2, .int 2]) rfl ?_
  refine lv_icmp_eq (tgt := 1401) hx hb dL_law_549 (by decide) (fun _ => ?_) (fun h9 => absurd (by decide) h9)
  exact law_tail C hS (lv_sub hl [0, 5] rfl) (Nat.le_of_ble_eq_true rfl) (Nat.le_of_ble_eq_true rfl)
