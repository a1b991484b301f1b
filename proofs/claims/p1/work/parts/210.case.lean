set_option maxHeartbeats 4000000 in
set_option maxRecDepth 100000 in
theorem law_0_0 {p : Program} {l : Launch} {e : Env} {s : State} {m : MethodId} {below : List Frame} {meth : Method} {c : Code} {b : Nat} {xs : Nat → Int32} {A : Nat → Prop} {dC : Nat → ClassId} {dI : Nat → Nat → Nat} {cI cZ cJ cD : ClassId} {w1 w2 w14 w24 w26 w27 w28 w29 w30 w31 w32 w33 w34 w35 w36 w37 w38 w39 w40 w41 : Nat} (C : LC p l s m meth c b xs A dC dI cI cZ cJ cD) {H : Heap} {locs : List Loc} {ls : Array Slot} (hP : va_P (dC, dI) vwCl [(w1, .inr (3, [.ref w2, .ref w14, .ref w24, .int 0])), (w26, .inr (4, [.int 0, .int 0, .ref w27, .ref w28, .ref w29, .ref w30, .int 0, .ref w31, .ref w32, .ref w33, .ref w34, .int 0, .int 0, .int 0, .int 0, .ref w35, .ref w36, .ref w37, .ref w38, .ref w39]))] H) (hD : va_D A [(w1, .inr (3, [.ref w2, .ref w14, .ref w24, .int 0])), (w26, .inr (4, [.int 0, .int 0, .ref w27, .ref w28, .ref w29, .ref w30, .int 0, .ref w31, .ref w32, .ref w33, .ref w34, .int 0, .int 0, .int 0, .int 0, .ref w35, .ref w36, .ref w37, .ref w38, .ref w39]))]) (hS : va_S A s.heap H locs) (hl : lv_has ls 9 [(5, .int 0), (4, .ref w41), (3, .ref w40), (2, .ref w26), (1, .ref w1), (0, .ref b)]) (h0 : (xs 1) < 2) : W p l e room_1 s m #[Value.ref b] below meth c H locs 41 66559 (lw_Z below #[Value.ref b] s) (F0 m 156 ls []) := by
  obtain ⟨hx, hb, hr, hml, hown, hts, hlocks, hX, hbl, hK, hE, hA, hA2, hbA, hfl⟩ := id C
  refine lv_aload_n hx hb dL_law_156 rfl (lv_at hl 4 rfl) ?_
  refine lv_aload_n hx hb dL_law_157 rfl (lv_at hl 5 rfl) ?_
  refine lv_iload hx hb dL_law_158 (lv_at hl 0 rfl) ?_
  refine lv_iconst (v := 1) hx hb dL_law_160 (by decide) ?_
  refine lv_iadd hx hb dL_law_161 ?_
  refine tI (v := 1) (by decide +kernel) ?_
  refine va_sld hx hb hX hbl hbA hS (vin (k := 1) (by decide) (by decide +kernel) (by decide)) dL_law_162 ?_
  refine tI (v := xs 1) (congrArg xs (by decide +kernel)) ?_
  refine lv_aload_n hx hb dL_law_163 rfl (lv_at hl 5 rfl) ?_
  refine lv_iload hx hb dL_law_164 (lv_at hl 0 rfl) ?_
  refine lv_iconst (v := 2) hx hb dL_law_166 (by decide) ?_
  refine lv_iadd hx hb dL_law_167 ?_
  refine tI (v := 2) (by decide +kernel) ?_
  refine va_sld hx hb hX hbl hbA hS (vin (k := 2) (by decide) (by decide +kernel) (by decide)) dL_law_168 ?_
  refine tI (v := xs 2) (congrArg xs (by decide +kernel)) ?_
  refine lv_aload_n hx hb dL_law_169 rfl (lv_at hl 2 rfl) ?_
  refine xc_H (wc := [(w1, .inr (3, [.ref w2, .ref w14, .ref w24, .int 0]))]) (As := [.ref w1, .int (xs 1), .int (xs 2), .ref w40]) (rest := []) (wr := [(w26, .inr (4, [.int 0, .int 0, .ref w27, .ref w28, .ref w29, .ref w30, .int 0, .ref w31, .ref w32, .ref w33, .ref w34, .int 0, .int 0, .int 0, .int 0, .ref w35, .ref w36, .ref w37, .ref w38, .ref w39]))]) ⟨hx, hb, hml, hown, hts⟩ (kL_addVariable_0 l hfl dC dI cI cZ cJ cD w1 w40 w2 w14 w24 (xs 1) (xs 2) _ h0) q388 okL_addVariable hP hD hK hE hS hA [0] [1] rfl rfl (by decide) (by decide) (by decide) rfl hl.1 rfl (Nat.le_of_ble_eq_true rfl) ⟨rfl, rfl⟩ ⟨Nat.le_of_ble_eq_true rfl, Nat.le_of_ble_eq_true rfl⟩ ⟨Nat.le_of_ble_eq_true rfl, Nat.le_of_ble_eq_true rfl⟩ dL_law_170 (fun H locs hP hD hS => ?_)
  have hP : va_P (dC, dI) vwCl [(w26, .inr (4, [.int 0, .int 0, .ref w27, .ref w28, .ref w29, .ref w30, .int 0, .ref w31, .ref w32, .ref w33, .ref w34, .int 0, .int 0, .int 0, .int 0, .ref w35, .ref w36, .ref w37, .ref w38, .ref w39])), (w1, .inr (3, [.ref w2, .ref w14, .ref w24, .int 0]))] H := hP
  have hD : va_D A [(w26, .inr (4, [.int 0, .int 0, .ref w27, .ref w28, .ref w29, .ref w30, .int 0, .ref w31, .ref w32, .ref w33, .ref w34, .int 0, .int 0, .int 0, .int 0, .ref w35, .ref w36, .ref w37, .ref w38, .ref w39])), (w1, .inr (3, [.ref w2, .ref w14, .ref w24, .int 0]))] := hD
  refine W.eq (g2 := F0 m 173 ls [.int 1]) rfl ?_
  refine lv_istore (lv' := [(6, .int 1), (5, .int 0), (4, .ref w41), (3, .ref w40), (2, .ref w26), (1, .ref w1), (0, .ref b)]) hx hb dL_law_173 hl (by decide) rfl (fun ls hl => ?_)
  refine lv_aload_n hx hb dL_law_175 rfl (lv_at hl 4 rfl) ?_
  refine lv_aload_n hx hb dL_law_176 rfl (lv_at hl 6 rfl) ?_
  refine lv_iload hx hb dL_law_177 (lv_at hl 1 rfl) ?_
  refine lv_iconst (v := 1) hx hb dL_law_179 (by decide) ?_
  refine lv_iadd hx hb dL_law_180 ?_
  refine tI (v := 1) (by decide +kernel) ?_
  refine va_sld hx hb hX hbl hbA hS (vin (k := 1) (by decide) (by decide +kernel) (by decide)) dL_law_181 ?_
  refine tI (v := xs 1) (congrArg xs (by decide +kernel)) ?_
  refine lv_aload_n hx hb dL_law_182 rfl (lv_at hl 6 rfl) ?_
  refine lv_iload hx hb dL_law_183 (lv_at hl 1 rfl) ?_
  refine lv_iconst (v := 2) hx hb dL_law_185 (by decide) ?_
  refine lv_iadd hx hb dL_law_186 ?_
  refine tI (v := 2) (by decide +kernel) ?_
  refine va_sld hx hb hX hbl hbA hS (vin (k := 2) (by decide) (by decide +kernel) (by decide)) dL_law_187 ?_
  refine tI (v := xs 2) (congrArg xs (by decide +kernel)) ?_
  refine xc_V (b := w26) (wc := [(w26, .inr (4, [.int 0, .int 0, .ref w27, .ref w28, .ref w29, .ref w30, .int 0, .ref w31, .ref w32, .ref w33, .ref w34, .int 0, .int 0, .int 0, .int 0, .ref w35, .ref w36, .ref w37, .ref w38, .ref w39]))]) (As := [.int (xs 1), .int (xs 2)]) (rest := []) (wr := [(w1, .inr (3, [.ref w2, .ref w14, .ref w24, .int 0]))]) ⟨hx, hb, hml, hown, hts⟩ (kX4_addVariable_0 l hfl dC dI cI cZ cJ cD w26 w27 w28 w29 w30 w31 w32 w33 w34 w35 w36 w37 w38 w39 (xs 1) (xs 2) _ h0) q752 okX4_addVariable hP hD hK hE hS hA [0] [1] rfl rfl (by decide) (by decide) (by decide) (ci := 4) rfl 0 rfl rfl rfl hl.1 rfl (Nat.le_of_ble_eq_true rfl) ⟨rfl, rfl⟩ ⟨Nat.le_of_ble_eq_true rfl, Nat.le_of_ble_eq_true rfl⟩ ⟨Nat.le_of_ble_eq_true rfl, Nat.le_of_ble_eq_true rfl⟩ dL_law_188 (fun H locs hP hD hS => ?_)
  have hP : va_P (dC, dI) vwCl [(w1, .inr (3, [.ref w2, .ref w14, .ref w24, .int 0])), (w26, .inr (4, [.int 1, .int 0, .ref w27, .ref w28, .ref w29, .ref w30, .int 0, .ref w31, .ref w32, .ref w33, .ref w34, .int 0, .int 0, .int 0, .int 0, .ref w35, .ref w36, .ref w37, .ref w38, .ref w39]))] H := hP
  have hD : va_D A [(w1, .inr (3, [.ref w2, .ref w14, .ref w24, .int 0])), (w26, .inr (4, [.int 1, .int 0, .ref w27, .ref w28, .ref w29, .ref w30, .int 0, .ref w31, .ref w32, .ref w33, .ref w34, .int 0, .int 0, .int 0, .int 0, .ref w35, .ref w36, .ref w37, .ref w38, .ref w39]))] := hD
  refine W.eq (g2 := F0 m 191 ls [.int 0]) rfl ?_
  refine lv_istore (lv' := [(7, .int 0), (6, .int 1), (5, .int 0), (4, .ref w41), (3, .ref w40), (2, .ref w26), (1, .ref w1), (0, .ref b)]) hx hb dL_law_191 hl (by decide) rfl (fun ls hl => ?_)
  refine lv_aload_n hx hb dL_law_193 rfl (lv_at hl 5 rfl) ?_
  refine xc_V (b := w26) (wc := [(w26, .inr (4, [.int 1, .int 0, .ref w27, .ref w28, .ref w29, .ref w30, .int 0, .ref w31, .ref w32, .ref w33, .ref w34, .int 0, .int 0, .int 0, .int 0, .ref w35, .ref w36, .ref w37, .ref w38, .ref w39]))]) (As := []) (rest := []) (wr := [(w1, .inr (3, [.ref w2, .ref w14, .ref w24, .int 0]))]) ⟨hx, hb, hml, hown, hts⟩ (kX4_thrown_0 l hfl dC dI cI cZ cJ cD w26 w27 w28 w29 w30 w31 w32 w33 w34 w35 w36 w37 w38 w39 _) q748 okX4_thrown hP hD hK hE hS hA [1] [0] rfl rfl (by decide) (by decide) (by decide) (ci := 4) rfl 1 rfl rfl rfl hl.1 rfl (Nat.le_of_ble_eq_true rfl) ⟨rfl, rfl⟩ ⟨Nat.le_of_ble_eq_true rfl, Nat.le_of_ble_eq_true rfl⟩ ⟨Nat.le_of_ble_eq_true rfl, Nat.le_of_ble_eq_true rfl⟩ dL_law_194 (fun H locs hP hD hS => ?_)
  have hP : va_P (dC, dI) vwCl [(w1, .inr (3, [.ref w2, .ref w14, .ref w24, .int 0])), (w26, .inr (4, [.int 1, .int 0, .ref w27, .ref w28, .ref w29, .ref w30, .int 0, .ref w31, .ref w32, .ref w33, .ref w34, .int 0, .int 0, .int 0, .int 0, .ref w35, .ref w36, .ref w37, .ref w38, .ref w39]))] H := hP
  have hD : va_D A [(w1, .inr (3, [.ref w2, .ref w14, .ref w24, .int 0])), (w26, .inr (4, [.int 1, .int 0, .ref w27, .ref w28, .ref w29, .ref w30, .int 0, .ref w31, .ref w32, .ref w33, .ref w34, .int 0, .int 0, .int 0, .int 0, .ref w35, .ref w36, .ref w37, .ref w38, .ref w39]))] := hD
  refine W.eq (g2 := F0 m 197 ls [.int 1]) rfl ?_
  refine lv_iload hx hb dL_law_197 (lv_at hl 1 rfl) ?_
  refine lv_icmp_eq (tgt := 204) hx hb dL_law_199 (by decide) (fun _ => ?_) (fun h9 => absurd (by decide) h9)
  refine lv_iload hx hb dL_law_204 (lv_at hl 1 rfl) ?_
  refine lv_if_ne (tgt := 221) hx hb dL_law_206 (by decide) (fun _ => ?_) (fun h9 => absurd h9 (by decide))
  refine lv_goto (tgt := 1401) hx hb dL_law_221 (by decide) ?_
  exact law_tail C hS (lv_sub hl [2, 7] rfl) (Nat.le_of_ble_eq_true rfl) (Nat.le_of_ble_eq_true rfl)
set_option maxHeartbeats 4000000 in
set_option maxRecDepth 100000 in
theorem law_0_1 {p : Program} {l : Launch} {e : Env} {s : State} {m : MethodId} {below : List Frame} {meth : Method} {c : Code} {b : Nat} {xs : Nat → Int32} {A : Nat → Prop} {dC : Nat → ClassId} {dI : Nat → Nat → Nat} {cI cZ cJ cD : ClassId} {w1 w2 w14 w24 w26 w27 w28 w29 w30 w31 w32 w33 w34 w35 w36 w37 w38 w39 w40 w41 : Nat} (C : LC p l s m meth c b xs A dC dI cI cZ cJ cD) {H : Heap} {locs : List Loc} {ls : Array Slot} (hP : va_P (dC, dI) vwCl [(w1, .inr (3, [.ref w2, .ref w14, .ref w24, .int 0])), (w26, .inr (4, [.int 0, .int 0, .ref w27, .ref w28, .ref w29, .ref w30, .int 0, .ref w31, .ref w32, .ref w33, .ref w34, .int 0, .int 0, .int 0, .int 0, .ref w35, .ref w36, .ref w37, .ref w38, .ref w39]))] H) (hD : va_D A [(w1, .inr (3, [.ref w2, .ref w14, .ref w24, .int 0])), (w26, .inr (4, [.int 0, .int 0, .ref w27, .ref w28, .ref w29, .ref w30, .int 0, .ref w31, .ref w32, .ref w33, .ref w34, .int 0, .int 0, .int 0, .int 0, .ref w35, .ref w36, .ref w37, .ref w38, .ref w39]))]) (hS : va_S A s.heap H locs) (hl : lv_has ls 9 [(5, .int 0), (4, .ref w41), (3, .ref w40), (2, .ref w26), (1, .ref w1), (0, .ref b)]) (h0 : ¬ (xs 1) < 2) (h1 : ¬ (xs 1) ≤ 4) : W p l e room_1 s m #[Value.ref b] below meth c H locs 41 66559 (lw_Z below #[Value.ref b] s) (F0 m 156 ls []) := by
  obtain ⟨hx, hb, hr, hml, hown, hts, hlocks, hX, hbl, hK, hE, hA, hA2, hbA, hfl⟩ := id C
  refine lv_aload_n hx hb dL_law_156 rfl (lv_at hl 4 rfl) ?_
  refine lv_aload_n hx hb dL_law_157 rfl (lv_at hl 5 rfl) ?_
  refine lv_iload hx hb dL_law_158 (lv_at hl 0 rfl) ?_
  refine lv_iconst (v := 1) hx hb dL_law_160 (by decide) ?_
  refine lv_iadd hx hb dL_law_161 ?_
  refine tI (v := 1) (by decide +kernel) ?_
  refine va_sld hx hb hX hbl hbA hS (vin (k := 1) (by decide) (by decide +kernel) (by decide)) dL_law_162 ?_
  refine tI (v := xs 1) (congrArg xs (by decide +kernel)) ?_
  refine lv_aload_n hx hb dL_law_163 rfl (lv_at hl 5 rfl) ?_
  refine lv_iload hx hb dL_law_164 (lv_at hl 0 rfl) ?_
  refine lv_iconst (v := 2) hx hb dL_law_166 (by decide) ?_
  refine lv_iadd hx hb dL_law_167 ?_
  refine tI (v := 2) (by decide +kernel) ?_
  refine va_sld hx hb hX hbl hbA hS (vin (k := 2) (by decide) (by decide +kernel) (by decide)) dL_law_168 ?_
  refine tI (v := xs 2) (congrArg xs (by decide +kernel)) ?_
  refine lv_aload_n hx hb dL_law_169 rfl (lv_at hl 2 rfl) ?_
  refine xc_H (wc := [(w1, .inr (3, [.ref w2, .ref w14, .ref w24, .int 0]))]) (As := [.ref w1, .int (xs 1), .int (xs 2), .ref w40]) (rest := []) (wr := [(w26, .inr (4, [.int 0, .int 0, .ref w27, .ref w28, .ref w29, .ref w30, .int 0, .ref w31, .ref w32, .ref w33, .ref w34, .int 0, .int 0, .int 0, .int 0, .ref w35, .ref w36, .ref w37, .ref w38, .ref w39]))]) ⟨hx, hb, hml, hown, hts⟩ (kL_addVariable_1 l hfl dC dI cI cZ cJ cD w1 w40 w2 w14 w24 (xs 1) (xs 2) _ h0 h1) q388 okL_addVariable hP hD hK hE hS hA [0] [1] rfl rfl (by decide) (by decide) (by decide) rfl hl.1 rfl (Nat.le_of_ble_eq_true rfl) ⟨rfl, rfl⟩ ⟨Nat.le_of_ble_eq_true rfl, Nat.le_of_ble_eq_true rfl⟩ ⟨Nat.le_of_ble_eq_true rfl, Nat.le_of_ble_eq_true rfl⟩ dL_law_170 (fun H locs hP hD hS => ?_)
  have hP : va_P (dC, dI) vwCl [(w26, .inr (4, [.int 0, .int 0, .ref w27, .ref w28, .ref w29, .ref w30, .int 0, .ref w31, .ref w32, .ref w33, .ref w34, .int 0, .int 0, .int 0, .int 0, .ref w35, .ref w36, .ref w37, .ref w38, .ref w39])), (w1, .inr (3, [.ref w2, .ref w14, .ref w24, .int 0]))] H := hP
  have hD : va_D A [(w26, .inr (4, [.int 0, .int 0, .ref w27, .ref w28, .ref w29, .ref w30, .int 0, .ref w31, .ref w32, .ref w33, .ref w34, .int 0, .int 0, .int 0, .int 0, .ref w35, .ref w36, .ref w37, .ref w38, .ref w39])), (w1, .inr (3, [.ref w2, .ref w14, .ref w24, .int 0]))] := hD
  refine W.eq (g2 := F0 m 173 ls [.int 1]) rfl ?_
  refine lv_istore (lv' := [(6, .int 1), (5, .int 0), (4, .ref w41), (3, .ref w40), (2, .ref w26), (1, .ref w1), (0, .ref b)]) hx hb dL_law_173 hl (by decide) rfl (fun ls hl => ?_)
  refine lv_aload_n hx hb dL_law_175 rfl (lv_at hl 4 rfl) ?_
  refine lv_aload_n hx hb dL_law_176 rfl (lv_at hl 6 rfl) ?_
  refine lv_iload hx hb dL_law_177 (lv_at hl 1 rfl) ?_
  refine lv_iconst (v := 1) hx hb dL_law_179 (by decide) ?_
  refine lv_iadd hx hb dL_law_180 ?_
  refine tI (v := 1) (by decide +kernel) ?_
  refine va_sld hx hb hX hbl hbA hS (vin (k := 1) (by decide) (by decide +kernel) (by decide)) dL_law_181 ?_
  refine tI (v := xs 1) (congrArg xs (by decide +kernel)) ?_
  refine lv_aload_n hx hb dL_law_182 rfl (lv_at hl 6 rfl) ?_
  refine lv_iload hx hb dL_law_183 (lv_at hl 1 rfl) ?_
  refine lv_iconst (v := 2) hx hb dL_law_185 (by decide) ?_
  refine lv_iadd hx hb dL_law_186 ?_
  refine tI (v := 2) (by decide +kernel) ?_
  refine va_sld hx hb hX hbl hbA hS (vin (k := 2) (by decide) (by decide +kernel) (by decide)) dL_law_187 ?_
  refine tI (v := xs 2) (congrArg xs (by decide +kernel)) ?_
  refine xc_V (b := w26) (wc := [(w26, .inr (4, [.int 0, .int 0, .ref w27, .ref w28, .ref w29, .ref w30, .int 0, .ref w31, .ref w32, .ref w33, .ref w34, .int 0, .int 0, .int 0, .int 0, .ref w35, .ref w36, .ref w37, .ref w38, .ref w39]))]) (As := [.int (xs 1), .int (xs 2)]) (rest := []) (wr := [(w1, .inr (3, [.ref w2, .ref w14, .ref w24, .int 0]))]) ⟨hx, hb, hml, hown, hts⟩ (kX4_addVariable_1 l hfl dC dI cI cZ cJ cD w26 w27 w28 w29 w30 w31 w32 w33 w34 w35 w36 w37 w38 w39 (xs 1) (xs 2) _ h0 h1) q752 okX4_addVariable hP hD hK hE hS hA [0] [1] rfl rfl (by decide) (by decide) (by decide) (ci := 4) rfl 0 rfl rfl rfl hl.1 rfl (Nat.le_of_ble_eq_true rfl) ⟨rfl, rfl⟩ ⟨Nat.le_of_ble_eq_true rfl, Nat.le_of_ble_eq_true rfl⟩ ⟨Nat.le_of_ble_eq_true rfl, Nat.le_of_ble_eq_true rfl⟩ dL_law_188 (fun H locs hP hD hS => ?_)
  have hP : va_P (dC, dI) vwCl [(w1, .inr (3, [.ref w2, .ref w14, .ref w24, .int 0])), (w26, .inr (4, [.int 1, .int 0, .ref w27, .ref w28, .ref w29, .ref w30, .int 0, .ref w31, .ref w32, .ref w33, .ref w34, .int 0, .int 0, .int 0, .int 0, .ref w35, .ref w36, .ref w37, .ref w38, .ref w39]))] H := hP
  have hD : va_D A [(w1, .inr (3, [.ref w2, .ref w14, .ref w24, .int 0])), (w26, .inr (4, [.int 1, .int 0, .ref w27, .ref w28, .ref w29, .ref w30, .int 0, .ref w31, .ref w32, .ref w33, .ref w34, .int 0, .int 0, .int 0, .int 0, .ref w35, .ref w36, .ref w37, .ref w38, .ref w39]))] := hD
  refine W.eq (g2 := F0 m 191 ls [.int 0]) rfl ?_
  refine lv_istore (lv' := [(7, .int 0), (6, .int 1), (5, .int 0), (4, .ref w41), (3, .ref w40), (2, .ref w26), (1, .ref w1), (0, .ref b)]) hx hb dL_law_191 hl (by decide) rfl (fun ls hl => ?_)
  refine lv_aload_n hx hb dL_law_193 rfl (lv_at hl 5 rfl) ?_
  refine xc_V (b := w26) (wc := [(w26, .inr (4, [.int 1, .int 0, .ref w27, .ref w28, .ref w29, .ref w30, .int 0, .ref w31, .ref w32, .ref w33, .ref w34, .int 0, .int 0, .int 0, .int 0, .ref w35, .ref w36, .ref w37, .ref w38, .ref w39]))]) (As := []) (rest := []) (wr := [(w1, .inr (3, [.ref w2, .ref w14, .ref w24, .int 0]))]) ⟨hx, hb, hml, hown, hts⟩ (kX4_thrown_0 l hfl dC dI cI cZ cJ cD w26 w27 w28 w29 w30 w31 w32 w33 w34 w35 w36 w37 w38 w39 _) q748 okX4_thrown hP hD hK hE hS hA [1] [0] rfl rfl (by decide) (by decide) (by decide) (ci := 4) rfl 1 rfl rfl rfl hl.1 rfl (Nat.le_of_ble_eq_true rfl) ⟨rfl, rfl⟩ ⟨Nat.le_of_ble_eq_true rfl, Nat.le_of_ble_eq_true rfl⟩ ⟨Nat.le_of_ble_eq_true rfl, Nat.le_of_ble_eq_true rfl⟩ dL_law_194 (fun H locs hP hD hS => ?_)
  have hP : va_P (dC, dI) vwCl [(w1, .inr (3, [.ref w2, .ref w14, .ref w24, .int 0])), (w26, .inr (4, [.int 1, .int 0, .ref w27, .ref w28, .ref w29, .ref w30, .int 0, .ref w31, .ref w32, .ref w33, .ref w34, .int 0, .int 0, .int 0, .int 0, .ref w35, .ref w36, .ref w37, .ref w38, .ref w39]))] H := hP
  have hD : va_D A [(w1, .inr (3, [.ref w2, .ref w14, .ref w24, .int 0])), (w26, .inr (4, [.int 1, .int 0, .ref w27, .ref w28, .ref w29, .ref w30, .int 0, .ref w31, .ref w32, .ref w33, .ref w34, .int 0, .int 0, .int 0, .int 0, .ref w35, .ref w36, .ref w37, .ref w38, .ref w39]))] := hD
  refine W.eq (g2 := F0 m 197 ls [.int 1]) rfl ?_
  refine lv_iload hx hb dL_law_197 (lv_at hl 1 rfl) ?_
  refine lv_icmp_eq (tgt := 204) hx hb dL_law_199 (by decide) (fun _ => ?_) (fun h9 => absurd (by decide) h9)
  refine lv_iload hx hb dL_law_204 (lv_at hl 1 rfl) ?_
  refine lv_if_ne (tgt := 221) hx hb dL_law_206 (by decide) (fun _ => ?_) (fun h9 => absurd h9 (by decide))
  refine lv_goto (tgt := 1401) hx hb dL_law_221 (by decide) ?_
  exact law_tail C hS (lv_sub hl [2, 7] rfl) (Nat.le_of_ble_eq_true rfl) (Nat.le_of_ble_eq_true rfl)
set_option maxHeartbeats 4000000 in
set_option maxRecDepth 100000 in
theorem law_0_2 {p : Program} {l : Launch} {e : Env} {s : State} {m : MethodId} {below : List Frame} {meth : Method} {c : Code} {b : Nat} {xs : Nat → Int32} {A : Nat → Prop} {dC : Nat → ClassId} {dI : Nat → Nat → Nat} {cI cZ cJ cD : ClassId} {w1 w2 w14 w24 w26 w27 w28 w29 w30 w31 w32 w33 w34 w35 w36 w37 w38 w39 w40 w41 : Nat} (C : LC p l s m meth c b xs A dC dI cI cZ cJ cD) {H : Heap} {locs : List Loc} {ls : Array Slot} (hP : va_P (dC, dI) vwCl [(w1, .inr (3, [.ref w2, .ref w14, .ref w24, .int 0])), (w26, .inr (4, [.int 0, .int 0, .ref w27, .ref w28, .ref w29, .ref w30, .int 0, .ref w31, .ref w32, .ref w33, .ref w34, .int 0, .int 0, .int 0, .int 0, .ref w35, .ref w36, .ref w37, .ref w38, .ref w39]))] H) (hD : va_D A [(w1, .inr (3, [.ref w2, .ref w14, .ref w24, .int 0])), (w26, .inr (4, [.int 0, .int 0, .ref w27, .ref w28, .ref w29, .ref w30, .int 0, .ref w31, .ref w32, .ref w33, .ref w34, .int 0, .int 0, .int 0, .int 0, .ref w35, .ref w36, .ref w37, .ref w38, .ref w39]))]) (hS : va_S A s.heap H locs) (hl : lv_has ls 9 [(5, .int 0), (4, .ref w41), (3, .ref w40), (2, .ref w26), (1, .ref w1), (0, .ref b)]) (h0 : ¬ (xs 1) < 2) (h1 : (xs 1) ≤ 4) (h2 : (xs 2) < 0) : W p l e room_1 s m #[Value.ref b] below meth c H locs 41 66559 (lw_Z below #[Value.ref b] s) (F0 m 156 ls []) := by
  obtain ⟨hx, hb, hr, hml, hown, hts, hlocks, hX, hbl, hK, hE, hA, hA2, hbA, hfl⟩ := id C
  refine lv_aload_n hx hb dL_law_156 rfl (lv_at hl 4 rfl) ?_
  refine lv_aload_n hx hb dL_law_157 rfl (lv_at hl 5 rfl) ?_
  refine lv_iload hx hb dL_law_158 (lv_at hl 0 rfl) ?_
  refine lv_iconst (v := 1) hx hb dL_law_160 (by decide) ?_
  refine lv_iadd hx hb dL_law_161 ?_
  refine tI (v := 1) (by decide +kernel) ?_
  refine va_sld hx hb hX hbl hbA hS (vin (k := 1) (by decide) (by decide +kernel) (by decide)) dL_law_162 ?_
  refine tI (v := xs 1) (congrArg xs (by decide +kernel)) ?_
  refine lv_aload_n hx hb dL_law_163 rfl (lv_at hl 5 rfl) ?_
  refine lv_iload hx hb dL_law_164 (lv_at hl 0 rfl) ?_
  refine lv_iconst (v := 2) hx hb dL_law_166 (by decide) ?_
  refine lv_iadd hx hb dL_law_167 ?_
  refine tI (v := 2) (by decide +kernel) ?_
  refine va_sld hx hb hX hbl hbA hS (vin (k := 2) (by decide) (by decide +kernel) (by decide)) dL_law_168 ?_
  refine tI (v := xs 2) (congrArg xs (by decide +kernel)) ?_
  refine lv_aload_n hx hb dL_law_169 rfl (lv_at hl 2 rfl) ?_
  refine xc_H (wc := [(w1, .inr (3, [.ref w2, .ref w14, .ref w24, .int 0]))]) (As := [.ref w1, .int (xs 1), .int (xs 2), .ref w40]) (rest := []) (wr := [(w26, .inr (4, [.int 0, .int 0, .ref w27, .ref w28, .ref w29, .ref w30, .int 0, .ref w31, .ref w32, .ref w33, .ref w34, .int 0, .int 0, .int 0, .int 0, .ref w35, .ref w36, .ref w37, .ref w38, .ref w39]))]) ⟨hx, hb, hml, hown, hts⟩ (kL_addVariable_2 l hfl dC dI cI cZ cJ cD w1 w40 w2 w14 w24 (xs 1) (xs 2) _ h0 h1 h2) q388 okL_addVariable hP hD hK hE hS hA [0] [1] rfl rfl (by decide) (by decide) (by decide) rfl hl.1 rfl (Nat.le_of_ble_eq_true rfl) ⟨rfl, rfl⟩ ⟨Nat.le_of_ble_eq_true rfl, Nat.le_of_ble_eq_true rfl⟩ ⟨Nat.le_of_ble_eq_true rfl, Nat.le_of_ble_eq_true rfl⟩ dL_law_170 (fun H locs hP hD hS => ?_)
  have hP : va_P (dC, dI) vwCl [(w26, .inr (4, [.int 0, .int 0, .ref w27, .ref w28, .ref w29, .ref w30, .int 0, .ref w31, .ref w32, .ref w33, .ref w34, .int 0, .int 0, .int 0, .int 0, .ref w35, .ref w36, .ref w37, .ref w38, .ref w39])), (w1, .inr (3, [.ref w2, .ref w14, .ref w24, .int 0]))] H := hP
  have hD : va_D A [(w26, .inr (4, [.int 0, .int 0, .ref w27, .ref w28, .ref w29, .ref w30, .int 0, .ref w31, .ref w32, .ref w33, .ref w34, .int 0, .int 0, .int 0, .int 0, .ref w35, .ref w36, .ref w37, .ref w38, .ref w39])), (w1, .inr (3, [.ref w2, .ref w14, .ref w24, .int 0]))] := hD
  refine W.eq (g2 := F0 m 173 ls [.int 1]) rfl ?_
  refine lv_istore (lv' := [(6, .int 1), (5, .int 0), (4, .ref w41), (3, .ref w40), (2, .ref w26), (1, .ref w1), (0, .ref b)]) hx hb dL_law_173 hl (by decide) rfl (fun ls hl => ?_)
  refine lv_aload_n hx hb dL_law_175 rfl (lv_at hl 4 rfl) ?_
  refine lv_aload_n hx hb dL_law_176 rfl (lv_at hl 6 rfl) ?_
  refine lv_iload hx hb dL_law_177 (lv_at hl 1 rfl) ?_
  refine lv_iconst (v := 1) hx hb dL_law_179 (by decide) ?_
  refine lv_iadd hx hb dL_law_180 ?_
  refine tI (v := 1) (by decide +kernel) ?_
  refine va_sld hx hb hX hbl hbA hS (vin (k := 1) (by decide) (by decide +kernel) (by decide)) dL_law_181 ?_
  refine tI (v := xs 1) (congrArg xs (by decide +kernel)) ?_
  refine lv_aload_n hx hb dL_law_182 rfl (lv_at hl 6 rfl) ?_
  refine lv_iload hx hb dL_law_183 (lv_at hl 1 rfl) ?_
  refine lv_iconst (v := 2) hx hb dL_law_185 (by decide) ?_
  refine lv_iadd hx hb dL_law_186 ?_
  refine tI (v := 2) (by decide +kernel) ?_
  refine va_sld hx hb hX hbl hbA hS (vin (k := 2) (by decide) (by decide +kernel) (by decide)) dL_law_187 ?_
  refine tI (v := xs 2) (congrArg xs (by decide +kernel)) ?_
  refine xc_V (b := w26) (wc := [(w26, .inr (4, [.int 0, .int 0, .ref w27, .ref w28, .ref w29, .ref w30, .int 0, .ref w31, .ref w32, .ref w33, .ref w34, .int 0, .int 0, .int 0, .int 0, .ref w35, .ref w36, .ref w37, .ref w38, .ref w39]))]) (As := [.int (xs 1), .int (xs 2)]) (rest := []) (wr := [(w1, .inr (3, [.ref w2, .ref w14, .ref w24, .int 0]))]) ⟨hx, hb, hml, hown, hts⟩ (kX4_addVariable_2 l hfl dC dI cI cZ cJ cD w26 w27 w28 w29 w30 w31 w32 w33 w34 w35 w36 w37 w38 w39 (xs 1) (xs 2) _ h0 h1 h2) q752 okX4_addVariable hP hD hK hE hS hA [0] [1] rfl rfl (by decide) (by decide) (by decide) (ci := 4) rfl 0 rfl rfl rfl hl.1 rfl (Nat.le_of_ble_eq_true rfl) ⟨rfl, rfl⟩ ⟨Nat.le_of_ble_eq_true rfl, Nat.le_of_ble_eq_true rfl⟩ ⟨Nat.le_of_ble_eq_true rfl, Nat.le_of_ble_eq_true rfl⟩ dL_law_188 (fun H locs hP hD hS => ?_)
  have hP : va_P (dC, dI) vwCl [(w1, .inr (3, [.ref w2, .ref w14, .ref w24, .int 0])), (w26, .inr (4, [.int 1, .int 0, .ref w27, .ref w28, .ref w29, .ref w30, .int 0, .ref w31, .ref w32, .ref w33, .ref w34, .int 0, .int 0, .int 0, .int 0, .ref w35, .ref w36, .ref w37, .ref w38, .ref w39]))] H := hP
  have hD : va_D A [(w1, .inr (3, [.ref w2, .ref w14, .ref w24, .int 0])), (w26, .inr (4, [.int 1, .int 0, .ref w27, .ref w28, .ref w29, .ref w30, .int 0, .ref w31, .ref w32, .ref w33, .ref w34, .int 0, .int 0, .int 0, .int 0, .ref w35, .ref w36, .ref w37, .ref w38, .ref w39]))] := hD
  refine W.eq (g2 := F0 m 191 ls [.int 0]) rfl ?_
  refine lv_istore (lv' := [(7, .int 0), (6, .int 1), (5, .int 0), (4, .ref w41), (3, .ref w40), (2, .ref w26), (1, .ref w1), (0, .ref b)]) hx hb dL_law_191 hl (by decide) rfl (fun ls hl => ?_)
  refine lv_aload_n hx hb dL_law_193 rfl (lv_at hl 5 rfl) ?_
  refine xc_V (b := w26) (wc := [(w26, .inr (4, [.int 1, .int 0, .ref w27, .ref w28, .ref w29, .ref w30, .int 0, .ref w31, .ref w32, .ref w33, .ref w34, .int 0, .int 0, .int 0, .int 0, .ref w35, .ref w36, .ref w37, .ref w38, .ref w39]))]) (As := []) (rest := []) (wr := [(w1, .inr (3, [.ref w2, .ref w14, .ref w24, .int 0]))]) ⟨hx, hb, hml, hown, hts⟩ (kX4_thrown_0 l hfl dC dI cI cZ cJ cD w26 w27 w28 w29 w30 w31 w32 w33 w34 w35 w36 w37 w38 w39 _) q748 okX4_thrown hP hD hK hE hS hA [1] [0] rfl rfl (by decide) (by decide) (by decide) (ci := 4) rfl 1 rfl rfl rfl hl.1 rfl (Nat.le_of_ble_eq_true rfl) ⟨rfl, rfl⟩ ⟨Nat.le_of_ble_eq_true rfl, Nat.le_of_ble_eq_true rfl⟩ ⟨Nat.le_of_ble_eq_true rfl, Nat.le_of_ble_eq_true rfl⟩ dL_law_194 (fun H locs hP hD hS => ?_)
  have hP : va_P (dC, dI) vwCl [(w1, .inr (3, [.ref w2, .ref w14, .ref w24, .int 0])), (w26, .inr (4, [.int 1, .int 0, .ref w27, .ref w28, .ref w29, .ref w30, .int 0, .ref w31, .ref w32, .ref w33, .ref w34, .int 0, .int 0, .int 0, .int 0, .ref w35, .ref w36, .ref w37, .ref w38, .ref w39]))] H := hP
  have hD : va_D A [(w1, .inr (3, [.ref w2, .ref w14, .ref w24, .int 0])), (w26, .inr (4, [.int 1, .int 0, .ref w27, .ref w28, .ref w29, .ref w30, .int 0, .ref w31, .ref w32, .ref w33, .ref w34, .int 0, .int 0, .int 0, .int 0, .ref w35, .ref w36, .ref w37, .ref w38, .ref w39]))] := hD
  refine W.eq (g2 := F0 m 197 ls [.int 1]) rfl ?_
  refine lv_iload hx hb dL_law_197 (lv_at hl 1 rfl) ?_
  refine lv_icmp_eq (tgt := 204) hx hb dL_law_199 (by decide) (fun _ => ?_) (fun h9 => absurd (by decide) h9)
  refine lv_iload hx hb dL_law_204 (lv_at hl 1 rfl) ?_
  refine lv_if_ne (tgt := 221) hx hb dL_law_206 (by decide) (fun _ => ?_) (fun h9 => absurd h9 (by decide))
  refine lv_goto (tgt := 1401) hx hb dL_law_221 (by decide) ?_
  exact law_tail C hS (lv_sub hl [2, 7] rfl) (Nat.le_of_ble_eq_true rfl) (Nat.le_of_ble_eq_true rfl)
set_option maxHeartbeats 4000000 in
set_option maxRecDepth 100000 in
theorem law_0_3 {p : Program} {l : Launch} {e : Env} {s : State} {m : MethodId} {below : List Frame} {meth : Method} {c : Code} {b : Nat} {xs : Nat → Int32} {A : Nat → Prop} {dC : Nat → ClassId} {dI : Nat → Nat → Nat} {cI cZ cJ cD : ClassId} {w1 w2 w14 w24 w26 w27 w28 w29 w30 w31 w32 w33 w34 w35 w36 w37 w38 w39 w40 w41 : Nat} (C : LC p l s m meth c b xs A dC dI cI cZ cJ cD) {H : Heap} {locs : List Loc} {ls : Array Slot} (hP : va_P (dC, dI) vwCl [(w1, .inr (3, [.ref w2, .ref w14, .ref w24, .int 0])), (w26, .inr (4, [.int 0, .int 0, .ref w27, .ref w28, .ref w29, .ref w30, .int 0, .ref w31, .ref w32, .ref w33, .ref w34, .int 0, .int 0, .int 0, .int 0, .ref w35, .ref w36, .ref w37, .ref w38, .ref w39]))] H) (hD : va_D A [(w1, .inr (3, [.ref w2, .ref w14, .ref w24, .int 0])), (w26, .inr (4, [.int 0, .int 0, .ref w27, .ref w28, .ref w29, .ref w30, .int 0, .ref w31, .ref w32, .ref w33, .ref w34, .int 0, .int 0, .int 0, .int 0, .ref w35, .ref w36, .ref w37, .ref w38, .ref w39]))]) (hS : va_S A s.heap H locs) (hl : lv_has ls 9 [(5, .int 0), (4, .ref w41), (3, .ref w40), (2, .ref w26), (1, .ref w1), (0, .ref b)]) (h0 : ¬ (xs 1) < 2) (h1 : (xs 1) ≤ 4) (h2 : ¬ (xs 2) < 0) (h3 : ¬ (xs 2) < (xs 1)) : W p l e room_1 s m #[Value.ref b] below meth c H locs 41 66559 (lw_Z below #[Value.ref b] s) (F0 m 156 ls []) := by
  obtain ⟨hx, hb, hr, hml, hown, hts, hlocks, hX, hbl, hK, hE, hA, hA2, hbA, hfl⟩ := id C
  refine lv_aload_n hx hb dL_law_156 rfl (lv_at hl 4 rfl) ?_
  refine lv_aload_n hx hb dL_law_157 rfl (lv_at hl 5 rfl) ?_
  refine lv_iload hx hb dL_law_158 (lv_at hl 0 rfl) ?_
  refine lv_iconst (v := 1) hx hb dL_law_160 (by decide) ?_
  refine lv_iadd hx hb dL_law_161 ?_
  refine tI (v := 1) (by decide +kernel) ?_
  refine va_sld hx hb hX hbl hbA hS (vin (k := 1) (by decide) (by decide +kernel) (by decide)) dL_law_162 ?_
  refine tI (v := xs 1) (congrArg xs (by decide +kernel)) ?_
  refine lv_aload_n hx hb dL_law_163 rfl (lv_at hl 5 rfl) ?_
  refine lv_iload hx hb dL_law_164 (lv_at hl 0 rfl) ?_
  refine lv_iconst (v := 2) hx hb dL_law_166 (by decide) ?_
  refine lv_iadd hx hb dL_law_167 ?_
  refine tI (v := 2) (by decide +kernel) ?_
  refine va_sld hx hb hX hbl hbA hS (vin (k := 2) (by decide) (by decide +kernel) (by decide)) dL_law_168 ?_
  refine tI (v := xs 2) (congrArg xs (by decide +kernel)) ?_
  refine lv_aload_n hx hb dL_law_169 rfl (lv_at hl 2 rfl) ?_
  refine xc_H (wc := [(w1, .inr (3, [.ref w2, .ref w14, .ref w24, .int 0]))]) (As := [.ref w1, .int (xs 1), .int (xs 2), .ref w40]) (rest := []) (wr := [(w26, .inr (4, [.int 0, .int 0, .ref w27, .ref w28, .ref w29, .ref w30, .int 0, .ref w31, .ref w32, .ref w33, .ref w34, .int 0, .int 0, .int 0, .int 0, .ref w35, .ref w36, .ref w37, .ref w38, .ref w39]))]) ⟨hx, hb, hml, hown, hts⟩ (kL_addVariable_3 l hfl dC dI cI cZ cJ cD w1 w40 w2 w14 w24 (xs 1) (xs 2) _ h0 h1 h2 h3) q388 okL_addVariable hP hD hK hE hS hA [0] [1] rfl rfl (by decide) (by decide) (by decide) rfl hl.1 rfl (Nat.le_of_ble_eq_true rfl) ⟨rfl, rfl⟩ ⟨Nat.le_of_ble_eq_true rfl, Nat.le_of_ble_eq_true rfl⟩ ⟨Nat.le_of_ble_eq_true rfl, Nat.le_of_ble_eq_true rfl⟩ dL_law_170 (fun H locs hP hD hS => ?_)
  have hP : va_P (dC, dI) vwCl [(w26, .inr (4, [.int 0, .int 0, .ref w27, .ref w28, .ref w29, .ref w30, .int 0, .ref w31, .ref w32, .ref w33, .ref w34, .int 0, .int 0, .int 0, .int 0, .ref w35, .ref w36, .ref w37, .ref w38, .ref w39])), (w1, .inr (3, [.ref w2, .ref w14, .ref w24, .int 0]))] H := hP
  have hD : va_D A [(w26, .inr (4, [.int 0, .int 0, .ref w27, .ref w28, .ref w29, .ref w30, .int 0, .ref w31, .ref w32, .ref w33, .ref w34, .int 0, .int 0, .int 0, .int 0, .ref w35, .ref w36, .ref w37, .ref w38, .ref w39])), (w1, .inr (3, [.ref w2, .ref w14, .ref w24, .int 0]))] := hD
  refine W.eq (g2 := F0 m 173 ls [.int 1]) rfl ?_
  refine lv_istore (lv' := [(6, .int 1), (5, .int 0), (4, .ref w41), (3, .ref w40), (2, .ref w26), (1, .ref w1), (0, .ref b)]) hx hb dL_law_173 hl (by decide) rfl (fun ls hl => ?_)
  refine lv_aload_n hx hb dL_law_175 rfl (lv_at hl 4 rfl) ?_
  refine lv_aload_n hx hb dL_law_176 rfl (lv_at hl 6 rfl) ?_
  refine lv_iload hx hb dL_law_177 (lv_at hl 1 rfl) ?_
  refine lv_iconst (v := 1) hx hb dL_law_179 (by decide) ?_
  refine lv_iadd hx hb dL_law_180 ?_
  refine tI (v := 1) (by decide +kernel) ?_
  refine va_sld hx hb hX hbl hbA hS (vin (k := 1) (by decide) (by decide +kernel) (by decide)) dL_law_181 ?_
  refine tI (v := xs 1) (congrArg xs (by decide +kernel)) ?_
  refine lv_aload_n hx hb dL_law_182 rfl (lv_at hl 6 rfl) ?_
  refine lv_iload hx hb dL_law_183 (lv_at hl 1 rfl) ?_
  refine lv_iconst (v := 2) hx hb dL_law_185 (by decide) ?_
  refine lv_iadd hx hb dL_law_186 ?_
  refine tI (v := 2) (by decide +kernel) ?_
  refine va_sld hx hb hX hbl hbA hS (vin (k := 2) (by decide) (by decide +kernel) (by decide)) dL_law_187 ?_
  refine tI (v := xs 2) (congrArg xs (by decide +kernel)) ?_
  refine xc_V (b := w26) (wc := [(w26, .inr (4, [.int 0, .int 0, .ref w27, .ref w28, .ref w29, .ref w30, .int 0, .ref w31, .ref w32, .ref w33, .ref w34, .int 0, .int 0, .int 0, .int 0, .ref w35, .ref w36, .ref w37, .ref w38, .ref w39]))]) (As := [.int (xs 1), .int (xs 2)]) (rest := []) (wr := [(w1, .inr (3, [.ref w2, .ref w14, .ref w24, .int 0]))]) ⟨hx, hb, hml, hown, hts⟩ (kX4_addVariable_3 l hfl dC dI cI cZ cJ cD w26 w27 w28 w29 w30 w31 w32 w33 w34 w35 w36 w37 w38 w39 (xs 1) (xs 2) _ h0 h1 h2 h3) q752 okX4_addVariable hP hD hK hE hS hA [0] [1] rfl rfl (by decide) (by decide) (by decide) (ci := 4) rfl 0 rfl rfl rfl hl.1 rfl (Nat.le_of_ble_eq_true rfl) ⟨rfl, rfl⟩ ⟨Nat.le_of_ble_eq_true rfl, Nat.le_of_ble_eq_true rfl⟩ ⟨Nat.le_of_ble_eq_true rfl, Nat.le_of_ble_eq_true rfl⟩ dL_law_188 (fun H locs hP hD hS => ?_)
  have hP : va_P (dC, dI) vwCl [(w1, .inr (3, [.ref w2, .ref w14, .ref w24, .int 0])), (w26, .inr (4, [.int 1, .int 0, .ref w27, .ref w28, .ref w29, .ref w30, .int 0, .ref w31, .ref w32, .ref w33, .ref w34, .int 0, .int 0, .int 0, .int 0, .ref w35, .ref w36, .ref w37, .ref w38, .ref w39]))] H := hP
  have hD : va_D A [(w1, .inr (3, [.ref w2, .ref w14, .ref w24, .int 0])), (w26, .inr (4, [.int 1, .int 0, .ref w27, .ref w28, .ref w29, .ref w30, .int 0, .ref w31, .ref w32, .ref w33, .ref w34, .int 0, .int 0, .int 0, .int 0, .ref w35, .ref w36, .ref w37, .ref w38, .ref w39]))] := hD
  refine W.eq (g2 := F0 m 191 ls [.int 0]) rfl ?_
  refine lv_istore (lv' := [(7, .int 0), (6, .int 1), (5, .int 0), (4, .ref w41), (3, .ref w40), (2, .ref w26), (1, .ref w1), (0, .ref b)]) hx hb dL_law_191 hl (by decide) rfl (fun ls hl => ?_)
  refine lv_aload_n hx hb dL_law_193 rfl (lv_at hl 5 rfl) ?_
  refine xc_V (b := w26) (wc := [(w26, .inr (4, [.int 1, .int 0, .ref w27, .ref w28, .ref w29, .ref w30, .int 0, .ref w31, .ref w32, .ref w33, .ref w34, .int 0, .int 0, .int 0, .int 0, .ref w35, .ref w36, .ref w37, .ref w38, .ref w39]))]) (As := []) (rest := []) (wr := [(w1, .inr (3, [.ref w2, .ref w14, .ref w24, .int 0]))]) ⟨hx, hb, hml, hown, hts⟩ (kX4_thrown_0 l hfl dC dI cI cZ cJ cD w26 w27 w28 w29 w30 w31 w32 w33 w34 w35 w36 w37 w38 w39 _) q748 okX4_thrown hP hD hK hE hS hA [1] [0] rfl rfl (by decide) (by decide) (by decide) (ci := 4) rfl 1 rfl rfl rfl hl.1 rfl (Nat.le_of_ble_eq_true rfl) ⟨rfl, rfl⟩ ⟨Nat.le_of_ble_eq_true rfl, Nat.le_of_ble_eq_true rfl⟩ ⟨Nat.le_of_ble_eq_true rfl, Nat.le_of_ble_eq_true rfl⟩ dL_law_194 (fun H locs hP hD hS => ?_)
  have hP : va_P (dC, dI) vwCl [(w1, .inr (3, [.ref w2, .ref w14, .ref w24, .int 0])), (w26, .inr (4, [.int 1, .int 0, .ref w27, .ref w28, .ref w29, .ref w30, .int 0, .ref w31, .ref w32, .ref w33, .ref w34, .int 0, .int 0, .int 0, .int 0, .ref w35, .ref w36, .ref w37, .ref w38, .ref w39]))] H := hP
  have hD : va_D A [(w1, .inr (3, [.ref w2, .ref w14, .ref w24, .int 0])), (w26, .inr (4, [.int 1, .int 0, .ref w27, .ref w28, .ref w29, .ref w30, .int 0, .ref w31, .ref w32, .ref w33, .ref w34, .int 0, .int 0, .int 0, .int 0, .ref w35, .ref w36, .ref w37, .ref w38, .ref w39]))] := hD
  refine W.eq (g2 := F0 m 197 ls [.int 1]) rfl ?_
  refine lv_iload hx hb dL_law_197 (lv_at hl 1 rfl) ?_
  refine lv_icmp_eq (tgt := 204) hx hb dL_law_199 (by decide) (fun _ => ?_) (fun h9 => absurd (by decide) h9)
  refine lv_iload hx hb dL_law_204 (lv_at hl 1 rfl) ?_
  refine lv_if_ne (tgt := 221) hx hb dL_law_206 (by decide) (fun _ => ?_) (fun h9 => absurd h9 (by decide))
  refine lv_goto (tgt := 1401) hx hb dL_law_221 (by decide) ?_
  exact law_tail C hS (lv_sub hl [2, 7] rfl) (Nat.le_of_ble_eq_true rfl) (Nat.le_of_ble_eq_true rfl)
set_option maxHeartbeats 4000000 in
set_option maxRecDepth 100000 in
theorem law_0_4 {p : Program} {l : Launch} {e : Env} {s : State} {m : MethodId} {below : List Frame} {meth : Method} {c : Code} {b : Nat} {xs : Nat → Int32} {A : Nat → Prop} {dC : Nat → ClassId} {dI : Nat → Nat → Nat} {cI cZ cJ cD : ClassId} {w1 w2 w3 w4 w5 w6 w7 w8 w9 w10 w11 w12 w13 w14 w24 w26 w27 w28 w29 w30 w31 w32 w33 w34 w35 w36 w37 w38 w39 w40 w41 : Nat} (C : LC p l s m meth c b xs A dC dI cI cZ cJ cD) {H : Heap} {locs : List Loc} {ls : Array Slot} (hP : va_P (dC, dI) vwCl [(w1, .inr (3, [.ref w2, .ref w14, .ref w24, .int 0])), (w2, .inr (1, [.int 0, .ref w3, .ref w4, .ref w5, .ref w6, .ref w7, .ref w8, .ref w9, .int 0, .ref w10, .ref w11, .ref w12, .ref w13])), (w3, .inl (cI, 4, .inl (fun _ => 0))), (w4, .inl (cI, 4, .inl (fun _ => 0))), (w5, .inl (cI, 4, .inl (fun _ => 0))), (w6, .inl (cI, 4, .inl (fun _ => 0))), (w7, .inl (cI, 4, .inl (fun _ => 0))), (w8, .inl (cI, 4, .inl (fun _ => 0))), (w9, .inl (cI, 4, .inl (fun _ => 0))), (w26, .inr (4, [.int 0, .int 0, .ref w27, .ref w28, .ref w29, .ref w30, .int 0, .ref w31, .ref w32, .ref w33, .ref w34, .int 0, .int 0, .int 0, .int 0, .ref w35, .ref w36, .ref w37, .ref w38, .ref w39])), (w27, .inl (cI, 4, .inl (fun _ => 0))), (w28, .inl (cI, 4, .inl (fun _ => 0))), (w29, .inl (cI, 4, .inl (fun _ => 0))), (w30, .inl (cI, 4, .inl (fun _ => 0))), (w40, .inl (cJ, 1, .inr (.inl (fun _ => 0))))] H) (hD : va_D A [(w1, .inr (3, [.ref w2, .ref w14, .ref w24, .int 0])), (w2, .inr (1, [.int 0, .ref w3, .ref w4, .ref w5, .ref w6, .ref w7, .ref w8, .ref w9, .int 0, .ref w10, .ref w11, .ref w12, .ref w13])), (w3, .inl (cI, 4, .inl (fun _ => 0))), (w4, .inl (cI, 4, .inl (fun _ => 0))), (w5, .inl (cI, 4, .inl (fun _ => 0))), (w6, .inl (cI, 4, .inl (fun _ => 0))), (w7, .inl (cI, 4, .inl (fun _ => 0))), (w8, .inl (cI, 4, .inl (fun _ => 0))), (w9, .inl (cI, 4, .inl (fun _ => 0))), (w26, .inr (4, [.int 0, .int 0, .ref w27, .ref w28, .ref w29, .ref w30, .int 0, .ref w31, .ref w32, .ref w33, .ref w34, .int 0, .int 0, .int 0, .int 0, .ref w35, .ref w36, .ref w37, .ref w38, .ref w39])), (w27, .inl (cI, 4, .inl (fun _ => 0))), (w28, .inl (cI, 4, .inl (fun _ => 0))), (w29, .inl (cI, 4, .inl (fun _ => 0))), (w30, .inl (cI, 4, .inl (fun _ => 0))), (w40, .inl (cJ, 1, .inr (.inl (fun _ => 0))))]) (hS : va_S A s.heap H locs) (hl : lv_has ls 9 [(5, .int 0), (4, .ref w41), (3, .ref w40), (2, .ref w26), (1, .ref w1), (0, .ref b)]) (h0 : ¬ (xs 1) < 2) (h1 : (xs 1) ≤ 4) (h2 : ¬ (xs 2) < 0) (h3 : (xs 2) < (xs 1)) : W p l e room_1 s m #[Value.ref b] below meth c H locs 41 66559 (lw_Z below #[Value.ref b] s) (F0 m 156 ls []) := by
  obtain ⟨hx, hb, hr, hml, hown, hts, hlocks, hX, hbl, hK, hE, hA, hA2, hbA, hfl⟩ := id C
  refine lv_aload_n hx hb dL_law_156 rfl (lv_at hl 4 rfl) ?_
  refine lv_aload_n hx hb dL_law_157 rfl (lv_at hl 5 rfl) ?_
  refine lv_iload hx hb dL_law_158 (lv_at hl 0 rfl) ?_
  refine lv_iconst (v := 1) hx hb dL_law_160 (by decide) ?_
  refine lv_iadd hx hb dL_law_161 ?_
  refine tI (v := 1) (by decide +kernel) ?_
  refine va_sld hx hb hX hbl hbA hS (vin (k := 1) (by decide) (by decide +kernel) (by decide)) dL_law_162 ?_
  refine tI (v := xs 1) (congrArg xs (by decide +kernel)) ?_
  refine lv_aload_n hx hb dL_law_163 rfl (lv_at hl 5 rfl) ?_
  refine lv_iload hx hb dL_law_164 (lv_at hl 0 rfl) ?_
  refine lv_iconst (v := 2) hx hb dL_law_166 (by decide) ?_
  refine lv_iadd hx hb dL_law_167 ?_
  refine tI (v := 2) (by decide +kernel) ?_
  refine va_sld hx hb hX hbl hbA hS (vin (k := 2) (by decide) (by decide +kernel) (by decide)) dL_law_168 ?_
  refine tI (v := xs 2) (congrArg xs (by decide +kernel)) ?_
  refine lv_aload_n hx hb dL_law_169 rfl (lv_at hl 2 rfl) ?_
  refine xc_H (wc := [(w1, .inr (3, [.ref w2, .ref w14, .ref w24, .int 0])), (w2, .inr (1, [.int 0, .ref w3, .ref w4, .ref w5, .ref w6, .ref w7, .ref w8, .ref w9, .int 0, .ref w10, .ref w11, .ref w12, .ref w13])), (w3, .inl (cI, 4, .inl (fun _ => 0))), (w4, .inl (cI, 4, .inl (fun _ => 0))), (w5, .inl (cI, 4, .inl (fun _ => 0))), (w6, .inl (cI, 4, .inl (fun _ => 0))), (w7, .inl (cI, 4, .inl (fun _ => 0))), (w8, .inl (cI, 4, .inl (fun _ => 0))), (w9, .inl (cI, 4, .inl (fun _ => 0))), (w40, .inl (cJ, 1, .inr (.inl (fun _ => 0))))]) (As := [.ref w1, .int (xs 1), .int (xs 2), .ref w40]) (rest := []) (wr := [(w26, .inr (4, [.int 0, .int 0, .ref w27, .ref w28, .ref w29, .ref w30, .int 0, .ref w31, .ref w32, .ref w33, .ref w34, .int 0, .int 0, .int 0, .int 0, .ref w35, .ref w36, .ref w37, .ref w38, .ref w39])), (w27, .inl (cI, 4, .inl (fun _ => 0))), (w28, .inl (cI, 4, .inl (fun _ => 0))), (w29, .inl (cI, 4, .inl (fun _ => 0))), (w30, .inl (cI, 4, .inl (fun _ => 0)))]) ⟨hx, hb, hml, hown, hts⟩ (kL_addVariable_4 l hfl dC dI cI cZ cJ cD w1 w40 w2 w14 w24 w3 w4 w5 w6 w7 w8 w9 w10 w11 w12 w13 (xs 1) (xs 2) _ h0 h1 h2 h3) q388 okL_addVariable hP hD hK hE hS hA [0, 1, 2, 3, 4, 5, 6, 7, 8, 14] [9, 10, 11, 12, 13] rfl rfl (by decide) (by decide) (by decide) rfl hl.1 rfl (Nat.le_of_ble_eq_true rfl) ⟨rfl, rfl⟩ ⟨Nat.le_of_ble_eq_true rfl, Nat.le_of_ble_eq_true rfl⟩ ⟨Nat.le_of_ble_eq_true rfl, Nat.le_of_ble_eq_true rfl⟩ dL_law_170 (fun H locs hP hD hS => ?_)
  have hP : va_P (dC, dI) vwCl [(w26, .inr (4, [.int 0, .int 0, .ref w27, .ref w28, .ref w29, .ref w30, .int 0, .ref w31, .ref w32, .ref w33, .ref w34, .int 0, .int 0, .int 0, .int 0, .ref w35, .ref w36, .ref w37, .ref w38, .ref w39])), (w27, .inl (cI, 4, .inl (fun _ => 0))), (w28, .inl (cI, 4, .inl (fun _ => 0))), (w29, .inl (cI, 4, .inl (fun _ => 0))), (w30, .inl (cI, 4, .inl (fun _ => 0))), (w1, .inr (3, [.ref w2, .ref w14, .ref w24, .int 0])), (w2, .inr (1, [.int 1, .ref w3, .ref w4, .ref w5, .ref w6, .ref w7, .ref w8, .ref w9, .int 0, .ref w10, .ref w11, .ref w12, .ref w13])), (w3, .inl (cI, 4, .inl (upd (fun _ => 0) 0 (xs 1)))), (w4, .inl (cI, 4, .inl (upd (fun _ => 0) 0 (xs 2)))), (w5, .inl (cI, 4, .inl (upd (fun _ => 0) 0 (-1)))), (w6, .inl (cI, 4, .inl (upd (fun _ => 0) 0 2))), (w7, .inl (cI, 4, .inl (upd (fun _ => 0) 0 (((1 : Int32) <<< (((((3 : Int32) * ((2 : Int32) * (xs 2))) + (-1 : Int32)) + (1 : Int32)) &&& 31)) - (1 : Int32))))), (w8, .inl (cI, 4, .inl (upd (fun _ => 0) 0 ((7 : Int32) <<< (((((3 : Int32) * ((2 : Int32) * (xs 2))) + (-1 : Int32)) + (1 : Int32)) &&& 31))))), (w9, .inl (cI, 4, .inl (upd (fun _ => 0) 0 (((((1 : Int32) <<< (((((3 : Int32) * (((2 : Int32) * (xs 1)) - (2 : Int32))) + (2 : Int32)) + (1 : Int32)) &&& 31)) - (1 : Int32)) &&& ((((1 : Int32) <<< (((((3 : Int32) * ((2 : Int32) * (xs 2))) + (-1 : Int32)) + (1 : Int32)) &&& 31)) - (1 : Int32)) ^^^ (-1 : Int32))) &&& (((7 : Int32) <<< (((((3 : Int32) * ((2 : Int32) * (xs 2))) + (-1 : Int32)) + (1 : Int32)) &&& 31)) ^^^ (-1 : Int32)))))), (w40, .inl (cJ, 1, .inr (.inl (vp_updL (fun _ => 0) 0 0))))] H := hP
  have hD : va_D A [(w26, .inr (4, [.int 0, .int 0, .ref w27, .ref w28, .ref w29, .ref w30, .int 0, .ref w31, .ref w32, .ref w33, .ref w34, .int 0, .int 0, .int 0, .int 0, .ref w35, .ref w36, .ref w37, .ref w38, .ref w39])), (w27, .inl (cI, 4, .inl (fun _ => 0))), (w28, .inl (cI, 4, .inl (fun _ => 0))), (w29, .inl (cI, 4, .inl (fun _ => 0))), (w30, .inl (cI, 4, .inl (fun _ => 0))), (w1, .inr (3, [.ref w2, .ref w14, .ref w24, .int 0])), (w2, .inr (1, [.int 1, .ref w3, .ref w4, .ref w5, .ref w6, .ref w7, .ref w8, .ref w9, .int 0, .ref w10, .ref w11, .ref w12, .ref w13])), (w3, .inl (cI, 4, .inl (upd (fun _ => 0) 0 (xs 1)))), (w4, .inl (cI, 4, .inl (upd (fun _ => 0) 0 (xs 2)))), (w5, .inl (cI, 4, .inl (upd (fun _ => 0) 0 (-1)))), (w6, .inl (cI, 4, .inl (upd (fun _ => 0) 0 2))), (w7, .inl (cI, 4, .inl (upd (fun _ => 0) 0 (((1 : Int32) <<< (((((3 : Int32) * ((2 : Int32) * (xs 2))) + (-1 : Int32)) + (1 : Int32)) &&& 31)) - (1 : Int32))))), (w8, .inl (cI, 4, .inl (upd (fun _ => 0) 0 ((7 : Int32) <<< (((((3 : Int32) * ((2 : Int32) * (xs 2))) + (-1 : Int32)) + (1 : Int32)) &&& 31))))), (w9, .inl (cI, 4, .inl (upd (fun _ => 0) 0 (((((1 : Int32) <<< (((((3 : Int32) * (((2 : Int32) * (xs 1)) - (2 : Int32))) + (2 : Int32)) + (1 : Int32)) &&& 31)) - (1 : Int32)) &&& ((((1 : Int32) <<< (((((3 : Int32) * ((2 : Int32) * (xs 2))) + (-1 : Int32)) + (1 : Int32)) &&& 31)) - (1 : Int32)) ^^^ (-1 : Int32))) &&& (((7 : Int32) <<< (((((3 : Int32) * ((2 : Int32) * (xs 2))) + (-1 : Int32)) + (1 : Int32)) &&& 31)) ^^^ (-1 : Int32)))))), (w40, .inl (cJ, 1, .inr (.inl (vp_updL (fun _ => 0) 0 0))))] := hD
  refine W.eq (g2 := F0 m 173 ls [.int 0]) rfl ?_
  refine lv_istore (lv' := [(6, .int 0), (5, .int 0), (4, .ref w41), (3, .ref w40), (2, .ref w26), (1, .ref w1), (0, .ref b)]) hx hb dL_law_173 hl (by decide) rfl (fun ls hl => ?_)
  refine lv_aload_n hx hb dL_law_175 rfl (lv_at hl 4 rfl) ?_
  refine lv_aload_n hx hb dL_law_176 rfl (lv_at hl 6 rfl) ?_
  refine lv_iload hx hb dL_law_177 (lv_at hl 1 rfl) ?_
  refine lv_iconst (v := 1) hx hb dL_law_179 (by decide) ?_
  refine lv_iadd hx hb dL_law_180 ?_
  refine tI (v := 1) (by decide +kernel) ?_
  refine va_sld hx hb hX hbl hbA hS (vin (k := 1) (by decide) (by decide +kernel) (by decide)) dL_law_181 ?_
  refine tI (v := xs 1) (congrArg xs (by decide +kernel)) ?_
  refine lv_aload_n hx hb dL_law_182 rfl (lv_at hl 6 rfl) ?_
  refine lv_iload hx hb dL_law_183 (lv_at hl 1 rfl) ?_
  refine lv_iconst (v := 2) hx hb dL_law_185 (by decide) ?_
  refine lv_iadd hx hb dL_law_186 ?_
  refine tI (v := 2) (by decide +kernel) ?_
  refine va_sld hx hb hX hbl hbA hS (vin (k := 2) (by decide) (by decide +kernel) (by decide)) dL_law_187 ?_
  refine tI (v := xs 2) (congrArg xs (by decide +kernel)) ?_
  refine xc_V (b := w26) (wc := [(w26, .inr (4, [.int 0, .int 0, .ref w27, .ref w28, .ref w29, .ref w30, .int 0, .ref w31, .ref w32, .ref w33, .ref w34, .int 0, .int 0, .int 0, .int 0, .ref w35, .ref w36, .ref w37, .ref w38, .ref w39])), (w27, .inl (cI, 4, .inl (fun _ => 0))), (w28, .inl (cI, 4, .inl (fun _ => 0))), (w29, .inl (cI, 4, .inl (fun _ => 0))), (w30, .inl (cI, 4, .inl (fun _ => 0)))]) (As := [.int (xs 1), .int (xs 2)]) (rest := []) (wr := [(w1, .inr (3, [.ref w2, .ref w14, .ref w24, .int 0])), (w2, .inr (1, [.int 1, .ref w3, .ref w4, .ref w5, .ref w6, .ref w7, .ref w8, .ref w9, .int 0, .ref w10, .ref w11, .ref w12, .ref w13])), (w3, .inl (cI, 4, .inl (upd (fun _ => 0) 0 (xs 1)))), (w4, .inl (cI, 4, .inl (upd (fun _ => 0) 0 (xs 2)))), (w5, .inl (cI, 4, .inl (upd (fun _ => 0) 0 (-1)))), (w6, .inl (cI, 4, .inl (upd (fun _ => 0) 0 2))), (w7, .inl (cI, 4, .inl (upd (fun _ => 0) 0 (((1 : Int32) <<< (((((3 : Int32) * ((2 : Int32) * (xs 2))) + (-1 : Int32)) + (1 : Int32)) &&& 31)) - (1 : Int32))))), (w8, .inl (cI, 4, .inl (upd (fun _ => 0) 0 ((7 : Int32) <<< (((((3 : Int32) * ((2 : Int32) * (xs 2))) + (-1 : Int32)) + (1 : Int32)) &&& 31))))), (w9, .inl (cI, 4, .inl (upd (fun _ => 0) 0 (((((1 : Int32) <<< (((((3 : Int32) * (((2 : Int32) * (xs 1)) - (2 : Int32))) + (2 : Int32)) + (1 : Int32)) &&& 31)) - (1 : Int32)) &&& ((((1 : Int32) <<< (((((3 : Int32) * ((2 : Int32) * (xs 2))) + (-1 : Int32)) + (1 : Int32)) &&& 31)) - (1 : Int32)) ^^^ (-1 : Int32))) &&& (((7 : Int32) <<< (((((3 : Int32) * ((2 : Int32) * (xs 2))) + (-1 : Int32)) + (1 : Int32)) &&& 31)) ^^^ (-1 : Int32)))))), (w40, .inl (cJ, 1, .inr (.inl (vp_updL (fun _ => 0) 0 0))))]) ⟨hx, hb, hml, hown, hts⟩ (kX4_addVariable_4 l hfl dC dI cI cZ cJ cD w26 w27 w28 w29 w30 w31 w32 w33 w34 w35 w36 w37 w38 w39 (xs 1) (xs 2) _ h0 h1 h2 h3) q752 okX4_addVariable hP hD hK hE hS hA [0, 1, 2, 3, 4] [5, 6, 7, 8, 9, 10, 11, 12, 13, 14] rfl rfl (by decide) (by decide) (by decide) (ci := 4) rfl 0 rfl rfl rfl hl.1 rfl (Nat.le_of_ble_eq_true rfl) ⟨rfl, rfl⟩ ⟨Nat.le_of_ble_eq_true rfl, Nat.le_of_ble_eq_true rfl⟩ ⟨Nat.le_of_ble_eq_true rfl, Nat.le_of_ble_eq_true rfl⟩ dL_law_188 (fun H locs hP hD hS => ?_)
  have hP : va_P (dC, dI) vwCl [(w1, .inr (3, [.ref w2, .ref w14, .ref w24, .int 0])), (w2, .inr (1, [.int 1, .ref w3, .ref w4, .ref w5, .ref w6, .ref w7, .ref w8, .ref w9, .int 0, .ref w10, .ref w11, .ref w12, .ref w13])), (w3, .inl (cI, 4, .inl (upd (fun _ => 0) 0 (xs 1)))), (w4, .inl (cI, 4, .inl (upd (fun _ => 0) 0 (xs 2)))), (w5, .inl (cI, 4, .inl (upd (fun _ => 0) 0 (-1)))), (w6, .inl (cI, 4, .inl (upd (fun _ => 0) 0 2))), (w7, .inl (cI, 4, .inl (upd (fun _ => 0) 0 (((1 : Int32) <<< (((((3 : Int32) * ((2 : Int32) * (xs 2))) + (-1 : Int32)) + (1 : Int32)) &&& 31)) - (1 : Int32))))), (w8, .inl (cI, 4, .inl (upd (fun _ => 0) 0 ((7 : Int32) <<< (((((3 : Int32) * ((2 : Int32) * (xs 2))) + (-1 : Int32)) + (1 : Int32)) &&& 31))))), (w9, .inl (cI, 4, .inl (upd (fun _ => 0) 0 (((((1 : Int32) <<< (((((3 : Int32) * (((2 : Int32) * (xs 1)) - (2 : Int32))) + (2 : Int32)) + (1 : Int32)) &&& 31)) - (1 : Int32)) &&& ((((1 : Int32) <<< (((((3 : Int32) * ((2 : Int32) * (xs 2))) + (-1 : Int32)) + (1 : Int32)) &&& 31)) - (1 : Int32)) ^^^ (-1 : Int32))) &&& (((7 : Int32) <<< (((((3 : Int32) * ((2 : Int32) * (xs 2))) + (-1 : Int32)) + (1 : Int32)) &&& 31)) ^^^ (-1 : Int32)))))), (w40, .inl (cJ, 1, .inr (.inl (vp_updL (fun _ => 0) 0 0)))), (w26, .inr (4, [.int 0, .int 1, .ref w27, .ref w28, .ref w29, .ref w30, .int 0, .ref w31, .ref w32, .ref w33, .ref w34, .int 0, .int 0, .int 0, .int 0, .ref w35, .ref w36, .ref w37, .ref w38, .ref w39])), (w27, .inl (cI, 4, .inl (upd (fun _ => 0) 0 (xs 1)))), (w28, .inl (cI, 4, .inl (upd (fun _ => 0) 0 (xs 2)))), (w29, .inl (cI, 4, .inl (upd (fun _ => 0) 0 (-1)))), (w30, .inl (cI, 4, .inl (upd (fun _ => 0) 0 2)))] H := hP
  have hD : va_D A [(w1, .inr (3, [.ref w2, .ref w14, .ref w24, .int 0])), (w2, .inr (1, [.int 1, .ref w3, .ref w4, .ref w5, .ref w6, .ref w7, .ref w8, .ref w9, .int 0, .ref w10, .ref w11, .ref w12, .ref w13])), (w3, .inl (cI, 4, .inl (upd (fun _ => 0) 0 (xs 1)))), (w4, .inl (cI, 4, .inl (upd (fun _ => 0) 0 (xs 2)))), (w5, .inl (cI, 4, .inl (upd (fun _ => 0) 0 (-1)))), (w6, .inl (cI, 4, .inl (upd (fun _ => 0) 0 2))), (w7, .inl (cI, 4, .inl (upd (fun _ => 0) 0 (((1 : Int32) <<< (((((3 : Int32) * ((2 : Int32) * (xs 2))) + (-1 : Int32)) + (1 : Int32)) &&& 31)) - (1 : Int32))))), (w8, .inl (cI, 4, .inl (upd (fun _ => 0) 0 ((7 : Int32) <<< (((((3 : Int32) * ((2 : Int32) * (xs 2))) + (-1 : Int32)) + (1 : Int32)) &&& 31))))), (w9, .inl (cI, 4, .inl (upd (fun _ => 0) 0 (((((1 : Int32) <<< (((((3 : Int32) * (((2 : Int32) * (xs 1)) - (2 : Int32))) + (2 : Int32)) + (1 : Int32)) &&& 31)) - (1 : Int32)) &&& ((((1 : Int32) <<< (((((3 : Int32) * ((2 : Int32) * (xs 2))) + (-1 : Int32)) + (1 : Int32)) &&& 31)) - (1 : Int32)) ^^^ (-1 : Int32))) &&& (((7 : Int32) <<< (((((3 : Int32) * ((2 : Int32) * (xs 2))) + (-1 : Int32)) + (1 : Int32)) &&& 31)) ^^^ (-1 : Int32)))))), (w40, .inl (cJ, 1, .inr (.inl (vp_updL (fun _ => 0) 0 0)))), (w26, .inr (4, [.int 0, .int 1, .ref w27, .ref w28, .ref w29, .ref w30, .int 0, .ref w31, .ref w32, .ref w33, .ref w34, .int 0, .int 0, .int 0, .int 0, .ref w35, .ref w36, .ref w37, .ref w38, .ref w39])), (w27, .inl (cI, 4, .inl (upd (fun _ => 0) 0 (xs 1)))), (w28, .inl (cI, 4, .inl (upd (fun _ => 0) 0 (xs 2)))), (w29, .inl (cI, 4, .inl (upd (fun _ => 0) 0 (-1)))), (w30, .inl (cI, 4, .inl (upd (fun _ => 0) 0 2)))] := hD
  refine W.eq (g2 := F0 m 191 ls [.int 0]) rfl ?_
  refine lv_istore (lv' := [(7, .int 0), (6, .int 0), (5, .int 0), (4, .ref w41), (3, .ref w40), (2, .ref w26), (1, .ref w1), (0, .ref b)]) hx hb dL_law_191 hl (by decide) rfl (fun ls hl => ?_)
  refine lv_aload_n hx hb dL_law_193 rfl (lv_at hl 5 rfl) ?_
  refine xc_V (b := w26) (wc := [(w26, .inr (4, [.int 0, .int 1, .ref w27, .ref w28, .ref w29, .ref w30, .int 0, .ref w31, .ref w32, .ref w33, .ref w34, .int 0, .int 0, .int 0, .int 0, .ref w35, .ref w36, .ref w37, .ref w38, .ref w39]))]) (As := []) (rest := []) (wr := [(w1, .inr (3, [.ref w2, .ref w14, .ref w24, .int 0])), (w2, .inr (1, [.int 1, .ref w3, .ref w4, .ref w5, .ref w6, .ref w7, .ref w8, .ref w9, .int 0, .ref w10, .ref w11, .ref w12, .ref w13])), (w3, .inl (cI, 4, .inl (upd (fun _ => 0) 0 (xs 1)))), (w4, .inl (cI, 4, .inl (upd (fun _ => 0) 0 (xs 2)))), (w5, .inl (cI, 4, .inl (upd (fun _ => 0) 0 (-1)))), (w6, .inl (cI, 4, .inl (upd (fun _ => 0) 0 2))), (w7, .inl (cI, 4, .inl (upd (fun _ => 0) 0 (((1 : Int32) <<< (((((3 : Int32) * ((2 : Int32) * (xs 2))) + (-1 : Int32)) + (1 : Int32)) &&& 31)) - (1 : Int32))))), (w8, .inl (cI, 4, .inl (upd (fun _ => 0) 0 ((7 : Int32) <<< (((((3 : Int32) * ((2 : Int32) * (xs 2))) + (-1 : Int32)) + (1 : Int32)) &&& 31))))), (w9, .inl (cI, 4, .inl (upd (fun _ => 0) 0 (((((1 : Int32) <<< (((((3 : Int32) * (((2 : Int32) * (xs 1)) - (2 : Int32))) + (2 : Int32)) + (1 : Int32)) &&& 31)) - (1 : Int32)) &&& ((((1 : Int32) <<< (((((3 : Int32) * ((2 : Int32) * (xs 2))) + (-1 : Int32)) + (1 : Int32)) &&& 31)) - (1 : Int32)) ^^^ (-1 : Int32))) &&& (((7 : Int32) <<< (((((3 : Int32) * ((2 : Int32) * (xs 2))) + (-1 : Int32)) + (1 : Int32)) &&& 31)) ^^^ (-1 : Int32)))))), (w40, .inl (cJ, 1, .inr (.inl (vp_updL (fun _ => 0) 0 0)))), (w27, .inl (cI, 4, .inl (upd (fun _ => 0) 0 (xs 1)))), (w28, .inl (cI, 4, .inl (upd (fun _ => 0) 0 (xs 2)))), (w29, .inl (cI, 4, .inl (upd (fun _ => 0) 0 (-1)))), (w30, .inl (cI, 4, .inl (upd (fun _ => 0) 0 2)))]) ⟨hx, hb, hml, hown, hts⟩ (kX4_thrown_1 l hfl dC dI cI cZ cJ cD w26 w27 w28 w29 w30 w31 w32 w33 w34 w35 w36 w37 w38 w39 _) q748 okX4_thrown hP hD hK hE hS hA [10] [0, 1, 2, 3, 4, 5, 6, 7, 8, 9, 11, 12, 13, 14] rfl rfl (by decide) (by decide) (by decide) (ci := 4) rfl 10 rfl rfl rfl hl.1 rfl (Nat.le_of_ble_eq_true rfl) ⟨rfl, rfl⟩ ⟨Nat.le_of_ble_eq_true rfl, Nat.le_of_ble_eq_true rfl⟩ ⟨Nat.le_of_ble_eq_true rfl, Nat.le_of_ble_eq_true rfl⟩ dL_law_194 (fun H locs hP hD hS => ?_)
  have hP : va_P (dC, dI) vwCl [(w1, .inr (3, [.ref w2, .ref w14, .ref w24, .int 0])), (w2, .inr (1, [.int 1, .ref w3, .ref w4, .ref w5, .ref w6, .ref w7, .ref w8, .ref w9, .int 0, .ref w10, .ref w11, .ref w12, .ref w13])), (w3, .inl (cI, 4, .inl (upd (fun _ => 0) 0 (xs 1)))), (w4, .inl (cI, 4, .inl (upd (fun _ => 0) 0 (xs 2)))), (w5, .inl (cI, 4, .inl (upd (fun _ => 0) 0 (-1)))), (w6, .inl (cI, 4, .inl (upd (fun _ => 0) 0 2))), (w7, .inl (cI, 4, .inl (upd (fun _ => 0) 0 (((1 : Int32) <<< (((((3 : Int32) * ((2 : Int32) * (xs 2))) + (-1 : Int32)) + (1 : Int32)) &&& 31)) - (1 : Int32))))), (w8, .inl (cI, 4, .inl (upd (fun _ => 0) 0 ((7 : Int32) <<< (((((3 : Int32) * ((2 : Int32) * (xs 2))) + (-1 : Int32)) + (1 : Int32)) &&& 31))))), (w9, .inl (cI, 4, .inl (upd (fun _ => 0) 0 (((((1 : Int32) <<< (((((3 : Int32) * (((2 : Int32) * (xs 1)) - (2 : Int32))) + (2 : Int32)) + (1 : Int32)) &&& 31)) - (1 : Int32)) &&& ((((1 : Int32) <<< (((((3 : Int32) * ((2 : Int32) * (xs 2))) + (-1 : Int32)) + (1 : Int32)) &&& 31)) - (1 : Int32)) ^^^ (-1 : Int32))) &&& (((7 : Int32) <<< (((((3 : Int32) * ((2 : Int32) * (xs 2))) + (-1 : Int32)) + (1 : Int32)) &&& 31)) ^^^ (-1 : Int32)))))), (w40, .inl (cJ, 1, .inr (.inl (vp_updL (fun _ => 0) 0 0)))), (w27, .inl (cI, 4, .inl (upd (fun _ => 0) 0 (xs 1)))), (w28, .inl (cI, 4, .inl (upd (fun _ => 0) 0 (xs 2)))), (w29, .inl (cI, 4, .inl (upd (fun _ => 0) 0 (-1)))), (w30, .inl (cI, 4, .inl (upd (fun _ => 0) 0 2))), (w26, .inr (4, [.int 0, .int 1, .ref w27, .ref w28, .ref w29, .ref w30, .int 0, .ref w31, .ref w32, .ref w33, .ref w34, .int 0, .int 0, .int 0, .int 0, .ref w35, .ref w36, .ref w37, .ref w38, .ref w39]))] H := hP
  have hD : va_D A [(w1, .inr (3, [.ref w2, .ref w14, .ref w24, .int 0])), (w2, .inr (1, [.int 1, .ref w3, .ref w4, .ref w5, .ref w6, .ref w7, .ref w8, .ref w9, .int 0, .ref w10, .ref w11, .ref w12, .ref w13])), (w3, .inl (cI, 4, .inl (upd (fun _ => 0) 0 (xs 1)))), (w4, .inl (cI, 4, .inl (upd (fun _ => 0) 0 (xs 2)))), (w5, .inl (cI, 4, .inl (upd (fun _ => 0) 0 (-1)))), (w6, .inl (cI, 4, .inl (upd (fun _ => 0) 0 2))), (w7, .inl (cI, 4, .inl (upd (fun _ => 0) 0 (((1 : Int32) <<< (((((3 : Int32) * ((2 : Int32) * (xs 2))) + (-1 : Int32)) + (1 : Int32)) &&& 31)) - (1 : Int32))))), (w8, .inl (cI, 4, .inl (upd (fun _ => 0) 0 ((7 : Int32) <<< (((((3 : Int32) * ((2 : Int32) * (xs 2))) + (-1 : Int32)) + (1 : Int32)) &&& 31))))), (w9, .inl (cI, 4, .inl (upd (fun _ => 0) 0 (((((1 : Int32) <<< (((((3 : Int32) * (((2 : Int32) * (xs 1)) - (2 : Int32))) + (2 : Int32)) + (1 : Int32)) &&& 31)) - (1 : Int32)) &&& ((((1 : Int32) <<< (((((3 : Int32) * ((2 : Int32) * (xs 2))) + (-1 : Int32)) + (1 : Int32)) &&& 31)) - (1 : Int32)) ^^^ (-1 : Int32))) &&& (((7 : Int32) <<< (((((3 : Int32) * ((2 : Int32) * (xs 2))) + (-1 : Int32)) + (1 : Int32)) &&& 31)) ^^^ (-1 : Int32)))))), (w40, .inl (cJ, 1, .inr (.inl (vp_updL (fun _ => 0) 0 0)))), (w27, .inl (cI, 4, .inl (upd (fun _ => 0) 0 (xs 1)))), (w28, .inl (cI, 4, .inl (upd (fun _ => 0) 0 (xs 2)))), (w29, .inl (cI, 4, .inl (upd (fun _ => 0) 0 (-1)))), (w30, .inl (cI, 4, .inl (upd (fun _ => 0) 0 2))), (w26, .inr (4, [.int 0, .int 1, .ref w27, .ref w28, .ref w29, .ref w30, .int 0, .ref w31, .ref w32, .ref w33, .ref w34, .int 0, .int 0, .int 0, .int 0, .ref w35, .ref w36, .ref w37, .ref w38, .ref w39]))] := hD
  refine W.eq (g2 := F0 m 197 ls [.int 0]) rfl ?_
  refine lv_iload hx hb dL_law_197 (lv_at hl 1 rfl) ?_
  refine lv_icmp_eq (tgt := 204) hx hb dL_law_199 (by decide) (fun _ => ?_) (fun h9 => absurd (by decide) h9)
  refine lv_iload hx hb dL_law_204 (lv_at hl 1 rfl) ?_
  refine lv_if_ne (tgt := 221) hx hb dL_law_206 (by decide) (fun h9 => absurd (by decide) h9) (fun _ => ?_)
  refine lv_aload_n hx hb dL_law_209 rfl (lv_at hl 4 rfl) ?_
  refine lv_iconst (v := 0) hx hb dL_law_210 (by decide) ?_
  refine xa_lald (k := 0) (v := 0) hx hb hK hP 9 2 rfl rfl (by decide) (by decide +kernel) (Nat.le_of_ble_eq_true rfl) rfl dL_law_211 ?_
  refine lv_iload hx hb dL_law_212 (lv_at hl 0 rfl) ?_
  refine lv_i2l (v := 0) hx hb dL_law_214 (by decide +kernel) ?_
  refine W.lcmp hx hb dL_law_215 ?_
  refine tI (v := 0) (by decide +kernel) ?_
  refine lv_if_eq (tgt := 221) hx hb dL_law_216 (by decide) (fun _ => ?_) (fun h9 => absurd (by decide) h9)
  refine lv_goto (tgt := 1401) hx hb dL_law_221 (by decide) ?_
  exact law_tail C hS (lv_sub hl [2, 7] rfl) (Nat.le_of_ble_eq_true rfl) (Nat.le_of_ble_eq_true rfl)
set_option maxHeartbeats 4000000 in
set_option maxRecDepth 100000 in
theorem law_1_0 {p : Program} {l : Launch} {e : Env} {s : State} {m : MethodId} {below : List Frame} {meth : Method} {c : Code} {b : Nat} {xs : Nat → Int32} {A : Nat → Prop} {dC : Nat → ClassId} {dI : Nat → Nat → Nat} {cI cZ cJ cD : ClassId} {w1 w2 w14 w24 w26 w27 w28 w29 w30 w31 w32 w33 w34 w35 w36 w37 w38 w39 w40 w41 : Nat} (C : LC p l s m meth c b xs A dC dI cI cZ cJ cD) {H : Heap} {locs : List Loc} {ls : Array Slot} (hP : va_P (dC, dI) vwCl [(w1, .inr (3, [.ref w2, .ref w14, .ref w24, .int 0])), (w26, .inr (4, [.int 0, .int 0, .ref w27, .ref w28, .ref w29, .ref w30, .int 0, .ref w31, .ref w32, .ref w33, .ref w34, .int 0, .int 0, .int 0, .int 0, .ref w35, .ref w36, .ref w37, .ref w38, .ref w39]))] H) (hD : va_D A [(w1, .inr (3, [.ref w2, .ref w14, .ref w24, .int 0])), (w26, .inr (4, [.int 0, .int 0, .ref w27, .ref w28, .ref w29, .ref w30, .int 0, .ref w31, .ref w32, .ref w33, .ref w34, .int 0, .int 0, .int 0, .int 0, .ref w35, .ref w36, .ref w37, .ref w38, .ref w39]))]) (hS : va_S A s.heap H locs) (hl : lv_has ls 9 [(5, .int 0), (4, .ref w41), (3, .ref w40), (2, .ref w26), (1, .ref w1), (0, .ref b)]) (h0 : (xs 1) < 0) : W p l e room_1 s m #[Value.ref b] below meth c H locs 41 66559 (lw_Z below #[Value.ref b] s) (F0 m 224 ls []) := by
  obtain ⟨hx, hb, hr, hml, hown, hts, hlocks, hX, hbl, hK, hE, hA, hA2, hbA, hfl⟩ := id C
  refine lv_aload_n hx hb dL_law_224 rfl (lv_at hl 4 rfl) ?_
  refine lv_aload_n hx hb dL_law_225 rfl (lv_at hl 5 rfl) ?_
  refine lv_iload hx hb dL_law_226 (lv_at hl 0 rfl) ?_
  refine lv_iconst (v := 1) hx hb dL_law_228 (by decide) ?_
  refine lv_iadd hx hb dL_law_229 ?_
  refine tI (v := 1) (by decide +kernel) ?_
  refine va_sld hx hb hX hbl hbA hS (vin (k := 1) (by decide) (by decide +kernel) (by decide)) dL_law_230 ?_
  refine tI (v := xs 1) (congrArg xs (by decide +kernel)) ?_
  refine lv_aload_n hx hb dL_law_231 rfl (lv_at hl 5 rfl) ?_
  refine lv_iload hx hb dL_law_232 (lv_at hl 0 rfl) ?_
  refine lv_iconst (v := 2) hx hb dL_law_234 (by decide) ?_
  refine lv_iadd hx hb dL_law_235 ?_
  refine tI (v := 2) (by decide +kernel) ?_
  refine va_sld hx hb hX hbl hbA hS (vin (k := 2) (by decide) (by decide +kernel) (by decide)) dL_law_236 ?_
  refine tI (v := xs 2) (congrArg xs (by decide +kernel)) ?_
  refine lv_aload_n hx hb dL_law_237 rfl (lv_at hl 5 rfl) ?_
  refine lv_iload hx hb dL_law_238 (lv_at hl 0 rfl) ?_
  refine lv_iconst (v := 3) hx hb dL_law_240 (by decide) ?_
  refine lv_iadd hx hb dL_law_241 ?_
  refine tI (v := 3) (by decide +kernel) ?_
  refine va_sld hx hb hX hbl hbA hS (vin (k := 3) (by decide) (by decide +kernel) (by decide)) dL_law_242 ?_
  refine tI (v := xs 3) (congrArg xs (by decide +kernel)) ?_
  refine lv_aload_n hx hb dL_law_243 rfl (lv_at hl 5 rfl) ?_
  refine lv_iload hx hb dL_law_244 (lv_at hl 0 rfl) ?_
  refine lv_iconst (v := 4) hx hb dL_law_246 (by decide) ?_
  refine lv_iadd hx hb dL_law_247 ?_
  refine tI (v := 4) (by decide +kernel) ?_
  refine va_sld hx hb hX hbl hbA hS (vin (k := 4) (by decide) (by decide +kernel) (by decide)) dL_law_248 ?_
  refine tI (v := xs 4) (congrArg xs (by decide +kernel)) ?_
  refine lv_aload_n hx hb dL_law_249 rfl (lv_at hl 2 rfl) ?_
  refine xc_H (wc := [(w1, .inr (3, [.ref w2, .ref w14, .ref w24, .int 0]))]) (As := [.ref w1, .int (xs 1), .int (xs 2), .int (xs 3), .int (xs 4), .ref w40]) (rest := []) (wr := [(w26, .inr (4, [.int 0, .int 0, .ref w27, .ref w28, .ref w29, .ref w30, .int 0, .ref w31, .ref w32, .ref w33, .ref w34, .int 0, .int 0, .int 0, .int 0, .ref w35, .ref w36, .ref w37, .ref w38, .ref w39]))]) ⟨hx, hb, hml, hown, hts⟩ (kL_addConstraint_0 l hfl dC dI cI cZ cJ cD w1 w40 w2 w14 w24 (xs 1) (xs 2) (xs 3) (xs 4) _ h0) q486 okL_addConstraint hP hD hK hE hS hA [0] [1] rfl rfl (by decide) (by decide) (by decide) rfl hl.1 rfl (Nat.le_of_ble_eq_true rfl) ⟨rfl, rfl⟩ ⟨Nat.le_of_ble_eq_true rfl, Nat.le_of_ble_eq_true rfl⟩ ⟨Nat.le_of_ble_eq_true rfl, Nat.le_of_ble_eq_true rfl⟩ dL_law_250 (fun H locs hP hD hS => ?_)
  have hP : va_P (dC, dI) vwCl [(w26, .inr (4, [.int 0, .int 0, .ref w27, .ref w28, .ref w29, .ref w30, .int 0, .ref w31, .ref w32, .ref w33, .ref w34, .int 0, .int 0, .int 0, .int 0, .ref w35, .ref w36, .ref w37, .ref w38, .ref w39])), (w1, .inr (3, [.ref w2, .ref w14, .ref w24, .int 0]))] H := hP
  have hD : va_D A [(w26, .inr (4, [.int 0, .int 0, .ref w27, .ref w28, .ref w29, .ref w30, .int 0, .ref w31, .ref w32, .ref w33, .ref w34, .int 0, .int 0, .int 0, .int 0, .ref w35, .ref w36, .ref w37, .ref w38, .ref w39])), (w1, .inr (3, [.ref w2, .ref w14, .ref w24, .int 0]))] := hD
  refine W.eq (g2 := F0 m 253 ls [.int 1]) rfl ?_
  refine lv_istore (lv' := [(6, .int 1), (5, .int 0), (4, .ref w41), (3, .ref w40), (2, .ref w26), (1, .ref w1), (0, .ref b)]) hx hb dL_law_253 hl (by decide) rfl (fun ls hl => ?_)
  refine lv_aload_n hx hb dL_law_255 rfl (lv_at hl 4 rfl) ?_
  refine lv_aload_n hx hb dL_law_256 rfl (lv_at hl 6 rfl) ?_
  refine lv_iload hx hb dL_law_257 (lv_at hl 1 rfl) ?_
  refine lv_iconst (v := 1) hx hb dL_law_259 (by decide) ?_
  refine lv_iadd hx hb dL_law_260 ?_
  refine tI (v := 1) (by decide +kernel) ?_
  refine va_sld hx hb hX hbl hbA hS (vin (k := 1) (by decide) (by decide +kernel) (by decide)) dL_law_261 ?_
  refine tI (v := xs 1) (congrArg xs (by decide +kernel)) ?_
  refine lv_aload_n hx hb dL_law_262 rfl (lv_at hl 6 rfl) ?_
  refine lv_iload hx hb dL_law_263 (lv_at hl 1 rfl) ?_
  refine lv_iconst (v := 2) hx hb dL_law_265 (by decide) ?_
  refine lv_iadd hx hb dL_law_266 ?_
  refine tI (v := 2) (by decide +kernel) ?_
  refine va_sld hx hb hX hbl hbA hS (vin (k := 2) (by decide) (by decide +kernel) (by decide)) dL_law_267 ?_
  refine tI (v := xs 2) (congrArg xs (by decide +kernel)) ?_
  refine lv_aload_n hx hb dL_law_268 rfl (lv_at hl 6 rfl) ?_
  refine lv_iload hx hb dL_law_269 (lv_at hl 1 rfl) ?_
  refine lv_iconst (v := 3) hx hb dL_law_271 (by decide) ?_
  refine lv_iadd hx hb dL_law_272 ?_
  refine tI (v := 3) (by decide +kernel) ?_
  refine va_sld hx hb hX hbl hbA hS (vin (k := 3) (by decide) (by decide +kernel) (by decide)) dL_law_273 ?_
  refine tI (v := xs 3) (congrArg xs (by decide +kernel)) ?_
  refine lv_aload_n hx hb dL_law_274 rfl (lv_at hl 6 rfl) ?_
  refine lv_iload hx hb dL_law_275 (lv_at hl 1 rfl) ?_
  refine lv_iconst (v := 4) hx hb dL_law_277 (by decide) ?_
  refine lv_iadd hx hb dL_law_278 ?_
  refine tI (v := 4) (by decide +kernel) ?_
  refine va_sld hx hb hX hbl hbA hS (vin (k := 4) (by decide) (by decide +kernel) (by decide)) dL_law_279 ?_
  refine tI (v := xs 4) (congrArg xs (by decide +kernel)) ?_
  refine xc_V (b := w26) (wc := [(w26, .inr (4, [.int 0, .int 0, .ref w27, .ref w28, .ref w29, .ref w30, .int 0, .ref w31, .ref w32, .ref w33, .ref w34, .int 0, .int 0, .int 0, .int 0, .ref w35, .ref w36, .ref w37, .ref w38, .ref w39]))]) (As := [.int (xs 1), .int (xs 2), .int (xs 3), .int (xs 4)]) (rest := []) (wr := [(w1, .inr (3, [.ref w2, .ref w14, .ref w24, .int 0]))]) ⟨hx, hb, hml, hown, hts⟩ (kX4_addConstraint_0 l hfl dC dI cI cZ cJ cD w26 w27 w28 w29 w30 w31 w32 w33 w34 w35 w36 w37 w38 w39 (xs 1) (xs 2) (xs 3) (xs 4) _ h0) q760 okX4_addConstraint hP hD hK hE hS hA [0] [1] rfl rfl (by decide) (by decide) (by decide) (ci := 4) rfl 0 rfl rfl rfl hl.1 rfl (Nat.le_of_ble_eq_true rfl) ⟨rfl, rfl⟩ ⟨Nat.le_of_ble_eq_true rfl, Nat.le_of_ble_eq_true rfl⟩ ⟨Nat.le_of_ble_eq_true rfl, Nat.le_of_ble_eq_true rfl⟩ dL_law_280 (fun H locs hP hD hS => ?_)
  have hP : va_P (dC, dI) vwCl [(w1, .inr (3, [.ref w2, .ref w14, .ref w24, .int 0])), (w26, .inr (4, [.int 1, .int 0, .ref w27, .ref w28, .ref w29, .ref w30, .int 0, .ref w31, .ref w32, .ref w33, .ref w34, .int 0, .int 0, .int 0, .int 0, .ref w35, .ref w36, .ref w37, .ref w38, .ref w39]))] H := hP
  have hD : va_D A [(w1, .inr (3, [.ref w2, .ref w14, .ref w24, .int 0])), (w26, .inr (4, [.int 1, .int 0, .ref w27, .ref w28, .ref w29, .ref w30, .int 0, .ref w31, .ref w32, .ref w33, .ref w34, .int 0, .int 0, .int 0, .int 0, .ref w35, .ref w36, .ref w37, .ref w38, .ref w39]))] := hD
  refine W.eq (g2 := F0 m 283 ls [.int 0]) rfl ?_
  refine lv_istore (lv' := [(7, .int 0), (6, .int 1), (5, .int 0), (4, .ref w41), (3, .ref w40), (2, .ref w26), (1, .ref w1), (0, .ref b)]) hx hb dL_law_283 hl (by decide) rfl (fun ls hl => ?_)
  refine lv_aload_n hx hb dL_law_285 rfl (lv_at hl 5 rfl) ?_
  refine xc_V (b := w26) (wc := [(w26, .inr (4, [.int 1, .int 0, .ref w27, .ref w28, .ref w29, .ref w30, .int 0, .ref w31, .ref w32, .ref w33, .ref w34, .int 0, .int 0, .int 0, .int 0, .ref w35, .ref w36, .ref w37, .ref w38, .ref w39]))]) (As := []) (rest := []) (wr := [(w1, .inr (3, [.ref w2, .ref w14, .ref w24, .int 0]))]) ⟨hx, hb, hml, hown, hts⟩ (kX4_thrown_0 l hfl dC dI cI cZ cJ cD w26 w27 w28 w29 w30 w31 w32 w33 w34 w35 w36 w37 w38 w39 _) q748 okX4_thrown hP hD hK hE hS hA [1] [0] rfl rfl (by decide) (by decide) (by decide) (ci := 4) rfl 1 rfl rfl rfl hl.1 rfl (Nat.le_of_ble_eq_true rfl) ⟨rfl, rfl⟩ ⟨Nat.le_of_ble_eq_true rfl, Nat.le_of_ble_eq_true rfl⟩ ⟨Nat.le_of_ble_eq_true rfl, Nat.le_of_ble_eq_true rfl⟩ dL_law_286 (fun H locs hP hD hS => ?_)
  have hP : va_P (dC, dI) vwCl [(w1, .inr (3, [.ref w2, .ref w14, .ref w24, .int 0])), (w26, .inr (4, [.int 1, .int 0, .ref w27, .ref w28, .ref w29, .ref w30, .int 0, .ref w31, .ref w32, .ref w33, .ref w34, .int 0, .int 0, .int 0, .int 0, .ref w35, .ref w36, .ref w37, .ref w38, .ref w39]))] H := hP
  have hD : va_D A [(w1, .inr (3, [.ref w2, .ref w14, .ref w24, .int 0])), (w26, .inr (4, [.int 1, .int 0, .ref w27, .ref w28, .ref w29, .ref w30, .int 0, .ref w31, .ref w32, .ref w33, .ref w34, .int 0, .int 0, .int 0, .int 0, .ref w35, .ref w36, .ref w37, .ref w38, .ref w39]))] := hD
  refine W.eq (g2 := F0 m 289 ls [.int 1]) rfl ?_
  refine lv_iload hx hb dL_law_289 (lv_at hl 1 rfl) ?_
  refine lv_icmp_eq (tgt := 296) hx hb dL_law_291 (by decide) (fun _ => ?_) (fun h9 => absurd (by decide) h9)
  refine lv_iload hx hb dL_law_296 (lv_at hl 1 rfl) ?_
  refine lv_if_ne (tgt := 313) hx hb dL_law_298 (by decide) (fun _ => ?_) (fun h9 => absurd h9 (by decide))
  refine lv_goto (tgt := 1401) hx hb dL_law_313 (by decide) ?_
  exact law_tail C hS (lv_sub hl [2, 7] rfl) (Nat.le_of_ble_eq_true rfl) (Nat.le_of_ble_eq_true rfl)
set_option maxHeartbeats 4000000 in
set_option maxRecDepth 100000 in
theorem law_1_1 {p : Program} {l : Launch} {e : Env} {s : State} {m : MethodId} {below : List Frame} {meth : Method} {c : Code} {b : Nat} {xs : Nat → Int32} {A : Nat → Prop} {dC : Nat → ClassId} {dI : Nat → Nat → Nat} {cI cZ cJ cD : ClassId} {w1 w2 w14 w24 w26 w27 w28 w29 w30 w31 w32 w33 w34 w35 w36 w37 w38 w39 w40 w41 : Nat} (C : LC p l s m meth c b xs A dC dI cI cZ cJ cD) {H : Heap} {locs : List Loc} {ls : Array Slot} (hP : va_P (dC, dI) vwCl [(w1, .inr (3, [.ref w2, .ref w14, .ref w24, .int 0])), (w26, .inr (4, [.int 0, .int 0, .ref w27, .ref w28, .ref w29, .ref w30, .int 0, .ref w31, .ref w32, .ref w33, .ref w34, .int 0, .int 0, .int 0, .int 0, .ref w35, .ref w36, .ref w37, .ref w38, .ref w39]))] H) (hD : va_D A [(w1, .inr (3, [.ref w2, .ref w14, .ref w24, .int 0])), (w26, .inr (4, [.int 0, .int 0, .ref w27, .ref w28, .ref w29, .ref w30, .int 0, .ref w31, .ref w32, .ref w33, .ref w34, .int 0, .int 0, .int 0, .int 0, .ref w35, .ref w36, .ref w37, .ref w38, .ref w39]))]) (hS : va_S A s.heap H locs) (hl : lv_has ls 9 [(5, .int 0), (4, .ref w41), (3, .ref w40), (2, .ref w26), (1, .ref w1), (0, .ref b)]) (h0 : ¬ (xs 1) < 0) (h1 : ¬ (xs 1) ≤ 5) : W p l e room_1 s m #[Value.ref b] below meth c H locs 41 66559 (lw_Z below #[Value.ref b] s) (F0 m 224 ls []) := by
  obtain ⟨hx, hb, hr, hml, hown, hts, hlocks, hX, hbl, hK, hE, hA, hA2, hbA, hfl⟩ := id C
  refine lv_aload_n hx hb dL_law_224 rfl (lv_at hl 4 rfl) ?_
  refine lv_aload_n hx hb dL_law_225 rfl (lv_at hl 5 rfl) ?_
  refine lv_iload hx hb dL_law_226 (lv_at hl 0 rfl) ?_
  refine lv_iconst (v := 1) hx hb dL_law_228 (by decide) ?_
  refine lv_iadd hx hb dL_law_229 ?_
  refine tI (v := 1) (by decide +kernel) ?_
  refine va_sld hx hb hX hbl hbA hS (vin (k := 1) (by decide) (by decide +kernel) (by decide)) dL_law_230 ?_
  refine tI (v := xs 1) (congrArg xs (by decide +kernel)) ?_
  refine lv_aload_n hx hb dL_law_231 rfl (lv_at hl 5 rfl) ?_
  refine lv_iload hx hb dL_law_232 (lv_at hl 0 rfl) ?_
  refine lv_iconst (v := 2) hx hb dL_law_234 (by decide) ?_
  refine lv_iadd hx hb dL_law_235 ?_
  refine tI (v := 2) (by decide +kernel) ?_
  refine va_sld hx hb hX hbl hbA hS (vin (k := 2) (by decide) (by decide +kernel) (by decide)) dL_law_236 ?_
  refine tI (v := xs 2) (congrArg xs (by decide +kernel)) ?_
  refine lv_aload_n hx hb dL_law_237 rfl (lv_at hl 5 rfl) ?_
  refine lv_iload hx hb dL_law_238 (lv_at hl 0 rfl) ?_
  refine lv_iconst (v := 3) hx hb dL_law_240 (by decide) ?_
  refine lv_iadd hx hb dL_law_241 ?_
  refine tI (v := 3) (by decide +kernel) ?_
  refine va_sld hx hb hX hbl hbA hS (vin (k := 3) (by decide) (by decide +kernel) (by decide)) dL_law_242 ?_
  refine tI (v := xs 3) (congrArg xs (by decide +kernel)) ?_
  refine lv_aload_n hx hb dL_law_243 rfl (lv_at hl 5 rfl) ?_
  refine lv_iload hx hb dL_law_244 (lv_at hl 0 rfl) ?_
  refine lv_iconst (v := 4) hx hb dL_law_246 (by decide) ?_
  refine lv_iadd hx hb dL_law_247 ?_
  refine tI (v := 4) (by decide +kernel) ?_
  refine va_sld hx hb hX hbl hbA hS (vin (k := 4) (by decide) (by decide +kernel) (by decide)) dL_law_248 ?_
  refine tI (v := xs 4) (congrArg xs (by decide +kernel)) ?_
  refine lv_aload_n hx hb dL_law_249 rfl (lv_at hl 2 rfl) ?_
  refine xc_H (wc := [(w1, .inr (3, [.ref w2, .ref w14, .ref w24, .int 0]))]) (As := [.ref w1, .int (xs 1), .int (xs 2), .int (xs 3), .int (xs 4), .ref w40]) (rest := []) (wr := [(w26, .inr (4, [.int 0, .int 0, .ref w27, .ref w28, .ref w29, .ref w30, .int 0, .ref w31, .ref w32, .ref w33, .ref w34, .int 0, .int 0, .int 0, .int 0, .ref w35, .ref w36, .ref w37, .ref w38, .ref w39]))]) ⟨hx, hb, hml, hown, hts⟩ (kL_addConstraint_1 l hfl dC dI cI cZ cJ cD w1 w40 w2 w14 w24 (xs 1) (xs 2) (xs 3) (xs 4) _ h0 h1) q486 okL_addConstraint hP hD hK hE hS hA [0] [1] rfl rfl (by decide) (by decide) (by decide) rfl hl.1 rfl (Nat.le_of_ble_eq_true rfl) ⟨rfl, rfl⟩ ⟨Nat.le_of_ble_eq_true rfl, Nat.le_of_ble_eq_true rfl⟩ ⟨Nat.le_of_ble_eq_true rfl, Nat.le_of_ble_eq_true rfl⟩ dL_law_250 (fun H locs hP hD hS => ?_)
  have hP : va_P (dC, dI) vwCl [(w26, .inr (4, [.int 0, .int 0, .ref w27, .ref w28, .ref w29, .ref w30, .int 0, .ref w31, .ref w32, .ref w33, .ref w34, .int 0, .int 0, .int 0, .int 0, .ref w35, .ref w36, .ref w37, .ref w38, .ref w39])), (w1, .inr (3, [.ref w2, .ref w14, .ref w24, .int 0]))] H := hP
  have hD : va_D A [(w26, .inr (4, [.int 0, .int 0, .ref w27, .ref w28, .ref w29, .ref w30, .int 0, .ref w31, .ref w32, .ref w33, .ref w34, .int 0, .int 0, .int 0, .int 0, .ref w35, .ref w36, .ref w37, .ref w38, .ref w39])), (w1, .inr (3, [.ref w2, .ref w14, .ref w24, .int 0]))] := hD
  refine W.eq (g2 := F0 m 253 ls [.int 1]) rfl ?_
  refine lv_istore (lv' := [(6, .int 1), (5, .int 0), (4, .ref w41), (3, .ref w40), (2, .ref w26), (1, .ref w1), (0, .ref b)]) hx hb dL_law_253 hl (by decide) rfl (fun ls hl => ?_)
  refine lv_aload_n hx hb dL_law_255 rfl (lv_at hl 4 rfl) ?_
  refine lv_aload_n hx hb dL_law_256 rfl (lv_at hl 6 rfl) ?_
  refine lv_iload hx hb dL_law_257 (lv_at hl 1 rfl) ?_
  refine lv_iconst (v := 1) hx hb dL_law_259 (by decide) ?_
  refine lv_iadd hx hb dL_law_260 ?_
  refine tI (v := 1) (by decide +kernel) ?_
  refine va_sld hx hb hX hbl hbA hS (vin (k := 1) (by decide) (by decide +kernel) (by decide)) dL_law_261 ?_
  refine tI (v := xs 1) (congrArg xs (by decide +kernel)) ?_
  refine lv_aload_n hx hb dL_law_262 rfl (lv_at hl 6 rfl) ?_
  refine lv_iload hx hb dL_law_263 (lv_at hl 1 rfl) ?_
  refine lv_iconst (v := 2) hx hb dL_law_265 (by decide) ?_
  refine lv_iadd hx hb dL_law_266 ?_
  refine tI (v := 2) (by decide +kernel) ?_
  refine va_sld hx hb hX hbl hbA hS (vin (k := 2) (by decide) (by decide +kernel) (by decide)) dL_law_267 ?_
  refine tI (v := xs 2) (congrArg xs (by decide +kernel)) ?_
  refine lv_aload_n hx hb dL_law_268 rfl (lv_at hl 6 rfl) ?_
  refine lv_iload hx hb dL_law_269 (lv_at hl 1 rfl) ?_
  refine lv_iconst (v := 3) hx hb dL_law_271 (by decide) ?_
  refine lv_iadd hx hb dL_law_272 ?_
  refine tI (v := 3) (by decide +kernel) ?_
  refine va_sld hx hb hX hbl hbA hS (vin (k := 3) (by decide) (by decide +kernel) (by decide)) dL_law_273 ?_
  refine tI (v := xs 3) (congrArg xs (by decide +kernel)) ?_
  refine lv_aload_n hx hb dL_law_274 rfl (lv_at hl 6 rfl) ?_
  refine lv_iload hx hb dL_law_275 (lv_at hl 1 rfl) ?_
  refine lv_iconst (v := 4) hx hb dL_law_277 (by decide) ?_
  refine lv_iadd hx hb dL_law_278 ?_
  refine tI (v := 4) (by decide +kernel) ?_
  refine va_sld hx hb hX hbl hbA hS (vin (k := 4) (by decide) (by decide +kernel) (by decide)) dL_law_279 ?_
  refine tI (v := xs 4) (congrArg xs (by decide +kernel)) ?_
  refine xc_V (b := w26) (wc := [(w26, .inr (4, [.int 0, .int 0, .ref w27, .ref w28, .ref w29, .ref w30, .int 0, .ref w31, .ref w32, .ref w33, .ref w34, .int 0, .int 0, .int 0, .int 0, .ref w35, .ref w36, .ref w37, .ref w38, .ref w39]))]) (As := [.int (xs 1), .int (xs 2), .int (xs 3), .int (xs 4)]) (rest := []) (wr := [(w1, .inr (3, [.ref w2, .ref w14, .ref w24, .int 0]))]) ⟨hx, hb, hml, hown, hts⟩ (kX4_addConstraint_1 l hfl dC dI cI cZ cJ cD w26 w27 w28 w29 w30 w31 w32 w33 w34 w35 w36 w37 w38 w39 (xs 1) (xs 2) (xs 3) (xs 4) _ h0 h1) q760 okX4_addConstraint hP hD hK hE hS hA [0] [1] rfl rfl (by decide) (by decide) (by decide) (ci := 4) rfl 0 rfl rfl rfl hl.1 rfl (Nat.le_of_ble_eq_true rfl) ⟨rfl, rfl⟩ ⟨Nat.le_of_ble_eq_true rfl, Nat.le_of_ble_eq_true rfl⟩ ⟨Nat.le_of_ble_eq_true rfl, Nat.le_of_ble_eq_true rfl⟩ dL_law_280 (fun H locs hP hD hS => ?_)
  have hP : va_P (dC, dI) vwCl [(w1, .inr (3, [.ref w2, .ref w14, .ref w24, .int 0])), (w26, .inr (4, [.int 1, .int 0, .ref w27, .ref w28, .ref w29, .ref w30, .int 0, .ref w31, .ref w32, .ref w33, .ref w34, .int 0, .int 0, .int 0, .int 0, .ref w35, .ref w36, .ref w37, .ref w38, .ref w39]))] H := hP
  have hD : va_D A [(w1, .inr (3, [.ref w2, .ref w14, .ref w24, .int 0])), (w26, .inr (4, [.int 1, .int 0, .ref w27, .ref w28, .ref w29, .ref w30, .int 0, .ref w31, .ref w32, .ref w33, .ref w34, .int 0, .int 0, .int 0, .int 0, .ref w35, .ref w36, .ref w37, .ref w38, .ref w39]))] := hD
  refine W.eq (g2 := F0 m 283 ls [.int 0]) rfl ?_
  refine lv_istore (lv' := [(7, .int 0), (6, .int 1), (5, .int 0), (4, .ref w41), (3, .ref w40), (2, .ref w26), (1, .ref w1), (0, .ref b)]) hx hb dL_law_283 hl (by decide) rfl (fun ls hl => ?_)
  refine lv_aload_n hx hb dL_law_285 rfl (lv_at hl 5 rfl) ?_
  refine xc_V (b := w26) (wc := [(w26, .inr (4, [.int 1, .int 0, .ref w27, .ref w28, .ref w29, .ref w30, .int 0, .ref w31, .ref w32, .ref w33, .ref w34, .int 0, .int 0, .int 0, .int 0, .ref w35, .ref w36, .ref w37, .ref w38, .ref w39]))]) (As := []) (rest := []) (wr := [(w1, .inr (3, [.ref w2, .ref w14, .ref w24, .int 0]))]) ⟨hx, hb, hml, hown, hts⟩ (kX4_thrown_0 l hfl dC dI cI cZ cJ cD w26 w27 w28 w29 w30 w31 w32 w33 w34 w35 w36 w37 w38 w39 _) q748 okX4_thrown hP hD hK hE hS hA [1] [0] rfl rfl (by decide) (by decide) (by decide) (ci := 4) rfl 1 rfl rfl rfl hl.1 rfl (Nat.le_of_ble_eq_true rfl) ⟨rfl, rfl⟩ ⟨Nat.le_of_ble_eq_true rfl, Nat.le_of_ble_eq_true rfl⟩ ⟨Nat.le_of_ble_eq_true rfl, Nat.le_of_ble_eq_true rfl⟩ dL_law_286 (fun H locs hP hD hS => ?_)
  have hP : va_P (dC, dI) vwCl [(w1, .inr (3, [.ref w2, .ref w14, .ref w24, .int 0])), (w26, .inr (4, [.int 1, .int 0, .ref w27, .ref w28, .ref w29, .ref w30, .int 0, .ref w31, .ref w32, .ref w33, .ref w34, .int 0, .int 0, .int 0, .int 0, .ref w35, .ref w36, .ref w37, .ref w38, .ref w39]))] H := hP
  have hD : va_D A [(w1, .inr (3, [.ref w2, .ref w14, .ref w24, .int 0])), (w26, .inr (4, [.int 1, .int 0, .ref w27, .ref w28, .ref w29, .ref w30, .int 0, .ref w31, .ref w32, .ref w33, .ref w34, .int 0, .int 0, .int 0, .int 0, .ref w35, .ref w36, .ref w37, .ref w38, .ref w39]))] := hD
  refine W.eq (g2 := F0 m 289 ls [.int 1]) rfl ?_
  refine lv_iload hx hb dL_law_289 (lv_at hl 1 rfl) ?_
  refine lv_icmp_eq (tgt := 296) hx hb dL_law_291 (by decide) (fun _ => ?_) (fun h9 => absurd (by decide) h9)
  refine lv_iload hx hb dL_law_296 (lv_at hl 1 rfl) ?_
  refine lv_if_ne (tgt := 313) hx hb dL_law_298 (by decide) (fun _ => ?_) (fun h9 => absurd h9 (by decide))
  refine lv_goto (tgt := 1401) hx hb dL_law_313 (by decide) ?_
  exact law_tail C hS (lv_sub hl [2, 7] rfl) (Nat.le_of_ble_eq_true rfl) (Nat.le_of_ble_eq_true rfl)
