set_option maxHeartbeats 4000000 in
set_option maxRecDepth 100000 in
theorem law_18_0 {p : Program} {l : Launch} {e : Env} {s : State} {m : MethodId} {below : List Frame} {meth : Method} {c : Code} {b : Nat} {xs : Nat → Int32} {A : Nat → Prop} {dC : Nat → ClassId} {dI : Nat → Nat → Nat} {cI cZ cJ cD : ClassId} {w1 w2 w14 w24 w26 w27 w28 w29 w30 w31 w32 w33 w34 w35 w36 w37 w38 w39 w40 w41 : Nat} (C : LC p l s m meth c b xs A dC dI cI cZ cJ cD) {H : Heap} {locs : List Loc} {ls : Array Slot} (hP : va_P (dC, dI) vwCl [(w1, .inr (3, [.ref w2, .ref w14, .ref w24, .int 0])), (w26, .inr (4, [.int 0, .int 0, .ref w27, .ref w28, .ref w29, .ref w30, .int 0, .ref w31, .ref w32, .ref w33, .ref w34, .int 0, .int 0, .int 0, .int 0, .ref w35, .ref w36, .ref w37, .ref w38, .ref w39]))] H) (hD : va_D A [(w1, .inr (3, [.ref w2, .ref w14, .ref w24, .int 0])), (w26, .inr (4, [.int 0, .int 0, .ref w27, .ref w28, .ref w29, .ref w30, .int 0, .ref w31, .ref w32, .ref w33, .ref w34, .int 0, .int 0, .int 0, .int 0, .ref w35, .ref w36, .ref w37, .ref w38, .ref w39]))]) (hS : va_S A s.heap H locs) (hl : lv_has ls 9 [(5, .int 0), (4, .ref w41), (3, .ref w40), (2, .ref w26), (1, .ref w1), (0, .ref b)])  : W p l e room_1 s m #[Value.ref b] below meth c H locs 41 66559 (lw_Z below #[Value.ref b] s) (F0 m 1104 ls []) := by
  obtain ⟨hx, hb, hr, hml, hown, hts, hlocks, hX, hbl, hK, hE, hA, hA2, hbA, hfl⟩ := id C
  refine lv_aload_n hx hb dL_law_1104 rfl (lv_at hl 4 rfl) ?_
  refine lv_aload_n hx hb dL_law_1105 rfl (lv_at hl 2 rfl) ?_
  refine xc_H (wc := [(w1, .inr (3, [.ref w2, .ref w14, .ref w24, .int 0]))]) (As := [.ref w1, .ref w40]) (rest := []) (wr := [(w26, .inr (4, [.int 0, .int 0, .ref w27, .ref w28, .ref w29, .ref w30, .int 0, .ref w31, .ref w32, .ref w33, .ref w34, .int 0, .int 0, .int 0, .int 0, .ref w35, .ref w36, .ref w37, .ref w38, .ref w39]))]) ⟨hx, hb, hml, hown, hts⟩ (kL_endCount_0 l hfl dC dI cI cZ cJ cD w1 w40 w2 w14 w24 _) q628 okL_endCount hP hD hK hE hS hA [0] [1] rfl rfl (by decide) (by decide) (by decide) rfl hl.1 rfl (Nat.le_of_ble_eq_true rfl) ⟨rfl, rfl⟩ ⟨Nat.le_of_ble_eq_true rfl, Nat.le_of_ble_eq_true rfl⟩ ⟨Nat.le_of_ble_eq_true rfl, Nat.le_of_ble_eq_true rfl⟩ dL_law_1106 (fun H locs hP hD hS => ?_)
  have hP : va_P (dC, dI) vwCl [(w26, .inr (4, [.int 0, .int 0, .ref w27, .ref w28, .ref w29, .ref w30, .int 0, .ref w31, .ref w32, .ref w33, .ref w34, .int 0, .int 0, .int 0, .int 0, .ref w35, .ref w36, .ref w37, .ref w38, .ref w39]))] H := hP
  have hD : va_D A [(w26, .inr (4, [.int 0, .int 0, .ref w27, .ref w28, .ref w29, .ref w30, .int 0, .ref w31, .ref w32, .ref w33, .ref w34, .int 0, .int 0, .int 0, .int 0, .ref w35, .ref w36, .ref w37, .ref w38, .ref w39]))] := hD
  refine W.eq (g2 := F0 m 1109 ls [.int 1]) rfl ?_
  refine lv_istore (lv' := [(6, .int 1), (5, .int 0), (4, .ref w41), (3, .ref w40), (2, .ref w26), (1, .ref w1), (0, .ref b)]) hx hb dL_law_1109 hl (by decide) rfl (fun ls hl => ?_)
  refine lv_aload_n hx hb dL_law_1111 rfl (lv_at hl 4 rfl) ?_
  refine xc_V (b := w26) (wc := [(w26, .inr (4, [.int 0, .int 0, .ref w27, .ref w28, .ref w29, .ref w30, .int 0, .ref w31, .ref w32, .ref w33, .ref w34, .int 0, .int 0, .int 0, .int 0, .ref w35, .ref w36, .ref w37, .ref w38, .ref w39]))]) (As := []) (rest := []) (wr := []) ⟨hx, hb, hml, hown, hts⟩ (kX4_endCount_0 l hfl dC dI cI cZ cJ cD w26 w27 w28 w29 w30 w31 w32 w33 w34 w35 w36 w37 w38 w39 _) q917 okX4_endCount hP hD hK hE hS hA [0] [] rfl rfl (by decide) (by decide) (by decide) (ci := 4) rfl 0 rfl rfl rfl hl.1 rfl (Nat.le_of_ble_eq_true rfl) ⟨rfl, rfl⟩ ⟨Nat.le_of_ble_eq_true rfl, Nat.le_of_ble_eq_true rfl⟩ ⟨Nat.le_of_ble_eq_true rfl, Nat.le_of_ble_eq_true rfl⟩ dL_law_1112 (fun H locs hP hD hS => ?_)
  have hP : va_P (dC, dI) vwCl [(w26, .inr (4, [.int 1, .int 0, .ref w27, .ref w28, .ref w29, .ref w30, .int 0, .ref w31, .ref w32, .ref w33, .ref w34, .int 0, .int 0, .int 0, .int 0, .ref w35, .ref w36, .ref w37, .ref w38, .ref w39]))] H := hP
  have hD : va_D A [(w26, .inr (4, [.int 1, .int 0, .ref w27, .ref w28, .ref w29, .ref w30, .int 0, .ref w31, .ref w32, .ref w33, .ref w34, .int 0, .int 0, .int 0, .int 0, .ref w35, .ref w36, .ref w37, .ref w38, .ref w39]))] := hD
  refine W.eq (g2 := F0 m 1115 ls [.int 0]) rfl ?_
  refine lv_istore (lv' := [(7, .int 0), (6, .int 1), (5, .int 0), (4, .ref w41), (3, .ref w40), (2, .ref w26), (1, .ref w1), (0, .ref b)]) hx hb dL_law_1115 hl (by decide) rfl (fun ls hl => ?_)
  refine lv_aload_n hx hb dL_law_1117 rfl (lv_at hl 5 rfl) ?_
  refine xc_V (b := w26) (wc := [(w26, .inr (4, [.int 1, .int 0, .ref w27, .ref w28, .ref w29, .ref w30, .int 0, .ref w31, .ref w32, .ref w33, .ref w34, .int 0, .int 0, .int 0, .int 0, .ref w35, .ref w36, .ref w37, .ref w38, .ref w39]))]) (As := []) (rest := []) (wr := []) ⟨hx, hb, hml, hown, hts⟩ (kX4_thrown_0 l hfl dC dI cI cZ cJ cD w26 w27 w28 w29 w30 w31 w32 w33 w34 w35 w36 w37 w38 w39 _) q748 okX4_thrown hP hD hK hE hS hA [0] [] rfl rfl (by decide) (by decide) (by decide) (ci := 4) rfl 0 rfl rfl rfl hl.1 rfl (Nat.le_of_ble_eq_true rfl) ⟨rfl, rfl⟩ ⟨Nat.le_of_ble_eq_true rfl, Nat.le_of_ble_eq_true rfl⟩ ⟨Nat.le_of_ble_eq_true rfl, Nat.le_of_ble_eq_true rfl⟩ dL_law_1118 (fun H locs hP hD hS => ?_)
  have hP : va_P (dC, dI) vwCl [(w26, .inr (4, [.int 1, .int 0, .ref w27, .ref w28, .ref w29, .ref w30, .int 0, .ref w31, .ref w32, .ref w33, .ref w34, .int 0, .int 0, .int 0, .int 0, .ref w35, .ref w36, .ref w37, .ref w38, .ref w39]))] H := hP
  have hD : va_D A [(w26, .inr (4, [.int 1, .int 0, .ref w27, .ref w28, .ref w29, .ref w30, .int 0, .ref w31, .ref w32, .ref w33, .ref w34, .int 0, .int 0, .int 0, .int 0, .ref w35, .ref w36, .ref w37, .ref w38, .ref w39]))] := hD
  refine W.eq (g2 := F0 m 1121 ls [.int 1]) rfl ?_
  refine lv_iload hx hb dL_law_1121 (lv_at hl 1 rfl) ?_
  refine lv_icmp_eq (tgt := 1128) hx hb dL_law_1123 (by decide) (fun _ => ?_) (fun h9 => absurd (by decide) h9)
  refine lv_iload hx hb dL_law_1128 (lv_at hl 1 rfl) ?_
  refine lv_if_ne (tgt := 1145) hx hb dL_law_1130 (by decide) (fun _ => ?_) (fun h9 => absurd h9 (by decide))
  refine lv_goto (tgt := 1401) hx hb dL_law_1145 (by decide) ?_
  exact law_tail C hS (lv_sub hl [2, 7] rfl) (Nat.le_of_ble_eq_true rfl) (Nat.le_of_ble_eq_true rfl)
set_option maxHeartbeats 4000000 in
set_option maxRecDepth 100000 in
theorem law_19_0 {p : Program} {l : Launch} {e : Env} {s : State} {m : MethodId} {below : List Frame} {meth : Method} {c : Code} {b : Nat} {xs : Nat → Int32} {A : Nat → Prop} {dC : Nat → ClassId} {dI : Nat → Nat → Nat} {cI cZ cJ cD : ClassId} {w1 w2 w14 w24 w26 w27 w28 w29 w30 w31 w32 w33 w34 w35 w36 w37 w38 w39 w40 w41 : Nat} (C : LC p l s m meth c b xs A dC dI cI cZ cJ cD) {H : Heap} {locs : List Loc} {ls : Array Slot} (hP : va_P (dC, dI) vwCl [(w1, .inr (3, [.ref w2, .ref w14, .ref w24, .int 0])), (w26, .inr (4, [.int 0, .int 0, .ref w27, .ref w28, .ref w29, .ref w30, .int 0, .ref w31, .ref w32, .ref w33, .ref w34, .int 0, .int 0, .int 0, .int 0, .ref w35, .ref w36, .ref w37, .ref w38, .ref w39]))] H) (hD : va_D A [(w1, .inr (3, [.ref w2, .ref w14, .ref w24, .int 0])), (w26, .inr (4, [.int 0, .int 0, .ref w27, .ref w28, .ref w29, .ref w30, .int 0, .ref w31, .ref w32, .ref w33, .ref w34, .int 0, .int 0, .int 0, .int 0, .ref w35, .ref w36, .ref w37, .ref w38, .ref w39]))]) (hS : va_S A s.heap H locs) (hl : lv_has ls 9 [(5, .int 0), (4, .ref w41), (3, .ref w40), (2, .ref w26), (1, .ref w1), (0, .ref b)])  : W p l e room_1 s m #[Value.ref b] below meth c H locs 41 66559 (lw_Z below #[Value.ref b] s) (F0 m 1148 ls []) := by
  obtain ⟨hx, hb, hr, hml, hown, hts, hlocks, hX, hbl, hK, hE, hA, hA2, hbA, hfl⟩ := id C
  refine lv_aload_n hx hb dL_law_1148 rfl (lv_at hl 4 rfl) ?_
  refine lv_aload_n hx hb dL_law_1149 rfl (lv_at hl 5 rfl) ?_
  refine lv_iload hx hb dL_law_1150 (lv_at hl 0 rfl) ?_
  refine lv_iconst (v := 1) hx hb dL_law_1152 (by decide) ?_
  refine lv_iadd hx hb dL_law_1153 ?_
  refine tI (v := 1) (by decide +kernel) ?_
  refine va_sld hx hb hX hbl hbA hS (vin (k := 1) (by decide) (by decide +kernel) (by decide)) dL_law_1154 ?_
  refine tI (v := xs 1) (congrArg xs (by decide +kernel)) ?_
  refine lv_aload_n hx hb dL_law_1155 rfl (lv_at hl 5 rfl) ?_
  refine lv_iload hx hb dL_law_1156 (lv_at hl 0 rfl) ?_
  refine lv_iconst (v := 2) hx hb dL_law_1158 (by decide) ?_
  refine lv_iadd hx hb dL_law_1159 ?_
  refine tI (v := 2) (by decide +kernel) ?_
  refine va_sld hx hb hX hbl hbA hS (vin (k := 2) (by decide) (by decide +kernel) (by decide)) dL_law_1160 ?_
  refine tI (v := xs 2) (congrArg xs (by decide +kernel)) ?_
  refine lv_aload_n hx hb dL_law_1161 rfl (lv_at hl 2 rfl) ?_
  refine xc_H (wc := [(w1, .inr (3, [.ref w2, .ref w14, .ref w24, .int 0]))]) (As := [.ref w1, .int (xs 1), .int (xs 2), .ref w40]) (rest := []) (wr := [(w26, .inr (4, [.int 0, .int 0, .ref w27, .ref w28, .ref w29, .ref w30, .int 0, .ref w31, .ref w32, .ref w33, .ref w34, .int 0, .int 0, .int 0, .int 0, .ref w35, .ref w36, .ref w37, .ref w38, .ref w39]))]) ⟨hx, hb, hml, hown, hts⟩ (kL_soonest_0 l hfl dC dI cI cZ cJ cD w1 w40 w2 w14 w24 (xs 1) (xs 2) _) q635 okL_soonest hP hD hK hE hS hA [0] [1] rfl rfl (by decide) (by decide) (by decide) rfl hl.1 rfl (Nat.le_of_ble_eq_true rfl) ⟨rfl, rfl⟩ ⟨Nat.le_of_ble_eq_true rfl, Nat.le_of_ble_eq_true rfl⟩ ⟨Nat.le_of_ble_eq_true rfl, Nat.le_of_ble_eq_true rfl⟩ dL_law_1162 (fun H locs hP hD hS => ?_)
  have hP : va_P (dC, dI) vwCl [(w26, .inr (4, [.int 0, .int 0, .ref w27, .ref w28, .ref w29, .ref w30, .int 0, .ref w31, .ref w32, .ref w33, .ref w34, .int 0, .int 0, .int 0, .int 0, .ref w35, .ref w36, .ref w37, .ref w38, .ref w39]))] H := hP
  have hD : va_D A [(w26, .inr (4, [.int 0, .int 0, .ref w27, .ref w28, .ref w29, .ref w30, .int 0, .ref w31, .ref w32, .ref w33, .ref w34, .int 0, .int 0, .int 0, .int 0, .ref w35, .ref w36, .ref w37, .ref w38, .ref w39]))] := hD
  refine W.eq (g2 := F0 m 1165 ls [.int 1]) rfl ?_
  refine lv_istore (lv' := [(6, .int 1), (5, .int 0), (4, .ref w41), (3, .ref w40), (2, .ref w26), (1, .ref w1), (0, .ref b)]) hx hb dL_law_1165 hl (by decide) rfl (fun ls hl => ?_)
  refine lv_aload_n hx hb dL_law_1167 rfl (lv_at hl 4 rfl) ?_
  refine lv_aload_n hx hb dL_law_1168 rfl (lv_at hl 6 rfl) ?_
  refine lv_iload hx hb dL_law_1169 (lv_at hl 1 rfl) ?_
  refine lv_iconst (v := 1) hx hb dL_law_1171 (by decide) ?_
  refine lv_iadd hx hb dL_law_1172 ?_
  refine tI (v := 1) (by decide +kernel) ?_
  refine va_sld hx hb hX hbl hbA hS (vin (k := 1) (by decide) (by decide +kernel) (by decide)) dL_law_1173 ?_
  refine tI (v := xs 1) (congrArg xs (by decide +kernel)) ?_
  refine lv_aload_n hx hb dL_law_1174 rfl (lv_at hl 6 rfl) ?_
  refine lv_iload hx hb dL_law_1175 (lv_at hl 1 rfl) ?_
  refine lv_iconst (v := 2) hx hb dL_law_1177 (by decide) ?_
  refine lv_iadd hx hb dL_law_1178 ?_
  refine tI (v := 2) (by decide +kernel) ?_
  refine va_sld hx hb hX hbl hbA hS (vin (k := 2) (by decide) (by decide +kernel) (by decide)) dL_law_1179 ?_
  refine tI (v := xs 2) (congrArg xs (by decide +kernel)) ?_
  refine xc_V (b := w26) (wc := [(w26, .inr (4, [.int 0, .int 0, .ref w27, .ref w28, .ref w29, .ref w30, .int 0, .ref w31, .ref w32, .ref w33, .ref w34, .int 0, .int 0, .int 0, .int 0, .ref w35, .ref w36, .ref w37, .ref w38, .ref w39]))]) (As := [.int (xs 1), .int (xs 2)]) (rest := []) (wr := []) ⟨hx, hb, hml, hown, hts⟩ (kX4_soonest_0 l hfl dC dI cI cZ cJ cD w26 w27 w28 w29 w30 w31 w32 w33 w34 w35 w36 w37 w38 w39 (xs 1) (xs 2) _) q921 okX4_soonest hP hD hK hE hS hA [0] [] rfl rfl (by decide) (by decide) (by decide) (ci := 4) rfl 0 rfl rfl rfl hl.1 rfl (Nat.le_of_ble_eq_true rfl) ⟨rfl, rfl⟩ ⟨Nat.le_of_ble_eq_true rfl, Nat.le_of_ble_eq_true rfl⟩ ⟨Nat.le_of_ble_eq_true rfl, Nat.le_of_ble_eq_true rfl⟩ dL_law_1180 (fun H locs hP hD hS => ?_)
  have hP : va_P (dC, dI) vwCl [(w26, .inr (4, [.int 1, .int 0, .ref w27, .ref w28, .ref w29, .ref w30, .int 0, .ref w31, .ref w32, .ref w33, .ref w34, .int 0, .int 0, .int 0, .int 0, .ref w35, .ref w36, .ref w37, .ref w38, .ref w39]))] H := hP
  have hD : va_D A [(w26, .inr (4, [.int 1, .int 0, .ref w27, .ref w28, .ref w29, .ref w30, .int 0, .ref w31, .ref w32, .ref w33, .ref w34, .int 0, .int 0, .int 0, .int 0, .ref w35, .ref w36, .ref w37, .ref w38, .ref w39]))] := hD
  refine W.eq (g2 := F0 m 1183 ls [.int 0]) rfl ?_
  refine lv_istore (lv' := [(7, .int 0), (6, .int 1), (5, .int 0), (4, .ref w41), (3, .ref w40), (2, .ref w26), (1, .ref w1), (0, .ref b)]) hx hb dL_law_1183 hl (by decide) rfl (fun ls hl => ?_)
  refine lv_aload_n hx hb dL_law_1185 rfl (lv_at hl 5 rfl) ?_
  refine xc_V (b := w26) (wc := [(w26, .inr (4, [.int 1, .int 0, .ref w27, .ref w28, .ref w29, .ref w30, .int 0, .ref w31, .ref w32, .ref w33, .ref w34, .int 0, .int 0, .int 0, .int 0, .ref w35, .ref w36, .ref w37, .ref w38, .ref w39]))]) (As := []) (rest := []) (wr := []) ⟨hx, hb, hml, hown, hts⟩ (kX4_thrown_0 l hfl dC dI cI cZ cJ cD w26 w27 w28 w29 w30 w31 w32 w33 w34 w35 w36 w37 w38 w39 _) q748 okX4_thrown hP hD hK hE hS hA [0] [] rfl rfl (by decide) (by decide) (by decide) (ci := 4) rfl 0 rfl rfl rfl hl.1 rfl (Nat.le_of_ble_eq_true rfl) ⟨rfl, rfl⟩ ⟨Nat.le_of_ble_eq_true rfl, Nat.le_of_ble_eq_true rfl⟩ ⟨Nat.le_of_ble_eq_true rfl, Nat.le_of_ble_eq_true rfl⟩ dL_law_1186 (fun H locs hP hD hS => ?_)
  have hP : va_P (dC, dI) vwCl [(w26, .inr (4, [.int 1, .int 0, .ref w27, .ref w28, .ref w29, .ref w30, .int 0, .ref w31, .ref w32, .ref w33, .ref w34, .int 0, .int 0, .int 0, .int 0, .ref w35, .ref w36, .ref w37, .ref w38, .ref w39]))] H := hP
  have hD : va_D A [(w26, .inr (4, [.int 1, .int 0, .ref w27, .ref w28, .ref w29, .ref w30, .int 0, .ref w31, .ref w32, .ref w33, .ref w34, .int 0, .int 0, .int 0, .int 0, .ref w35, .ref w36, .ref w37, .ref w38, .ref w39]))] := hD
  refine W.eq (g2 := F0 m 1189 ls [.int 1]) rfl ?_
  refine lv_iload hx hb dL_law_1189 (lv_at hl 1 rfl) ?_
  refine lv_icmp_eq (tgt := 1196) hx hb dL_law_1191 (by decide) (fun _ => ?_) (fun h9 => absurd (by decide) h9)
  refine lv_iload hx hb dL_law_1196 (lv_at hl 1 rfl) ?_
  refine lv_if_ne (tgt := 1213) hx hb dL_law_1198 (by decide) (fun _ => ?_) (fun h9 => absurd h9 (by decide))
  refine lv_goto (tgt := 1401) hx hb dL_law_1213 (by decide) ?_
  exact law_tail C hS (lv_sub hl [2, 7] rfl) (Nat.le_of_ble_eq_true rfl) (Nat.le_of_ble_eq_true rfl)
set_option maxHeartbeats 4000000 in
set_option maxRecDepth 100000 in
theorem law_20_0 {p : Program} {l : Launch} {e : Env} {s : State} {m : MethodId} {below : List Frame} {meth : Method} {c : Code} {b : Nat} {xs : Nat → Int32} {A : Nat → Prop} {dC : Nat → ClassId} {dI : Nat → Nat → Nat} {cI cZ cJ cD : ClassId} {w1 w2 w14 w24 w26 w27 w28 w29 w30 w31 w32 w33 w34 w35 w36 w37 w38 w39 w40 w41 : Nat} (C : LC p l s m meth c b xs A dC dI cI cZ cJ cD) {H : Heap} {locs : List Loc} {ls : Array Slot} (hP : va_P (dC, dI) vwCl [(w1, .inr (3, [.ref w2, .ref w14, .ref w24, .int 0])), (w26, .inr (4, [.int 0, .int 0, .ref w27, .ref w28, .ref w29, .ref w30, .int 0, .ref w31, .ref w32, .ref w33, .ref w34, .int 0, .int 0, .int 0, .int 0, .ref w35, .ref w36, .ref w37, .ref w38, .ref w39]))] H) (hD : va_D A [(w1, .inr (3, [.ref w2, .ref w14, .ref w24, .int 0])), (w26, .inr (4, [.int 0, .int 0, .ref w27, .ref w28, .ref w29, .ref w30, .int 0, .ref w31, .ref w32, .ref w33, .ref w34, .int 0, .int 0, .int 0, .int 0, .ref w35, .ref w36, .ref w37, .ref w38, .ref w39]))]) (hS : va_S A s.heap H locs) (hl : lv_has ls 9 [(5, .int 0), (4, .ref w41), (3, .ref w40), (2, .ref w26), (1, .ref w1), (0, .ref b)])  : W p l e room_1 s m #[Value.ref b] below meth c H locs 41 66559 (lw_Z below #[Value.ref b] s) (F0 m 1216 ls []) := by
  obtain ⟨hx, hb, hr, hml, hown, hts, hlocks, hX, hbl, hK, hE, hA, hA2, hbA, hfl⟩ := id C
  refine lv_aload_n hx hb dL_law_1216 rfl (lv_at hl 4 rfl) ?_
  refine lv_aload_n hx hb dL_law_1217 rfl (lv_at hl 2 rfl) ?_
  refine xc_H (wc := [(w1, .inr (3, [.ref w2, .ref w14, .ref w24, .int 0]))]) (As := [.ref w1, .ref w40]) (rest := []) (wr := [(w26, .inr (4, [.int 0, .int 0, .ref w27, .ref w28, .ref w29, .ref w30, .int 0, .ref w31, .ref w32, .ref w33, .ref w34, .int 0, .int 0, .int 0, .int 0, .ref w35, .ref w36, .ref w37, .ref w38, .ref w39]))]) ⟨hx, hb, hml, hown, hts⟩ (kL_hasCycle_0 l hfl dC dI cI cZ cJ cD w1 w40 w2 w14 w24 _) q642 okL_hasCycle hP hD hK hE hS hA [0] [1] rfl rfl (by decide) (by decide) (by decide) rfl hl.1 rfl (Nat.le_of_ble_eq_true rfl) ⟨rfl, rfl⟩ ⟨Nat.le_of_ble_eq_true rfl, Nat.le_of_ble_eq_true rfl⟩ ⟨Nat.le_of_ble_eq_true rfl, Nat.le_of_ble_eq_true rfl⟩ dL_law_1218 (fun H locs hP hD hS => ?_)
  have hP : va_P (dC, dI) vwCl [(w26, .inr (4, [.int 0, .int 0, .ref w27, .ref w28, .ref w29, .ref w30, .int 0, .ref w31, .ref w32, .ref w33, .ref w34, .int 0, .int 0, .int 0, .int 0, .ref w35, .ref w36, .ref w37, .ref w38, .ref w39]))] H := hP
  have hD : va_D A [(w26, .inr (4, [.int 0, .int 0, .ref w27, .ref w28, .ref w29, .ref w30, .int 0, .ref w31, .ref w32, .ref w33, .ref w34, .int 0, .int 0, .int 0, .int 0, .ref w35, .ref w36, .ref w37, .ref w38, .ref w39]))] := hD
  refine W.eq (g2 := F0 m 1221 ls [.int 1]) rfl ?_
  refine lv_istore (lv' := [(6, .int 1), (5, .int 0), (4, .ref w41), (3, .ref w40), (2, .ref w26), (1, .ref w1), (0, .ref b)]) hx hb dL_law_1221 hl (by decide) rfl (fun ls hl => ?_)
  refine lv_aload_n hx hb dL_law_1223 rfl (lv_at hl 4 rfl) ?_
  refine xc_V (b := w26) (wc := [(w26, .inr (4, [.int 0, .int 0, .ref w27, .ref w28, .ref w29, .ref w30, .int 0, .ref w31, .ref w32, .ref w33, .ref w34, .int 0, .int 0, .int 0, .int 0, .ref w35, .ref w36, .ref w37, .ref w38, .ref w39]))]) (As := []) (rest := []) (wr := []) ⟨hx, hb, hml, hown, hts⟩ (kX4_hasCycle_0 l hfl dC dI cI cZ cJ cD w26 w27 w28 w29 w30 w31 w32 w33 w34 w35 w36 w37 w38 w39 _) q925 okX4_hasCycle hP hD hK hE hS hA [0] [] rfl rfl (by decide) (by decide) (by decide) (ci := 4) rfl 0 rfl rfl rfl hl.1 rfl (Nat.le_of_ble_eq_true rfl) ⟨rfl, rfl⟩ ⟨Nat.le_of_ble_eq_true rfl, Nat.le_of_ble_eq_true rfl⟩ ⟨Nat.le_of_ble_eq_true rfl, Nat.le_of_ble_eq_true rfl⟩ dL_law_1224 (fun H locs hP hD hS => ?_)
  have hP : va_P (dC, dI) vwCl [(w26, .inr (4, [.int 1, .int 0, .ref w27, .ref w28, .ref w29, .ref w30, .int 0, .ref w31, .ref w32, .ref w33, .ref w34, .int 0, .int 0, .int 0, .int 0, .ref w35, .ref w36, .ref w37, .ref w38, .ref w39]))] H := hP
  have hD : va_D A [(w26, .inr (4, [.int 1, .int 0, .ref w27, .ref w28, .ref w29, .ref w30, .int 0, .ref w31, .ref w32, .ref w33, .ref w34, .int 0, .int 0, .int 0, .int 0, .ref w35, .ref w36, .ref w37, .ref w38, .ref w39]))] := hD
  refine W.eq (g2 := F0 m 1227 ls [.int 0]) rfl ?_
  refine lv_istore (lv' := [(7, .int 0), (6, .int 1), (5, .int 0), (4, .ref w41), (3, .ref w40), (2, .ref w26), (1, .ref w1), (0, .ref b)]) hx hb dL_law_1227 hl (by decide) rfl (fun ls hl => ?_)
  refine lv_aload_n hx hb dL_law_1229 rfl (lv_at hl 5 rfl) ?_
  refine xc_V (b := w26) (wc := [(w26, .inr (4, [.int 1, .int 0, .ref w27, .ref w28, .ref w29, .ref w30, .int 0, .ref w31, .ref w32, .ref w33, .ref w34, .int 0, .int 0, .int 0, .int 0, .ref w35, .ref w36, .ref w37, .ref w38, .ref w39]))]) (As := []) (rest := []) (wr := []) ⟨hx, hb, hml, hown, hts⟩ (kX4_thrown_0 l hfl dC dI cI cZ cJ cD w26 w27 w28 w29 w30 w31 w32 w33 w34 w35 w36 w37 w38 w39 _) q748 okX4_thrown hP hD hK hE hS hA [0] [] rfl rfl (by decide) (by decide) (by decide) (ci := 4) rfl 0 rfl rfl rfl hl.1 rfl (Nat.le_of_ble_eq_true rfl) ⟨rfl, rfl⟩ ⟨Nat.le_of_ble_eq_true rfl, Nat.le_of_ble_eq_true rfl⟩ ⟨Nat.le_of_ble_eq_true rfl, Nat.le_of_ble_eq_true rfl⟩ dL_law_1230 (fun H locs hP hD hS => ?_)
  have hP : va_P (dC, dI) vwCl [(w26, .inr (4, [.int 1, .int 0, .ref w27, .ref w28, .ref w29, .ref w30, .int 0, .ref w31, .ref w32, .ref w33, .ref w34, .int 0, .int 0, .int 0, .int 0, .ref w35, .ref w36, .ref w37, .ref w38, .ref w39]))] H := hP
  have hD : va_D A [(w26, .inr (4, [.int 1, .int 0, .ref w27, .ref w28, .ref w29, .ref w30, .int 0, .ref w31, .ref w32, .ref w33, .ref w34, .int 0, .int 0, .int 0, .int 0, .ref w35, .ref w36, .ref w37, .ref w38, .ref w39]))] := hD
  refine W.eq (g2 := F0 m 1233 ls [.int 1]) rfl ?_
  refine lv_iload hx hb dL_law_1233 (lv_at hl 1 rfl) ?_
  refine lv_icmp_eq (tgt := 1240) hx hb dL_law_1235 (by decide) (fun _ => ?_) (fun h9 => absurd (by decide) h9)
  refine lv_iload hx hb dL_law_1240 (lv_at hl 1 rfl) ?_
  refine lv_if_ne (tgt := 1264) hx hb dL_law_1242 (by decide) (fun _ => ?_) (fun h9 => absurd h9 (by decide))
  refine lv_goto (tgt := 1401) hx hb dL_law_1264 (by decide) ?_
  exact law_tail C hS (lv_sub hl [2, 7] rfl) (Nat.le_of_ble_eq_true rfl) (Nat.le_of_ble_eq_true rfl)
set_option maxHeartbeats 4000000 in
set_option maxRecDepth 100000 in
theorem law_21_0 {p : Program} {l : Launch} {e : Env} {s : State} {m : MethodId} {below : List Frame} {meth : Method} {c : Code} {b : Nat} {xs : Nat → Int32} {A : Nat → Prop} {dC : Nat → ClassId} {dI : Nat → Nat → Nat} {cI cZ cJ cD : ClassId} {w1 w2 w14 w24 w26 w27 w28 w29 w30 w31 w32 w33 w34 w35 w36 w37 w38 w39 w40 w41 : Nat} (C : LC p l s m meth c b xs A dC dI cI cZ cJ cD) {H : Heap} {locs : List Loc} {ls : Array Slot} (hP : va_P (dC, dI) vwCl [(w1, .inr (3, [.ref w2, .ref w14, .ref w24, .int 0])), (w26, .inr (4, [.int 0, .int 0, .ref w27, .ref w28, .ref w29, .ref w30, .int 0, .ref w31, .ref w32, .ref w33, .ref w34, .int 0, .int 0, .int 0, .int 0, .ref w35, .ref w36, .ref w37, .ref w38, .ref w39]))] H) (hD : va_D A [(w1, .inr (3, [.ref w2, .ref w14, .ref w24, .int 0])), (w26, .inr (4, [.int 0, .int 0, .ref w27, .ref w28, .ref w29, .ref w30, .int 0, .ref w31, .ref w32, .ref w33, .ref w34, .int 0, .int 0, .int 0, .int 0, .ref w35, .ref w36, .ref w37, .ref w38, .ref w39]))]) (hS : va_S A s.heap H locs) (hl : lv_has ls 9 [(5, .int 0), (4, .ref w41), (3, .ref w40), (2, .ref w26), (1, .ref w1), (0, .ref b)])  : W p l e room_1 s m #[Value.ref b] below meth c H locs 41 66559 (lw_Z below #[Value.ref b] s) (F0 m 1267 ls []) := by
  obtain ⟨hx, hb, hr, hml, hown, hts, hlocks, hX, hbl, hK, hE, hA, hA2, hbA, hfl⟩ := id C
  refine lv_aload_n hx hb dL_law_1267 rfl (lv_at hl 4 rfl) ?_
  refine lv_aload_n hx hb dL_law_1268 rfl (lv_at hl 5 rfl) ?_
  refine lv_iload hx hb dL_law_1269 (lv_at hl 0 rfl) ?_
  refine lv_iconst (v := 1) hx hb dL_law_1271 (by decide) ?_
  refine lv_iadd hx hb dL_law_1272 ?_
  refine tI (v := 1) (by decide +kernel) ?_
  refine va_sld hx hb hX hbl hbA hS (vin (k := 1) (by decide) (by decide +kernel) (by decide)) dL_law_1273 ?_
  refine tI (v := xs 1) (congrArg xs (by decide +kernel)) ?_
  refine lv_aload_n hx hb dL_law_1274 rfl (lv_at hl 2 rfl) ?_
  refine xc_H (wc := [(w1, .inr (3, [.ref w2, .ref w14, .ref w24, .int 0]))]) (As := [.ref w1, .int (xs 1), .ref w40]) (rest := []) (wr := [(w26, .inr (4, [.int 0, .int 0, .ref w27, .ref w28, .ref w29, .ref w30, .int 0, .ref w31, .ref w32, .ref w33, .ref w34, .int 0, .int 0, .int 0, .int 0, .ref w35, .ref w36, .ref w37, .ref w38, .ref w39]))]) ⟨hx, hb, hml, hown, hts⟩ (kL_ways_0 l hfl dC dI cI cZ cJ cD w1 w40 w2 w14 w24 (xs 1) _) q657 okL_ways hP hD hK hE hS hA [0] [1] rfl rfl (by decide) (by decide) (by decide) rfl hl.1 rfl (Nat.le_of_ble_eq_true rfl) ⟨rfl, rfl⟩ ⟨Nat.le_of_ble_eq_true rfl, Nat.le_of_ble_eq_true rfl⟩ ⟨Nat.le_of_ble_eq_true rfl, Nat.le_of_ble_eq_true rfl⟩ dL_law_1275 (fun H locs hP hD hS => ?_)
  have hP : va_P (dC, dI) vwCl [(w26, .inr (4, [.int 0, .int 0, .ref w27, .ref w28, .ref w29, .ref w30, .int 0, .ref w31, .ref w32, .ref w33, .ref w34, .int 0, .int 0, .int 0, .int 0, .ref w35, .ref w36, .ref w37, .ref w38, .ref w39]))] H := hP
  have hD : va_D A [(w26, .inr (4, [.int 0, .int 0, .ref w27, .ref w28, .ref w29, .ref w30, .int 0, .ref w31, .ref w32, .ref w33, .ref w34, .int 0, .int 0, .int 0, .int 0, .ref w35, .ref w36, .ref w37, .ref w38, .ref w39]))] := hD
  refine W.eq (g2 := F0 m 1278 ls [.int 1]) rfl ?_
  refine lv_istore (lv' := [(6, .int 1), (5, .int 0), (4, .ref w41), (3, .ref w40), (2, .ref w26), (1, .ref w1), (0, .ref b)]) hx hb dL_law_1278 hl (by decide) rfl (fun ls hl => ?_)
  refine lv_aload_n hx hb dL_law_1280 rfl (lv_at hl 4 rfl) ?_
  refine lv_aload_n hx hb dL_law_1281 rfl (lv_at hl 6 rfl) ?_
  refine lv_iload hx hb dL_law_1282 (lv_at hl 1 rfl) ?_
  refine lv_iconst (v := 1) hx hb dL_law_1284 (by decide) ?_
  refine lv_iadd hx hb dL_law_1285 ?_
  refine tI (v := 1) (by decide +kernel) ?_
  refine va_sld hx hb hX hbl hbA hS (vin (k := 1) (by decide) (by decide +kernel) (by decide)) dL_law_1286 ?_
  refine tI (v := xs 1) (congrArg xs (by decide +kernel)) ?_
  refine xc_V (b := w26) (wc := [(w26, .inr (4, [.int 0, .int 0, .ref w27, .ref w28, .ref w29, .ref w30, .int 0, .ref w31, .ref w32, .ref w33, .ref w34, .int 0, .int 0, .int 0, .int 0, .ref w35, .ref w36, .ref w37, .ref w38, .ref w39]))]) (As := [.int (xs 1)]) (rest := []) (wr := []) ⟨hx, hb, hml, hown, hts⟩ (kX4_ways_0 l hfl dC dI cI cZ cJ cD w26 w27 w28 w29 w30 w31 w32 w33 w34 w35 w36 w37 w38 w39 (xs 1) _) q929 okX4_ways hP hD hK hE hS hA [0] [] rfl rfl (by decide) (by decide) (by decide) (ci := 4) rfl 0 rfl rfl rfl hl.1 rfl (Nat.le_of_ble_eq_true rfl) ⟨rfl, rfl⟩ ⟨Nat.le_of_ble_eq_true rfl, Nat.le_of_ble_eq_true rfl⟩ ⟨Nat.le_of_ble_eq_true rfl, Nat.le_of_ble_eq_true rfl⟩ dL_law_1287 (fun H locs hP hD hS => ?_)
  have hP : va_P (dC, dI) vwCl [(w26, .inr (4, [.int 1, .int 0, .ref w27, .ref w28, .ref w29, .ref w30, .int 0, .ref w31, .ref w32, .ref w33, .ref w34, .int 0, .int 0, .int 0, .int 0, .ref w35, .ref w36, .ref w37, .ref w38, .ref w39]))] H := hP
  have hD : va_D A [(w26, .inr (4, [.int 1, .int 0, .ref w27, .ref w28, .ref w29, .ref w30, .int 0, .ref w31, .ref w32, .ref w33, .ref w34, .int 0, .int 0, .int 0, .int 0, .ref w35, .ref w36, .ref w37, .ref w38, .ref w39]))] := hD
  refine W.eq (g2 := F0 m 1290 ls [.long 0]) rfl ?_
  refine lv_lstore (lv' := [(7, .long 0), (6, .int 1), (5, .int 0), (4, .ref w41), (3, .ref w40), (2, .ref w26), (1, .ref w1), (0, .ref b)]) hx hb dL_law_1290 hl (by decide) rfl (fun ls hl => ?_)
  refine lv_aload_n hx hb dL_law_1292 rfl (lv_at hl 5 rfl) ?_
  refine xc_V (b := w26) (wc := [(w26, .inr (4, [.int 1, .int 0, .ref w27, .ref w28, .ref w29, .ref w30, .int 0, .ref w31, .ref w32, .ref w33, .ref w34, .int 0, .int 0, .int 0, .int 0, .ref w35, .ref w36, .ref w37, .ref w38, .ref w39]))]) (As := []) (rest := []) (wr := []) ⟨hx, hb, hml, hown, hts⟩ (kX4_thrown_0 l hfl dC dI cI cZ cJ cD w26 w27 w28 w29 w30 w31 w32 w33 w34 w35 w36 w37 w38 w39 _) q748 okX4_thrown hP hD hK hE hS hA [0] [] rfl rfl (by decide) (by decide) (by decide) (ci := 4) rfl 0 rfl rfl rfl hl.1 rfl (Nat.le_of_ble_eq_true rfl) ⟨rfl, rfl⟩ ⟨Nat.le_of_ble_eq_true rfl, Nat.le_of_ble_eq_true rfl⟩ ⟨Nat.le_of_ble_eq_true rfl, Nat.le_of_ble_eq_true rfl⟩ dL_law_1293 (fun H locs hP hD hS => ?_)
  have hP : va_P (dC, dI) vwCl [(w26, .inr (4, [.int 1, .int 0, .ref w27, .ref w28, .ref w29, .ref w30, .int 0, .ref w31, .ref w32, .ref w33, .ref w34, .int 0, .int 0, .int 0, .int 0, .ref w35, .ref w36, .ref w37, .ref w38, .ref w39]))] H := hP
  have hD : va_D A [(w26, .inr (4, [.int 1, .int 0, .ref w27, .ref w28, .ref w29, .ref w30, .int 0, .ref w31, .ref w32, .ref w33, .ref w34, .int 0, .int 0, .int 0, .int 0, .ref w35, .ref w36, .ref w37, .ref w38, .ref w39]))] := hD
  refine W.eq (g2 := F0 m 1296 ls [.int 1]) rfl ?_
  refine lv_iload hx hb dL_law_1296 (lv_at hl 1 rfl) ?_
  refine lv_icmp_eq (tgt := 1303) hx hb dL_law_1298 (by decide) (fun _ => ?_) (fun h9 => absurd (by decide) h9)
  refine lv_iload hx hb dL_law_1303 (lv_at hl 1 rfl) ?_
  refine lv_if_ne (tgt := 1319) hx hb dL_law_1305 (by decide) (fun _ => ?_) (fun h9 => absurd h9 (by decide))
  refine lv_goto (tgt := 1401) hx hb dL_law_1319 (by decide) ?_
  exact law_tail C hS (lv_sub hl [2, 7] rfl) (Nat.le_of_ble_eq_true rfl) (Nat.le_of_ble_eq_true rfl)
set_option maxHeartbeats 4000000 in
set_option maxRecDepth 100000 in
theorem law_22_0 {p : Program} {l : Launch} {e : Env} {s : State} {m : MethodId} {below : List Frame} {meth : Method} {c : Code} {b : Nat} {xs : Nat → Int32} {A : Nat → Prop} {dC : Nat → ClassId} {dI : Nat → Nat → Nat} {cI cZ cJ cD : ClassId} {w1 w2 w14 w24 w26 w27 w28 w29 w30 w31 w32 w33 w34 w35 w36 w37 w38 w39 w40 w41 : Nat} (C : LC p l s m meth c b xs A dC dI cI cZ cJ cD) {H : Heap} {locs : List Loc} {ls : Array Slot} (hP : va_P (dC, dI) vwCl [(w1, .inr (3, [.ref w2, .ref w14, .ref w24, .int 0])), (w26, .inr (4, [.int 0, .int 0, .ref w27, .ref w28, .ref w29, .ref w30, .int 0, .ref w31, .ref w32, .ref w33, .ref w34, .int 0, .int 0, .int 0, .int 0, .ref w35, .ref w36, .ref w37, .ref w38, .ref w39]))] H) (hD : va_D A [(w1, .inr (3, [.ref w2, .ref w14, .ref w24, .int 0])), (w26, .inr (4, [.int 0, .int 0, .ref w27, .ref w28, .ref w29, .ref w30, .int 0, .ref w31, .ref w32, .ref w33, .ref w34, .int 0, .int 0, .int 0, .int 0, .ref w35, .ref w36, .ref w37, .ref w38, .ref w39]))]) (hS : va_S A s.heap H locs) (hl : lv_has ls 9 [(5, .int 0), (4, .ref w41), (3, .ref w40), (2, .ref w26), (1, .ref w1), (0, .ref b)])  : W p l e room_1 s m #[Value.ref b] below meth c H locs 41 66559 (lw_Z below #[Value.ref b] s) (F0 m 1322 ls []) := by
  obtain ⟨hx, hb, hr, hml, hown, hts, hlocks, hX, hbl, hK, hE, hA, hA2, hbA, hfl⟩ := id C
  refine lv_aload_n hx hb dL_law_1322 rfl (lv_at hl 4 rfl) ?_
  refine lv_aload hx hb dL_law_1323 (lv_at hl 1 rfl) ?_
  refine xc_H (wc := [(w1, .inr (3, [.ref w2, .ref w14, .ref w24, .int 0]))]) (As := [.ref w1, .ref w41]) (rest := []) (wr := [(w26, .inr (4, [.int 0, .int 0, .ref w27, .ref w28, .ref w29, .ref w30, .int 0, .ref w31, .ref w32, .ref w33, .ref w34, .int 0, .int 0, .int 0, .int 0, .ref w35, .ref w36, .ref w37, .ref w38, .ref w39]))]) ⟨hx, hb, hml, hown, hts⟩ (kL_rest_0 l hfl dC dI cI cZ cJ cD w1 w41 w2 w14 w24 _) q673 okL_rest hP hD hK hE hS hA [0] [1] rfl rfl (by decide) (by decide) (by decide) rfl hl.1 rfl (Nat.le_of_ble_eq_true rfl) ⟨rfl, rfl⟩ ⟨Nat.le_of_ble_eq_true rfl, Nat.le_of_ble_eq_true rfl⟩ ⟨Nat.le_of_ble_eq_true rfl, Nat.le_of_ble_eq_true rfl⟩ dL_law_1325 (fun H locs hP hD hS => ?_)
  have hP : va_P (dC, dI) vwCl [(w26, .inr (4, [.int 0, .int 0, .ref w27, .ref w28, .ref w29, .ref w30, .int 0, .ref w31, .ref w32, .ref w33, .ref w34, .int 0, .int 0, .int 0, .int 0, .ref w35, .ref w36, .ref w37, .ref w38, .ref w39]))] H := hP
  have hD : va_D A [(w26, .inr (4, [.int 0, .int 0, .ref w27, .ref w28, .ref w29, .ref w30, .int 0, .ref w31, .ref w32, .ref w33, .ref w34, .int 0, .int 0, .int 0, .int 0, .ref w35, .ref w36, .ref w37, .ref w38, .ref w39]))] := hD
  refine W.eq (g2 := F0 m 1328 ls [.int 1]) rfl ?_
  refine lv_istore (lv' := [(6, .int 1), (5, .int 0), (4, .ref w41), (3, .ref w40), (2, .ref w26), (1, .ref w1), (0, .ref b)]) hx hb dL_law_1328 hl (by decide) rfl (fun ls hl => ?_)
  refine lv_aload_n hx hb dL_law_1330 rfl (lv_at hl 4 rfl) ?_
  refine xc_V (b := w26) (wc := [(w26, .inr (4, [.int 0, .int 0, .ref w27, .ref w28, .ref w29, .ref w30, .int 0, .ref w31, .ref w32, .ref w33, .ref w34, .int 0, .int 0, .int 0, .int 0, .ref w35, .ref w36, .ref w37, .ref w38, .ref w39]))]) (As := []) (rest := []) (wr := []) ⟨hx, hb, hml, hown, hts⟩ (kX4_rest_0 l hfl dC dI cI cZ cJ cD w26 w27 w28 w29 w30 w31 w32 w33 w34 w35 w36 w37 w38 w39 _) q933 okX4_rest hP hD hK hE hS hA [0] [] rfl rfl (by decide) (by decide) (by decide) (ci := 4) rfl 0 rfl rfl rfl hl.1 rfl (Nat.le_of_ble_eq_true rfl) ⟨rfl, rfl⟩ ⟨Nat.le_of_ble_eq_true rfl, Nat.le_of_ble_eq_true rfl⟩ ⟨Nat.le_of_ble_eq_true rfl, Nat.le_of_ble_eq_true rfl⟩ dL_law_1331 (fun H locs hP hD hS => ?_)
  have hP : va_P (dC, dI) vwCl [(w26, .inr (4, [.int 1, .int 0, .ref w27, .ref w28, .ref w29, .ref w30, .int 0, .ref w31, .ref w32, .ref w33, .ref w34, .int 0, .int 0, .int 0, .int 0, .ref w35, .ref w36, .ref w37, .ref w38, .ref w39]))] H := hP
  have hD : va_D A [(w26, .inr (4, [.int 1, .int 0, .ref w27, .ref w28, .ref w29, .ref w30, .int 0, .ref w31, .ref w32, .ref w33, .ref w34, .int 0, .int 0, .int 0, .int 0, .ref w35, .ref w36, .ref w37, .ref w38, .ref w39]))] := hD
  refine W.eq (g2 := F0 m 1334 ls [.double FP.dconst0]) rfl ?_
  refine lv_dstore (lv' := [(7, .double FP.dconst0), (6, .int 1), (5, .int 0), (4, .ref w41), (3, .ref w40), (2, .ref w26), (1, .ref w1), (0, .ref b)]) hx hb dL_law_1334 hl (by decide) rfl (fun ls hl => ?_)
  refine lv_aload_n hx hb dL_law_1336 rfl (lv_at hl 5 rfl) ?_
  refine xc_V (b := w26) (wc := [(w26, .inr (4, [.int 1, .int 0, .ref w27, .ref w28, .ref w29, .ref w30, .int 0, .ref w31, .ref w32, .ref w33, .ref w34, .int 0, .int 0, .int 0, .int 0, .ref w35, .ref w36, .ref w37, .ref w38, .ref w39]))]) (As := []) (rest := []) (wr := []) ⟨hx, hb, hml, hown, hts⟩ (kX4_thrown_0 l hfl dC dI cI cZ cJ cD w26 w27 w28 w29 w30 w31 w32 w33 w34 w35 w36 w37 w38 w39 _) q748 okX4_thrown hP hD hK hE hS hA [0] [] rfl rfl (by decide) (by decide) (by decide) (ci := 4) rfl 0 rfl rfl rfl hl.1 rfl (Nat.le_of_ble_eq_true rfl) ⟨rfl, rfl⟩ ⟨Nat.le_of_ble_eq_true rfl, Nat.le_of_ble_eq_true rfl⟩ ⟨Nat.le_of_ble_eq_true rfl, Nat.le_of_ble_eq_true rfl⟩ dL_law_1337 (fun H locs hP hD hS => ?_)
  have hP : va_P (dC, dI) vwCl [(w26, .inr (4, [.int 1, .int 0, .ref w27, .ref w28, .ref w29, .ref w30, .int 0, .ref w31, .ref w32, .ref w33, .ref w34, .int 0, .int 0, .int 0, .int 0, .ref w35, .ref w36, .ref w37, .ref w38, .ref w39]))] H := hP
  have hD : va_D A [(w26, .inr (4, [.int 1, .int 0, .ref w27, .ref w28, .ref w29, .ref w30, .int 0, .ref w31, .ref w32, .ref w33, .ref w34, .int 0, .int 0, .int 0, .int 0, .ref w35, .ref w36, .ref w37, .ref w38, .ref w39]))] := hD
  refine W.eq (g2 := F0 m 1340 ls [.int 1]) rfl ?_
  refine lv_iload hx hb dL_law_1340 (lv_at hl 1 rfl) ?_
  refine lv_icmp_eq (tgt := 1347) hx hb dL_law_1342 (by decide) (fun _ => ?_) (fun h9 => absurd (by decide) h9)
  refine lv_iload hx hb dL_law_1347 (lv_at hl 1 rfl) ?_
  refine lv_if_ne (tgt := 1384) hx hb dL_law_1349 (by decide) (fun _ => ?_) (fun h9 => absurd h9 (by decide))
  refine lv_goto (tgt := 1401) hx hb dL_law_1384 (by decide) ?_
  exact law_tail C hS (lv_sub hl [2, 7] rfl) (Nat.le_of_ble_eq_true rfl) (Nat.le_of_ble_eq_true rfl)
set_option maxHeartbeats 4000000 in
set_option maxRecDepth 100000 in
theorem law_23_0 {p : Program} {l : Launch} {e : Env} {s : State} {m : MethodId} {below : List Frame} {meth : Method} {c : Code} {b : Nat} {xs : Nat → Int32} {A : Nat → Prop} {dC : Nat → ClassId} {dI : Nat → Nat → Nat} {cI cZ cJ cD : ClassId} {w1 w2 w3 w4 w5 w6 w7 w8 w9 w10 w11 w12 w13 w14 w24 w26 w27 w28 w29 w30 w31 w32 w33 w34 w35 w36 w37 w38 w39 w40 w41 : Nat} (C : LC p l s m meth c b xs A dC dI cI cZ cJ cD) {H : Heap} {locs : List Loc} {ls : Array Slot} (hP : va_P (dC, dI) vwCl [(w1, .inr (3, [.ref w2, .ref w14, .ref w24, .int 0])), (w2, .inr (1, [.int 0, .ref w3, .ref w4, .ref w5, .ref w6, .ref w7, .ref w8, .ref w9, .int 0, .ref w10, .ref w11, .ref w12, .ref w13])), (w26, .inr (4, [.int 0, .int 0, .ref w27, .ref w28, .ref w29, .ref w30, .int 0, .ref w31, .ref w32, .ref w33, .ref w34, .int 0, .int 0, .int 0, .int 0, .ref w35, .ref w36, .ref w37, .ref w38, .ref w39]))] H) (hD : va_D A [(w1, .inr (3, [.ref w2, .ref w14, .ref w24, .int 0])), (w2, .inr (1, [.int 0, .ref w3, .ref w4, .ref w5, .ref w6, .ref w7, .ref w8, .ref w9, .int 0, .ref w10, .ref w11, .ref w12, .ref w13])), (w26, .inr (4, [.int 0, .int 0, .ref w27, .ref w28, .ref w29, .ref w30, .int 0, .ref w31, .ref w32, .ref w33, .ref w34, .int 0, .int 0, .int 0, .int 0, .ref w35, .ref w36, .ref w37, .ref w38, .ref w39]))]) (hS : va_S A s.heap H locs) (hl : lv_has ls 9 [(5, .int 0), (4, .ref w41), (3, .ref w40), (2, .ref w26), (1, .ref w1), (0, .ref b)])  : W p l e room_1 s m #[Value.ref b] below meth c H locs 41 66559 (lw_Z below #[Value.ref b] s) (F0 m 1387 ls []) := by
  obtain ⟨hx, hb, hr, hml, hown, hts, hlocks, hX, hbl, hK, hE, hA, hA2, hbA, hfl⟩ := id C
  refine lv_aload_n hx hb dL_law_1387 rfl (lv_at hl 4 rfl) ?_
  refine xc_V (b := w1) (wc := [(w1, .inr (3, [.ref w2, .ref w14, .ref w24, .int 0])), (w2, .inr (1, [.int 0, .ref w3, .ref w4, .ref w5, .ref w6, .ref w7, .ref w8, .ref w9, .int 0, .ref w10, .ref w11, .ref w12, .ref w13]))]) (As := []) (rest := []) (wr := [(w26, .inr (4, [.int 0, .int 0, .ref w27, .ref w28, .ref w29, .ref w30, .int 0, .ref w31, .ref w32, .ref w33, .ref w34, .int 0, .int 0, .int 0, .int 0, .ref w35, .ref w36, .ref w37, .ref w38, .ref w39]))]) ⟨hx, hb, hml, hown, hts⟩ (kX3_digest_0 l hfl dC dI cI cZ cJ cD w1 w2 w14 w24 w3 w4 w5 w6 w7 w8 w9 w10 w11 w12 w13 _) q371 okX3_digest hP hD hK hE hS hA [0, 1] [2] rfl rfl (by decide) (by decide) (by decide) (ci := 3) rfl 0 rfl rfl rfl hl.1 rfl (Nat.le_of_ble_eq_true rfl) ⟨rfl, rfl⟩ ⟨Nat.le_of_ble_eq_true rfl, Nat.le_of_ble_eq_true rfl⟩ ⟨Nat.le_of_ble_eq_true rfl, Nat.le_of_ble_eq_true rfl⟩ dL_law_1388 (fun H locs hP hD hS => ?_)
  have hP : va_P (dC, dI) vwCl [(w26, .inr (4, [.int 0, .int 0, .ref w27, .ref w28, .ref w29, .ref w30, .int 0, .ref w31, .ref w32, .ref w33, .ref w34, .int 0, .int 0, .int 0, .int 0, .ref w35, .ref w36, .ref w37, .ref w38, .ref w39])), (w1, .inr (3, [.ref w2, .ref w14, .ref w24, .int 0])), (w2, .inr (1, [.int 0, .ref w3, .ref w4, .ref w5, .ref w6, .ref w7, .ref w8, .ref w9, .int 0, .ref w10, .ref w11, .ref w12, .ref w13]))] H := hP
  have hD : va_D A [(w26, .inr (4, [.int 0, .int 0, .ref w27, .ref w28, .ref w29, .ref w30, .int 0, .ref w31, .ref w32, .ref w33, .ref w34, .int 0, .int 0, .int 0, .int 0, .ref w35, .ref w36, .ref w37, .ref w38, .ref w39])), (w1, .inr (3, [.ref w2, .ref w14, .ref w24, .int 0])), (w2, .inr (1, [.int 0, .ref w3, .ref w4, .ref w5, .ref w6, .ref w7, .ref w8, .ref w9, .int 0, .ref w10, .ref w11, .ref w12, .ref w13]))] := hD
  refine W.eq (g2 := F0 m 1391 ls [.long 125891]) rfl ?_
  refine lv_aload_n hx hb dL_law_1391 rfl (lv_at hl 3 rfl) ?_
  refine xc_V (b := w26) (wc := [(w26, .inr (4, [.int 0, .int 0, .ref w27, .ref w28, .ref w29, .ref w30, .int 0, .ref w31, .ref w32, .ref w33, .ref w34, .int 0, .int 0, .int 0, .int 0, .ref w35, .ref w36, .ref w37, .ref w38, .ref w39]))]) (As := []) (rest := [.long 125891]) (wr := [(w1, .inr (3, [.ref w2, .ref w14, .ref w24, .int 0])), (w2, .inr (1, [.int 0, .ref w3, .ref w4, .ref w5, .ref w6, .ref w7, .ref w8, .ref w9, .int 0, .ref w10, .ref w11, .ref w12, .ref w13]))]) ⟨hx, hb, hml, hown, hts⟩ (kX4_digest_0 l hfl dC dI cI cZ cJ cD w26 w27 w28 w29 w30 w31 w32 w33 w34 w35 w36 w37 w38 w39 _) q937 okX4_digest hP hD hK hE hS hA [0] [1, 2] rfl rfl (by decide) (by decide) (by decide) (ci := 4) rfl 0 rfl rfl rfl hl.1 rfl (Nat.le_of_ble_eq_true rfl) ⟨rfl, rfl⟩ ⟨Nat.le_of_ble_eq_true rfl, Nat.le_of_ble_eq_true rfl⟩ ⟨Nat.le_of_ble_eq_true rfl, Nat.le_of_ble_eq_true rfl⟩ dL_law_1392 (fun H locs hP hD hS => ?_)
  have hP : va_P (dC, dI) vwCl [(w1, .inr (3, [.ref w2, .ref w14, .ref w24, .int 0])), (w2, .inr (1, [.int 0, .ref w3, .ref w4, .ref w5, .ref w6, .ref w7, .ref w8, .ref w9, .int 0, .ref w10, .ref w11, .ref w12, .ref w13])), (w26, .inr (4, [.int 0, .int 0, .ref w27, .ref w28, .ref w29, .ref w30, .int 0, .ref w31, .ref w32, .ref w33, .ref w34, .int 0, .int 0, .int 0, .int 0, .ref w35, .ref w36, .ref w37, .ref w38, .ref w39]))] H := hP
  have hD : va_D A [(w1, .inr (3, [.ref w2, .ref w14, .ref w24, .int 0])), (w2, .inr (1, [.int 0, .ref w3, .ref w4, .ref w5, .ref w6, .ref w7, .ref w8, .ref w9, .int 0, .ref w10, .ref w11, .ref w12, .ref w13])), (w26, .inr (4, [.int 0, .int 0, .ref w27, .ref w28, .ref w29, .ref w30, .int 0, .ref w31, .ref w32, .ref w33, .ref w34, .int 0, .int 0, .int 0, .int 0, .ref w35, .ref w36, .ref w37, .ref w38, .ref w39]))] := hD
  refine W.eq (g2 := F0 m 1395 ls [.long 125891, .long 125891]) rfl ?_
  refine W.lcmp hx hb dL_law_1395 ?_
  refine tI (v := 0) (by decide +kernel) ?_
  refine lv_if_eq (tgt := 1401) hx hb dL_law_1396 (by decide) (fun _ => ?_) (fun h9 => absurd (by decide) h9)
  exact law_tail C hS (lv_sub hl [0, 5] rfl) (Nat.le_of_ble_eq_true rfl) (Nat.le_of_ble_eq_true rfl)
