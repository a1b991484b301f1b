set_option maxHeartbeats 4000000 in
set_option maxRecDepth 100000 in
theorem law_8_0 {p : Program} {l : Launch} {e : Env} {s : State} {m : MethodId} {below : List Frame} {meth : Method} {c : Code} {b : Nat} {xs : Nat → Int32} {A : Nat → Prop} {dC : Nat → ClassId} {dI : Nat → Nat → Nat} {cI cZ cJ cD : ClassId} {w1 w2 w14 w24 w26 w27 w28 w29 w30 w31 w32 w33 w34 w35 w36 w37 w38 w39 w40 w41 : Nat} (C : LC p l s m meth c b xs A dC dI cI cZ cJ cD) {H : Heap} {locs : List Loc} {ls : Array Slot} (hP : va_P (dC, dI) vwCl [(w1, .inr (3, [.ref w2, .ref w14, .ref w24, .int 0])), (w26, .inr (4, [.int 0, .int 0, .ref w27, .ref w28, .ref w29, .ref w30, .int 0, .ref w31, .ref w32, .ref w33, .ref w34, .int 0, .int 0, .int 0, .int 0, .ref w35, .ref w36, .ref w37, .ref w38, .ref w39]))] H) (hD : va_D A [(w1, .inr (3, [.ref w2, .ref w14, .ref w24, .int 0])), (w26, .inr (4, [.int 0, .int 0, .ref w27, .ref w28, .ref w29, .ref w30, .int 0, .ref w31, .ref w32, .ref w33, .ref w34, .int 0, .int 0, .int 0, .int 0, .ref w35, .ref w36, .ref w37, .ref w38, .ref w39]))]) (hS : va_S A s.heap H locs) (hl : lv_has ls 9 [(5, .int 0), (4, .ref w41), (3, .ref w40), (2, .ref w26), (1, .ref w1), (0, .ref b)])  : W p l e room_1 s m #[Value.ref b] below meth c H locs 41 66559 (lw_Z below #[Value.ref b] s) (F0 m 554 ls []) := by
  obtain ⟨hx, hb, hr, hml, hown, hts, hlocks, hX, hbl, hK, hE, hA, hA2, hbA, hfl⟩ := id C
  refine lv_aload_n hx hb dL_law_554 rfl (lv_at hl 4 rfl) ?_
  refine xc_V (b := w1) (wc := [(w1, .inr (3, [.ref w2, .ref w14, .ref w24, .int 0]))]) (As := []) (rest := []) (wr := [(w26, .inr (4, [.int 0, .int 0, .ref w27, .ref w28, .ref w29, .ref w30, .int 0, .ref w31, .ref w32, .ref w33, .ref w34, .int 0, .int 0, .int 0, .int 0, .ref w35, .ref w36, .ref w37, .ref w38, .ref w39]))]) ⟨hx, hb, hml, hown, hts⟩ (kX3_isExplored_0 l hfl dC dI cI cZ cJ cD w1 w2 w14 w24 _) q367 okX3_isExplored hP hD hK hE hS hA [0] [1] rfl rfl (by decide) (by decide) (by decide) (ci := 3) rfl 0 rfl rfl rfl hl.1 rfl (Nat.le_of_ble_eq_true rfl) ⟨rfl, rfl⟩ ⟨Nat.le_of_ble_eq_true rfl, Nat.le_of_ble_eq_true rfl⟩ ⟨Nat.le_of_ble_eq_true rfl, Nat.le_of_ble_eq_true rfl⟩ dL_law_555 (fun H locs hP hD hS => ?_)
  have hP : va_P (dC, dI) vwCl [(w26, .inr (4, [.int 0, .int 0, .ref w27, .ref w28, .ref w29, .ref w30, .int 0, .ref w31, .ref w32, .ref w33, .ref w34, .int 0, .int 0, .int 0, .int 0, .ref w35, .ref w36, .ref w37, .ref w38, .ref w39])), (w1, .inr (3, [.ref w2, .ref w14, .ref w24, .int 0]))] H := hP
  have hD : va_D A [(w26, .inr (4, [.int 0, .int 0, .ref w27, .ref w28, .ref w29, .ref w30, .int 0, .ref w31, .ref w32, .ref w33, .ref w34, .int 0, .int 0, .int 0, .int 0, .ref w35, .ref w36, .ref w37, .ref w38, .ref w39])), (w1, .inr (3, [.ref w2, .ref w14, .ref w24, .int 0]))] := hD
  refine W.eq (g2 := F0 m 558 ls [.int 0]) rfl ?_
  refine lv_aload_n hx hb dL_law_558 rfl (lv_at hl 3 rfl) ?_
  refine xc_V (b := w26) (wc := [(w26, .inr (4, [.int 0, .int 0, .ref w27, .ref w28, .ref w29, .ref w30, .int 0, .ref w31, .ref w32, .ref w33, .ref w34, .int 0, .int 0, .int 0, .int 0, .ref w35, .ref w36, .ref w37, .ref w38, .ref w39]))]) (As := []) (rest := [.int 0]) (wr := [(w1, .inr (3, [.ref w2, .ref w14, .ref w24, .int 0]))]) ⟨hx, hb, hml, hown, hts⟩ (kX4_isExplored_0 l hfl dC dI cI cZ cJ cD w26 w27 w28 w29 w30 w31 w32 w33 w34 w35 w36 w37 w38 w39 _) q861 okX4_isExplored hP hD hK hE hS hA [0] [1] rfl rfl (by decide) (by decide) (by decide) (ci := 4) rfl 0 rfl rfl rfl hl.1 rfl (Nat.le_of_ble_eq_true rfl) ⟨rfl, rfl⟩ ⟨Nat.le_of_ble_eq_true rfl, Nat.le_of_ble_eq_true rfl⟩ ⟨Nat.le_of_ble_eq_true rfl, Nat.le_of_ble_eq_true rfl⟩ dL_law_559 (fun H locs hP hD hS => ?_)
  have hP : va_P (dC, dI) vwCl [(w1, .inr (3, [.ref w2, .ref w14, .ref w24, .int 0])), (w26, .inr (4, [.int 0, .int 0, .ref w27, .ref w28, .ref w29, .ref w30, .int 0, .ref w31, .ref w32, .ref w33, .ref w34, .int 0, .int 0, .int 0, .int 0, .ref w35, .ref w36, .ref w37, .ref w38, .ref w39]))] H := hP
  have hD : va_D A [(w1, .inr (3, [.ref w2, .ref w14, .ref w24, .int 0])), (w26, .inr (4, [.int 0, .int 0, .ref w27, .ref w28, .ref w29, .ref w30, .int 0, .ref w31, .ref w32, .ref w33, .ref w34, .int 0, .int 0, .int 0, .int 0, .ref w35, .ref w36, .ref w37, .ref w38, .ref w39]))] := hD
  refine W.eq (g2 := F0 m 562 ls [.int 0, .int 0]) rfl ?_
  refine lv_icmp_eq (tgt := 1401) hx hb dL_law_562 (by decide) (fun _ => ?_) (fun h9 => absurd (by decide) h9)
  exact law_tail C hS (lv_sub hl [0, 5] rfl) (Nat.le_of_ble_eq_true rfl) (Nat.le_of_ble_eq_true rfl)
set_option maxHeartbeats 4000000 in
set_option maxRecDepth 100000 in
theorem law_9_0 {p : Program} {l : Launch} {e : Env} {s : State} {m : MethodId} {below : List Frame} {meth : Method} {c : Code} {b : Nat} {xs : Nat → Int32} {A : Nat → Prop} {dC : Nat → ClassId} {dI : Nat → Nat → Nat} {cI cZ cJ cD : ClassId} {w1 w2 w14 w24 w26 w27 w28 w29 w30 w31 w32 w33 w34 w35 w36 w37 w38 w39 w40 w41 : Nat} (C : LC p l s m meth c b xs A dC dI cI cZ cJ cD) {H : Heap} {locs : List Loc} {ls : Array Slot} (hP : va_P (dC, dI) vwCl [(w1, .inr (3, [.ref w2, .ref w14, .ref w24, .int 0])), (w26, .inr (4, [.int 0, .int 0, .ref w27, .ref w28, .ref w29, .ref w30, .int 0, .ref w31, .ref w32, .ref w33, .ref w34, .int 0, .int 0, .int 0, .int 0, .ref w35, .ref w36, .ref w37, .ref w38, .ref w39]))] H) (hD : va_D A [(w1, .inr (3, [.ref w2, .ref w14, .ref w24, .int 0])), (w26, .inr (4, [.int 0, .int 0, .ref w27, .ref w28, .ref w29, .ref w30, .int 0, .ref w31, .ref w32, .ref w33, .ref w34, .int 0, .int 0, .int 0, .int 0, .ref w35, .ref w36, .ref w37, .ref w38, .ref w39]))]) (hS : va_S A s.heap H locs) (hl : lv_has ls 9 [(5, .int 0), (4, .ref w41), (3, .ref w40), (2, .ref w26), (1, .ref w1), (0, .ref b)])  : W p l e room_1 s m #[Value.ref b] below meth c H locs 41 66559 (lw_Z below #[Value.ref b] s) (F0 m 567 ls []) := by
  obtain ⟨hx, hb, hr, hml, hown, hts, hlocks, hX, hbl, hK, hE, hA, hA2, hbA, hfl⟩ := id C
  refine lv_aload_n hx hb dL_law_567 rfl (lv_at hl 4 rfl) ?_
  refine lv_aload_n hx hb dL_law_568 rfl (lv_at hl 2 rfl) ?_
  refine xc_H (wc := [(w1, .inr (3, [.ref w2, .ref w14, .ref w24, .int 0]))]) (As := [.ref w1, .ref w40]) (rest := []) (wr := [(w26, .inr (4, [.int 0, .int 0, .ref w27, .ref w28, .ref w29, .ref w30, .int 0, .ref w31, .ref w32, .ref w33, .ref w34, .int 0, .int 0, .int 0, .int 0, .ref w35, .ref w36, .ref w37, .ref w38, .ref w39]))]) ⟨hx, hb, hml, hown, hts⟩ (kL_isComplete_0 l hfl dC dI cI cZ cJ cD w1 w40 w2 w14 w24 _) q549 okL_isComplete hP hD hK hE hS hA [0] [1] rfl rfl (by decide) (by decide) (by decide) rfl hl.1 rfl (Nat.le_of_ble_eq_true rfl) ⟨rfl, rfl⟩ ⟨Nat.le_of_ble_eq_true rfl, Nat.le_of_ble_eq_true rfl⟩ ⟨Nat.le_of_ble_eq_true rfl, Nat.le_of_ble_eq_true rfl⟩ dL_law_569 (fun H locs hP hD hS => ?_)
  have hP : va_P (dC, dI) vwCl [(w26, .inr (4, [.int 0, .int 0, .ref w27, .ref w28, .ref w29, .ref w30, .int 0, .ref w31, .ref w32, .ref w33, .ref w34, .int 0, .int 0, .int 0, .int 0, .ref w35, .ref w36, .ref w37, .ref w38, .ref w39]))] H := hP
  have hD : va_D A [(w26, .inr (4, [.int 0, .int 0, .ref w27, .ref w28, .ref w29, .ref w30, .int 0, .ref w31, .ref w32, .ref w33, .ref w34, .int 0, .int 0, .int 0, .int 0, .ref w35, .ref w36, .ref w37, .ref w38, .ref w39]))] := hD
  refine W.eq (g2 := F0 m 572 ls [.int 1]) rfl ?_
  refine lv_istore (lv' := [(6, .int 1), (5, .int 0), (4, .ref w41), (3, .ref w40), (2, .ref w26), (1, .ref w1), (0, .ref b)]) hx hb dL_law_572 hl (by decide) rfl (fun ls hl => ?_)
  refine lv_aload_n hx hb dL_law_574 rfl (lv_at hl 4 rfl) ?_
  refine xc_V (b := w26) (wc := [(w26, .inr (4, [.int 0, .int 0, .ref w27, .ref w28, .ref w29, .ref w30, .int 0, .ref w31, .ref w32, .ref w33, .ref w34, .int 0, .int 0, .int 0, .int 0, .ref w35, .ref w36, .ref w37, .ref w38, .ref w39]))]) (As := []) (rest := []) (wr := []) ⟨hx, hb, hml, hown, hts⟩ (kX4_isComplete_0 l hfl dC dI cI cZ cJ cD w26 w27 w28 w29 w30 w31 w32 w33 w34 w35 w36 w37 w38 w39 _) q865 okX4_isComplete hP hD hK hE hS hA [0] [] rfl rfl (by decide) (by decide) (by decide) (ci := 4) rfl 0 rfl rfl rfl hl.1 rfl (Nat.le_of_ble_eq_true rfl) ⟨rfl, rfl⟩ ⟨Nat.le_of_ble_eq_true rfl, Nat.le_of_ble_eq_true rfl⟩ ⟨Nat.le_of_ble_eq_true rfl, Nat.le_of_ble_eq_true rfl⟩ dL_law_575 (fun H locs hP hD hS => ?_)
  have hP : va_P (dC, dI) vwCl [(w26, .inr (4, [.int 1, .int 0, .ref w27, .ref w28, .ref w29, .ref w30, .int 0, .ref w31, .ref w32, .ref w33, .ref w34, .int 0, .int 0, .int 0, .int 0, .ref w35, .ref w36, .ref w37, .ref w38, .ref w39]))] H := hP
  have hD : va_D A [(w26, .inr (4, [.int 1, .int 0, .ref w27, .ref w28, .ref w29, .ref w30, .int 0, .ref w31, .ref w32, .ref w33, .ref w34, .int 0, .int 0, .int 0, .int 0, .ref w35, .ref w36, .ref w37, .ref w38, .ref w39]))] := hD
  refine W.eq (g2 := F0 m 578 ls [.int 0]) rfl ?_
  refine lv_istore (lv' := [(7, .int 0), (6, .int 1), (5, .int 0), (4, .ref w41), (3, .ref w40), (2, .ref w26), (1, .ref w1), (0, .ref b)]) hx hb dL_law_578 hl (by decide) rfl (fun ls hl => ?_)
  refine lv_aload_n hx hb dL_law_580 rfl (lv_at hl 5 rfl) ?_
  refine xc_V (b := w26) (wc := [(w26, .inr (4, [.int 1, .int 0, .ref w27, .ref w28, .ref w29, .ref w30, .int 0, .ref w31, .ref w32, .ref w33, .ref w34, .int 0, .int 0, .int 0, .int 0, .ref w35, .ref w36, .ref w37, .ref w38, .ref w39]))]) (As := []) (rest := []) (wr := []) ⟨hx, hb, hml, hown, hts⟩ (kX4_thrown_0 l hfl dC dI cI cZ cJ cD w26 w27 w28 w29 w30 w31 w32 w33 w34 w35 w36 w37 w38 w39 _) q748 okX4_thrown hP hD hK hE hS hA [0] [] rfl rfl (by decide) (by decide) (by decide) (ci := 4) rfl 0 rfl rfl rfl hl.1 rfl (Nat.le_of_ble_eq_true rfl) ⟨rfl, rfl⟩ ⟨Nat.le_of_ble_eq_true rfl, Nat.le_of_ble_eq_true rfl⟩ ⟨Nat.le_of_ble_eq_true rfl, Nat.le_of_ble_eq_true rfl⟩ dL_law_581 (fun H locs hP hD hS => ?_)
  have hP : va_P (dC, dI) vwCl [(w26, .inr (4, [.int 1, .int 0, .ref w27, .ref w28, .ref w29, .ref w30, .int 0, .ref w31, .ref w32, .ref w33, .ref w34, .int 0, .int 0, .int 0, .int 0, .ref w35, .ref w36, .ref w37, .ref w38, .ref w39]))] H := hP
  have hD : va_D A [(w26, .inr (4, [.int 1, .int 0, .ref w27, .ref w28, .ref w29, .ref w30, .int 0, .ref w31, .ref w32, .ref w33, .ref w34, .int 0, .int 0, .int 0, .int 0, .ref w35, .ref w36, .ref w37, .ref w38, .ref w39]))] := hD
  refine W.eq (g2 := F0 m 584 ls [.int 1]) rfl ?_
  refine lv_iload hx hb dL_law_584 (lv_at hl 1 rfl) ?_
  refine lv_icmp_eq (tgt := 591) hx hb dL_law_586 (by decide) (fun _ => ?_) (fun h9 => absurd (by decide) h9)
  refine lv_iload hx hb dL_law_591 (lv_at hl 1 rfl) ?_
  refine lv_if_ne (tgt := 615) hx hb dL_law_593 (by decide) (fun _ => ?_) (fun h9 => absurd h9 (by decide))
  refine lv_goto (tgt := 1401) hx hb dL_law_615 (by decide) ?_
  exact law_tail C hS (lv_sub hl [2, 7] rfl) (Nat.le_of_ble_eq_true rfl) (Nat.le_of_ble_eq_true rfl)
set_option maxHeartbeats 4000000 in
set_option maxRecDepth 100000 in
theorem law_10_0 {p : Program} {l : Launch} {e : Env} {s : State} {m : MethodId} {below : List Frame} {meth : Method} {c : Code} {b : Nat} {xs : Nat → Int32} {A : Nat → Prop} {dC : Nat → ClassId} {dI : Nat → Nat → Nat} {cI cZ cJ cD : ClassId} {w1 w2 w14 w24 w26 w27 w28 w29 w30 w31 w32 w33 w34 w35 w36 w37 w38 w39 w40 w41 : Nat} (C : LC p l s m meth c b xs A dC dI cI cZ cJ cD) {H : Heap} {locs : List Loc} {ls : Array Slot} (hP : va_P (dC, dI) vwCl [(w1, .inr (3, [.ref w2, .ref w14, .ref w24, .int 0])), (w26, .inr (4, [.int 0, .int 0, .ref w27, .ref w28, .ref w29, .ref w30, .int 0, .ref w31, .ref w32, .ref w33, .ref w34, .int 0, .int 0, .int 0, .int 0, .ref w35, .ref w36, .ref w37, .ref w38, .ref w39]))] H) (hD : va_D A [(w1, .inr (3, [.ref w2, .ref w14, .ref w24, .int 0])), (w26, .inr (4, [.int 0, .int 0, .ref w27, .ref w28, .ref w29, .ref w30, .int 0, .ref w31, .ref w32, .ref w33, .ref w34, .int 0, .int 0, .int 0, .int 0, .ref w35, .ref w36, .ref w37, .ref w38, .ref w39]))]) (hS : va_S A s.heap H locs) (hl : lv_has ls 9 [(5, .int 0), (4, .ref w41), (3, .ref w40), (2, .ref w26), (1, .ref w1), (0, .ref b)])  : W p l e room_1 s m #[Value.ref b] below meth c H locs 41 66559 (lw_Z below #[Value.ref b] s) (F0 m 618 ls []) := by
  obtain ⟨hx, hb, hr, hml, hown, hts, hlocks, hX, hbl, hK, hE, hA, hA2, hbA, hfl⟩ := id C
  refine lv_aload_n hx hb dL_law_618 rfl (lv_at hl 4 rfl) ?_
  refine lv_aload_n hx hb dL_law_619 rfl (lv_at hl 2 rfl) ?_
  refine xc_H (wc := [(w1, .inr (3, [.ref w2, .ref w14, .ref w24, .int 0]))]) (As := [.ref w1, .ref w40]) (rest := []) (wr := [(w26, .inr (4, [.int 0, .int 0, .ref w27, .ref w28, .ref w29, .ref w30, .int 0, .ref w31, .ref w32, .ref w33, .ref w34, .int 0, .int 0, .int 0, .int 0, .ref w35, .ref w36, .ref w37, .ref w38, .ref w39]))]) ⟨hx, hb, hml, hown, hts⟩ (kL_firstCount_0 l hfl dC dI cI cZ cJ cD w1 w40 w2 w14 w24 _) q561 okL_firstCount hP hD hK hE hS hA [0] [1] rfl rfl (by decide) (by decide) (by decide) rfl hl.1 rfl (Nat.le_of_ble_eq_true rfl) ⟨rfl, rfl⟩ ⟨Nat.le_of_ble_eq_true rfl, Nat.le_of_ble_eq_true rfl⟩ ⟨Nat.le_of_ble_eq_true rfl, Nat.le_of_ble_eq_true rfl⟩ dL_law_620 (fun H locs hP hD hS => ?_)
  have hP : va_P (dC, dI) vwCl [(w26, .inr (4, [.int 0, .int 0, .ref w27, .ref w28, .ref w29, .ref w30, .int 0, .ref w31, .ref w32, .ref w33, .ref w34, .int 0, .int 0, .int 0, .int 0, .ref w35, .ref w36, .ref w37, .ref w38, .ref w39]))] H := hP
  have hD : va_D A [(w26, .inr (4, [.int 0, .int 0, .ref w27, .ref w28, .ref w29, .ref w30, .int 0, .ref w31, .ref w32, .ref w33, .ref w34, .int 0, .int 0, .int 0, .int 0, .ref w35, .ref w36, .ref w37, .ref w38, .ref w39]))] := hD
  refine W.eq (g2 := F0 m 623 ls [.int 1]) rfl ?_
  refine lv_istore (lv' := [(6, .int 1), (5, .int 0), (4, .ref w41), (3, .ref w40), (2, .ref w26), (1, .ref w1), (0, .ref b)]) hx hb dL_law_623 hl (by decide) rfl (fun ls hl => ?_)
  refine lv_aload_n hx hb dL_law_625 rfl (lv_at hl 4 rfl) ?_
  refine xc_V (b := w26) (wc := [(w26, .inr (4, [.int 0, .int 0, .ref w27, .ref w28, .ref w29, .ref w30, .int 0, .ref w31, .ref w32, .ref w33, .ref w34, .int 0, .int 0, .int 0, .int 0, .ref w35, .ref w36, .ref w37, .ref w38, .ref w39]))]) (As := []) (rest := []) (wr := []) ⟨hx, hb, hml, hown, hts⟩ (kX4_firstCount_0 l hfl dC dI cI cZ cJ cD w26 w27 w28 w29 w30 w31 w32 w33 w34 w35 w36 w37 w38 w39 _) q873 okX4_firstCount hP hD hK hE hS hA [0] [] rfl rfl (by decide) (by decide) (by decide) (ci := 4) rfl 0 rfl rfl rfl hl.1 rfl (Nat.le_of_ble_eq_true rfl) ⟨rfl, rfl⟩ ⟨Nat.le_of_ble_eq_true rfl, Nat.le_of_ble_eq_true rfl⟩ ⟨Nat.le_of_ble_eq_true rfl, Nat.le_of_ble_eq_true rfl⟩ dL_law_626 (fun H locs hP hD hS => ?_)
  have hP : va_P (dC, dI) vwCl [(w26, .inr (4, [.int 1, .int 0, .ref w27, .ref w28, .ref w29, .ref w30, .int 0, .ref w31, .ref w32, .ref w33, .ref w34, .int 0, .int 0, .int 0, .int 0, .ref w35, .ref w36, .ref w37, .ref w38, .ref w39]))] H := hP
  have hD : va_D A [(w26, .inr (4, [.int 1, .int 0, .ref w27, .ref w28, .ref w29, .ref w30, .int 0, .ref w31, .ref w32, .ref w33, .ref w34, .int 0, .int 0, .int 0, .int 0, .ref w35, .ref w36, .ref w37, .ref w38, .ref w39]))] := hD
  refine W.eq (g2 := F0 m 629 ls [.int 0]) rfl ?_
  refine lv_istore (lv' := [(7, .int 0), (6, .int 1), (5, .int 0), (4, .ref w41), (3, .ref w40), (2, .ref w26), (1, .ref w1), (0, .ref b)]) hx hb dL_law_629 hl (by decide) rfl (fun ls hl => ?_)
  refine lv_aload_n hx hb dL_law_631 rfl (lv_at hl 5 rfl) ?_
  refine xc_V (b := w26) (wc := [(w26, .inr (4, [.int 1, .int 0, .ref w27, .ref w28, .ref w29, .ref w30, .int 0, .ref w31, .ref w32, .ref w33, .ref w34, .int 0, .int 0, .int 0, .int 0, .ref w35, .ref w36, .ref w37, .ref w38, .ref w39]))]) (As := []) (rest := []) (wr := []) ⟨hx, hb, hml, hown, hts⟩ (kX4_thrown_0 l hfl dC dI cI cZ cJ cD w26 w27 w28 w29 w30 w31 w32 w33 w34 w35 w36 w37 w38 w39 _) q748 okX4_thrown hP hD hK hE hS hA [0] [] rfl rfl (by decide) (by decide) (by decide) (ci := 4) rfl 0 rfl rfl rfl hl.1 rfl (Nat.le_of_ble_eq_true rfl) ⟨rfl, rfl⟩ ⟨Nat.le_of_ble_eq_true rfl, Nat.le_of_ble_eq_true rfl⟩ ⟨Nat.le_of_ble_eq_true rfl, Nat.le_of_ble_eq_true rfl⟩ dL_law_632 (fun H locs hP hD hS => ?_)
  have hP : va_P (dC, dI) vwCl [(w26, .inr (4, [.int 1, .int 0, .ref w27, .ref w28, .ref w29, .ref w30, .int 0, .ref w31, .ref w32, .ref w33, .ref w34, .int 0, .int 0, .int 0, .int 0, .ref w35, .ref w36, .ref w37, .ref w38, .ref w39]))] H := hP
  have hD : va_D A [(w26, .inr (4, [.int 1, .int 0, .ref w27, .ref w28, .ref w29, .ref w30, .int 0, .ref w31, .ref w32, .ref w33, .ref w34, .int 0, .int 0, .int 0, .int 0, .ref w35, .ref w36, .ref w37, .ref w38, .ref w39]))] := hD
  refine W.eq (g2 := F0 m 635 ls [.int 1]) rfl ?_
  refine lv_iload hx hb dL_law_635 (lv_at hl 1 rfl) ?_
  refine lv_icmp_eq (tgt := 642) hx hb dL_law_637 (by decide) (fun _ => ?_) (fun h9 => absurd (by decide) h9)
  refine lv_iload hx hb dL_law_642 (lv_at hl 1 rfl) ?_
  refine lv_if_ne (tgt := 659) hx hb dL_law_644 (by decide) (fun _ => ?_) (fun h9 => absurd h9 (by decide))
  refine lv_goto (tgt := 1401) hx hb dL_law_659 (by decide) ?_
  exact law_tail C hS (lv_sub hl [2, 7] rfl) (Nat.le_of_ble_eq_true rfl) (Nat.le_of_ble_eq_true rfl)
set_option maxHeartbeats 4000000 in
set_option maxRecDepth 100000 in
theorem law_11_0 {p : Program} {l : Launch} {e : Env} {s : State} {m : MethodId} {below : List Frame} {meth : Method} {c : Code} {b : Nat} {xs : Nat → Int32} {A : Nat → Prop} {dC : Nat → ClassId} {dI : Nat → Nat → Nat} {cI cZ cJ cD : ClassId} {w1 w2 w14 w24 w26 w27 w28 w29 w30 w31 w32 w33 w34 w35 w36 w37 w38 w39 w40 w41 : Nat} (C : LC p l s m meth c b xs A dC dI cI cZ cJ cD) {H : Heap} {locs : List Loc} {ls : Array Slot} (hP : va_P (dC, dI) vwCl [(w1, .inr (3, [.ref w2, .ref w14, .ref w24, .int 0])), (w26, .inr (4, [.int 0, .int 0, .ref w27, .ref w28, .ref w29, .ref w30, .int 0, .ref w31, .ref w32, .ref w33, .ref w34, .int 0, .int 0, .int 0, .int 0, .ref w35, .ref w36, .ref w37, .ref w38, .ref w39]))] H) (hD : va_D A [(w1, .inr (3, [.ref w2, .ref w14, .ref w24, .int 0])), (w26, .inr (4, [.int 0, .int 0, .ref w27, .ref w28, .ref w29, .ref w30, .int 0, .ref w31, .ref w32, .ref w33, .ref w34, .int 0, .int 0, .int 0, .int 0, .ref w35, .ref w36, .ref w37, .ref w38, .ref w39]))]) (hS : va_S A s.heap H locs) (hl : lv_has ls 9 [(5, .int 0), (4, .ref w41), (3, .ref w40), (2, .ref w26), (1, .ref w1), (0, .ref b)])  : W p l e room_1 s m #[Value.ref b] below meth c H locs 41 66559 (lw_Z below #[Value.ref b] s) (F0 m 662 ls []) := by
  obtain ⟨hx, hb, hr, hml, hown, hts, hlocks, hX, hbl, hK, hE, hA, hA2, hbA, hfl⟩ := id C
  refine lv_aload_n hx hb dL_law_662 rfl (lv_at hl 4 rfl) ?_
  refine lv_aload_n hx hb dL_law_663 rfl (lv_at hl 5 rfl) ?_
  refine lv_iload hx hb dL_law_664 (lv_at hl 0 rfl) ?_
  refine lv_iconst (v := 1) hx hb dL_law_666 (by decide) ?_
  refine lv_iadd hx hb dL_law_667 ?_
  refine tI (v := 1) (by decide +kernel) ?_
  refine va_sld hx hb hX hbl hbA hS (vin (k := 1) (by decide) (by decide +kernel) (by decide)) dL_law_668 ?_
  refine tI (v := xs 1) (congrArg xs (by decide +kernel)) ?_
  refine lv_aload_n hx hb dL_law_669 rfl (lv_at hl 5 rfl) ?_
  refine lv_iload hx hb dL_law_670 (lv_at hl 0 rfl) ?_
  refine lv_iconst (v := 2) hx hb dL_law_672 (by decide) ?_
  refine lv_iadd hx hb dL_law_673 ?_
  refine tI (v := 2) (by decide +kernel) ?_
  refine va_sld hx hb hX hbl hbA hS (vin (k := 2) (by decide) (by decide +kernel) (by decide)) dL_law_674 ?_
  refine tI (v := xs 2) (congrArg xs (by decide +kernel)) ?_
  refine lv_aload_n hx hb dL_law_675 rfl (lv_at hl 2 rfl) ?_
  refine xc_H (wc := [(w1, .inr (3, [.ref w2, .ref w14, .ref w24, .int 0]))]) (As := [.ref w1, .int (xs 1), .int (xs 2), .ref w40]) (rest := []) (wr := [(w26, .inr (4, [.int 0, .int 0, .ref w27, .ref w28, .ref w29, .ref w30, .int 0, .ref w31, .ref w32, .ref w33, .ref w34, .int 0, .int 0, .int 0, .int 0, .ref w35, .ref w36, .ref w37, .ref w38, .ref w39]))]) ⟨hx, hb, hml, hown, hts⟩ (kL_value_0 l hfl dC dI cI cZ cJ cD w1 w40 w2 w14 w24 (xs 1) (xs 2) _) q568 okL_value hP hD hK hE hS hA [0] [1] rfl rfl (by decide) (by decide) (by decide) rfl hl.1 rfl (Nat.le_of_ble_eq_true rfl) ⟨rfl, rfl⟩ ⟨Nat.le_of_ble_eq_true rfl, Nat.le_of_ble_eq_true rfl⟩ ⟨Nat.le_of_ble_eq_true rfl, Nat.le_of_ble_eq_true rfl⟩ dL_law_676 (fun H locs hP hD hS => ?_)
  have hP : va_P (dC, dI) vwCl [(w26, .inr (4, [.int 0, .int 0, .ref w27, .ref w28, .ref w29, .ref w30, .int 0, .ref w31, .ref w32, .ref w33, .ref w34, .int 0, .int 0, .int 0, .int 0, .ref w35, .ref w36, .ref w37, .ref w38, .ref w39]))] H := hP
  have hD : va_D A [(w26, .inr (4, [.int 0, .int 0, .ref w27, .ref w28, .ref w29, .ref w30, .int 0, .ref w31, .ref w32, .ref w33, .ref w34, .int 0, .int 0, .int 0, .int 0, .ref w35, .ref w36, .ref w37, .ref w38, .ref w39]))] := hD
  refine W.eq (g2 := F0 m 679 ls [.int 1]) rfl ?_
  refine lv_istore (lv' := [(6, .int 1), (5, .int 0), (4, .ref w41), (3, .ref w40), (2, .ref w26), (1, .ref w1), (0, .ref b)]) hx hb dL_law_679 hl (by decide) rfl (fun ls hl => ?_)
  refine lv_aload_n hx hb dL_law_681 rfl (lv_at hl 4 rfl) ?_
  refine lv_aload_n hx hb dL_law_682 rfl (lv_at hl 6 rfl) ?_
  refine lv_iload hx hb dL_law_683 (lv_at hl 1 rfl) ?_
  refine lv_iconst (v := 1) hx hb dL_law_685 (by decide) ?_
  refine lv_iadd hx hb dL_law_686 ?_
  refine tI (v := 1) (by decide +kernel) ?_
  refine va_sld hx hb hX hbl hbA hS (vin (k := 1) (by decide) (by decide +kernel) (by decide)) dL_law_687 ?_
  refine tI (v := xs 1) (congrArg xs (by decide +kernel)) ?_
  refine lv_aload_n hx hb dL_law_688 rfl (lv_at hl 6 rfl) ?_
  refine lv_iload hx hb dL_law_689 (lv_at hl 1 rfl) ?_
  refine lv_iconst (v := 2) hx hb dL_law_691 (by decide) ?_
  refine lv_iadd hx hb dL_law_692 ?_
  refine tI (v := 2) (by decide +kernel) ?_
  refine va_sld hx hb hX hbl hbA hS (vin (k := 2) (by decide) (by decide +kernel) (by decide)) dL_law_693 ?_
  refine tI (v := xs 2) (congrArg xs (by decide +kernel)) ?_
  refine xc_V (b := w26) (wc := [(w26, .inr (4, [.int 0, .int 0, .ref w27, .ref w28, .ref w29, .ref w30, .int 0, .ref w31, .ref w32, .ref w33, .ref w34, .int 0, .int 0, .int 0, .int 0, .ref w35, .ref w36, .ref w37, .ref w38, .ref w39]))]) (As := [.int (xs 1), .int (xs 2)]) (rest := []) (wr := []) ⟨hx, hb, hml, hown, hts⟩ (kX4_value_0 l hfl dC dI cI cZ cJ cD w26 w27 w28 w29 w30 w31 w32 w33 w34 w35 w36 w37 w38 w39 (xs 1) (xs 2) _) q877 okX4_value hP hD hK hE hS hA [0] [] rfl rfl (by decide) (by decide) (by decide) (ci := 4) rfl 0 rfl rfl rfl hl.1 rfl (Nat.le_of_ble_eq_true rfl) ⟨rfl, rfl⟩ ⟨Nat.le_of_ble_eq_true rfl, Nat.le_of_ble_eq_true rfl⟩ ⟨Nat.le_of_ble_eq_true rfl, Nat.le_of_ble_eq_true rfl⟩ dL_law_694 (fun H locs hP hD hS => ?_)
  have hP : va_P (dC, dI) vwCl [(w26, .inr (4, [.int 1, .int 0, .ref w27, .ref w28, .ref w29, .ref w30, .int 0, .ref w31, .ref w32, .ref w33, .ref w34, .int 0, .int 0, .int 0, .int 0, .ref w35, .ref w36, .ref w37, .ref w38, .ref w39]))] H := hP
  have hD : va_D A [(w26, .inr (4, [.int 1, .int 0, .ref w27, .ref w28, .ref w29, .ref w30, .int 0, .ref w31, .ref w32, .ref w33, .ref w34, .int 0, .int 0, .int 0, .int 0, .ref w35, .ref w36, .ref w37, .ref w38, .ref w39]))] := hD
  refine W.eq (g2 := F0 m 697 ls [.int 0]) rfl ?_
  refine lv_istore (lv' := [(7, .int 0), (6, .int 1), (5, .int 0), (4, .ref w41), (3, .ref w40), (2, .ref w26), (1, .ref w1), (0, .ref b)]) hx hb dL_law_697 hl (by decide) rfl (fun ls hl => ?_)
  refine lv_aload_n hx hb dL_law_699 rfl (lv_at hl 5 rfl) ?_
  refine xc_V (b := w26) (wc := [(w26, .inr (4, [.int 1, .int 0, .ref w27, .ref w28, .ref w29, .ref w30, .int 0, .ref w31, .ref w32, .ref w33, .ref w34, .int 0, .int 0, .int 0, .int 0, .ref w35, .ref w36, .ref w37, .ref w38, .ref w39]))]) (As := []) (rest := []) (wr := []) ⟨hx, hb, hml, hown, hts⟩ (kX4_thrown_0 l hfl dC dI cI cZ cJ cD w26 w27 w28 w29 w30 w31 w32 w33 w34 w35 w36 w37 w38 w39 _) q748 okX4_thrown hP hD hK hE hS hA [0] [] rfl rfl (by decide) (by decide) (by decide) (ci := 4) rfl 0 rfl rfl rfl hl.1 rfl (Nat.le_of_ble_eq_true rfl) ⟨rfl, rfl⟩ ⟨Nat.le_of_ble_eq_true rfl, Nat.le_of_ble_eq_true rfl⟩ ⟨Nat.le_of_ble_eq_true rfl, Nat.le_of_ble_eq_true rfl⟩ dL_law_700 (fun H locs hP hD hS => ?_)
  have hP : va_P (dC, dI) vwCl [(w26, .inr (4, [.int 1, .int 0, .ref w27, .ref w28, .ref w29, .ref w30, .int 0, .ref w31, .ref w32, .ref w33, .ref w34, .int 0, .int 0, .int 0, .int 0, .ref w35, .ref w36, .ref w37, .ref w38, .ref w39]))] H := hP
  have hD : va_D A [(w26, .inr (4, [.int 1, .int 0, .ref w27, .ref w28, .ref w29, .ref w30, .int 0, .ref w31, .ref w32, .ref w33, .ref w34, .int 0, .int 0, .int 0, .int 0, .ref w35, .ref w36, .ref w37, .ref w38, .ref w39]))] := hD
  refine W.eq (g2 := F0 m 703 ls [.int 1]) rfl ?_
  refine lv_iload hx hb dL_law_703 (lv_at hl 1 rfl) ?_
  refine lv_icmp_eq (tgt := 710) hx hb dL_law_705 (by decide) (fun _ => ?_) (fun h9 => absurd (by decide) h9)
  refine lv_iload hx hb dL_law_710 (lv_at hl 1 rfl) ?_
  refine lv_if_ne (tgt := 727) hx hb dL_law_712 (by decide) (fun _ => ?_) (fun h9 => absurd h9 (by decide))
  refine lv_goto (tgt := 1401) hx hb dL_law_727 (by decide) ?_
  exact law_tail C hS (lv_sub hl [2, 7] rfl) (Nat.le_of_ble_eq_true rfl) (Nat.le_of_ble_eq_true rfl)
set_option maxHeartbeats 4000000 in
set_option maxRecDepth 100000 in
theorem law_12_0 {p : Program} {l : Launch} {e : Env} {s : State} {m : MethodId} {below : List Frame} {meth : Method} {c : Code} {b : Nat} {xs : Nat → Int32} {A : Nat → Prop} {dC : Nat → ClassId} {dI : Nat → Nat → Nat} {cI cZ cJ cD : ClassId} {w1 w2 w14 w24 w26 w27 w28 w29 w30 w31 w32 w33 w34 w35 w36 w37 w38 w39 w40 w41 : Nat} (C : LC p l s m meth c b xs A dC dI cI cZ cJ cD) {H : Heap} {locs : List Loc} {ls : Array Slot} (hP : va_P (dC, dI) vwCl [(w1, .inr (3, [.ref w2, .ref w14, .ref w24, .int 0])), (w26, .inr (4, [.int 0, .int 0, .ref w27, .ref w28, .ref w29, .ref w30, .int 0, .ref w31, .ref w32, .ref w33, .ref w34, .int 0, .int 0, .int 0, .int 0, .ref w35, .ref w36, .ref w37, .ref w38, .ref w39]))] H) (hD : va_D A [(w1, .inr (3, [.ref w2, .ref w14, .ref w24, .int 0])), (w26, .inr (4, [.int 0, .int 0, .ref w27, .ref w28, .ref w29, .ref w30, .int 0, .ref w31, .ref w32, .ref w33, .ref w34, .int 0, .int 0, .int 0, .int 0, .ref w35, .ref w36, .ref w37, .ref w38, .ref w39]))]) (hS : va_S A s.heap H locs) (hl : lv_has ls 9 [(5, .int 0), (4, .ref w41), (3, .ref w40), (2, .ref w26), (1, .ref w1), (0, .ref b)])  : W p l e room_1 s m #[Value.ref b] below meth c H locs 41 66559 (lw_Z below #[Value.ref b] s) (F0 m 730 ls []) := by
  obtain ⟨hx, hb, hr, hml, hown, hts, hlocks, hX, hbl, hK, hE, hA, hA2, hbA, hfl⟩ := id C
  refine lv_aload_n hx hb dL_law_730 rfl (lv_at hl 4 rfl) ?_
  refine lv_aload_n hx hb dL_law_731 rfl (lv_at hl 5 rfl) ?_
  refine lv_iload hx hb dL_law_732 (lv_at hl 0 rfl) ?_
  refine lv_iconst (v := 1) hx hb dL_law_734 (by decide) ?_
  refine lv_iadd hx hb dL_law_735 ?_
  refine tI (v := 1) (by decide +kernel) ?_
  refine va_sld hx hb hX hbl hbA hS (vin (k := 1) (by decide) (by decide +kernel) (by decide)) dL_law_736 ?_
  refine tI (v := xs 1) (congrArg xs (by decide +kernel)) ?_
  refine lv_aload_n hx hb dL_law_737 rfl (lv_at hl 5 rfl) ?_
  refine lv_iload hx hb dL_law_738 (lv_at hl 0 rfl) ?_
  refine lv_iconst (v := 2) hx hb dL_law_740 (by decide) ?_
  refine lv_iadd hx hb dL_law_741 ?_
  refine tI (v := 2) (by decide +kernel) ?_
  refine va_sld hx hb hX hbl hbA hS (vin (k := 2) (by decide) (by decide +kernel) (by decide)) dL_law_742 ?_
  refine tI (v := xs 2) (congrArg xs (by decide +kernel)) ?_
  refine lv_aload_n hx hb dL_law_743 rfl (lv_at hl 2 rfl) ?_
  refine xc_H (wc := [(w1, .inr (3, [.ref w2, .ref w14, .ref w24, .int 0]))]) (As := [.ref w1, .int (xs 1), .int (xs 2), .ref w40]) (rest := []) (wr := [(w26, .inr (4, [.int 0, .int 0, .ref w27, .ref w28, .ref w29, .ref w30, .int 0, .ref w31, .ref w32, .ref w33, .ref w34, .int 0, .int 0, .int 0, .int 0, .ref w35, .ref w36, .ref w37, .ref w38, .ref w39]))]) ⟨hx, hb, hml, hown, hts⟩ (kL_direction_0 l hfl dC dI cI cZ cJ cD w1 w40 w2 w14 w24 (xs 1) (xs 2) _) q580 okL_direction hP hD hK hE hS hA [0] [1] rfl rfl (by decide) (by decide) (by decide) rfl hl.1 rfl (Nat.le_of_ble_eq_true rfl) ⟨rfl, rfl⟩ ⟨Nat.le_of_ble_eq_true rfl, Nat.le_of_ble_eq_true rfl⟩ ⟨Nat.le_of_ble_eq_true rfl, Nat.le_of_ble_eq_true rfl⟩ dL_law_744 (fun H locs hP hD hS => ?_)
  have hP : va_P (dC, dI) vwCl [(w26, .inr (4, [.int 0, .int 0, .ref w27, .ref w28, .ref w29, .ref w30, .int 0, .ref w31, .ref w32, .ref w33, .ref w34, .int 0, .int 0, .int 0, .int 0, .ref w35, .ref w36, .ref w37, .ref w38, .ref w39]))] H := hP
  have hD : va_D A [(w26, .inr (4, [.int 0, .int 0, .ref w27, .ref w28, .ref w29, .ref w30, .int 0, .ref w31, .ref w32, .ref w33, .ref w34, .int 0, .int 0, .int 0, .int 0, .ref w35, .ref w36, .ref w37, .ref w38, .ref w39]))] := hD
  refine W.eq (g2 := F0 m 747 ls [.int 1]) rfl ?_
  refine lv_istore (lv' := [(6, .int 1), (5, .int 0), (4, .ref w41), (3, .ref w40), (2, .ref w26), (1, .ref w1), (0, .ref b)]) hx hb dL_law_747 hl (by decide) rfl (fun ls hl => ?_)
  refine lv_aload_n hx hb dL_law_749 rfl (lv_at hl 4 rfl) ?_
  refine lv_aload_n hx hb dL_law_750 rfl (lv_at hl 6 rfl) ?_
  refine lv_iload hx hb dL_law_751 (lv_at hl 1 rfl) ?_
  refine lv_iconst (v := 1) hx hb dL_law_753 (by decide) ?_
  refine lv_iadd hx hb dL_law_754 ?_
  refine tI (v := 1) (by decide +kernel) ?_
  refine va_sld hx hb hX hbl hbA hS (vin (k := 1) (by decide) (by decide +kernel) (by decide)) dL_law_755 ?_
  refine tI (v := xs 1) (congrArg xs (by decide +kernel)) ?_
  refine lv_aload_n hx hb dL_law_756 rfl (lv_at hl 6 rfl) ?_
  refine lv_iload hx hb dL_law_757 (lv_at hl 1 rfl) ?_
  refine lv_iconst (v := 2) hx hb dL_law_759 (by decide) ?_
  refine lv_iadd hx hb dL_law_760 ?_
  refine tI (v := 2) (by decide +kernel) ?_
  refine va_sld hx hb hX hbl hbA hS (vin (k := 2) (by decide) (by decide +kernel) (by decide)) dL_law_761 ?_
  refine tI (v := xs 2) (congrArg xs (by decide +kernel)) ?_
  refine xc_V (b := w26) (wc := [(w26, .inr (4, [.int 0, .int 0, .ref w27, .ref w28, .ref w29, .ref w30, .int 0, .ref w31, .ref w32, .ref w33, .ref w34, .int 0, .int 0, .int 0, .int 0, .ref w35, .ref w36, .ref w37, .ref w38, .ref w39]))]) (As := [.int (xs 1), .int (xs 2)]) (rest := []) (wr := []) ⟨hx, hb, hml, hown, hts⟩ (kX4_direction_0 l hfl dC dI cI cZ cJ cD w26 w27 w28 w29 w30 w31 w32 w33 w34 w35 w36 w37 w38 w39 (xs 1) (xs 2) _) q885 okX4_direction hP hD hK hE hS hA [0] [] rfl rfl (by decide) (by decide) (by decide) (ci := 4) rfl 0 rfl rfl rfl hl.1 rfl (Nat.le_of_ble_eq_true rfl) ⟨rfl, rfl⟩ ⟨Nat.le_of_ble_eq_true rfl, Nat.le_of_ble_eq_true rfl⟩ ⟨Nat.le_of_ble_eq_true rfl, Nat.le_of_ble_eq_true rfl⟩ dL_law_762 (fun H locs hP hD hS => ?_)
  have hP : va_P (dC, dI) vwCl [(w26, .inr (4, [.int 1, .int 0, .ref w27, .ref w28, .ref w29, .ref w30, .int 0, .ref w31, .ref w32, .ref w33, .ref w34, .int 0, .int 0, .int 0, .int 0, .ref w35, .ref w36, .ref w37, .ref w38, .ref w39]))] H := hP
  have hD : va_D A [(w26, .inr (4, [.int 1, .int 0, .ref w27, .ref w28, .ref w29, .ref w30, .int 0, .ref w31, .ref w32, .ref w33, .ref w34, .int 0, .int 0, .int 0, .int 0, .ref w35, .ref w36, .ref w37, .ref w38, .ref w39]))] := hD
  refine W.eq (g2 := F0 m 765 ls [.int 0]) rfl ?_
  refine lv_istore (lv' := [(7, .int 0), (6, .int 1), (5, .int 0), (4, .ref w41), (3, .ref w40), (2, .ref w26), (1, .ref w1), (0, .ref b)]) hx hb dL_law_765 hl (by decide) rfl (fun ls hl => ?_)
  refine lv_aload_n hx hb dL_law_767 rfl (lv_at hl 5 rfl) ?_
  refine xc_V (b := w26) (wc := [(w26, .inr (4, [.int 1, .int 0, .ref w27, .ref w28, .ref w29, .ref w30, .int 0, .ref w31, .ref w32, .ref w33, .ref w34, .int 0, .int 0, .int 0, .int 0, .ref w35, .ref w36, .ref w37, .ref w38, .ref w39]))]) (As := []) (rest := []) (wr := []) ⟨hx, hb, hml, hown, hts⟩ (kX4_thrown_0 l hfl dC dI cI cZ cJ cD w26 w27 w28 w29 w30 w31 w32 w33 w34 w35 w36 w37 w38 w39 _) q748 okX4_thrown hP hD hK hE hS hA [0] [] rfl rfl (by decide) (by decide) (by decide) (ci := 4) rfl 0 rfl rfl rfl hl.1 rfl (Nat.le_of_ble_eq_true rfl) ⟨rfl, rfl⟩ ⟨Nat.le_of_ble_eq_true rfl, Nat.le_of_ble_eq_true rfl⟩ ⟨Nat.le_of_ble_eq_true rfl, Nat.le_of_ble_eq_true rfl⟩ dL_law_768 (fun H locs hP hD hS => ?_)
  have hP : va_P (dC, dI) vwCl [(w26, .inr (4, [.int 1, .int 0, .ref w27, .ref w28, .ref w29, .ref w30, .int 0, .ref w31, .ref w32, .ref w33, .ref w34, .int 0, .int 0, .int 0, .int 0, .ref w35, .ref w36, .ref w37, .ref w38, .ref w39]))] H := hP
  have hD : va_D A [(w26, .inr (4, [.int 1, .int 0, .ref w27, .ref w28, .ref w29, .ref w30, .int 0, .ref w31, .ref w32, .ref w33, .ref w34, .int 0, .int 0, .int 0, .int 0, .ref w35, .ref w36, .ref w37, .ref w38, .ref w39]))] := hD
  refine W.eq (g2 := F0 m 771 ls [.int 1]) rfl ?_
  refine lv_iload hx hb dL_law_771 (lv_at hl 1 rfl) ?_
  refine lv_icmp_eq (tgt := 778) hx hb dL_law_773 (by decide) (fun _ => ?_) (fun h9 => absurd (by decide) h9)
  refine lv_iload hx hb dL_law_778 (lv_at hl 1 rfl) ?_
  refine lv_if_ne (tgt := 795) hx hb dL_law_780 (by decide) (fun _ => ?_) (fun h9 => absurd h9 (by decide))
  refine lv_goto (tgt := 1401) hx hb dL_law_795 (by decide) ?_
  exact law_tail C hS (lv_sub hl [2, 7] rfl) (Nat.le_of_ble_eq_true rfl) (Nat.le_of_ble_eq_true rfl)
set_option maxHeartbeats 4000000 in
set_option maxRecDepth 100000 in
theorem law_13_0 {p : Program} {l : Launch} {e : Env} {s : State} {m : MethodId} {below : List Frame} {meth : Method} {c : Code} {b : Nat} {xs : Nat → Int32} {A : Nat → Prop} {dC : Nat → ClassId} {dI : Nat → Nat → Nat} {cI cZ cJ cD : ClassId} {w1 w2 w14 w24 w26 w27 w28 w29 w30 w31 w32 w33 w34 w35 w36 w37 w38 w39 w40 w41 : Nat} (C : LC p l s m meth c b xs A dC dI cI cZ cJ cD) {H : Heap} {locs : List Loc} {ls : Array Slot} (hP : va_P (dC, dI) vwCl [(w1, .inr (3, [.ref w2, .ref w14, .ref w24, .int 0])), (w26, .inr (4, [.int 0, .int 0, .ref w27, .ref w28, .ref w29, .ref w30, .int 0, .ref w31, .ref w32, .ref w33, .ref w34, .int 0, .int 0, .int 0, .int 0, .ref w35, .ref w36, .ref w37, .ref w38, .ref w39]))] H) (hD : va_D A [(w1, .inr (3, [.ref w2, .ref w14, .ref w24, .int 0])), (w26, .inr (4, [.int 0, .int 0, .ref w27, .ref w28, .ref w29, .ref w30, .int 0, .ref w31, .ref w32, .ref w33, .ref w34, .int 0, .int 0, .int 0, .int 0, .ref w35, .ref w36, .ref w37, .ref w38, .ref w39]))]) (hS : va_S A s.heap H locs) (hl : lv_has ls 9 [(5, .int 0), (4, .ref w41), (3, .ref w40), (2, .ref w26), (1, .ref w1), (0, .ref b)])  : W p l e room_1 s m #[Value.ref b] below meth c H locs 41 66559 (lw_Z below #[Value.ref b] s) (F0 m 798 ls []) := by
  obtain ⟨hx, hb, hr, hml, hown, hts, hlocks, hX, hbl, hK, hE, hA, hA2, hbA, hfl⟩ := id C
  refine lv_aload_n hx hb dL_law_798 rfl (lv_at hl 4 rfl) ?_
  refine lv_aload_n hx hb dL_law_799 rfl (lv_at hl 5 rfl) ?_
  refine lv_iload hx hb dL_law_800 (lv_at hl 0 rfl) ?_
  refine lv_iconst (v := 1) hx hb dL_law_802 (by decide) ?_
  refine lv_iadd hx hb dL_law_803 ?_
  refine tI (v := 1) (by decide +kernel) ?_
  refine va_sld hx hb hX hbl hbA hS (vin (k := 1) (by decide) (by decide +kernel) (by decide)) dL_law_804 ?_
  refine tI (v := xs 1) (congrArg xs (by decide +kernel)) ?_
  refine lv_aload_n hx hb dL_law_805 rfl (lv_at hl 2 rfl) ?_
  refine xc_H (wc := [(w1, .inr (3, [.ref w2, .ref w14, .ref w24, .int 0]))]) (As := [.ref w1, .int (xs 1), .ref w40]) (rest := []) (wr := [(w26, .inr (4, [.int 0, .int 0, .ref w27, .ref w28, .ref w29, .ref w30, .int 0, .ref w31, .ref w32, .ref w33, .ref w34, .int 0, .int 0, .int 0, .int 0, .ref w35, .ref w36, .ref w37, .ref w38, .ref w39]))]) ⟨hx, hb, hml, hown, hts⟩ (kL_isInstant_0 l hfl dC dI cI cZ cJ cD w1 w40 w2 w14 w24 (xs 1) _) q587 okL_isInstant hP hD hK hE hS hA [0] [1] rfl rfl (by decide) (by decide) (by decide) rfl hl.1 rfl (Nat.le_of_ble_eq_true rfl) ⟨rfl, rfl⟩ ⟨Nat.le_of_ble_eq_true rfl, Nat.le_of_ble_eq_true rfl⟩ ⟨Nat.le_of_ble_eq_true rfl, Nat.le_of_ble_eq_true rfl⟩ dL_law_806 (fun H locs hP hD hS => ?_)
  have hP : va_P (dC, dI) vwCl [(w26, .inr (4, [.int 0, .int 0, .ref w27, .ref w28, .ref w29, .ref w30, .int 0, .ref w31, .ref w32, .ref w33, .ref w34, .int 0, .int 0, .int 0, .int 0, .ref w35, .ref w36, .ref w37, .ref w38, .ref w39]))] H := hP
  have hD : va_D A [(w26, .inr (4, [.int 0, .int 0, .ref w27, .ref w28, .ref w29, .ref w30, .int 0, .ref w31, .ref w32, .ref w33, .ref w34, .int 0, .int 0, .int 0, .int 0, .ref w35, .ref w36, .ref w37, .ref w38, .ref w39]))] := hD
  refine W.eq (g2 := F0 m 809 ls [.int 1]) rfl ?_
  refine lv_istore (lv' := [(6, .int 1), (5, .int 0), (4, .ref w41), (3, .ref w40), (2, .ref w26), (1, .ref w1), (0, .ref b)]) hx hb dL_law_809 hl (by decide) rfl (fun ls hl => ?_)
  refine lv_aload_n hx hb dL_law_811 rfl (lv_at hl 4 rfl) ?_
  refine lv_aload_n hx hb dL_law_812 rfl (lv_at hl 6 rfl) ?_
  refine lv_iload hx hb dL_law_813 (lv_at hl 1 rfl) ?_
  refine lv_iconst (v := 1) hx hb dL_law_815 (by decide) ?_
  refine lv_iadd hx hb dL_law_816 ?_
  refine tI (v := 1) (by decide +kernel) ?_
  refine va_sld hx hb hX hbl hbA hS (vin (k := 1) (by decide) (by decide +kernel) (by decide)) dL_law_817 ?_
  refine tI (v := xs 1) (congrArg xs (by decide +kernel)) ?_
  refine xc_V (b := w26) (wc := [(w26, .inr (4, [.int 0, .int 0, .ref w27, .ref w28, .ref w29, .ref w30, .int 0, .ref w31, .ref w32, .ref w33, .ref w34, .int 0, .int 0, .int 0, .int 0, .ref w35, .ref w36, .ref w37, .ref w38, .ref w39]))]) (As := [.int (xs 1)]) (rest := []) (wr := []) ⟨hx, hb, hml, hown, hts⟩ (kX4_isInstant_0 l hfl dC dI cI cZ cJ cD w26 w27 w28 w29 w30 w31 w32 w33 w34 w35 w36 w37 w38 w39 (xs 1) _) q889 okX4_isInstant hP hD hK hE hS hA [0] [] rfl rfl (by decide) (by decide) (by decide) (ci := 4) rfl 0 rfl rfl rfl hl.1 rfl (Nat.le_of_ble_eq_true rfl) ⟨rfl, rfl⟩ ⟨Nat.le_of_ble_eq_true rfl, Nat.le_of_ble_eq_true rfl⟩ ⟨Nat.le_of_ble_eq_true rfl, Nat.le_of_ble_eq_true rfl⟩ dL_law_818 (fun H locs hP hD hS => ?_)
  have hP : va_P (dC, dI) vwCl [(w26, .inr (4, [.int 1, .int 0, .ref w27, .ref w28, .ref w29, .ref w30, .int 0, .ref w31, .ref w32, .ref w33, .ref w34, .int 0, .int 0, .int 0, .int 0, .ref w35, .ref w36, .ref w37, .ref w38, .ref w39]))] H := hP
  have hD : va_D A [(w26, .inr (4, [.int 1, .int 0, .ref w27, .ref w28, .ref w29, .ref w30, .int 0, .ref w31, .ref w32, .ref w33, .ref w34, .int 0, .int 0, .int 0, .int 0, .ref w35, .ref w36, .ref w37, .ref w38, .ref w39]))] := hD
  refine W.eq (g2 := F0 m 821 ls [.int 0]) rfl ?_
  refine lv_istore (lv' := [(7, .int 0), (6, .int 1), (5, .int 0), (4, .ref w41), (3, .ref w40), (2, .ref w26), (1, .ref w1), (0, .ref b)]) hx hb dL_law_821 hl (by decide) rfl (fun ls hl => ?_)
  refine lv_aload_n hx hb dL_law_823 rfl (lv_at hl 5 rfl) ?_
  refine xc_V (b := w26) (wc := [(w26, .inr (4, [.int 1, .int 0, .ref w27, .ref w28, .ref w29, .ref w30, .int 0, .ref w31, .ref w32, .ref w33, .ref w34, .int 0, .int 0, .int 0, .int 0, .ref w35, .ref w36, .ref w37, .ref w38, .ref w39]))]) (As := []) (rest := []) (wr := []) ⟨hx, hb, hml, hown, hts⟩ (kX4_thrown_0 l hfl dC dI cI cZ cJ cD w26 w27 w28 w29 w30 w31 w32 w33 w34 w35 w36 w37 w38 w39 _) q748 okX4_thrown hP hD hK hE hS hA [0] [] rfl rfl (by decide) (by decide) (by decide) (ci := 4) rfl 0 rfl rfl rfl hl.1 rfl (Nat.le_of_ble_eq_true rfl) ⟨rfl, rfl⟩ ⟨Nat.le_of_ble_eq_true rfl, Nat.le_of_ble_eq_true rfl⟩ ⟨Nat.le_of_ble_eq_true rfl, Nat.le_of_ble_eq_true rfl⟩ dL_law_824 (fun H locs hP hD hS => ?_)
  have hP : va_P (dC, dI) vwCl [(w26, .inr (4, [.int 1, .int 0, .ref w27, .ref w28, .ref w29, .ref w30, .int 0, .ref w31, .ref w32, .ref w33, .ref w34, .int 0, .int 0, .int 0, .int 0, .ref w35, .ref w36, .ref w37, .ref w38, .ref w39]))] H := hP
  have hD : va_D A [(w26, .inr (4, [.int 1, .int 0, .ref w27, .ref w28, .ref w29, .ref w30, .int 0, .ref w31, .ref w32, .ref w33, .ref w34, .int 0, .int 0, .int 0, .int 0, .ref w35, .ref w36, .ref w37, .ref w38, .ref w39]))] := hD
  refine W.eq (g2 := F0 m 827 ls [.int 1]) rfl ?_
  refine lv_iload hx hb dL_law_827 (lv_at hl 1 rfl) ?_
  refine lv_icmp_eq (tgt := 834) hx hb dL_law_829 (by decide) (fun _ => ?_) (fun h9 => absurd (by decide) h9)
  refine lv_iload hx hb dL_law_834 (lv_at hl 1 rfl) ?_
  refine lv_if_ne (tgt := 858) hx hb dL_law_836 (by decide) (fun _ => ?_) (fun h9 => absurd h9 (by decide))
  refine lv_goto (tgt := 1401) hx hb dL_law_858 (by decide) ?_
  exact law_tail C hS (lv_sub hl [2, 7] rfl) (Nat.le_of_ble_eq_true rfl) (Nat.le_of_ble_eq_true rfl)
set_option maxHeartbeats 4000000 in
set_option maxRecDepth 100000 in
theorem law_14_0 {p : Program} {l : Launch} {e : Env} {s : State} {m : MethodId} {below : List Frame} {meth : Method} {c : Code} {b : Nat} {xs : Nat → Int32} {A : Nat → Prop} {dC : Nat → ClassId} {dI : Nat → Nat → Nat} {cI cZ cJ cD : ClassId} {w1 w2 w14 w24 w26 w27 w28 w29 w30 w31 w32 w33 w34 w35 w36 w37 w38 w39 w40 w41 : Nat} (C : LC p l s m meth c b xs A dC dI cI cZ cJ cD) {H : Heap} {locs : List Loc} {ls : Array Slot} (hP : va_P (dC, dI) vwCl [(w1, .inr (3, [.ref w2, .ref w14, .ref w24, .int 0])), (w26, .inr (4, [.int 0, .int 0, .ref w27, .ref w28, .ref w29, .ref w30, .int 0, .ref w31, .ref w32, .ref w33, .ref w34, .int 0, .int 0, .int 0, .int 0, .ref w35, .ref w36, .ref w37, .ref w38, .ref w39]))] H) (hD : va_D A [(w1, .inr (3, [.ref w2, .ref w14, .ref w24, .int 0])), (w26, .inr (4, [.int 0, .int 0, .ref w27, .ref w28, .ref w29, .ref w30, .int 0, .ref w31, .ref w32, .ref w33, .ref w34, .int 0, .int 0, .int 0, .int 0, .ref w35, .ref w36, .ref w37, .ref w38, .ref w39]))]) (hS : va_S A s.heap H locs) (hl : lv_has ls 9 [(5, .int 0), (4, .ref w41), (3, .ref w40), (2, .ref w26), (1, .ref w1), (0, .ref b)])  : W p l e room_1 s m #[Value.ref b] below meth c H locs 41 66559 (lw_Z below #[Value.ref b] s) (F0 m 861 ls []) := by
  obtain ⟨hx, hb, hr, hml, hown, hts, hlocks, hX, hbl, hK, hE, hA, hA2, hbA, hfl⟩ := id C
  refine lv_aload_n hx hb dL_law_861 rfl (lv_at hl 4 rfl) ?_
  refine lv_aload_n hx hb dL_law_862 rfl (lv_at hl 5 rfl) ?_
  refine lv_iload hx hb dL_law_863 (lv_at hl 0 rfl) ?_
  refine lv_iconst (v := 1) hx hb dL_law_865 (by decide) ?_
  refine lv_iadd hx hb dL_law_866 ?_
  refine tI (v := 1) (by decide +kernel) ?_
  refine va_sld hx hb hX hbl hbA hS (vin (k := 1) (by decide) (by decide +kernel) (by decide)) dL_law_867 ?_
  refine tI (v := xs 1) (congrArg xs (by decide +kernel)) ?_
  refine lv_aload_n hx hb dL_law_868 rfl (lv_at hl 2 rfl) ?_
  refine xc_H (wc := [(w1, .inr (3, [.ref w2, .ref w14, .ref w24, .int 0]))]) (As := [.ref w1, .int (xs 1), .ref w40]) (rest := []) (wr := [(w26, .inr (4, [.int 0, .int 0, .ref w27, .ref w28, .ref w29, .ref w30, .int 0, .ref w31, .ref w32, .ref w33, .ref w34, .int 0, .int 0, .int 0, .int 0, .ref w35, .ref w36, .ref w37, .ref w38, .ref w39]))]) ⟨hx, hb, hml, hown, hts⟩ (kL_successorCount_0 l hfl dC dI cI cZ cJ cD w1 w40 w2 w14 w24 (xs 1) _) q594 okL_successorCount hP hD hK hE hS hA [0] [1] rfl rfl (by decide) (by decide) (by decide) rfl hl.1 rfl (Nat.le_of_ble_eq_true rfl) ⟨rfl, rfl⟩ ⟨Nat.le_of_ble_eq_true rfl, Nat.le_of_ble_eq_true rfl⟩ ⟨Nat.le_of_ble_eq_true rfl, Nat.le_of_ble_eq_true rfl⟩ dL_law_869 (fun H locs hP hD hS => ?_)
  have hP : va_P (dC, dI) vwCl [(w26, .inr (4, [.int 0, .int 0, .ref w27, .ref w28, .ref w29, .ref w30, .int 0, .ref w31, .ref w32, .ref w33, .ref w34, .int 0, .int 0, .int 0, .int 0, .ref w35, .ref w36, .ref w37, .ref w38, .ref w39]))] H := hP
  have hD : va_D A [(w26, .inr (4, [.int 0, .int 0, .ref w27, .ref w28, .ref w29, .ref w30, .int 0, .ref w31, .ref w32, .ref w33, .ref w34, .int 0, .int 0, .int 0, .int 0, .ref w35, .ref w36, .ref w37, .ref w38, .ref w39]))] := hD
  refine W.eq (g2 := F0 m 872 ls [.int 1]) rfl ?_
  refine lv_istore (lv' := [(6, .int 1), (5, .int 0), (4, .ref w41), (3, .ref w40), (2, .ref w26), (1, .ref w1), (0, .ref b)]) hx hb dL_law_872 hl (by decide) rfl (fun ls hl => ?_)
  refine lv_aload_n hx hb dL_law_874 rfl (lv_at hl 4 rfl) ?_
  refine lv_aload_n hx hb dL_law_875 rfl (lv_at hl 6 rfl) ?_
  refine lv_iload hx hb dL_law_876 (lv_at hl 1 rfl) ?_
  refine lv_iconst (v := 1) hx hb dL_law_878 (by decide) ?_
  refine lv_iadd hx hb dL_law_879 ?_
  refine tI (v := 1) (by decide +kernel) ?_
  refine va_sld hx hb hX hbl hbA hS (vin (k := 1) (by decide) (by decide +kernel) (by decide)) dL_law_880 ?_
  refine tI (v := xs 1) (congrArg xs (by decide +kernel)) ?_
  refine xc_V (b := w26) (wc := [(w26, .inr (4, [.int 0, .int 0, .ref w27, .ref w28, .ref w29, .ref w30, .int 0, .ref w31, .ref w32, .ref w33, .ref w34, .int 0, .int 0, .int 0, .int 0, .ref w35, .ref w36, .ref w37, .ref w38, .ref w39]))]) (As := [.int (xs 1)]) (rest := []) (wr := []) ⟨hx, hb, hml, hown, hts⟩ (kX4_successorCount_0 l hfl dC dI cI cZ cJ cD w26 w27 w28 w29 w30 w31 w32 w33 w34 w35 w36 w37 w38 w39 (xs 1) _) q893 okX4_successorCount hP hD hK hE hS hA [0] [] rfl rfl (by decide) (by decide) (by decide) (ci := 4) rfl 0 rfl rfl rfl hl.1 rfl (Nat.le_of_ble_eq_true rfl) ⟨rfl, rfl⟩ ⟨Nat.le_of_ble_eq_true rfl, Nat.le_of_ble_eq_true rfl⟩ ⟨Nat.le_of_ble_eq_true rfl, Nat.le_of_ble_eq_true rfl⟩ dL_law_881 (fun H locs hP hD hS => ?_)
  have hP : va_P (dC, dI) vwCl [(w26, .inr (4, [.int 1, .int 0, .ref w27, .ref w28, .ref w29, .ref w30, .int 0, .ref w31, .ref w32, .ref w33, .ref w34, .int 0, .int 0, .int 0, .int 0, .ref w35, .ref w36, .ref w37, .ref w38, .ref w39]))] H := hP
  have hD : va_D A [(w26, .inr (4, [.int 1, .int 0, .ref w27, .ref w28, .ref w29, .ref w30, .int 0, .ref w31, .ref w32, .ref w33, .ref w34, .int 0, .int 0, .int 0, .int 0, .ref w35, .ref w36, .ref w37, .ref w38, .ref w39]))] := hD
  refine W.eq (g2 := F0 m 884 ls [.int 0]) rfl ?_
  refine lv_istore (lv' := [(7, .int 0), (6, .int 1), (5, .int 0), (4, .ref w41), (3, .ref w40), (2, .ref w26), (1, .ref w1), (0, .ref b)]) hx hb dL_law_884 hl (by decide) rfl (fun ls hl => ?_)
  refine lv_aload_n hx hb dL_law_886 rfl (lv_at hl 5 rfl) ?_
  refine xc_V (b := w26) (wc := [(w26, .inr (4, [.int 1, .int 0, .ref w27, .ref w28, .ref w29, .ref w30, .int 0, .ref w31, .ref w32, .ref w33, .ref w34, .int 0, .int 0, .int 0, .int 0, .ref w35, .ref w36, .ref w37, .ref w38, .ref w39]))]) (As := []) (rest := []) (wr := []) ⟨hx, hb, hml, hown, hts⟩ (kX4_thrown_0 l hfl dC dI cI cZ cJ cD w26 w27 w28 w29 w30 w31 w32 w33 w34 w35 w36 w37 w38 w39 _) q748 okX4_thrown hP hD hK hE hS hA [0] [] rfl rfl (by decide) (by decide) (by decide) (ci := 4) rfl 0 rfl rfl rfl hl.1 rfl (Nat.le_of_ble_eq_true rfl) ⟨rfl, rfl⟩ ⟨Nat.le_of_ble_eq_true rfl, Nat.le_of_ble_eq_true rfl⟩ ⟨Nat.le_of_ble_eq_true rfl, Nat.le_of_ble_eq_true rfl⟩ dL_law_887 (fun H locs hP hD hS => ?_)
  have hP : va_P (dC, dI) vwCl [(w26, .inr (4, [.int 1, .int 0, .ref w27, .ref w28, .ref w29, .ref w30, .int 0, .ref w31, .ref w32, .ref w33, .ref w34, .int 0, .int 0, .int 0, .int 0, .ref w35, .ref w36, .ref w37, .ref w38, .ref w39]))] H := hP
  have hD : va_D A [(w26, .inr (4, [.int 1, .int 0, .ref w27, .ref w28, .ref w29, .ref w30, .int 0, .ref w31, .ref w32, .ref w33, .ref w34, .int 0, .int 0, .int 0, .int 0, .ref w35, .ref w36, .ref w37, .ref w38, .ref w39]))] := hD
  refine W.eq (g2 := F0 m 890 ls [.int 1]) rfl ?_
  refine lv_iload hx hb dL_law_890 (lv_at hl 1 rfl) ?_
  refine lv_icmp_eq (tgt := 897) hx hb dL_law_892 (by decide) (fun _ => ?_) (fun h9 => absurd (by decide) h9)
  refine lv_iload hx hb dL_law_897 (lv_at hl 1 rfl) ?_
  refine lv_if_ne (tgt := 914) hx hb dL_law_899 (by decide) (fun _ => ?_) (fun h9 => absurd h9 (by decide))
  refine lv_goto (tgt := 1401) hx hb dL_law_914 (by decide) ?_
  exact law_tail C hS (lv_sub hl [2, 7] rfl) (Nat.le_of_ble_eq_true rfl) (Nat.le_of_ble_eq_true rfl)
set_option maxHeartbeats 4000000 in
set_option maxRecDepth 100000 in
theorem law_15_0 {p : Program} {l : Launch} {e : Env} {s : State} {m : MethodId} {below : List Frame} {meth : Method} {c : Code} {b : Nat} {xs : Nat → Int32} {A : Nat → Prop} {dC : Nat → ClassId} {dI : Nat → Nat → Nat} {cI cZ cJ cD : ClassId} {w1 w2 w14 w24 w26 w27 w28 w29 w30 w31 w32 w33 w34 w35 w36 w37 w38 w39 w40 w41 : Nat} (C : LC p l s m meth c b xs A dC dI cI cZ cJ cD) {H : Heap} {locs : List Loc} {ls : Array Slot} (hP : va_P (dC, dI) vwCl [(w1, .inr (3, [.ref w2, .ref w14, .ref w24, .int 0])), (w26, .inr (4, [.int 0, .int 0, .ref w27, .ref w28, .ref w29, .ref w30, .int 0, .ref w31, .ref w32, .ref w33, .ref w34, .int 0, .int 0, .int 0, .int 0, .ref w35, .ref w36, .ref w37, .ref w38, .ref w39]))] H) (hD : va_D A [(w1, .inr (3, [.ref w2, .ref w14, .ref w24, .int 0])), (w26, .inr (4, [.int 0, .int 0, .ref w27, .ref w28, .ref w29, .ref w30, .int 0, .ref w31, .ref w32, .ref w33, .ref w34, .int 0, .int 0, .int 0, .int 0, .ref w35, .ref w36, .ref w37, .ref w38, .ref w39]))]) (hS : va_S A s.heap H locs) (hl : lv_has ls 9 [(5, .int 0), (4, .ref w41), (3, .ref w40), (2, .ref w26), (1, .ref w1), (0, .ref b)])  : W p l e room_1 s m #[Value.ref b] below meth c H locs 41 66559 (lw_Z below #[Value.ref b] s) (F0 m 917 ls []) := by
  obtain ⟨hx, hb, hr, hml, hown, hts, hlocks, hX, hbl, hK, hE, hA, hA2, hbA, hfl⟩ := id C
  refine lv_aload_n hx hb dL_law_917 rfl (lv_at hl 4 rfl) ?_
  refine lv_aload_n hx hb dL_law_918 rfl (lv_at hl 5 rfl) ?_
  refine lv_iload hx hb dL_law_919 (lv_at hl 0 rfl) ?_
  refine lv_iconst (v := 1) hx hb dL_law_921 (by decide) ?_
  refine lv_iadd hx hb dL_law_922 ?_
  refine tI (v := 1) (by decide +kernel) ?_
  refine va_sld hx hb hX hbl hbA hS (vin (k := 1) (by decide) (by decide +kernel) (by decide)) dL_law_923 ?_
  refine tI (v := xs 1) (congrArg xs (by decide +kernel)) ?_
  refine lv_aload_n hx hb dL_law_924 rfl (lv_at hl 5 rfl) ?_
  refine lv_iload hx hb dL_law_925 (lv_at hl 0 rfl) ?_
  refine lv_iconst (v := 2) hx hb dL_law_927 (by decide) ?_
  refine lv_iadd hx hb dL_law_928 ?_
  refine tI (v := 2) (by decide +kernel) ?_
  refine va_sld hx hb hX hbl hbA hS (vin (k := 2) (by decide) (by decide +kernel) (by decide)) dL_law_929 ?_
  refine tI (v := xs 2) (congrArg xs (by decide +kernel)) ?_
  refine lv_aload_n hx hb dL_law_930 rfl (lv_at hl 2 rfl) ?_
  refine xc_H (wc := [(w1, .inr (3, [.ref w2, .ref w14, .ref w24, .int 0]))]) (As := [.ref w1, .int (xs 1), .int (xs 2), .ref w40]) (rest := []) (wr := [(w26, .inr (4, [.int 0, .int 0, .ref w27, .ref w28, .ref w29, .ref w30, .int 0, .ref w31, .ref w32, .ref w33, .ref w34, .int 0, .int 0, .int 0, .int 0, .ref w35, .ref w36, .ref w37, .ref w38, .ref w39]))]) ⟨hx, hb, hml, hown, hts⟩ (kL_successor_0 l hfl dC dI cI cZ cJ cD w1 w40 w2 w14 w24 (xs 1) (xs 2) _) q601 okL_successor hP hD hK hE hS hA [0] [1] rfl rfl (by decide) (by decide) (by decide) rfl hl.1 rfl (Nat.le_of_ble_eq_true rfl) ⟨rfl, rfl⟩ ⟨Nat.le_of_ble_eq_true rfl, Nat.le_of_ble_eq_true rfl⟩ ⟨Nat.le_of_ble_eq_true rfl, Nat.le_of_ble_eq_true rfl⟩ dL_law_931 (fun H locs hP hD hS => ?_)
  have hP : va_P (dC, dI) vwCl [(w26, .inr (4, [.int 0, .int 0, .ref w27, .ref w28, .ref w29, .ref w30, .int 0, .ref w31, .ref w32, .ref w33, .ref w34, .int 0, .int 0, .int 0, .int 0, .ref w35, .ref w36, .ref w37, .ref w38, .ref w39]))] H := hP
  have hD : va_D A [(w26, .inr (4, [.int 0, .int 0, .ref w27, .ref w28, .ref w29, .ref w30, .int 0, .ref w31, .ref w32, .ref w33, .ref w34, .int 0, .int 0, .int 0, .int 0, .ref w35, .ref w36, .ref w37, .ref w38, .ref w39]))] := hD
  refine W.eq (g2 := F0 m 934 ls [.int 1]) rfl ?_
  refine lv_istore (lv' := [(6, .int 1), (5, .int 0), (4, .ref w41), (3, .ref w40), (2, .ref w26), (1, .ref w1), (0, .ref b)]) hx hb dL_law_934 hl (by decide) rfl (fun ls hl => ?_)
  refine lv_aload_n hx hb dL_law_936 rfl (lv_at hl 4 rfl) ?_
  refine lv_aload_n hx hb dL_law_937 rfl (lv_at hl 6 rfl) ?_
  refine lv_iload hx hb dL_law_938 (lv_at hl 1 rfl) ?_
  refine lv_iconst (v := 1) hx hb dL_law_940 (by decide) ?_
  refine lv_iadd hx hb dL_law_941 ?_
  refine tI (v := 1) (by decide +kernel) ?_
  refine va_sld hx hb hX hbl hbA hS (vin (k := 1) (by decide) (by decide +kernel) (by decide)) dL_law_942 ?_
  refine tI (v := xs 1) (congrArg xs (by decide +kernel)) ?_
  refine lv_aload_n hx hb dL_law_943 rfl (lv_at hl 6 rfl) ?_
  refine lv_iload hx hb dL_law_944 (lv_at hl 1 rfl) ?_
  refine lv_iconst (v := 2) hx hb dL_law_946 (by decide) ?_
  refine lv_iadd hx hb dL_law_947 ?_
  refine tI (v := 2) (by decide +kernel) ?_
  refine va_sld hx hb hX hbl hbA hS (vin (k := 2) (by decide) (by decide +kernel) (by decide)) dL_law_948 ?_
  refine tI (v := xs 2) (congrArg xs (by decide +kernel)) ?_
  refine xc_V (b := w26) (wc := [(w26, .inr (4, [.int 0, .int 0, .ref w27, .ref w28, .ref w29, .ref w30, .int 0, .ref w31, .ref w32, .ref w33, .ref w34, .int 0, .int 0, .int 0, .int 0, .ref w35, .ref w36, .ref w37, .ref w38, .ref w39]))]) (As := [.int (xs 1), .int (xs 2)]) (rest := []) (wr := []) ⟨hx, hb, hml, hown, hts⟩ (kX4_successor_0 l hfl dC dI cI cZ cJ cD w26 w27 w28 w29 w30 w31 w32 w33 w34 w35 w36 w37 w38 w39 (xs 1) (xs 2) _) q901 okX4_successor hP hD hK hE hS hA [0] [] rfl rfl (by decide) (by decide) (by decide) (ci := 4) rfl 0 rfl rfl rfl hl.1 rfl (Nat.le_of_ble_eq_true rfl) ⟨rfl, rfl⟩ ⟨Nat.le_of_ble_eq_true rfl, Nat.le_of_ble_eq_true rfl⟩ ⟨Nat.le_of_ble_eq_true rfl, Nat.le_of_ble_eq_true rfl⟩ dL_law_949 (fun H locs hP hD hS => ?_)
  have hP : va_P (dC, dI) vwCl [(w26, .inr (4, [.int 1, .int 0, .ref w27, .ref w28, .ref w29, .ref w30, .int 0, .ref w31, .ref w32, .ref w33, .ref w34, .int 0, .int 0, .int 0, .int 0, .ref w35, .ref w36, .ref w37, .ref w38, .ref w39]))] H := hP
  have hD : va_D A [(w26, .inr (4, [.int 1, .int 0, .ref w27, .ref w28, .ref w29, .ref w30, .int 0, .ref w31, .ref w32, .ref w33, .ref w34, .int 0, .int 0, .int 0, .int 0, .ref w35, .ref w36, .ref w37, .ref w38, .ref w39]))] := hD
  refine W.eq (g2 := F0 m 952 ls [.int 0]) rfl ?_
  refine lv_istore (lv' := [(7, .int 0), (6, .int 1), (5, .int 0), (4, .ref w41), (3, .ref w40), (2, .ref w26), (1, .ref w1), (0, .ref b)]) hx hb dL_law_952 hl (by decide) rfl (fun ls hl => ?_)
  refine lv_aload_n hx hb dL_law_954 rfl (lv_at hl 5 rfl) ?_
  refine xc_V (b := w26) (wc := [(w26, .inr (4, [.int 1, .int 0, .ref w27, .ref w28, .ref w29, .ref w30, .int 0, .ref w31, .ref w32, .ref w33, .ref w34, .int 0, .int 0, .int 0, .int 0, .ref w35, .ref w36, .ref w37, .ref w38, .ref w39]))]) (As := []) (rest := []) (wr := []) ⟨hx, hb, hml, hown, hts⟩ (kX4_thrown_0 l hfl dC dI cI cZ cJ cD w26 w27 w28 w29 w30 w31 w32 w33 w34 w35 w36 w37 w38 w39 _) q748 okX4_thrown hP hD hK hE hS hA [0] [] rfl rfl (by decide) (by decide) (by decide) (ci := 4) rfl 0 rfl rfl rfl hl.1 rfl (Nat.le_of_ble_eq_true rfl) ⟨rfl, rfl⟩ ⟨Nat.le_of_ble_eq_true rfl, Nat.le_of_ble_eq_true rfl⟩ ⟨Nat.le_of_ble_eq_true rfl, Nat.le_of_ble_eq_true rfl⟩ dL_law_955 (fun H locs hP hD hS => ?_)
  have hP : va_P (dC, dI) vwCl [(w26, .inr (4, [.int 1, .int 0, .ref w27, .ref w28, .ref w29, .ref w30, .int 0, .ref w31, .ref w32, .ref w33, .ref w34, .int 0, .int 0, .int 0, .int 0, .ref w35, .ref w36, .ref w37, .ref w38, .ref w39]))] H := hP
  have hD : va_D A [(w26, .inr (4, [.int 1, .int 0, .ref w27, .ref w28, .ref w29, .ref w30, .int 0, .ref w31, .ref w32, .ref w33, .ref w34, .int 0, .int 0, .int 0, .int 0, .ref w35, .ref w36, .ref w37, .ref w38, .ref w39]))] := hD
  refine W.eq (g2 := F0 m 958 ls [.int 1]) rfl ?_
  refine lv_iload hx hb dL_law_958 (lv_at hl 1 rfl) ?_
  refine lv_icmp_eq (tgt := 965) hx hb dL_law_960 (by decide) (fun _ => ?_) (fun h9 => absurd (by decide) h9)
  refine lv_iload hx hb dL_law_965 (lv_at hl 1 rfl) ?_
  refine lv_if_ne (tgt := 982) hx hb dL_law_967 (by decide) (fun _ => ?_) (fun h9 => absurd h9 (by decide))
  refine lv_goto (tgt := 1401) hx hb dL_law_982 (by decide) ?_
  exact law_tail C hS (lv_sub hl [2, 7] rfl) (Nat.le_of_ble_eq_true rfl) (Nat.le_of_ble_eq_true rfl)
set_option maxHeartbeats 4000000 in
set_option maxRecDepth 100000 in
theorem law_16_0 {p : Program} {l : Launch} {e : Env} {s : State} {m : MethodId} {below : List Frame} {meth : Method} {c : Code} {b : Nat} {xs : Nat → Int32} {A : Nat → Prop} {dC : Nat → ClassId} {dI : Nat → Nat → Nat} {cI cZ cJ cD : ClassId} {w1 w2 w14 w24 w26 w27 w28 w29 w30 w31 w32 w33 w34 w35 w36 w37 w38 w39 w40 w41 : Nat} (C : LC p l s m meth c b xs A dC dI cI cZ cJ cD) {H : Heap} {locs : List Loc} {ls : Array Slot} (hP : va_P (dC, dI) vwCl [(w1, .inr (3, [.ref w2, .ref w14, .ref w24, .int 0])), (w26, .inr (4, [.int 0, .int 0, .ref w27, .ref w28, .ref w29, .ref w30, .int 0, .ref w31, .ref w32, .ref w33, .ref w34, .int 0, .int 0, .int 0, .int 0, .ref w35, .ref w36, .ref w37, .ref w38, .ref w39]))] H) (hD : va_D A [(w1, .inr (3, [.ref w2, .ref w14, .ref w24, .int 0])), (w26, .inr (4, [.int 0, .int 0, .ref w27, .ref w28, .ref w29, .ref w30, .int 0, .ref w31, .ref w32, .ref w33, .ref w34, .int 0, .int 0, .int 0, .int 0, .ref w35, .ref w36, .ref w37, .ref w38, .ref w39]))]) (hS : va_S A s.heap H locs) (hl : lv_has ls 9 [(5, .int 0), (4, .ref w41), (3, .ref w40), (2, .ref w26), (1, .ref w1), (0, .ref b)])  : W p l e room_1 s m #[Value.ref b] below meth c H locs 41 66559 (lw_Z below #[Value.ref b] s) (F0 m 985 ls []) := by
  obtain ⟨hx, hb, hr, hml, hown, hts, hlocks, hX, hbl, hK, hE, hA, hA2, hbA, hfl⟩ := id C
  refine lv_aload_n hx hb dL_law_985 rfl (lv_at hl 4 rfl) ?_
  refine lv_aload_n hx hb dL_law_986 rfl (lv_at hl 5 rfl) ?_
  refine lv_iload hx hb dL_law_987 (lv_at hl 0 rfl) ?_
  refine lv_iconst (v := 1) hx hb dL_law_989 (by decide) ?_
  refine lv_iadd hx hb dL_law_990 ?_
  refine tI (v := 1) (by decide +kernel) ?_
  refine va_sld hx hb hX hbl hbA hS (vin (k := 1) (by decide) (by decide +kernel) (by decide)) dL_law_991 ?_
  refine tI (v := xs 1) (congrArg xs (by decide +kernel)) ?_
  refine lv_aload_n hx hb dL_law_992 rfl (lv_at hl 2 rfl) ?_
  refine xc_H (wc := [(w1, .inr (3, [.ref w2, .ref w14, .ref w24, .int 0]))]) (As := [.ref w1, .int (xs 1), .ref w40]) (rest := []) (wr := [(w26, .inr (4, [.int 0, .int 0, .ref w27, .ref w28, .ref w29, .ref w30, .int 0, .ref w31, .ref w32, .ref w33, .ref w34, .int 0, .int 0, .int 0, .int 0, .ref w35, .ref w36, .ref w37, .ref w38, .ref w39]))]) ⟨hx, hb, hml, hown, hts⟩ (kL_distance_0 l hfl dC dI cI cZ cJ cD w1 w40 w2 w14 w24 (xs 1) _) q609 okL_distance hP hD hK hE hS hA [0] [1] rfl rfl (by decide) (by decide) (by decide) rfl hl.1 rfl (Nat.le_of_ble_eq_true rfl) ⟨rfl, rfl⟩ ⟨Nat.le_of_ble_eq_true rfl, Nat.le_of_ble_eq_true rfl⟩ ⟨Nat.le_of_ble_eq_true rfl, Nat.le_of_ble_eq_true rfl⟩ dL_law_993 (fun H locs hP hD hS => ?_)
  have hP : va_P (dC, dI) vwCl [(w26, .inr (4, [.int 0, .int 0, .ref w27, .ref w28, .ref w29, .ref w30, .int 0, .ref w31, .ref w32, .ref w33, .ref w34, .int 0, .int 0, .int 0, .int 0, .ref w35, .ref w36, .ref w37, .ref w38, .ref w39]))] H := hP
  have hD : va_D A [(w26, .inr (4, [.int 0, .int 0, .ref w27, .ref w28, .ref w29, .ref w30, .int 0, .ref w31, .ref w32, .ref w33, .ref w34, .int 0, .int 0, .int 0, .int 0, .ref w35, .ref w36, .ref w37, .ref w38, .ref w39]))] := hD
  refine W.eq (g2 := F0 m 996 ls [.int 1]) rfl ?_
  refine lv_istore (lv' := [(6, .int 1), (5, .int 0), (4, .ref w41), (3, .ref w40), (2, .ref w26), (1, .ref w1), (0, .ref b)]) hx hb dL_law_996 hl (by decide) rfl (fun ls hl => ?_)
  refine lv_aload_n hx hb dL_law_998 rfl (lv_at hl 4 rfl) ?_
  refine lv_aload_n hx hb dL_law_999 rfl (lv_at hl 6 rfl) ?_
  refine lv_iload hx hb dL_law_1000 (lv_at hl 1 rfl) ?_
  refine lv_iconst (v := 1) hx hb dL_law_1002 (by decide) ?_
  refine lv_iadd hx hb dL_law_1003 ?_
  refine tI (v := 1) (by decide +kernel) ?_
  refine va_sld hx hb hX hbl hbA hS (vin (k := 1) (by decide) (by decide +kernel) (by decide)) dL_law_1004 ?_
  refine tI (v := xs 1) (congrArg xs (by decide +kernel)) ?_
  refine xc_V (b := w26) (wc := [(w26, .inr (4, [.int 0, .int 0, .ref w27, .ref w28, .ref w29, .ref w30, .int 0, .ref w31, .ref w32, .ref w33, .ref w34, .int 0, .int 0, .int 0, .int 0, .ref w35, .ref w36, .ref w37, .ref w38, .ref w39]))]) (As := [.int (xs 1)]) (rest := []) (wr := []) ⟨hx, hb, hml, hown, hts⟩ (kX4_distance_0 l hfl dC dI cI cZ cJ cD w26 w27 w28 w29 w30 w31 w32 w33 w34 w35 w36 w37 w38 w39 (xs 1) _) q905 okX4_distance hP hD hK hE hS hA [0] [] rfl rfl (by decide) (by decide) (by decide) (ci := 4) rfl 0 rfl rfl rfl hl.1 rfl (Nat.le_of_ble_eq_true rfl) ⟨rfl, rfl⟩ ⟨Nat.le_of_ble_eq_true rfl, Nat.le_of_ble_eq_true rfl⟩ ⟨Nat.le_of_ble_eq_true rfl, Nat.le_of_ble_eq_true rfl⟩ dL_law_1005 (fun H locs hP hD hS => ?_)
  have hP : va_P (dC, dI) vwCl [(w26, .inr (4, [.int 1, .int 0, .ref w27, .ref w28, .ref w29, .ref w30, .int 0, .ref w31, .ref w32, .ref w33, .ref w34, .int 0, .int 0, .int 0, .int 0, .ref w35, .ref w36, .ref w37, .ref w38, .ref w39]))] H := hP
  have hD : va_D A [(w26, .inr (4, [.int 1, .int 0, .ref w27, .ref w28, .ref w29, .ref w30, .int 0, .ref w31, .ref w32, .ref w33, .ref w34, .int 0, .int 0, .int 0, .int 0, .ref w35, .ref w36, .ref w37, .ref w38, .ref w39]))] := hD
  refine W.eq (g2 := F0 m 1008 ls [.int 0]) rfl ?_
  refine lv_istore (lv' := [(7, .int 0), (6, .int 1), (5, .int 0), (4, .ref w41), (3, .ref w40), (2, .ref w26), (1, .ref w1), (0, .ref b)]) hx hb dL_law_1008 hl (by decide) rfl (fun ls hl => ?_)
  refine lv_aload_n hx hb dL_law_1010 rfl (lv_at hl 5 rfl) ?_
  refine xc_V (b := w26) (wc := [(w26, .inr (4, [.int 1, .int 0, .ref w27, .ref w28, .ref w29, .ref w30, .int 0, .ref w31, .ref w32, .ref w33, .ref w34, .int 0, .int 0, .int 0, .int 0, .ref w35, .ref w36, .ref w37, .ref w38, .ref w39]))]) (As := []) (rest := []) (wr := []) ⟨hx, hb, hml, hown, hts⟩ (kX4_thrown_0 l hfl dC dI cI cZ cJ cD w26 w27 w28 w29 w30 w31 w32 w33 w34 w35 w36 w37 w38 w39 _) q748 okX4_thrown hP hD hK hE hS hA [0] [] rfl rfl (by decide) (by decide) (by decide) (ci := 4) rfl 0 rfl rfl rfl hl.1 rfl (Nat.le_of_ble_eq_true rfl) ⟨rfl, rfl⟩ ⟨Nat.le_of_ble_eq_true rfl, Nat.le_of_ble_eq_true rfl⟩ ⟨Nat.le_of_ble_eq_true rfl, Nat.le_of_ble_eq_true rfl⟩ dL_law_1011 (fun H locs hP hD hS => ?_)
  have hP : va_P (dC, dI) vwCl [(w26, .inr (4, [.int 1, .int 0, .ref w27, .ref w28, .ref w29, .ref w30, .int 0, .ref w31, .ref w32, .ref w33, .ref w34, .int 0, .int 0, .int 0, .int 0, .ref w35, .ref w36, .ref w37, .ref w38, .ref w39]))] H := hP
  have hD : va_D A [(w26, .inr (4, [.int 1, .int 0, .ref w27, .ref w28, .ref w29, .ref w30, .int 0, .ref w31, .ref w32, .ref w33, .ref w34, .int 0, .int 0, .int 0, .int 0, .ref w35, .ref w36, .ref w37, .ref w38, .ref w39]))] := hD
  refine W.eq (g2 := F0 m 1014 ls [.int 1]) rfl ?_
  refine lv_iload hx hb dL_law_1014 (lv_at hl 1 rfl) ?_
  refine lv_icmp_eq (tgt := 1021) hx hb dL_law_1016 (by decide) (fun _ => ?_) (fun h9 => absurd (by decide) h9)
  refine lv_iload hx hb dL_law_1021 (lv_at hl 1 rfl) ?_
  refine lv_if_ne (tgt := 1038) hx hb dL_law_1023 (by decide) (fun _ => ?_) (fun h9 => absurd h9 (by decide))
  refine lv_goto (tgt := 1401) hx hb dL_law_1038 (by decide) ?_
  exact law_tail C hS (lv_sub hl [2, 7] rfl) (Nat.le_of_ble_eq_true rfl) (Nat.le_of_ble_eq_true rfl)
set_option maxHeartbeats 4000000 in
set_option maxRecDepth 100000 in
theorem law_17_0 {p : Program} {l : Launch} {e : Env} {s : State} {m : MethodId} {below : List Frame} {meth : Method} {c : Code} {b : Nat} {xs : Nat → Int32} {A : Nat → Prop} {dC : Nat → ClassId} {dI : Nat → Nat → Nat} {cI cZ cJ cD : ClassId} {w1 w2 w14 w24 w26 w27 w28 w29 w30 w31 w32 w33 w34 w35 w36 w37 w38 w39 w40 w41 : Nat} (C : LC p l s m meth c b xs A dC dI cI cZ cJ cD) {H : Heap} {locs : List Loc} {ls : Array Slot} (hP : va_P (dC, dI) vwCl [(w1, .inr (3, [.ref w2, .ref w14, .ref w24, .int 0])), (w26, .inr (4, [.int 0, .int 0, .ref w27, .ref w28, .ref w29, .ref w30, .int 0, .ref w31, .ref w32, .ref w33, .ref w34, .int 0, .int 0, .int 0, .int 0, .ref w35, .ref w36, .ref w37, .ref w38, .ref w39]))] H) (hD : va_D A [(w1, .inr (3, [.ref w2, .ref w14, .ref w24, .int 0])), (w26, .inr (4, [.int 0, .int 0, .ref w27, .ref w28, .ref w29, .ref w30, .int 0, .ref w31, .ref w32, .ref w33, .ref w34, .int 0, .int 0, .int 0, .int 0, .ref w35, .ref w36, .ref w37, .ref w38, .ref w39]))]) (hS : va_S A s.heap H locs) (hl : lv_has ls 9 [(5, .int 0), (4, .ref w41), (3, .ref w40), (2, .ref w26), (1, .ref w1), (0, .ref b)])  : W p l e room_1 s m #[Value.ref b] below meth c H locs 41 66559 (lw_Z below #[Value.ref b] s) (F0 m 1041 ls []) := by
  obtain ⟨hx, hb, hr, hml, hown, hts, hlocks, hX, hbl, hK, hE, hA, hA2, hbA, hfl⟩ := id C
  refine lv_aload_n hx hb dL_law_1041 rfl (lv_at hl 4 rfl) ?_
  refine lv_aload_n hx hb dL_law_1042 rfl (lv_at hl 5 rfl) ?_
  refine lv_iload hx hb dL_law_1043 (lv_at hl 0 rfl) ?_
  refine lv_iconst (v := 1) hx hb dL_law_1045 (by decide) ?_
  refine lv_iadd hx hb dL_law_1046 ?_
  refine tI (v := 1) (by decide +kernel) ?_
  refine va_sld hx hb hX hbl hbA hS (vin (k := 1) (by decide) (by decide +kernel) (by decide)) dL_law_1047 ?_
  refine tI (v := xs 1) (congrArg xs (by decide +kernel)) ?_
  refine lv_aload_n hx hb dL_law_1048 rfl (lv_at hl 2 rfl) ?_
  refine xc_H (wc := [(w1, .inr (3, [.ref w2, .ref w14, .ref w24, .int 0]))]) (As := [.ref w1, .int (xs 1), .ref w40]) (rest := []) (wr := [(w26, .inr (4, [.int 0, .int 0, .ref w27, .ref w28, .ref w29, .ref w30, .int 0, .ref w31, .ref w32, .ref w33, .ref w34, .int 0, .int 0, .int 0, .int 0, .ref w35, .ref w36, .ref w37, .ref w38, .ref w39]))]) ⟨hx, hb, hml, hown, hts⟩ (kL_isAtRest_0 l hfl dC dI cI cZ cJ cD w1 w40 w2 w14 w24 (xs 1) _) q616 okL_isAtRest hP hD hK hE hS hA [0] [1] rfl rfl (by decide) (by decide) (by decide) rfl hl.1 rfl (Nat.le_of_ble_eq_true rfl) ⟨rfl, rfl⟩ ⟨Nat.le_of_ble_eq_true rfl, Nat.le_of_ble_eq_true rfl⟩ ⟨Nat.le_of_ble_eq_true rfl, Nat.le_of_ble_eq_true rfl⟩ dL_law_1049 (fun H locs hP hD hS => ?_)
  have hP : va_P (dC, dI) vwCl [(w26, .inr (4, [.int 0, .int 0, .ref w27, .ref w28, .ref w29, .ref w30, .int 0, .ref w31, .ref w32, .ref w33, .ref w34, .int 0, .int 0, .int 0, .int 0, .ref w35, .ref w36, .ref w37, .ref w38, .ref w39]))] H := hP
  have hD : va_D A [(w26, .inr (4, [.int 0, .int 0, .ref w27, .ref w28, .ref w29, .ref w30, .int 0, .ref w31, .ref w32, .ref w33, .ref w34, .int 0, .int 0, .int 0, .int 0, .ref w35, .ref w36, .ref w37, .ref w38, .ref w39]))] := hD
  refine W.eq (g2 := F0 m 1052 ls [.int 1]) rfl ?_
  refine lv_istore (lv' := [(6, .int 1), (5, .int 0), (4, .ref w41), (3, .ref w40), (2, .ref w26), (1, .ref w1), (0, .ref b)]) hx hb dL_law_1052 hl (by decide) rfl (fun ls hl => ?_)
  refine lv_aload_n hx hb dL_law_1054 rfl (lv_at hl 4 rfl) ?_
  refine lv_aload_n hx hb dL_law_1055 rfl (lv_at hl 6 rfl) ?_
  refine lv_iload hx hb dL_law_1056 (lv_at hl 1 rfl) ?_
  refine lv_iconst (v := 1) hx hb dL_law_1058 (by decide) ?_
  refine lv_iadd hx hb dL_law_1059 ?_
  refine tI (v := 1) (by decide +kernel) ?_
  refine va_sld hx hb hX hbl hbA hS (vin (k := 1) (by decide) (by decide +kernel) (by decide)) dL_law_1060 ?_
  refine tI (v := xs 1) (congrArg xs (by decide +kernel)) ?_
  refine xc_V (b := w26) (wc := [(w26, .inr (4, [.int 0, .int 0, .ref w27, .ref w28, .ref w29, .ref w30, .int 0, .ref w31, .ref w32, .ref w33, .ref w34, .int 0, .int 0, .int 0, .int 0, .ref w35, .ref w36, .ref w37, .ref w38, .ref w39]))]) (As := [.int (xs 1)]) (rest := []) (wr := []) ⟨hx, hb, hml, hown, hts⟩ (kX4_isAtRest_0 l hfl dC dI cI cZ cJ cD w26 w27 w28 w29 w30 w31 w32 w33 w34 w35 w36 w37 w38 w39 (xs 1) _) q909 okX4_isAtRest hP hD hK hE hS hA [0] [] rfl rfl (by decide) (by decide) (by decide) (ci := 4) rfl 0 rfl rfl rfl hl.1 rfl (Nat.le_of_ble_eq_true rfl) ⟨rfl, rfl⟩ ⟨Nat.le_of_ble_eq_true rfl, Nat.le_of_ble_eq_true rfl⟩ ⟨Nat.le_of_ble_eq_true rfl, Nat.le_of_ble_eq_true rfl⟩ dL_law_1061 (fun H locs hP hD hS => ?_)
  have hP : va_P (dC, dI) vwCl [(w26, .inr (4, [.int 1, .int 0, .ref w27, .ref w28, .ref w29, .ref w30, .int 0, .ref w31, .ref w32, .ref w33, .ref w34, .int 0, .int 0, .int 0, .int 0, .ref w35, .ref w36, .ref w37, .ref w38, .ref w39]))] H := hP
  have hD : va_D A [(w26, .inr (4, [.int 1, .int 0, .ref w27, .ref w28, .ref w29, .ref w30, .int 0, .ref w31, .ref w32, .ref w33, .ref w34, .int 0, .int 0, .int 0, .int 0, .ref w35, .ref w36, .ref w37, .ref w38, .ref w39]))] := hD
  refine W.eq (g2 := F0 m 1064 ls [.int 0]) rfl ?_
  refine lv_istore (lv' := [(7, .int 0), (6, .int 1), (5, .int 0), (4, .ref w41), (3, .ref w40), (2, .ref w26), (1, .ref w1), (0, .ref b)]) hx hb dL_law_1064 hl (by decide) rfl (fun ls hl => ?_)
  refine lv_aload_n hx hb dL_law_1066 rfl (lv_at hl 5 rfl) ?_
  refine xc_V (b := w26) (wc := [(w26, .inr (4, [.int 1, .int 0, .ref w27, .ref w28, .ref w29, .ref w30, .int 0, .ref w31, .ref w32, .ref w33, .ref w34, .int 0, .int 0, .int 0, .int 0, .ref w35, .ref w36, .ref w37, .ref w38, .ref w39]))]) (As := []) (rest := []) (wr := []) ⟨hx, hb, hml, hown, hts⟩ (kX4_thrown_0 l hfl dC dI cI cZ cJ cD w26 w27 w28 w29 w30 w31 w32 w33 w34 w35 w36 w37 w38 w39 _) q748 okX4_thrown hP hD hK hE hS hA [0] [] rfl rfl (by decide) (by decide) (by decide) (ci := 4) rfl 0 rfl rfl rfl hl.1 rfl (Nat.le_of_ble_eq_true rfl) ⟨rfl, rfl⟩ ⟨Nat.le_of_ble_eq_true rfl, Nat.le_of_ble_eq_true rfl⟩ ⟨Nat.le_of_ble_eq_true rfl, Nat.le_of_ble_eq_true rfl⟩ dL_law_1067 (fun H locs hP hD hS => ?_)
  have hP : va_P (dC, dI) vwCl [(w26, .inr (4, [.int 1, .int 0, .ref w27, .ref w28, .ref w29, .ref w30, .int 0, .ref w31, .ref w32, .ref w33, .ref w34, .int 0, .int 0, .int 0, .int 0, .ref w35, .ref w36, .ref w37, .ref w38, .ref w39]))] H := hP
  have hD : va_D A [(w26, .inr (4, [.int 1, .int 0, .ref w27, .ref w28, .ref w29, .ref w30, .int 0, .ref w31, .ref w32, .ref w33, .ref w34, .int 0, .int 0, .int 0, .int 0, .ref w35, .ref w36, .ref w37, .ref w38, .ref w39]))] := hD
  refine W.eq (g2 := F0 m 1070 ls [.int 1]) rfl ?_
  refine lv_iload hx hb dL_law_1070 (lv_at hl 1 rfl) ?_
  refine lv_icmp_eq (tgt := 1077) hx hb dL_law_1072 (by decide) (fun _ => ?_) (fun h9 => absurd (by decide) h9)
  refine lv_iload hx hb dL_law_1077 (lv_at hl 1 rfl) ?_
  refine lv_if_ne (tgt := 1101) hx hb dL_law_1079 (by decide) (fun _ => ?_) (fun h9 => absurd h9 (by decide))
  refine lv_goto (tgt := 1401) hx hb dL_law_1101 (by decide) ?_
  exact law_tail C hS (lv_sub hl [2, 7] rfl) (Nat.le_of_ble_eq_true rfl) (Nat.le_of_ble_eq_true rfl)
