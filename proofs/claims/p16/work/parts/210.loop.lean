set_option maxRecDepth 100000 in
theorem pool_sz (cJ : ClassId) (f : Nat → Int64) : (vp_cell cJ (250, .inr (.inl f))).slots.size = 250 := by
  have h : ∀ n : Nat, (vp_cell cJ (n, .inr (.inl f))).slots.size = n := fun n => arrV_size cJ n _
  exact h 250
theorem nI_c5 : Int32.ofInt 5 = nI 5 := by decide +kernel
/-- the pool as a list of addresses -/
theorem pool_end {s : State} {t : State} {A : Nat → Prop} {D : va_G} {cJ : ClassId} {PL : List (Nat × (Nat → Int64))} (hP : va_P D vwCl (pool cJ PL) t.heap) (hD : va_D A (pool cJ PL)) (hA2 : ∀ q, A q → s.heap.size ≤ q) (hn : PL.length = 29189) : ∃ L : List Nat, L.length = 29189 ∧ L.Nodup ∧ ∀ q ∈ L, s.heap.size ≤ q ∧ ∃ cell : Cell, t.heap[q]? = some cell ∧ cell.slots.size = 250 := by
  refine ⟨(pool cJ PL).map (fun p => p.1), ?_, vD_nodup hD, ?_⟩
  · rw [List.length_map]; unfold pool; rw [List.length_map]; exact hn
  · intro q hq
    obtain ⟨z, hz, rfl⟩ := List.mem_map.mp hq
    refine ⟨hA2 _ (vD_in hD hz), ?_⟩
    have h1 := vP_mem hP hz
    unfold pool at hz
    obtain ⟨y, -, rfl⟩ := List.mem_map.mp hz
    exact ⟨_, h1, pool_sz cJ y.2⟩
set_option maxHeartbeats 4000000 in
set_option maxRecDepth 100000 in
theorem rf_loop {p : Program} {l : Launch} {e : Env} {s : State} {m : MethodId} {below : List Frame} {meth : Method} {c : Code} {b : Nat} {xs : Nat → Int32} {A : Nat → Prop} {dC : Nat → ClassId} {dI : Nat → Nat → Nat} {cI cZ cJ cD : ClassId} {uo a1 m1 s1 ag k1 k2 k3 k4 st li wn wb k5 um ue c0 c1 c2 c3 c4 c5 c6 c7 c8 c9 c10 c11 : Nat} (C : LC p l s m meth c b xs A dC dI cI cZ cJ cD) (h21 : ∀ j : Nat, j < 289 → xs (5 * j + 5) = 21) (h100 : ∀ j : Nat, j < 289 → xs (5 * j + 6) = 100) : ∀ (n j : Nat), j + n = 289 → ∀ (f g h : Nat → Int64) (PL : List (Nat × (Nat → Int64))) (H : Heap) (locs : List Loc) (ls : Array Slot), PL.length = 101 * j → va_P (dC, dI) vwCl ([(a1, .inr (3, [.ref m1, .ref ag, .ref s1, .int 1])), (ag, .inr (0, [.int 2, .int 1, .int 1, .ref k1, .ref k2, .ref k3, .ref k4, .ref st, .ref li, .int 1, .ref wn, .ref wb, .ref k5])), (st, .inl (cI, 251, .inl (upd (upd (upd (fun _ => 0) 0 0) 1 1) 2 1))), (li, .inl (cI, 1024, .inl (upd (fun _ => 0) 0 1))), (wb, .inl (cJ, 250, .inr (.inl g))), (wn, .inl (cJ, 250, .inr (.inl f))), (uo, .inl (cJ, 1, .inr (.inl h)))] ++ ([(um, .inr (4, [.int 0, .int 0, .ref c0, .ref c1, .ref c2, .ref c3, .int 0, .ref c4, .ref c5, .ref c6, .ref c7, .int 1, .int 1, .int 2, .int 1, .ref c8, .ref c9, .ref ue, .ref c10, .ref c11])), (ue, .inl (cZ, 62500, .inl (upd (upd (upd (upd (fun _ => 0) 0 0) 1 1) 250 0) 251 0)))] ++ pool cJ PL)) H → va_D A ([(a1, .inr (3, [.ref m1, .ref ag, .ref s1, .int 1])), (ag, .inr (0, [.int 2, .int 1, .int 1, .ref k1, .ref k2, .ref k3, .ref k4, .ref st, .ref li, .int 1, .ref wn, .ref wb, .ref k5])), (st, .inl (cI, 251, .inl (upd (upd (upd (fun _ => 0) 0 0) 1 1) 2 1))), (li, .inl (cI, 1024, .inl (upd (fun _ => 0) 0 1))), (wb, .inl (cJ, 250, .inr (.inl g))), (wn, .inl (cJ, 250, .inr (.inl f))), (uo, .inl (cJ, 1, .inr (.inl h)))] ++ ([(um, .inr (4, [.int 0, .int 0, .ref c0, .ref c1, .ref c2, .ref c3, .int 0, .ref c4, .ref c5, .ref c6, .ref c7, .int 1, .int 1, .int 2, .int 1, .ref c8, .ref c9, .ref ue, .ref c10, .ref c11])), (ue, .inl (cZ, 62500, .inl (upd (upd (upd (upd (fun _ => 0) 0 0) 1 1) 250 0) 251 0)))] ++ pool cJ PL)) → va_S A s.heap H locs → lv_has ls 9 [(5, .int (nI (5 * j + 5))), (1, .ref a1), (2, .ref um), (3, .ref uo), (0, .ref b)] → W p l e room_2 s m #[Value.ref b] below meth c H locs (41 + 101 * j) (66559 + 25250 * j) (rf_Z below b s) (F0 m 28 ls []) := by
  obtain ⟨hx, hb, hr, hml, hown, hts, hlocks, hX, hbl, hK, hE, hA, hA2, hbA, hfl⟩ := C
  intro n
  induction n with
  | zero =>
    intro j hj f g h PL H locs ls hn hP hD hS hl
    have hj : j = 289 := by omega
    subst hj
    refine lv_iload hx hb dL_law_28 (lv_at hl 0 rfl) ?_
    refine lv_aload_n hx hb dL_law_30 rfl (lv_at hl 4 rfl) ?_
    refine va_slen hx hb hX hbl hbA hS dL_law_31 ?_
    refine lv_iconst (v := 5) hx hb dL_law_32 (by decide) ?_
    refine lv_isub hx hb dL_law_33 ?_
    refine tI (v := 1445) (by decide +kernel) ?_
    refine lv_icmp_gt (tgt := 848) hx hb dL_law_34 (by decide) (fun _ => ?_) (fun h9 => absurd (by decide +kernel) h9)
    refine lv_iconst (v := 1) hx hb dL_law_848 (by decide) ?_
    have hP : va_P (dC, dI) vwCl (pool cJ PL) H := vP_right (vP_right hP)
    have hD : va_D A (pool cJ PL) := vD_right (vD_right hD)
    exact W.widen (Nat.le_of_ble_eq_true rfl) (Nat.le_of_ble_eq_true rfl) (W.zret hx hb hr rfl (fun t ht hW => ⟨rfl, pool_end (by rw [ht]; exact hP) hD hA2 hn⟩) (fun _ _ => trivial) dL_law_849 hlocks)
  | succ n ih =>
    intro j hj f g h PL H locs ls hn hP hD hS hl
    have hj2 : j < 289 := by omega
    have hv : xs (nI (5 * j + 5)).toNatClampNeg = 21 := by rw [nI_clamp (by omega)]; exact h21 j hj2
    have hv2 : xs (nI (5 * j + 5 + 1)).toNatClampNeg = 100 := by rw [nI_clamp (by omega)]; exact h100 j hj2
    refine lv_iload hx hb dL_law_28 (lv_at hl 0 rfl) ?_
    refine lv_aload_n hx hb dL_law_30 rfl (lv_at hl 4 rfl) ?_
    refine va_slen hx hb hX hbl hbA hS dL_law_31 ?_
    refine lv_iconst (v := 5) hx hb dL_law_32 (by decide) ?_
    refine lv_isub hx hb dL_law_33 ?_
    refine tI (v := nI 1445) (by decide +kernel) ?_
    refine lv_icmp_gt (tgt := 848) hx hb dL_law_34 (by decide) (fun h9 => absurd h9 (nI_nlt (by omega) (by decide))) (fun _ => ?_)
    refine lv_aload_n hx hb dL_law_37 rfl (lv_at hl 4 rfl) ?_
    refine lv_iload hx hb dL_law_38 (lv_at hl 0 rfl) ?_
    refine va_sld hx hb hX hbl hbA hS (vin (k := 5 * j + 5) (nI_pos (by omega)) (nI_clamp (by omega)) (by omega)) dL_law_40 ?_
    refine tI (v := 21) hv ?_
    refine lv_bipush (v := 31) hx hb dL_law_41 (by decide) ?_
    refine lv_iand hx hb dL_law_43 ?_
    refine tI (v := 21) (by decide +kernel) ?_
    refine lv_tableIn (off := 740) (tgt := 784) hx hb dL_law_44 (by decide +kernel) (by decide +kernel) (by decide +kernel) (by decide) ?_
    refine lv_aload_n hx hb dL_law_784 rfl (lv_at hl 1 rfl) ?_
    refine lv_aload_n hx hb dL_law_785 rfl (lv_at hl 4 rfl) ?_
    refine lv_iload hx hb dL_law_786 (lv_at hl 0 rfl) ?_
    refine lv_iconst (v := 1) hx hb dL_law_788 (by decide) ?_
    refine lv_iadd hx hb dL_law_789 ?_
    refine tI (v := nI (5 * j + 5 + 1)) (nI_1 _) ?_
    refine va_sld hx hb hX hbl hbA hS (vin (k := 5 * j + 5 + 1) (nI_pos (by omega)) (nI_clamp (by omega)) (by omega)) dL_law_790 ?_
    refine tI (v := 100) hv2 ?_
    refine lv_aload_n hx hb dL_law_791 rfl (lv_at hl 3 rfl) ?_
    have hc1 : 41 + 101 * j + 0 ≤ 601024 := by omega
    have hs1 : 66559 + 25250 * j + 0 ≤ 7364809 := by omega
    have hc2 : 41 + 101 * j + 0 + 101 ≤ 601024 := by omega
    have hs2 : 66559 + 25250 * j + 0 + 25250 ≤ 7364809 := by omega
    refine xg_H (wc := [(a1, .inr (3, [.ref m1, .ref ag, .ref s1, .int 1])), (ag, .inr (0, [.int 2, .int 1, .int 1, .ref k1, .ref k2, .ref k3, .ref k4, .ref st, .ref li, .int 1, .ref wn, .ref wb, .ref k5])), (st, .inl (cI, 251, .inl (upd (upd (upd (fun _ => 0) 0 0) 1 1) 2 1))), (li, .inl (cI, 1024, .inl (upd (fun _ => 0) 0 1))), (wb, .inl (cJ, 250, .inr (.inl g))), (wn, .inl (cJ, 250, .inr (.inl f))), (uo, .inl (cJ, 1, .inr (.inl h)))]) (wr := [(um, .inr (4, [.int 0, .int 0, .ref c0, .ref c1, .ref c2, .ref c3, .int 0, .ref c4, .ref c5, .ref c6, .ref c7, .int 1, .int 1, .int 2, .int 1, .ref c8, .ref c9, .ref ue, .ref c10, .ref c11])), (ue, .inl (cZ, 62500, .inl (upd (upd (upd (upd (fun _ => 0) 0 0) 1 1) 250 0) 251 0)))] ++ pool cJ PL) (As := [.ref a1, .int 100, .ref uo]) (rest := []) ⟨hx, hb, hml, hown, hts⟩ (cw_law l hfl dC dI cI cZ cJ cD uo a1 m1 s1 ag k1 k2 k3 k4 st li wn wb k5 f g h _) q657 okL_ways hP hD hK hE hS hA rfl hl.1 rfl (Nat.le_of_ble_eq_true rfl) ⟨rfl, rfl⟩ ⟨(Nat.le_of_ble_eq_true rfl), (Nat.le_of_ble_eq_true rfl)⟩ ⟨hc1, hs1⟩ dL_law_792 (fun v w1 H locs hw hP hD hS => ?_)
    obtain ⟨rfl, f1, g1, h1, rfl⟩ := hw
    rw [List.append_assoc] at hP hD
    refine W.eq (g2 := F0 m 795 ls [.int 0]) rfl ?_
    refine lv_istore (lv' := [(6, .int 0), (5, .int (nI (5 * j + 5))), (1, .ref a1), (2, .ref um), (3, .ref uo), (0, .ref b)]) hx hb dL_law_795 hl (by decide) rfl (fun ls hl => ?_)
    refine lv_aload_n hx hb dL_law_797 rfl (lv_at hl 3 rfl) ?_
    refine lv_aload_n hx hb dL_law_798 rfl (lv_at hl 5 rfl) ?_
    refine lv_iload hx hb dL_law_799 (lv_at hl 1 rfl) ?_
    refine lv_iconst (v := 1) hx hb dL_law_801 (by decide) ?_
    refine lv_iadd hx hb dL_law_802 ?_
    refine tI (v := nI (5 * j + 5 + 1)) (nI_1 _) ?_
    refine va_sld hx hb hX hbl hbA hS (vin (k := 5 * j + 5 + 1) (nI_pos (by omega)) (nI_clamp (by omega)) (by omega)) dL_law_803 ?_
    refine tI (v := 100) hv2 ?_
    refine xg_V (b := um) (wc := [(um, .inr (4, [.int 0, .int 0, .ref c0, .ref c1, .ref c2, .ref c3, .int 0, .ref c4, .ref c5, .ref c6, .ref c7, .int 1, .int 1, .int 2, .int 1, .ref c8, .ref c9, .ref ue, .ref c10, .ref c11])), (ue, .inl (cZ, 62500, .inl (upd (upd (upd (upd (fun _ => 0) 0 0) 1 1) 250 0) 251 0)))]) (wr := pool cJ PL ++ [(a1, .inr (3, [.ref m1, .ref ag, .ref s1, .int 1])), (ag, .inr (0, [.int 2, .int 1, .int 1, .ref k1, .ref k2, .ref k3, .ref k4, .ref st, .ref li, .int 1, .ref wn, .ref wb, .ref k5])), (st, .inl (cI, 251, .inl (upd (upd (upd (fun _ => 0) 0 0) 1 1) 2 1))), (li, .inl (cI, 1024, .inl (upd (fun _ => 0) 0 1))), (wb, .inl (cJ, 250, .inr (.inl g1))), (wn, .inl (cJ, 250, .inr (.inl f1))), (uo, .inl (cJ, 1, .inr (.inl h1)))]) (As := [.int 100]) (rest := []) ⟨hx, hb, hml, hown, hts⟩ (mw_ways l hfl dC dI cI cZ cJ cD um ue c0 c1 c2 c3 c4 c5 c6 c7 c8 c9 c10 c11 _) q929 okX4_ways hP hD hK hE hS hA (ci := 4) rfl 0 rfl rfl rfl hl.1 rfl (Nat.le_of_ble_eq_true rfl) ⟨rfl, rfl⟩ ⟨(Nat.le_of_ble_eq_true rfl), (Nat.le_of_ble_eq_true rfl)⟩ ⟨hc2, hs2⟩ dL_law_804 (fun v w1 H locs hw hP hD hS => ?_)
    obtain ⟨z, PN, rfl, hN, rfl⟩ := hw
    have hP := vP_perm (pm_4 _ _ _ _) hP
    have hD := vD_perm (pm_4 _ _ _ _) hD
    rw [← pool_app] at hP hD
    refine W.eq (g2 := F0 m 807 ls [.long z]) rfl ?_
    refine lv_lstore (lv' := [(7, .long z), (6, .int 0), (5, .int (nI (5 * j + 5))), (1, .ref a1), (2, .ref um), (3, .ref uo), (0, .ref b)]) hx hb dL_law_807 hl (by decide) rfl (fun ls hl => ?_)
    refine lv_goto (tgt := 842) hx hb dL_law_809 (by decide) ?_
    have hl : lv_has ls 9 [(5, .int (nI (5 * j + 5))), (1, .ref a1), (2, .ref um), (3, .ref uo), (0, .ref b)] := lv_sub hl [2, 3, 4, 5, 6] rfl
    refine lv_iinc (v := nI (5 * (j + 1) + 5)) (lv' := [(5, .int (nI (5 * (j + 1) + 5))), (1, .ref a1), (2, .ref um), (3, .ref uo), (0, .ref b)]) hx hb dL_law_842 hl (k := 0) rfl (by rw [show 5 * (j + 1) + 5 = (5 * j + 5) + 5 by omega, nI_c5]; exact nI_add _ _) (by decide) rfl (fun ls hl => ?_)
    refine lv_goto (tgt := 28) hx hb dL_law_845 (by decide) ?_
    rw [show 41 + 101 * j + 0 + 101 = 41 + 101 * (j + 1) by omega, show 66559 + 25250 * j + 0 + 25250 = 66559 + 25250 * (j + 1) by omega]
    exact ih (j + 1) (by omega) f1 g1 h1 (PL ++ PN) H locs ls (by rw [List.length_append, hn, hN]; omega) hP hD hS hl
