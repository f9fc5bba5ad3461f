set_option maxHeartbeats 4000000 in
set_option maxRecDepth 100000 in
theorem c_checkArgument_x (l : Launch) (G : kG)  (htr : l.stackTraces = false) : kXM l yX6_checkArgument wsX6_checkArgument 6 90 1 6 G [vB (false)] ([]) "java/lang/IllegalArgumentException" (fun uu => uu = []) := by
  refine kXM.of (cc := cX6_checkArgument) (maxL := 1) (ret := none) (by decide) rfl (Nat.le_of_ble_eq_true rfl) ?_
  intro p e s m args below meth c A ls Qz hQ hnt hxs hst hm hw hl
  obtain ⟨⟨sa1, hs1⟩, ⟨sa2, hs2⟩, ⟨sa3, hs3⟩, sa4, hs4⟩ := id hxs.2.1
  have hl : lv_has ls 1 [(0, vB (false))] := hl
  refine k_iload_n hm hl 0 rfl dX6_checkArgument_0 ?_
  refine k_ifneB (tgt := 14) hm dX6_checkArgument_1 (by decide) (fun c_1 => absurd c_1 (by decide)) (fun _ => ?_)
  exact k_throwS hm hw hl hQ hnt hxs hst htr hs1 (by decide +kernel) (by decide +kernel) (by decide +kernel) (by decide +kernel) (by decide +kernel) (by decide +kernel) (by decide +kernel) dX6_checkArgument_4 dX6_checkArgument_7 dX6_checkArgument_8 dX6_checkArgument_10 dX6_checkArgument_13 (by decide) (by simp [Value.category]) (by decide) (by decide) (by decide) (by decide) (rfl)
set_option maxHeartbeats 4000000 in
set_option maxRecDepth 100000 in
theorem c_checkState_x (l : Launch) (G : kG)  (htr : l.stackTraces = false) : kXM l yX6_checkState wsX6_checkState 6 90 1 6 G [vB (false)] ([]) "java/lang/IllegalStateException" (fun uu => uu = []) := by
  refine kXM.of (cc := cX6_checkState) (maxL := 1) (ret := none) (by decide) rfl (Nat.le_of_ble_eq_true rfl) ?_
  intro p e s m args below meth c A ls Qz hQ hnt hxs hst hm hw hl
  obtain ⟨⟨sa1, hs1⟩, ⟨sa2, hs2⟩, ⟨sa3, hs3⟩, sa4, hs4⟩ := id hxs.2.1
  have hl : lv_has ls 1 [(0, vB (false))] := hl
  refine k_iload_n hm hl 0 rfl dX6_checkState_0 ?_
  refine k_ifneB (tgt := 14) hm dX6_checkState_1 (by decide) (fun c_1 => absurd c_1 (by decide)) (fun _ => ?_)
  exact k_throwS hm hw hl hQ hnt hxs hst htr hs2 (by decide +kernel) (by decide +kernel) (by decide +kernel) (by decide +kernel) (by decide +kernel) (by decide +kernel) (by decide +kernel) dX6_checkState_4 dX6_checkState_7 dX6_checkState_8 dX6_checkState_10 dX6_checkState_13 (by decide) (by simp [Value.category]) (by decide) (by decide) (by decide) (by decide) (rfl)
set_option maxHeartbeats 4000000 in
set_option maxRecDepth 100000 in
theorem c_checkPossible_x (l : Launch) (G : kG)  (htr : l.stackTraces = false) : kXM l yX6_checkPossible wsX6_checkPossible 6 90 1 6 G [vB (false)] ([]) "java/lang/UnsupportedOperationException" (fun uu => uu = []) := by
  refine kXM.of (cc := cX6_checkPossible) (maxL := 1) (ret := none) (by decide) rfl (Nat.le_of_ble_eq_true rfl) ?_
  intro p e s m args below meth c A ls Qz hQ hnt hxs hst hm hw hl
  obtain ⟨⟨sa1, hs1⟩, ⟨sa2, hs2⟩, ⟨sa3, hs3⟩, sa4, hs4⟩ := id hxs.2.1
  have hl : lv_has ls 1 [(0, vB (false))] := hl
  refine k_iload_n hm hl 0 rfl dX6_checkPossible_0 ?_
  refine k_ifneB (tgt := 14) hm dX6_checkPossible_1 (by decide) (fun c_1 => absurd c_1 (by decide)) (fun _ => ?_)
  exact k_throwS hm hw hl hQ hnt hxs hst htr hs3 (by decide +kernel) (by decide +kernel) (by decide +kernel) (by decide +kernel) (by decide +kernel) (by decide +kernel) (by decide +kernel) dX6_checkPossible_4 dX6_checkPossible_7 dX6_checkPossible_8 dX6_checkPossible_10 dX6_checkPossible_13 (by decide) (by simp [Value.category]) (by decide) (by decide) (by decide) (by decide) (rfl)
set_option maxHeartbeats 4000000 in
set_option maxRecDepth 100000 in
theorem c_checkIndex_x (l : Launch) (G : kG) (i : Int) (k : Nat) (htr : l.stackTraces = false) (hz : -2147483648 ≤ i ∧ i < 2147483648) (h : k < 2147483648 ∧ ¬ (0 ≤ i ∧ i < (k : Int))) : kXM l yX6_checkIndex wsX6_checkIndex 6 90 1 6 G [vZ (i), vN (k)] ([]) "java/lang/IndexOutOfBoundsException" (fun uu => uu = []) := by
  refine kXM.of (cc := cX6_checkIndex) (maxL := 2) (ret := none) (by decide) rfl (Nat.le_of_ble_eq_true rfl) ?_
  intro p e s m args below meth c A ls Qz hQ hnt hxs hst hm hw hl
  obtain ⟨⟨sa1, hs1⟩, ⟨sa2, hs2⟩, ⟨sa3, hs3⟩, sa4, hs4⟩ := id hxs.2.1
  have hl : lv_has ls 2 [(0, vZ (i)), (1, vN (k))] := hl
  refine k_iload_n hm hl 0 rfl dX6_checkIndex_0 ?_
  refine k_iflt (tgt := 9) hm dX6_checkIndex_1 (by decide) (by omega) (fun c_1 => ?_) (fun c_1 => ?_)
  · exact k_throwS hm hw hl hQ hnt hxs hst htr hs4 (by decide +kernel) (by decide +kernel) (by decide +kernel) (by decide +kernel) (by decide +kernel) (by decide +kernel) (by decide +kernel) dX6_checkIndex_9 dX6_checkIndex_12 dX6_checkIndex_13 dX6_checkIndex_15 dX6_checkIndex_18 (by decide) (by simp [Value.category]) (by decide) (by decide) (by decide) (by decide) (rfl)
  · refine k_iload_n hm hl 0 rfl dX6_checkIndex_4 ?_
    refine k_iload_n hm hl 1 rfl dX6_checkIndex_5 ?_
    refine k_icmplt (tgt := 19) hm dX6_checkIndex_6 (by decide) (by omega) (fun c_2 => absurd c_2 (by omega)) (fun c_2 => ?_)
    exact k_throwS hm hw hl hQ hnt hxs hst htr hs4 (by decide +kernel) (by decide +kernel) (by decide +kernel) (by decide +kernel) (by decide +kernel) (by decide +kernel) (by decide +kernel) dX6_checkIndex_9 dX6_checkIndex_12 dX6_checkIndex_13 dX6_checkIndex_15 dX6_checkIndex_18 (by decide) (by simp [Value.category]) (by decide) (by decide) (by decide) (by decide) (rfl)
set_option maxHeartbeats 4000000 in
set_option maxRecDepth 100000 in
theorem c_begin_x (l : Launch) (G : kG) (o : Nat) (h : Nat) (T : Nat → Nat) (L : Nat → Nat) (M : Nat → Nat) (P : Nat → Nat) (gk : Nat → Nat) (gw : Nat → Nat) (gt : Nat → Nat) (gy : Nat → Nat) (R : Nat) (sp : Bool) (z : Int) (htr : l.stackTraces = false) (hz : -2147483648 ≤ z ∧ z < 2147483648) (hx : ¬ (3 ≤ z ∧ z ≤ 12)) : kXM l yX6_begin wsX6_begin 7 110 1 6 G [.ref (o), vZ (z)] (wMain G o P h T L M ++ wPiece G P gk gw gt gy R sp) "java/lang/IllegalArgumentException" (fun uu => uu = wMain G o P h T L M ++ wPiece G P gk gw gt gy R sp) := by
  refine kXM.of (cc := cX6_begin) (maxL := 3) (ret := (some .int)) (by decide) rfl (Nat.le_of_ble_eq_true rfl) ?_
  intro p e s m args below meth c A ls Qz hQ hnt hxs hst hm hw hl
  obtain ⟨⟨sa1, hs1⟩, ⟨sa2, hs2⟩, ⟨sa3, hs3⟩, sa4, hs4⟩ := id hxs.2.1
  have hl : lv_has ls 3 [(0, .ref (o)), (1, vZ (z))] := hl
  have i4 : ∀ w ∈ wsX40, w ∈ wsX6_begin := by decide +kernel
  have i6 : ∀ w ∈ wsX60, w ∈ wsX6_begin := by decide +kernel
  refine k_iload_n hm hl 1 rfl dX6_begin_0 ?_
  refine k_iconstN hm 3 dX6_begin_1 ?_
  refine k_icmplt (tgt := 15) hm dX6_begin_2 (by decide) (by omega) (fun c_1 => ?_) (fun c_1 => ?_)
  · refine k_iconstN hm 0 dX6_begin_15 ?_
    refine k_callSx (n := 1) (As := [vN (0)]) (rest := []) (wr := [(o, .inr (6, [.ref (P 0), .ref (h), .ref (T 0), .ref (L 0), .ref (M 0)])), (P 0, .inr (4, [.ref (P 1), .ref (P 3), .ref (P 5), .ref (P 7), vN (R), vB (sp)])), (P 1, .inr (2, [.ref (P 2)])), (P 2, .inl (G.2 0, 4800, .inl (nF gk))), (P 3, .inr (2, [.ref (P 4)])), (P 4, .inl (G.2 0, 40, .inl (nF gw))), (P 5, .inr (2, [.ref (P 6)])), (P 6, .inl (G.2 0, 40, .inl (nF gt))), (P 7, .inr (2, [.ref (P 8)])), (P 8, .inl (G.2 0, 3, .inl (nF gy)))]) hm hw hl hxs hst (c_checkArgument_x l G (by first | assumption | omega)) gX6_begin_X6_checkArgument rfl (by decide +kernel) ⟨by decide, by decide⟩ [] [0, 1, 2, 3, 4, 5, 6, 7, 8, 9] (by decide) rfl rfl (by decide) (by decide) rfl rfl (by simp [Value.category]) ⟨by decide, by decide⟩ dX6_begin_16 (fun q ce w1 H locs hp hw he1 he2 he3 => ?_)
    obtain rfl := hp
    have hw := hw.sub (ws' := wMain G o P h T L M ++ wPiece G P gk gw gt gy R sp) [0, 1, 2, 3, 4, 5, 6, 7, 8, 9] (by decide) rfl
    exact k_out hm hQ hnt hw (rfl) he1 he2 he3 (by decide) (by decide)
  · refine k_iload_n hm hl 1 rfl dX6_begin_5 ?_
    refine k_bipushN hm 12 dX6_begin_6 rfl ?_
    refine k_icmpgt (tgt := 15) hm dX6_begin_8 (by decide) (by omega) (fun c_3 => ?_) (fun c_3 => absurd c_3 (by omega))
    refine k_iconstN hm 0 dX6_begin_15 ?_
    refine k_callSx (n := 1) (As := [vN (0)]) (rest := []) (wr := [(o, .inr (6, [.ref (P 0), .ref (h), .ref (T 0), .ref (L 0), .ref (M 0)])), (P 0, .inr (4, [.ref (P 1), .ref (P 3), .ref (P 5), .ref (P 7), vN (R), vB (sp)])), (P 1, .inr (2, [.ref (P 2)])), (P 2, .inl (G.2 0, 4800, .inl (nF gk))), (P 3, .inr (2, [.ref (P 4)])), (P 4, .inl (G.2 0, 40, .inl (nF gw))), (P 5, .inr (2, [.ref (P 6)])), (P 6, .inl (G.2 0, 40, .inl (nF gt))), (P 7, .inr (2, [.ref (P 8)])), (P 8, .inl (G.2 0, 3, .inl (nF gy)))]) hm hw hl hxs hst (c_checkArgument_x l G (by first | assumption | omega)) gX6_begin_X6_checkArgument rfl (by decide +kernel) ⟨by decide, by decide⟩ [] [0, 1, 2, 3, 4, 5, 6, 7, 8, 9] (by decide) rfl rfl (by decide) (by decide) rfl rfl (by simp [Value.category]) ⟨by decide, by decide⟩ dX6_begin_16 (fun q ce w1 H locs hp hw he1 he2 he3 => ?_)
    obtain rfl := hp
    have hw := hw.sub (ws' := wMain G o P h T L M ++ wPiece G P gk gw gt gy R sp) [0, 1, 2, 3, 4, 5, 6, 7, 8, 9] (by decide) rfl
    exact k_out hm hQ hnt hw (rfl) he1 he2 he3 (by decide) (by decide)
set_option maxHeartbeats 4000000 in
set_option maxRecDepth 100000 in
theorem c_addRound_x1 (l : Launch) (G : kG) (o : Nat) (h : Nat) (T : Nat → Nat) (L : Nat → Nat) (M : Nat → Nat) (P : Nat → Nat) (gk : Nat → Nat) (gw : Nat → Nat) (gt : Nat → Nat) (gy : Nat → Nat) (R : Nat) (sp : Bool) (z : Int) (htr : l.stackTraces = false) (hz : -2147483648 ≤ z ∧ z < 2147483648) (hx : ¬ (3 ≤ z ∧ z ≤ 120)) : kXM l yX6_addRound wsX6_addRound 7 110 1 6 G [.ref (o), vZ (z)] (wMain G o P h T L M ++ wPiece G P gk gw gt gy R sp) "java/lang/IllegalArgumentException" (fun uu => uu = wMain G o P h T L M ++ wPiece G P gk gw gt gy R sp) := by
  refine kXM.of (cc := cX6_addRound) (maxL := 2) (ret := (some .int)) (by decide) rfl (Nat.le_of_ble_eq_true rfl) ?_
  intro p e s m args below meth c A ls Qz hQ hnt hxs hst hm hw hl
  obtain ⟨⟨sa1, hs1⟩, ⟨sa2, hs2⟩, ⟨sa3, hs3⟩, sa4, hs4⟩ := id hxs.2.1
  have hl : lv_has ls 2 [(0, .ref (o)), (1, vZ (z))] := hl
  have i6 : ∀ w ∈ wsX60, w ∈ wsX6_addRound := by decide +kernel
  refine k_iload_n hm hl 1 rfl dX6_addRound_0 ?_
  refine k_callSr (n := 1) (As := [vZ (z)]) (rest := []) hm hw hl (c_isGoal l G z (by first | assumption | omega)) gX6_addRound_X6_isGoal rfl (by decide +kernel) ⟨by decide, by decide⟩ [] (by decide) rfl rfl rfl (by simp [Value.category]) ⟨by decide, by decide⟩ dX6_addRound_1 (fun v H locs hp hw => ?_)
  obtain rfl := hp
  refine W.eq (g2 := F0 m 4 ls [vB (decide (3 ≤ z ∧ z ≤ 120))]) rfl ?_
  refine k_rwV (y := vB (false)) (by rw [decide_eq_false (by omega)]) ?_
  refine k_callSx (n := 1) (As := [vB (false)]) (rest := []) (wr := [(o, .inr (6, [.ref (P 0), .ref (h), .ref (T 0), .ref (L 0), .ref (M 0)])), (P 0, .inr (4, [.ref (P 1), .ref (P 3), .ref (P 5), .ref (P 7), vN (R), vB (sp)])), (P 1, .inr (2, [.ref (P 2)])), (P 2, .inl (G.2 0, 4800, .inl (nF gk))), (P 3, .inr (2, [.ref (P 4)])), (P 4, .inl (G.2 0, 40, .inl (nF gw))), (P 5, .inr (2, [.ref (P 6)])), (P 6, .inl (G.2 0, 40, .inl (nF gt))), (P 7, .inr (2, [.ref (P 8)])), (P 8, .inl (G.2 0, 3, .inl (nF gy)))]) hm hw hl hxs hst (c_checkArgument_x l G (by first | assumption | omega)) gX6_addRound_X6_checkArgument rfl (by decide +kernel) ⟨by decide, by decide⟩ [] [0, 1, 2, 3, 4, 5, 6, 7, 8, 9] (by decide) rfl rfl (by decide) (by decide) rfl rfl (by simp [Value.category]) ⟨by decide, by decide⟩ dX6_addRound_4 (fun q ce w1 H locs hp hw he1 he2 he3 => ?_)
  obtain rfl := hp
  have hw := hw.sub (ws' := wMain G o P h T L M ++ wPiece G P gk gw gt gy R sp) [0, 1, 2, 3, 4, 5, 6, 7, 8, 9] (by decide) rfl
  exact k_out hm hQ hnt hw (rfl) he1 he2 he3 (by decide) (by decide)
set_option maxHeartbeats 4000000 in
set_option maxRecDepth 100000 in
theorem c_addMirrored_x1 (l : Launch) (G : kG) (o : Nat) (h : Nat) (T : Nat → Nat) (L : Nat → Nat) (M : Nat → Nat) (P : Nat → Nat) (gk : Nat → Nat) (gw : Nat → Nat) (gt : Nat → Nat) (gy : Nat → Nat) (R : Nat) (sp : Bool) (z : Int) (htr : l.stackTraces = false) (hz : -2147483648 ≤ z ∧ z < 2147483648) (hx : ¬ (3 ≤ z ∧ z ≤ 120)) : kXM l yX6_addMirrored wsX6_addMirrored 7 110 1 6 G [.ref (o), vZ (z)] (wMain G o P h T L M ++ wPiece G P gk gw gt gy R sp) "java/lang/IllegalArgumentException" (fun uu => uu = wMain G o P h T L M ++ wPiece G P gk gw gt gy R sp) := by
  refine kXM.of (cc := cX6_addMirrored) (maxL := 2) (ret := (some .int)) (by decide) rfl (Nat.le_of_ble_eq_true rfl) ?_
  intro p e s m args below meth c A ls Qz hQ hnt hxs hst hm hw hl
  obtain ⟨⟨sa1, hs1⟩, ⟨sa2, hs2⟩, ⟨sa3, hs3⟩, sa4, hs4⟩ := id hxs.2.1
  have hl : lv_has ls 2 [(0, .ref (o)), (1, vZ (z))] := hl
  have i6 : ∀ w ∈ wsX60, w ∈ wsX6_addMirrored := by decide +kernel
  refine k_iload_n hm hl 1 rfl dX6_addMirrored_0 ?_
  refine k_callSr (n := 1) (As := [vZ (z)]) (rest := []) hm hw hl (c_isGoal l G z (by first | assumption | omega)) gX6_addMirrored_X6_isGoal rfl (by decide +kernel) ⟨by decide, by decide⟩ [] (by decide) rfl rfl rfl (by simp [Value.category]) ⟨by decide, by decide⟩ dX6_addMirrored_1 (fun v H locs hp hw => ?_)
  obtain rfl := hp
  refine W.eq (g2 := F0 m 4 ls [vB (decide (3 ≤ z ∧ z ≤ 120))]) rfl ?_
  refine k_rwV (y := vB (false)) (by rw [decide_eq_false (by omega)]) ?_
  refine k_callSx (n := 1) (As := [vB (false)]) (rest := []) (wr := [(o, .inr (6, [.ref (P 0), .ref (h), .ref (T 0), .ref (L 0), .ref (M 0)])), (P 0, .inr (4, [.ref (P 1), .ref (P 3), .ref (P 5), .ref (P 7), vN (R), vB (sp)])), (P 1, .inr (2, [.ref (P 2)])), (P 2, .inl (G.2 0, 4800, .inl (nF gk))), (P 3, .inr (2, [.ref (P 4)])), (P 4, .inl (G.2 0, 40, .inl (nF gw))), (P 5, .inr (2, [.ref (P 6)])), (P 6, .inl (G.2 0, 40, .inl (nF gt))), (P 7, .inr (2, [.ref (P 8)])), (P 8, .inl (G.2 0, 3, .inl (nF gy)))]) hm hw hl hxs hst (c_checkArgument_x l G (by first | assumption | omega)) gX6_addMirrored_X6_checkArgument rfl (by decide +kernel) ⟨by decide, by decide⟩ [] [0, 1, 2, 3, 4, 5, 6, 7, 8, 9] (by decide) rfl rfl (by decide) (by decide) rfl rfl (by simp [Value.category]) ⟨by decide, by decide⟩ dX6_addMirrored_4 (fun q ce w1 H locs hp hw he1 he2 he3 => ?_)
  obtain rfl := hp
  have hw := hw.sub (ws' := wMain G o P h T L M ++ wPiece G P gk gw gt gy R sp) [0, 1, 2, 3, 4, 5, 6, 7, 8, 9] (by decide) rfl
  exact k_out hm hQ hnt hw (rfl) he1 he2 he3 (by decide) (by decide)
