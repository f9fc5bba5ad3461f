set_option maxHeartbeats 4000000 in
set_option maxRecDepth 100000 in
theorem c_checkArgument_x (l : Launch) (G : kG)  (htr : l.stackTraces = false) : kXM l yX6_checkArgument wsX6_checkArgument 6 90 1 6 G [vB (false)] ([]) "java/lang/IllegalArgumentException" (fun uu => uu = []) := by
  refine kXM.of (cc := cX6_checkArgument) (maxL := 1) (ret := none) (by decide) rfl (Nat.le_of_ble_eq_true rfl) ?_
  intro p e s m args below meth c A ls Qz hQ hnt hxs hst hm hw hl
  obtain ⟨⟨sa1, hs1⟩, ⟨sa2, hs2⟩, ⟨sa3, hs3⟩, sa4, hs4⟩ := id hxs.2.1
  have hl : lv_has ls 1 [(0, vB (false))] := hl
  refine k_iload_n hm hl 0 rfl dX6_checkArgument_0 ?_
  refine k_ifneB (tgt := 14) hm dX6_checkArgument_1 (by decide) (fun c_1 => absurd c_1 (by decide)) (fun _ => ?_)
  exact k_throwS hm hw hl hQ hnt hxs hst htr hs1 (by decide +kernel) (by decide +kernel) (by decide +kernel) (by decide +kernel) (by decide +kernel) (by decide +kernel) (by decide +kernel) dX6_checkArgument_4 dX6_checkArgument_7 dX6_checkArgument_8 dX6_checkArgument_10 dX6_checkArgument_13 (by decide) (by simp [Value.category]) (by decide) (by decide) (by decide) (by decide) (rfl)
set_option maxHeartbeats 4000000 in
set_option maxRecDepth 100000 in
theorem c_checkState_x (l : Launch) (G : kG)  (htr : l.stackTraces = false) : kXM l yX6_checkState wsX6_checkState 6 90 1 6 G [vB (false)] ([]) "java/lang/IllegalStateException" (fun uu => uu = []) := by
  refine kXM.of (cc := cX6_checkState) (maxL := 1) (ret := none) (by decide) rfl (Nat.le_of_ble_eq_true rfl) ?_
  intro p e s m args below meth c A ls Qz hQ hnt hxs hst hm hw hl
  obtain ⟨⟨sa1, hs1⟩, ⟨sa2, hs2⟩, ⟨sa3, hs3⟩, sa4, hs4⟩ := id hxs.2.1
  have hl : lv_has ls 1 [(0, vB (false))] := hl
  refine k_iload_n hm hl 0 rfl dX6_checkState_0 ?_
  refine k_ifneB (tgt := 14) hm dX6_checkState_1 (by decide) (fun c_1 => absurd c_1 (by decide)) (fun _ => ?_)
  exact k_throwS hm hw hl hQ hnt hxs hst htr hs2 (by decide +kernel) (by decide +kernel) (by decide +kernel) (by decide +kernel) (by decide +kernel) (by decide +kernel) (by decide +kernel) dX6_checkState_4 dX6_checkState_7 dX6_checkState_8 dX6_checkState_10 dX6_checkState_13 (by decide) (by simp [Value.category]) (by decide) (by decide) (by decide) (by decide) (rfl)
set_option maxHeartbeats 4000000 in
set_option maxRecDepth 100000 in
theorem c_checkPossible_x (l : Launch) (G : kG)  (htr : l.stackTraces = false) : kXM l yX6_checkPossible wsX6_checkPossible 6 90 1 6 G [vB (false)] ([]) "java/lang/UnsupportedOperationException" (fun uu => uu = []) := by
  refine kXM.of (cc := cX6_checkPossible) (maxL := 1) (ret := none) (by decide) rfl (Nat.le_of_ble_eq_true rfl) ?_
  intro p e s m args below meth c A ls Qz hQ hnt hxs hst hm hw hl
  obtain ⟨⟨sa1, hs1⟩, ⟨sa2, hs2⟩, ⟨sa3, hs3⟩, sa4, hs4⟩ := id hxs.2.1
  have hl : lv_has ls 1 [(0, vB (false))] := hl
  refine k_iload_n hm hl 0 rfl dX6_checkPossible_0 ?_
  refine k_ifneB (tgt := 14) hm dX6_checkPossible_1 (by decide) (fun c_1 => absurd c_1 (by decide)) (fun _ => ?_)
  exact k_throwS hm hw hl hQ hnt hxs hst htr hs3 (by decide +kernel) (by decide +kernel) (by decide +kernel) (by decide +kernel) (by decide +kernel) (by decide +kernel) (by decide +kernel) dX6_checkPossible_4 dX6_checkPossible_7 dX6_checkPossible_8 dX6_checkPossible_10 dX6_checkPossible_13 (by decide) (by simp [Value.category]) (by decide) (by decide) (by decide) (by decide) (rfl)
set_option maxHeartbeats 4000000 in
set_option maxRecDepth 100000 in
theorem c_checkIndex_x (l : Launch) (G : kG) (i : Int) (k : Nat) (htr : l.stackTraces = false) (hz : -2147483648 ≤ i ∧ i < 2147483648) (h : k < 2147483648 ∧ ¬ (0 ≤ i ∧ i < (k : Int))) : kXM l yX6_checkIndex wsX6_checkIndex 6 90 1 6 G [vZ (i), vN (k)] ([]) "java/lang/IndexOutOfBoundsException" (fun uu => uu = []) := by
  refine kXM.of (cc := cX6_checkIndex) (maxL := 2) (ret := none) (by decide) rfl (Nat.le_of_ble_eq_true rfl) ?_
  intro p e s m args below meth c A ls Qz hQ hnt hxs hst hm hw hl
  obtain ⟨⟨sa1, hs1⟩, ⟨sa2, hs2⟩, ⟨sa3, hs3⟩, sa4, hs4⟩ := id hxs.2.1
  have hl : lv_has ls 2 [(0, vZ (i)), (1, vN (k))] := hl
  refine k_iload_n hm hl 0 rfl dX6_checkIndex_0 ?_
  refine k_iflt (tgt := 9) hm dX6_checkIndex_1 (by decide) (by omega) (fun c_1 => ?_) (fun c_1 => ?_)
  · exact k_throwS hm hw hl hQ hnt hxs hst htr hs4 (by decide +kernel) (by decide +kernel) (by decide +kernel) (by decide +kernel) (by decide +kernel) (by decide +kernel) (by decide +kernel) dX6_checkIndex_9 dX6_checkIndex_12 dX6_checkIndex_13 dX6_checkIndex_15 dX6_checkIndex_18 (by decide) (by simp [Value.category]) (by decide) (by decide) (by decide) (by decide) (rfl)
  · refine k_iload_n hm hl 0 rfl dX6_checkIndex_4 ?_
    refine k_iload_n hm hl 1 rfl dX6_checkIndex_5 ?_
    refine k_icmplt (tgt := 19) hm dX6_checkIndex_6 (by decide) (by omega) (fun c_2 => absurd c_2 (by omega)) (fun c_2 => ?_)
    exact k_throwS hm hw hl hQ hnt hxs hst htr hs4 (by decide +kernel) (by decide +kernel) (by decide +kernel) (by decide +kernel) (by decide +kernel) (by decide +kernel) (by decide +kernel) dX6_checkIndex_9 dX6_checkIndex_12 dX6_checkIndex_13 dX6_checkIndex_15 dX6_checkIndex_18 (by decide) (by simp [Value.category]) (by decide) (by decide) (by decide) (by decide) (rfl)
set_option maxHeartbeats 4000000 in
set_option maxRecDepth 100000 in
theorem c_begin_x (l : Launch) (G : kG) (o : Nat) (h : Nat) (T : Nat → Nat) (L : Nat → Nat) (M : Nat → Nat) (P : Nat → Nat) (gk : Nat → Nat) (gw : Nat → Nat) (gt : Nat → Nat) (gy : Nat → Nat) (R : Nat) (sp : Bool) (z : Int) (htr : l.stackTraces = false) (hz : -2147483648 ≤ z ∧ z < 2147483648) (hx : ¬ (3 ≤ z ∧ z ≤ 12)) : kXM l yX6_begin wsX6_begin 7 110 1 6 G [.ref (o), vZ (z)] (wMain G o P h T L M ++ wPiece G P gk gw gt gy R sp) "java/lang/IllegalArgumentException" (fun uu => uu = wMain G o P h T L M ++ wPiece G P gk gw gt gy R sp) := by
  refine kXM.of (cc := cX6_begin) (maxL := 3) (ret := (some .int)) (by decide) rfl (Nat.le_of_ble_eq_true rfl) ?_
  intro p e s m args below meth c A ls Qz hQ hnt hxs hst hm hw hl
  obtain ⟨⟨sa1, hs1⟩, ⟨sa2, hs2⟩, ⟨sa3, hs3⟩, sa4, hs4⟩ := id hxs.2.1
  have hl : lv_has ls 3 [(0, .ref (o)), (1, vZ (z))] := hl
  have i4 : ∀ w ∈ wsX40, w ∈ wsX6_begin := by decide +kernel
  have i6 : ∀ w ∈ wsX60, w ∈ wsX6_begin := by decide +kernel
  refine k_iload_n hm hl 1 rfl dX6_begin_0 ?_
  refine k_iconstN hm 3 dX6_begin_1 ?_
  refine k_icmplt (tgt := 15) hm dX6_begin_2 (by decide) (by omega) (fun c_1 => ?_) (fun c_1 => ?_)
  · refine k_iconstN hm 0 dX6_begin_15 ?_
    refine k_callSx (n := 1) (As := [vN (0)]) (rest := []) (wr := [(o, .inr (6, [.ref (P 0), .ref (h), .ref (T 0), .ref (L 0), .ref (M 0)])), (P 0, .inr (4, [.ref (P 1), .ref (P 3), .ref (P 5), .ref (P 7), vN (R), vB (sp)])), (P 1, .inr (2, [.ref (P 2)])), (P 2, .inl (G.2 0, 4800, .inl (nF gk))), (P 3, .inr (2, [.ref (P 4)])), (P 4, .inl (G.2 0, 40, .inl (nF gw))), (P 5, .inr (2, [.ref (P 6)])), (P 6, .inl (G.2 0, 40, .inl (nF gt))), (P 7, .inr (2, [.ref (P 8)])), (P 8, .inl (G.2 0, 3, .inl (nF gy)))]) hm hw hl hxs hst (c_checkArgument_x l G (by first | assumption | omega)) gX6_begin_X6_checkArgument rfl (by decide +kernel) ⟨by decide, by decide⟩ [] [0, 1, 2, 3, 4, 5, 6, 7, 8, 9] (by decide) rfl rfl (by decide) (by decide) rfl rfl (by simp [Value.category]) ⟨by decide, by decide⟩ dX6_begin_16 (fun q ce w1 H locs hp hw he1 he2 he3 => ?_)
    obtain rfl := hp
    have hw := hw.sub (ws' := wMain G o P h T L M ++ wPiece G P gk gw gt gy R sp) [0, 1, 2, 3, 4, 5, 6, 7, 8, 9] (by decide) rfl
    exact k_out hm hQ hnt hw (rfl) he1 he2 he3 (by decide) (by decide)
  · refine k_iload_n hm hl 1 rfl dX6_begin_5 ?_
    refine k_bipushN hm 12 dX6_begin_6 rfl ?_
    refine k_icmpgt (tgt := 15) hm dX6_begin_8 (by decide) (by omega) (fun c_3 => ?_) (fun c_3 => absurd c_3 (by omega))
    refine k_iconstN hm 0 dX6_begin_15 ?_
    refine k_callSx (n := 1) (As := [vN (0)]) (rest := []) (wr := [(o, .inr (6, [.ref (P 0), .ref (h), .ref (T 0), .ref (L 0), .ref (M 0)])), (P 0, .inr (4, [.ref (P 1), .ref (P 3), .ref (P 5), .ref (P 7), vN (R), vB (sp)])), (P 1, .inr (2, [.ref (P 2)])), (P 2, .inl (G.2 0, 4800, .inl (nF gk))), (P 3, .inr (2, [.ref (P 4)])), (P 4, .inl (G.2 0, 40, .inl (nF gw))), (P 5, .inr (2, [.ref (P 6)])), (P 6, .inl (G.2 0, 40, .inl (nF gt))), (P 7, .inr (2, [.ref (P 8)])), (P 8, .inl (G.2 0, 3, .inl (nF gy)))]) hm hw hl hxs hst (c_checkArgument_x l G (by first | assumption | omega)) gX6_begin_X6_checkArgument rfl (by decide +kernel) ⟨by decide, by decide⟩ [] [0, 1, 2, 3, 4, 5, 6, 7, 8, 9] (by decide) rfl rfl (by decide) (by decide) rfl rfl (by simp [Value.category]) ⟨by decide, by decide⟩ dX6_begin_16 (fun q ce w1 H locs hp hw he1 he2 he3 => ?_)
    obtain rfl := hp
    have hw := hw.sub (ws' := wMain G o P h T L M ++ wPiece G P gk gw gt gy R sp) [0, 1, 2, 3, 4, 5, 6, 7, 8, 9] (by decide) rfl
    exact k_out hm hQ hnt hw (rfl) he1 he2 he3 (by decide) (by decide)
set_option maxHeartbeats 4000000 in
set_option maxRecDepth 100000 in
theorem c_addRound_x1 (l : Launch) (G : kG) (o : Nat) (h : Nat) (T : Nat → Nat) (L : Nat → Nat) (M : Nat → Nat) (P : Nat → Nat) (gk : Nat → Nat) (gw : Nat → Nat) (gt : Nat → Nat) (gy : Nat → Nat) (R : Nat) (sp : Bool) (z : Int) (htr : l.stackTraces = false) (hz : -2147483648 ≤ z ∧ z < 2147483648) (hx : ¬ (3 ≤ z ∧ z ≤ 120)) : kXM l yX6_addRound wsX6_addRound 7 110 1 6 G [.ref (o), vZ (z)] (wMain G o P h T L M ++ wPiece G P gk gw gt gy R sp) "java/lang/IllegalArgumentException" (fun uu => uu = wMain G o P h T L M ++ wPiece G P gk gw gt gy R sp) := by
  refine kXM.of (cc := cX6_addRound) (maxL := 2) (ret := (some .int)) (by decide) rfl (Nat.le_of_ble_eq_true rfl) ?_
  intro p e s m args below meth c A ls Qz hQ hnt hxs hst hm hw hl
  obtain ⟨⟨sa1, hs1⟩, ⟨sa2, hs2⟩, ⟨sa3, hs3⟩, sa4, hs4⟩ := id hxs.2.1
  have hl : lv_has ls 2 [(0, .ref (o)), (1, vZ (z))] := hl
  have i6 : ∀ w ∈ wsX60, w ∈ wsX6_addRound := by decide +kernel
  refine k_iload_n hm hl 1 rfl dX6_addRound_0 ?_
  refine k_callSr (n := 1) (As := [vZ (z)]) (rest := []) hm hw hl (c_isGoal l G z (by first | assumption | omega)) gX6_addRound_X6_isGoal rfl (by decide +kernel) ⟨by decide, by decide⟩ [] (by decide) rfl rfl rfl (by simp [Value.category]) ⟨by decide, by decide⟩ dX6_addRound_1 (fun v H locs hp hw => ?_)
  obtain rfl := hp
  refine W.eq (g2 := F0 m 4 ls [vB (decide (3 ≤ z ∧ z ≤ 120))]) rfl ?_
  refine k_rwV (y := vB (false)) (by rw [decide_eq_false (by omega)]) ?_
  refine k_callSx (n := 1) (As := [vB (false)]) (rest := []) (wr := [(o, .inr (6, [.ref (P 0), .ref (h), .ref (T 0), .ref (L 0), .ref (M 0)])), (P 0, .inr (4, [.ref (P 1), .ref (P 3), .ref (P 5), .ref (P 7), vN (R), vB (sp)])), (P 1, .inr (2, [.ref (P 2)])), (P 2, .inl (G.2 0, 4800, .inl (nF gk))), (P 3, .inr (2, [.ref (P 4)])), (P 4, .inl (G.2 0, 40, .inl (nF gw))), (P 5, .inr (2, [.ref (P 6)])), (P 6, .inl (G.2 0, 40, .inl (nF gt))), (P 7, .inr (2, [.ref (P 8)])), (P 8, .inl (G.2 0, 3, .inl (nF gy)))]) hm hw hl hxs hst (c_checkArgument_x l G (by first | assumption | omega)) gX6_addRound_X6_checkArgument rfl (by decide +kernel) ⟨by decide, by decide⟩ [] [0, 1, 2, 3, 4, 5, 6, 7, 8, 9] (by decide) rfl rfl (by decide) (by decide) rfl rfl (by simp [Value.category]) ⟨by decide, by decide⟩ dX6_addRound_4 (fun q ce w1 H locs hp hw he1 he2 he3 => ?_)
  obtain rfl := hp
  have hw := hw.sub (ws' := wMain G o P h T L M ++ wPiece G P gk gw gt gy R sp) [0, 1, 2, 3, 4, 5, 6, 7, 8, 9] (by decide) rfl
  exact k_out hm hQ hnt hw (rfl) he1 he2 he3 (by decide) (by decide)
set_option maxHeartbeats 4000000 in
set_option maxRecDepth 100000 in
theorem c_addMirrored_x1 (l : Launch) (G : kG) (o : Nat) (h : Nat) (T : Nat → Nat) (L : Nat → Nat) (M : Nat → Nat) (P : Nat → Nat) (gk : Nat → Nat) (gw : Nat → Nat) (gt : Nat → Nat) (gy : Nat → Nat) (R : Nat) (sp : Bool) (z : Int) (htr : l.stackTraces = false) (hz : -2147483648 ≤ z ∧ z < 2147483648) (hx : ¬ (3 ≤ z ∧ z ≤ 120)) : kXM l yX6_addMirrored wsX6_addMirrored 7 110 1 6 G [.ref (o), vZ (z)] (wMain G o P h T L M ++ wPiece G P gk gw gt gy R sp) "java/lang/IllegalArgumentException" (fun uu => uu = wMain G o P h T L M ++ wPiece G P gk gw gt gy R sp) := by
  refine kXM.of (cc := cX6_addMirrored) (maxL := 2) (ret := (some .int)) (by decide) rfl (Nat.le_of_ble_eq_true rfl) ?_
  intro p e s m args below meth c A ls Qz hQ hnt hxs hst hm hw hl
  obtain ⟨⟨sa1, hs1⟩, ⟨sa2, hs2⟩, ⟨sa3, hs3⟩, sa4, hs4⟩ := id hxs.2.1
  have hl : lv_has ls 2 [(0, .ref (o)), (1, vZ (z))] := hl
  have i6 : ∀ w ∈ wsX60, w ∈ wsX6_addMirrored := by decide +kernel
  refine k_iload_n hm hl 1 rfl dX6_addMirrored_0 ?_
  refine k_callSr (n := 1) (As := [vZ (z)]) (rest := []) hm hw hl (c_isGoal l G z (by first | assumption | omega)) gX6_addMirrored_X6_isGoal rfl (by decide +kernel) ⟨by decide, by decide⟩ [] (by decide) rfl rfl rfl (by simp [Value.category]) ⟨by decide, by decide⟩ dX6_addMirrored_1 (fun v H locs hp hw => ?_)
  obtain rfl := hp
  refine W.eq (g2 := F0 m 4 ls [vB (decide (3 ≤ z ∧ z ≤ 120))]) rfl ?_
  refine k_rwV (y := vB (false)) (by rw [decide_eq_false (by omega)]) ?_
  refine k_callSx (n := 1) (As := [vB (false)]) (rest := []) (wr := [(o, .inr (6, [.ref (P 0), .ref (h), .ref (T 0), .ref (L 0), .ref (M 0)])), (P 0, .inr (4, [.ref (P 1), .ref (P 3), .ref (P 5), .ref (P 7), vN (R), vB (sp)])), (P 1, .inr (2, [.ref (P 2)])), (P 2, .inl (G.2 0, 4800, .inl (nF gk))), (P 3, .inr (2, [.ref (P 4)])), (P 4, .inl (G.2 0, 40, .inl (nF gw))), (P 5, .inr (2, [.ref (P 6)])), (P 6, .inl (G.2 0, 40, .inl (nF gt))), (P 7, .inr (2, [.ref (P 8)])), (P 8, .inl (G.2 0, 3, .inl (nF gy)))]) hm hw hl hxs hst (c_checkArgument_x l G (by first | assumption | omega)) gX6_addMirrored_X6_checkArgument rfl (by decide +kernel) ⟨by decide, by decide⟩ [] [0, 1, 2, 3, 4, 5, 6, 7, 8, 9] (by decide) rfl rfl (by decide) (by decide) rfl rfl (by simp [Value.category]) ⟨by decide, by decide⟩ dX6_addMirrored_4 (fun q ce w1 H locs hp hw he1 he2 he3 => ?_)
  obtain rfl := hp
  have hw := hw.sub (ws' := wMain G o P h T L M ++ wPiece G P gk gw gt gy R sp) [0, 1, 2, 3, 4, 5, 6, 7, 8, 9] (by decide) rfl
  exact k_out hm hQ hnt hw (rfl) he1 he2 he3 (by decide) (by decide)
set_option maxHeartbeats 4000000 in
set_option maxRecDepth 100000 in
theorem c_checkRoom_x (l : Launch) (G : kG) (o : Nat) (h : Nat) (T : Nat → Nat) (L : Nat → Nat) (M : Nat → Nat) (P : Nat → Nat) (gk : Nat → Nat) (gw : Nat → Nat) (gt : Nat → Nat) (gy : Nat → Nat) (R : Nat) (sp : Bool) (htr : l.stackTraces = false) (hR40 : 40 ≤ R ∧ R ≤ 40) : kXM l yX6_checkRoom wsX6_checkRoom 7 110 1 6 G [.ref (o)] (wMain G o P h T L M ++ wPiece G P gk gw gt gy R sp) "java/lang/IllegalStateException" (fun uu => uu = wMain G o P h T L M ++ wPiece G P gk gw gt gy R sp) := by
  refine kXM.of (cc := cX6_checkRoom) (maxL := 1) (ret := none) (by decide) rfl (Nat.le_of_ble_eq_true rfl) ?_
  intro p e s m args below meth c A ls Qz hQ hnt hxs hst hm hw hl
  obtain ⟨⟨sa1, hs1⟩, ⟨sa2, hs2⟩, ⟨sa3, hs3⟩, sa4, hs4⟩ := id hxs.2.1
  have hl : lv_has ls 1 [(0, .ref (o))] := hl
  have i4 : ∀ w ∈ wsX40, w ∈ wsX6_checkRoom := by decide +kernel
  have i6 : ∀ w ∈ wsX60, w ∈ wsX6_checkRoom := by decide +kernel
  refine k_aload_n hm hl 0 rfl dX6_checkRoom_0 ?_
  refine k_get (T := TX6) hm hw 0 0 i6 rfl rfl (by decide) (by decide +kernel) rfl dX6_checkRoom_1 ?_
  refine k_get (T := TX4) hm hw 1 4 i4 rfl rfl (by decide) (by decide +kernel) rfl dX6_checkRoom_4 ?_
  refine k_bipushN hm 40 dX6_checkRoom_7 rfl ?_
  refine k_icmpge (tgt := 16) hm dX6_checkRoom_9 (by decide) (by omega) (fun c_1 => ?_) (fun c_1 => absurd c_1 (by omega))
  refine k_iconstN hm 0 dX6_checkRoom_16 ?_
  refine k_callSx (n := 1) (As := [vN (0)]) (rest := []) (wr := [(o, .inr (6, [.ref (P 0), .ref (h), .ref (T 0), .ref (L 0), .ref (M 0)])), (P 0, .inr (4, [.ref (P 1), .ref (P 3), .ref (P 5), .ref (P 7), vN (R), vB (sp)])), (P 1, .inr (2, [.ref (P 2)])), (P 2, .inl (G.2 0, 4800, .inl (nF gk))), (P 3, .inr (2, [.ref (P 4)])), (P 4, .inl (G.2 0, 40, .inl (nF gw))), (P 5, .inr (2, [.ref (P 6)])), (P 6, .inl (G.2 0, 40, .inl (nF gt))), (P 7, .inr (2, [.ref (P 8)])), (P 8, .inl (G.2 0, 3, .inl (nF gy)))]) hm hw hl hxs hst (c_checkState_x l G (by first | assumption | omega)) gX6_checkRoom_X6_checkState rfl (by decide +kernel) ⟨by decide, by decide⟩ [] [0, 1, 2, 3, 4, 5, 6, 7, 8, 9] (by decide) rfl rfl (by decide) (by decide) rfl rfl (by simp [Value.category]) ⟨by decide, by decide⟩ dX6_checkRoom_17 (fun q ce w1 H locs hp hw he1 he2 he3 => ?_)
  obtain rfl := hp
  have hw := hw.sub (ws' := wMain G o P h T L M ++ wPiece G P gk gw gt gy R sp) [0, 1, 2, 3, 4, 5, 6, 7, 8, 9] (by decide) rfl
  exact k_out hm hQ hnt hw (rfl) he1 he2 he3 (by decide) (by decide)
set_option maxHeartbeats 4000000 in
set_option maxRecDepth 100000 in
theorem c_addRound_x2 (l : Launch) (G : kG) (o : Nat) (h : Nat) (T : Nat → Nat) (L : Nat → Nat) (M : Nat → Nat) (P : Nat → Nat) (gk : Nat → Nat) (gw : Nat → Nat) (gt : Nat → Nat) (gy : Nat → Nat) (R : Nat) (sp : Bool) (t : Nat) (htr : l.stackTraces = false) (ht : 3 ≤ t ∧ t ≤ 120) (hR40 : 40 ≤ R ∧ R ≤ 40) : kXM l yX6_addRound wsX6_addRound 8 130 1 6 G [.ref (o), vN (t)] (wMain G o P h T L M ++ wPiece G P gk gw gt gy R sp) "java/lang/IllegalStateException" (fun uu => uu = wMain G o P h T L M ++ wPiece G P gk gw gt gy R sp) := by
  refine kXM.of (cc := cX6_addRound) (maxL := 2) (ret := (some .int)) (by decide) rfl (Nat.le_of_ble_eq_true rfl) ?_
  intro p e s m args below meth c A ls Qz hQ hnt hxs hst hm hw hl
  obtain ⟨⟨sa1, hs1⟩, ⟨sa2, hs2⟩, ⟨sa3, hs3⟩, sa4, hs4⟩ := id hxs.2.1
  have hl : lv_has ls 2 [(0, .ref (o)), (1, vN (t))] := hl
  have i6 : ∀ w ∈ wsX60, w ∈ wsX6_addRound := by decide +kernel
  refine k_iload_n hm hl 1 rfl dX6_addRound_0 ?_
  refine k_callSr (n := 1) (As := [vN (t)]) (rest := []) hm hw hl (c_isGoal l G ((t : Nat) : Int) (by first | assumption | omega)) gX6_addRound_X6_isGoal rfl (by decide +kernel) ⟨by decide, by decide⟩ [] (by decide) rfl rfl rfl (by simp [Value.category]) ⟨by decide, by decide⟩ dX6_addRound_1 (fun v H locs hp hw => ?_)
  obtain rfl := hp
  refine W.eq (g2 := F0 m 4 ls [vB (decide (3 ≤ ((t : Nat) : Int) ∧ ((t : Nat) : Int) ≤ 120))]) rfl ?_
  refine k_rwV (y := vB (true)) (by rw [decide_eq_true (by omega)]) ?_
  refine k_callSr (n := 1) (As := [vB (true)]) (rest := []) hm hw hl (c_checkArgument_ok l G ) gX6_addRound_X6_checkArgument rfl (by decide +kernel) ⟨by decide, by decide⟩ [] (by decide) rfl rfl rfl (by simp [Value.category]) ⟨by decide, by decide⟩ dX6_addRound_4 (fun v H locs hp hw => ?_)
  obtain rfl := hp
  refine W.eq (g2 := F0 m 7 ls []) rfl ?_
  refine k_aload_n hm hl 0 rfl dX6_addRound_7 ?_
  refine k_callVx (n := 0) (As := []) (rest := []) (wr := []) hm hw hl hxs hst (c_checkRoom_x l G o h T L M P gk gw gt gy R sp (by first | assumption | omega) (by first | assumption | omega)) gX6_addRound_X6_checkRoom rfl (by decide +kernel) ⟨by decide, by decide⟩ (ci := 6) rfl 0 rfl [0, 1, 2, 3, 4, 5, 6, 7, 8, 9] [] (by decide) rfl rfl (by decide) (by decide) rfl rfl (by simp [Value.category]) ⟨by decide, by decide⟩ dX6_addRound_8 (fun q ce w1 H locs hp hw he1 he2 he3 => ?_)
  obtain rfl := hp
  have hw := hw.sub (ws' := wMain G o P h T L M ++ wPiece G P gk gw gt gy R sp) [0, 1, 2, 3, 4, 5, 6, 7, 8, 9] (by decide) rfl
  exact k_out hm hQ hnt hw (rfl) he1 he2 he3 (by decide) (by decide)
set_option maxHeartbeats 4000000 in
set_option maxRecDepth 100000 in
theorem c_addRound_x3 (l : Launch) (G : kG) (o : Nat) (h : Nat) (T : Nat → Nat) (L : Nat → Nat) (M : Nat → Nat) (P : Nat → Nat) (gk : Nat → Nat) (gw : Nat → Nat) (gt : Nat → Nat) (gy : Nat → Nat) (R : Nat) (sp : Bool) (f : Nat → Nat) (wk : Nat) (sd : Nat) (kd : Nat) (K : Nat → Nat → Nat) (w : Nat → Nat) (y : Nat → Nat) (t : Nat) (htr : l.stackTraces = false) (hok : POk gk gw gt gy R K w y) (ht : 3 ≤ t ∧ t ≤ 120) (hR40 : R < 40) (hpo : ¬ isPo (sumM (K (R - 1)) (w (R - 1))) t) : kXM l yX6_addRound wsX6_addRound 8 130 1 6 G [.ref (o), vN (t)] (wMain G o P h T L M ++ (wPiece G P gk gw gt gy R sp ++ wPlan G L f wk sd kd)) "java/lang/UnsupportedOperationException" (fun uu => ∃ (f2 : Nat → Nat), uu = wMain G o P h T L M ++ (wPiece G P gk gw gt gy R sp ++ wPlan G L f2 (pm (sumM (K (R - 1)) (w (R - 1))) t) (pd (sumM (K (R - 1)) (w (R - 1))) t) (pk (sumM (K (R - 1)) (w (R - 1))) t))) := by
  refine kXM.of (cc := cX6_addRound) (maxL := 2) (ret := (some .int)) (by decide) rfl (Nat.le_of_ble_eq_true rfl) ?_
  intro p e s m args below meth c A ls Qz hQ hnt hxs hst hm hw hl
  obtain ⟨⟨sa1, hs1⟩, ⟨sa2, hs2⟩, ⟨sa3, hs3⟩, sa4, hs4⟩ := id hxs.2.1
  have hl : lv_has ls 2 [(0, .ref (o)), (1, vN (t))] := hl
  have i6 : ∀ w ∈ wsX60, w ∈ wsX6_addRound := by decide +kernel
  have hll := PVd_last hok.1
  have hR := hok.1.1
  refine k_iload_n hm hl 1 rfl dX6_addRound_0 ?_
  refine k_callSr (n := 1) (As := [vN (t)]) (rest := []) hm hw hl (c_isGoal l G ((t : Nat) : Int) (by first | assumption | omega)) gX6_addRound_X6_isGoal rfl (by decide +kernel) ⟨by decide, by decide⟩ [] (by decide) rfl rfl rfl (by simp [Value.category]) ⟨by decide, by decide⟩ dX6_addRound_1 (fun v H locs hp hw => ?_)
  obtain rfl := hp
  refine W.eq (g2 := F0 m 4 ls [vB (decide (3 ≤ ((t : Nat) : Int) ∧ ((t : Nat) : Int) ≤ 120))]) rfl ?_
  refine k_rwV (y := vB (true)) (by rw [decide_eq_true (by omega)]) ?_
  refine k_callSr (n := 1) (As := [vB (true)]) (rest := []) hm hw hl (c_checkArgument_ok l G ) gX6_addRound_X6_checkArgument rfl (by decide +kernel) ⟨by decide, by decide⟩ [] (by decide) rfl rfl rfl (by simp [Value.category]) ⟨by decide, by decide⟩ dX6_addRound_4 (fun v H locs hp hw => ?_)
  obtain rfl := hp
  refine W.eq (g2 := F0 m 7 ls []) rfl ?_
  refine k_aload_n hm hl 0 rfl dX6_addRound_7 ?_
  refine k_callVr (n := 0) (As := []) (rest := []) hm hw hl (c_checkRoom_ok l G o h T L M P gk gw gt gy R sp (by first | assumption | omega)) gX6_addRound_X6_checkRoom rfl (by decide +kernel) ⟨by decide, by decide⟩ (ci := 6) rfl 0 rfl [0, 1, 2, 3, 4, 5, 6, 7, 8, 9] (by decide) rfl rfl rfl (by simp [Value.category]) ⟨by decide, by decide⟩ dX6_addRound_8 (fun v H locs hp hw => ?_)
  obtain rfl := hp
  refine W.eq (g2 := F0 m 11 ls []) rfl ?_
  refine k_aload_n hm hl 0 rfl dX6_addRound_11 ?_
  refine k_get (T := TX6) hm hw 0 3 i6 rfl rfl (by decide) (by decide +kernel) rfl dX6_addRound_12 ?_
  refine k_aload_n hm hl 0 rfl dX6_addRound_15 ?_
  refine k_get (T := TX6) hm hw 0 0 i6 rfl rfl (by decide) (by decide +kernel) rfl dX6_addRound_16 ?_
  refine k_callVr (n := 0) (As := []) (rest := [.ref (L 0)]) hm hw hl (c_lastTotal l G P gk gw gt gy R sp K w y (by first | assumption | omega)) gX6_addRound_X4_lastTotal rfl (by decide +kernel) ⟨by decide, by decide⟩ (ci := 4) rfl 1 rfl [1, 2, 3, 4, 5, 6, 7, 8, 9] (by decide) rfl rfl rfl (by simp [Value.category]) ⟨by decide, by decide⟩ dX6_addRound_19 (fun v H locs hp hw => ?_)
  obtain rfl := hp
  refine W.eq (g2 := F0 m 22 ls [vN (sumM (K (R - 1)) (w (R - 1))), .ref (L 0)]) rfl ?_
  refine k_iload_n hm hl 1 rfl dX6_addRound_22 ?_
  refine k_callV (n := 2) (As := [vN (sumM (K (R - 1)) (w (R - 1))), vN (t)]) (rest := []) (wr := [(o, .inr (6, [.ref (P 0), .ref (h), .ref (T 0), .ref (L 0), .ref (M 0)])), (P 0, .inr (4, [.ref (P 1), .ref (P 3), .ref (P 5), .ref (P 7), vN (R), vB (sp)])), (P 1, .inr (2, [.ref (P 2)])), (P 2, .inl (G.2 0, 4800, .inl (nF gk))), (P 3, .inr (2, [.ref (P 4)])), (P 4, .inl (G.2 0, 40, .inl (nF gw))), (P 5, .inr (2, [.ref (P 6)])), (P 6, .inl (G.2 0, 40, .inl (nF gt))), (P 7, .inr (2, [.ref (P 8)])), (P 8, .inl (G.2 0, 3, .inl (nF gy)))]) hm hw hl (c_spread l G L f wk sd kd (sumM (K (R - 1)) (w (R - 1))) t (by first | assumption | omega)) gX6_addRound_X5_spread rfl (by decide +kernel) ⟨by decide, by decide⟩ (ci := 5) rfl 10 rfl [10, 11, 12] [0, 1, 2, 3, 4, 5, 6, 7, 8, 9] (by decide) rfl rfl (by decide) (by decide) rfl rfl (by simp [Value.category]) ⟨by decide, by decide⟩ dX6_addRound_23 (fun v w1 H locs hp hw => ?_)
  obtain ⟨b_6, f2_7, rfl, rfl, hb_8, hf_9⟩ := hp
  have hw := hw.sub (ws' := wMain G o P h T L M ++ (wPiece G P gk gw gt gy R sp ++ wPlan G L f2_7 (pm (sumM (K (R - 1)) (w (R - 1))) t) (pd (sumM (K (R - 1)) (w (R - 1))) t) (pk (sumM (K (R - 1)) (w (R - 1))) t))) [0, 1, 2, 3, 4, 5, 6, 7, 8, 9, 10, 11, 12] (by decide) rfl
  refine W.eq (g2 := F0 m 26 ls [vB (b_6)]) rfl ?_
  have hbs := hb_8
  refine k_rwV (y := vB (false)) (by rw [show b_6 = false from by cases hq : b_6 with | false => rfl | true => exact absurd (hbs.mp hq) hpo]) ?_
  refine k_callSx (n := 1) (As := [vB (false)]) (rest := []) (wr := [(o, .inr (6, [.ref (P 0), .ref (h), .ref (T 0), .ref (L 0), .ref (M 0)])), (P 0, .inr (4, [.ref (P 1), .ref (P 3), .ref (P 5), .ref (P 7), vN (R), vB (sp)])), (P 1, .inr (2, [.ref (P 2)])), (P 2, .inl (G.2 0, 4800, .inl (nF gk))), (P 3, .inr (2, [.ref (P 4)])), (P 4, .inl (G.2 0, 40, .inl (nF gw))), (P 5, .inr (2, [.ref (P 6)])), (P 6, .inl (G.2 0, 40, .inl (nF gt))), (P 7, .inr (2, [.ref (P 8)])), (P 8, .inl (G.2 0, 3, .inl (nF gy))), (L 0, .inr (5, [.ref (L 1), vN (pm (sumM (K (R - 1)) (w (R - 1))) t), vN (pd (sumM (K (R - 1)) (w (R - 1))) t), vN (pk (sumM (K (R - 1)) (w (R - 1))) t)])), (L 1, .inr (2, [.ref (L 2)])), (L 2, .inl (G.2 0, 120, .inl (nF f2_7)))]) hm hw hl hxs hst (c_checkPossible_x l G (by first | assumption | omega)) gX6_addRound_X6_checkPossible rfl (by decide +kernel) ⟨by decide, by decide⟩ [] [0, 1, 2, 3, 4, 5, 6, 7, 8, 9, 10, 11, 12] (by decide) rfl rfl (by decide) (by decide) rfl rfl (by simp [Value.category]) ⟨by decide, by decide⟩ dX6_addRound_26 (fun q ce w1 H locs hp hw he1 he2 he3 => ?_)
  obtain rfl := hp
  have hw := hw.sub (ws' := wMain G o P h T L M ++ (wPiece G P gk gw gt gy R sp ++ wPlan G L f2_7 (pm (sumM (K (R - 1)) (w (R - 1))) t) (pd (sumM (K (R - 1)) (w (R - 1))) t) (pk (sumM (K (R - 1)) (w (R - 1))) t))) [0, 1, 2, 3, 4, 5, 6, 7, 8, 9, 10, 11, 12] (by decide) rfl
  exact k_out hm hQ hnt hw (⟨_, rfl⟩) he1 he2 he3 (by decide) (by decide)
set_option maxHeartbeats 4000000 in
set_option maxRecDepth 100000 in
theorem c_addMirrored_x2 (l : Launch) (G : kG) (o : Nat) (h : Nat) (T : Nat → Nat) (L : Nat → Nat) (M : Nat → Nat) (P : Nat → Nat) (gk : Nat → Nat) (gw : Nat → Nat) (gt : Nat → Nat) (gy : Nat → Nat) (R : Nat) (sp : Bool) (t : Nat) (htr : l.stackTraces = false) (ht : 3 ≤ t ∧ t ≤ 120) (hR40 : 40 ≤ R ∧ R ≤ 40) : kXM l yX6_addMirrored wsX6_addMirrored 8 130 1 6 G [.ref (o), vN (t)] (wMain G o P h T L M ++ wPiece G P gk gw gt gy R sp) "java/lang/IllegalStateException" (fun uu => uu = wMain G o P h T L M ++ wPiece G P gk gw gt gy R sp) := by
  refine kXM.of (cc := cX6_addMirrored) (maxL := 2) (ret := (some .int)) (by decide) rfl (Nat.le_of_ble_eq_true rfl) ?_
  intro p e s m args below meth c A ls Qz hQ hnt hxs hst hm hw hl
  obtain ⟨⟨sa1, hs1⟩, ⟨sa2, hs2⟩, ⟨sa3, hs3⟩, sa4, hs4⟩ := id hxs.2.1
  have hl : lv_has ls 2 [(0, .ref (o)), (1, vN (t))] := hl
  have i6 : ∀ w ∈ wsX60, w ∈ wsX6_addMirrored := by decide +kernel
  refine k_iload_n hm hl 1 rfl dX6_addMirrored_0 ?_
  refine k_callSr (n := 1) (As := [vN (t)]) (rest := []) hm hw hl (c_isGoal l G ((t : Nat) : Int) (by first | assumption | omega)) gX6_addMirrored_X6_isGoal rfl (by decide +kernel) ⟨by decide, by decide⟩ [] (by decide) rfl rfl rfl (by simp [Value.category]) ⟨by decide, by decide⟩ dX6_addMirrored_1 (fun v H locs hp hw => ?_)
  obtain rfl := hp
  refine W.eq (g2 := F0 m 4 ls [vB (decide (3 ≤ ((t : Nat) : Int) ∧ ((t : Nat) : Int) ≤ 120))]) rfl ?_
  refine k_rwV (y := vB (true)) (by rw [decide_eq_true (by omega)]) ?_
  refine k_callSr (n := 1) (As := [vB (true)]) (rest := []) hm hw hl (c_checkArgument_ok l G ) gX6_addMirrored_X6_checkArgument rfl (by decide +kernel) ⟨by decide, by decide⟩ [] (by decide) rfl rfl rfl (by simp [Value.category]) ⟨by decide, by decide⟩ dX6_addMirrored_4 (fun v H locs hp hw => ?_)
  obtain rfl := hp
  refine W.eq (g2 := F0 m 7 ls []) rfl ?_
  refine k_aload_n hm hl 0 rfl dX6_addMirrored_7 ?_
  refine k_callVx (n := 0) (As := []) (rest := []) (wr := []) hm hw hl hxs hst (c_checkRoom_x l G o h T L M P gk gw gt gy R sp (by first | assumption | omega) (by first | assumption | omega)) gX6_addMirrored_X6_checkRoom rfl (by decide +kernel) ⟨by decide, by decide⟩ (ci := 6) rfl 0 rfl [0, 1, 2, 3, 4, 5, 6, 7, 8, 9] [] (by decide) rfl rfl (by decide) (by decide) rfl rfl (by simp [Value.category]) ⟨by decide, by decide⟩ dX6_addMirrored_8 (fun q ce w1 H locs hp hw he1 he2 he3 => ?_)
  obtain rfl := hp
  have hw := hw.sub (ws' := wMain G o P h T L M ++ wPiece G P gk gw gt gy R sp) [0, 1, 2, 3, 4, 5, 6, 7, 8, 9] (by decide) rfl
  exact k_out hm hQ hnt hw (rfl) he1 he2 he3 (by decide) (by decide)
set_option maxHeartbeats 4000000 in
set_option maxRecDepth 100000 in
theorem c_addMirrored_x3 (l : Launch) (G : kG) (o : Nat) (h : Nat) (T : Nat → Nat) (L : Nat → Nat) (M : Nat → Nat) (P : Nat → Nat) (gk : Nat → Nat) (gw : Nat → Nat) (gt : Nat → Nat) (gy : Nat → Nat) (R : Nat) (sp : Bool) (f : Nat → Nat) (wk : Nat) (sd : Nat) (kd : Nat) (K : Nat → Nat → Nat) (w : Nat → Nat) (y : Nat → Nat) (t : Nat) (htr : l.stackTraces = false) (hok : POk gk gw gt gy R K w y) (ht : 3 ≤ t ∧ t ≤ 120) (hR40 : R < 40) (hpo : ¬ (isPo (sumM (K (R - 1)) (w (R - 1))) t ∧ ¬ (pd (sumM (K (R - 1)) (w (R - 1))) t % 2 = 1 ∧ pm (sumM (K (R - 1)) (w (R - 1))) t % 2 = 0))) : kXM l yX6_addMirrored wsX6_addMirrored 8 130 1 6 G [.ref (o), vN (t)] (wMain G o P h T L M ++ (wPiece G P gk gw gt gy R sp ++ wPlan G L f wk sd kd)) "java/lang/UnsupportedOperationException" (fun uu => ∃ (f2 : Nat → Nat), uu = wMain G o P h T L M ++ (wPiece G P gk gw gt gy R sp ++ wPlan G L f2 (pm (sumM (K (R - 1)) (w (R - 1))) t) (pd (sumM (K (R - 1)) (w (R - 1))) t) (pk (sumM (K (R - 1)) (w (R - 1))) t))) := by
  refine kXM.of (cc := cX6_addMirrored) (maxL := 2) (ret := (some .int)) (by decide) rfl (Nat.le_of_ble_eq_true rfl) ?_
  intro p e s m args below meth c A ls Qz hQ hnt hxs hst hm hw hl
  obtain ⟨⟨sa1, hs1⟩, ⟨sa2, hs2⟩, ⟨sa3, hs3⟩, sa4, hs4⟩ := id hxs.2.1
  have hl : lv_has ls 2 [(0, .ref (o)), (1, vN (t))] := hl
  have i6 : ∀ w ∈ wsX60, w ∈ wsX6_addMirrored := by decide +kernel
  have hll := PVd_last hok.1
  have hR := hok.1.1
  refine k_iload_n hm hl 1 rfl dX6_addMirrored_0 ?_
  refine k_callSr (n := 1) (As := [vN (t)]) (rest := []) hm hw hl (c_isGoal l G ((t : Nat) : Int) (by first | assumption | omega)) gX6_addMirrored_X6_isGoal rfl (by decide +kernel) ⟨by decide, by decide⟩ [] (by decide) rfl rfl rfl (by simp [Value.category]) ⟨by decide, by decide⟩ dX6_addMirrored_1 (fun v H locs hp hw => ?_)
  obtain rfl := hp
  refine W.eq (g2 := F0 m 4 ls [vB (decide (3 ≤ ((t : Nat) : Int) ∧ ((t : Nat) : Int) ≤ 120))]) rfl ?_
  refine k_rwV (y := vB (true)) (by rw [decide_eq_true (by omega)]) ?_
  refine k_callSr (n := 1) (As := [vB (true)]) (rest := []) hm hw hl (c_checkArgument_ok l G ) gX6_addMirrored_X6_checkArgument rfl (by decide +kernel) ⟨by decide, by decide⟩ [] (by decide) rfl rfl rfl (by simp [Value.category]) ⟨by decide, by decide⟩ dX6_addMirrored_4 (fun v H locs hp hw => ?_)
  obtain rfl := hp
  refine W.eq (g2 := F0 m 7 ls []) rfl ?_
  refine k_aload_n hm hl 0 rfl dX6_addMirrored_7 ?_
  refine k_callVr (n := 0) (As := []) (rest := []) hm hw hl (c_checkRoom_ok l G o h T L M P gk gw gt gy R sp (by first | assumption | omega)) gX6_addMirrored_X6_checkRoom rfl (by decide +kernel) ⟨by decide, by decide⟩ (ci := 6) rfl 0 rfl [0, 1, 2, 3, 4, 5, 6, 7, 8, 9] (by decide) rfl rfl rfl (by simp [Value.category]) ⟨by decide, by decide⟩ dX6_addMirrored_8 (fun v H locs hp hw => ?_)
  obtain rfl := hp
  refine W.eq (g2 := F0 m 11 ls []) rfl ?_
  refine k_aload_n hm hl 0 rfl dX6_addMirrored_11 ?_
  refine k_get (T := TX6) hm hw 0 3 i6 rfl rfl (by decide) (by decide +kernel) rfl dX6_addMirrored_12 ?_
  refine k_aload_n hm hl 0 rfl dX6_addMirrored_15 ?_
  refine k_get (T := TX6) hm hw 0 0 i6 rfl rfl (by decide) (by decide +kernel) rfl dX6_addMirrored_16 ?_
  refine k_callVr (n := 0) (As := []) (rest := [.ref (L 0)]) hm hw hl (c_lastTotal l G P gk gw gt gy R sp K w y (by first | assumption | omega)) gX6_addMirrored_X4_lastTotal rfl (by decide +kernel) ⟨by decide, by decide⟩ (ci := 4) rfl 1 rfl [1, 2, 3, 4, 5, 6, 7, 8, 9] (by decide) rfl rfl rfl (by simp [Value.category]) ⟨by decide, by decide⟩ dX6_addMirrored_19 (fun v H locs hp hw => ?_)
  obtain rfl := hp
  refine W.eq (g2 := F0 m 22 ls [vN (sumM (K (R - 1)) (w (R - 1))), .ref (L 0)]) rfl ?_
  refine k_iload_n hm hl 1 rfl dX6_addMirrored_22 ?_
  refine k_callV (n := 2) (As := [vN (sumM (K (R - 1)) (w (R - 1))), vN (t)]) (rest := []) (wr := [(o, .inr (6, [.ref (P 0), .ref (h), .ref (T 0), .ref (L 0), .ref (M 0)])), (P 0, .inr (4, [.ref (P 1), .ref (P 3), .ref (P 5), .ref (P 7), vN (R), vB (sp)])), (P 1, .inr (2, [.ref (P 2)])), (P 2, .inl (G.2 0, 4800, .inl (nF gk))), (P 3, .inr (2, [.ref (P 4)])), (P 4, .inl (G.2 0, 40, .inl (nF gw))), (P 5, .inr (2, [.ref (P 6)])), (P 6, .inl (G.2 0, 40, .inl (nF gt))), (P 7, .inr (2, [.ref (P 8)])), (P 8, .inl (G.2 0, 3, .inl (nF gy)))]) hm hw hl (c_mirror l G L f wk sd kd (sumM (K (R - 1)) (w (R - 1))) t (by first | assumption | omega)) gX6_addMirrored_X5_mirror rfl (by decide +kernel) ⟨by decide, by decide⟩ (ci := 5) rfl 10 rfl [10, 11, 12] [0, 1, 2, 3, 4, 5, 6, 7, 8, 9] (by decide) rfl rfl (by decide) (by decide) rfl rfl (by simp [Value.category]) ⟨by decide, by decide⟩ dX6_addMirrored_23 (fun v w1 H locs hp hw => ?_)
  obtain ⟨b_6, f2_7, rfl, rfl, hb_8, hf_9⟩ := hp
  have hw := hw.sub (ws' := wMain G o P h T L M ++ (wPiece G P gk gw gt gy R sp ++ wPlan G L f2_7 (pm (sumM (K (R - 1)) (w (R - 1))) t) (pd (sumM (K (R - 1)) (w (R - 1))) t) (pk (sumM (K (R - 1)) (w (R - 1))) t))) [0, 1, 2, 3, 4, 5, 6, 7, 8, 9, 10, 11, 12] (by decide) rfl
  refine W.eq (g2 := F0 m 26 ls [vB (b_6)]) rfl ?_
  have hbs := hb_8
  refine k_rwV (y := vB (false)) (by rw [show b_6 = false from by cases hq : b_6 with | false => rfl | true => exact absurd (hbs.mp hq) hpo]) ?_
  refine k_callSx (n := 1) (As := [vB (false)]) (rest := []) (wr := [(o, .inr (6, [.ref (P 0), .ref (h), .ref (T 0), .ref (L 0), .ref (M 0)])), (P 0, .inr (4, [.ref (P 1), .ref (P 3), .ref (P 5), .ref (P 7), vN (R), vB (sp)])), (P 1, .inr (2, [.ref (P 2)])), (P 2, .inl (G.2 0, 4800, .inl (nF gk))), (P 3, .inr (2, [.ref (P 4)])), (P 4, .inl (G.2 0, 40, .inl (nF gw))), (P 5, .inr (2, [.ref (P 6)])), (P 6, .inl (G.2 0, 40, .inl (nF gt))), (P 7, .inr (2, [.ref (P 8)])), (P 8, .inl (G.2 0, 3, .inl (nF gy))), (L 0, .inr (5, [.ref (L 1), vN (pm (sumM (K (R - 1)) (w (R - 1))) t), vN (pd (sumM (K (R - 1)) (w (R - 1))) t), vN (pk (sumM (K (R - 1)) (w (R - 1))) t)])), (L 1, .inr (2, [.ref (L 2)])), (L 2, .inl (G.2 0, 120, .inl (nF f2_7)))]) hm hw hl hxs hst (c_checkPossible_x l G (by first | assumption | omega)) gX6_addMirrored_X6_checkPossible rfl (by decide +kernel) ⟨by decide, by decide⟩ [] [0, 1, 2, 3, 4, 5, 6, 7, 8, 9, 10, 11, 12] (by decide) rfl rfl (by decide) (by decide) rfl rfl (by simp [Value.category]) ⟨by decide, by decide⟩ dX6_addMirrored_26 (fun q ce w1 H locs hp hw he1 he2 he3 => ?_)
  obtain rfl := hp
  have hw := hw.sub (ws' := wMain G o P h T L M ++ (wPiece G P gk gw gt gy R sp ++ wPlan G L f2_7 (pm (sumM (K (R - 1)) (w (R - 1))) t) (pd (sumM (K (R - 1)) (w (R - 1))) t) (pk (sumM (K (R - 1)) (w (R - 1))) t))) [0, 1, 2, 3, 4, 5, 6, 7, 8, 9, 10, 11, 12] (by decide) rfl
  exact k_out hm hQ hnt hw (⟨_, rfl⟩) he1 he2 he3 (by decide) (by decide)
set_option maxHeartbeats 4000000 in
set_option maxRecDepth 100000 in
theorem c_addShifted_x1 (l : Launch) (G : kG) (o : Nat) (h : Nat) (T : Nat → Nat) (L : Nat → Nat) (M : Nat → Nat) (P : Nat → Nat) (gk : Nat → Nat) (gw : Nat → Nat) (gt : Nat → Nat) (gy : Nat → Nat) (R : Nat) (sp : Bool) (z : Int) (x : Int) (htr : l.stackTraces = false) (hzz : -2147483648 ≤ z ∧ z < 2147483648) (hzx : -2147483648 ≤ x ∧ x < 2147483648) (hx : ¬ ((3 ≤ z ∧ z ≤ 120) ∧ 0 ≤ x ∧ x < 120)) : kXM l yX6_addShifted wsX6_addShifted 8 130 1 6 G [.ref (o), vZ (z), vZ (x)] (wMain G o P h T L M ++ wPiece G P gk gw gt gy R sp) "java/lang/IllegalArgumentException" (fun uu => uu = wMain G o P h T L M ++ wPiece G P gk gw gt gy R sp) := by
  refine kXM.of (cc := cX6_addShifted) (maxL := 3) (ret := (some .int)) (by decide) rfl (Nat.le_of_ble_eq_true rfl) ?_
  intro p e s m args below meth c A ls Qz hQ hnt hxs hst hm hw hl
  obtain ⟨⟨sa1, hs1⟩, ⟨sa2, hs2⟩, ⟨sa3, hs3⟩, sa4, hs4⟩ := id hxs.2.1
  have hl : lv_has ls 3 [(0, .ref (o)), (1, vZ (z)), (2, vZ (x))] := hl
  have i6 : ∀ w ∈ wsX60, w ∈ wsX6_addShifted := by decide +kernel
  refine k_iload_n hm hl 1 rfl dX6_addShifted_0 ?_
  refine k_callSr (n := 1) (As := [vZ (z)]) (rest := []) hm hw hl (c_isGoal l G z (by first | assumption | omega)) gX6_addShifted_X6_isGoal rfl (by decide +kernel) ⟨by decide, by decide⟩ [] (by decide) rfl rfl rfl (by simp [Value.category]) ⟨by decide, by decide⟩ dX6_addShifted_1 (fun v H locs hp hw => ?_)
  obtain rfl := hp
  refine W.eq (g2 := F0 m 4 ls [vB (decide (3 ≤ z ∧ z ≤ 120))]) rfl ?_
  refine k_ifeqB (tgt := 18) hm dX6_addShifted_4 (by decide) (fun c_2 => ?_) (fun c_2 => ?_)
  · have c_2d := of_decide_eq_false c_2
    refine k_iconstN hm 0 dX6_addShifted_18 ?_
    refine k_callSx (n := 1) (As := [vN (0)]) (rest := []) (wr := [(o, .inr (6, [.ref (P 0), .ref (h), .ref (T 0), .ref (L 0), .ref (M 0)])), (P 0, .inr (4, [.ref (P 1), .ref (P 3), .ref (P 5), .ref (P 7), vN (R), vB (sp)])), (P 1, .inr (2, [.ref (P 2)])), (P 2, .inl (G.2 0, 4800, .inl (nF gk))), (P 3, .inr (2, [.ref (P 4)])), (P 4, .inl (G.2 0, 40, .inl (nF gw))), (P 5, .inr (2, [.ref (P 6)])), (P 6, .inl (G.2 0, 40, .inl (nF gt))), (P 7, .inr (2, [.ref (P 8)])), (P 8, .inl (G.2 0, 3, .inl (nF gy)))]) hm hw hl hxs hst (c_checkArgument_x l G (by first | assumption | omega)) gX6_addShifted_X6_checkArgument rfl (by decide +kernel) ⟨by decide, by decide⟩ [] [0, 1, 2, 3, 4, 5, 6, 7, 8, 9] (by decide) rfl rfl (by decide) (by decide) rfl rfl (by simp [Value.category]) ⟨by decide, by decide⟩ dX6_addShifted_19 (fun q ce w1 H locs hp hw he1 he2 he3 => ?_)
    obtain rfl := hp
    have hw := hw.sub (ws' := wMain G o P h T L M ++ wPiece G P gk gw gt gy R sp) [0, 1, 2, 3, 4, 5, 6, 7, 8, 9] (by decide) rfl
    exact k_out hm hQ hnt hw (rfl) he1 he2 he3 (by decide) (by decide)
  · have c_2d := of_decide_eq_true c_2
    refine k_iload_n hm hl 2 rfl dX6_addShifted_7 ?_
    refine k_callSr (n := 1) (As := [vZ (x)]) (rest := []) hm hw hl (c_isShift l G x (by first | assumption | omega)) gX6_addShifted_X6_isShift rfl (by decide +kernel) ⟨by decide, by decide⟩ [] (by decide) rfl rfl rfl (by simp [Value.category]) ⟨by decide, by decide⟩ dX6_addShifted_8 (fun v H locs hp hw => ?_)
    obtain rfl := hp
    refine W.eq (g2 := F0 m 11 ls [vB (decide (0 ≤ x ∧ x < 120))]) rfl ?_
    refine k_ifeqB (tgt := 18) hm dX6_addShifted_11 (by decide) (fun c_5 => ?_) (fun c_5 => absurd (of_decide_eq_true c_5) (by omega))
    refine k_iconstN hm 0 dX6_addShifted_18 ?_
    refine k_callSx (n := 1) (As := [vN (0)]) (rest := []) (wr := [(o, .inr (6, [.ref (P 0), .ref (h), .ref (T 0), .ref (L 0), .ref (M 0)])), (P 0, .inr (4, [.ref (P 1), .ref (P 3), .ref (P 5), .ref (P 7), vN (R), vB (sp)])), (P 1, .inr (2, [.ref (P 2)])), (P 2, .inl (G.2 0, 4800, .inl (nF gk))), (P 3, .inr (2, [.ref (P 4)])), (P 4, .inl (G.2 0, 40, .inl (nF gw))), (P 5, .inr (2, [.ref (P 6)])), (P 6, .inl (G.2 0, 40, .inl (nF gt))), (P 7, .inr (2, [.ref (P 8)])), (P 8, .inl (G.2 0, 3, .inl (nF gy)))]) hm hw hl hxs hst (c_checkArgument_x l G (by first | assumption | omega)) gX6_addShifted_X6_checkArgument rfl (by decide +kernel) ⟨by decide, by decide⟩ [] [0, 1, 2, 3, 4, 5, 6, 7, 8, 9] (by decide) rfl rfl (by decide) (by decide) rfl rfl (by simp [Value.category]) ⟨by decide, by decide⟩ dX6_addShifted_19 (fun q ce w1 H locs hp hw he1 he2 he3 => ?_)
    obtain rfl := hp
    have hw := hw.sub (ws' := wMain G o P h T L M ++ wPiece G P gk gw gt gy R sp) [0, 1, 2, 3, 4, 5, 6, 7, 8, 9] (by decide) rfl
    exact k_out hm hQ hnt hw (rfl) he1 he2 he3 (by decide) (by decide)
set_option maxHeartbeats 4000000 in
set_option maxRecDepth 100000 in
theorem c_addShifted_x2 (l : Launch) (G : kG) (o : Nat) (h : Nat) (T : Nat → Nat) (L : Nat → Nat) (M : Nat → Nat) (P : Nat → Nat) (gk : Nat → Nat) (gw : Nat → Nat) (gt : Nat → Nat) (gy : Nat → Nat) (R : Nat) (sp : Bool) (t : Nat) (x : Nat) (htr : l.stackTraces = false) (ht : 3 ≤ t ∧ t ≤ 120) (hx : x < 120) (hR40 : 40 ≤ R ∧ R ≤ 40) : kXM l yX6_addShifted wsX6_addShifted 8 130 1 6 G [.ref (o), vN (t), vN (x)] (wMain G o P h T L M ++ wPiece G P gk gw gt gy R sp) "java/lang/IllegalStateException" (fun uu => uu = wMain G o P h T L M ++ wPiece G P gk gw gt gy R sp) := by
  refine kXM.of (cc := cX6_addShifted) (maxL := 3) (ret := (some .int)) (by decide) rfl (Nat.le_of_ble_eq_true rfl) ?_
  intro p e s m args below meth c A ls Qz hQ hnt hxs hst hm hw hl
  obtain ⟨⟨sa1, hs1⟩, ⟨sa2, hs2⟩, ⟨sa3, hs3⟩, sa4, hs4⟩ := id hxs.2.1
  have hl : lv_has ls 3 [(0, .ref (o)), (1, vN (t)), (2, vN (x))] := hl
  have i6 : ∀ w ∈ wsX60, w ∈ wsX6_addShifted := by decide +kernel
  refine k_iload_n hm hl 1 rfl dX6_addShifted_0 ?_
  refine k_callSr (n := 1) (As := [vN (t)]) (rest := []) hm hw hl (c_isGoal l G ((t : Nat) : Int) (by first | assumption | omega)) gX6_addShifted_X6_isGoal rfl (by decide +kernel) ⟨by decide, by decide⟩ [] (by decide) rfl rfl rfl (by simp [Value.category]) ⟨by decide, by decide⟩ dX6_addShifted_1 (fun v H locs hp hw => ?_)
  obtain rfl := hp
  refine W.eq (g2 := F0 m 4 ls [vB (decide (3 ≤ ((t : Nat) : Int) ∧ ((t : Nat) : Int) ≤ 120))]) rfl ?_
  refine k_rwV (y := vB (true)) (by rw [decide_eq_true (by omega)]) ?_
  refine k_ifeqB (tgt := 18) hm dX6_addShifted_4 (by decide) (fun c_2 => absurd c_2 (by decide)) (fun _ => ?_)
  refine k_iload_n hm hl 2 rfl dX6_addShifted_7 ?_
  refine k_callSr (n := 1) (As := [vN (x)]) (rest := []) hm hw hl (c_isShift l G ((x : Nat) : Int) (by first | assumption | omega)) gX6_addShifted_X6_isShift rfl (by decide +kernel) ⟨by decide, by decide⟩ [] (by decide) rfl rfl rfl (by simp [Value.category]) ⟨by decide, by decide⟩ dX6_addShifted_8 (fun v H locs hp hw => ?_)
  obtain rfl := hp
  refine W.eq (g2 := F0 m 11 ls [vB (decide (0 ≤ ((x : Nat) : Int) ∧ ((x : Nat) : Int) < 120))]) rfl ?_
  refine k_rwV (y := vB (true)) (by rw [decide_eq_true (by omega)]) ?_
  refine k_ifeqB (tgt := 18) hm dX6_addShifted_11 (by decide) (fun c_4 => absurd c_4 (by decide)) (fun _ => ?_)
  refine k_iconstN hm 1 dX6_addShifted_14 ?_
  refine k_goto (tgt := 19) hm dX6_addShifted_15 (by decide) ?_
  refine k_callSr (n := 1) (As := [vN (1)]) (rest := []) hm hw hl (c_checkArgument_ok l G ) gX6_addShifted_X6_checkArgument rfl (by decide +kernel) ⟨by decide, by decide⟩ [] (by decide) rfl rfl rfl (by simp [Value.category]) ⟨by decide, by decide⟩ dX6_addShifted_19 (fun v H locs hp hw => ?_)
  obtain rfl := hp
  refine W.eq (g2 := F0 m 22 ls []) rfl ?_
  refine k_aload_n hm hl 0 rfl dX6_addShifted_22 ?_
  refine k_callVx (n := 0) (As := []) (rest := []) (wr := []) hm hw hl hxs hst (c_checkRoom_x l G o h T L M P gk gw gt gy R sp (by first | assumption | omega) (by first | assumption | omega)) gX6_addShifted_X6_checkRoom rfl (by decide +kernel) ⟨by decide, by decide⟩ (ci := 6) rfl 0 rfl [0, 1, 2, 3, 4, 5, 6, 7, 8, 9] [] (by decide) rfl rfl (by decide) (by decide) rfl rfl (by simp [Value.category]) ⟨by decide, by decide⟩ dX6_addShifted_23 (fun q ce w1 H locs hp hw he1 he2 he3 => ?_)
  obtain rfl := hp
  have hw := hw.sub (ws' := wMain G o P h T L M ++ wPiece G P gk gw gt gy R sp) [0, 1, 2, 3, 4, 5, 6, 7, 8, 9] (by decide) rfl
  exact k_out hm hQ hnt hw (rfl) he1 he2 he3 (by decide) (by decide)
set_option maxHeartbeats 4000000 in
set_option maxRecDepth 100000 in
theorem c_addShifted_x3 (l : Launch) (G : kG) (o : Nat) (h : Nat) (T : Nat → Nat) (L : Nat → Nat) (M : Nat → Nat) (P : Nat → Nat) (gk : Nat → Nat) (gw : Nat → Nat) (gt : Nat → Nat) (gy : Nat → Nat) (R : Nat) (sp : Bool) (f : Nat → Nat) (wk : Nat) (sd : Nat) (kd : Nat) (K : Nat → Nat → Nat) (w : Nat → Nat) (y : Nat → Nat) (t : Nat) (x : Nat) (htr : l.stackTraces = false) (hok : POk gk gw gt gy R K w y) (ht : 3 ≤ t ∧ t ≤ 120) (hx : x < 120) (hR40 : R < 40) (hpo : ¬ isPo (sumM (K (R - 1)) (w (R - 1))) t) : kXM l yX6_addShifted wsX6_addShifted 8 130 1 6 G [.ref (o), vN (t), vN (x)] (wMain G o P h T L M ++ (wPiece G P gk gw gt gy R sp ++ wPlan G L f wk sd kd)) "java/lang/UnsupportedOperationException" (fun uu => ∃ (f2 : Nat → Nat), uu = wMain G o P h T L M ++ (wPiece G P gk gw gt gy R sp ++ wPlan G L f2 (pm (sumM (K (R - 1)) (w (R - 1))) t) (pd (sumM (K (R - 1)) (w (R - 1))) t) (pk (sumM (K (R - 1)) (w (R - 1))) t))) := by
  refine kXM.of (cc := cX6_addShifted) (maxL := 3) (ret := (some .int)) (by decide) rfl (Nat.le_of_ble_eq_true rfl) ?_
  intro p e s m args below meth c A ls Qz hQ hnt hxs hst hm hw hl
  obtain ⟨⟨sa1, hs1⟩, ⟨sa2, hs2⟩, ⟨sa3, hs3⟩, sa4, hs4⟩ := id hxs.2.1
  have hl : lv_has ls 3 [(0, .ref (o)), (1, vN (t)), (2, vN (x))] := hl
  have i6 : ∀ w ∈ wsX60, w ∈ wsX6_addShifted := by decide +kernel
  have hll := PVd_last hok.1
  have hR := hok.1.1
  refine k_iload_n hm hl 1 rfl dX6_addShifted_0 ?_
  refine k_callSr (n := 1) (As := [vN (t)]) (rest := []) hm hw hl (c_isGoal l G ((t : Nat) : Int) (by first | assumption | omega)) gX6_addShifted_X6_isGoal rfl (by decide +kernel) ⟨by decide, by decide⟩ [] (by decide) rfl rfl rfl (by simp [Value.category]) ⟨by decide, by decide⟩ dX6_addShifted_1 (fun v H locs hp hw => ?_)
  obtain rfl := hp
  refine W.eq (g2 := F0 m 4 ls [vB (decide (3 ≤ ((t : Nat) : Int) ∧ ((t : Nat) : Int) ≤ 120))]) rfl ?_
  refine k_rwV (y := vB (true)) (by rw [decide_eq_true (by omega)]) ?_
  refine k_ifeqB (tgt := 18) hm dX6_addShifted_4 (by decide) (fun c_2 => absurd c_2 (by decide)) (fun _ => ?_)
  refine k_iload_n hm hl 2 rfl dX6_addShifted_7 ?_
  refine k_callSr (n := 1) (As := [vN (x)]) (rest := []) hm hw hl (c_isShift l G ((x : Nat) : Int) (by first | assumption | omega)) gX6_addShifted_X6_isShift rfl (by decide +kernel) ⟨by decide, by decide⟩ [] (by decide) rfl rfl rfl (by simp [Value.category]) ⟨by decide, by decide⟩ dX6_addShifted_8 (fun v H locs hp hw => ?_)
  obtain rfl := hp
  refine W.eq (g2 := F0 m 11 ls [vB (decide (0 ≤ ((x : Nat) : Int) ∧ ((x : Nat) : Int) < 120))]) rfl ?_
  refine k_rwV (y := vB (true)) (by rw [decide_eq_true (by omega)]) ?_
  refine k_ifeqB (tgt := 18) hm dX6_addShifted_11 (by decide) (fun c_4 => absurd c_4 (by decide)) (fun _ => ?_)
  refine k_iconstN hm 1 dX6_addShifted_14 ?_
  refine k_goto (tgt := 19) hm dX6_addShifted_15 (by decide) ?_
  refine k_callSr (n := 1) (As := [vN (1)]) (rest := []) hm hw hl (c_checkArgument_ok l G ) gX6_addShifted_X6_checkArgument rfl (by decide +kernel) ⟨by decide, by decide⟩ [] (by decide) rfl rfl rfl (by simp [Value.category]) ⟨by decide, by decide⟩ dX6_addShifted_19 (fun v H locs hp hw => ?_)
  obtain rfl := hp
  refine W.eq (g2 := F0 m 22 ls []) rfl ?_
  refine k_aload_n hm hl 0 rfl dX6_addShifted_22 ?_
  refine k_callVr (n := 0) (As := []) (rest := []) hm hw hl (c_checkRoom_ok l G o h T L M P gk gw gt gy R sp (by first | assumption | omega)) gX6_addShifted_X6_checkRoom rfl (by decide +kernel) ⟨by decide, by decide⟩ (ci := 6) rfl 0 rfl [0, 1, 2, 3, 4, 5, 6, 7, 8, 9] (by decide) rfl rfl rfl (by simp [Value.category]) ⟨by decide, by decide⟩ dX6_addShifted_23 (fun v H locs hp hw => ?_)
  obtain rfl := hp
  refine W.eq (g2 := F0 m 26 ls []) rfl ?_
  refine k_aload_n hm hl 0 rfl dX6_addShifted_26 ?_
  refine k_get (T := TX6) hm hw 0 3 i6 rfl rfl (by decide) (by decide +kernel) rfl dX6_addShifted_27 ?_
  refine k_aload_n hm hl 0 rfl dX6_addShifted_30 ?_
  refine k_get (T := TX6) hm hw 0 0 i6 rfl rfl (by decide) (by decide +kernel) rfl dX6_addShifted_31 ?_
  refine k_callVr (n := 0) (As := []) (rest := [.ref (L 0)]) hm hw hl (c_lastTotal l G P gk gw gt gy R sp K w y (by first | assumption | omega)) gX6_addShifted_X4_lastTotal rfl (by decide +kernel) ⟨by decide, by decide⟩ (ci := 4) rfl 1 rfl [1, 2, 3, 4, 5, 6, 7, 8, 9] (by decide) rfl rfl rfl (by simp [Value.category]) ⟨by decide, by decide⟩ dX6_addShifted_34 (fun v H locs hp hw => ?_)
  obtain rfl := hp
  refine W.eq (g2 := F0 m 37 ls [vN (sumM (K (R - 1)) (w (R - 1))), .ref (L 0)]) rfl ?_
  refine k_iload_n hm hl 1 rfl dX6_addShifted_37 ?_
  refine k_callV (n := 2) (As := [vN (sumM (K (R - 1)) (w (R - 1))), vN (t)]) (rest := []) (wr := [(o, .inr (6, [.ref (P 0), .ref (h), .ref (T 0), .ref (L 0), .ref (M 0)])), (P 0, .inr (4, [.ref (P 1), .ref (P 3), .ref (P 5), .ref (P 7), vN (R), vB (sp)])), (P 1, .inr (2, [.ref (P 2)])), (P 2, .inl (G.2 0, 4800, .inl (nF gk))), (P 3, .inr (2, [.ref (P 4)])), (P 4, .inl (G.2 0, 40, .inl (nF gw))), (P 5, .inr (2, [.ref (P 6)])), (P 6, .inl (G.2 0, 40, .inl (nF gt))), (P 7, .inr (2, [.ref (P 8)])), (P 8, .inl (G.2 0, 3, .inl (nF gy)))]) hm hw hl (c_spread l G L f wk sd kd (sumM (K (R - 1)) (w (R - 1))) t (by first | assumption | omega)) gX6_addShifted_X5_spread rfl (by decide +kernel) ⟨by decide, by decide⟩ (ci := 5) rfl 10 rfl [10, 11, 12] [0, 1, 2, 3, 4, 5, 6, 7, 8, 9] (by decide) rfl rfl (by decide) (by decide) rfl rfl (by simp [Value.category]) ⟨by decide, by decide⟩ dX6_addShifted_38 (fun v w1 H locs hp hw => ?_)
  obtain ⟨b_9, f2_10, rfl, rfl, hb_11, hf_12⟩ := hp
  have hw := hw.sub (ws' := wMain G o P h T L M ++ (wPiece G P gk gw gt gy R sp ++ wPlan G L f2_10 (pm (sumM (K (R - 1)) (w (R - 1))) t) (pd (sumM (K (R - 1)) (w (R - 1))) t) (pk (sumM (K (R - 1)) (w (R - 1))) t))) [0, 1, 2, 3, 4, 5, 6, 7, 8, 9, 10, 11, 12] (by decide) rfl
  refine W.eq (g2 := F0 m 41 ls [vB (b_9)]) rfl ?_
  have hbs := hb_11
  refine k_rwV (y := vB (false)) (by rw [show b_9 = false from by cases hq : b_9 with | false => rfl | true => exact absurd (hbs.mp hq) hpo]) ?_
  refine k_callSx (n := 1) (As := [vB (false)]) (rest := []) (wr := [(o, .inr (6, [.ref (P 0), .ref (h), .ref (T 0), .ref (L 0), .ref (M 0)])), (P 0, .inr (4, [.ref (P 1), .ref (P 3), .ref (P 5), .ref (P 7), vN (R), vB (sp)])), (P 1, .inr (2, [.ref (P 2)])), (P 2, .inl (G.2 0, 4800, .inl (nF gk))), (P 3, .inr (2, [.ref (P 4)])), (P 4, .inl (G.2 0, 40, .inl (nF gw))), (P 5, .inr (2, [.ref (P 6)])), (P 6, .inl (G.2 0, 40, .inl (nF gt))), (P 7, .inr (2, [.ref (P 8)])), (P 8, .inl (G.2 0, 3, .inl (nF gy))), (L 0, .inr (5, [.ref (L 1), vN (pm (sumM (K (R - 1)) (w (R - 1))) t), vN (pd (sumM (K (R - 1)) (w (R - 1))) t), vN (pk (sumM (K (R - 1)) (w (R - 1))) t)])), (L 1, .inr (2, [.ref (L 2)])), (L 2, .inl (G.2 0, 120, .inl (nF f2_10)))]) hm hw hl hxs hst (c_checkPossible_x l G (by first | assumption | omega)) gX6_addShifted_X6_checkPossible rfl (by decide +kernel) ⟨by decide, by decide⟩ [] [0, 1, 2, 3, 4, 5, 6, 7, 8, 9, 10, 11, 12] (by decide) rfl rfl (by decide) (by decide) rfl rfl (by simp [Value.category]) ⟨by decide, by decide⟩ dX6_addShifted_41 (fun q ce w1 H locs hp hw he1 he2 he3 => ?_)
  obtain rfl := hp
  have hw := hw.sub (ws' := wMain G o P h T L M ++ (wPiece G P gk gw gt gy R sp ++ wPlan G L f2_10 (pm (sumM (K (R - 1)) (w (R - 1))) t) (pd (sumM (K (R - 1)) (w (R - 1))) t) (pk (sumM (K (R - 1)) (w (R - 1))) t))) [0, 1, 2, 3, 4, 5, 6, 7, 8, 9, 10, 11, 12] (by decide) rfl
  exact k_out hm hQ hnt hw (⟨_, rfl⟩) he1 he2 he3 (by decide) (by decide)
set_option maxHeartbeats 4000000 in
set_option maxRecDepth 100000 in
theorem c_addShape_x (l : Launch) (G : kG) (o : Nat) (h : Nat) (T : Nat → Nat) (L : Nat → Nat) (M : Nat → Nat) (P : Nat → Nat) (gk : Nat → Nat) (gw : Nat → Nat) (gt : Nat → Nat) (gy : Nat → Nat) (R : Nat) (sp : Bool) (z : Int) (x : Int) (k : Int) (htr : l.stackTraces = false) (hzz : -2147483648 ≤ z ∧ z < 2147483648) (hzx : -2147483648 ≤ x ∧ x < 2147483648) (hzk : -2147483648 ≤ k ∧ k < 2147483648) (hx : ¬ ((0 ≤ z ∧ z ≤ 4) ∧ (1 ≤ x ∧ x ≤ 20) ∧ 1 ≤ k ∧ k < 40)) : kXM l yX6_addShape wsX6_addShape 7 110 1 6 G [.ref (o), vZ (z), vZ (x), vZ (k)] (wMain G o P h T L M ++ wPiece G P gk gw gt gy R sp) "java/lang/IllegalArgumentException" (fun uu => uu = wMain G o P h T L M ++ wPiece G P gk gw gt gy R sp) := by
  refine kXM.of (cc := cX6_addShape) (maxL := 6) (ret := (some .int)) (by decide) rfl (Nat.le_of_ble_eq_true rfl) ?_
  intro p e s m args below meth c A ls Qz hQ hnt hxs hst hm hw hl
  obtain ⟨⟨sa1, hs1⟩, ⟨sa2, hs2⟩, ⟨sa3, hs3⟩, sa4, hs4⟩ := id hxs.2.1
  have hl : lv_has ls 6 [(0, .ref (o)), (1, vZ (z)), (2, vZ (x)), (3, vZ (k))] := hl
  have i4 : ∀ w ∈ wsX40, w ∈ wsX6_addShape := by decide +kernel
  have i6 : ∀ w ∈ wsX60, w ∈ wsX6_addShape := by decide +kernel
  refine k_iload_n hm hl 1 rfl dX6_addShape_0 ?_
  refine k_callSr (n := 1) (As := [vZ (z)]) (rest := []) hm hw hl (c_isShape l G z (by first | assumption | omega)) gX6_addShape_X6_isShape rfl (by decide +kernel) ⟨by decide, by decide⟩ [] (by decide) rfl rfl rfl (by simp [Value.category]) ⟨by decide, by decide⟩ dX6_addShape_1 (fun v H locs hp hw => ?_)
  obtain rfl := hp
  refine W.eq (g2 := F0 m 4 ls [vB (decide (0 ≤ z ∧ z ≤ 4))]) rfl ?_
  refine k_ifeqB (tgt := 18) hm dX6_addShape_4 (by decide) (fun c_2 => ?_) (fun c_2 => ?_)
  · have c_2d := of_decide_eq_false c_2
    refine k_iconstN hm 0 dX6_addShape_18 ?_
    refine k_callSx (n := 1) (As := [vN (0)]) (rest := []) (wr := [(o, .inr (6, [.ref (P 0), .ref (h), .ref (T 0), .ref (L 0), .ref (M 0)])), (P 0, .inr (4, [.ref (P 1), .ref (P 3), .ref (P 5), .ref (P 7), vN (R), vB (sp)])), (P 1, .inr (2, [.ref (P 2)])), (P 2, .inl (G.2 0, 4800, .inl (nF gk))), (P 3, .inr (2, [.ref (P 4)])), (P 4, .inl (G.2 0, 40, .inl (nF gw))), (P 5, .inr (2, [.ref (P 6)])), (P 6, .inl (G.2 0, 40, .inl (nF gt))), (P 7, .inr (2, [.ref (P 8)])), (P 8, .inl (G.2 0, 3, .inl (nF gy)))]) hm hw hl hxs hst (c_checkArgument_x l G (by first | assumption | omega)) gX6_addShape_X6_checkArgument rfl (by decide +kernel) ⟨by decide, by decide⟩ [] [0, 1, 2, 3, 4, 5, 6, 7, 8, 9] (by decide) rfl rfl (by decide) (by decide) rfl rfl (by simp [Value.category]) ⟨by decide, by decide⟩ dX6_addShape_19 (fun q ce w1 H locs hp hw he1 he2 he3 => ?_)
    obtain rfl := hp
    have hw := hw.sub (ws' := wMain G o P h T L M ++ wPiece G P gk gw gt gy R sp) [0, 1, 2, 3, 4, 5, 6, 7, 8, 9] (by decide) rfl
    exact k_out hm hQ hnt hw (rfl) he1 he2 he3 (by decide) (by decide)
  · have c_2d := of_decide_eq_true c_2
    refine k_iload_n hm hl 2 rfl dX6_addShape_7 ?_
    refine k_callSr (n := 1) (As := [vZ (x)]) (rest := []) hm hw hl (c_isSize l G x (by first | assumption | omega)) gX6_addShape_X6_isSize rfl (by decide +kernel) ⟨by decide, by decide⟩ [] (by decide) rfl rfl rfl (by simp [Value.category]) ⟨by decide, by decide⟩ dX6_addShape_8 (fun v H locs hp hw => ?_)
    obtain rfl := hp
    refine W.eq (g2 := F0 m 11 ls [vB (decide (1 ≤ x ∧ x ≤ 20))]) rfl ?_
    refine k_ifeqB (tgt := 18) hm dX6_addShape_11 (by decide) (fun c_5 => ?_) (fun c_5 => ?_)
    · have c_5d := of_decide_eq_false c_5
      refine k_iconstN hm 0 dX6_addShape_18 ?_
      refine k_callSx (n := 1) (As := [vN (0)]) (rest := []) (wr := [(o, .inr (6, [.ref (P 0), .ref (h), .ref (T 0), .ref (L 0), .ref (M 0)])), (P 0, .inr (4, [.ref (P 1), .ref (P 3), .ref (P 5), .ref (P 7), vN (R), vB (sp)])), (P 1, .inr (2, [.ref (P 2)])), (P 2, .inl (G.2 0, 4800, .inl (nF gk))), (P 3, .inr (2, [.ref (P 4)])), (P 4, .inl (G.2 0, 40, .inl (nF gw))), (P 5, .inr (2, [.ref (P 6)])), (P 6, .inl (G.2 0, 40, .inl (nF gt))), (P 7, .inr (2, [.ref (P 8)])), (P 8, .inl (G.2 0, 3, .inl (nF gy)))]) hm hw hl hxs hst (c_checkArgument_x l G (by first | assumption | omega)) gX6_addShape_X6_checkArgument rfl (by decide +kernel) ⟨by decide, by decide⟩ [] [0, 1, 2, 3, 4, 5, 6, 7, 8, 9] (by decide) rfl rfl (by decide) (by decide) rfl rfl (by simp [Value.category]) ⟨by decide, by decide⟩ dX6_addShape_19 (fun q ce w1 H locs hp hw he1 he2 he3 => ?_)
      obtain rfl := hp
      have hw := hw.sub (ws' := wMain G o P h T L M ++ wPiece G P gk gw gt gy R sp) [0, 1, 2, 3, 4, 5, 6, 7, 8, 9] (by decide) rfl
      exact k_out hm hQ hnt hw (rfl) he1 he2 he3 (by decide) (by decide)
    · have c_5d := of_decide_eq_true c_5
      refine k_iconstN hm 1 dX6_addShape_14 ?_
      refine k_goto (tgt := 19) hm dX6_addShape_15 (by decide) ?_
      refine k_callSr (n := 1) (As := [vN (1)]) (rest := []) hm hw hl (c_checkArgument_ok l G ) gX6_addShape_X6_checkArgument rfl (by decide +kernel) ⟨by decide, by decide⟩ [] (by decide) rfl rfl rfl (by simp [Value.category]) ⟨by decide, by decide⟩ dX6_addShape_19 (fun v H locs hp hw => ?_)
      obtain rfl := hp
      refine W.eq (g2 := F0 m 22 ls []) rfl ?_
      refine k_iload_n hm hl 3 rfl dX6_addShape_22 ?_
      refine k_iconstN hm 1 dX6_addShape_23 ?_
      refine k_icmplt (tgt := 37) hm dX6_addShape_24 (by decide) (by omega) (fun c_8 => ?_) (fun c_8 => ?_)
      · refine k_iconstN hm 0 dX6_addShape_37 ?_
        refine k_callSx (n := 1) (As := [vN (0)]) (rest := []) (wr := [(o, .inr (6, [.ref (P 0), .ref (h), .ref (T 0), .ref (L 0), .ref (M 0)])), (P 0, .inr (4, [.ref (P 1), .ref (P 3), .ref (P 5), .ref (P 7), vN (R), vB (sp)])), (P 1, .inr (2, [.ref (P 2)])), (P 2, .inl (G.2 0, 4800, .inl (nF gk))), (P 3, .inr (2, [.ref (P 4)])), (P 4, .inl (G.2 0, 40, .inl (nF gw))), (P 5, .inr (2, [.ref (P 6)])), (P 6, .inl (G.2 0, 40, .inl (nF gt))), (P 7, .inr (2, [.ref (P 8)])), (P 8, .inl (G.2 0, 3, .inl (nF gy)))]) hm hw hl hxs hst (c_checkArgument_x l G (by first | assumption | omega)) gX6_addShape_X6_checkArgument rfl (by decide +kernel) ⟨by decide, by decide⟩ [] [0, 1, 2, 3, 4, 5, 6, 7, 8, 9] (by decide) rfl rfl (by decide) (by decide) rfl rfl (by simp [Value.category]) ⟨by decide, by decide⟩ dX6_addShape_38 (fun q ce w1 H locs hp hw he1 he2 he3 => ?_)
        obtain rfl := hp
        have hw := hw.sub (ws' := wMain G o P h T L M ++ wPiece G P gk gw gt gy R sp) [0, 1, 2, 3, 4, 5, 6, 7, 8, 9] (by decide) rfl
        exact k_out hm hQ hnt hw (rfl) he1 he2 he3 (by decide) (by decide)
      · refine k_iload_n hm hl 3 rfl dX6_addShape_27 ?_
        refine k_bipushN hm 40 dX6_addShape_28 rfl ?_
        refine k_icmpge (tgt := 37) hm dX6_addShape_30 (by decide) (by omega) (fun c_10 => ?_) (fun c_10 => absurd c_10 (by omega))
        refine k_iconstN hm 0 dX6_addShape_37 ?_
        refine k_callSx (n := 1) (As := [vN (0)]) (rest := []) (wr := [(o, .inr (6, [.ref (P 0), .ref (h), .ref (T 0), .ref (L 0), .ref (M 0)])), (P 0, .inr (4, [.ref (P 1), .ref (P 3), .ref (P 5), .ref (P 7), vN (R), vB (sp)])), (P 1, .inr (2, [.ref (P 2)])), (P 2, .inl (G.2 0, 4800, .inl (nF gk))), (P 3, .inr (2, [.ref (P 4)])), (P 4, .inl (G.2 0, 40, .inl (nF gw))), (P 5, .inr (2, [.ref (P 6)])), (P 6, .inl (G.2 0, 40, .inl (nF gt))), (P 7, .inr (2, [.ref (P 8)])), (P 8, .inl (G.2 0, 3, .inl (nF gy)))]) hm hw hl hxs hst (c_checkArgument_x l G (by first | assumption | omega)) gX6_addShape_X6_checkArgument rfl (by decide +kernel) ⟨by decide, by decide⟩ [] [0, 1, 2, 3, 4, 5, 6, 7, 8, 9] (by decide) rfl rfl (by decide) (by decide) rfl rfl (by simp [Value.category]) ⟨by decide, by decide⟩ dX6_addShape_38 (fun q ce w1 H locs hp hw he1 he2 he3 => ?_)
        obtain rfl := hp
        have hw := hw.sub (ws' := wMain G o P h T L M ++ wPiece G P gk gw gt gy R sp) [0, 1, 2, 3, 4, 5, 6, 7, 8, 9] (by decide) rfl
        exact k_out hm hQ hnt hw (rfl) he1 he2 he3 (by decide) (by decide)
set_option maxHeartbeats 4000000 in
set_option maxRecDepth 100000 in
theorem c_rip_x1 (l : Launch) (G : kG) (o : Nat) (h : Nat) (T : Nat → Nat) (L : Nat → Nat) (M : Nat → Nat) (P : Nat → Nat) (gk : Nat → Nat) (gw : Nat → Nat) (gt : Nat → Nat) (gy : Nat → Nat) (R : Nat) (sp : Bool) (z : Int) (htr : l.stackTraces = false) (hzz : -2147483648 ≤ z ∧ z < 2147483648) (hx : z < 1) : kXM l yX6_rip wsX6_rip 7 110 1 6 G [.ref (o), vZ (z)] (wMain G o P h T L M ++ wPiece G P gk gw gt gy R sp) "java/lang/IllegalArgumentException" (fun uu => uu = wMain G o P h T L M ++ wPiece G P gk gw gt gy R sp) := by
  refine kXM.of (cc := cX6_rip) (maxL := 2) (ret := (some .int)) (by decide) rfl (Nat.le_of_ble_eq_true rfl) ?_
  intro p e s m args below meth c A ls Qz hQ hnt hxs hst hm hw hl
  obtain ⟨⟨sa1, hs1⟩, ⟨sa2, hs2⟩, ⟨sa3, hs3⟩, sa4, hs4⟩ := id hxs.2.1
  have hl : lv_has ls 2 [(0, .ref (o)), (1, vZ (z))] := hl
  have i4 : ∀ w ∈ wsX40, w ∈ wsX6_rip := by decide +kernel
  have i6 : ∀ w ∈ wsX60, w ∈ wsX6_rip := by decide +kernel
  refine k_iload_n hm hl 1 rfl dX6_rip_0 ?_
  refine k_iconstN hm 1 dX6_rip_1 ?_
  refine k_icmplt (tgt := 9) hm dX6_rip_2 (by decide) (by omega) (fun c_1 => ?_) (fun c_1 => absurd c_1 (by omega))
  refine k_iconstN hm 0 dX6_rip_9 ?_
  refine k_callSx (n := 1) (As := [vN (0)]) (rest := []) (wr := [(o, .inr (6, [.ref (P 0), .ref (h), .ref (T 0), .ref (L 0), .ref (M 0)])), (P 0, .inr (4, [.ref (P 1), .ref (P 3), .ref (P 5), .ref (P 7), vN (R), vB (sp)])), (P 1, .inr (2, [.ref (P 2)])), (P 2, .inl (G.2 0, 4800, .inl (nF gk))), (P 3, .inr (2, [.ref (P 4)])), (P 4, .inl (G.2 0, 40, .inl (nF gw))), (P 5, .inr (2, [.ref (P 6)])), (P 6, .inl (G.2 0, 40, .inl (nF gt))), (P 7, .inr (2, [.ref (P 8)])), (P 8, .inl (G.2 0, 3, .inl (nF gy)))]) hm hw hl hxs hst (c_checkArgument_x l G (by first | assumption | omega)) gX6_rip_X6_checkArgument rfl (by decide +kernel) ⟨by decide, by decide⟩ [] [0, 1, 2, 3, 4, 5, 6, 7, 8, 9] (by decide) rfl rfl (by decide) (by decide) rfl rfl (by simp [Value.category]) ⟨by decide, by decide⟩ dX6_rip_10 (fun q ce w1 H locs hp hw he1 he2 he3 => ?_)
  obtain rfl := hp
  have hw := hw.sub (ws' := wMain G o P h T L M ++ wPiece G P gk gw gt gy R sp) [0, 1, 2, 3, 4, 5, 6, 7, 8, 9] (by decide) rfl
  exact k_out hm hQ hnt hw (rfl) he1 he2 he3 (by decide) (by decide)
set_option maxHeartbeats 4000000 in
set_option maxRecDepth 100000 in
theorem c_rip_x2 (l : Launch) (G : kG) (o : Nat) (h : Nat) (T : Nat → Nat) (L : Nat → Nat) (M : Nat → Nat) (P : Nat → Nat) (gk : Nat → Nat) (gw : Nat → Nat) (gt : Nat → Nat) (gy : Nat → Nat) (R : Nat) (sp : Bool) (z : Int) (htr : l.stackTraces = false) (hzz : -2147483648 ≤ z ∧ z < 2147483648) (hx : 1 ≤ z ∧ (R : Int) ≤ z ∧ R ≤ 40) : kXM l yX6_rip wsX6_rip 7 110 1 6 G [.ref (o), vZ (z)] (wMain G o P h T L M ++ wPiece G P gk gw gt gy R sp) "java/lang/IllegalStateException" (fun uu => uu = wMain G o P h T L M ++ wPiece G P gk gw gt gy R sp) := by
  refine kXM.of (cc := cX6_rip) (maxL := 2) (ret := (some .int)) (by decide) rfl (Nat.le_of_ble_eq_true rfl) ?_
  intro p e s m args below meth c A ls Qz hQ hnt hxs hst hm hw hl
  obtain ⟨⟨sa1, hs1⟩, ⟨sa2, hs2⟩, ⟨sa3, hs3⟩, sa4, hs4⟩ := id hxs.2.1
  have hl : lv_has ls 2 [(0, .ref (o)), (1, vZ (z))] := hl
  have i4 : ∀ w ∈ wsX40, w ∈ wsX6_rip := by decide +kernel
  have i6 : ∀ w ∈ wsX60, w ∈ wsX6_rip := by decide +kernel
  refine k_iload_n hm hl 1 rfl dX6_rip_0 ?_
  refine k_iconstN hm 1 dX6_rip_1 ?_
  refine k_icmplt (tgt := 9) hm dX6_rip_2 (by decide) (by omega) (fun c_1 => absurd c_1 (by omega)) (fun c_1 => ?_)
  refine k_iconstN hm 1 dX6_rip_5 ?_
  refine k_goto (tgt := 10) hm dX6_rip_6 (by decide) ?_
  refine k_callSr (n := 1) (As := [vN (1)]) (rest := []) hm hw hl (c_checkArgument_ok l G ) gX6_rip_X6_checkArgument rfl (by decide +kernel) ⟨by decide, by decide⟩ [] (by decide) rfl rfl rfl (by simp [Value.category]) ⟨by decide, by decide⟩ dX6_rip_10 (fun v H locs hp hw => ?_)
  obtain rfl := hp
  refine W.eq (g2 := F0 m 13 ls []) rfl ?_
  refine k_iload_n hm hl 1 rfl dX6_rip_13 ?_
  refine k_aload_n hm hl 0 rfl dX6_rip_14 ?_
  refine k_get (T := TX6) hm hw 0 0 i6 rfl rfl (by decide) (by decide +kernel) rfl dX6_rip_15 ?_
  refine k_get (T := TX4) hm hw 1 4 i4 rfl rfl (by decide) (by decide +kernel) rfl dX6_rip_18 ?_
  refine k_icmpge (tgt := 28) hm dX6_rip_21 (by decide) (by omega) (fun c_3 => ?_) (fun c_3 => absurd c_3 (by omega))
  refine k_iconstN hm 0 dX6_rip_28 ?_
  refine k_callSx (n := 1) (As := [vN (0)]) (rest := []) (wr := [(o, .inr (6, [.ref (P 0), .ref (h), .ref (T 0), .ref (L 0), .ref (M 0)])), (P 0, .inr (4, [.ref (P 1), .ref (P 3), .ref (P 5), .ref (P 7), vN (R), vB (sp)])), (P 1, .inr (2, [.ref (P 2)])), (P 2, .inl (G.2 0, 4800, .inl (nF gk))), (P 3, .inr (2, [.ref (P 4)])), (P 4, .inl (G.2 0, 40, .inl (nF gw))), (P 5, .inr (2, [.ref (P 6)])), (P 6, .inl (G.2 0, 40, .inl (nF gt))), (P 7, .inr (2, [.ref (P 8)])), (P 8, .inl (G.2 0, 3, .inl (nF gy)))]) hm hw hl hxs hst (c_checkState_x l G (by first | assumption | omega)) gX6_rip_X6_checkState rfl (by decide +kernel) ⟨by decide, by decide⟩ [] [0, 1, 2, 3, 4, 5, 6, 7, 8, 9] (by decide) rfl rfl (by decide) (by decide) rfl rfl (by simp [Value.category]) ⟨by decide, by decide⟩ dX6_rip_29 (fun q ce w1 H locs hp hw he1 he2 he3 => ?_)
  obtain rfl := hp
  have hw := hw.sub (ws' := wMain G o P h T L M ++ wPiece G P gk gw gt gy R sp) [0, 1, 2, 3, 4, 5, 6, 7, 8, 9] (by decide) rfl
  exact k_out hm hQ hnt hw (rfl) he1 he2 he3 (by decide) (by decide)
set_option maxHeartbeats 4000000 in
set_option maxRecDepth 100000 in
theorem c_setYarn_x (l : Launch) (G : kG) (o : Nat) (h : Nat) (T : Nat → Nat) (L : Nat → Nat) (M : Nat → Nat) (P : Nat → Nat) (gk : Nat → Nat) (gw : Nat → Nat) (gt : Nat → Nat) (gy : Nat → Nat) (R : Nat) (sp : Bool) (z : Int) (x : Int) (htr : l.stackTraces = false) (hzz : -2147483648 ≤ z ∧ z < 2147483648) (hzx : -2147483648 ≤ x ∧ x < 2147483648) (hx : ¬ (0 ≤ z ∧ z < 3 ∧ 1 ≤ x ∧ x ≤ 60)) : kXM l yX6_setYarn wsX6_setYarn 7 110 1 6 G [.ref (o), vZ (z), vZ (x)] (wMain G o P h T L M ++ wPiece G P gk gw gt gy R sp) "java/lang/IllegalArgumentException" (fun uu => uu = wMain G o P h T L M ++ wPiece G P gk gw gt gy R sp) := by
  refine kXM.of (cc := cX6_setYarn) (maxL := 4) (ret := (some .int)) (by decide) rfl (Nat.le_of_ble_eq_true rfl) ?_
  intro p e s m args below meth c A ls Qz hQ hnt hxs hst hm hw hl
  obtain ⟨⟨sa1, hs1⟩, ⟨sa2, hs2⟩, ⟨sa3, hs3⟩, sa4, hs4⟩ := id hxs.2.1
  have hl : lv_has ls 4 [(0, .ref (o)), (1, vZ (z)), (2, vZ (x))] := hl
  have i4 : ∀ w ∈ wsX40, w ∈ wsX6_setYarn := by decide +kernel
  have i6 : ∀ w ∈ wsX60, w ∈ wsX6_setYarn := by decide +kernel
  refine k_iload_n hm hl 1 rfl dX6_setYarn_0 ?_
  refine k_iflt (tgt := 24) hm dX6_setYarn_1 (by decide) (by omega) (fun c_1 => ?_) (fun c_1 => ?_)
  · refine k_iconstN hm 0 dX6_setYarn_24 ?_
    refine k_callSx (n := 1) (As := [vN (0)]) (rest := []) (wr := [(o, .inr (6, [.ref (P 0), .ref (h), .ref (T 0), .ref (L 0), .ref (M 0)])), (P 0, .inr (4, [.ref (P 1), .ref (P 3), .ref (P 5), .ref (P 7), vN (R), vB (sp)])), (P 1, .inr (2, [.ref (P 2)])), (P 2, .inl (G.2 0, 4800, .inl (nF gk))), (P 3, .inr (2, [.ref (P 4)])), (P 4, .inl (G.2 0, 40, .inl (nF gw))), (P 5, .inr (2, [.ref (P 6)])), (P 6, .inl (G.2 0, 40, .inl (nF gt))), (P 7, .inr (2, [.ref (P 8)])), (P 8, .inl (G.2 0, 3, .inl (nF gy)))]) hm hw hl hxs hst (c_checkArgument_x l G (by first | assumption | omega)) gX6_setYarn_X6_checkArgument rfl (by decide +kernel) ⟨by decide, by decide⟩ [] [0, 1, 2, 3, 4, 5, 6, 7, 8, 9] (by decide) rfl rfl (by decide) (by decide) rfl rfl (by simp [Value.category]) ⟨by decide, by decide⟩ dX6_setYarn_25 (fun q ce w1 H locs hp hw he1 he2 he3 => ?_)
    obtain rfl := hp
    have hw := hw.sub (ws' := wMain G o P h T L M ++ wPiece G P gk gw gt gy R sp) [0, 1, 2, 3, 4, 5, 6, 7, 8, 9] (by decide) rfl
    exact k_out hm hQ hnt hw (rfl) he1 he2 he3 (by decide) (by decide)
  · refine k_iload_n hm hl 1 rfl dX6_setYarn_4 ?_
    refine k_iconstN hm 3 dX6_setYarn_5 ?_
    refine k_icmpge (tgt := 24) hm dX6_setYarn_6 (by decide) (by omega) (fun c_3 => ?_) (fun c_3 => ?_)
    · refine k_iconstN hm 0 dX6_setYarn_24 ?_
      refine k_callSx (n := 1) (As := [vN (0)]) (rest := []) (wr := [(o, .inr (6, [.ref (P 0), .ref (h), .ref (T 0), .ref (L 0), .ref (M 0)])), (P 0, .inr (4, [.ref (P 1), .ref (P 3), .ref (P 5), .ref (P 7), vN (R), vB (sp)])), (P 1, .inr (2, [.ref (P 2)])), (P 2, .inl (G.2 0, 4800, .inl (nF gk))), (P 3, .inr (2, [.ref (P 4)])), (P 4, .inl (G.2 0, 40, .inl (nF gw))), (P 5, .inr (2, [.ref (P 6)])), (P 6, .inl (G.2 0, 40, .inl (nF gt))), (P 7, .inr (2, [.ref (P 8)])), (P 8, .inl (G.2 0, 3, .inl (nF gy)))]) hm hw hl hxs hst (c_checkArgument_x l G (by first | assumption | omega)) gX6_setYarn_X6_checkArgument rfl (by decide +kernel) ⟨by decide, by decide⟩ [] [0, 1, 2, 3, 4, 5, 6, 7, 8, 9] (by decide) rfl rfl (by decide) (by decide) rfl rfl (by simp [Value.category]) ⟨by decide, by decide⟩ dX6_setYarn_25 (fun q ce w1 H locs hp hw he1 he2 he3 => ?_)
      obtain rfl := hp
      have hw := hw.sub (ws' := wMain G o P h T L M ++ wPiece G P gk gw gt gy R sp) [0, 1, 2, 3, 4, 5, 6, 7, 8, 9] (by decide) rfl
      exact k_out hm hQ hnt hw (rfl) he1 he2 he3 (by decide) (by decide)
    · refine k_iload_n hm hl 2 rfl dX6_setYarn_9 ?_
      refine k_iconstN hm 1 dX6_setYarn_10 ?_
      refine k_icmplt (tgt := 24) hm dX6_setYarn_11 (by decide) (by omega) (fun c_5 => ?_) (fun c_5 => ?_)
      · refine k_iconstN hm 0 dX6_setYarn_24 ?_
        refine k_callSx (n := 1) (As := [vN (0)]) (rest := []) (wr := [(o, .inr (6, [.ref (P 0), .ref (h), .ref (T 0), .ref (L 0), .ref (M 0)])), (P 0, .inr (4, [.ref (P 1), .ref (P 3), .ref (P 5), .ref (P 7), vN (R), vB (sp)])), (P 1, .inr (2, [.ref (P 2)])), (P 2, .inl (G.2 0, 4800, .inl (nF gk))), (P 3, .inr (2, [.ref (P 4)])), (P 4, .inl (G.2 0, 40, .inl (nF gw))), (P 5, .inr (2, [.ref (P 6)])), (P 6, .inl (G.2 0, 40, .inl (nF gt))), (P 7, .inr (2, [.ref (P 8)])), (P 8, .inl (G.2 0, 3, .inl (nF gy)))]) hm hw hl hxs hst (c_checkArgument_x l G (by first | assumption | omega)) gX6_setYarn_X6_checkArgument rfl (by decide +kernel) ⟨by decide, by decide⟩ [] [0, 1, 2, 3, 4, 5, 6, 7, 8, 9] (by decide) rfl rfl (by decide) (by decide) rfl rfl (by simp [Value.category]) ⟨by decide, by decide⟩ dX6_setYarn_25 (fun q ce w1 H locs hp hw he1 he2 he3 => ?_)
        obtain rfl := hp
        have hw := hw.sub (ws' := wMain G o P h T L M ++ wPiece G P gk gw gt gy R sp) [0, 1, 2, 3, 4, 5, 6, 7, 8, 9] (by decide) rfl
        exact k_out hm hQ hnt hw (rfl) he1 he2 he3 (by decide) (by decide)
      · refine k_iload_n hm hl 2 rfl dX6_setYarn_14 ?_
        refine k_bipushN hm 60 dX6_setYarn_15 rfl ?_
        refine k_icmpgt (tgt := 24) hm dX6_setYarn_17 (by decide) (by omega) (fun c_7 => ?_) (fun c_7 => absurd c_7 (by omega))
        refine k_iconstN hm 0 dX6_setYarn_24 ?_
        refine k_callSx (n := 1) (As := [vN (0)]) (rest := []) (wr := [(o, .inr (6, [.ref (P 0), .ref (h), .ref (T 0), .ref (L 0), .ref (M 0)])), (P 0, .inr (4, [.ref (P 1), .ref (P 3), .ref (P 5), .ref (P 7), vN (R), vB (sp)])), (P 1, .inr (2, [.ref (P 2)])), (P 2, .inl (G.2 0, 4800, .inl (nF gk))), (P 3, .inr (2, [.ref (P 4)])), (P 4, .inl (G.2 0, 40, .inl (nF gw))), (P 5, .inr (2, [.ref (P 6)])), (P 6, .inl (G.2 0, 40, .inl (nF gt))), (P 7, .inr (2, [.ref (P 8)])), (P 8, .inl (G.2 0, 3, .inl (nF gy)))]) hm hw hl hxs hst (c_checkArgument_x l G (by first | assumption | omega)) gX6_setYarn_X6_checkArgument rfl (by decide +kernel) ⟨by decide, by decide⟩ [] [0, 1, 2, 3, 4, 5, 6, 7, 8, 9] (by decide) rfl rfl (by decide) (by decide) rfl rfl (by simp [Value.category]) ⟨by decide, by decide⟩ dX6_setYarn_25 (fun q ce w1 H locs hp hw he1 he2 he3 => ?_)
        obtain rfl := hp
        have hw := hw.sub (ws' := wMain G o P h T L M ++ wPiece G P gk gw gt gy R sp) [0, 1, 2, 3, 4, 5, 6, 7, 8, 9] (by decide) rfl
        exact k_out hm hQ hnt hw (rfl) he1 he2 he3 (by decide) (by decide)
set_option maxHeartbeats 4000000 in
set_option maxRecDepth 100000 in
theorem c_round_x1 (l : Launch) (G : kG) (o : Nat) (h : Nat) (T : Nat → Nat) (L : Nat → Nat) (M : Nat → Nat) (P : Nat → Nat) (gk : Nat → Nat) (gw : Nat → Nat) (gt : Nat → Nat) (gy : Nat → Nat) (R : Nat) (sp : Bool) (z : Int) (x : Int) (htr : l.stackTraces = false) (hzz : -2147483648 ≤ z ∧ z < 2147483648) (hzx : -2147483648 ≤ x ∧ x < 2147483648) (hR : R ≤ 40) (hx : ¬ (0 ≤ z ∧ z < (R : Int))) : kXM l yX6_round wsX6_round 7 111 1 6 G [.ref (o), vZ (z), vZ (x)] (wMain G o P h T L M ++ wPiece G P gk gw gt gy R sp) "java/lang/IndexOutOfBoundsException" (fun uu => uu = wMain G o P h T L M ++ wPiece G P gk gw gt gy R sp) := by
  refine kXM.of (cc := cX6_round) (maxL := 3) (ret := (some .int)) (by decide) rfl (Nat.le_of_ble_eq_true rfl) ?_
  intro p e s m args below meth c A ls Qz hQ hnt hxs hst hm hw hl
  obtain ⟨⟨sa1, hs1⟩, ⟨sa2, hs2⟩, ⟨sa3, hs3⟩, sa4, hs4⟩ := id hxs.2.1
  have hl : lv_has ls 3 [(0, .ref (o)), (1, vZ (z)), (2, vZ (x))] := hl
  have i4 : ∀ w ∈ wsX40, w ∈ wsX6_round := by decide +kernel
  have i6 : ∀ w ∈ wsX60, w ∈ wsX6_round := by decide +kernel
  refine k_iload_n hm hl 1 rfl dX6_round_0 ?_
  refine k_aload_n hm hl 0 rfl dX6_round_1 ?_
  refine k_get (T := TX6) hm hw 0 0 i6 rfl rfl (by decide) (by decide +kernel) rfl dX6_round_2 ?_
  refine k_get (T := TX4) hm hw 1 4 i4 rfl rfl (by decide) (by decide +kernel) rfl dX6_round_5 ?_
  refine k_callSx (n := 2) (As := [vZ (z), vN (R)]) (rest := []) (wr := [(o, .inr (6, [.ref (P 0), .ref (h), .ref (T 0), .ref (L 0), .ref (M 0)])), (P 0, .inr (4, [.ref (P 1), .ref (P 3), .ref (P 5), .ref (P 7), vN (R), vB (sp)])), (P 1, .inr (2, [.ref (P 2)])), (P 2, .inl (G.2 0, 4800, .inl (nF gk))), (P 3, .inr (2, [.ref (P 4)])), (P 4, .inl (G.2 0, 40, .inl (nF gw))), (P 5, .inr (2, [.ref (P 6)])), (P 6, .inl (G.2 0, 40, .inl (nF gt))), (P 7, .inr (2, [.ref (P 8)])), (P 8, .inl (G.2 0, 3, .inl (nF gy)))]) hm hw hl hxs hst (c_checkIndex_x l G z R (by first | assumption | omega) (by first | assumption | omega) (by first | assumption | omega)) gX6_round_X6_checkIndex rfl (by decide +kernel) ⟨by decide, by decide⟩ [] [0, 1, 2, 3, 4, 5, 6, 7, 8, 9] (by decide) rfl rfl (by decide) (by decide) rfl rfl (by simp [Value.category]) ⟨by decide, by decide⟩ dX6_round_8 (fun q ce w1 H locs hp hw he1 he2 he3 => ?_)
  obtain rfl := hp
  have hw := hw.sub (ws' := wMain G o P h T L M ++ wPiece G P gk gw gt gy R sp) [0, 1, 2, 3, 4, 5, 6, 7, 8, 9] (by decide) rfl
  exact k_out hm hQ hnt hw (rfl) he1 he2 he3 (by decide) (by decide)
set_option maxHeartbeats 4000000 in
set_option maxRecDepth 100000 in
theorem c_round_x2 (l : Launch) (G : kG) (o : Nat) (h : Nat) (T : Nat → Nat) (L : Nat → Nat) (M : Nat → Nat) (P : Nat → Nat) (gk : Nat → Nat) (gw : Nat → Nat) (gt : Nat → Nat) (gy : Nat → Nat) (R : Nat) (sp : Bool) (r : Nat) (x : Int) (htr : l.stackTraces = false) (hzx : -2147483648 ≤ x ∧ x < 2147483648) (hR : R ≤ 40) (hr : r < R) (hx : ¬ (0 ≤ x ∧ x ≤ 10)) : kXM l yX6_round wsX6_round 7 111 1 6 G [.ref (o), vN (r), vZ (x)] (wMain G o P h T L M ++ wPiece G P gk gw gt gy R sp) "java/lang/IllegalArgumentException" (fun uu => uu = wMain G o P h T L M ++ wPiece G P gk gw gt gy R sp) := by
  refine kXM.of (cc := cX6_round) (maxL := 3) (ret := (some .int)) (by decide) rfl (Nat.le_of_ble_eq_true rfl) ?_
  intro p e s m args below meth c A ls Qz hQ hnt hxs hst hm hw hl
  obtain ⟨⟨sa1, hs1⟩, ⟨sa2, hs2⟩, ⟨sa3, hs3⟩, sa4, hs4⟩ := id hxs.2.1
  have hl : lv_has ls 3 [(0, .ref (o)), (1, vN (r)), (2, vZ (x))] := hl
  have i4 : ∀ w ∈ wsX40, w ∈ wsX6_round := by decide +kernel
  have i6 : ∀ w ∈ wsX60, w ∈ wsX6_round := by decide +kernel
  refine k_iload_n hm hl 1 rfl dX6_round_0 ?_
  refine k_aload_n hm hl 0 rfl dX6_round_1 ?_
  refine k_get (T := TX6) hm hw 0 0 i6 rfl rfl (by decide) (by decide +kernel) rfl dX6_round_2 ?_
  refine k_get (T := TX4) hm hw 1 4 i4 rfl rfl (by decide) (by decide +kernel) rfl dX6_round_5 ?_
  refine k_callSr (n := 2) (As := [vN (r), vN (R)]) (rest := []) hm hw hl (c_checkIndex_ok l G r R (by first | assumption | omega)) gX6_round_X6_checkIndex rfl (by decide +kernel) ⟨by decide, by decide⟩ [] (by decide) rfl rfl rfl (by simp [Value.category]) ⟨by decide, by decide⟩ dX6_round_8 (fun v H locs hp hw => ?_)
  obtain rfl := hp
  refine W.eq (g2 := F0 m 11 ls []) rfl ?_
  refine k_iload_n hm hl 2 rfl dX6_round_11 ?_
  refine k_iflt (tgt := 25) hm dX6_round_12 (by decide) (by omega) (fun c_2 => ?_) (fun c_2 => ?_)
  · refine k_iconstN hm 0 dX6_round_25 ?_
    refine k_callSx (n := 1) (As := [vN (0)]) (rest := []) (wr := [(o, .inr (6, [.ref (P 0), .ref (h), .ref (T 0), .ref (L 0), .ref (M 0)])), (P 0, .inr (4, [.ref (P 1), .ref (P 3), .ref (P 5), .ref (P 7), vN (R), vB (sp)])), (P 1, .inr (2, [.ref (P 2)])), (P 2, .inl (G.2 0, 4800, .inl (nF gk))), (P 3, .inr (2, [.ref (P 4)])), (P 4, .inl (G.2 0, 40, .inl (nF gw))), (P 5, .inr (2, [.ref (P 6)])), (P 6, .inl (G.2 0, 40, .inl (nF gt))), (P 7, .inr (2, [.ref (P 8)])), (P 8, .inl (G.2 0, 3, .inl (nF gy)))]) hm hw hl hxs hst (c_checkArgument_x l G (by first | assumption | omega)) gX6_round_X6_checkArgument rfl (by decide +kernel) ⟨by decide, by decide⟩ [] [0, 1, 2, 3, 4, 5, 6, 7, 8, 9] (by decide) rfl rfl (by decide) (by decide) rfl rfl (by simp [Value.category]) ⟨by decide, by decide⟩ dX6_round_26 (fun q ce w1 H locs hp hw he1 he2 he3 => ?_)
    obtain rfl := hp
    have hw := hw.sub (ws' := wMain G o P h T L M ++ wPiece G P gk gw gt gy R sp) [0, 1, 2, 3, 4, 5, 6, 7, 8, 9] (by decide) rfl
    exact k_out hm hQ hnt hw (rfl) he1 he2 he3 (by decide) (by decide)
  · refine k_iload_n hm hl 2 rfl dX6_round_15 ?_
    refine k_bipushN hm 10 dX6_round_16 rfl ?_
    refine k_icmpgt (tgt := 25) hm dX6_round_18 (by decide) (by omega) (fun c_4 => ?_) (fun c_4 => absurd c_4 (by omega))
    refine k_iconstN hm 0 dX6_round_25 ?_
    refine k_callSx (n := 1) (As := [vN (0)]) (rest := []) (wr := [(o, .inr (6, [.ref (P 0), .ref (h), .ref (T 0), .ref (L 0), .ref (M 0)])), (P 0, .inr (4, [.ref (P 1), .ref (P 3), .ref (P 5), .ref (P 7), vN (R), vB (sp)])), (P 1, .inr (2, [.ref (P 2)])), (P 2, .inl (G.2 0, 4800, .inl (nF gk))), (P 3, .inr (2, [.ref (P 4)])), (P 4, .inl (G.2 0, 40, .inl (nF gw))), (P 5, .inr (2, [.ref (P 6)])), (P 6, .inl (G.2 0, 40, .inl (nF gt))), (P 7, .inr (2, [.ref (P 8)])), (P 8, .inl (G.2 0, 3, .inl (nF gy)))]) hm hw hl hxs hst (c_checkArgument_x l G (by first | assumption | omega)) gX6_round_X6_checkArgument rfl (by decide +kernel) ⟨by decide, by decide⟩ [] [0, 1, 2, 3, 4, 5, 6, 7, 8, 9] (by decide) rfl rfl (by decide) (by decide) rfl rfl (by simp [Value.category]) ⟨by decide, by decide⟩ dX6_round_26 (fun q ce w1 H locs hp hw he1 he2 he3 => ?_)
    obtain rfl := hp
    have hw := hw.sub (ws' := wMain G o P h T L M ++ wPiece G P gk gw gt gy R sp) [0, 1, 2, 3, 4, 5, 6, 7, 8, 9] (by decide) rfl
    exact k_out hm hQ hnt hw (rfl) he1 he2 he3 (by decide) (by decide)
set_option maxHeartbeats 4000000 in
set_option maxRecDepth 100000 in
theorem c_work_x1 (l : Launch) (G : kG) (o : Nat) (h : Nat) (T : Nat → Nat) (L : Nat → Nat) (M : Nat → Nat) (P : Nat → Nat) (gk : Nat → Nat) (gw : Nat → Nat) (gt : Nat → Nat) (gy : Nat → Nat) (R : Nat) (sp : Bool) (z : Int) (x : Int) (htr : l.stackTraces = false) (hzz : -2147483648 ≤ z ∧ z < 2147483648) (hzx : -2147483648 ≤ x ∧ x < 2147483648) (hR : R ≤ 40) (hx : ¬ (0 ≤ z ∧ z < (R : Int))) : kXM l yX6_work wsX6_work 7 111 1 6 G [.ref (o), vZ (z), vZ (x)] (wMain G o P h T L M ++ wPiece G P gk gw gt gy R sp) "java/lang/IndexOutOfBoundsException" (fun uu => uu = wMain G o P h T L M ++ wPiece G P gk gw gt gy R sp) := by
  refine kXM.of (cc := cX6_work) (maxL := 3) (ret := (some .int)) (by decide) rfl (Nat.le_of_ble_eq_true rfl) ?_
  intro p e s m args below meth c A ls Qz hQ hnt hxs hst hm hw hl
  obtain ⟨⟨sa1, hs1⟩, ⟨sa2, hs2⟩, ⟨sa3, hs3⟩, sa4, hs4⟩ := id hxs.2.1
  have hl : lv_has ls 3 [(0, .ref (o)), (1, vZ (z)), (2, vZ (x))] := hl
  have i4 : ∀ w ∈ wsX40, w ∈ wsX6_work := by decide +kernel
  have i6 : ∀ w ∈ wsX60, w ∈ wsX6_work := by decide +kernel
  refine k_iload_n hm hl 1 rfl dX6_work_0 ?_
  refine k_aload_n hm hl 0 rfl dX6_work_1 ?_
  refine k_get (T := TX6) hm hw 0 0 i6 rfl rfl (by decide) (by decide +kernel) rfl dX6_work_2 ?_
  refine k_get (T := TX4) hm hw 1 4 i4 rfl rfl (by decide) (by decide +kernel) rfl dX6_work_5 ?_
  refine k_callSx (n := 2) (As := [vZ (z), vN (R)]) (rest := []) (wr := [(o, .inr (6, [.ref (P 0), .ref (h), .ref (T 0), .ref (L 0), .ref (M 0)])), (P 0, .inr (4, [.ref (P 1), .ref (P 3), .ref (P 5), .ref (P 7), vN (R), vB (sp)])), (P 1, .inr (2, [.ref (P 2)])), (P 2, .inl (G.2 0, 4800, .inl (nF gk))), (P 3, .inr (2, [.ref (P 4)])), (P 4, .inl (G.2 0, 40, .inl (nF gw))), (P 5, .inr (2, [.ref (P 6)])), (P 6, .inl (G.2 0, 40, .inl (nF gt))), (P 7, .inr (2, [.ref (P 8)])), (P 8, .inl (G.2 0, 3, .inl (nF gy)))]) hm hw hl hxs hst (c_checkIndex_x l G z R (by first | assumption | omega) (by first | assumption | omega) (by first | assumption | omega)) gX6_work_X6_checkIndex rfl (by decide +kernel) ⟨by decide, by decide⟩ [] [0, 1, 2, 3, 4, 5, 6, 7, 8, 9] (by decide) rfl rfl (by decide) (by decide) rfl rfl (by simp [Value.category]) ⟨by decide, by decide⟩ dX6_work_8 (fun q ce w1 H locs hp hw he1 he2 he3 => ?_)
  obtain rfl := hp
  have hw := hw.sub (ws' := wMain G o P h T L M ++ wPiece G P gk gw gt gy R sp) [0, 1, 2, 3, 4, 5, 6, 7, 8, 9] (by decide) rfl
  exact k_out hm hQ hnt hw (rfl) he1 he2 he3 (by decide) (by decide)
set_option maxHeartbeats 4000000 in
set_option maxRecDepth 100000 in
theorem c_work_x2 (l : Launch) (G : kG) (o : Nat) (h : Nat) (T : Nat → Nat) (L : Nat → Nat) (M : Nat → Nat) (P : Nat → Nat) (gk : Nat → Nat) (gw : Nat → Nat) (gt : Nat → Nat) (gy : Nat → Nat) (R : Nat) (sp : Bool) (K : Nat → Nat → Nat) (w : Nat → Nat) (y : Nat → Nat) (r : Nat) (x : Int) (htr : l.stackTraces = false) (hok : POk gk gw gt gy R K w y) (hzx : -2147483648 ≤ x ∧ x < 2147483648) (hr : r < R) (hx : ¬ (0 ≤ x ∧ x < (w r : Int))) : kXM l yX6_work wsX6_work 7 111 1 6 G [.ref (o), vN (r), vZ (x)] (wMain G o P h T L M ++ wPiece G P gk gw gt gy R sp) "java/lang/IndexOutOfBoundsException" (fun uu => uu = wMain G o P h T L M ++ wPiece G P gk gw gt gy R sp) := by
  refine kXM.of (cc := cX6_work) (maxL := 3) (ret := (some .int)) (by decide) rfl (Nat.le_of_ble_eq_true rfl) ?_
  intro p e s m args below meth c A ls Qz hQ hnt hxs hst hm hw hl
  obtain ⟨⟨sa1, hs1⟩, ⟨sa2, hs2⟩, ⟨sa3, hs3⟩, sa4, hs4⟩ := id hxs.2.1
  have hl : lv_has ls 3 [(0, .ref (o)), (1, vN (r)), (2, vZ (x))] := hl
  have i4 : ∀ w ∈ wsX40, w ∈ wsX6_work := by decide +kernel
  have i6 : ∀ w ∈ wsX60, w ∈ wsX6_work := by decide +kernel
  have hk := hok.2.1 r hr
  have hb := hok.1.2.1 r hr
  have hR := hok.1.1
  refine k_iload_n hm hl 1 rfl dX6_work_0 ?_
  refine k_aload_n hm hl 0 rfl dX6_work_1 ?_
  refine k_get (T := TX6) hm hw 0 0 i6 rfl rfl (by decide) (by decide +kernel) rfl dX6_work_2 ?_
  refine k_get (T := TX4) hm hw 1 4 i4 rfl rfl (by decide) (by decide +kernel) rfl dX6_work_5 ?_
  refine k_callSr (n := 2) (As := [vN (r), vN (R)]) (rest := []) hm hw hl (c_checkIndex_ok l G r R (by first | assumption | omega)) gX6_work_X6_checkIndex rfl (by decide +kernel) ⟨by decide, by decide⟩ [] (by decide) rfl rfl rfl (by simp [Value.category]) ⟨by decide, by decide⟩ dX6_work_8 (fun v H locs hp hw => ?_)
  obtain rfl := hp
  refine W.eq (g2 := F0 m 11 ls []) rfl ?_
  refine k_iload_n hm hl 2 rfl dX6_work_11 ?_
  refine k_aload_n hm hl 0 rfl dX6_work_12 ?_
  refine k_get (T := TX6) hm hw 0 0 i6 rfl rfl (by decide) (by decide +kernel) rfl dX6_work_13 ?_
  refine k_get (T := TX4) hm hw 1 1 i4 rfl rfl (by decide) (by decide +kernel) rfl dX6_work_16 ?_
  refine k_iload_n hm hl 1 rfl dX6_work_19 ?_
  refine k_callVr (n := 1) (As := [vN (r)]) (rest := [vZ (x)]) hm hw hl (c_Num_at l G (P 3) (P 4) 40 gw r (by first | assumption | omega)) gX6_work_X2_at rfl (by decide +kernel) ⟨by decide, by decide⟩ (ci := 2) rfl 4 rfl [4, 5] (by decide) rfl rfl rfl (by simp [Value.category]) ⟨by decide, by decide⟩ dX6_work_20 (fun v H locs hp hw => ?_)
  obtain rfl := hp
  refine W.eq (g2 := F0 m 23 ls [vN (gw r), vZ (x)]) rfl ?_
  refine k_rwV (y := vN (w r)) (by rw [hk.1]) ?_
  refine k_callSx (n := 2) (As := [vZ (x), vN (w r)]) (rest := []) (wr := [(o, .inr (6, [.ref (P 0), .ref (h), .ref (T 0), .ref (L 0), .ref (M 0)])), (P 0, .inr (4, [.ref (P 1), .ref (P 3), .ref (P 5), .ref (P 7), vN (R), vB (sp)])), (P 1, .inr (2, [.ref (P 2)])), (P 2, .inl (G.2 0, 4800, .inl (nF gk))), (P 3, .inr (2, [.ref (P 4)])), (P 4, .inl (G.2 0, 40, .inl (nF gw))), (P 5, .inr (2, [.ref (P 6)])), (P 6, .inl (G.2 0, 40, .inl (nF gt))), (P 7, .inr (2, [.ref (P 8)])), (P 8, .inl (G.2 0, 3, .inl (nF gy)))]) hm hw hl hxs hst (c_checkIndex_x l G x (w r) (by first | assumption | omega) (by first | assumption | omega) (by first | assumption | omega)) gX6_work_X6_checkIndex rfl (by decide +kernel) ⟨by decide, by decide⟩ [] [0, 1, 2, 3, 4, 5, 6, 7, 8, 9] (by decide) rfl rfl (by decide) (by decide) rfl rfl (by simp [Value.category]) ⟨by decide, by decide⟩ dX6_work_23 (fun q ce w1 H locs hp hw he1 he2 he3 => ?_)
  obtain rfl := hp
  have hw := hw.sub (ws' := wMain G o P h T L M ++ wPiece G P gk gw gt gy R sp) [0, 1, 2, 3, 4, 5, 6, 7, 8, 9] (by decide) rfl
  exact k_out hm hQ hnt hw (rfl) he1 he2 he3 (by decide) (by decide)
set_option maxHeartbeats 4000000 in
set_option maxRecDepth 100000 in
theorem c_value_x (l : Launch) (G : kG) (o : Nat) (h : Nat) (T : Nat → Nat) (L : Nat → Nat) (M : Nat → Nat) (P : Nat → Nat) (gk : Nat → Nat) (gw : Nat → Nat) (gt : Nat → Nat) (gy : Nat → Nat) (R : Nat) (sp : Bool) (z : Int) (htr : l.stackTraces = false) (hzz : -2147483648 ≤ z ∧ z < 2147483648) (hx : ¬ (0 ≤ z ∧ z ≤ 7)) : kXM l yX6_value wsX6_value 7 117 1 6 G [.ref (o), vZ (z)] (wMain G o P h T L M ++ wPiece G P gk gw gt gy R sp) "java/lang/IllegalArgumentException" (fun uu => uu = wMain G o P h T L M ++ wPiece G P gk gw gt gy R sp) := by
  refine kXM.of (cc := cX6_value) (maxL := 2) (ret := (some .int)) (by decide) rfl (Nat.le_of_ble_eq_true rfl) ?_
  intro p e s m args below meth c A ls Qz hQ hnt hxs hst hm hw hl
  obtain ⟨⟨sa1, hs1⟩, ⟨sa2, hs2⟩, ⟨sa3, hs3⟩, sa4, hs4⟩ := id hxs.2.1
  have hl : lv_has ls 2 [(0, .ref (o)), (1, vZ (z))] := hl
  have i4 : ∀ w ∈ wsX40, w ∈ wsX6_value := by decide +kernel
  have i6 : ∀ w ∈ wsX60, w ∈ wsX6_value := by decide +kernel
  refine k_iload_n hm hl 1 rfl dX6_value_0 ?_
  refine k_iflt (tgt := 14) hm dX6_value_1 (by decide) (by omega) (fun c_1 => ?_) (fun c_1 => ?_)
  · refine k_iconstN hm 0 dX6_value_14 ?_
    refine k_callSx (n := 1) (As := [vN (0)]) (rest := []) (wr := [(o, .inr (6, [.ref (P 0), .ref (h), .ref (T 0), .ref (L 0), .ref (M 0)])), (P 0, .inr (4, [.ref (P 1), .ref (P 3), .ref (P 5), .ref (P 7), vN (R), vB (sp)])), (P 1, .inr (2, [.ref (P 2)])), (P 2, .inl (G.2 0, 4800, .inl (nF gk))), (P 3, .inr (2, [.ref (P 4)])), (P 4, .inl (G.2 0, 40, .inl (nF gw))), (P 5, .inr (2, [.ref (P 6)])), (P 6, .inl (G.2 0, 40, .inl (nF gt))), (P 7, .inr (2, [.ref (P 8)])), (P 8, .inl (G.2 0, 3, .inl (nF gy)))]) hm hw hl hxs hst (c_checkArgument_x l G (by first | assumption | omega)) gX6_value_X6_checkArgument rfl (by decide +kernel) ⟨by decide, by decide⟩ [] [0, 1, 2, 3, 4, 5, 6, 7, 8, 9] (by decide) rfl rfl (by decide) (by decide) rfl rfl (by simp [Value.category]) ⟨by decide, by decide⟩ dX6_value_15 (fun q ce w1 H locs hp hw he1 he2 he3 => ?_)
    obtain rfl := hp
    have hw := hw.sub (ws' := wMain G o P h T L M ++ wPiece G P gk gw gt gy R sp) [0, 1, 2, 3, 4, 5, 6, 7, 8, 9] (by decide) rfl
    exact k_out hm hQ hnt hw (rfl) he1 he2 he3 (by decide) (by decide)
  · refine k_iload_n hm hl 1 rfl dX6_value_4 ?_
    refine k_bipushN hm 7 dX6_value_5 rfl ?_
    refine k_icmpgt (tgt := 14) hm dX6_value_7 (by decide) (by omega) (fun c_3 => ?_) (fun c_3 => absurd c_3 (by omega))
    refine k_iconstN hm 0 dX6_value_14 ?_
    refine k_callSx (n := 1) (As := [vN (0)]) (rest := []) (wr := [(o, .inr (6, [.ref (P 0), .ref (h), .ref (T 0), .ref (L 0), .ref (M 0)])), (P 0, .inr (4, [.ref (P 1), .ref (P 3), .ref (P 5), .ref (P 7), vN (R), vB (sp)])), (P 1, .inr (2, [.ref (P 2)])), (P 2, .inl (G.2 0, 4800, .inl (nF gk))), (P 3, .inr (2, [.ref (P 4)])), (P 4, .inl (G.2 0, 40, .inl (nF gw))), (P 5, .inr (2, [.ref (P 6)])), (P 6, .inl (G.2 0, 40, .inl (nF gt))), (P 7, .inr (2, [.ref (P 8)])), (P 8, .inl (G.2 0, 3, .inl (nF gy)))]) hm hw hl hxs hst (c_checkArgument_x l G (by first | assumption | omega)) gX6_value_X6_checkArgument rfl (by decide +kernel) ⟨by decide, by decide⟩ [] [0, 1, 2, 3, 4, 5, 6, 7, 8, 9] (by decide) rfl rfl (by decide) (by decide) rfl rfl (by simp [Value.category]) ⟨by decide, by decide⟩ dX6_value_15 (fun q ce w1 H locs hp hw he1 he2 he3 => ?_)
    obtain rfl := hp
    have hw := hw.sub (ws' := wMain G o P h T L M ++ wPiece G P gk gw gt gy R sp) [0, 1, 2, 3, 4, 5, 6, 7, 8, 9] (by decide) rfl
    exact k_out hm hQ hnt hw (rfl) he1 he2 he3 (by decide) (by decide)
