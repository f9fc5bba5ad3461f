set_option maxHeartbeats 4000000 in
set_option maxRecDepth 100000 in
theorem c_isGoal (l : Launch) (G : kG) (z : Int) (hz : -2147483648 ≤ z ∧ z < 2147483648) : kCR l yX6_isGoal wsX6_isGoal 0 0 G [vZ (z)] ([]) (fun vv => vv = some (vB (decide (3 ≤ z ∧ z ≤ 120)))) := by
  refine kCM.of (cc := cX6_isGoal) (maxL := 1) (ret := (some .boolean)) (by decide) rfl (Nat.le_of_ble_eq_true rfl) ?_
  intro p e s m args below meth c A ls Qz hQ hin hm hw hl
  have hl : lv_has ls 1 [(0, vZ (z))] := hl
  refine k_iload_n hm hl 0 rfl dX6_isGoal_0 ?_
  refine k_iconstN hm 3 dX6_isGoal_1 ?_
  refine k_icmplt (tgt := 15) hm dX6_isGoal_2 (by decide) (by omega) (fun c_1 => ?_) (fun c_1 => ?_)
  · refine k_iconstN hm 0 dX6_isGoal_15 ?_
    exact k_iret (post := _) hm hQ rfl (kN_bool false) hw (⟨(congrArg (fun b => some (vB b)) (decide_eq_false (by omega))).symm, rfl⟩) (by omega) (by omega) dX6_isGoal_16
  · refine k_iload_n hm hl 0 rfl dX6_isGoal_5 ?_
    refine k_bipushN hm 120 dX6_isGoal_6 rfl ?_
    refine k_icmpgt (tgt := 15) hm dX6_isGoal_8 (by decide) (by omega) (fun c_2 => ?_) (fun c_2 => ?_)
    · refine k_iconstN hm 0 dX6_isGoal_15 ?_
      exact k_iret (post := _) hm hQ rfl (kN_bool false) hw (⟨(congrArg (fun b => some (vB b)) (decide_eq_false (by omega))).symm, rfl⟩) (by omega) (by omega) dX6_isGoal_16
    · refine k_iconstN hm 1 dX6_isGoal_11 ?_
      refine k_goto (tgt := 16) hm dX6_isGoal_12 (by decide) ?_
      exact k_iret (post := _) hm hQ rfl (kN_bool true) hw (⟨(congrArg (fun b => some (vB b)) (decide_eq_true (by omega))).symm, rfl⟩) (by omega) (by omega) dX6_isGoal_16
set_option maxHeartbeats 4000000 in
set_option maxRecDepth 100000 in
theorem c_isShift (l : Launch) (G : kG) (z : Int) (hz : -2147483648 ≤ z ∧ z < 2147483648) : kCR l yX6_isShift wsX6_isShift 0 0 G [vZ (z)] ([]) (fun vv => vv = some (vB (decide (0 ≤ z ∧ z < 120)))) := by
  refine kCM.of (cc := cX6_isShift) (maxL := 1) (ret := (some .boolean)) (by decide) rfl (Nat.le_of_ble_eq_true rfl) ?_
  intro p e s m args below meth c A ls Qz hQ hin hm hw hl
  have hl : lv_has ls 1 [(0, vZ (z))] := hl
  refine k_iload_n hm hl 0 rfl dX6_isShift_0 ?_
  refine k_iflt (tgt := 14) hm dX6_isShift_1 (by decide) (by omega) (fun c_1 => ?_) (fun c_1 => ?_)
  · refine k_iconstN hm 0 dX6_isShift_14 ?_
    exact k_iret (post := _) hm hQ rfl (kN_bool false) hw (⟨(congrArg (fun b => some (vB b)) (decide_eq_false (by omega))).symm, rfl⟩) (by omega) (by omega) dX6_isShift_15
  · refine k_iload_n hm hl 0 rfl dX6_isShift_4 ?_
    refine k_bipushN hm 120 dX6_isShift_5 rfl ?_
    refine k_icmpge (tgt := 14) hm dX6_isShift_7 (by decide) (by omega) (fun c_2 => ?_) (fun c_2 => ?_)
    · refine k_iconstN hm 0 dX6_isShift_14 ?_
      exact k_iret (post := _) hm hQ rfl (kN_bool false) hw (⟨(congrArg (fun b => some (vB b)) (decide_eq_false (by omega))).symm, rfl⟩) (by omega) (by omega) dX6_isShift_15
    · refine k_iconstN hm 1 dX6_isShift_10 ?_
      refine k_goto (tgt := 15) hm dX6_isShift_11 (by decide) ?_
      exact k_iret (post := _) hm hQ rfl (kN_bool true) hw (⟨(congrArg (fun b => some (vB b)) (decide_eq_true (by omega))).symm, rfl⟩) (by omega) (by omega) dX6_isShift_15
set_option maxHeartbeats 4000000 in
set_option maxRecDepth 100000 in
theorem c_isShape (l : Launch) (G : kG) (z : Int) (hz : -2147483648 ≤ z ∧ z < 2147483648) : kCR l yX6_isShape wsX6_isShape 0 0 G [vZ (z)] ([]) (fun vv => vv = some (vB (decide (0 ≤ z ∧ z ≤ 4)))) := by
  refine kCM.of (cc := cX6_isShape) (maxL := 1) (ret := (some .boolean)) (by decide) rfl (Nat.le_of_ble_eq_true rfl) ?_
  intro p e s m args below meth c A ls Qz hQ hin hm hw hl
  have hl : lv_has ls 1 [(0, vZ (z))] := hl
  refine k_iload_n hm hl 0 rfl dX6_isShape_0 ?_
  refine k_iflt (tgt := 13) hm dX6_isShape_1 (by decide) (by omega) (fun c_1 => ?_) (fun c_1 => ?_)
  · refine k_iconstN hm 0 dX6_isShape_13 ?_
    exact k_iret (post := _) hm hQ rfl (kN_bool false) hw (⟨(congrArg (fun b => some (vB b)) (decide_eq_false (by omega))).symm, rfl⟩) (by omega) (by omega) dX6_isShape_14
  · refine k_iload_n hm hl 0 rfl dX6_isShape_4 ?_
    refine k_iconstN hm 4 dX6_isShape_5 ?_
    refine k_icmpgt (tgt := 13) hm dX6_isShape_6 (by decide) (by omega) (fun c_2 => ?_) (fun c_2 => ?_)
    · refine k_iconstN hm 0 dX6_isShape_13 ?_
      exact k_iret (post := _) hm hQ rfl (kN_bool false) hw (⟨(congrArg (fun b => some (vB b)) (decide_eq_false (by omega))).symm, rfl⟩) (by omega) (by omega) dX6_isShape_14
    · refine k_iconstN hm 1 dX6_isShape_9 ?_
      refine k_goto (tgt := 14) hm dX6_isShape_10 (by decide) ?_
      exact k_iret (post := _) hm hQ rfl (kN_bool true) hw (⟨(congrArg (fun b => some (vB b)) (decide_eq_true (by omega))).symm, rfl⟩) (by omega) (by omega) dX6_isShape_14
set_option maxHeartbeats 4000000 in
set_option maxRecDepth 100000 in
theorem c_isSize (l : Launch) (G : kG) (z : Int) (hz : -2147483648 ≤ z ∧ z < 2147483648) : kCR l yX6_isSize wsX6_isSize 0 0 G [vZ (z)] ([]) (fun vv => vv = some (vB (decide (1 ≤ z ∧ z ≤ 20)))) := by
  refine kCM.of (cc := cX6_isSize) (maxL := 1) (ret := (some .boolean)) (by decide) rfl (Nat.le_of_ble_eq_true rfl) ?_
  intro p e s m args below meth c A ls Qz hQ hin hm hw hl
  have hl : lv_has ls 1 [(0, vZ (z))] := hl
  refine k_iload_n hm hl 0 rfl dX6_isSize_0 ?_
  refine k_iconstN hm 1 dX6_isSize_1 ?_
  refine k_icmplt (tgt := 15) hm dX6_isSize_2 (by decide) (by omega) (fun c_1 => ?_) (fun c_1 => ?_)
  · refine k_iconstN hm 0 dX6_isSize_15 ?_
    exact k_iret (post := _) hm hQ rfl (kN_bool false) hw (⟨(congrArg (fun b => some (vB b)) (decide_eq_false (by omega))).symm, rfl⟩) (by omega) (by omega) dX6_isSize_16
  · refine k_iload_n hm hl 0 rfl dX6_isSize_5 ?_
    refine k_bipushN hm 20 dX6_isSize_6 rfl ?_
    refine k_icmpgt (tgt := 15) hm dX6_isSize_8 (by decide) (by omega) (fun c_2 => ?_) (fun c_2 => ?_)
    · refine k_iconstN hm 0 dX6_isSize_15 ?_
      exact k_iret (post := _) hm hQ rfl (kN_bool false) hw (⟨(congrArg (fun b => some (vB b)) (decide_eq_false (by omega))).symm, rfl⟩) (by omega) (by omega) dX6_isSize_16
    · refine k_iconstN hm 1 dX6_isSize_11 ?_
      refine k_goto (tgt := 16) hm dX6_isSize_12 (by decide) ?_
      exact k_iret (post := _) hm hQ rfl (kN_bool true) hw (⟨(congrArg (fun b => some (vB b)) (decide_eq_true (by omega))).symm, rfl⟩) (by omega) (by omega) dX6_isSize_16
set_option maxHeartbeats 4000000 in
set_option maxRecDepth 100000 in
theorem c_checkArgument_ok (l : Launch) (G : kG)   : kCR l yX6_checkArgument wsX6_checkArgument 0 0 G [vB (true)] ([]) (fun vv => vv = none) := by
  refine kCM.of (cc := cX6_checkArgument) (maxL := 1) (ret := none) (by decide) rfl (Nat.le_of_ble_eq_true rfl) ?_
  intro p e s m args below meth c A ls Qz hQ hin hm hw hl
  have hl : lv_has ls 1 [(0, vB (true))] := hl
  refine k_iload_n hm hl 0 rfl dX6_checkArgument_0 ?_
  refine k_ifneB (tgt := 14) hm dX6_checkArgument_1 (by decide) (fun _ => ?_) (fun c_1 => absurd c_1 (by decide))
  exact k_vret hm hQ rfl hw (⟨rfl, rfl⟩) (by omega) (by omega) dX6_checkArgument_14
set_option maxHeartbeats 4000000 in
set_option maxRecDepth 100000 in
theorem c_checkState_ok (l : Launch) (G : kG)   : kCR l yX6_checkState wsX6_checkState 0 0 G [vB (true)] ([]) (fun vv => vv = none) := by
  refine kCM.of (cc := cX6_checkState) (maxL := 1) (ret := none) (by decide) rfl (Nat.le_of_ble_eq_true rfl) ?_
  intro p e s m args below meth c A ls Qz hQ hin hm hw hl
  have hl : lv_has ls 1 [(0, vB (true))] := hl
  refine k_iload_n hm hl 0 rfl dX6_checkState_0 ?_
  refine k_ifneB (tgt := 14) hm dX6_checkState_1 (by decide) (fun _ => ?_) (fun c_1 => absurd c_1 (by decide))
  exact k_vret hm hQ rfl hw (⟨rfl, rfl⟩) (by omega) (by omega) dX6_checkState_14
set_option maxHeartbeats 4000000 in
set_option maxRecDepth 100000 in
theorem c_checkPossible_ok (l : Launch) (G : kG)   : kCR l yX6_checkPossible wsX6_checkPossible 0 0 G [vB (true)] ([]) (fun vv => vv = none) := by
  refine kCM.of (cc := cX6_checkPossible) (maxL := 1) (ret := none) (by decide) rfl (Nat.le_of_ble_eq_true rfl) ?_
  intro p e s m args below meth c A ls Qz hQ hin hm hw hl
  have hl : lv_has ls 1 [(0, vB (true))] := hl
  refine k_iload_n hm hl 0 rfl dX6_checkPossible_0 ?_
  refine k_ifneB (tgt := 14) hm dX6_checkPossible_1 (by decide) (fun _ => ?_) (fun c_1 => absurd c_1 (by decide))
  exact k_vret hm hQ rfl hw (⟨rfl, rfl⟩) (by omega) (by omega) dX6_checkPossible_14
set_option maxHeartbeats 4000000 in
set_option maxRecDepth 100000 in
theorem c_checkIndex_ok (l : Launch) (G : kG) (i : Nat) (k : Nat) (h : i < k ∧ k < 2147483648) : kCR l yX6_checkIndex wsX6_checkIndex 0 0 G [vN (i), vN (k)] ([]) (fun vv => vv = none) := by
  refine kCM.of (cc := cX6_checkIndex) (maxL := 2) (ret := none) (by decide) rfl (Nat.le_of_ble_eq_true rfl) ?_
  intro p e s m args below meth c A ls Qz hQ hin hm hw hl
  have hl : lv_has ls 2 [(0, vN (i)), (1, vN (k))] := hl
  refine k_iload_n hm hl 0 rfl dX6_checkIndex_0 ?_
  refine k_iflt (tgt := 9) hm dX6_checkIndex_1 (by decide) (by omega) (fun c_1 => absurd c_1 (by omega)) (fun c_1 => ?_)
  refine k_iload_n hm hl 0 rfl dX6_checkIndex_4 ?_
  refine k_iload_n hm hl 1 rfl dX6_checkIndex_5 ?_
  refine k_icmplt (tgt := 19) hm dX6_checkIndex_6 (by decide) (by omega) (fun c_2 => ?_) (fun c_2 => absurd c_2 (by omega))
  exact k_vret hm hQ rfl hw (⟨rfl, rfl⟩) (by omega) (by omega) dX6_checkIndex_19
set_option maxHeartbeats 4000000 in
set_option maxRecDepth 100000 in
theorem c_checkRoom_ok (l : Launch) (G : kG) (o : Nat) (h : Nat) (T : Nat → Nat) (L : Nat → Nat) (M : Nat → Nat) (P : Nat → Nat) (gk : Nat → Nat) (gw : Nat → Nat) (gt : Nat → Nat) (gy : Nat → Nat) (R : Nat) (sp : Bool) (hR40 : R < 40) : kCR l yX6_checkRoom wsX6_checkRoom 1 20 G [.ref (o)] (wMain G o P h T L M ++ wPiece G P gk gw gt gy R sp) (fun vv => vv = none) := by
  refine kCM.of (cc := cX6_checkRoom) (maxL := 1) (ret := none) (by decide) rfl (Nat.le_of_ble_eq_true rfl) ?_
  intro p e s m args below meth c A ls Qz hQ hin hm hw hl
  have hl : lv_has ls 1 [(0, .ref (o))] := hl
  have i4 : ∀ w ∈ wsX40, w ∈ wsX6_checkRoom := by decide +kernel
  have i6 : ∀ w ∈ wsX60, w ∈ wsX6_checkRoom := by decide +kernel
  refine k_aload_n hm hl 0 rfl dX6_checkRoom_0 ?_
  refine k_get (T := TX6) hm hw 0 0 i6 rfl rfl (by decide) (by decide +kernel) rfl dX6_checkRoom_1 ?_
  refine k_get (T := TX4) hm hw 1 4 i4 rfl rfl (by decide) (by decide +kernel) rfl dX6_checkRoom_4 ?_
  refine k_bipushN hm 40 dX6_checkRoom_7 rfl ?_
  refine k_icmpge (tgt := 16) hm dX6_checkRoom_9 (by decide) (by omega) (fun c_1 => absurd c_1 (by omega)) (fun c_1 => ?_)
  refine k_iconstN hm 1 dX6_checkRoom_12 ?_
  refine k_goto (tgt := 17) hm dX6_checkRoom_13 (by decide) ?_
  refine k_callSr (n := 1) (As := [vN (1)]) (rest := []) hm hw hl (c_checkState_ok l G ) gX6_checkRoom_X6_checkState rfl (by decide +kernel) ⟨by decide, by decide⟩ [] (by decide) rfl rfl rfl (by simp [Value.category]) ⟨by decide, by decide⟩ dX6_checkRoom_17 (fun v H locs hp hw => ?_)
  obtain rfl := hp
  refine W.eq (g2 := F0 m 20 ls []) rfl ?_
  exact k_vret hm hQ rfl hw (⟨rfl, rfl⟩) (by omega) (by omega) dX6_checkRoom_20
set_option maxHeartbeats 4000000 in
set_option maxRecDepth 100000 in
theorem c_doubled (l : Launch) (G : kG) (f : Nat) (k : Nat) (h : 3 ≤ f ∧ f ≤ 12 ∧ k ≤ 40) : kCR l yX6_doubled wsX6_doubled 0 0 G [vN (f), vN (k)] ([]) (fun vv => ∃ (v : Nat), vv = some (vN (v)) ∧ (Nat.min 120 v = ruf f k ∧ 3 ≤ v ∧ v ≤ 240)) := by
  refine kCM.of (cc := cX6_doubled) (maxL := 4) (ret := (some .int)) (by decide) rfl (Nat.le_of_ble_eq_true rfl) ?_
  intro p e s m args below meth c A ls Qz hQ hin hm hw hl
  have hl : lv_has ls 4 [(0, vN (f)), (1, vN (k))] := hl
  refine k_iload_n hm hl 0 rfl dX6_doubled_0 ?_
  refine k_istore_n hm hl [(2, vN (f)), (0, vN (f)), (1, vN (k))] (by decide) rfl dX6_doubled_1 (fun ls hl => ?_)
  refine k_iconstN hm 0 dX6_doubled_2 ?_
  refine k_istore_n hm hl [(3, vN (0)), (2, vN (f)), (0, vN (f)), (1, vN (k))] (by decide) rfl dX6_doubled_3 (fun ls hl => ?_)
  have loop_4 : ∀ (fu : Nat) (v : Nat) (i : Nat) (hi : i ≤ k) (hv : min 120 v = ruf f i ∧ 3 ≤ v ∧ v ≤ 240) (H : Heap) (locs : List Loc) (ls : Array Slot), k - i < fu → kW G A s ([]) H locs → lv_has ls 4 [(0, vN (f)), (1, vN (k)), (2, vN (v)), (3, vN (i))] → W p l e { frames := 0, cells := 0, slots := 0, locals := 0 } s m args below meth c H locs 0 0 Qz (F0 m 4 ls []) := by
    intro fu
    induction fu with
    | zero => intro v i hi hv H locs ls hfu; exact absurd hfu (Nat.not_lt_zero _)
    | succ fu ih_4 =>
      intro v i hi hv H locs ls hfu hw hl
      refine k_iload_n hm hl 3 rfl dX6_doubled_4 ?_
      refine k_iload_n hm hl 1 rfl dX6_doubled_5 ?_
      refine k_icmpge (tgt := 25) hm dX6_doubled_6 (by decide) (by omega) (fun c_1 => ?_) (fun c_1 => ?_)
      · refine k_iload_n hm hl 2 rfl dX6_doubled_25 ?_
        exact k_iret (post := _) hm hQ rfl rfl hw (⟨⟨v, rfl, (by
                              have e : Nat.min 120 v = min 120 v := rfl
                              rw [e]
                              rw [show k = i by omega]
                              exact hv)⟩, rfl⟩) (by omega) (by omega) dX6_doubled_26
      · refine k_iload_n hm hl 2 rfl dX6_doubled_9 ?_
        refine k_bipushN hm 120 dX6_doubled_10 rfl ?_
        refine k_icmpgt (tgt := 25) hm dX6_doubled_12 (by decide) (by omega) (fun c_2 => ?_) (fun c_2 => ?_)
        · refine k_iload_n hm hl 2 rfl dX6_doubled_25 ?_
          exact k_iret (post := _) hm hQ rfl rfl hw (⟨⟨v, rfl, (by
                              have e : Nat.min 120 v = min 120 v := rfl
                              rw [e]
                              rw [ruf_top hi (by omega) (by omega)]
                              omega)⟩, rfl⟩) (by omega) (by omega) dX6_doubled_26
        · refine k_iload_n hm hl 2 rfl dX6_doubled_15 ?_
          refine k_iconstN hm 2 dX6_doubled_16 ?_
          refine k_imulN hm dX6_doubled_17 ?_
          refine k_istore_n hm hl [(2, vN (v * 2)), (0, vN (f)), (1, vN (k)), (3, vN (i))] (by decide) rfl dX6_doubled_18 (fun ls hl => ?_)
          refine k_iincN hm hl 3 1 rfl [(3, vN (i + 1)), (2, vN (v * 2)), (0, vN (f)), (1, vN (k))] (by decide) rfl dX6_doubled_19 (fun ls hl => ?_)
          refine k_goto (tgt := 4) hm dX6_doubled_22 (by decide) ?_
          exact ih_4  (v * 2) (i + 1) (by first | assumption | omega) (by
                              have e : Nat.min 120 (2 * ruf f i) = min 120 (2 * ruf f i) := rfl
                              simp only [ruf]
                              rw [e]
                              omega) _ _ _ (by omega) hw (lv_sub hl [2, 3, 1, 0] rfl)
  exact loop_4 (k - 0 + 1) f 0 (by first | assumption | omega) (by simp only [ruf]; omega) _ _ _ (Nat.lt_succ_self _) hw (lv_sub hl [2, 3, 1, 0] rfl)
theorem gz_min {v : Nat} (h : 3 ≤ v ∧ v ≤ 240) : gz (v : Int) = Nat.min 120 v := by
  have e : Nat.min 120 v = min 120 v := rfl
  have q := gz_z (v : Int)
  rw [e]
  split at q <;> split at q <;> omega
theorem gs1_rng {f sz r : Nat} (h : 3 ≤ f ∧ f ≤ 12 ∧ 1 ≤ sz ∧ sz ≤ 20 ∧ r ≤ 40) : -10000 ≤ gs1 f sz r ∧ gs1 f sz r ≤ 10000 := by
  unfold gs1
  generalize hx : (if ((Nat.min (r + 1) sz : Nat) : Int) ≤ ((3 * sz : Nat) : Int) - ((r : Nat) : Int) then ((Nat.min (r + 1) sz : Nat) : Int) else ((3 * sz : Nat) : Int) - ((r : Nat) : Int)) = x
  have e : Nat.min (r + 1) sz = min (r + 1) sz := rfl
  have hb : -100 ≤ x ∧ x ≤ 100 := by rw [← hx, e]; split <;> omega
  obtain ⟨h1, h2, -⟩ := h
  rcases (show f = 3 ∨ f = 4 ∨ f = 5 ∨ f = 6 ∨ f = 7 ∨ f = 8 ∨ f = 9 ∨ f = 10 ∨ f = 11 ∨ f = 12 by omega) with rfl | rfl | rfl | rfl | rfl | rfl | rfl | rfl | rfl | rfl <;> omega
set_option maxHeartbeats 4000000 in
set_option maxRecDepth 100000 in
theorem c_rawGoal_0 (l : Launch) (G : kG) (f : Nat) (sz : Nat) (r : Nat) (h : 3 ≤ f ∧ f ≤ 12 ∧ 1 ≤ sz ∧ sz ≤ 20 ∧ r ≤ 40) : kCR l yX6_rawGoal wsX6_rawGoal 1 23 G [vN (f), vN (0), vN (sz), vN (r)] ([]) (fun vv => ∃ (v : Int), vv = some (vZ (v)) ∧ (gz v = goalF f 0 sz r ∧ -10000 ≤ v ∧ v ≤ 10000)) := by
  refine kCM.of (cc := cX6_rawGoal) (maxL := 4) (ret := (some .int)) (by decide) rfl (Nat.le_of_ble_eq_true rfl) ?_
  intro p e s m args below meth c A ls Qz hQ hin hm hw hl
  have hl : lv_has ls 4 [(0, vN (f)), (1, vN (0)), (2, vN (sz)), (3, vN (r))] := hl
  have p1 : f * (r + 1) ≤ 12 * 41 := Nat.mul_le_mul h.2.1 (by omega)
  have p2 : r * sz ≤ 41 * 20 := Nat.mul_le_mul (by omega) (by omega)
  have p3 : f * Nat.min (r + 1) sz ≤ 12 * 20 := Nat.mul_le_mul h.2.1 (Nat.le_trans (Nat.min_le_right _ _) (by omega))
  have q1 := (gs1_rng h).1
  have q2 := (gs1_rng h).2
  have e1 : Nat.min (r + 1) sz = min (r + 1) sz := rfl
  refine k_iload_n hm hl 1 rfl dX6_rawGoal_0 ?_
  refine k_tsw (x := 0) (tgt := 32) hm dX6_rawGoal_1 (by decide) (by decide) (by decide) rfl (by decide) ?_
  refine k_iload_n hm hl 0 rfl dX6_rawGoal_32 ?_
  refine k_iload_n hm hl 3 rfl dX6_rawGoal_33 ?_
  refine k_iconstN hm 1 dX6_rawGoal_34 ?_
  refine k_iaddN hm dX6_rawGoal_35 ?_
  refine k_imulN hm dX6_rawGoal_36 ?_
  exact k_iret (post := _) hm hQ rfl rfl hw (⟨⟨_, rfl, by unfold goalF; rw [if_pos rfl], by omega, by omega⟩, rfl⟩) (by omega) (by omega) dX6_rawGoal_37
set_option maxHeartbeats 4000000 in
set_option maxRecDepth 100000 in
theorem c_rawGoal_1 (l : Launch) (G : kG) (f : Nat) (sz : Nat) (r : Nat) (h : 3 ≤ f ∧ f ≤ 12 ∧ 1 ≤ sz ∧ sz ≤ 20 ∧ r ≤ 40) : kCR l yX6_rawGoal wsX6_rawGoal 1 23 G [vN (f), vN (1), vN (sz), vN (r)] ([]) (fun vv => ∃ (v : Int), vv = some (vZ (v)) ∧ (gz v = goalF f 1 sz r ∧ -10000 ≤ v ∧ v ≤ 10000)) := by
  refine kCM.of (cc := cX6_rawGoal) (maxL := 4) (ret := (some .int)) (by decide) rfl (Nat.le_of_ble_eq_true rfl) ?_
  intro p e s m args below meth c A ls Qz hQ hin hm hw hl
  have hl : lv_has ls 4 [(0, vN (f)), (1, vN (1)), (2, vN (sz)), (3, vN (r))] := hl
  have p1 : f * (r + 1) ≤ 12 * 41 := Nat.mul_le_mul h.2.1 (by omega)
  have p2 : r * sz ≤ 41 * 20 := Nat.mul_le_mul (by omega) (by omega)
  have p3 : f * Nat.min (r + 1) sz ≤ 12 * 20 := Nat.mul_le_mul h.2.1 (Nat.le_trans (Nat.min_le_right _ _) (by omega))
  have q1 := (gs1_rng h).1
  have q2 := (gs1_rng h).2
  have e1 : Nat.min (r + 1) sz = min (r + 1) sz := rfl
  refine k_iload_n hm hl 1 rfl dX6_rawGoal_0 ?_
  refine k_tsw (x := 1) (tgt := 38) hm dX6_rawGoal_1 (by decide) (by decide) (by decide) rfl (by decide) ?_
  refine k_iload_n hm hl 0 rfl dX6_rawGoal_38 ?_
  refine k_iload_n hm hl 3 rfl dX6_rawGoal_39 ?_
  refine k_iconstN hm 1 dX6_rawGoal_40 ?_
  refine k_iaddN hm dX6_rawGoal_41 ?_
  refine k_iload_n hm hl 2 rfl dX6_rawGoal_42 ?_
  refine k_mminN hm hl (by decide +kernel) (by decide +kernel) (by decide +kernel) (by decide +kernel) (by decide) (by simp [Value.category]) (by decide) (by decide) (by omega) dX6_rawGoal_43 ?_
  refine k_iconstN hm 3 dX6_rawGoal_46 ?_
  refine k_iload_n hm hl 2 rfl dX6_rawGoal_47 ?_
  refine k_imulN hm dX6_rawGoal_48 ?_
  refine k_iload_n hm hl 3 rfl dX6_rawGoal_49 ?_
  refine k_isub hm dX6_rawGoal_50 ?_
  refine k_mmin hm hl (by decide +kernel) (by decide +kernel) (by decide +kernel) (by decide +kernel) (by decide) (by simp [Value.category]) (by decide) (by decide) (by omega) dX6_rawGoal_51 ?_
  refine k_imul hm dX6_rawGoal_54 ?_
  exact k_iret (post := _) hm hQ rfl rfl hw (⟨⟨gs1 f sz r, rfl, by unfold goalF; rw [if_neg (by decide), if_pos rfl], q1, q2⟩, rfl⟩) (by omega) (by omega) dX6_rawGoal_55
set_option maxHeartbeats 4000000 in
set_option maxRecDepth 100000 in
theorem c_rawGoal_2 (l : Launch) (G : kG) (f : Nat) (sz : Nat) (r : Nat) (h : 3 ≤ f ∧ f ≤ 12 ∧ 1 ≤ sz ∧ sz ≤ 20 ∧ r ≤ 40) : kCR l yX6_rawGoal wsX6_rawGoal 1 23 G [vN (f), vN (2), vN (sz), vN (r)] ([]) (fun vv => ∃ (v : Int), vv = some (vZ (v)) ∧ (gz v = goalF f 2 sz r ∧ -10000 ≤ v ∧ v ≤ 10000)) := by
  refine kCM.of (cc := cX6_rawGoal) (maxL := 4) (ret := (some .int)) (by decide) rfl (Nat.le_of_ble_eq_true rfl) ?_
  intro p e s m args below meth c A ls Qz hQ hin hm hw hl
  have hl : lv_has ls 4 [(0, vN (f)), (1, vN (2)), (2, vN (sz)), (3, vN (r))] := hl
  have p1 : f * (r + 1) ≤ 12 * 41 := Nat.mul_le_mul h.2.1 (by omega)
  have p2 : r * sz ≤ 41 * 20 := Nat.mul_le_mul (by omega) (by omega)
  have p3 : f * Nat.min (r + 1) sz ≤ 12 * 20 := Nat.mul_le_mul h.2.1 (Nat.le_trans (Nat.min_le_right _ _) (by omega))
  have q1 := (gs1_rng h).1
  have q2 := (gs1_rng h).2
  have e1 : Nat.min (r + 1) sz = min (r + 1) sz := rfl
  refine k_iload_n hm hl 1 rfl dX6_rawGoal_0 ?_
  refine k_tsw (x := 2) (tgt := 56) hm dX6_rawGoal_1 (by decide) (by decide) (by decide) rfl (by decide) ?_
  refine k_iload_n hm hl 0 rfl dX6_rawGoal_56 ?_
  refine k_iload_n hm hl 3 rfl dX6_rawGoal_57 ?_
  refine k_callSr (n := 2) (As := [vN (f), vN (r)]) (rest := []) hm hw hl (c_doubled l G f r (by first | assumption | omega)) gX6_rawGoal_X6_doubled rfl (by decide +kernel) ⟨by decide, by decide⟩ [] (by decide) rfl rfl rfl (by simp [Value.category]) ⟨by decide, by decide⟩ dX6_rawGoal_58 (fun v H locs hp hw => ?_)
  obtain ⟨v_2, rfl, hv_3⟩ := hp
  refine W.eq (g2 := F0 m 61 ls [vN (v_2)]) rfl ?_
  have hdv := hv_3
  exact k_iret (post := _) hm hQ rfl rfl hw (⟨⟨_, rfl, by unfold goalF; rw [if_neg (by decide), if_neg (by decide), if_pos rfl, ← hdv.1]; exact gz_min hdv.2, by omega, by omega⟩, rfl⟩) (by omega) (by omega) dX6_rawGoal_61
set_option maxHeartbeats 4000000 in
set_option maxRecDepth 100000 in
theorem c_rawGoal_3 (l : Launch) (G : kG) (f : Nat) (sz : Nat) (r : Nat) (h : 3 ≤ f ∧ f ≤ 12 ∧ 1 ≤ sz ∧ sz ≤ 20 ∧ r ≤ 40) : kCR l yX6_rawGoal wsX6_rawGoal 1 23 G [vN (f), vN (3), vN (sz), vN (r)] ([]) (fun vv => ∃ (v : Int), vv = some (vZ (v)) ∧ (gz v = goalF f 3 sz r ∧ -10000 ≤ v ∧ v ≤ 10000)) := by
  refine kCM.of (cc := cX6_rawGoal) (maxL := 4) (ret := (some .int)) (by decide) rfl (Nat.le_of_ble_eq_true rfl) ?_
  intro p e s m args below meth c A ls Qz hQ hin hm hw hl
  have hl : lv_has ls 4 [(0, vN (f)), (1, vN (3)), (2, vN (sz)), (3, vN (r))] := hl
  have p1 : f * (r + 1) ≤ 12 * 41 := Nat.mul_le_mul h.2.1 (by omega)
  have p2 : r * sz ≤ 41 * 20 := Nat.mul_le_mul (by omega) (by omega)
  have p3 : f * Nat.min (r + 1) sz ≤ 12 * 20 := Nat.mul_le_mul h.2.1 (Nat.le_trans (Nat.min_le_right _ _) (by omega))
  have q1 := (gs1_rng h).1
  have q2 := (gs1_rng h).2
  have e1 : Nat.min (r + 1) sz = min (r + 1) sz := rfl
  refine k_iload_n hm hl 1 rfl dX6_rawGoal_0 ?_
  refine k_tsw (x := 3) (tgt := 62) hm dX6_rawGoal_1 (by decide) (by decide) (by decide) rfl (by decide) ?_
  refine k_iload_n hm hl 0 rfl dX6_rawGoal_62 ?_
  refine k_iload_n hm hl 3 rfl dX6_rawGoal_63 ?_
  refine k_iload_n hm hl 2 rfl dX6_rawGoal_64 ?_
  refine k_imulN hm dX6_rawGoal_65 ?_
  refine k_iaddN hm dX6_rawGoal_66 ?_
  exact k_iret (post := _) hm hQ rfl rfl hw (⟨⟨_, rfl, by unfold goalF; rw [if_neg (by decide), if_neg (by decide), if_neg (by decide), if_pos rfl], by omega, by omega⟩, rfl⟩) (by omega) (by omega) dX6_rawGoal_67
set_option maxHeartbeats 4000000 in
set_option maxRecDepth 100000 in
theorem c_rawGoal_4 (l : Launch) (G : kG) (f : Nat) (sz : Nat) (r : Nat) (h : 3 ≤ f ∧ f ≤ 12 ∧ 1 ≤ sz ∧ sz ≤ 20 ∧ r ≤ 40) : kCR l yX6_rawGoal wsX6_rawGoal 1 23 G [vN (f), vN (4), vN (sz), vN (r)] ([]) (fun vv => ∃ (v : Int), vv = some (vZ (v)) ∧ (gz v = goalF f 4 sz r ∧ -10000 ≤ v ∧ v ≤ 10000)) := by
  refine kCM.of (cc := cX6_rawGoal) (maxL := 4) (ret := (some .int)) (by decide) rfl (Nat.le_of_ble_eq_true rfl) ?_
  intro p e s m args below meth c A ls Qz hQ hin hm hw hl
  have hl : lv_has ls 4 [(0, vN (f)), (1, vN (4)), (2, vN (sz)), (3, vN (r))] := hl
  have p1 : f * (r + 1) ≤ 12 * 41 := Nat.mul_le_mul h.2.1 (by omega)
  have p2 : r * sz ≤ 41 * 20 := Nat.mul_le_mul (by omega) (by omega)
  have p3 : f * Nat.min (r + 1) sz ≤ 12 * 20 := Nat.mul_le_mul h.2.1 (Nat.le_trans (Nat.min_le_right _ _) (by omega))
  have q1 := (gs1_rng h).1
  have q2 := (gs1_rng h).2
  have e1 : Nat.min (r + 1) sz = min (r + 1) sz := rfl
  refine k_iload_n hm hl 1 rfl dX6_rawGoal_0 ?_
  refine k_tsd (x := 4) (tgt := 68) hm dX6_rawGoal_1 (by decide) (by decide) (by decide) ?_
  refine k_iload_n hm hl 0 rfl dX6_rawGoal_68 ?_
  refine k_iload_n hm hl 3 rfl dX6_rawGoal_69 ?_
  refine k_iconstN hm 1 dX6_rawGoal_70 ?_
  refine k_iaddN hm dX6_rawGoal_71 ?_
  refine k_iload_n hm hl 2 rfl dX6_rawGoal_72 ?_
  refine k_mminN hm hl (by decide +kernel) (by decide +kernel) (by decide +kernel) (by decide +kernel) (by decide) (by simp [Value.category]) (by decide) (by decide) (by omega) dX6_rawGoal_73 ?_
  refine k_imulN hm dX6_rawGoal_76 ?_
  exact k_iret (post := _) hm hQ rfl rfl hw (⟨⟨_, rfl, by unfold goalF; rw [if_neg (by decide), if_neg (by decide), if_neg (by decide), if_neg (by decide)], by omega, by omega⟩, rfl⟩) (by omega) (by omega) dX6_rawGoal_77
set_option maxHeartbeats 4000000 in
set_option maxRecDepth 100000 in
theorem c_rawGoal (l : Launch) (G : kG) (f : Nat) (sh : Nat) (sz : Nat) (r : Nat) (hsh : sh < 5) (h : 3 ≤ f ∧ f ≤ 12 ∧ 1 ≤ sz ∧ sz ≤ 20 ∧ r ≤ 40) : kCR l yX6_rawGoal wsX6_rawGoal 1 23 G [vN (f), vN (sh), vN (sz), vN (r)] ([]) (fun vv => ∃ (v : Int), vv = some (vZ (v)) ∧ (gz v = goalF f sh sz r ∧ -10000 ≤ v ∧ v ≤ 10000)) := by
  rcases (show sh = 0 ∨ sh = 1 ∨ sh = 2 ∨ sh = 3 ∨ sh = 4 by omega) with rfl | rfl | rfl | rfl | rfl
  · exact c_rawGoal_0 l G f sz r h
  · exact c_rawGoal_1 l G f sz r h
  · exact c_rawGoal_2 l G f sz r h
  · exact c_rawGoal_3 l G f sz r h
  · exact c_rawGoal_4 l G f sz r h
set_option maxHeartbeats 4000000 in
set_option maxRecDepth 100000 in
theorem c_shapeGoal (l : Launch) (G : kG) (o : Nat) (h : Nat) (T : Nat → Nat) (L : Nat → Nat) (M : Nat → Nat) (P : Nat → Nat) (gk : Nat → Nat) (gw : Nat → Nat) (gt : Nat → Nat) (gy : Nat → Nat) (R : Nat) (sp : Bool) (K : Nat → Nat → Nat) (w : Nat → Nat) (y : Nat → Nat) (sh : Nat) (sz : Nat) (r : Nat) (hok : POk gk gw gt gy R K w y) (hs : sh < 5 ∧ 1 ≤ sz ∧ sz ≤ 20 ∧ r ≤ 40) : kCR l yX6_shapeGoal wsX6_shapeGoal 2 46 G [.ref (o), vN (sh), vN (sz), vN (r)] (wMain G o P h T L M ++ wPiece G P gk gw gt gy R sp) (fun vv => vv = some (vN (goalF (sumM (K 0) (w 0)) sh sz r))) := by
  refine kCM.of (cc := cX6_shapeGoal) (maxL := 5) (ret := (some .int)) (by decide) rfl (Nat.le_of_ble_eq_true rfl) ?_
  intro p e s m args below meth c A ls Qz hQ hin hm hw hl
  have hl : lv_has ls 5 [(0, .ref (o)), (1, vN (sh)), (2, vN (sz)), (3, vN (r))] := hl
  have i4 : ∀ w ∈ wsX40, w ∈ wsX6_shapeGoal := by decide +kernel
  have i6 : ∀ w ∈ wsX60, w ∈ wsX6_shapeGoal := by decide +kernel
  have hR := hok.1.1
  have hk0 := hok.2.1 0 (by omega)
  have ht0 := tot0_rng hok.1
  refine k_aload_n hm hl 0 rfl dX6_shapeGoal_0 ?_
  refine k_get (T := TX6) hm hw 0 0 i6 rfl rfl (by decide) (by decide +kernel) rfl dX6_shapeGoal_1 ?_
  refine k_get (T := TX4) hm hw 1 2 i4 rfl rfl (by decide) (by decide +kernel) rfl dX6_shapeGoal_4 ?_
  refine k_iconstN hm 0 dX6_shapeGoal_7 ?_
  refine k_callVr (n := 1) (As := [vN (0)]) (rest := []) hm hw hl (c_Num_at l G (P 5) (P 6) 40 gt 0 (by first | assumption | omega)) gX6_shapeGoal_X2_at rfl (by decide +kernel) ⟨by decide, by decide⟩ (ci := 2) rfl 6 rfl [6, 7] (by decide) rfl rfl rfl (by simp [Value.category]) ⟨by decide, by decide⟩ dX6_shapeGoal_8 (fun v H locs hp hw => ?_)
  obtain rfl := hp
  refine W.eq (g2 := F0 m 11 ls [vN (gt 0)]) rfl ?_
  refine k_rwV (y := vN (sumM (K 0) (w 0))) (by rw [hk0.2.1]) ?_
  refine k_iload_n hm hl 1 rfl dX6_shapeGoal_11 ?_
  refine k_iload_n hm hl 2 rfl dX6_shapeGoal_12 ?_
  refine k_iload_n hm hl 3 rfl dX6_shapeGoal_13 ?_
  refine k_callSr (n := 4) (As := [vN (sumM (K 0) (w 0)), vN (sh), vN (sz), vN (r)]) (rest := []) hm hw hl (c_rawGoal l G (sumM (K 0) (w 0)) sh sz r (by first | assumption | omega) (by first | assumption | omega)) gX6_shapeGoal_X6_rawGoal rfl (by decide +kernel) ⟨by decide, by decide⟩ [] (by decide) rfl rfl rfl (by simp [Value.category]) ⟨by decide, by decide⟩ dX6_shapeGoal_14 (fun v H locs hp hw => ?_)
  obtain ⟨v_3, rfl, hv_4⟩ := hp
  refine W.eq (g2 := F0 m 17 ls [vZ (v_3)]) rfl ?_
  have hgv := hv_4
  refine k_istore hm hl [(4, vZ (v_3)), (0, .ref (o)), (1, vN (sh)), (2, vN (sz)), (3, vN (r))] (by decide) rfl dX6_shapeGoal_17 (fun ls hl => ?_)
  refine k_iconstN hm 3 dX6_shapeGoal_19 ?_
  refine k_bipushN hm 120 dX6_shapeGoal_20 rfl ?_
  refine k_iload hm hl 0 rfl dX6_shapeGoal_22 ?_
  refine k_mmin hm hl (by decide +kernel) (by decide +kernel) (by decide +kernel) (by decide +kernel) (by decide) (by simp [Value.category]) (by decide) (by decide) (by omega) dX6_shapeGoal_24 ?_
  refine k_mmax hm hl (by decide +kernel) (by decide +kernel) (by decide +kernel) (by decide +kernel) (by decide) (by simp [Value.category]) (by decide) (by decide) (by omega) dX6_shapeGoal_27 ?_
  refine k_rwV (y := vN (goalF (sumM (K 0) (w 0)) sh sz r)) (by rw [← hgv.1]; exact congrArg vZ (gz_z _).symm) ?_
  exact k_iret (post := _) hm hQ rfl rfl hw (⟨rfl, rfl⟩) (by omega) (by omega) dX6_shapeGoal_30
theorem isNs_0 {D : Nat → Nat → Nat} : isNs D 2 1 := ⟨0, 1, by omega, by omega, by omega, rfl, by omega, fun s2 z2 a b c d => by
  have e1 : s2 = 0 := by omega
  have e2 : z2 = 1 := by omega
  rw [e1, e2]; exact ⟨Nat.le_refl _, fun _ => by omega⟩⟩
theorem isNs_keep {D : Nat → Nat → Nat} {sh sz b s1 z1 : Nat} (h : isNs D (100 * sh + sz) b) (hb : b = 100 * s1 + z1) (h1 : 1 ≤ z1 ∧ z1 ≤ 20) (hs : 1 ≤ sz ∧ sz ≤ 20) (hd : D s1 z1 ≤ D sh sz) : isNs D (100 * sh + (sz + 1)) b := by
  obtain ⟨s2, z2, a1, a2, a3, a4, a5, a6⟩ := h
  have e1 : s2 = s1 := by omega
  have e2 : z2 = z1 := by omega
  subst e1; subst e2
  refine ⟨s2, z2, a1, a2, a3, a4, by omega, fun s3 z3 b1 b2 b3 b4 => ?_⟩
  by_cases q : 100 * s3 + z3 < 100 * sh + sz
  · exact a6 s3 z3 b1 b2 b3 q
  · have e3 : s3 = sh := by omega
    have e4 : z3 = sz := by omega
    subst e3; subst e4
    exact ⟨hd, fun _ => by omega⟩
theorem isNs_new {D : Nat → Nat → Nat} {sh sz b s1 z1 : Nat} (h : isNs D (100 * sh + sz) b) (hb : b = 100 * s1 + z1) (h1 : 1 ≤ z1 ∧ z1 ≤ 20) (hs : sh < 5 ∧ 1 ≤ sz ∧ sz ≤ 20) (hd : D sh sz < D s1 z1) : isNs D (100 * sh + (sz + 1)) (100 * sh + sz) := by
  obtain ⟨s2, z2, a1, a2, a3, a4, a5, a6⟩ := h
  have e1 : s2 = s1 := by omega
  have e2 : z2 = z1 := by omega
  subst e1; subst e2
  refine ⟨sh, sz, hs.1, hs.2.1, hs.2.2, rfl, by omega, fun s3 z3 b1 b2 b3 b4 => ?_⟩
  by_cases q : 100 * s3 + z3 < 100 * sh + sz
  · have q2 := a6 s3 z3 b1 b2 b3 q
    exact ⟨by omega, fun z => by omega⟩
  · have e3 : s3 = sh := by omega
    have e4 : z3 = sz := by omega
    subst e3; subst e4
    exact ⟨Nat.le_refl _, fun _ => Nat.le_refl _⟩
theorem isNs_row {D : Nat → Nat → Nat} {sh b : Nat} (h : isNs D (100 * sh + 21) b) : isNs D (100 * (sh + 1) + 1) b := by
  obtain ⟨s2, z2, a1, a2, a3, a4, a5, a6⟩ := h
  exact ⟨s2, z2, a1, a2, a3, a4, by omega, fun s3 z3 b1 b2 b3 b4 => a6 s3 z3 b1 b2 b3 (by omega)⟩
theorem isNs_end {D : Nat → Nat → Nat} {b : Nat} (h : isNs D 501 b) : isNs D 500 b := by
  obtain ⟨s2, z2, a1, a2, a3, a4, a5, a6⟩ := h
  exact ⟨s2, z2, a1, a2, a3, a4, by omega, fun s3 z3 b1 b2 b3 b4 => a6 s3 z3 b1 b2 b3 (by omega)⟩
