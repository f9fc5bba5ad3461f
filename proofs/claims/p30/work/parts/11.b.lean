/-- a row's stretch copied over -/
def cpU (f f2 : Nat → Nat) (a n : Nat) : Nat → Nat := fun j => if a ≤ j ∧ j < a + n then f2 j else f j
set_option maxHeartbeats 4000000 in
set_option maxRecDepth 100000 in
theorem c_Num_take (l : Launch) (G : kG) (a : Nat) (b : Nat) (n : Nat) (f : Nat → Nat) (a2 : Nat) (b2 : Nat) (n2 : Nat) (f2 : Nat → Nat) (x : Nat) (k : Nat) (h : x + k ≤ n ∧ x + k ≤ n2 ∧ n < 1000000 ∧ n2 < 1000000) : kCM l yX2_take wsX2_take 1 22 0 0 G [.ref (a), .ref (a2), vN (x), vN (k)] ([(a, .inr (2, [.ref (b)])), (b, .inl (G.2 0, n, .inl (nF f))), (a2, .inr (2, [.ref (b2)])), (b2, .inl (G.2 0, n2, .inl (nF f2)))]) (fun vv uu => vv = none ∧ uu = [(a, .inr (2, [.ref (b)])), (b, .inl (G.2 0, n, .inl (nF (cpU f f2 x k)))), (a2, .inr (2, [.ref (b2)])), (b2, .inl (G.2 0, n2, .inl (nF f2)))]) := by
  refine kCM.of (cc := cX2_take) (maxL := 5) (ret := none) (by decide) rfl (Nat.le_of_ble_eq_true rfl) ?_
  intro p e s m args below meth c A ls Qz hQ hin hm hw hl
  have hl : lv_has ls 5 [(0, .ref (a)), (1, .ref (a2)), (2, vN (x)), (3, vN (k))] := hl
  refine k_iload_n hm hl 2 rfl dX2_take_0 ?_
  refine k_istore hm hl [(4, vN (x)), (0, .ref (a)), (1, .ref (a2)), (2, vN (x)), (3, vN (k))] (by decide) rfl dX2_take_1 (fun ls hl => ?_)
  have loop_3 : ∀ (fu : Nat) (i : Nat) (g : Nat → Nat) (hi : x ≤ i ∧ i ≤ x + k) (hg : g = cpU f f2 x (i - x)) (H : Heap) (locs : List Loc) (ls : Array Slot), x + k - i < fu → kW G A s ([(a, .inr (2, [.ref (b)])), (b, .inl (G.2 0, n, .inl (nF g))), (a2, .inr (2, [.ref (b2)])), (b2, .inl (G.2 0, n2, .inl (nF f2)))]) H locs → lv_has ls 5 [(0, .ref (a)), (1, .ref (a2)), (2, vN (x)), (3, vN (k)), (4, vN (i))] → W p l e { frames := 1, cells := 0, slots := 0, locals := 22 } s m args below meth c H locs 0 0 Qz (F0 m 3 ls []) := by
    intro fu
    induction fu with
    | zero => intro i g hi hg H locs ls hfu; exact absurd hfu (Nat.not_lt_zero _)
    | succ fu ih_3 =>
      intro i g hi hg H locs ls hfu hw hl
      refine k_iload hm hl 4 rfl dX2_take_3 ?_
      refine k_iload_n hm hl 2 rfl dX2_take_5 ?_
      refine k_iload_n hm hl 3 rfl dX2_take_6 ?_
      refine k_iaddN hm dX2_take_7 ?_
      refine k_icmpge (tgt := 29) hm dX2_take_8 (by decide) (by omega) (fun c_1 => ?_) (fun c_1 => ?_)
      · exact k_vret hm hQ rfl hw (⟨rfl, by rw [hg, show i - x = k by omega]⟩) (by omega) (by omega) dX2_take_29
      · refine k_aload_n hm hl 0 rfl dX2_take_11 ?_
        refine k_iload hm hl 4 rfl dX2_take_12 ?_
        refine k_aload_n hm hl 1 rfl dX2_take_14 ?_
        refine k_iload hm hl 4 rfl dX2_take_15 ?_
        refine k_callVr (n := 1) (As := [vN (i)]) (rest := [vN (i), .ref (a)]) hm hw hl (c_Num_at l G a2 b2 n2 f2 i (by first | assumption | omega)) gX2_take_X2_at rfl (by decide +kernel) ⟨by decide, by decide⟩ (ci := 2) rfl 2 rfl [2, 3] (by decide) rfl rfl rfl (by simp [Value.category]) ⟨by decide, by decide⟩ dX2_take_17 (fun v H locs hp hw => ?_)
        obtain rfl := hp
        refine W.eq (g2 := F0 m 20 ls [vN (f2 i), vN (i), .ref (a)]) rfl ?_
        refine k_callV (n := 2) (As := [vN (i), vN (f2 i)]) (rest := []) (wr := [(a2, .inr (2, [.ref (b2)])), (b2, .inl (G.2 0, n2, .inl (nF f2)))]) hm hw hl (c_Num_put l G a b n g i (f2 i) (by first | assumption | omega)) gX2_take_X2_put rfl (by decide +kernel) ⟨by decide, by decide⟩ (ci := 2) rfl 0 rfl [0, 1] [2, 3] (by decide) rfl rfl (by decide) (by decide) rfl rfl (by simp [Value.category]) ⟨by decide, by decide⟩ dX2_take_20 (fun v w1 H locs hp hw => ?_)
        obtain ⟨rfl, rfl⟩ := hp
        have hw := hw.sub (ws' := [(a, .inr (2, [.ref (b)])), (b, .inl (G.2 0, n, .inl (nF (nU g i (f2 i))))), (a2, .inr (2, [.ref (b2)])), (b2, .inl (G.2 0, n2, .inl (nF f2)))]) [2, 3, 0, 1] (by decide) rfl
        refine W.eq (g2 := F0 m 23 ls []) rfl ?_
        refine k_iincN hm hl 4 1 rfl [(4, vN (i + 1)), (0, .ref (a)), (1, .ref (a2)), (2, vN (x)), (3, vN (k))] (by decide) rfl dX2_take_23 (fun ls hl => ?_)
        refine k_goto (tgt := 3) hm dX2_take_26 (by decide) ?_
        exact ih_3  (i + 1) (nU g i (f2 i)) (by first | assumption | omega) (by
                              rw [hg]
                              funext j
                              simp only [cpU, nU]
                              by_cases q : j = i
                              · rw [if_pos q, if_pos (by omega), q]
                              · rw [if_neg q]
                                by_cases q2 : x ≤ j ∧ j < x + (i - x)
                                · rw [if_pos q2, if_pos (by omega)]
                                · rw [if_neg q2, if_neg (by omega)]) _ _ _ (by omega) hw (lv_sub hl [1, 2, 3, 4, 0] rfl)
  exact loop_3 (x + k - x + 1) x f (by first | assumption | omega) (by funext j; simp only [cpU]; rw [if_neg (by omega)]) _ _ _ (Nat.lt_succ_self _) hw (lv_sub hl [1, 2, 3, 4, 0] rfl)
set_option maxHeartbeats 4000000 in
set_option maxRecDepth 100000 in
theorem c_countOf (l : Launch) (G : kG) (P : Nat → Nat) (gk : Nat → Nat) (gw : Nat → Nat) (gt : Nat → Nat) (gy : Nat → Nat) (R : Nat) (sp : Bool) (K : Nat → Nat → Nat) (w : Nat → Nat) (y : Nat → Nat) (r : Nat) (k : Nat) (hok : POk gk gw gt gy R K w y) (hr : r < R) (hk3 : k < 3) : kCR l yX4_countOf wsX4_countOf 2 43 G [.ref (P 0), vN (r), vN (k)] (wPiece G P gk gw gt gy R sp) (fun vv => vv = some (vN (cnt (K r) k (w r)))) := by
  refine kCM.of (cc := cX4_countOf) (maxL := 6) (ret := (some .int)) (by decide) rfl (Nat.le_of_ble_eq_true rfl) ?_
  intro p e s m args below meth c A ls Qz hQ hin hm hw hl
  have hl : lv_has ls 6 [(0, .ref (P 0)), (1, vN (r)), (2, vN (k))] := hl
  have i4 : ∀ w ∈ wsX40, w ∈ wsX4_countOf := by decide +kernel
  have hk := hok.2.1 r hr
  have hb := hok.1.2.1 r hr
  have hR := hok.1.1
  refine k_aload_n hm hl 0 rfl dX4_countOf_0 ?_
  refine k_get (T := TX4) hm hw 0 1 i4 rfl rfl (by decide) (by decide +kernel) rfl dX4_countOf_1 ?_
  refine k_iload_n hm hl 1 rfl dX4_countOf_4 ?_
  refine k_callVr (n := 1) (As := [vN (r)]) (rest := []) hm hw hl (c_Num_at l G (P 3) (P 4) 40 gw r (by first | assumption | omega)) gX4_countOf_X2_at rfl (by decide +kernel) ⟨by decide, by decide⟩ (ci := 2) rfl 3 rfl [3, 4] (by decide) rfl rfl rfl (by simp [Value.category]) ⟨by decide, by decide⟩ dX4_countOf_5 (fun v H locs hp hw => ?_)
  obtain rfl := hp
  refine W.eq (g2 := F0 m 8 ls [vN (gw r)]) rfl ?_
  refine k_rwV (y := vN (w r)) (by rw [hk.1]) ?_
  refine k_istore_n hm hl [(3, vN (w r)), (0, .ref (P 0)), (1, vN (r)), (2, vN (k))] (by decide) rfl dX4_countOf_8 (fun ls hl => ?_)
  refine k_iconstN hm 0 dX4_countOf_9 ?_
  refine k_istore hm hl [(4, vN (0)), (3, vN (w r)), (0, .ref (P 0)), (1, vN (r)), (2, vN (k))] (by decide) rfl dX4_countOf_10 (fun ls hl => ?_)
  refine k_iconstN hm 0 dX4_countOf_12 ?_
  refine k_istore hm hl [(5, vN (0)), (4, vN (0)), (3, vN (w r)), (0, .ref (P 0)), (1, vN (r)), (2, vN (k))] (by decide) rfl dX4_countOf_13 (fun ls hl => ?_)
  have loop_15 : ∀ (fu : Nat) (t : Nat) (i : Nat) (ht : t = cnt (K r) k i) (hi : i ≤ w r) (H : Heap) (locs : List Loc) (ls : Array Slot), w r - i < fu → kW G A s (wPiece G P gk gw gt gy R sp) H locs → lv_has ls 6 [(0, .ref (P 0)), (1, vN (r)), (2, vN (k)), (3, vN (w r)), (4, vN (t)), (5, vN (i))] → W p l e { frames := 2, cells := 0, slots := 0, locals := 43 } s m args below meth c H locs 0 0 Qz (F0 m 15 ls []) := by
    intro fu
    induction fu with
    | zero => intro t i ht hi H locs ls hfu; exact absurd hfu (Nat.not_lt_zero _)
    | succ fu ih_15 =>
      intro t i ht hi H locs ls hfu hw hl
      refine k_iload hm hl 5 rfl dX4_countOf_15 ?_
      refine k_iload_n hm hl 3 rfl dX4_countOf_17 ?_
      refine k_icmpge (tgt := 41) hm dX4_countOf_18 (by decide) (by omega) (fun c_2 => ?_) (fun c_2 => ?_)
      · refine k_iload hm hl 4 rfl dX4_countOf_41 ?_
        exact k_iret (post := _) hm hQ rfl rfl hw (⟨by rw [ht, show i = w r by omega], rfl⟩) (by omega) (by omega) dX4_countOf_43
      · have h2 := (hok.1.2.1 r (by omega)).2.2 i (by omega)
        refine k_aload_n hm hl 0 rfl dX4_countOf_21 ?_
        refine k_iload_n hm hl 1 rfl dX4_countOf_22 ?_
        refine k_iload hm hl 5 rfl dX4_countOf_23 ?_
        refine k_callVr (n := 2) (As := [vN (r), vN (i)]) (rest := []) hm hw hl (c_kindOf l G P gk gw gt gy R sp K w y r i (by first | assumption | omega) (by first | assumption | omega) (by first | assumption | omega)) gX4_countOf_X4_kindOf rfl (by decide +kernel) ⟨by decide, by decide⟩ (ci := 4) rfl 0 rfl [0, 1, 2, 3, 4, 5, 6, 7, 8] (by decide) rfl rfl rfl (by simp [Value.category]) ⟨by decide, by decide⟩ dX4_countOf_25 (fun v H locs hp hw => ?_)
        obtain rfl := hp
        refine W.eq (g2 := F0 m 28 ls [vN (K r i)]) rfl ?_
        refine k_iload_n hm hl 2 rfl dX4_countOf_28 ?_
        refine k_icmpne (tgt := 35) hm dX4_countOf_29 (by decide) (by omega) (fun c_4 => ?_) (fun c_4 => ?_)
        · refine k_iincN hm hl 5 1 rfl [(5, vN (i + 1)), (0, .ref (P 0)), (1, vN (r)), (2, vN (k)), (3, vN (w r)), (4, vN (t))] (by decide) rfl dX4_countOf_35 (fun ls hl => ?_)
          refine k_goto (tgt := 15) hm dX4_countOf_38 (by decide) ?_
          exact ih_15  t (i + 1) (by simp only [cnt]; rw [if_neg (by omega)]; omega) (by first | assumption | omega) _ _ _ (by omega) hw (lv_sub hl [1, 2, 3, 4, 5, 0] rfl)
        · refine k_iincN hm hl 4 1 rfl [(4, vN (t + 1)), (0, .ref (P 0)), (1, vN (r)), (2, vN (k)), (3, vN (w r)), (5, vN (i))] (by decide) rfl dX4_countOf_32 (fun ls hl => ?_)
          refine k_iincN hm hl 5 1 rfl [(5, vN (i + 1)), (4, vN (t + 1)), (0, .ref (P 0)), (1, vN (r)), (2, vN (k)), (3, vN (w r))] (by decide) rfl dX4_countOf_35 (fun ls hl => ?_)
          refine k_goto (tgt := 15) hm dX4_countOf_38 (by decide) ?_
          exact ih_15  (t + 1) (i + 1) (by simp only [cnt]; rw [if_pos (by omega)]; omega) (by first | assumption | omega) _ _ _ (by omega) hw (lv_sub hl [2, 3, 4, 5, 1, 0] rfl)
  exact loop_15 (w r - 0 + 1) 0 0 rfl (by first | assumption | omega) _ _ _ (Nat.lt_succ_self _) hw (lv_sub hl [3, 4, 5, 2, 1, 0] rfl)
set_option maxHeartbeats 4000000 in
set_option maxRecDepth 100000 in
theorem c_yarnOf (l : Launch) (G : kG) (P : Nat → Nat) (gk : Nat → Nat) (gw : Nat → Nat) (gt : Nat → Nat) (gy : Nat → Nat) (R : Nat) (sp : Bool) (K : Nat → Nat → Nat) (w : Nat → Nat) (y : Nat → Nat) (r : Nat) (hok : POk gk gw gt gy R K w y) (hr : r < R) : kCR l yX4_yarnOf wsX4_yarnOf 2 43 G [.ref (P 0), vN (r)] (wPiece G P gk gw gt gy R sp) (fun vv => vv = some (vN (yrn y (K r) (w r)))) := by
  refine kCM.of (cc := cX4_yarnOf) (maxL := 5) (ret := (some .int)) (by decide) rfl (Nat.le_of_ble_eq_true rfl) ?_
  intro p e s m args below meth c A ls Qz hQ hin hm hw hl
  have hl : lv_has ls 5 [(0, .ref (P 0)), (1, vN (r))] := hl
  have i4 : ∀ w ∈ wsX40, w ∈ wsX4_yarnOf := by decide +kernel
  have hk := hok.2.1 r hr
  have hb := hok.1.2.1 r hr
  have hR := hok.1.1
  refine k_aload_n hm hl 0 rfl dX4_yarnOf_0 ?_
  refine k_get (T := TX4) hm hw 0 1 i4 rfl rfl (by decide) (by decide +kernel) rfl dX4_yarnOf_1 ?_
  refine k_iload_n hm hl 1 rfl dX4_yarnOf_4 ?_
  refine k_callVr (n := 1) (As := [vN (r)]) (rest := []) hm hw hl (c_Num_at l G (P 3) (P 4) 40 gw r (by first | assumption | omega)) gX4_yarnOf_X2_at rfl (by decide +kernel) ⟨by decide, by decide⟩ (ci := 2) rfl 3 rfl [3, 4] (by decide) rfl rfl rfl (by simp [Value.category]) ⟨by decide, by decide⟩ dX4_yarnOf_5 (fun v H locs hp hw => ?_)
  obtain rfl := hp
  refine W.eq (g2 := F0 m 8 ls [vN (gw r)]) rfl ?_
  refine k_rwV (y := vN (w r)) (by rw [hk.1]) ?_
  refine k_istore_n hm hl [(2, vN (w r)), (0, .ref (P 0)), (1, vN (r))] (by decide) rfl dX4_yarnOf_8 (fun ls hl => ?_)
  refine k_iconstN hm 0 dX4_yarnOf_9 ?_
  refine k_istore_n hm hl [(3, vN (0)), (2, vN (w r)), (0, .ref (P 0)), (1, vN (r))] (by decide) rfl dX4_yarnOf_10 (fun ls hl => ?_)
  refine k_iconstN hm 0 dX4_yarnOf_11 ?_
  refine k_istore hm hl [(4, vN (0)), (3, vN (0)), (2, vN (w r)), (0, .ref (P 0)), (1, vN (r))] (by decide) rfl dX4_yarnOf_12 (fun ls hl => ?_)
  have loop_14 : ∀ (fu : Nat) (t : Nat) (i : Nat) (ht : t = yrn y (K r) i) (hi : i ≤ w r) (H : Heap) (locs : List Loc) (ls : Array Slot), w r - i < fu → kW G A s (wPiece G P gk gw gt gy R sp) H locs → lv_has ls 5 [(0, .ref (P 0)), (1, vN (r)), (2, vN (w r)), (3, vN (t)), (4, vN (i))] → W p l e { frames := 2, cells := 0, slots := 0, locals := 43 } s m args below meth c H locs 0 0 Qz (F0 m 14 ls []) := by
    intro fu
    induction fu with
    | zero => intro t i ht hi H locs ls hfu; exact absurd hfu (Nat.not_lt_zero _)
    | succ fu ih_14 =>
      intro t i ht hi H locs ls hfu hw hl
      refine k_iload hm hl 4 rfl dX4_yarnOf_14 ?_
      refine k_iload_n hm hl 2 rfl dX4_yarnOf_16 ?_
      refine k_icmpge (tgt := 43) hm dX4_yarnOf_17 (by decide) (by omega) (fun c_2 => ?_) (fun c_2 => ?_)
      · refine k_iload_n hm hl 3 rfl dX4_yarnOf_43 ?_
        exact k_iret (post := _) hm hQ rfl rfl hw (⟨by rw [ht, show i = w r by omega], rfl⟩) (by omega) (by omega) dX4_yarnOf_44
      · have h2 := (hok.1.2.1 r (by omega)).2.2 i (by omega)
        refine k_iload_n hm hl 3 rfl dX4_yarnOf_20 ?_
        refine k_aload_n hm hl 0 rfl dX4_yarnOf_21 ?_
        refine k_get (T := TX4) hm hw 0 3 i4 rfl rfl (by decide) (by decide +kernel) rfl dX4_yarnOf_22 ?_
        refine k_aload_n hm hl 0 rfl dX4_yarnOf_25 ?_
        refine k_iload_n hm hl 1 rfl dX4_yarnOf_26 ?_
        refine k_iload hm hl 4 rfl dX4_yarnOf_27 ?_
        refine k_callVr (n := 2) (As := [vN (r), vN (i)]) (rest := [.ref (P 7), vN (t)]) hm hw hl (c_kindOf l G P gk gw gt gy R sp K w y r i (by first | assumption | omega) (by first | assumption | omega) (by first | assumption | omega)) gX4_yarnOf_X4_kindOf rfl (by decide +kernel) ⟨by decide, by decide⟩ (ci := 4) rfl 0 rfl [0, 1, 2, 3, 4, 5, 6, 7, 8] (by decide) rfl rfl rfl (by simp [Value.category]) ⟨by decide, by decide⟩ dX4_yarnOf_29 (fun v H locs hp hw => ?_)
        obtain rfl := hp
        refine W.eq (g2 := F0 m 32 ls [vN (K r i), .ref (P 7), vN (t)]) rfl ?_
        refine k_callVr (n := 1) (As := [vN (K r i)]) (rest := [vN (t)]) hm hw hl (c_Num_at l G (P 7) (P 8) 3 gy (K r i) (by first | assumption | omega)) gX4_yarnOf_X2_at rfl (by decide +kernel) ⟨by decide, by decide⟩ (ci := 2) rfl 7 rfl [7, 8] (by decide) rfl rfl rfl (by simp [Value.category]) ⟨by decide, by decide⟩ dX4_yarnOf_32 (fun v H locs hp hw => ?_)
        obtain rfl := hp
        refine W.eq (g2 := F0 m 35 ls [vN (gy (K r i)), vN (t)]) rfl ?_
        refine k_rwV (y := vN (y (K r i))) (by rw [hok.2.2 _ (by omega)]) ?_
        refine k_iaddN hm dX4_yarnOf_35 ?_
        refine k_istore_n hm hl [(3, vN (t + (y (K r i)))), (0, .ref (P 0)), (1, vN (r)), (2, vN (w r)), (4, vN (i))] (by decide) rfl dX4_yarnOf_36 (fun ls hl => ?_)
        refine k_iincN hm hl 4 1 rfl [(4, vN (i + 1)), (3, vN (t + (y (K r i)))), (0, .ref (P 0)), (1, vN (r)), (2, vN (w r))] (by decide) rfl dX4_yarnOf_37 (fun ls hl => ?_)
        refine k_goto (tgt := 14) hm dX4_yarnOf_40 (by decide) ?_
        exact ih_14  (t + (y (K r i))) (i + 1) (by simp only [yrn]; omega) (by first | assumption | omega) _ _ _ (by omega) hw (lv_sub hl [2, 3, 4, 1, 0] rfl)
  exact loop_14 (w r - 0 + 1) 0 0 rfl (by first | assumption | omega) _ _ _ (Nat.lt_succ_self _) hw (lv_sub hl [3, 4, 2, 1, 0] rfl)
set_option maxHeartbeats 4000000 in
set_option maxRecDepth 100000 in
theorem c_isMirrored (l : Launch) (G : kG) (P : Nat → Nat) (gk : Nat → Nat) (gw : Nat → Nat) (gt : Nat → Nat) (gy : Nat → Nat) (R : Nat) (sp : Bool) (K : Nat → Nat → Nat) (w : Nat → Nat) (y : Nat → Nat) (r : Nat) (hok : POk gk gw gt gy R K w y) (hr : r < R) : kCR l yX4_isMirrored wsX4_isMirrored 2 43 G [.ref (P 0), vN (r)] (wPiece G P gk gw gt gy R sp) (fun vv => ∃ (b : Bool), vv = some (vB (b)) ∧ (b = true ↔ isMi (K r) (w r))) := by
  refine kCM.of (cc := cX4_isMirrored) (maxL := 4) (ret := (some .boolean)) (by decide) rfl (Nat.le_of_ble_eq_true rfl) ?_
  intro p e s m args below meth c A ls Qz hQ hin hm hw hl
  have hl : lv_has ls 4 [(0, .ref (P 0)), (1, vN (r))] := hl
  have i4 : ∀ w ∈ wsX40, w ∈ wsX4_isMirrored := by decide +kernel
  have hk := hok.2.1 r hr
  have hb := hok.1.2.1 r hr
  have hR := hok.1.1
  refine k_aload_n hm hl 0 rfl dX4_isMirrored_0 ?_
  refine k_get (T := TX4) hm hw 0 1 i4 rfl rfl (by decide) (by decide +kernel) rfl dX4_isMirrored_1 ?_
  refine k_iload_n hm hl 1 rfl dX4_isMirrored_4 ?_
  refine k_callVr (n := 1) (As := [vN (r)]) (rest := []) hm hw hl (c_Num_at l G (P 3) (P 4) 40 gw r (by first | assumption | omega)) gX4_isMirrored_X2_at rfl (by decide +kernel) ⟨by decide, by decide⟩ (ci := 2) rfl 3 rfl [3, 4] (by decide) rfl rfl rfl (by simp [Value.category]) ⟨by decide, by decide⟩ dX4_isMirrored_5 (fun v H locs hp hw => ?_)
  obtain rfl := hp
  refine W.eq (g2 := F0 m 8 ls [vN (gw r)]) rfl ?_
  refine k_rwV (y := vN (w r)) (by rw [hk.1]) ?_
  refine k_istore_n hm hl [(2, vN (w r)), (0, .ref (P 0)), (1, vN (r))] (by decide) rfl dX4_isMirrored_8 (fun ls hl => ?_)
  refine k_iconstN hm 0 dX4_isMirrored_9 ?_
  refine k_istore_n hm hl [(3, vN (0)), (2, vN (w r)), (0, .ref (P 0)), (1, vN (r))] (by decide) rfl dX4_isMirrored_10 (fun ls hl => ?_)
  have loop_11 : ∀ (fu : Nat) (i : Nat) (hi : i ≤ w r / 2) (hm2 : ∀ j, j < i → K r j = K r (w r - 1 - j)) (H : Heap) (locs : List Loc) (ls : Array Slot), w r / 2 - i < fu → kW G A s (wPiece G P gk gw gt gy R sp) H locs → lv_has ls 4 [(0, .ref (P 0)), (1, vN (r)), (2, vN (w r)), (3, vN (i))] → W p l e { frames := 2, cells := 0, slots := 0, locals := 43 } s m args below meth c H locs 0 0 Qz (F0 m 11 ls []) := by
    intro fu
    induction fu with
    | zero => intro i hi hm2 H locs ls hfu; exact absurd hfu (Nat.not_lt_zero _)
    | succ fu ih_11 =>
      intro i hi hm2 H locs ls hfu hw hl
      refine k_iload_n hm hl 3 rfl dX4_isMirrored_11 ?_
      refine k_iload_n hm hl 2 rfl dX4_isMirrored_12 ?_
      refine k_iconstN hm 2 dX4_isMirrored_13 ?_
      refine k_idivN hm (by omega) dX4_isMirrored_14 ?_
      refine k_icmpge (tgt := 45) hm dX4_isMirrored_15 (by decide) (by omega) (fun c_2 => ?_) (fun c_2 => ?_)
      · refine k_iconstN hm 1 dX4_isMirrored_45 ?_
        exact k_iret (post := _) hm hQ rfl (kN_bool true) hw (⟨⟨true, rfl, ⟨fun _ => (by
                              intro j hj
                              rcases Nat.lt_or_ge j i with q | q
                              · exact hm2 j q
                              · rcases Nat.lt_or_ge (w r - 1 - j) i with q2 | q2
                                · have q3 := hm2 _ q2
                                  rw [q3, show w r - 1 - (w r - 1 - j) = j by omega]
                                · rw [show w r - 1 - j = j by omega]), fun _ => rfl⟩⟩, rfl⟩) (by omega) (by omega) dX4_isMirrored_46
      · have h2 := (hok.1.2.1 r (by omega)).2.2 i (by omega)
        have h3 := (hok.1.2.1 r (by omega)).2.2 (w r - 1 - i) (by omega)
        refine k_aload_n hm hl 0 rfl dX4_isMirrored_18 ?_
        refine k_iload_n hm hl 1 rfl dX4_isMirrored_19 ?_
        refine k_iload_n hm hl 3 rfl dX4_isMirrored_20 ?_
        refine k_callVr (n := 2) (As := [vN (r), vN (i)]) (rest := []) hm hw hl (c_kindOf l G P gk gw gt gy R sp K w y r i (by first | assumption | omega) (by first | assumption | omega) (by first | assumption | omega)) gX4_isMirrored_X4_kindOf rfl (by decide +kernel) ⟨by decide, by decide⟩ (ci := 4) rfl 0 rfl [0, 1, 2, 3, 4, 5, 6, 7, 8] (by decide) rfl rfl rfl (by simp [Value.category]) ⟨by decide, by decide⟩ dX4_isMirrored_21 (fun v H locs hp hw => ?_)
        obtain rfl := hp
        refine W.eq (g2 := F0 m 24 ls [vN (K r i)]) rfl ?_
        refine k_aload_n hm hl 0 rfl dX4_isMirrored_24 ?_
        refine k_iload_n hm hl 1 rfl dX4_isMirrored_25 ?_
        refine k_iload_n hm hl 2 rfl dX4_isMirrored_26 ?_
        refine k_iconstN hm 1 dX4_isMirrored_27 ?_
        refine k_isubN hm (by omega) dX4_isMirrored_28 ?_
        refine k_iload_n hm hl 3 rfl dX4_isMirrored_29 ?_
        refine k_isubN hm (by omega) dX4_isMirrored_30 ?_
        refine k_callVr (n := 2) (As := [vN (r), vN (((w r) - 1) - i)]) (rest := [vN (K r i)]) hm hw hl (c_kindOf l G P gk gw gt gy R sp K w y r (((w r) - 1) - i) (by first | assumption | omega) (by first | assumption | omega) (by first | assumption | omega)) gX4_isMirrored_X4_kindOf rfl (by decide +kernel) ⟨by decide, by decide⟩ (ci := 4) rfl 0 rfl [0, 1, 2, 3, 4, 5, 6, 7, 8] (by decide) rfl rfl rfl (by simp [Value.category]) ⟨by decide, by decide⟩ dX4_isMirrored_31 (fun v H locs hp hw => ?_)
        obtain rfl := hp
        refine W.eq (g2 := F0 m 34 ls [vN (K r (((w r) - 1) - i)), vN (K r i)]) rfl ?_
        refine k_icmpeq (tgt := 39) hm dX4_isMirrored_34 (by decide) (by omega) (fun c_5 => ?_) (fun c_5 => ?_)
        · refine k_iincN hm hl 3 1 rfl [(3, vN (i + 1)), (0, .ref (P 0)), (1, vN (r)), (2, vN (w r))] (by decide) rfl dX4_isMirrored_39 (fun ls hl => ?_)
          refine k_goto (tgt := 11) hm dX4_isMirrored_42 (by decide) ?_
          exact ih_11  (i + 1) (by first | assumption | omega) (by
                              intro j q
                              rcases Nat.lt_or_ge j i with q2 | q2
                              · exact hm2 j q2
                              · have q3 : j = i := by omega
                                subst q3
                                omega) _ _ _ (by omega) hw (lv_sub hl [1, 2, 3, 0] rfl)
        · refine k_iconstN hm 0 dX4_isMirrored_37 ?_
          exact k_iret (post := _) hm hQ rfl (kN_bool false) hw (⟨⟨false, rfl, ⟨fun q => absurd q (by decide), fun q => by have := q i (by omega); omega⟩⟩, rfl⟩) (by omega) (by omega) dX4_isMirrored_38
  exact loop_11 (w r / 2 - 0 + 1) 0 (by first | assumption | omega) (fun j q => absurd q (by omega)) _ _ _ (Nat.lt_succ_self _) hw (lv_sub hl [2, 3, 1, 0] rfl)
set_option maxHeartbeats 4000000 in
set_option maxRecDepth 100000 in
theorem c_widest (l : Launch) (G : kG) (P : Nat → Nat) (gk : Nat → Nat) (gw : Nat → Nat) (gt : Nat → Nat) (gy : Nat → Nat) (R : Nat) (sp : Bool) (K : Nat → Nat → Nat) (w : Nat → Nat) (y : Nat → Nat) (hok : POk gk gw gt gy R K w y) : kCR l yX4_widest wsX4_widest 1 21 G [.ref (P 0)] (wPiece G P gk gw gt gy R sp) (fun vv => ∃ (b : Nat), vv = some (vN (b)) ∧ (isWd (fun r => sumM (K r) (w r)) R b)) := by
  refine kCM.of (cc := cX4_widest) (maxL := 3) (ret := (some .int)) (by decide) rfl (Nat.le_of_ble_eq_true rfl) ?_
  intro p e s m args below meth c A ls Qz hQ hin hm hw hl
  have hl : lv_has ls 3 [(0, .ref (P 0))] := hl
  have i4 : ∀ w ∈ wsX40, w ∈ wsX4_widest := by decide +kernel
  have hR := hok.1.1
  refine k_iconstN hm 0 dX4_widest_0 ?_
  refine k_istore_n hm hl [(1, vN (0)), (0, .ref (P 0))] (by decide) rfl dX4_widest_1 (fun ls hl => ?_)
  refine k_iconstN hm 1 dX4_widest_2 ?_
  refine k_istore_n hm hl [(2, vN (1)), (1, vN (0)), (0, .ref (P 0))] (by decide) rfl dX4_widest_3 (fun ls hl => ?_)
  have loop_4 : ∀ (fu : Nat) (b : Nat) (i : Nat) (hi : 1 ≤ i ∧ i ≤ R) (hb : isWd (fun r => sumM (K r) (w r)) i b) (H : Heap) (locs : List Loc) (ls : Array Slot), R - i < fu → kW G A s (wPiece G P gk gw gt gy R sp) H locs → lv_has ls 3 [(0, .ref (P 0)), (1, vN (b)), (2, vN (i))] → W p l e { frames := 1, cells := 0, slots := 0, locals := 21 } s m args below meth c H locs 0 0 Qz (F0 m 4 ls []) := by
    intro fu
    induction fu with
    | zero => intro b i hi hb H locs ls hfu; exact absurd hfu (Nat.not_lt_zero _)
    | succ fu ih_4 =>
      intro b i hi hb H locs ls hfu hw hl
      refine k_iload_n hm hl 2 rfl dX4_widest_4 ?_
      refine k_aload_n hm hl 0 rfl dX4_widest_5 ?_
      refine k_get (T := TX4) hm hw 0 4 i4 rfl rfl (by decide) (by decide +kernel) rfl dX4_widest_6 ?_
      refine k_icmpge (tgt := 39) hm dX4_widest_9 (by decide) (by omega) (fun c_1 => ?_) (fun c_1 => ?_)
      · refine k_iload_n hm hl 1 rfl dX4_widest_39 ?_
        exact k_iret (post := _) hm hQ rfl rfl hw (⟨⟨b, rfl, by rw [show R = i by omega]; exact hb⟩, rfl⟩) (by omega) (by omega) dX4_widest_40
      · have ha := hok.2.1 i (by omega)
        have ha2 := hok.1.2.1 i (by omega)
        have hbb := hok.2.1 b (by have := hb.1; omega)
        have hb2 := hok.1.2.1 b (by have := hb.1; omega)
        have hb1 := hb.1
        refine k_aload_n hm hl 0 rfl dX4_widest_12 ?_
        refine k_get (T := TX4) hm hw 0 2 i4 rfl rfl (by decide) (by decide +kernel) rfl dX4_widest_13 ?_
        refine k_iload_n hm hl 2 rfl dX4_widest_16 ?_
        refine k_callVr (n := 1) (As := [vN (i)]) (rest := []) hm hw hl (c_Num_at l G (P 5) (P 6) 40 gt i (by first | assumption | omega)) gX4_widest_X2_at rfl (by decide +kernel) ⟨by decide, by decide⟩ (ci := 2) rfl 5 rfl [5, 6] (by decide) rfl rfl rfl (by simp [Value.category]) ⟨by decide, by decide⟩ dX4_widest_17 (fun v H locs hp hw => ?_)
        obtain rfl := hp
        refine W.eq (g2 := F0 m 20 ls [vN (gt i)]) rfl ?_
        refine k_rwV (y := vN (sumM (K i) (w i))) (by rw [ha.2.1]) ?_
        refine k_aload_n hm hl 0 rfl dX4_widest_20 ?_
        refine k_get (T := TX4) hm hw 0 2 i4 rfl rfl (by decide) (by decide +kernel) rfl dX4_widest_21 ?_
        refine k_iload_n hm hl 1 rfl dX4_widest_24 ?_
        refine k_callVr (n := 1) (As := [vN (b)]) (rest := [vN (sumM (K i) (w i))]) hm hw hl (c_Num_at l G (P 5) (P 6) 40 gt b (by first | assumption | omega)) gX4_widest_X2_at rfl (by decide +kernel) ⟨by decide, by decide⟩ (ci := 2) rfl 5 rfl [5, 6] (by decide) rfl rfl rfl (by simp [Value.category]) ⟨by decide, by decide⟩ dX4_widest_25 (fun v H locs hp hw => ?_)
        obtain rfl := hp
        refine W.eq (g2 := F0 m 28 ls [vN (gt b), vN (sumM (K i) (w i))]) rfl ?_
        refine k_rwV (y := vN (sumM (K b) (w b))) (by rw [hbb.2.1]) ?_
        refine k_icmple (tgt := 33) hm dX4_widest_28 (by decide) (by omega) (fun c_4 => ?_) (fun c_4 => ?_)
        · refine k_iincN hm hl 2 1 rfl [(2, vN (i + 1)), (0, .ref (P 0)), (1, vN (b))] (by decide) rfl dX4_widest_33 (fun ls hl => ?_)
          refine k_goto (tgt := 4) hm dX4_widest_36 (by decide) ?_
          exact ih_4  b (i + 1) (by first | assumption | omega) (by
                              refine ⟨by omega, fun r q => ?_, fun r q => ?_⟩
                              · rcases Nat.lt_or_ge r i with q2 | q2
                                · have q3 := hb.2.1 r q2
                                  dsimp only at q3 ⊢
                                  omega
                                · rw [show r = i by omega]
                                  dsimp only
                                  omega
                              · have q3 := hb.2.2 r q
                                exact q3) _ _ _ (by omega) hw (lv_sub hl [1, 2, 0] rfl)
        · refine k_iload_n hm hl 2 rfl dX4_widest_31 ?_
          refine k_istore_n hm hl [(1, vN (i)), (0, .ref (P 0)), (2, vN (i))] (by decide) rfl dX4_widest_32 (fun ls hl => ?_)
          refine k_iincN hm hl 2 1 rfl [(2, vN (i + 1)), (1, vN (i)), (0, .ref (P 0))] (by decide) rfl dX4_widest_33 (fun ls hl => ?_)
          refine k_goto (tgt := 4) hm dX4_widest_36 (by decide) ?_
          exact ih_4  i (i + 1) (by first | assumption | omega) (by
                              refine ⟨by omega, fun r q => ?_, fun r q => ?_⟩
                              · rcases Nat.lt_or_ge r i with q2 | q2
                                · have q3 := hb.2.1 r q2
                                  dsimp only at q3 ⊢
                                  omega
                                · rw [show r = i by omega]
                                  exact Nat.le_refl _
                              · have q3 := hb.2.1 r (by omega)
                                dsimp only at q3 ⊢
                                omega) _ _ _ (by omega) hw (lv_sub hl [2, 1, 0] rfl)
  exact loop_4 (R - 1 + 1) 0 1 (by first | assumption | omega) (by
                              refine ⟨by omega, fun r q => ?_, fun r q => absurd q (by omega)⟩
                              have q0 : r = 0 := by omega
                              subst q0
                              exact Nat.le_refl _) _ _ _ (Nat.lt_succ_self _) hw (lv_sub hl [2, 1, 0] rfl)
set_option maxHeartbeats 4000000 in
set_option maxRecDepth 100000 in
theorem c_openRound (l : Launch) (G : kG) (P : Nat → Nat) (gk : Nat → Nat) (gw : Nat → Nat) (gt : Nat → Nat) (gy : Nat → Nat) (R : Nat) (sp : Bool) (hR : R < 40) : kCM l yX4_openRound wsX4_openRound 1 22 0 0 G [.ref (P 0)] (wPiece G P gk gw gt gy R sp) (fun vv uu => vv = none ∧ uu = wPiece G P gk (nU gw R 0) (nU gt R 0) gy R sp) := by
  refine kCM.of (cc := cX4_openRound) (maxL := 1) (ret := none) (by decide) rfl (Nat.le_of_ble_eq_true rfl) ?_
  intro p e s m args below meth c A ls Qz hQ hin hm hw hl
  have hl : lv_has ls 1 [(0, .ref (P 0))] := hl
  have i4 : ∀ w ∈ wsX40, w ∈ wsX4_openRound := by decide +kernel
  refine k_aload_n hm hl 0 rfl dX4_openRound_0 ?_
  refine k_get (T := TX4) hm hw 0 1 i4 rfl rfl (by decide) (by decide +kernel) rfl dX4_openRound_1 ?_
  refine k_aload_n hm hl 0 rfl dX4_openRound_4 ?_
  refine k_get (T := TX4) hm hw 0 4 i4 rfl rfl (by decide) (by decide +kernel) rfl dX4_openRound_5 ?_
  refine k_iconstN hm 0 dX4_openRound_8 ?_
  refine k_callV (n := 2) (As := [vN (R), vN (0)]) (rest := []) (wr := [(P 0, .inr (4, [.ref (P 1), .ref (P 3), .ref (P 5), .ref (P 7), vN (R), vB (sp)])), (P 1, .inr (2, [.ref (P 2)])), (P 2, .inl (G.2 0, 4800, .inl (nF gk))), (P 5, .inr (2, [.ref (P 6)])), (P 6, .inl (G.2 0, 40, .inl (nF gt))), (P 7, .inr (2, [.ref (P 8)])), (P 8, .inl (G.2 0, 3, .inl (nF gy)))]) hm hw hl (c_Num_put l G (P 3) (P 4) 40 gw R 0 (by first | assumption | omega)) gX4_openRound_X2_put rfl (by decide +kernel) ⟨by decide, by decide⟩ (ci := 2) rfl 3 rfl [3, 4] [0, 1, 2, 5, 6, 7, 8] (by decide) rfl rfl (by decide) (by decide) rfl rfl (by simp [Value.category]) ⟨by decide, by decide⟩ dX4_openRound_9 (fun v w1 H locs hp hw => ?_)
  obtain ⟨rfl, rfl⟩ := hp
  have hw := hw.sub (ws' := wPiece G P gk (nU gw R 0) gt gy R sp) [0, 1, 2, 7, 8, 3, 4, 5, 6] (by decide) rfl
  refine W.eq (g2 := F0 m 12 ls []) rfl ?_
  refine k_aload_n hm hl 0 rfl dX4_openRound_12 ?_
  refine k_get (T := TX4) hm hw 0 2 i4 rfl rfl (by decide) (by decide +kernel) rfl dX4_openRound_13 ?_
  refine k_aload_n hm hl 0 rfl dX4_openRound_16 ?_
  refine k_get (T := TX4) hm hw 0 4 i4 rfl rfl (by decide) (by decide +kernel) rfl dX4_openRound_17 ?_
  refine k_iconstN hm 0 dX4_openRound_20 ?_
  refine k_callV (n := 2) (As := [vN (R), vN (0)]) (rest := []) (wr := [(P 0, .inr (4, [.ref (P 1), .ref (P 3), .ref (P 5), .ref (P 7), vN (R), vB (sp)])), (P 1, .inr (2, [.ref (P 2)])), (P 2, .inl (G.2 0, 4800, .inl (nF gk))), (P 3, .inr (2, [.ref (P 4)])), (P 4, .inl (G.2 0, 40, .inl (nF (nU gw R 0)))), (P 7, .inr (2, [.ref (P 8)])), (P 8, .inl (G.2 0, 3, .inl (nF gy)))]) hm hw hl (c_Num_put l G (P 5) (P 6) 40 gt R 0 (by first | assumption | omega)) gX4_openRound_X2_put rfl (by decide +kernel) ⟨by decide, by decide⟩ (ci := 2) rfl 5 rfl [5, 6] [0, 1, 2, 3, 4, 7, 8] (by decide) rfl rfl (by decide) (by decide) rfl rfl (by simp [Value.category]) ⟨by decide, by decide⟩ dX4_openRound_21 (fun v w1 H locs hp hw => ?_)
  obtain ⟨rfl, rfl⟩ := hp
  have hw := hw.sub (ws' := wPiece G P gk (nU gw R 0) (nU gt R 0) gy R sp) [0, 1, 2, 3, 4, 7, 8, 5, 6] (by decide) rfl
  refine W.eq (g2 := F0 m 24 ls []) rfl ?_
  exact k_vret hm hQ rfl hw (⟨rfl, rfl⟩) (by omega) (by omega) dX4_openRound_24
set_option maxHeartbeats 4000000 in
set_option maxRecDepth 100000 in
theorem c_addWork (l : Launch) (G : kG) (P : Nat → Nat) (gk : Nat → Nat) (gw : Nat → Nat) (gt : Nat → Nat) (gy : Nat → Nat) (R : Nat) (sp : Bool) (k : Nat) (hR : R < 40) (hm1 : gw R < 120) (hk : k < 3) : kCM l yX4_addWork wsX4_addWork 1 22 0 0 G [.ref (P 0), vN (k)] (wPiece G P gk gw gt gy R sp) (fun vv uu => vv = none ∧ uu = wPiece G P (nU gk (R * 120 + gw R) k) (nU gw R (gw R + 1)) (nU gt R (gt R + mdB k)) gy R sp) := by
  refine kCM.of (cc := cX4_addWork) (maxL := 3) (ret := none) (by decide) rfl (Nat.le_of_ble_eq_true rfl) ?_
  intro p e s m args below meth c A ls Qz hQ hin hm hw hl
  have hl : lv_has ls 3 [(0, .ref (P 0)), (1, vN (k))] := hl
  have i4 : ∀ w ∈ wsX40, w ∈ wsX4_addWork := by decide +kernel
  refine k_aload_n hm hl 0 rfl dX4_addWork_0 ?_
  refine k_get (T := TX4) hm hw 0 1 i4 rfl rfl (by decide) (by decide +kernel) rfl dX4_addWork_1 ?_
  refine k_aload_n hm hl 0 rfl dX4_addWork_4 ?_
  refine k_get (T := TX4) hm hw 0 4 i4 rfl rfl (by decide) (by decide +kernel) rfl dX4_addWork_5 ?_
  refine k_callVr (n := 1) (As := [vN (R)]) (rest := []) hm hw hl (c_Num_at l G (P 3) (P 4) 40 gw R (by first | assumption | omega)) gX4_addWork_X2_at rfl (by decide +kernel) ⟨by decide, by decide⟩ (ci := 2) rfl 3 rfl [3, 4] (by decide) rfl rfl rfl (by simp [Value.category]) ⟨by decide, by decide⟩ dX4_addWork_8 (fun v H locs hp hw => ?_)
  obtain rfl := hp
  refine W.eq (g2 := F0 m 11 ls [vN (gw R)]) rfl ?_
  refine k_istore_n hm hl [(2, vN (gw R)), (0, .ref (P 0)), (1, vN (k))] (by decide) rfl dX4_addWork_11 (fun ls hl => ?_)
  refine k_iload_n hm hl 0 rfl dX4_addWork_12 ?_
  refine k_bipushN hm 120 dX4_addWork_13 rfl ?_
  refine k_icmpge (tgt := 76) hm dX4_addWork_15 (by decide) (by omega) (fun c_2 => absurd c_2 (by omega)) (fun c_2 => ?_)
  refine k_aload_n hm hl 1 rfl dX4_addWork_18 ?_
  refine k_get (T := TX4) hm hw 0 0 i4 rfl rfl (by decide) (by decide +kernel) rfl dX4_addWork_19 ?_
  refine k_aload_n hm hl 1 rfl dX4_addWork_22 ?_
  refine k_get (T := TX4) hm hw 0 4 i4 rfl rfl (by decide) (by decide +kernel) rfl dX4_addWork_23 ?_
  refine k_bipushN hm 120 dX4_addWork_26 rfl ?_
  refine k_imulN hm dX4_addWork_28 ?_
  refine k_iload_n hm hl 0 rfl dX4_addWork_29 ?_
  refine k_iaddN hm dX4_addWork_30 ?_
  refine k_iload_n hm hl 2 rfl dX4_addWork_31 ?_
  refine k_callV (n := 2) (As := [vN ((R * 120) + (gw R)), vN (k)]) (rest := []) (wr := [(P 0, .inr (4, [.ref (P 1), .ref (P 3), .ref (P 5), .ref (P 7), vN (R), vB (sp)])), (P 3, .inr (2, [.ref (P 4)])), (P 4, .inl (G.2 0, 40, .inl (nF gw))), (P 5, .inr (2, [.ref (P 6)])), (P 6, .inl (G.2 0, 40, .inl (nF gt))), (P 7, .inr (2, [.ref (P 8)])), (P 8, .inl (G.2 0, 3, .inl (nF gy)))]) hm hw hl (c_Num_put l G (P 1) (P 2) 4800 gk ((R * 120) + (gw R)) k (by first | assumption | omega)) gX4_addWork_X2_put rfl (by decide +kernel) ⟨by decide, by decide⟩ (ci := 2) rfl 1 rfl [1, 2] [0, 3, 4, 5, 6, 7, 8] (by decide) rfl rfl (by decide) (by decide) rfl rfl (by simp [Value.category]) ⟨by decide, by decide⟩ dX4_addWork_32 (fun v w1 H locs hp hw => ?_)
  obtain ⟨rfl, rfl⟩ := hp
  have hw := hw.sub (ws' := wPiece G P (nU gk ((R * 120) + (gw R)) k) gw gt gy R sp) [0, 7, 8, 1, 2, 3, 4, 5, 6] (by decide) rfl
  refine W.eq (g2 := F0 m 35 ls []) rfl ?_
  refine k_aload_n hm hl 1 rfl dX4_addWork_35 ?_
  refine k_get (T := TX4) hm hw 0 1 i4 rfl rfl (by decide) (by decide +kernel) rfl dX4_addWork_36 ?_
  refine k_aload_n hm hl 1 rfl dX4_addWork_39 ?_
  refine k_get (T := TX4) hm hw 0 4 i4 rfl rfl (by decide) (by decide +kernel) rfl dX4_addWork_40 ?_
  refine k_iload_n hm hl 0 rfl dX4_addWork_43 ?_
  refine k_iconstN hm 1 dX4_addWork_44 ?_
  refine k_iaddN hm dX4_addWork_45 ?_
  refine k_callV (n := 2) (As := [vN (R), vN ((gw R) + 1)]) (rest := []) (wr := [(P 0, .inr (4, [.ref (P 1), .ref (P 3), .ref (P 5), .ref (P 7), vN (R), vB (sp)])), (P 1, .inr (2, [.ref (P 2)])), (P 2, .inl (G.2 0, 4800, .inl (nF (nU gk ((R * 120) + (gw R)) k)))), (P 5, .inr (2, [.ref (P 6)])), (P 6, .inl (G.2 0, 40, .inl (nF gt))), (P 7, .inr (2, [.ref (P 8)])), (P 8, .inl (G.2 0, 3, .inl (nF gy)))]) hm hw hl (c_Num_put l G (P 3) (P 4) 40 gw R ((gw R) + 1) (by first | assumption | omega)) gX4_addWork_X2_put rfl (by decide +kernel) ⟨by decide, by decide⟩ (ci := 2) rfl 3 rfl [3, 4] [0, 1, 2, 5, 6, 7, 8] (by decide) rfl rfl (by decide) (by decide) rfl rfl (by simp [Value.category]) ⟨by decide, by decide⟩ dX4_addWork_46 (fun v w1 H locs hp hw => ?_)
  obtain ⟨rfl, rfl⟩ := hp
  have hw := hw.sub (ws' := wPiece G P (nU gk ((R * 120) + (gw R)) k) (nU gw R ((gw R) + 1)) gt gy R sp) [0, 1, 2, 7, 8, 3, 4, 5, 6] (by decide) rfl
  refine W.eq (g2 := F0 m 49 ls []) rfl ?_
  refine k_aload_n hm hl 1 rfl dX4_addWork_49 ?_
  refine k_get (T := TX4) hm hw 0 2 i4 rfl rfl (by decide) (by decide +kernel) rfl dX4_addWork_50 ?_
  refine k_aload_n hm hl 1 rfl dX4_addWork_53 ?_
  refine k_get (T := TX4) hm hw 0 4 i4 rfl rfl (by decide) (by decide +kernel) rfl dX4_addWork_54 ?_
  refine k_aload_n hm hl 1 rfl dX4_addWork_57 ?_
  refine k_get (T := TX4) hm hw 0 2 i4 rfl rfl (by decide) (by decide +kernel) rfl dX4_addWork_58 ?_
  refine k_aload_n hm hl 1 rfl dX4_addWork_61 ?_
  refine k_get (T := TX4) hm hw 0 4 i4 rfl rfl (by decide) (by decide +kernel) rfl dX4_addWork_62 ?_
  refine k_callVr (n := 1) (As := [vN (R)]) (rest := [vN (R), .ref (P 5)]) hm hw hl (c_Num_at l G (P 5) (P 6) 40 gt R (by first | assumption | omega)) gX4_addWork_X2_at rfl (by decide +kernel) ⟨by decide, by decide⟩ (ci := 2) rfl 5 rfl [5, 6] (by decide) rfl rfl rfl (by simp [Value.category]) ⟨by decide, by decide⟩ dX4_addWork_65 (fun v H locs hp hw => ?_)
  obtain rfl := hp
  refine W.eq (g2 := F0 m 68 ls [vN (gt R), vN (R), .ref (P 5)]) rfl ?_
  refine k_iload_n hm hl 2 rfl dX4_addWork_68 ?_
  refine k_callSNr (n := 1) (As := [vN (k)]) (rest := [vN (gt R), vN (R), .ref (P 5)]) hm hw hl (c_madeBy l G k (by first | assumption | omega)) gX4_addWork_X6_madeBy_n58 (by decide +kernel) (by decide +kernel) 5 rfl rfl (by decide +kernel) ⟨by decide, by decide⟩ [] (by decide) rfl rfl rfl (by simp [Value.category]) ⟨by decide, by decide⟩ dX4_addWork_69 (fun v H locs hp hw => ?_)
  obtain rfl := hp
  refine W.eq (g2 := F0 m 72 ls [vN (mdB k), vN (gt R), vN (R), .ref (P 5)]) rfl ?_
  refine k_iaddN hm dX4_addWork_72 ?_
  refine k_callV (n := 2) (As := [vN (R), vN ((gt R) + (mdB k))]) (rest := []) (wr := [(P 0, .inr (4, [.ref (P 1), .ref (P 3), .ref (P 5), .ref (P 7), vN (R), vB (sp)])), (P 1, .inr (2, [.ref (P 2)])), (P 2, .inl (G.2 0, 4800, .inl (nF (nU gk ((R * 120) + (gw R)) k)))), (P 3, .inr (2, [.ref (P 4)])), (P 4, .inl (G.2 0, 40, .inl (nF (nU gw R ((gw R) + 1))))), (P 7, .inr (2, [.ref (P 8)])), (P 8, .inl (G.2 0, 3, .inl (nF gy)))]) hm hw hl (c_Num_put l G (P 5) (P 6) 40 gt R ((gt R) + (mdB k)) (by first | assumption | omega)) gX4_addWork_X2_put rfl (by decide +kernel) ⟨by decide, by decide⟩ (ci := 2) rfl 5 rfl [5, 6] [0, 1, 2, 3, 4, 7, 8] (by decide) rfl rfl (by decide) (by decide) rfl rfl (by simp [Value.category]) ⟨by decide, by decide⟩ dX4_addWork_73 (fun v w1 H locs hp hw => ?_)
  obtain ⟨rfl, rfl⟩ := hp
  have hw := hw.sub (ws' := wPiece G P (nU gk ((R * 120) + (gw R)) k) (nU gw R ((gw R) + 1)) (nU gt R ((gt R) + (mdB k))) gy R sp) [0, 1, 2, 3, 4, 7, 8, 5, 6] (by decide) rfl
  refine W.eq (g2 := F0 m 76 ls []) rfl ?_
  exact k_vret hm hQ rfl hw (⟨rfl, rfl⟩) (by omega) (by omega) dX4_addWork_76
set_option maxHeartbeats 4000000 in
set_option maxRecDepth 100000 in
theorem c_closeRound (l : Launch) (G : kG) (P : Nat → Nat) (gk : Nat → Nat) (gw : Nat → Nat) (gt : Nat → Nat) (gy : Nat → Nat) (R : Nat) (sp : Bool)  : kCM l yX4_closeRound wsX4_closeRound 0 0 0 0 G [.ref (P 0)] (wPiece G P gk gw gt gy R sp) (fun vv uu => vv = none ∧ uu = wPiece G P gk gw gt gy (R + 1) sp) := by
  refine kCM.of (cc := cX4_closeRound) (maxL := 1) (ret := none) (by decide) rfl (Nat.le_of_ble_eq_true rfl) ?_
  intro p e s m args below meth c A ls Qz hQ hin hm hw hl
  have hl : lv_has ls 1 [(0, .ref (P 0))] := hl
  have i4 : ∀ w ∈ wsX40, w ∈ wsX4_closeRound := by decide +kernel
  refine k_aload_n hm hl 0 rfl dX4_closeRound_0 ?_
  refine k_dup hm dX4_closeRound_1 rfl ?_
  refine k_get (T := TX4) hm hw 0 4 i4 rfl rfl (by decide) (by decide +kernel) rfl dX4_closeRound_2 ?_
  refine k_iconstN hm 1 dX4_closeRound_5 ?_
  refine k_iaddN hm dX4_closeRound_6 ?_
  refine k_put (T := TX4) hm hw 0 4 (wPiece G P gk gw gt gy (R + 1) sp) i4 tyX4 tyX4_ok nmX4 rfl rfl (by decide) (by decide +kernel) rfl (tyX4_ok 4 (by decide)) rfl rfl (Nat.le_of_ble_eq_true rfl) rfl dX4_closeRound_7 (fun H locs hw => ?_)
  exact k_vret hm hQ rfl hw (⟨rfl, rfl⟩) (by omega) (by omega) dX4_closeRound_10
theorem sumM_0 {k : Nat → Nat} : ∀ {n : Nat}, (∀ i, i < n → k i = 0) → sumM k n = n
  | 0, _ => rfl
  | n + 1, h => by simp only [sumM]; rw [sumM_0 (fun i hi => h i (Nat.lt_succ_of_lt hi)), h n (Nat.lt_succ_self n)]; rfl
theorem POk_ring {gk gw gt gy y : Nat → Nat} {n : Nat} (hn : 3 ≤ n ∧ n ≤ 12) (hy : ∀ k, k < 3 → gy k = y k ∧ 1 ≤ y k ∧ y k ≤ 60) (h1 : gw 0 = n) (h2 : gt 0 = n) (h3 : ∀ j, j < n → gk j = 0) : POk gk gw gt gy 1 (fun _ _ => 0) (fun _ => n) y := by
  have e : sumM (fun _ => 0) n = n := sumM_0 (fun _ _ => rfl)
  refine ⟨⟨⟨by omega, by omega⟩, fun r hr => ⟨by dsimp only; omega, by dsimp only; omega, fun i hi => Nat.zero_le _⟩, fun r hr => absurd hr (by omega), fun k hk => (hy k hk).2, by dsimp only; omega, fun _ _ => rfl⟩, fun r hr => ?_, fun k hk => (hy k hk).1⟩
  have q : r = 0 := by omega
  subst q
  exact ⟨h1, by rw [e]; exact h2, fun i hi => by rw [Nat.zero_mul, Nat.zero_add]; exact h3 i hi⟩
set_option maxHeartbeats 4000000 in
set_option maxRecDepth 100000 in
theorem c_startRing (l : Launch) (G : kG) (P : Nat → Nat) (gk : Nat → Nat) (gw : Nat → Nat) (gt : Nat → Nat) (gy : Nat → Nat) (R : Nat) (sp : Bool) (n : Nat) (y : Nat → Nat) (hn : 3 ≤ n ∧ n ≤ 12) (hy : ∀ k, k < 3 → gy k = y k ∧ 1 ≤ y k ∧ y k ≤ 60) : kCM l yX4_startRing wsX4_startRing 2 44 0 0 G [.ref (P 0), vN (n)] (wPiece G P gk gw gt gy R sp) (fun vv uu => ∃ (gk2 : Nat → Nat), ∃ (gw2 : Nat → Nat), ∃ (gt2 : Nat → Nat), vv = none ∧ uu = wPiece G P gk2 gw2 gt2 gy 1 sp ∧ (POk gk2 gw2 gt2 gy 1 (fun _ _ => 0) (fun _ => n) y)) := by
  refine kCM.of (cc := cX4_startRing) (maxL := 3) (ret := none) (by decide) rfl (Nat.le_of_ble_eq_true rfl) ?_
  intro p e s m args below meth c A ls Qz hQ hin hm hw hl
  have hl : lv_has ls 3 [(0, .ref (P 0)), (1, vN (n))] := hl
  have i4 : ∀ w ∈ wsX40, w ∈ wsX4_startRing := by decide +kernel
  refine k_aload_n hm hl 0 rfl dX4_startRing_0 ?_
  refine k_iconstN hm 0 dX4_startRing_1 ?_
  refine k_put (T := TX4) hm hw 0 4 (wPiece G P gk gw gt gy 0 sp) i4 tyX4 tyX4_ok nmX4 rfl rfl (by decide) (by decide +kernel) rfl (tyX4_ok 4 (by decide)) rfl rfl (Nat.le_of_ble_eq_true rfl) rfl dX4_startRing_2 (fun H locs hw => ?_)
  refine k_aload_n hm hl 0 rfl dX4_startRing_5 ?_
  refine k_callV (n := 0) (As := []) (rest := []) (wr := []) hm hw hl (c_openRound l G P gk gw gt gy 0 sp (by first | assumption | omega)) gX4_startRing_X4_openRound rfl (by decide +kernel) ⟨by decide, by decide⟩ (ci := 4) rfl 0 rfl [0, 1, 2, 3, 4, 5, 6, 7, 8] [] (by decide) rfl rfl (by decide) (by decide) rfl rfl (by simp [Value.category]) ⟨by decide, by decide⟩ dX4_startRing_6 (fun v w1 H locs hp hw => ?_)
  obtain ⟨rfl, rfl⟩ := hp
  have hw := hw.sub (ws' := wPiece G P gk (nU gw 0 0) (nU gt 0 0) gy 0 sp) [0, 1, 2, 3, 4, 5, 6, 7, 8] (by decide) rfl
  refine W.eq (g2 := F0 m 9 ls []) rfl ?_
  refine k_iconstN hm 0 dX4_startRing_9 ?_
  refine k_istore_n hm hl [(2, vN (0)), (0, .ref (P 0)), (1, vN (n))] (by decide) rfl dX4_startRing_10 (fun ls hl => ?_)
  have loop_11 : ∀ (fu : Nat) (i : Nat) (gk1 : Nat → Nat) (gw1 : Nat → Nat) (gt1 : Nat → Nat) (hi : i ≤ n) (h1 : gw1 0 = i) (h2 : gt1 0 = i) (h3 : ∀ j, j < i → gk1 j = 0) (H : Heap) (locs : List Loc) (ls : Array Slot), n - i < fu → kW G A s (wPiece G P gk1 gw1 gt1 gy 0 sp) H locs → lv_has ls 3 [(0, .ref (P 0)), (1, vN (n)), (2, vN (i))] → W p l e { frames := 2, cells := 0, slots := 0, locals := 44 } s m args below meth c H locs 0 0 Qz (F0 m 11 ls []) := by
    intro fu
    induction fu with
    | zero => intro i gk1 gw1 gt1 hi h1 h2 h3 H locs ls hfu; exact absurd hfu (Nat.not_lt_zero _)
    | succ fu ih_11 =>
      intro i gk1 gw1 gt1 hi h1 h2 h3 H locs ls hfu hw hl
      refine k_iload_n hm hl 2 rfl dX4_startRing_11 ?_
      refine k_iload_n hm hl 1 rfl dX4_startRing_12 ?_
      refine k_icmpge (tgt := 27) hm dX4_startRing_13 (by decide) (by omega) (fun c_2 => ?_) (fun c_2 => ?_)
      · refine k_aload_n hm hl 0 rfl dX4_startRing_27 ?_
        refine k_callV (n := 0) (As := []) (rest := []) (wr := []) hm hw hl (c_closeRound l G P gk1 gw1 gt1 gy 0 sp) gX4_startRing_X4_closeRound rfl (by decide +kernel) ⟨by decide, by decide⟩ (ci := 4) rfl 0 rfl [0, 1, 2, 3, 4, 5, 6, 7, 8] [] (by decide) rfl rfl (by decide) (by decide) rfl rfl (by simp [Value.category]) ⟨by decide, by decide⟩ dX4_startRing_28 (fun v w1 H locs hp hw => ?_)
        obtain ⟨rfl, rfl⟩ := hp
        have hw := hw.sub (ws' := wPiece G P gk1 gw1 gt1 gy (0 + 1) sp) [0, 1, 2, 3, 4, 5, 6, 7, 8] (by decide) rfl
        refine W.eq (g2 := F0 m 31 ls []) rfl ?_
        exact k_vret hm hQ rfl hw (⟨gk1, gw1, gt1, rfl, rfl, POk_ring hn hy (by omega) (by omega) (fun j q => h3 j (by omega))⟩) (by omega) (by omega) dX4_startRing_31
      · refine k_aload_n hm hl 0 rfl dX4_startRing_16 ?_
        refine k_iconstN hm 0 dX4_startRing_17 ?_
        refine k_callV (n := 1) (As := [vN (0)]) (rest := []) (wr := []) hm hw hl (c_addWork l G P gk1 gw1 gt1 gy 0 sp 0 (by first | assumption | omega) (by first | assumption | omega) (by first | assumption | omega)) gX4_startRing_X4_addWork rfl (by decide +kernel) ⟨by decide, by decide⟩ (ci := 4) rfl 0 rfl [0, 1, 2, 3, 4, 5, 6, 7, 8] [] (by decide) rfl rfl (by decide) (by decide) rfl rfl (by simp [Value.category]) ⟨by decide, by decide⟩ dX4_startRing_18 (fun v w1 H locs hp hw => ?_)
        obtain ⟨rfl, rfl⟩ := hp
        have hw := hw.sub (ws' := wPiece G P (nU gk1 (0 * 120 + gw1 0) 0) (nU gw1 0 (gw1 0 + 1)) (nU gt1 0 (gt1 0 + mdB 0)) gy 0 sp) [0, 1, 2, 3, 4, 5, 6, 7, 8] (by decide) rfl
        refine W.eq (g2 := F0 m 21 ls []) rfl ?_
        refine k_iincN hm hl 2 1 rfl [(2, vN (i + 1)), (0, .ref (P 0)), (1, vN (n))] (by decide) rfl dX4_startRing_21 (fun ls hl => ?_)
        refine k_goto (tgt := 11) hm dX4_startRing_24 (by decide) ?_
        exact ih_11  (i + 1) (nU gk1 (0 * 120 + gw1 0) 0) (nU gw1 0 (gw1 0 + 1)) (nU gt1 0 (gt1 0 + mdB 0)) (by first | assumption | omega) (by rw [nU_s, h1]) (by rw [nU_s, h2]; rfl) (by
                              intro j q
                              by_cases q2 : j = 0 * 120 + gw1 0
                              · rw [q2, nU_s]
                              · rw [nU_n q2]
                                exact h3 j (by omega)) _ _ _ (by omega) hw (lv_sub hl [1, 2, 0] rfl)
  exact loop_11 (n - 0 + 1) 0 gk (nU gw 0 0) (nU gt 0 0) (by first | assumption | omega) nU_s nU_s (fun j q => absurd q (by omega)) _ _ _ (Nat.lt_succ_self _) hw (lv_sub hl [1, 2, 0] rfl)
