set_option maxHeartbeats 4000000 in
set_option maxRecDepth 100000 in
theorem c_m_isRound (l : Launch) (G : kG) (D : Nat → Nat) (sa : Nat → Int64) (pa : Nat → Int64) (pn : Nat) (tx : Nat → Nat) (tn : Nat) (rf : Nat) (ro : Nat → Nat) (wk : Nat) (mb : Nat → Nat) (so : Nat) (kd : Nat → Nat) (nu : Nat → Nat) (it : Nat) (ti : Nat) (rd : Nat) (ad : Nat → Int64) (R : Nat) (sp : Bool) (K : Nat → Nat → Nat) (w : Nat → Nat) (y : Nat → Nat) (z : Int) (hmo : MOk sa R sp K w y) (hzz : -2147483648 ≤ z ∧ z < 2147483648) : kCR l yX7_isRound wsX7_isRound 1 20 G [.ref (D 0), vZ (z)] (wMod G D sa pa pn tx tn rf ro wk mb so kd nu it ti rd ad) (fun vv => vv = some (vB (decide (0 ≤ z ∧ z < (R : Int))))) := by
  refine kCM.of (cc := cX7_isRound) (maxL := 2) (ret := (some .boolean)) (by decide) rfl (Nat.le_of_ble_eq_true rfl) ?_
  intro p e s m args below meth c A ls Qz hQ hin hm hw hl
  have hl : lv_has ls 2 [(0, .ref (D 0)), (1, vZ (z))] := hl
  have hR := hmo.1.1
  refine k_iload_n hm hl 1 rfl dX7_isRound_0 ?_
  refine k_iflt (tgt := 16) hm dX7_isRound_1 (by decide) (by omega) (fun c_1 => ?_) (fun c_1 => ?_)
  · refine k_iconstN hm 0 dX7_isRound_16 ?_
    exact k_iret (post := _) hm hQ rfl (kN_bool false) hw (⟨(congrArg (fun b => some (vB b)) (decide_eq_false (by omega))).symm, rfl⟩) (by omega) (by omega) dX7_isRound_17
  · refine k_iload_n hm hl 1 rfl dX7_isRound_4 ?_
    refine k_aload_n hm hl 0 rfl dX7_isRound_5 ?_
    refine k_callVr (n := 0) (As := []) (rest := [vZ (z)]) hm hw hl (c_m_rounds l G D sa pa pn tx tn rf ro wk mb so kd nu it ti rd ad R sp K w y (by first | assumption | omega)) gX7_isRound_X7_rounds rfl (by decide +kernel) ⟨by decide, by decide⟩ (ci := 7) rfl 0 rfl [0, 1, 2, 3, 4, 5, 6, 7, 8] (by decide) rfl rfl rfl (by simp [Value.category]) ⟨by decide, by decide⟩ dX7_isRound_6 (fun v H locs hp hw => ?_)
    obtain rfl := hp
    refine W.eq (g2 := F0 m 9 ls [vN (R), vZ (z)]) rfl ?_
    refine k_icmpge (tgt := 16) hm dX7_isRound_9 (by decide) (by omega) (fun c_3 => ?_) (fun c_3 => ?_)
    · refine k_iconstN hm 0 dX7_isRound_16 ?_
      exact k_iret (post := _) hm hQ rfl (kN_bool false) hw (⟨(congrArg (fun b => some (vB b)) (decide_eq_false (by omega))).symm, rfl⟩) (by omega) (by omega) dX7_isRound_17
    · refine k_iconstN hm 1 dX7_isRound_12 ?_
      refine k_goto (tgt := 17) hm dX7_isRound_13 (by decide) ?_
      exact k_iret (post := _) hm hQ rfl (kN_bool true) hw (⟨(congrArg (fun b => some (vB b)) (decide_eq_true (by omega))).symm, rfl⟩) (by omega) (by omega) dX7_isRound_17
set_option maxHeartbeats 4000000 in
set_option maxRecDepth 100000 in
theorem c_m_kinds (l : Launch) (G : kG) (D : Nat → Nat) (sa : Nat → Int64) (pa : Nat → Int64) (pn : Nat) (tx : Nat → Nat) (tn : Nat) (rf : Nat) (ro : Nat → Nat) (wk : Nat) (mb : Nat → Nat) (so : Nat) (kd : Nat → Nat) (nu : Nat → Nat) (it : Nat) (ti : Nat) (rd : Nat) (ad : Nat → Int64) (R : Nat) (sp : Bool) (K : Nat → Nat → Nat) (w : Nat → Nat) (y : Nat → Nat) (r : Nat) (x : Nat) (hmo : MOk sa R sp K w y) (hr : r < R) (hx : x ≤ 1000) : kCR l yX7_kinds wsX7_kinds 1 22 G [.ref (D 0), vN (r), vN (x)] (wMod G D sa pa pn tx tn rf ro wk mb so kd nu it ti rd ad) (fun vv => vv = some (vN (cnt (K r) x (w r)))) := by
  refine kCM.of (cc := cX7_kinds) (maxL := 5) (ret := (some .int)) (by decide) rfl (Nat.le_of_ble_eq_true rfl) ?_
  intro p e s m args below meth c A ls Qz hQ hin hm hw hl
  have hl : lv_has ls 5 [(0, .ref (D 0)), (1, vN (r)), (2, vN (x))] := hl
  have hR := hmo.1.1
  have hb := hmo.1.2.1 r hr
  refine k_iconstN hm 0 dX7_kinds_0 ?_
  refine k_istore_n hm hl [(3, vN (0)), (0, .ref (D 0)), (1, vN (r)), (2, vN (x))] (by decide) rfl dX7_kinds_1 (fun ls hl => ?_)
  refine k_iconstN hm 0 dX7_kinds_2 ?_
  refine k_istore hm hl [(4, vN (0)), (3, vN (0)), (0, .ref (D 0)), (1, vN (r)), (2, vN (x))] (by decide) rfl dX7_kinds_3 (fun ls hl => ?_)
  have loop_5 : ∀ (fu : Nat) (n : Nat) (i : Nat) (hi : i ≤ w r) (hn : n = cnt (K r) x i) (H : Heap) (locs : List Loc) (ls : Array Slot), w r - i < fu → kW G A s (wMod G D sa pa pn tx tn rf ro wk mb so kd nu it ti rd ad) H locs → lv_has ls 5 [(0, .ref (D 0)), (1, vN (r)), (2, vN (x)), (3, vN (n)), (4, vN (i))] → W p l e { frames := 1, cells := 0, slots := 0, locals := 22 } s m args below meth c H locs 0 0 Qz (F0 m 5 ls []) := by
    intro fu
    induction fu with
    | zero => intro n i hi hn H locs ls hfu; exact absurd hfu (Nat.not_lt_zero _)
    | succ fu ih_5 =>
      intro n i hi hn H locs ls hfu hw hl
      refine k_iload hm hl 4 rfl dX7_kinds_5 ?_
      refine k_aload_n hm hl 0 rfl dX7_kinds_7 ?_
      refine k_iload_n hm hl 1 rfl dX7_kinds_8 ?_
      refine k_callVr (n := 1) (As := [vN (r)]) (rest := [vN (i)]) hm hw hl (c_m_worksOf l G D sa pa pn tx tn rf ro wk mb so kd nu it ti rd ad R sp K w y r (by first | assumption | omega) (by first | assumption | omega)) gX7_kinds_X7_worksOf rfl (by decide +kernel) ⟨by decide, by decide⟩ (ci := 7) rfl 0 rfl [0, 1, 2, 3, 4, 5, 6, 7, 8] (by decide) rfl rfl rfl (by simp [Value.category]) ⟨by decide, by decide⟩ dX7_kinds_9 (fun v H locs hp hw => ?_)
      obtain rfl := hp
      refine W.eq (g2 := F0 m 12 ls [vN (w r), vN (i)]) rfl ?_
      refine k_icmpge (tgt := 40) hm dX7_kinds_12 (by decide) (by omega) (fun c_2 => ?_) (fun c_2 => ?_)
      · refine k_iload_n hm hl 3 rfl dX7_kinds_40 ?_
        exact k_iret (post := _) hm hQ rfl rfl hw (⟨by rw [hn, show i = w r by omega], rfl⟩) (by omega) (by omega) dX7_kinds_41
      · have hk := hb.2.2 i (by omega)
        refine k_iload_n hm hl 3 rfl dX7_kinds_15 ?_
        refine k_aload_n hm hl 0 rfl dX7_kinds_16 ?_
        refine k_iload_n hm hl 1 rfl dX7_kinds_17 ?_
        refine k_iload hm hl 4 rfl dX7_kinds_18 ?_
        refine k_callVr (n := 2) (As := [vN (r), vN (i)]) (rest := [vN (n)]) hm hw hl (c_m_kindOf l G D sa pa pn tx tn rf ro wk mb so kd nu it ti rd ad R sp K w y r i (by first | assumption | omega) (by first | assumption | omega) (by first | assumption | omega)) gX7_kinds_X7_kindOf rfl (by decide +kernel) ⟨by decide, by decide⟩ (ci := 7) rfl 0 rfl [0, 1, 2, 3, 4, 5, 6, 7, 8] (by decide) rfl rfl rfl (by simp [Value.category]) ⟨by decide, by decide⟩ dX7_kinds_20 (fun v H locs hp hw => ?_)
        obtain rfl := hp
        refine W.eq (g2 := F0 m 23 ls [vN (K r i), vN (n)]) rfl ?_
        refine k_iload_n hm hl 2 rfl dX7_kinds_23 ?_
        refine k_icmpne (tgt := 31) hm dX7_kinds_24 (by decide) (by omega) (fun c_4 => ?_) (fun c_4 => ?_)
        · refine k_iconstN hm 0 dX7_kinds_31 ?_
          refine k_iaddN hm dX7_kinds_32 ?_
          refine k_istore_n hm hl [(3, vN (n + 0)), (0, .ref (D 0)), (1, vN (r)), (2, vN (x)), (4, vN (i))] (by decide) rfl dX7_kinds_33 (fun ls hl => ?_)
          refine k_iincN hm hl 4 1 rfl [(4, vN (i + 1)), (3, vN (n + 0)), (0, .ref (D 0)), (1, vN (r)), (2, vN (x))] (by decide) rfl dX7_kinds_34 (fun ls hl => ?_)
          refine k_goto (tgt := 5) hm dX7_kinds_37 (by decide) ?_
          exact ih_5  (n + 0) (i + 1) (by first | assumption | omega) (by simp only [cnt]; rw [hn, if_neg (by omega)]) _ _ _ (by omega) hw (lv_sub hl [2, 3, 4, 1, 0] rfl)
        · refine k_iconstN hm 1 dX7_kinds_27 ?_
          refine k_goto (tgt := 32) hm dX7_kinds_28 (by decide) ?_
          refine k_iaddN hm dX7_kinds_32 ?_
          refine k_istore_n hm hl [(3, vN (n + 1)), (0, .ref (D 0)), (1, vN (r)), (2, vN (x)), (4, vN (i))] (by decide) rfl dX7_kinds_33 (fun ls hl => ?_)
          refine k_iincN hm hl 4 1 rfl [(4, vN (i + 1)), (3, vN (n + 1)), (0, .ref (D 0)), (1, vN (r)), (2, vN (x))] (by decide) rfl dX7_kinds_34 (fun ls hl => ?_)
          refine k_goto (tgt := 5) hm dX7_kinds_37 (by decide) ?_
          exact ih_5  (n + 1) (i + 1) (by first | assumption | omega) (by simp only [cnt]; rw [hn, if_pos (by omega)]) _ _ _ (by omega) hw (lv_sub hl [2, 3, 4, 1, 0] rfl)
  exact loop_5 (w r - 0 + 1) 0 0 (by first | assumption | omega) rfl _ _ _ (Nat.lt_succ_self _) hw (lv_sub hl [2, 3, 4, 1, 0] rfl)
set_option maxHeartbeats 4000000 in
set_option maxRecDepth 100000 in
theorem c_m_isMirrored (l : Launch) (G : kG) (D : Nat → Nat) (sa : Nat → Int64) (pa : Nat → Int64) (pn : Nat) (tx : Nat → Nat) (tn : Nat) (rf : Nat) (ro : Nat → Nat) (wk : Nat) (mb : Nat → Nat) (so : Nat) (kd : Nat → Nat) (nu : Nat → Nat) (it : Nat) (ti : Nat) (rd : Nat) (ad : Nat → Int64) (R : Nat) (sp : Bool) (K : Nat → Nat → Nat) (w : Nat → Nat) (y : Nat → Nat) (r : Nat) (hmo : MOk sa R sp K w y) (hr : r < R) : kCR l yX7_isMirrored wsX7_isMirrored 1 22 G [.ref (D 0), vN (r)] (wMod G D sa pa pn tx tn rf ro wk mb so kd nu it ti rd ad) (fun vv => ∃ (b : Bool), vv = some (vB (b)) ∧ (b = true ↔ isMi (K r) (w r))) := by
  refine kCM.of (cc := cX7_isMirrored) (maxL := 4) (ret := (some .boolean)) (by decide) rfl (Nat.le_of_ble_eq_true rfl) ?_
  intro p e s m args below meth c A ls Qz hQ hin hm hw hl
  have hl : lv_has ls 4 [(0, .ref (D 0)), (1, vN (r))] := hl
  have hR := hmo.1.1
  have hb := hmo.1.2.1 r hr
  refine k_iconstN hm 1 dX7_isMirrored_0 ?_
  refine k_rwV (y := vB (true)) rfl ?_
  refine k_istore_n hm hl [(2, vB (true)), (0, .ref (D 0)), (1, vN (r))] (by decide) rfl dX7_isMirrored_1 (fun ls hl => ?_)
  refine k_iconstN hm 0 dX7_isMirrored_2 ?_
  refine k_istore_n hm hl [(3, vN (0)), (2, vB (true)), (0, .ref (D 0)), (1, vN (r))] (by decide) rfl dX7_isMirrored_3 (fun ls hl => ?_)
  have loop_4 : ∀ (fu : Nat) (b : Bool) (i : Nat) (hi : i ≤ w r) (hv : b = true ↔ ∀ j, j < i → K r j = K r (w r - 1 - j)) (H : Heap) (locs : List Loc) (ls : Array Slot), w r - i < fu → kW G A s (wMod G D sa pa pn tx tn rf ro wk mb so kd nu it ti rd ad) H locs → lv_has ls 4 [(0, .ref (D 0)), (1, vN (r)), (2, vB (b)), (3, vN (i))] → W p l e { frames := 1, cells := 0, slots := 0, locals := 22 } s m args below meth c H locs 0 0 Qz (F0 m 4 ls []) := by
    intro fu
    induction fu with
    | zero => intro b i hi hv H locs ls hfu; exact absurd hfu (Nat.not_lt_zero _)
    | succ fu ih_4 =>
      intro b i hi hv H locs ls hfu hw hl
      refine k_iload_n hm hl 3 rfl dX7_isMirrored_4 ?_
      refine k_aload_n hm hl 0 rfl dX7_isMirrored_5 ?_
      refine k_iload_n hm hl 1 rfl dX7_isMirrored_6 ?_
      refine k_callVr (n := 1) (As := [vN (r)]) (rest := [vN (i)]) hm hw hl (c_m_worksOf l G D sa pa pn tx tn rf ro wk mb so kd nu it ti rd ad R sp K w y r (by first | assumption | omega) (by first | assumption | omega)) gX7_isMirrored_X7_worksOf rfl (by decide +kernel) ⟨by decide, by decide⟩ (ci := 7) rfl 0 rfl [0, 1, 2, 3, 4, 5, 6, 7, 8] (by decide) rfl rfl rfl (by simp [Value.category]) ⟨by decide, by decide⟩ dX7_isMirrored_7 (fun v H locs hp hw => ?_)
      obtain rfl := hp
      refine W.eq (g2 := F0 m 10 ls [vN (w r), vN (i)]) rfl ?_
      refine k_icmpge (tgt := 52) hm dX7_isMirrored_10 (by decide) (by omega) (fun c_2 => ?_) (fun c_2 => ?_)
      · refine k_iload_n hm hl 2 rfl dX7_isMirrored_52 ?_
        exact k_iret (post := _) hm hQ rfl (kN_bool b) hw (⟨⟨b, rfl, hv.trans ⟨fun z j q => z j (by omega), fun z j q => z j (by omega)⟩⟩, rfl⟩) (by omega) (by omega) dX7_isMirrored_53
      · refine k_iload_n hm hl 2 rfl dX7_isMirrored_13 ?_
        refine k_ifeqB (tgt := 44) hm dX7_isMirrored_14 (by decide) (fun c_3 => ?_) (fun c_3 => ?_)
        · have hbf := c_3
          refine k_iconstN hm 0 dX7_isMirrored_44 ?_
          refine k_rwV (y := vB (false)) rfl ?_
          refine k_istore_n hm hl [(2, vB (false)), (0, .ref (D 0)), (1, vN (r)), (3, vN (i))] (by decide) rfl dX7_isMirrored_45 (fun ls hl => ?_)
          refine k_iincN hm hl 3 1 rfl [(3, vN (i + 1)), (2, vB (false)), (0, .ref (D 0)), (1, vN (r))] (by decide) rfl dX7_isMirrored_46 (fun ls hl => ?_)
          refine k_goto (tgt := 4) hm dX7_isMirrored_49 (by decide) ?_
          exact ih_4  false (i + 1) (by first | assumption | omega) ⟨fun z => (by cases z), fun z => by have z2 := hv.mpr (fun j q => z j (by omega)); rw [hbf] at z2; cases z2⟩ _ _ _ (by omega) hw (lv_sub hl [2, 3, 1, 0] rfl)
        · have hbt := c_3
          have hk := hb.2.2 i (by omega)
          have hk2 := hb.2.2 (w r - 1 - i) (by omega)
          refine k_aload_n hm hl 0 rfl dX7_isMirrored_17 ?_
          refine k_iload_n hm hl 1 rfl dX7_isMirrored_18 ?_
          refine k_iload_n hm hl 3 rfl dX7_isMirrored_19 ?_
          refine k_callVr (n := 2) (As := [vN (r), vN (i)]) (rest := []) hm hw hl (c_m_kindOf l G D sa pa pn tx tn rf ro wk mb so kd nu it ti rd ad R sp K w y r i (by first | assumption | omega) (by first | assumption | omega) (by first | assumption | omega)) gX7_isMirrored_X7_kindOf rfl (by decide +kernel) ⟨by decide, by decide⟩ (ci := 7) rfl 0 rfl [0, 1, 2, 3, 4, 5, 6, 7, 8] (by decide) rfl rfl rfl (by simp [Value.category]) ⟨by decide, by decide⟩ dX7_isMirrored_20 (fun v H locs hp hw => ?_)
          obtain rfl := hp
          refine W.eq (g2 := F0 m 23 ls [vN (K r i)]) rfl ?_
          refine k_aload_n hm hl 0 rfl dX7_isMirrored_23 ?_
          refine k_iload_n hm hl 1 rfl dX7_isMirrored_24 ?_
          refine k_aload_n hm hl 0 rfl dX7_isMirrored_25 ?_
          refine k_iload_n hm hl 1 rfl dX7_isMirrored_26 ?_
          refine k_callVr (n := 1) (As := [vN (r)]) (rest := [vN (r), .ref (D 0), vN (K r i)]) hm hw hl (c_m_worksOf l G D sa pa pn tx tn rf ro wk mb so kd nu it ti rd ad R sp K w y r (by first | assumption | omega) (by first | assumption | omega)) gX7_isMirrored_X7_worksOf rfl (by decide +kernel) ⟨by decide, by decide⟩ (ci := 7) rfl 0 rfl [0, 1, 2, 3, 4, 5, 6, 7, 8] (by decide) rfl rfl rfl (by simp [Value.category]) ⟨by decide, by decide⟩ dX7_isMirrored_27 (fun v H locs hp hw => ?_)
          obtain rfl := hp
          refine W.eq (g2 := F0 m 30 ls [vN (w r), vN (r), .ref (D 0), vN (K r i)]) rfl ?_
          refine k_iconstN hm 1 dX7_isMirrored_30 ?_
          refine k_isubN hm (by omega) dX7_isMirrored_31 ?_
          refine k_iload_n hm hl 3 rfl dX7_isMirrored_32 ?_
          refine k_isubN hm (by omega) dX7_isMirrored_33 ?_
          refine k_callVr (n := 2) (As := [vN (r), vN (((w r) - 1) - i)]) (rest := [vN (K r i)]) hm hw hl (c_m_kindOf l G D sa pa pn tx tn rf ro wk mb so kd nu it ti rd ad R sp K w y r (((w r) - 1) - i) (by first | assumption | omega) (by first | assumption | omega) (by first | assumption | omega)) gX7_isMirrored_X7_kindOf rfl (by decide +kernel) ⟨by decide, by decide⟩ (ci := 7) rfl 0 rfl [0, 1, 2, 3, 4, 5, 6, 7, 8] (by decide) rfl rfl rfl (by simp [Value.category]) ⟨by decide, by decide⟩ dX7_isMirrored_34 (fun v H locs hp hw => ?_)
          obtain rfl := hp
          refine W.eq (g2 := F0 m 37 ls [vN (K r (((w r) - 1) - i)), vN (K r i)]) rfl ?_
          refine k_icmpne (tgt := 44) hm dX7_isMirrored_37 (by decide) (by omega) (fun c_7 => ?_) (fun c_7 => ?_)
          · refine k_iconstN hm 0 dX7_isMirrored_44 ?_
            refine k_rwV (y := vB (false)) rfl ?_
            refine k_istore_n hm hl [(2, vB (false)), (0, .ref (D 0)), (1, vN (r)), (3, vN (i))] (by decide) rfl dX7_isMirrored_45 (fun ls hl => ?_)
            refine k_iincN hm hl 3 1 rfl [(3, vN (i + 1)), (2, vB (false)), (0, .ref (D 0)), (1, vN (r))] (by decide) rfl dX7_isMirrored_46 (fun ls hl => ?_)
            refine k_goto (tgt := 4) hm dX7_isMirrored_49 (by decide) ?_
            exact ih_4  false (i + 1) (by first | assumption | omega) ⟨fun z => (by cases z), fun z => by have z2 := z i (by omega); omega⟩ _ _ _ (by omega) hw (lv_sub hl [2, 3, 1, 0] rfl)
          · refine k_iconstN hm 1 dX7_isMirrored_40 ?_
            refine k_goto (tgt := 45) hm dX7_isMirrored_41 (by decide) ?_
            refine k_rwV (y := vB (true)) rfl ?_
            refine k_istore_n hm hl [(2, vB (true)), (0, .ref (D 0)), (1, vN (r)), (3, vN (i))] (by decide) rfl dX7_isMirrored_45 (fun ls hl => ?_)
            refine k_iincN hm hl 3 1 rfl [(3, vN (i + 1)), (2, vB (true)), (0, .ref (D 0)), (1, vN (r))] (by decide) rfl dX7_isMirrored_46 (fun ls hl => ?_)
            refine k_goto (tgt := 4) hm dX7_isMirrored_49 (by decide) ?_
            exact ih_4  true (i + 1) (by first | assumption | omega) ⟨fun _ j q => by rcases Nat.lt_or_ge j i with z | z; exact (hv.mp hbt) j z; rw [show j = i by omega]; omega, fun _ => rfl⟩ _ _ _ (by omega) hw (lv_sub hl [2, 3, 1, 0] rfl)
  exact loop_4 (w r - 0 + 1) true 0 (by first | assumption | omega) ⟨fun _ j q => absurd q (by omega), fun _ => rfl⟩ _ _ _ (Nat.lt_succ_self _) hw (lv_sub hl [2, 3, 1, 0] rfl)
set_option maxHeartbeats 4000000 in
set_option maxRecDepth 100000 in
theorem c_m_yarnOf (l : Launch) (G : kG) (D : Nat → Nat) (sa : Nat → Int64) (pa : Nat → Int64) (pn : Nat) (tx : Nat → Nat) (tn : Nat) (rf : Nat) (ro : Nat → Nat) (wk : Nat) (mb : Nat → Nat) (so : Nat) (kd : Nat → Nat) (nu : Nat → Nat) (it : Nat) (ti : Nat) (rd : Nat) (ad : Nat → Int64) (R : Nat) (sp : Bool) (K : Nat → Nat → Nat) (w : Nat → Nat) (y : Nat → Nat) (r : Nat) (hmo : MOk sa R sp K w y) (hr : r < R) : kCR l yX7_yarnOf wsX7_yarnOf 1 22 G [.ref (D 0), vN (r)] (wMod G D sa pa pn tx tn rf ro wk mb so kd nu it ti rd ad) (fun vv => vv = some (vN (yrn y (K r) (w r)))) := by
  refine kCM.of (cc := cX7_yarnOf) (maxL := 4) (ret := (some .int)) (by decide) rfl (Nat.le_of_ble_eq_true rfl) ?_
  intro p e s m args below meth c A ls Qz hQ hin hm hw hl
  have hl : lv_has ls 4 [(0, .ref (D 0)), (1, vN (r))] := hl
  have i7 : ∀ w ∈ wsX70, w ∈ wsX7_yarnOf := by decide +kernel
  have hR := hmo.1.1
  have hb := hmo.1.2.1 r hr
  refine k_iconstN hm 0 dX7_yarnOf_0 ?_
  refine k_istore_n hm hl [(2, vN (0)), (0, .ref (D 0)), (1, vN (r))] (by decide) rfl dX7_yarnOf_1 (fun ls hl => ?_)
  refine k_iconstN hm 0 dX7_yarnOf_2 ?_
  refine k_istore_n hm hl [(3, vN (0)), (2, vN (0)), (0, .ref (D 0)), (1, vN (r))] (by decide) rfl dX7_yarnOf_3 (fun ls hl => ?_)
  have loop_4 : ∀ (fu : Nat) (n : Nat) (i : Nat) (hi : i ≤ w r) (hn : n = yrn y (K r) i) (H : Heap) (locs : List Loc) (ls : Array Slot), w r - i < fu → kW G A s (wMod G D sa pa pn tx tn rf ro wk mb so kd nu it ti rd ad) H locs → lv_has ls 4 [(0, .ref (D 0)), (1, vN (r)), (2, vN (n)), (3, vN (i))] → W p l e { frames := 1, cells := 0, slots := 0, locals := 22 } s m args below meth c H locs 0 0 Qz (F0 m 4 ls []) := by
    intro fu
    induction fu with
    | zero => intro n i hi hn H locs ls hfu; exact absurd hfu (Nat.not_lt_zero _)
    | succ fu ih_4 =>
      intro n i hi hn H locs ls hfu hw hl
      refine k_iload_n hm hl 3 rfl dX7_yarnOf_4 ?_
      refine k_aload_n hm hl 0 rfl dX7_yarnOf_5 ?_
      refine k_iload_n hm hl 1 rfl dX7_yarnOf_6 ?_
      refine k_callVr (n := 1) (As := [vN (r)]) (rest := [vN (i)]) hm hw hl (c_m_worksOf l G D sa pa pn tx tn rf ro wk mb so kd nu it ti rd ad R sp K w y r (by first | assumption | omega) (by first | assumption | omega)) gX7_yarnOf_X7_worksOf rfl (by decide +kernel) ⟨by decide, by decide⟩ (ci := 7) rfl 0 rfl [0, 1, 2, 3, 4, 5, 6, 7, 8] (by decide) rfl rfl rfl (by simp [Value.category]) ⟨by decide, by decide⟩ dX7_yarnOf_7 (fun v H locs hp hw => ?_)
      obtain rfl := hp
      refine W.eq (g2 := F0 m 10 ls [vN (w r), vN (i)]) rfl ?_
      refine k_icmpge (tgt := 36) hm dX7_yarnOf_10 (by decide) (by omega) (fun c_2 => ?_) (fun c_2 => ?_)
      · refine k_iload_n hm hl 2 rfl dX7_yarnOf_36 ?_
        exact k_iret (post := _) hm hQ rfl rfl hw (⟨by rw [hn, show i = w r by omega], rfl⟩) (by omega) (by omega) dX7_yarnOf_37
      · refine k_iload_n hm hl 2 rfl dX7_yarnOf_13 ?_
        refine k_aload_n hm hl 0 rfl dX7_yarnOf_14 ?_
        refine k_get (T := TX7) hm hw 0 0 i7 rfl rfl (by decide) (by decide +kernel) rfl dX7_yarnOf_15 ?_
        refine k_iconstN hm 2 dX7_yarnOf_18 ?_
        refine k_aload_n hm hl 0 rfl dX7_yarnOf_19 ?_
        refine k_iload_n hm hl 1 rfl dX7_yarnOf_20 ?_
        refine k_iload_n hm hl 3 rfl dX7_yarnOf_21 ?_
        refine k_callVr (n := 2) (As := [vN (r), vN (i)]) (rest := [vN (2), .ref (D 1), vN (n)]) hm hw hl (c_m_kindOf l G D sa pa pn tx tn rf ro wk mb so kd nu it ti rd ad R sp K w y r i (by first | assumption | omega) (by first | assumption | omega) (by first | assumption | omega)) gX7_yarnOf_X7_kindOf rfl (by decide +kernel) ⟨by decide, by decide⟩ (ci := 7) rfl 0 rfl [0, 1, 2, 3, 4, 5, 6, 7, 8] (by decide) rfl rfl rfl (by simp [Value.category]) ⟨by decide, by decide⟩ dX7_yarnOf_22 (fun v H locs hp hw => ?_)
        obtain rfl := hp
        refine W.eq (g2 := F0 m 25 ls [vN (K r i), vN (2), .ref (D 1), vN (n)]) rfl ?_
        have hk := hb.2.2 i (by omega)
        have hyk := hmo.2.2.2.1 (K r i) (by omega)
        have hyr := hmo.1.2.2.2.1 (K r i) (by omega)
        refine k_iaddN hm dX7_yarnOf_25 ?_
        refine k_lald hm hw 1 rfl (by omega) dX7_yarnOf_26 ?_
        rw [show sa (2 + (K r i)) = lI (y (K r i) : Int) from hyk]
        refine k_l2i hm dX7_yarnOf_27 ?_
        refine k_iaddN hm dX7_yarnOf_28 ?_
        refine k_istore_n hm hl [(2, vN (n + (y (K r i)))), (0, .ref (D 0)), (1, vN (r)), (3, vN (i))] (by decide) rfl dX7_yarnOf_29 (fun ls hl => ?_)
        refine k_iincN hm hl 3 1 rfl [(3, vN (i + 1)), (2, vN (n + (y (K r i)))), (0, .ref (D 0)), (1, vN (r))] (by decide) rfl dX7_yarnOf_30 (fun ls hl => ?_)
        refine k_goto (tgt := 4) hm dX7_yarnOf_33 (by decide) ?_
        exact ih_4  (n + (y (K r i))) (i + 1) (by first | assumption | omega) (by simp only [yrn]; rw [hn]) _ _ _ (by omega) hw (lv_sub hl [2, 3, 1, 0] rfl)
  exact loop_4 (w r - 0 + 1) 0 0 (by first | assumption | omega) rfl _ _ _ (Nat.lt_succ_self _) hw (lv_sub hl [2, 3, 1, 0] rfl)
theorem leG_tt {a b : Nat} (h : a ≤ b) : leG true a b := by unfold leG; rw [if_pos rfl]; exact h
theorem leG_ff {a b : Nat} (h : b ≤ a) : leG false a b := by unfold leG; rw [if_neg (by decide)]; exact h
theorem cnt_lt {k : Nat → Nat} {x : Nat} : ∀ {n i : Nat}, i < n → k i ≠ x → cnt k x n < n
  | 0, i, h, _ => absurd h (Nat.not_lt_zero _)
  | n + 1, i, h, hk => by
    have h1 := cnt_le k x n
    simp only [cnt]
    by_cases q : i = n
    · subst q; rw [if_neg hk]; omega
    · have := cnt_lt (n := n) (show i < n by omega) hk
      split <;> omega
theorem cnt_ex {k : Nat → Nat} {x : Nat} : ∀ {n : Nat}, cnt k x n < n → ∃ i, i < n ∧ k i ≠ x
  | 0, h => absurd h (Nat.not_lt_zero _)
  | n + 1, h => by
    by_cases q : k n = x
    · simp only [cnt] at h; rw [if_pos q] at h
      obtain ⟨i, h1, h2⟩ := cnt_ex (k := k) (x := x) (n := n) (by omega)
      exact ⟨i, by omega, h2⟩
    · exact ⟨n, by omega, q⟩
theorem tw_of {k : Nat → Nat} : ∀ {n : Nat}, cnt k 0 n + 2 ≤ n → tw k n
  | 0, h => by omega
  | n + 1, h => by
    by_cases q : k n = 0
    · simp only [cnt] at h; rw [if_pos q] at h
      obtain ⟨a, b, h1, h2, h3, h4⟩ := tw_of (k := k) (n := n) (by omega)
      exact ⟨a, b, h1, by omega, h3, h4⟩
    · simp only [cnt] at h; rw [if_neg q] at h
      obtain ⟨i, h1, h2⟩ := cnt_ex (k := k) (x := 0) (n := n) (by omega)
      exact ⟨i, n, h1, by omega, h2, q⟩
theorem of_tw {k : Nat → Nat} : ∀ {n : Nat}, tw k n → cnt k 0 n + 2 ≤ n
  | 0, ⟨a, b, h1, h2, _⟩ => by omega
  | n + 1, ⟨a, b, h1, h2, h3, h4⟩ => by
    simp only [cnt]
    by_cases q : b = n
    · subst q; rw [if_neg h4]
      have := cnt_lt (x := 0) h1 h3
      omega
    · have := of_tw (n := n) ⟨a, b, h1, by omega, h3, h4⟩
      split <;> omega
theorem tw_nx {k : Nat → Nat} {m i : Nat} (h : tw k m) (hi : i < m) : ∃ j, 1 ≤ j ∧ j ≤ m ∧ k ((i + j) % m) ≠ 0 := by
  obtain ⟨a, b, h1, h2, h3, h4⟩ := h
  by_cases q : i < a
  · exact ⟨a - i, by omega, by omega, by rw [show i + (a - i) = a by omega, Nat.mod_eq_of_lt (by omega)]; exact h3⟩
  · exact ⟨a + m - i, by omega, by omega, by rw [show i + (a + m - i) = a + m by omega, Nat.add_mod_right, Nat.mod_eq_of_lt (by omega)]; exact h3⟩
def dI (k : Nat → Nat) (m : Nat) (g : Bool) (i f : Nat) : Prop := ((∀ j, j < i → k j = 0) ∧ f = if g = true then 0 else 120) ∨ ((∃ j, j < i ∧ k j ≠ 0 ∧ isNx k m j f) ∧ ∀ j d, j < i → k j ≠ 0 → isNx k m j d → leG g d f)
theorem dI_0 {k : Nat → Nat} {m : Nat} {g : Bool} {i f : Nat} (h : dI k m g i f) (h0 : k i = 0) : dI k m g (i + 1) f := by
  rcases h with ⟨h1, h2⟩ | ⟨⟨j, h1, h2, h3⟩, h4⟩
  · exact Or.inl ⟨fun j hj => by by_cases q : j = i; rw [q]; exact h0; exact h1 j (by omega), h2⟩
  · refine Or.inr ⟨⟨j, by omega, h2, h3⟩, fun a d ha hk hd => ?_⟩
    by_cases q : a = i
    · rw [q] at hk; exact absurd h0 hk
    · exact h4 a d (by omega) hk hd
theorem dI_new {k : Nat → Nat} {m : Nat} {g : Bool} {i f d : Nat} (h : dI k m g i f) (h0 : k i ≠ 0) (hd : isNx k m i d) (hl : leG g f d) : dI k m g (i + 1) d := by
  refine Or.inr ⟨⟨i, by omega, h0, hd⟩, fun a e ha hk he => ?_⟩
  by_cases q : a = i
  · subst q; rw [isNx_u he hd]; exact leG_r g d
  · rcases h with ⟨h1, h2⟩ | ⟨⟨j, h1, h2, h3⟩, h4⟩
    · exact absurd (h1 a (by omega)) hk
    · exact leG_t (h4 a e (by omega) hk he) hl
theorem dI_keep {k : Nat → Nat} {m : Nat} {g : Bool} {i f d : Nat} (h : dI k m g i f) (h0 : k i ≠ 0) (hd : isNx k m i d) (hl : leG g d f) (h1 : 1 ≤ d) (h2 : d ≤ 120) : dI k m g (i + 1) f := by
  rcases h with ⟨z1, z2⟩ | ⟨⟨j, z1, z2, z3⟩, z4⟩
  · have e : d = f := by
      unfold leG at hl
      cases g <;> simp at hl z2 <;> omega
    subst e
    refine Or.inr ⟨⟨i, by omega, h0, hd⟩, fun a e ha hk he => ?_⟩
    by_cases q : a = i
    · subst q; rw [isNx_u he hd]; exact leG_r g _
    · exact absurd (z1 a (by omega)) hk
  · refine Or.inr ⟨⟨j, by omega, z2, z3⟩, fun a e ha hk he => ?_⟩
    by_cases q : a = i
    · subst q; rw [isNx_u he hd]; exact hl
    · exact z4 a e (by omega) hk he
theorem dI_end {k : Nat → Nat} {m i : Nat} {g : Bool} {f : Nat} (h : dI k m g i f) (e : i = m) (ht : tw k m) : isDs k m g f := by
  subst e
  refine ⟨fun _ => ?_, fun z => absurd ht z⟩
  rcases h with ⟨h1, h2⟩ | ⟨⟨j, h1, h2, h3⟩, h4⟩
  · obtain ⟨a, b, t1, t2, t3, t4⟩ := ht
    exact absurd (h1 b t2) t4
  · exact ⟨⟨j, h1, h2, h3⟩, fun e ⟨a, e1, e2, e3⟩ => h4 a e e1 e2 e3⟩
set_option maxHeartbeats 4000000 in
set_option maxRecDepth 100000 in
theorem c_m_distance (l : Launch) (G : kG) (D : Nat → Nat) (sa : Nat → Int64) (pa : Nat → Int64) (pn : Nat) (tx : Nat → Nat) (tn : Nat) (rf : Nat) (ro : Nat → Nat) (wk : Nat) (mb : Nat → Nat) (so : Nat) (kd : Nat → Nat) (nu : Nat → Nat) (it : Nat) (ti : Nat) (rd : Nat) (ad : Nat → Int64) (R : Nat) (sp : Bool) (K : Nat → Nat → Nat) (w : Nat → Nat) (y : Nat → Nat) (r : Nat) (g : Bool) (hmo : MOk sa R sp K w y) (hr : r < R) : kCR l yX7_distance wsX7_distance 2 46 G [.ref (D 0), vN (r), vB (g)] (wMod G D sa pa pn tx tn rf ro wk mb so kd nu it ti rd ad) (fun vv => vv = some (vN (dsF (K r) (w r) g))) := by
  refine kCM.of (cc := cX7_distance) (maxL := 8) (ret := (some .int)) (by decide) rfl (Nat.le_of_ble_eq_true rfl) ?_
  intro p e s m args below meth c A ls Qz hQ hin hm hw hl
  have hl : lv_has ls 8 [(0, .ref (D 0)), (1, vN (r)), (2, vB (g))] := hl
  have hR := hmo.1.1
  have hb := hmo.1.2.1 r hr
  have hcl := cnt_le (K r) 0 (w r)
  refine k_aload_n hm hl 0 rfl dX7_distance_0 ?_
  refine k_iload_n hm hl 1 rfl dX7_distance_1 ?_
  refine k_callVr (n := 1) (As := [vN (r)]) (rest := []) hm hw hl (c_m_worksOf l G D sa pa pn tx tn rf ro wk mb so kd nu it ti rd ad R sp K w y r (by first | assumption | omega) (by first | assumption | omega)) gX7_distance_X7_worksOf rfl (by decide +kernel) ⟨by decide, by decide⟩ (ci := 7) rfl 0 rfl [0, 1, 2, 3, 4, 5, 6, 7, 8] (by decide) rfl rfl rfl (by simp [Value.category]) ⟨by decide, by decide⟩ dX7_distance_2 (fun v H locs hp hw => ?_)
  obtain rfl := hp
  refine W.eq (g2 := F0 m 5 ls [vN (w r)]) rfl ?_
  refine k_istore_n hm hl [(3, vN (w r)), (0, .ref (D 0)), (1, vN (r)), (2, vB (g))] (by decide) rfl dX7_distance_5 (fun ls hl => ?_)
  refine k_iload_n hm hl 0 rfl dX7_distance_6 ?_
  refine k_aload_n hm hl 1 rfl dX7_distance_7 ?_
  refine k_iload_n hm hl 2 rfl dX7_distance_8 ?_
  refine k_iconstN hm 0 dX7_distance_9 ?_
  refine k_callVr (n := 2) (As := [vN (r), vN (0)]) (rest := [vN (w r)]) hm hw hl (c_m_kinds l G D sa pa pn tx tn rf ro wk mb so kd nu it ti rd ad R sp K w y r 0 (by first | assumption | omega) (by first | assumption | omega) (by first | assumption | omega)) gX7_distance_X7_kinds rfl (by decide +kernel) ⟨by decide, by decide⟩ (ci := 7) rfl 0 rfl [0, 1, 2, 3, 4, 5, 6, 7, 8] (by decide) rfl rfl rfl (by simp [Value.category]) ⟨by decide, by decide⟩ dX7_distance_10 (fun v H locs hp hw => ?_)
  obtain rfl := hp
  refine W.eq (g2 := F0 m 13 ls [vN (cnt (K r) 0 (w r)), vN (w r)]) rfl ?_
  refine k_isubN hm (by omega) dX7_distance_13 ?_
  refine k_iconstN hm 2 dX7_distance_14 ?_
  refine k_icmpge (tgt := 20) hm dX7_distance_15 (by decide) (by omega) (fun c_3 => ?_) (fun c_3 => ?_)
  · refine k_iload_n hm hl 3 rfl dX7_distance_20 ?_
    refine k_ifeqB (tgt := 28) hm dX7_distance_21 (by decide) (fun c_4 => ?_) (fun c_4 => ?_)
    · have hg : g = false := c_4
      refine k_bipushN hm 120 dX7_distance_28 rfl ?_
      refine k_istore hm hl [(4, vN (120)), (3, vN (w r)), (0, .ref (D 0)), (1, vN (r)), (2, vB (g))] (by decide) rfl dX7_distance_30 (fun ls hl => ?_)
      have htw : tw (K r) (w r) := tw_of (by omega)
      refine k_iconstN hm 0 dX7_distance_32 ?_
      refine k_istore hm hl [(5, vN (0)), (4, vN (120)), (3, vN (w r)), (0, .ref (D 0)), (1, vN (r)), (2, vB (g))] (by decide) rfl dX7_distance_33 (fun ls hl => ?_)
      have loop_35 : ∀ (fu : Nat) (f : Nat) (i : Nat) (hi : i ≤ w r) (hf : f ≤ 120) (hv : dI (K r) (w r) g i f) (H : Heap) (locs : List Loc) (ls : Array Slot), w r - i < fu → kW G A s (wMod G D sa pa pn tx tn rf ro wk mb so kd nu it ti rd ad) H locs → lv_has ls 8 [(0, .ref (D 0)), (1, vN (r)), (2, vB (g)), (3, vN (w r)), (4, vN (f)), (5, vN (i))] → W p l e { frames := 2, cells := 0, slots := 0, locals := 46 } s m args below meth c H locs 0 0 Qz (F0 m 35 ls []) := by
        intro fu
        induction fu with
        | zero => intro f i hi hf hv H locs ls hfu; exact absurd hfu (Nat.not_lt_zero _)
        | succ fu ih_35 =>
          intro f i hi hf hv H locs ls hfu hw hl
          refine k_iload hm hl 5 rfl dX7_distance_35 ?_
          refine k_iload_n hm hl 3 rfl dX7_distance_37 ?_
          refine k_icmpge (tgt := 123) hm dX7_distance_38 (by decide) (by omega) (fun c_5 => ?_) (fun c_5 => ?_)
          · refine k_iload hm hl 4 rfl dX7_distance_123 ?_
            exact k_iret (post := _) hm hQ rfl rfl hw (⟨by rw [← dsF_of (dI_end hv (by omega) htw)], rfl⟩) (by omega) (by omega) dX7_distance_125
          · obtain ⟨j0, hj0⟩ := tw_nx htw (show i < w r by omega)
            refine k_iconstN hm 1 dX7_distance_41 ?_
            refine k_istore hm hl [(6, vN (1)), (0, .ref (D 0)), (1, vN (r)), (2, vB (g)), (3, vN (w r)), (4, vN (f)), (5, vN (i))] (by decide) rfl dX7_distance_42 (fun ls hl => ?_)
            have loop_44 : ∀ (fu : Nat) (q : Nat) (hq : 1 ≤ q ∧ q ≤ j0) (hz : ∀ j, 1 ≤ j → j < q → K r ((i + j) % w r) = 0) (H : Heap) (locs : List Loc) (ls : Array Slot), w r + 1 - q < fu → kW G A s (wMod G D sa pa pn tx tn rf ro wk mb so kd nu it ti rd ad) H locs → lv_has ls 8 [(0, .ref (D 0)), (1, vN (r)), (2, vB (g)), (3, vN (w r)), (4, vN (f)), (5, vN (i)), (6, vN (q))] → W p l e { frames := 2, cells := 0, slots := 0, locals := 46 } s m args below meth c H locs 0 0 Qz (F0 m 44 ls []) := by
              intro fu
              induction fu with
              | zero => intro q hq hz H locs ls hfu; exact absurd hfu (Nat.not_lt_zero _)
              | succ fu ih_44 =>
                intro q hq hz H locs ls hfu hw hl
                refine k_aload_n hm hl 0 rfl dX7_distance_44 ?_
                refine k_iload_n hm hl 1 rfl dX7_distance_45 ?_
                refine k_iload hm hl 5 rfl dX7_distance_46 ?_
                refine k_iload hm hl 6 rfl dX7_distance_48 ?_
                refine k_iaddN hm dX7_distance_50 ?_
                refine k_iload_n hm hl 3 rfl dX7_distance_51 ?_
                refine k_iremN hm (by omega) dX7_distance_52 ?_
                have hml := Nat.mod_lt (i + q) (show 0 < w r by omega)
                have hkq := hb.2.2 _ hml
                refine k_callVr (n := 2) (As := [vN (r), vN ((i + q) % (w r))]) (rest := []) hm hw hl (c_m_kindOf l G D sa pa pn tx tn rf ro wk mb so kd nu it ti rd ad R sp K w y r ((i + q) % (w r)) (by first | assumption | omega) (by first | assumption | omega) (by first | assumption | omega)) gX7_distance_X7_kindOf rfl (by decide +kernel) ⟨by decide, by decide⟩ (ci := 7) rfl 0 rfl [0, 1, 2, 3, 4, 5, 6, 7, 8] (by decide) rfl rfl rfl (by simp [Value.category]) ⟨by decide, by decide⟩ dX7_distance_53 (fun v H locs hp hw => ?_)
                obtain rfl := hp
                refine W.eq (g2 := F0 m 56 ls [vN (K r ((i + q) % (w r)))]) rfl ?_
                refine k_ifne (tgt := 65) hm dX7_distance_56 (by decide) (by omega) (fun c_7 => ?_) (fun c_7 => ?_)
                · have hnx : isNx (K r) (w r) i q := ⟨hq.1, by omega, hz⟩
                  have hki := hb.2.2 i (by omega)
                  refine k_aload_n hm hl 0 rfl dX7_distance_65 ?_
                  refine k_iload_n hm hl 1 rfl dX7_distance_66 ?_
                  refine k_iload hm hl 5 rfl dX7_distance_67 ?_
                  refine k_callVr (n := 2) (As := [vN (r), vN (i)]) (rest := []) hm hw hl (c_m_kindOf l G D sa pa pn tx tn rf ro wk mb so kd nu it ti rd ad R sp K w y r i (by first | assumption | omega) (by first | assumption | omega) (by first | assumption | omega)) gX7_distance_X7_kindOf rfl (by decide +kernel) ⟨by decide, by decide⟩ (ci := 7) rfl 0 rfl [0, 1, 2, 3, 4, 5, 6, 7, 8] (by decide) rfl rfl rfl (by simp [Value.category]) ⟨by decide, by decide⟩ dX7_distance_69 (fun v H locs hp hw => ?_)
                  obtain rfl := hp
                  refine W.eq (g2 := F0 m 72 ls [vN (K r i)]) rfl ?_
                  refine k_ifeq (tgt := 100) hm dX7_distance_72 (by decide) (by omega) (fun c_9 => ?_) (fun c_9 => ?_)
                  · refine k_iconstN hm 0 dX7_distance_100 ?_
                    refine k_istore hm hl [(7, vN (0)), (0, .ref (D 0)), (1, vN (r)), (2, vB (g)), (3, vN (w r)), (4, vN (f)), (5, vN (i)), (6, vN (q))] (by decide) rfl dX7_distance_101 (fun ls hl => ?_)
                    refine k_iload hm hl 0 rfl dX7_distance_103 ?_
                    refine k_ifeq (tgt := 113) hm dX7_distance_105 (by decide) (by omega) (fun c_10 => ?_) (fun c_10 => absurd c_10 (by omega))
                    refine k_iload hm hl 5 rfl dX7_distance_113 ?_
                    refine k_istore hm hl [(4, vN (f)), (7, vN (0)), (0, .ref (D 0)), (1, vN (r)), (2, vB (g)), (3, vN (w r)), (5, vN (i)), (6, vN (q))] (by decide) rfl dX7_distance_115 (fun ls hl => ?_)
                    refine k_iincN hm hl 6 1 rfl [(5, vN (i + 1)), (4, vN (f)), (7, vN (0)), (0, .ref (D 0)), (1, vN (r)), (2, vB (g)), (3, vN (w r)), (6, vN (q))] (by decide) rfl dX7_distance_117 (fun ls hl => ?_)
                    refine k_goto (tgt := 35) hm dX7_distance_120 (by decide) ?_
                    exact ih_35  f (i + 1) (by first | assumption | omega) (by first | assumption | omega) (dI_0 hv (by omega)) _ _ _ (by omega) hw (lv_sub hl [3, 4, 5, 6, 1, 0] rfl)
                  · refine k_iload_n hm hl 2 rfl dX7_distance_75 ?_
                    refine k_rwV (y := vB (false)) (by rw [hg]) ?_
                    refine k_ifeqB (tgt := 89) hm dX7_distance_76 (by decide) (fun _ => ?_) (fun c_11 => absurd c_11 (by decide))
                    refine k_iload hm hl 6 rfl dX7_distance_89 ?_
                    refine k_iload hm hl 4 rfl dX7_distance_91 ?_
                    refine k_icmpge (tgt := 100) hm dX7_distance_93 (by decide) (by omega) (fun c_12 => ?_) (fun c_12 => ?_)
                    · refine k_iconstN hm 0 dX7_distance_100 ?_
                      refine k_istore hm hl [(7, vN (0)), (0, .ref (D 0)), (1, vN (r)), (2, vB (g)), (3, vN (w r)), (4, vN (f)), (5, vN (i)), (6, vN (q))] (by decide) rfl dX7_distance_101 (fun ls hl => ?_)
                      refine k_iload hm hl 0 rfl dX7_distance_103 ?_
                      refine k_ifeq (tgt := 113) hm dX7_distance_105 (by decide) (by omega) (fun c_13 => ?_) (fun c_13 => absurd c_13 (by omega))
                      refine k_iload hm hl 5 rfl dX7_distance_113 ?_
                      refine k_istore hm hl [(4, vN (f)), (7, vN (0)), (0, .ref (D 0)), (1, vN (r)), (2, vB (g)), (3, vN (w r)), (5, vN (i)), (6, vN (q))] (by decide) rfl dX7_distance_115 (fun ls hl => ?_)
                      refine k_iincN hm hl 6 1 rfl [(5, vN (i + 1)), (4, vN (f)), (7, vN (0)), (0, .ref (D 0)), (1, vN (r)), (2, vB (g)), (3, vN (w r)), (6, vN (q))] (by decide) rfl dX7_distance_117 (fun ls hl => ?_)
                      refine k_goto (tgt := 35) hm dX7_distance_120 (by decide) ?_
                      exact ih_35  f (i + 1) (by first | assumption | omega) (by first | assumption | omega) (dI_keep hv (by omega) hnx (by rw [hg]; exact leG_ff (by omega)) (by omega) (by omega)) _ _ _ (by omega) hw (lv_sub hl [3, 4, 5, 6, 1, 0] rfl)
                    · refine k_iconstN hm 1 dX7_distance_96 ?_
                      refine k_goto (tgt := 101) hm dX7_distance_97 (by decide) ?_
                      refine k_istore hm hl [(7, vN (1)), (0, .ref (D 0)), (1, vN (r)), (2, vB (g)), (3, vN (w r)), (4, vN (f)), (5, vN (i)), (6, vN (q))] (by decide) rfl dX7_distance_101 (fun ls hl => ?_)
                      refine k_iload hm hl 0 rfl dX7_distance_103 ?_
                      refine k_ifeq (tgt := 113) hm dX7_distance_105 (by decide) (by omega) (fun c_14 => absurd c_14 (by omega)) (fun c_14 => ?_)
                      refine k_iload hm hl 7 rfl dX7_distance_108 ?_
                      refine k_goto (tgt := 115) hm dX7_distance_110 (by decide) ?_
                      refine k_istore hm hl [(4, vN (q)), (7, vN (1)), (0, .ref (D 0)), (1, vN (r)), (2, vB (g)), (3, vN (w r)), (5, vN (i)), (6, vN (q))] (by decide) rfl dX7_distance_115 (fun ls hl => ?_)
                      refine k_iincN hm hl 6 1 rfl [(5, vN (i + 1)), (4, vN (q)), (7, vN (1)), (0, .ref (D 0)), (1, vN (r)), (2, vB (g)), (3, vN (w r)), (6, vN (q))] (by decide) rfl dX7_distance_117 (fun ls hl => ?_)
                      refine k_goto (tgt := 35) hm dX7_distance_120 (by decide) ?_
                      exact ih_35  q (i + 1) (by first | assumption | omega) (by first | assumption | omega) (dI_new hv (by omega) hnx (by rw [hg]; exact leG_ff (by omega))) _ _ _ (by omega) hw (lv_sub hl [3, 4, 5, 6, 1, 0] rfl)
                · refine k_iincN hm hl 6 1 rfl [(6, vN (q + 1)), (0, .ref (D 0)), (1, vN (r)), (2, vB (g)), (3, vN (w r)), (4, vN (f)), (5, vN (i))] (by decide) rfl dX7_distance_59 (fun ls hl => ?_)
                  refine k_goto (tgt := 44) hm dX7_distance_62 (by decide) ?_
                  exact ih_44  (q + 1) (by have : q ≠ j0 := (fun z => hj0.2.2 (by rw [← z]; omega)); omega) (fun j a b => by rcases Nat.lt_or_ge j q with z | z; exact hz j a z; rw [show j = q by omega]; omega) _ _ _ (by omega) hw (lv_sub hl [1, 2, 3, 4, 5, 6, 0] rfl)
            exact loop_44 (w r + 1 - 1 + 1) 1 (by first | assumption | omega) (fun j a b => absurd b (by omega)) _ _ _ (Nat.lt_succ_self _) hw (lv_sub hl [1, 2, 3, 4, 5, 6, 0] rfl)
      exact loop_35 (w r - 0 + 1) 120 0 (by first | assumption | omega) (by first | assumption | omega) (Or.inl ⟨fun j q => absurd q (by omega), by rw [hg]; rfl⟩) _ _ _ (Nat.lt_succ_self _) hw (lv_sub hl [3, 4, 5, 2, 1, 0] rfl)
    · have hg : g = true := c_4
      refine k_iconstN hm 0 dX7_distance_24 ?_
      refine k_goto (tgt := 30) hm dX7_distance_25 (by decide) ?_
      refine k_istore hm hl [(4, vN (0)), (3, vN (w r)), (0, .ref (D 0)), (1, vN (r)), (2, vB (g))] (by decide) rfl dX7_distance_30 (fun ls hl => ?_)
      have htw : tw (K r) (w r) := tw_of (by omega)
      refine k_iconstN hm 0 dX7_distance_32 ?_
      refine k_istore hm hl [(5, vN (0)), (4, vN (0)), (3, vN (w r)), (0, .ref (D 0)), (1, vN (r)), (2, vB (g))] (by decide) rfl dX7_distance_33 (fun ls hl => ?_)
      have loop_35 : ∀ (fu : Nat) (f : Nat) (i : Nat) (hi : i ≤ w r) (hf : f ≤ 120) (hv : dI (K r) (w r) g i f) (H : Heap) (locs : List Loc) (ls : Array Slot), w r - i < fu → kW G A s (wMod G D sa pa pn tx tn rf ro wk mb so kd nu it ti rd ad) H locs → lv_has ls 8 [(0, .ref (D 0)), (1, vN (r)), (2, vB (g)), (3, vN (w r)), (4, vN (f)), (5, vN (i))] → W p l e { frames := 2, cells := 0, slots := 0, locals := 46 } s m args below meth c H locs 0 0 Qz (F0 m 35 ls []) := by
        intro fu
        induction fu with
        | zero => intro f i hi hf hv H locs ls hfu; exact absurd hfu (Nat.not_lt_zero _)
        | succ fu ih_35 =>
          intro f i hi hf hv H locs ls hfu hw hl
          refine k_iload hm hl 5 rfl dX7_distance_35 ?_
          refine k_iload_n hm hl 3 rfl dX7_distance_37 ?_
          refine k_icmpge (tgt := 123) hm dX7_distance_38 (by decide) (by omega) (fun c_15 => ?_) (fun c_15 => ?_)
          · refine k_iload hm hl 4 rfl dX7_distance_123 ?_
            exact k_iret (post := _) hm hQ rfl rfl hw (⟨by rw [← dsF_of (dI_end hv (by omega) htw)], rfl⟩) (by omega) (by omega) dX7_distance_125
          · obtain ⟨j0, hj0⟩ := tw_nx htw (show i < w r by omega)
            refine k_iconstN hm 1 dX7_distance_41 ?_
            refine k_istore hm hl [(6, vN (1)), (0, .ref (D 0)), (1, vN (r)), (2, vB (g)), (3, vN (w r)), (4, vN (f)), (5, vN (i))] (by decide) rfl dX7_distance_42 (fun ls hl => ?_)
            have loop_44 : ∀ (fu : Nat) (q : Nat) (hq : 1 ≤ q ∧ q ≤ j0) (hz : ∀ j, 1 ≤ j → j < q → K r ((i + j) % w r) = 0) (H : Heap) (locs : List Loc) (ls : Array Slot), w r + 1 - q < fu → kW G A s (wMod G D sa pa pn tx tn rf ro wk mb so kd nu it ti rd ad) H locs → lv_has ls 8 [(0, .ref (D 0)), (1, vN (r)), (2, vB (g)), (3, vN (w r)), (4, vN (f)), (5, vN (i)), (6, vN (q))] → W p l e { frames := 2, cells := 0, slots := 0, locals := 46 } s m args below meth c H locs 0 0 Qz (F0 m 44 ls []) := by
              intro fu
              induction fu with
              | zero => intro q hq hz H locs ls hfu; exact absurd hfu (Nat.not_lt_zero _)
              | succ fu ih_44 =>
                intro q hq hz H locs ls hfu hw hl
                refine k_aload_n hm hl 0 rfl dX7_distance_44 ?_
                refine k_iload_n hm hl 1 rfl dX7_distance_45 ?_
                refine k_iload hm hl 5 rfl dX7_distance_46 ?_
                refine k_iload hm hl 6 rfl dX7_distance_48 ?_
                refine k_iaddN hm dX7_distance_50 ?_
                refine k_iload_n hm hl 3 rfl dX7_distance_51 ?_
                refine k_iremN hm (by omega) dX7_distance_52 ?_
                have hml := Nat.mod_lt (i + q) (show 0 < w r by omega)
                have hkq := hb.2.2 _ hml
                refine k_callVr (n := 2) (As := [vN (r), vN ((i + q) % (w r))]) (rest := []) hm hw hl (c_m_kindOf l G D sa pa pn tx tn rf ro wk mb so kd nu it ti rd ad R sp K w y r ((i + q) % (w r)) (by first | assumption | omega) (by first | assumption | omega) (by first | assumption | omega)) gX7_distance_X7_kindOf rfl (by decide +kernel) ⟨by decide, by decide⟩ (ci := 7) rfl 0 rfl [0, 1, 2, 3, 4, 5, 6, 7, 8] (by decide) rfl rfl rfl (by simp [Value.category]) ⟨by decide, by decide⟩ dX7_distance_53 (fun v H locs hp hw => ?_)
                obtain rfl := hp
                refine W.eq (g2 := F0 m 56 ls [vN (K r ((i + q) % (w r)))]) rfl ?_
                refine k_ifne (tgt := 65) hm dX7_distance_56 (by decide) (by omega) (fun c_17 => ?_) (fun c_17 => ?_)
                · have hnx : isNx (K r) (w r) i q := ⟨hq.1, by omega, hz⟩
                  have hki := hb.2.2 i (by omega)
                  refine k_aload_n hm hl 0 rfl dX7_distance_65 ?_
                  refine k_iload_n hm hl 1 rfl dX7_distance_66 ?_
                  refine k_iload hm hl 5 rfl dX7_distance_67 ?_
                  refine k_callVr (n := 2) (As := [vN (r), vN (i)]) (rest := []) hm hw hl (c_m_kindOf l G D sa pa pn tx tn rf ro wk mb so kd nu it ti rd ad R sp K w y r i (by first | assumption | omega) (by first | assumption | omega) (by first | assumption | omega)) gX7_distance_X7_kindOf rfl (by decide +kernel) ⟨by decide, by decide⟩ (ci := 7) rfl 0 rfl [0, 1, 2, 3, 4, 5, 6, 7, 8] (by decide) rfl rfl rfl (by simp [Value.category]) ⟨by decide, by decide⟩ dX7_distance_69 (fun v H locs hp hw => ?_)
                  obtain rfl := hp
                  refine W.eq (g2 := F0 m 72 ls [vN (K r i)]) rfl ?_
                  refine k_ifeq (tgt := 100) hm dX7_distance_72 (by decide) (by omega) (fun c_19 => ?_) (fun c_19 => ?_)
                  · refine k_iconstN hm 0 dX7_distance_100 ?_
                    refine k_istore hm hl [(7, vN (0)), (0, .ref (D 0)), (1, vN (r)), (2, vB (g)), (3, vN (w r)), (4, vN (f)), (5, vN (i)), (6, vN (q))] (by decide) rfl dX7_distance_101 (fun ls hl => ?_)
                    refine k_iload hm hl 0 rfl dX7_distance_103 ?_
                    refine k_ifeq (tgt := 113) hm dX7_distance_105 (by decide) (by omega) (fun c_20 => ?_) (fun c_20 => absurd c_20 (by omega))
                    refine k_iload hm hl 5 rfl dX7_distance_113 ?_
                    refine k_istore hm hl [(4, vN (f)), (7, vN (0)), (0, .ref (D 0)), (1, vN (r)), (2, vB (g)), (3, vN (w r)), (5, vN (i)), (6, vN (q))] (by decide) rfl dX7_distance_115 (fun ls hl => ?_)
                    refine k_iincN hm hl 6 1 rfl [(5, vN (i + 1)), (4, vN (f)), (7, vN (0)), (0, .ref (D 0)), (1, vN (r)), (2, vB (g)), (3, vN (w r)), (6, vN (q))] (by decide) rfl dX7_distance_117 (fun ls hl => ?_)
                    refine k_goto (tgt := 35) hm dX7_distance_120 (by decide) ?_
                    exact ih_35  f (i + 1) (by first | assumption | omega) (by first | assumption | omega) (dI_0 hv (by omega)) _ _ _ (by omega) hw (lv_sub hl [3, 4, 5, 6, 1, 0] rfl)
                  · refine k_iload_n hm hl 2 rfl dX7_distance_75 ?_
                    refine k_rwV (y := vB (true)) (by rw [hg]) ?_
                    refine k_ifeqB (tgt := 89) hm dX7_distance_76 (by decide) (fun c_21 => absurd c_21 (by decide)) (fun _ => ?_)
                    refine k_iload hm hl 6 rfl dX7_distance_79 ?_
                    refine k_iload hm hl 4 rfl dX7_distance_81 ?_
                    refine k_icmple (tgt := 100) hm dX7_distance_83 (by decide) (by omega) (fun c_22 => ?_) (fun c_22 => ?_)
                    · refine k_iconstN hm 0 dX7_distance_100 ?_
                      refine k_istore hm hl [(7, vN (0)), (0, .ref (D 0)), (1, vN (r)), (2, vB (g)), (3, vN (w r)), (4, vN (f)), (5, vN (i)), (6, vN (q))] (by decide) rfl dX7_distance_101 (fun ls hl => ?_)
                      refine k_iload hm hl 0 rfl dX7_distance_103 ?_
                      refine k_ifeq (tgt := 113) hm dX7_distance_105 (by decide) (by omega) (fun c_23 => ?_) (fun c_23 => absurd c_23 (by omega))
                      refine k_iload hm hl 5 rfl dX7_distance_113 ?_
                      refine k_istore hm hl [(4, vN (f)), (7, vN (0)), (0, .ref (D 0)), (1, vN (r)), (2, vB (g)), (3, vN (w r)), (5, vN (i)), (6, vN (q))] (by decide) rfl dX7_distance_115 (fun ls hl => ?_)
                      refine k_iincN hm hl 6 1 rfl [(5, vN (i + 1)), (4, vN (f)), (7, vN (0)), (0, .ref (D 0)), (1, vN (r)), (2, vB (g)), (3, vN (w r)), (6, vN (q))] (by decide) rfl dX7_distance_117 (fun ls hl => ?_)
                      refine k_goto (tgt := 35) hm dX7_distance_120 (by decide) ?_
                      exact ih_35  f (i + 1) (by first | assumption | omega) (by first | assumption | omega) (dI_keep hv (by omega) hnx (by rw [hg]; exact leG_tt (by omega)) (by omega) (by omega)) _ _ _ (by omega) hw (lv_sub hl [3, 4, 5, 6, 1, 0] rfl)
                    · refine k_goto (tgt := 96) hm dX7_distance_86 (by decide) ?_
                      refine k_iconstN hm 1 dX7_distance_96 ?_
                      refine k_goto (tgt := 101) hm dX7_distance_97 (by decide) ?_
                      refine k_istore hm hl [(7, vN (1)), (0, .ref (D 0)), (1, vN (r)), (2, vB (g)), (3, vN (w r)), (4, vN (f)), (5, vN (i)), (6, vN (q))] (by decide) rfl dX7_distance_101 (fun ls hl => ?_)
                      refine k_iload hm hl 0 rfl dX7_distance_103 ?_
                      refine k_ifeq (tgt := 113) hm dX7_distance_105 (by decide) (by omega) (fun c_24 => absurd c_24 (by omega)) (fun c_24 => ?_)
                      refine k_iload hm hl 7 rfl dX7_distance_108 ?_
                      refine k_goto (tgt := 115) hm dX7_distance_110 (by decide) ?_
                      refine k_istore hm hl [(4, vN (q)), (7, vN (1)), (0, .ref (D 0)), (1, vN (r)), (2, vB (g)), (3, vN (w r)), (5, vN (i)), (6, vN (q))] (by decide) rfl dX7_distance_115 (fun ls hl => ?_)
                      refine k_iincN hm hl 6 1 rfl [(5, vN (i + 1)), (4, vN (q)), (7, vN (1)), (0, .ref (D 0)), (1, vN (r)), (2, vB (g)), (3, vN (w r)), (6, vN (q))] (by decide) rfl dX7_distance_117 (fun ls hl => ?_)
                      refine k_goto (tgt := 35) hm dX7_distance_120 (by decide) ?_
                      exact ih_35  q (i + 1) (by first | assumption | omega) (by first | assumption | omega) (dI_new hv (by omega) hnx (by rw [hg]; exact leG_tt (by omega))) _ _ _ (by omega) hw (lv_sub hl [3, 4, 5, 6, 1, 0] rfl)
                · refine k_iincN hm hl 6 1 rfl [(6, vN (q + 1)), (0, .ref (D 0)), (1, vN (r)), (2, vB (g)), (3, vN (w r)), (4, vN (f)), (5, vN (i))] (by decide) rfl dX7_distance_59 (fun ls hl => ?_)
                  refine k_goto (tgt := 44) hm dX7_distance_62 (by decide) ?_
                  exact ih_44  (q + 1) (by have : q ≠ j0 := (fun z => hj0.2.2 (by rw [← z]; omega)); omega) (fun j a b => by rcases Nat.lt_or_ge j q with z | z; exact hz j a z; rw [show j = q by omega]; omega) _ _ _ (by omega) hw (lv_sub hl [1, 2, 3, 4, 5, 6, 0] rfl)
            exact loop_44 (w r + 1 - 1 + 1) 1 (by first | assumption | omega) (fun j a b => absurd b (by omega)) _ _ _ (Nat.lt_succ_self _) hw (lv_sub hl [1, 2, 3, 4, 5, 6, 0] rfl)
      exact loop_35 (w r - 0 + 1) 0 0 (by first | assumption | omega) (by first | assumption | omega) (Or.inl ⟨fun j q => absurd q (by omega), by rw [hg]; rfl⟩) _ _ _ (Nat.lt_succ_self _) hw (lv_sub hl [3, 4, 5, 2, 1, 0] rfl)
  · refine k_iconstN hm 0 dX7_distance_18 ?_
    exact k_iret (post := _) hm hQ rfl rfl hw (⟨by rw [← dsF_of (d := 0) ⟨fun z => absurd (of_tw z) (by omega), fun _ => rfl⟩], rfl⟩) (by omega) (by omega) dX7_distance_19
