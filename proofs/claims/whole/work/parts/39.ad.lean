set_option maxHeartbeats 4000000 in
set_option maxRecDepth 100000 in
theorem c_m_addShifted_ok (l : Launch) (G : kG) (D : Nat → Nat) (sa : Nat → Int64) (pa : Nat → Int64) (pn : Nat) (tx : Nat → Nat) (tn : Nat) (rf : Nat) (ro : Nat → Nat) (wk : Nat) (mb : Nat → Nat) (so : Nat) (kd : Nat → Nat) (nu : Nat → Nat) (it : Nat) (ti : Nat) (rd : Nat) (ad : Nat → Int64) (R : Nat) (sp : Bool) (K : Nat → Nat → Nat) (w : Nat → Nat) (y : Nat → Nat) (sv : Nat → PSt) (t : Nat) (x : Nat) (hmo : MOk sa R sp K w y) (hpa : PaOk pa pn sv) (hR40 : R < 40) (ht : 3 ≤ t ∧ t ≤ 120) (hpo : isPo (sumM (K (R - 1)) (w (R - 1))) t) (hx : x < 120) : kCM l yX7_addShifted wsX7_addShifted 4 87 0 0 G [.ref (D 0), vN (t), vN (x)] (wMod G D sa pa pn tx tn rf ro wk mb so kd nu it ti rd ad) (fun vv uu => ∃ (sa2 : Nat → Int64), ∃ (pa2 : Nat → Int64), ∃ (ro2 : Nat → Nat), ∃ (wk2 : Nat), ∃ (mb2 : Nat → Nat), vv = some (vN (stkC (K (R - 1)) (w (R - 1)) (sumM (K (R - 1)) (w (R - 1))) t x)) ∧ uu = wMod G D sa2 pa2 (Nat.min (pn + 1) 4) tx tn 0 ro2 wk2 mb2 so kd nu it ti rd ad ∧ (MOk sa2 (R + 1) sp (fup K R (spR (sumM (K (R - 1)) (w (R - 1))) t x)) (fup w R (pm (sumM (K (R - 1)) (w (R - 1))) t)) y) ∧ (PaOk pa2 (Nat.min (pn + 1) 4) (svPush (R, sp, K, w, y) sv))) := by
  refine kCM.of (cc := cX7_addShifted) (maxL := 4) (ret := (some .int)) (by decide) rfl (Nat.le_of_ble_eq_true rfl) ?_
  intro p e s m args below meth c A ls Qz hQ hin hm hw hl
  have hl : lv_has ls 4 [(0, .ref (D 0)), (1, vN (t)), (2, vN (x))] := hl
  have hR := hmo.1.1
  have hll := PVd_last hmo.1
  have hpm : 3 ≤ pm (sumM (K (R - 1)) (w (R - 1))) t ∧ pm (sumM (K (R - 1)) (w (R - 1))) t ≤ 120 := by unfold pm; split <;> omega
  refine k_aload_n hm hl 0 rfl dX7_addShifted_0 ?_
  refine k_aload_n hm hl 0 rfl dX7_addShifted_1 ?_
  refine k_iload_n hm hl 2 rfl dX7_addShifted_2 ?_
  refine k_iconstN hm 0 dX7_addShifted_3 ?_
  refine k_bipushN hm 119 dX7_addShifted_4 rfl ?_
  refine k_callSr (n := 3) (As := [vN (x), vN (0), vN (119)]) (rest := [.ref (D 0), .ref (D 0)]) hm hw hl (c_m_in l G ((x : Nat) : Int) ((0 : Nat) : Int) ((119 : Nat) : Int) (by first | assumption | omega)) gX7_addShifted_X7_in rfl (by decide +kernel) ⟨by decide, by decide⟩ [] (by decide) rfl rfl rfl (by simp [Value.category]) ⟨by decide, by decide⟩ dX7_addShifted_6 (fun v H locs hp hw => ?_)
  obtain rfl := hp
  refine W.eq (g2 := F0 m 9 ls [vB (decide (((0 : Nat) : Int) ≤ ((x : Nat) : Int) ∧ ((x : Nat) : Int) ≤ ((119 : Nat) : Int))), .ref (D 0), .ref (D 0)]) rfl ?_
  refine k_rwV (y := vB (true)) (congrArg vB (decide_eq_true (by omega))) ?_
  refine k_iload_n hm hl 1 rfl dX7_addShifted_9 ?_
  refine k_callVr (n := 2) (As := [vB (true), vN (t)]) (rest := [.ref (D 0)]) hm hw hl (c_m_whyNot_0 l G D sa pa pn tx tn rf ro wk mb so kd nu it ti rd ad R sp K w y t (by first | assumption | omega) (by first | assumption | omega) (by first | assumption | omega) (by first | assumption | omega)) gX7_addShifted_X7_whyNot rfl (by decide +kernel) ⟨by decide, by decide⟩ (ci := 7) rfl 0 rfl [0, 1, 2, 3, 4, 5, 6, 7, 8] (by decide) rfl rfl rfl (by simp [Value.category]) ⟨by decide, by decide⟩ dX7_addShifted_10 (fun v H locs hp hw => ?_)
  obtain rfl := hp
  refine W.eq (g2 := F0 m 13 ls [vN (0), .ref (D 0)]) rfl ?_
  refine k_callV (n := 1) (As := [vN (0)]) (rest := []) (wr := []) hm hw hl (c_m_throwsAt l G D sa pa pn tx tn rf ro wk mb so kd nu it ti rd ad 0 (by first | assumption | omega)) gX7_addShifted_X7_throwsAt rfl (by decide +kernel) ⟨by decide, by decide⟩ (ci := 7) rfl 0 rfl [0, 1, 2, 3, 4, 5, 6, 7, 8] [] (by decide) rfl rfl (by decide) (by decide) rfl rfl (by simp [Value.category]) ⟨by decide, by decide⟩ dX7_addShifted_13 (fun v w1 H locs hp hw => ?_)
  obtain ⟨rfl, rfl⟩ := hp
  have hw := hw.sub (ws' := wMod G D sa pa pn tx tn 0 ro wk mb so kd nu it ti rd ad) [0, 1, 2, 3, 4, 5, 6, 7, 8] (by decide) rfl
  refine W.eq (g2 := F0 m 16 ls [vB (decide (0 < 0))]) rfl ?_
  refine k_ifeqB (tgt := 21) hm dX7_addShifted_16 (by decide) (fun c_4 => ?_) (fun c_4 => absurd (of_decide_eq_true c_4) (by omega))
  refine k_aload_n hm hl 0 rfl dX7_addShifted_21 ?_
  refine k_callV (n := 0) (As := []) (rest := []) (wr := []) hm hw hl (c_m_saves l G D sa pa pn tx tn 0 ro wk mb so kd nu it ti rd ad R sp K w y sv (by first | assumption | omega) (by first | assumption | omega)) gX7_addShifted_X7_saves rfl (by decide +kernel) ⟨by decide, by decide⟩ (ci := 7) rfl 0 rfl [0, 1, 2, 3, 4, 5, 6, 7, 8] [] (by decide) rfl rfl (by decide) (by decide) rfl rfl (by simp [Value.category]) ⟨by decide, by decide⟩ dX7_addShifted_22 (fun v w1 H locs hp hw => ?_)
  obtain ⟨pa2_6, rfl, rfl, hpa2_7⟩ := hp
  have hw := hw.sub (ws' := wMod G D sa pa2_6 (Nat.min (pn + 1) 4) tx tn 0 ro wk mb so kd nu it ti rd ad) [0, 1, 2, 3, 4, 5, 6, 7, 8] (by decide) rfl
  refine W.eq (g2 := F0 m 25 ls []) rfl ?_
  have hpa9 := hpa2_7
  refine k_aload_n hm hl 0 rfl dX7_addShifted_25 ?_
  refine k_callVr (n := 0) (As := []) (rest := []) hm hw hl (c_m_last l G D sa pa2_6 (Nat.min (pn + 1) 4) tx tn 0 ro wk mb so kd nu it ti rd ad R sp K w y (by first | assumption | omega)) gX7_addShifted_X7_last rfl (by decide +kernel) ⟨by decide, by decide⟩ (ci := 7) rfl 0 rfl [0, 1, 2, 3, 4, 5, 6, 7, 8] (by decide) rfl rfl rfl (by simp [Value.category]) ⟨by decide, by decide⟩ dX7_addShifted_26 (fun v H locs hp hw => ?_)
  obtain rfl := hp
  refine W.eq (g2 := F0 m 29 ls [vN (sumM (K (R - 1)) (w (R - 1)))]) rfl ?_
  refine k_istore_n hm hl [(3, vN (sumM (K (R - 1)) (w (R - 1)))), (0, .ref (D 0)), (1, vN (t)), (2, vN (x))] (by decide) rfl dX7_addShifted_29 (fun ls hl => ?_)
  refine k_aload_n hm hl 1 rfl dX7_addShifted_30 ?_
  refine k_iload_n hm hl 2 rfl dX7_addShifted_31 ?_
  refine k_iload_n hm hl 3 rfl dX7_addShifted_32 ?_
  refine k_iload_n hm hl 2 rfl dX7_addShifted_33 ?_
  refine k_iload_n hm hl 0 rfl dX7_addShifted_34 ?_
  refine k_icmplt (tgt := 42) hm dX7_addShifted_35 (by decide) (by omega) (fun c_9 => ?_) (fun c_9 => ?_)
  · refine k_iload_n hm hl 2 rfl dX7_addShifted_42 ?_
    refine k_rwV (y := vN (pm (sumM (K (R - 1)) (w (R - 1))) t)) (by unfold pm; rw [if_neg (by omega)]) ?_
    have hml := Nat.mod_lt x (show 0 < pm (sumM (K (R - 1)) (w (R - 1))) t by omega)
    refine k_iremN hm (by omega) dX7_addShifted_43 ?_
    refine k_callV (n := 2) (As := [vN (t), vN (x % (pm (sumM (K (R - 1)) (w (R - 1))) t))]) (rest := []) (wr := []) hm hw hl (c_m_addsBest l G D sa pa2_6 (Nat.min (pn + 1) 4) tx tn 0 ro wk mb so kd nu it ti rd ad R sp K w y t (x % (pm (sumM (K (R - 1)) (w (R - 1))) t)) (by first | assumption | omega) (by first | assumption | omega) (by first | assumption | omega) (by first | assumption | omega) (by omega)) gX7_addShifted_X7_addsBest rfl (by decide +kernel) ⟨by decide, by decide⟩ (ci := 7) rfl 0 rfl [0, 1, 2, 3, 4, 5, 6, 7, 8] [] (by decide) rfl rfl (by decide) (by decide) rfl rfl (by simp [Value.category]) ⟨by decide, by decide⟩ dX7_addShifted_44 (fun v w1 H locs hp hw => ?_)
    obtain ⟨sa2_11, ro2_12, wk2_13, rfl, rfl, hmo2_14⟩ := hp
    have hw := hw.sub (ws' := wMod G D sa2_11 pa2_6 (Nat.min (pn + 1) 4) tx tn 0 ro2_12 wk2_13 mb so kd nu it ti rd ad) [0, 1, 2, 3, 4, 5, 6, 7, 8] (by decide) rfl
    refine W.eq (g2 := F0 m 47 ls []) rfl ?_
    have hmo9 := hmo2_14
    rw [show spR (sumM (K (R - 1)) (w (R - 1))) t (x % pm (sumM (K (R - 1)) (w (R - 1))) t) = spR (sumM (K (R - 1)) (w (R - 1))) t x from funext (fun i => by unfold spR; rw [Nat.add_mod_mod])] at hmo9
    refine k_aload_n hm hl 1 rfl dX7_addShifted_47 ?_
    refine k_aload_n hm hl 1 rfl dX7_addShifted_48 ?_
    refine k_callVr (n := 0) (As := []) (rest := [.ref (D 0)]) hm hw hl (c_m_rounds l G D sa2_11 pa2_6 (Nat.min (pn + 1) 4) tx tn 0 ro2_12 wk2_13 mb so kd nu it ti rd ad (R + 1) sp (fup K R (spR (sumM (K (R - 1)) (w (R - 1))) t x)) (fup w R (pm (sumM (K (R - 1)) (w (R - 1))) t)) y hmo9) gX7_addShifted_X7_rounds rfl (by decide +kernel) ⟨by decide, by decide⟩ (ci := 7) rfl 0 rfl [0, 1, 2, 3, 4, 5, 6, 7, 8] (by decide) rfl rfl rfl (by simp [Value.category]) ⟨by decide, by decide⟩ dX7_addShifted_49 (fun v H locs hp hw => ?_)
    obtain rfl := hp
    refine W.eq (g2 := F0 m 52 ls [vN (R + 1), .ref (D 0)]) rfl ?_
    refine k_iconstN hm 1 dX7_addShifted_52 ?_
    refine k_isubN hm (by omega) dX7_addShifted_53 ?_
    refine k_callV (n := 1) (As := [vN ((R + 1) - 1)]) (rest := []) (wr := []) hm hw hl (c_m_stackedOf l G D sa2_11 pa2_6 (Nat.min (pn + 1) 4) tx tn 0 ro2_12 wk2_13 mb so kd nu it ti rd ad (R + 1) sp (fup K R (spR (sumM (K (R - 1)) (w (R - 1))) t x)) (fup w R (pm (sumM (K (R - 1)) (w (R - 1))) t)) y ((R + 1) - 1) hmo9 (by omega)) gX7_addShifted_X7_stackedOf rfl (by decide +kernel) ⟨by decide, by decide⟩ (ci := 7) rfl 0 rfl [0, 1, 2, 3, 4, 5, 6, 7, 8] [] (by decide) rfl rfl (by decide) (by decide) rfl rfl (by simp [Value.category]) ⟨by decide, by decide⟩ dX7_addShifted_54 (fun v w1 H locs hp hw => ?_)
    obtain ⟨ro2_17, wk2_18, mb2_19, rfl, rfl⟩ := hp
    have hw := hw.sub (ws' := wMod G D sa2_11 pa2_6 (Nat.min (pn + 1) 4) tx tn 0 ro2_17 wk2_18 mb2_19 so kd nu it ti rd ad) [0, 1, 2, 3, 4, 5, 6, 7, 8] (by decide) rfl
    refine W.eq (g2 := F0 m 57 ls [vN (stkP (fup K R (spR (sumM (K (R - 1)) (w (R - 1))) t x)) (fup w R (pm (sumM (K (R - 1)) (w (R - 1))) t)) ((R + 1) - 1))]) rfl ?_
    exact k_iret (post := _) hm hQ rfl rfl hw (⟨_, _, _, _, _, by rw [show R + 1 - 1 = R by omega]; unfold stkP stkC; rw [if_neg (by omega), fup_s, fup_s, fup_n (by omega), fup_n (by omega)], rfl, hmo9, hpa9⟩) (by omega) (by omega) dX7_addShifted_57
  · refine k_iload_n hm hl 0 rfl dX7_addShifted_38 ?_
    refine k_goto (tgt := 43) hm dX7_addShifted_39 (by decide) ?_
    refine k_rwV (y := vN (pm (sumM (K (R - 1)) (w (R - 1))) t)) (by unfold pm; rw [if_pos (by omega)]) ?_
    have hml := Nat.mod_lt x (show 0 < pm (sumM (K (R - 1)) (w (R - 1))) t by omega)
    refine k_iremN hm (by omega) dX7_addShifted_43 ?_
    refine k_callV (n := 2) (As := [vN (t), vN (x % (pm (sumM (K (R - 1)) (w (R - 1))) t))]) (rest := []) (wr := []) hm hw hl (c_m_addsBest l G D sa pa2_6 (Nat.min (pn + 1) 4) tx tn 0 ro wk mb so kd nu it ti rd ad R sp K w y t (x % (pm (sumM (K (R - 1)) (w (R - 1))) t)) (by first | assumption | omega) (by first | assumption | omega) (by first | assumption | omega) (by first | assumption | omega) (by omega)) gX7_addShifted_X7_addsBest rfl (by decide +kernel) ⟨by decide, by decide⟩ (ci := 7) rfl 0 rfl [0, 1, 2, 3, 4, 5, 6, 7, 8] [] (by decide) rfl rfl (by decide) (by decide) rfl rfl (by simp [Value.category]) ⟨by decide, by decide⟩ dX7_addShifted_44 (fun v w1 H locs hp hw => ?_)
    obtain ⟨sa2_21, ro2_22, wk2_23, rfl, rfl, hmo2_24⟩ := hp
    have hw := hw.sub (ws' := wMod G D sa2_21 pa2_6 (Nat.min (pn + 1) 4) tx tn 0 ro2_22 wk2_23 mb so kd nu it ti rd ad) [0, 1, 2, 3, 4, 5, 6, 7, 8] (by decide) rfl
    refine W.eq (g2 := F0 m 47 ls []) rfl ?_
    have hmo9 := hmo2_24
    rw [show spR (sumM (K (R - 1)) (w (R - 1))) t (x % pm (sumM (K (R - 1)) (w (R - 1))) t) = spR (sumM (K (R - 1)) (w (R - 1))) t x from funext (fun i => by unfold spR; rw [Nat.add_mod_mod])] at hmo9
    refine k_aload_n hm hl 1 rfl dX7_addShifted_47 ?_
    refine k_aload_n hm hl 1 rfl dX7_addShifted_48 ?_
    refine k_callVr (n := 0) (As := []) (rest := [.ref (D 0)]) hm hw hl (c_m_rounds l G D sa2_21 pa2_6 (Nat.min (pn + 1) 4) tx tn 0 ro2_22 wk2_23 mb so kd nu it ti rd ad (R + 1) sp (fup K R (spR (sumM (K (R - 1)) (w (R - 1))) t x)) (fup w R (pm (sumM (K (R - 1)) (w (R - 1))) t)) y hmo9) gX7_addShifted_X7_rounds rfl (by decide +kernel) ⟨by decide, by decide⟩ (ci := 7) rfl 0 rfl [0, 1, 2, 3, 4, 5, 6, 7, 8] (by decide) rfl rfl rfl (by simp [Value.category]) ⟨by decide, by decide⟩ dX7_addShifted_49 (fun v H locs hp hw => ?_)
    obtain rfl := hp
    refine W.eq (g2 := F0 m 52 ls [vN (R + 1), .ref (D 0)]) rfl ?_
    refine k_iconstN hm 1 dX7_addShifted_52 ?_
    refine k_isubN hm (by omega) dX7_addShifted_53 ?_
    refine k_callV (n := 1) (As := [vN ((R + 1) - 1)]) (rest := []) (wr := []) hm hw hl (c_m_stackedOf l G D sa2_21 pa2_6 (Nat.min (pn + 1) 4) tx tn 0 ro2_22 wk2_23 mb so kd nu it ti rd ad (R + 1) sp (fup K R (spR (sumM (K (R - 1)) (w (R - 1))) t x)) (fup w R (pm (sumM (K (R - 1)) (w (R - 1))) t)) y ((R + 1) - 1) hmo9 (by omega)) gX7_addShifted_X7_stackedOf rfl (by decide +kernel) ⟨by decide, by decide⟩ (ci := 7) rfl 0 rfl [0, 1, 2, 3, 4, 5, 6, 7, 8] [] (by decide) rfl rfl (by decide) (by decide) rfl rfl (by simp [Value.category]) ⟨by decide, by decide⟩ dX7_addShifted_54 (fun v w1 H locs hp hw => ?_)
    obtain ⟨ro2_27, wk2_28, mb2_29, rfl, rfl⟩ := hp
    have hw := hw.sub (ws' := wMod G D sa2_21 pa2_6 (Nat.min (pn + 1) 4) tx tn 0 ro2_27 wk2_28 mb2_29 so kd nu it ti rd ad) [0, 1, 2, 3, 4, 5, 6, 7, 8] (by decide) rfl
    refine W.eq (g2 := F0 m 57 ls [vN (stkP (fup K R (spR (sumM (K (R - 1)) (w (R - 1))) t x)) (fup w R (pm (sumM (K (R - 1)) (w (R - 1))) t)) ((R + 1) - 1))]) rfl ?_
    exact k_iret (post := _) hm hQ rfl rfl hw (⟨_, _, _, _, _, by rw [show R + 1 - 1 = R by omega]; unfold stkP stkC; rw [if_neg (by omega), fup_s, fup_s, fup_n (by omega), fup_n (by omega)], rfl, hmo9, hpa9⟩) (by omega) (by omega) dX7_addShifted_57
set_option maxHeartbeats 4000000 in
set_option maxRecDepth 100000 in
theorem c_m_addShifted_xb (l : Launch) (G : kG) (D : Nat → Nat) (sa : Nat → Int64) (pa : Nat → Int64) (pn : Nat) (tx : Nat → Nat) (tn : Nat) (rf : Nat) (ro : Nat → Nat) (wk : Nat) (mb : Nat → Nat) (so : Nat) (kd : Nat → Nat) (nu : Nat → Nat) (it : Nat) (ti : Nat) (rd : Nat) (ad : Nat → Int64) (R : Nat) (sp : Bool) (K : Nat → Nat → Nat) (w : Nat → Nat) (y : Nat → Nat) (z : Int) (v : Int) (hmo : MOk sa R sp K w y) (hz : (-2147483648 ≤ v ∧ v < 2147483648) ∧ ¬ (0 ≤ v ∧ v < 120)) : kCM l yX7_addShifted wsX7_addShifted 4 87 0 0 G [.ref (D 0), vZ (z), vZ (v)] (wMod G D sa pa pn tx tn rf ro wk mb so kd nu it ti rd ad) (fun vv uu => vv = some (vN (0)) ∧ uu = wMod G D sa pa pn tx tn 1 ro wk mb so kd nu it ti rd ad) := by
  refine kCM.of (cc := cX7_addShifted) (maxL := 4) (ret := (some .int)) (by decide) rfl (Nat.le_of_ble_eq_true rfl) ?_
  intro p e s m args below meth c A ls Qz hQ hin hm hw hl
  have hl : lv_has ls 4 [(0, .ref (D 0)), (1, vZ (z)), (2, vZ (v))] := hl
  refine k_aload_n hm hl 0 rfl dX7_addShifted_0 ?_
  refine k_aload_n hm hl 0 rfl dX7_addShifted_1 ?_
  refine k_iload_n hm hl 2 rfl dX7_addShifted_2 ?_
  refine k_iconstN hm 0 dX7_addShifted_3 ?_
  refine k_bipushN hm 119 dX7_addShifted_4 rfl ?_
  refine k_callSr (n := 3) (As := [vZ (v), vN (0), vN (119)]) (rest := [.ref (D 0), .ref (D 0)]) hm hw hl (c_m_in l G v ((0 : Nat) : Int) ((119 : Nat) : Int) (by first | assumption | omega)) gX7_addShifted_X7_in rfl (by decide +kernel) ⟨by decide, by decide⟩ [] (by decide) rfl rfl rfl (by simp [Value.category]) ⟨by decide, by decide⟩ dX7_addShifted_6 (fun v H locs hp hw => ?_)
  obtain rfl := hp
  refine W.eq (g2 := F0 m 9 ls [vB (decide (((0 : Nat) : Int) ≤ v ∧ v ≤ ((119 : Nat) : Int))), .ref (D 0), .ref (D 0)]) rfl ?_
  refine k_rwV (y := vB (false)) (congrArg vB (decide_eq_false (by omega))) ?_
  refine k_iload_n hm hl 1 rfl dX7_addShifted_9 ?_
  refine k_callVr (n := 2) (As := [vB (false), vZ (z)]) (rest := [.ref (D 0)]) hm hw hl (c_m_whyNot_b l G D sa pa pn tx tn rf ro wk mb so kd nu it ti rd ad R sp K w y z (by first | assumption | omega)) gX7_addShifted_X7_whyNot rfl (by decide +kernel) ⟨by decide, by decide⟩ (ci := 7) rfl 0 rfl [0, 1, 2, 3, 4, 5, 6, 7, 8] (by decide) rfl rfl rfl (by simp [Value.category]) ⟨by decide, by decide⟩ dX7_addShifted_10 (fun v H locs hp hw => ?_)
  obtain rfl := hp
  refine W.eq (g2 := F0 m 13 ls [vN (1), .ref (D 0)]) rfl ?_
  refine k_callV (n := 1) (As := [vN (1)]) (rest := []) (wr := []) hm hw hl (c_m_throwsAt l G D sa pa pn tx tn rf ro wk mb so kd nu it ti rd ad 1 (by first | assumption | omega)) gX7_addShifted_X7_throwsAt rfl (by decide +kernel) ⟨by decide, by decide⟩ (ci := 7) rfl 0 rfl [0, 1, 2, 3, 4, 5, 6, 7, 8] [] (by decide) rfl rfl (by decide) (by decide) rfl rfl (by simp [Value.category]) ⟨by decide, by decide⟩ dX7_addShifted_13 (fun v w1 H locs hp hw => ?_)
  obtain ⟨rfl, rfl⟩ := hp
  have hw := hw.sub (ws' := wMod G D sa pa pn tx tn 1 ro wk mb so kd nu it ti rd ad) [0, 1, 2, 3, 4, 5, 6, 7, 8] (by decide) rfl
  refine W.eq (g2 := F0 m 16 ls [vB (decide (0 < 1))]) rfl ?_
  refine k_ifeqB (tgt := 21) hm dX7_addShifted_16 (by decide) (fun c_4 => absurd (of_decide_eq_false c_4) (by omega)) (fun c_4 => ?_)
  refine k_iconstN hm 0 dX7_addShifted_19 ?_
  exact k_iret (post := _) hm hQ rfl rfl hw (⟨rfl, rfl⟩) (by omega) (by omega) dX7_addShifted_20
set_option maxHeartbeats 4000000 in
set_option maxRecDepth 100000 in
theorem c_m_addShifted_x1 (l : Launch) (G : kG) (D : Nat → Nat) (sa : Nat → Int64) (pa : Nat → Int64) (pn : Nat) (tx : Nat → Nat) (tn : Nat) (rf : Nat) (ro : Nat → Nat) (wk : Nat) (mb : Nat → Nat) (so : Nat) (kd : Nat → Nat) (nu : Nat → Nat) (it : Nat) (ti : Nat) (rd : Nat) (ad : Nat → Int64) (R : Nat) (sp : Bool) (K : Nat → Nat → Nat) (w : Nat → Nat) (y : Nat → Nat) (z : Int) (x : Nat) (hmo : MOk sa R sp K w y) (hx : x < 120) (hz : (-2147483648 ≤ z ∧ z < 2147483648) ∧ ¬ (3 ≤ z ∧ z ≤ 120)) : kCM l yX7_addShifted wsX7_addShifted 4 87 0 0 G [.ref (D 0), vZ (z), vN (x)] (wMod G D sa pa pn tx tn rf ro wk mb so kd nu it ti rd ad) (fun vv uu => vv = some (vN (0)) ∧ uu = wMod G D sa pa pn tx tn 1 ro wk mb so kd nu it ti rd ad) := by
  refine kCM.of (cc := cX7_addShifted) (maxL := 4) (ret := (some .int)) (by decide) rfl (Nat.le_of_ble_eq_true rfl) ?_
  intro p e s m args below meth c A ls Qz hQ hin hm hw hl
  have hl : lv_has ls 4 [(0, .ref (D 0)), (1, vZ (z)), (2, vN (x))] := hl
  refine k_aload_n hm hl 0 rfl dX7_addShifted_0 ?_
  refine k_aload_n hm hl 0 rfl dX7_addShifted_1 ?_
  refine k_iload_n hm hl 2 rfl dX7_addShifted_2 ?_
  refine k_iconstN hm 0 dX7_addShifted_3 ?_
  refine k_bipushN hm 119 dX7_addShifted_4 rfl ?_
  refine k_callSr (n := 3) (As := [vN (x), vN (0), vN (119)]) (rest := [.ref (D 0), .ref (D 0)]) hm hw hl (c_m_in l G ((x : Nat) : Int) ((0 : Nat) : Int) ((119 : Nat) : Int) (by first | assumption | omega)) gX7_addShifted_X7_in rfl (by decide +kernel) ⟨by decide, by decide⟩ [] (by decide) rfl rfl rfl (by simp [Value.category]) ⟨by decide, by decide⟩ dX7_addShifted_6 (fun v H locs hp hw => ?_)
  obtain rfl := hp
  refine W.eq (g2 := F0 m 9 ls [vB (decide (((0 : Nat) : Int) ≤ ((x : Nat) : Int) ∧ ((x : Nat) : Int) ≤ ((119 : Nat) : Int))), .ref (D 0), .ref (D 0)]) rfl ?_
  refine k_rwV (y := vB (true)) (congrArg vB (decide_eq_true (by omega))) ?_
  refine k_iload_n hm hl 1 rfl dX7_addShifted_9 ?_
  refine k_callVr (n := 2) (As := [vB (true), vZ (z)]) (rest := [.ref (D 0)]) hm hw hl (c_m_whyNot_1 l G D sa pa pn tx tn rf ro wk mb so kd nu it ti rd ad R sp K w y z (by first | assumption | omega) (by first | assumption | omega)) gX7_addShifted_X7_whyNot rfl (by decide +kernel) ⟨by decide, by decide⟩ (ci := 7) rfl 0 rfl [0, 1, 2, 3, 4, 5, 6, 7, 8] (by decide) rfl rfl rfl (by simp [Value.category]) ⟨by decide, by decide⟩ dX7_addShifted_10 (fun v H locs hp hw => ?_)
  obtain rfl := hp
  refine W.eq (g2 := F0 m 13 ls [vN (1), .ref (D 0)]) rfl ?_
  refine k_callV (n := 1) (As := [vN (1)]) (rest := []) (wr := []) hm hw hl (c_m_throwsAt l G D sa pa pn tx tn rf ro wk mb so kd nu it ti rd ad 1 (by first | assumption | omega)) gX7_addShifted_X7_throwsAt rfl (by decide +kernel) ⟨by decide, by decide⟩ (ci := 7) rfl 0 rfl [0, 1, 2, 3, 4, 5, 6, 7, 8] [] (by decide) rfl rfl (by decide) (by decide) rfl rfl (by simp [Value.category]) ⟨by decide, by decide⟩ dX7_addShifted_13 (fun v w1 H locs hp hw => ?_)
  obtain ⟨rfl, rfl⟩ := hp
  have hw := hw.sub (ws' := wMod G D sa pa pn tx tn 1 ro wk mb so kd nu it ti rd ad) [0, 1, 2, 3, 4, 5, 6, 7, 8] (by decide) rfl
  refine W.eq (g2 := F0 m 16 ls [vB (decide (0 < 1))]) rfl ?_
  refine k_ifeqB (tgt := 21) hm dX7_addShifted_16 (by decide) (fun c_4 => absurd (of_decide_eq_false c_4) (by omega)) (fun c_4 => ?_)
  refine k_iconstN hm 0 dX7_addShifted_19 ?_
  exact k_iret (post := _) hm hQ rfl rfl hw (⟨rfl, rfl⟩) (by omega) (by omega) dX7_addShifted_20
set_option maxHeartbeats 4000000 in
set_option maxRecDepth 100000 in
theorem c_m_addShifted_x2 (l : Launch) (G : kG) (D : Nat → Nat) (sa : Nat → Int64) (pa : Nat → Int64) (pn : Nat) (tx : Nat → Nat) (tn : Nat) (rf : Nat) (ro : Nat → Nat) (wk : Nat) (mb : Nat → Nat) (so : Nat) (kd : Nat → Nat) (nu : Nat → Nat) (it : Nat) (ti : Nat) (rd : Nat) (ad : Nat → Int64) (R : Nat) (sp : Bool) (K : Nat → Nat → Nat) (w : Nat → Nat) (y : Nat → Nat) (t : Nat) (x : Nat) (hmo : MOk sa R sp K w y) (hx : x < 120) (ht : 3 ≤ t ∧ t ≤ 120) (h40 : R = 40) : kCM l yX7_addShifted wsX7_addShifted 4 87 0 0 G [.ref (D 0), vN (t), vN (x)] (wMod G D sa pa pn tx tn rf ro wk mb so kd nu it ti rd ad) (fun vv uu => vv = some (vN (0)) ∧ uu = wMod G D sa pa pn tx tn 2 ro wk mb so kd nu it ti rd ad) := by
  refine kCM.of (cc := cX7_addShifted) (maxL := 4) (ret := (some .int)) (by decide) rfl (Nat.le_of_ble_eq_true rfl) ?_
  intro p e s m args below meth c A ls Qz hQ hin hm hw hl
  have hl : lv_has ls 4 [(0, .ref (D 0)), (1, vN (t)), (2, vN (x))] := hl
  refine k_aload_n hm hl 0 rfl dX7_addShifted_0 ?_
  refine k_aload_n hm hl 0 rfl dX7_addShifted_1 ?_
  refine k_iload_n hm hl 2 rfl dX7_addShifted_2 ?_
  refine k_iconstN hm 0 dX7_addShifted_3 ?_
  refine k_bipushN hm 119 dX7_addShifted_4 rfl ?_
  refine k_callSr (n := 3) (As := [vN (x), vN (0), vN (119)]) (rest := [.ref (D 0), .ref (D 0)]) hm hw hl (c_m_in l G ((x : Nat) : Int) ((0 : Nat) : Int) ((119 : Nat) : Int) (by first | assumption | omega)) gX7_addShifted_X7_in rfl (by decide +kernel) ⟨by decide, by decide⟩ [] (by decide) rfl rfl rfl (by simp [Value.category]) ⟨by decide, by decide⟩ dX7_addShifted_6 (fun v H locs hp hw => ?_)
  obtain rfl := hp
  refine W.eq (g2 := F0 m 9 ls [vB (decide (((0 : Nat) : Int) ≤ ((x : Nat) : Int) ∧ ((x : Nat) : Int) ≤ ((119 : Nat) : Int))), .ref (D 0), .ref (D 0)]) rfl ?_
  refine k_rwV (y := vB (true)) (congrArg vB (decide_eq_true (by omega))) ?_
  refine k_iload_n hm hl 1 rfl dX7_addShifted_9 ?_
  refine k_callVr (n := 2) (As := [vB (true), vN (t)]) (rest := [.ref (D 0)]) hm hw hl (c_m_whyNot_2 l G D sa pa pn tx tn rf ro wk mb so kd nu it ti rd ad R sp K w y t (by first | assumption | omega) (by first | assumption | omega) (by first | assumption | omega)) gX7_addShifted_X7_whyNot rfl (by decide +kernel) ⟨by decide, by decide⟩ (ci := 7) rfl 0 rfl [0, 1, 2, 3, 4, 5, 6, 7, 8] (by decide) rfl rfl rfl (by simp [Value.category]) ⟨by decide, by decide⟩ dX7_addShifted_10 (fun v H locs hp hw => ?_)
  obtain rfl := hp
  refine W.eq (g2 := F0 m 13 ls [vN (2), .ref (D 0)]) rfl ?_
  refine k_callV (n := 1) (As := [vN (2)]) (rest := []) (wr := []) hm hw hl (c_m_throwsAt l G D sa pa pn tx tn rf ro wk mb so kd nu it ti rd ad 2 (by first | assumption | omega)) gX7_addShifted_X7_throwsAt rfl (by decide +kernel) ⟨by decide, by decide⟩ (ci := 7) rfl 0 rfl [0, 1, 2, 3, 4, 5, 6, 7, 8] [] (by decide) rfl rfl (by decide) (by decide) rfl rfl (by simp [Value.category]) ⟨by decide, by decide⟩ dX7_addShifted_13 (fun v w1 H locs hp hw => ?_)
  obtain ⟨rfl, rfl⟩ := hp
  have hw := hw.sub (ws' := wMod G D sa pa pn tx tn 2 ro wk mb so kd nu it ti rd ad) [0, 1, 2, 3, 4, 5, 6, 7, 8] (by decide) rfl
  refine W.eq (g2 := F0 m 16 ls [vB (decide (0 < 2))]) rfl ?_
  refine k_ifeqB (tgt := 21) hm dX7_addShifted_16 (by decide) (fun c_4 => absurd (of_decide_eq_false c_4) (by omega)) (fun c_4 => ?_)
  refine k_iconstN hm 0 dX7_addShifted_19 ?_
  exact k_iret (post := _) hm hQ rfl rfl hw (⟨rfl, rfl⟩) (by omega) (by omega) dX7_addShifted_20
set_option maxHeartbeats 4000000 in
set_option maxRecDepth 100000 in
theorem c_m_addShifted_x3 (l : Launch) (G : kG) (D : Nat → Nat) (sa : Nat → Int64) (pa : Nat → Int64) (pn : Nat) (tx : Nat → Nat) (tn : Nat) (rf : Nat) (ro : Nat → Nat) (wk : Nat) (mb : Nat → Nat) (so : Nat) (kd : Nat → Nat) (nu : Nat → Nat) (it : Nat) (ti : Nat) (rd : Nat) (ad : Nat → Int64) (R : Nat) (sp : Bool) (K : Nat → Nat → Nat) (w : Nat → Nat) (y : Nat → Nat) (t : Nat) (x : Nat) (hmo : MOk sa R sp K w y) (hx : x < 120) (hR40 : R < 40) (ht : 3 ≤ t ∧ t ≤ 120) (hpo : ¬ isPo (sumM (K (R - 1)) (w (R - 1))) t) : kCM l yX7_addShifted wsX7_addShifted 4 87 0 0 G [.ref (D 0), vN (t), vN (x)] (wMod G D sa pa pn tx tn rf ro wk mb so kd nu it ti rd ad) (fun vv uu => vv = some (vN (0)) ∧ uu = wMod G D sa pa pn tx tn 3 ro wk mb so kd nu it ti rd ad) := by
  refine kCM.of (cc := cX7_addShifted) (maxL := 4) (ret := (some .int)) (by decide) rfl (Nat.le_of_ble_eq_true rfl) ?_
  intro p e s m args below meth c A ls Qz hQ hin hm hw hl
  have hl : lv_has ls 4 [(0, .ref (D 0)), (1, vN (t)), (2, vN (x))] := hl
  refine k_aload_n hm hl 0 rfl dX7_addShifted_0 ?_
  refine k_aload_n hm hl 0 rfl dX7_addShifted_1 ?_
  refine k_iload_n hm hl 2 rfl dX7_addShifted_2 ?_
  refine k_iconstN hm 0 dX7_addShifted_3 ?_
  refine k_bipushN hm 119 dX7_addShifted_4 rfl ?_
  refine k_callSr (n := 3) (As := [vN (x), vN (0), vN (119)]) (rest := [.ref (D 0), .ref (D 0)]) hm hw hl (c_m_in l G ((x : Nat) : Int) ((0 : Nat) : Int) ((119 : Nat) : Int) (by first | assumption | omega)) gX7_addShifted_X7_in rfl (by decide +kernel) ⟨by decide, by decide⟩ [] (by decide) rfl rfl rfl (by simp [Value.category]) ⟨by decide, by decide⟩ dX7_addShifted_6 (fun v H locs hp hw => ?_)
  obtain rfl := hp
  refine W.eq (g2 := F0 m 9 ls [vB (decide (((0 : Nat) : Int) ≤ ((x : Nat) : Int) ∧ ((x : Nat) : Int) ≤ ((119 : Nat) : Int))), .ref (D 0), .ref (D 0)]) rfl ?_
  refine k_rwV (y := vB (true)) (congrArg vB (decide_eq_true (by omega))) ?_
  refine k_iload_n hm hl 1 rfl dX7_addShifted_9 ?_
  refine k_callVr (n := 2) (As := [vB (true), vN (t)]) (rest := [.ref (D 0)]) hm hw hl (c_m_whyNot_3 l G D sa pa pn tx tn rf ro wk mb so kd nu it ti rd ad R sp K w y t (by first | assumption | omega) (by first | assumption | omega) (by first | assumption | omega) (by first | assumption | omega)) gX7_addShifted_X7_whyNot rfl (by decide +kernel) ⟨by decide, by decide⟩ (ci := 7) rfl 0 rfl [0, 1, 2, 3, 4, 5, 6, 7, 8] (by decide) rfl rfl rfl (by simp [Value.category]) ⟨by decide, by decide⟩ dX7_addShifted_10 (fun v H locs hp hw => ?_)
  obtain rfl := hp
  refine W.eq (g2 := F0 m 13 ls [vN (3), .ref (D 0)]) rfl ?_
  refine k_callV (n := 1) (As := [vN (3)]) (rest := []) (wr := []) hm hw hl (c_m_throwsAt l G D sa pa pn tx tn rf ro wk mb so kd nu it ti rd ad 3 (by first | assumption | omega)) gX7_addShifted_X7_throwsAt rfl (by decide +kernel) ⟨by decide, by decide⟩ (ci := 7) rfl 0 rfl [0, 1, 2, 3, 4, 5, 6, 7, 8] [] (by decide) rfl rfl (by decide) (by decide) rfl rfl (by simp [Value.category]) ⟨by decide, by decide⟩ dX7_addShifted_13 (fun v w1 H locs hp hw => ?_)
  obtain ⟨rfl, rfl⟩ := hp
  have hw := hw.sub (ws' := wMod G D sa pa pn tx tn 3 ro wk mb so kd nu it ti rd ad) [0, 1, 2, 3, 4, 5, 6, 7, 8] (by decide) rfl
  refine W.eq (g2 := F0 m 16 ls [vB (decide (0 < 3))]) rfl ?_
  refine k_ifeqB (tgt := 21) hm dX7_addShifted_16 (by decide) (fun c_4 => absurd (of_decide_eq_false c_4) (by omega)) (fun c_4 => ?_)
  refine k_iconstN hm 0 dX7_addShifted_19 ?_
  exact k_iret (post := _) hm hQ rfl rfl hw (⟨rfl, rfl⟩) (by omega) (by omega) dX7_addShifted_20
set_option maxHeartbeats 4000000 in
set_option maxRecDepth 100000 in
theorem c_m_addMirrored_ok (l : Launch) (G : kG) (D : Nat → Nat) (sa : Nat → Int64) (pa : Nat → Int64) (pn : Nat) (tx : Nat → Nat) (tn : Nat) (rf : Nat) (ro : Nat → Nat) (wk : Nat) (mb : Nat → Nat) (so : Nat) (kd : Nat → Nat) (nu : Nat → Nat) (it : Nat) (ti : Nat) (rd : Nat) (ad : Nat → Int64) (R : Nat) (sp : Bool) (K : Nat → Nat → Nat) (w : Nat → Nat) (y : Nat → Nat) (sv : Nat → PSt) (t : Nat) (hmo : MOk sa R sp K w y) (hpa : PaOk pa pn sv) (hR40 : R < 40) (ht : 3 ≤ t ∧ t ≤ 120) (hpo : isPo (sumM (K (R - 1)) (w (R - 1))) t ∧ ¬ (pd (sumM (K (R - 1)) (w (R - 1))) t % 2 = 1 ∧ pm (sumM (K (R - 1)) (w (R - 1))) t % 2 = 0)) : kCM l yX7_addMirrored wsX7_addMirrored 4 87 0 0 G [.ref (D 0), vN (t)] (wMod G D sa pa pn tx tn rf ro wk mb so kd nu it ti rd ad) (fun vv uu => ∃ (sa2 : Nat → Int64), ∃ (pa2 : Nat → Int64), ∃ (ro2 : Nat → Nat), ∃ (wk2 : Nat), ∃ (mb2 : Nat → Nat), vv = some (vN (nstk (mkF (K (R - 1)) (w (R - 1))) (miR (sumM (K (R - 1)) (w (R - 1))) t) (pm (sumM (K (R - 1)) (w (R - 1))) t))) ∧ uu = wMod G D sa2 pa2 (Nat.min (pn + 1) 4) tx tn 0 ro2 wk2 mb2 so kd nu it ti rd ad ∧ (MOk sa2 (R + 1) sp (fup K R (miR (sumM (K (R - 1)) (w (R - 1))) t)) (fup w R (pm (sumM (K (R - 1)) (w (R - 1))) t)) y) ∧ (PaOk pa2 (Nat.min (pn + 1) 4) (svPush (R, sp, K, w, y) sv))) := by
  refine kCM.of (cc := cX7_addMirrored) (maxL := 6) (ret := (some .int)) (by decide) rfl (Nat.le_of_ble_eq_true rfl) ?_
  intro p e s m args below meth c A ls Qz hQ hin hm hw hl
  have hl : lv_has ls 6 [(0, .ref (D 0)), (1, vN (t))] := hl
  have hR := hmo.1.1
  have hll := PVd_last hmo.1
  have hpm : 3 ≤ pm (sumM (K (R - 1)) (w (R - 1))) t ∧ pm (sumM (K (R - 1)) (w (R - 1))) t ≤ 120 := by unfold pm; split <;> omega
  have hpd : pd (sumM (K (R - 1)) (w (R - 1))) t ≤ 120 := by unfold pd; split <;> omega
  have hrg := miR_ok (n := (sumM (K (R - 1)) (w (R - 1)))) (t := t) hpo.1 hpo.2
  refine k_aload_n hm hl 0 rfl dX7_addMirrored_0 ?_
  refine k_iconstN hm 1 dX7_addMirrored_1 ?_
  refine k_iload_n hm hl 1 rfl dX7_addMirrored_2 ?_
  refine k_callVr (n := 2) (As := [vN (1), vN (t)]) (rest := []) hm hw hl (c_m_whyNot_0 l G D sa pa pn tx tn rf ro wk mb so kd nu it ti rd ad R sp K w y t (by first | assumption | omega) (by first | assumption | omega) (by first | assumption | omega) hpo.1) gX7_addMirrored_X7_whyNot rfl (by decide +kernel) ⟨by decide, by decide⟩ (ci := 7) rfl 0 rfl [0, 1, 2, 3, 4, 5, 6, 7, 8] (by decide) rfl rfl rfl (by simp [Value.category]) ⟨by decide, by decide⟩ dX7_addMirrored_3 (fun v H locs hp hw => ?_)
  obtain rfl := hp
  refine W.eq (g2 := F0 m 6 ls [vN (0)]) rfl ?_
  refine k_istore_n hm hl [(2, vN (0)), (0, .ref (D 0)), (1, vN (t))] (by decide) rfl dX7_addMirrored_6 (fun ls hl => ?_)
  refine k_aload_n hm hl 1 rfl dX7_addMirrored_7 ?_
  refine k_callVr (n := 0) (As := []) (rest := []) hm hw hl (c_m_last l G D sa pa pn tx tn rf ro wk mb so kd nu it ti rd ad R sp K w y (by first | assumption | omega)) gX7_addMirrored_X7_last rfl (by decide +kernel) ⟨by decide, by decide⟩ (ci := 7) rfl 0 rfl [0, 1, 2, 3, 4, 5, 6, 7, 8] (by decide) rfl rfl rfl (by simp [Value.category]) ⟨by decide, by decide⟩ dX7_addMirrored_8 (fun v H locs hp hw => ?_)
  obtain rfl := hp
  refine W.eq (g2 := F0 m 11 ls [vN (sumM (K (R - 1)) (w (R - 1)))]) rfl ?_
  refine k_istore_n hm hl [(3, vN (sumM (K (R - 1)) (w (R - 1)))), (2, vN (0)), (0, .ref (D 0)), (1, vN (t))] (by decide) rfl dX7_addMirrored_11 (fun ls hl => ?_)
  refine k_iload_n hm hl 3 rfl dX7_addMirrored_12 ?_
  refine k_iload_n hm hl 0 rfl dX7_addMirrored_13 ?_
  refine k_icmplt (tgt := 23) hm dX7_addMirrored_14 (by decide) (by omega) (fun c_3 => ?_) (fun c_3 => ?_)
  · refine k_iload_n hm hl 0 rfl dX7_addMirrored_23 ?_
    refine k_iload_n hm hl 3 rfl dX7_addMirrored_24 ?_
    refine k_isubN hm (by omega) dX7_addMirrored_25 ?_
    refine k_rwV (y := vN (pd (sumM (K (R - 1)) (w (R - 1))) t)) (by unfold pd; rw [if_neg (by omega)]) ?_
    refine k_istore hm hl [(4, vN (pd (sumM (K (R - 1)) (w (R - 1))) t)), (3, vN (sumM (K (R - 1)) (w (R - 1)))), (2, vN (0)), (0, .ref (D 0)), (1, vN (t))] (by decide) rfl dX7_addMirrored_26 (fun ls hl => ?_)
    refine k_iload_n hm hl 4 rfl dX7_addMirrored_28 ?_
    refine k_iload_n hm hl 1 rfl dX7_addMirrored_29 ?_
    refine k_icmplt (tgt := 37) hm dX7_addMirrored_30 (by decide) (by omega) (fun c_4 => ?_) (fun c_4 => absurd c_4 (by omega))
    refine k_iload_n hm hl 4 rfl dX7_addMirrored_37 ?_
    refine k_rwV (y := vN (pm (sumM (K (R - 1)) (w (R - 1))) t)) (by unfold pm; rw [if_neg (by omega)]) ?_
    refine k_istore hm hl [(5, vN (pm (sumM (K (R - 1)) (w (R - 1))) t)), (4, vN (pd (sumM (K (R - 1)) (w (R - 1))) t)), (3, vN (sumM (K (R - 1)) (w (R - 1)))), (2, vN (0)), (0, .ref (D 0)), (1, vN (t))] (by decide) rfl dX7_addMirrored_38 (fun ls hl => ?_)
    refine k_aload_n hm hl 4 rfl dX7_addMirrored_40 ?_
    refine k_iload_n hm hl 3 rfl dX7_addMirrored_41 ?_
    refine k_ifne (tgt := 64) hm dX7_addMirrored_42 (by decide) (by omega) (fun c_5 => absurd c_5 (by omega)) (fun c_5 => ?_)
    refine k_iload hm hl 1 rfl dX7_addMirrored_45 ?_
    refine k_iconstN hm 2 dX7_addMirrored_47 ?_
    refine k_iremN hm (by omega) dX7_addMirrored_48 ?_
    refine k_iconstN hm 1 dX7_addMirrored_49 ?_
    refine k_icmpne (tgt := 64) hm dX7_addMirrored_50 (by decide) (by omega) (fun c_6 => ?_) (fun c_6 => ?_)
    · refine k_iload_n hm hl 3 rfl dX7_addMirrored_64 ?_
      refine k_callV (n := 1) (As := [vN (0)]) (rest := []) (wr := []) hm hw hl (c_m_throwsAt l G D sa pa pn tx tn rf ro wk mb so kd nu it ti rd ad 0 (by first | assumption | omega)) gX7_addMirrored_X7_throwsAt rfl (by decide +kernel) ⟨by decide, by decide⟩ (ci := 7) rfl 0 rfl [0, 1, 2, 3, 4, 5, 6, 7, 8] [] (by decide) rfl rfl (by decide) (by decide) rfl rfl (by simp [Value.category]) ⟨by decide, by decide⟩ dX7_addMirrored_65 (fun v w1 H locs hp hw => ?_)
      obtain ⟨rfl, rfl⟩ := hp
      have hw := hw.sub (ws' := wMod G D sa pa pn tx tn 0 ro wk mb so kd nu it ti rd ad) [0, 1, 2, 3, 4, 5, 6, 7, 8] (by decide) rfl
      refine W.eq (g2 := F0 m 68 ls [vB (decide (0 < 0))]) rfl ?_
      refine k_ifeqB (tgt := 73) hm dX7_addMirrored_68 (by decide) (fun c_8 => ?_) (fun c_8 => absurd (of_decide_eq_true c_8) (by omega))
      refine k_aload_n hm hl 4 rfl dX7_addMirrored_73 ?_
      refine k_callV (n := 0) (As := []) (rest := []) (wr := []) hm hw hl (c_m_saves l G D sa pa pn tx tn 0 ro wk mb so kd nu it ti rd ad R sp K w y sv (by first | assumption | omega) (by first | assumption | omega)) gX7_addMirrored_X7_saves rfl (by decide +kernel) ⟨by decide, by decide⟩ (ci := 7) rfl 0 rfl [0, 1, 2, 3, 4, 5, 6, 7, 8] [] (by decide) rfl rfl (by decide) (by decide) rfl rfl (by simp [Value.category]) ⟨by decide, by decide⟩ dX7_addMirrored_74 (fun v w1 H locs hp hw => ?_)
      obtain ⟨pa2_10, rfl, rfl, hpa2_11⟩ := hp
      have hw := hw.sub (ws' := wMod G D sa pa2_10 (Nat.min (pn + 1) 4) tx tn 0 ro wk mb so kd nu it ti rd ad) [0, 1, 2, 3, 4, 5, 6, 7, 8] (by decide) rfl
      refine W.eq (g2 := F0 m 77 ls []) rfl ?_
      have hpa9 := hpa2_11
      refine k_aload_n hm hl 4 rfl dX7_addMirrored_77 ?_
      refine k_iload_n hm hl 5 rfl dX7_addMirrored_78 ?_
      refine k_iload_n hm hl 2 rfl dX7_addMirrored_79 ?_
      refine k_callV (n := 2) (As := [vN (t), vN (sumM (K (R - 1)) (w (R - 1)))]) (rest := []) (wr := []) hm hw hl (c_m_mirrors l G D sa pa2_10 (Nat.min (pn + 1) 4) tx tn 0 ro wk mb so kd nu it ti rd ad t (sumM (K (R - 1)) (w (R - 1))) (by first | assumption | omega)) gX7_addMirrored_X7_mirrors rfl (by decide +kernel) ⟨by decide, by decide⟩ (ci := 7) rfl 0 rfl [0, 1, 2, 3, 4, 5, 6, 7, 8] [] (by decide) rfl rfl (by decide) (by decide) rfl rfl (by simp [Value.category]) ⟨by decide, by decide⟩ dX7_addMirrored_80 (fun v w1 H locs hp hw => ?_)
      obtain ⟨ro2_13, rfl, rfl, hro_14⟩ := hp
      have hw := hw.sub (ws' := wMod G D sa pa2_10 (Nat.min (pn + 1) 4) tx tn 0 ro2_13 (pm (sumM (K (R - 1)) (w (R - 1))) t) mb so kd nu it ti rd ad) [0, 1, 2, 3, 4, 5, 6, 7, 8] (by decide) rfl
      refine W.eq (g2 := F0 m 83 ls []) rfl ?_
      have hro := hro_14
      refine k_aload_n hm hl 4 rfl dX7_addMirrored_83 ?_
      refine k_callV (n := 0) (As := []) (rest := []) (wr := []) hm hw hl (c_m_adds l G D sa pa2_10 (Nat.min (pn + 1) 4) tx tn 0 ro2_13 (pm (sumM (K (R - 1)) (w (R - 1))) t) mb so kd nu it ti rd ad R sp K w y (miR (sumM (K (R - 1)) (w (R - 1))) t) (by first | assumption | omega) (by first | assumption | omega) (by omega) (fun i q => ⟨hro i q, hrg.1 i q⟩) (by rw [hrg.2.2]; omega) hrg.2.1) gX7_addMirrored_X7_adds rfl (by decide +kernel) ⟨by decide, by decide⟩ (ci := 7) rfl 0 rfl [0, 1, 2, 3, 4, 5, 6, 7, 8] [] (by decide) rfl rfl (by decide) (by decide) rfl rfl (by simp [Value.category]) ⟨by decide, by decide⟩ dX7_addMirrored_84 (fun v w1 H locs hp hw => ?_)
      obtain ⟨sa2_16, rfl, rfl, hmo2_17⟩ := hp
      have hw := hw.sub (ws' := wMod G D sa2_16 pa2_10 (Nat.min (pn + 1) 4) tx tn 0 ro2_13 (pm (sumM (K (R - 1)) (w (R - 1))) t) mb so kd nu it ti rd ad) [0, 1, 2, 3, 4, 5, 6, 7, 8] (by decide) rfl
      refine W.eq (g2 := F0 m 87 ls []) rfl ?_
      have hmo9 := hmo2_17
      refine k_aload_n hm hl 4 rfl dX7_addMirrored_87 ?_
      refine k_aload_n hm hl 4 rfl dX7_addMirrored_88 ?_
      refine k_callVr (n := 0) (As := []) (rest := [.ref (D 0)]) hm hw hl (c_m_rounds l G D sa2_16 pa2_10 (Nat.min (pn + 1) 4) tx tn 0 ro2_13 (pm (sumM (K (R - 1)) (w (R - 1))) t) mb so kd nu it ti rd ad (R + 1) sp (fup K R (miR (sumM (K (R - 1)) (w (R - 1))) t)) (fup w R (pm (sumM (K (R - 1)) (w (R - 1))) t)) y hmo9) gX7_addMirrored_X7_rounds rfl (by decide +kernel) ⟨by decide, by decide⟩ (ci := 7) rfl 0 rfl [0, 1, 2, 3, 4, 5, 6, 7, 8] (by decide) rfl rfl rfl (by simp [Value.category]) ⟨by decide, by decide⟩ dX7_addMirrored_89 (fun v H locs hp hw => ?_)
      obtain rfl := hp
      refine W.eq (g2 := F0 m 92 ls [vN (R + 1), .ref (D 0)]) rfl ?_
      refine k_iconstN hm 1 dX7_addMirrored_92 ?_
      refine k_isubN hm (by omega) dX7_addMirrored_93 ?_
      refine k_callV (n := 1) (As := [vN ((R + 1) - 1)]) (rest := []) (wr := []) hm hw hl (c_m_stackedOf l G D sa2_16 pa2_10 (Nat.min (pn + 1) 4) tx tn 0 ro2_13 (pm (sumM (K (R - 1)) (w (R - 1))) t) mb so kd nu it ti rd ad (R + 1) sp (fup K R (miR (sumM (K (R - 1)) (w (R - 1))) t)) (fup w R (pm (sumM (K (R - 1)) (w (R - 1))) t)) y ((R + 1) - 1) hmo9 (by omega)) gX7_addMirrored_X7_stackedOf rfl (by decide +kernel) ⟨by decide, by decide⟩ (ci := 7) rfl 0 rfl [0, 1, 2, 3, 4, 5, 6, 7, 8] [] (by decide) rfl rfl (by decide) (by decide) rfl rfl (by simp [Value.category]) ⟨by decide, by decide⟩ dX7_addMirrored_94 (fun v w1 H locs hp hw => ?_)
      obtain ⟨ro2_20, wk2_21, mb2_22, rfl, rfl⟩ := hp
      have hw := hw.sub (ws' := wMod G D sa2_16 pa2_10 (Nat.min (pn + 1) 4) tx tn 0 ro2_20 wk2_21 mb2_22 so kd nu it ti rd ad) [0, 1, 2, 3, 4, 5, 6, 7, 8] (by decide) rfl
      refine W.eq (g2 := F0 m 97 ls [vN (stkP (fup K R (miR (sumM (K (R - 1)) (w (R - 1))) t)) (fup w R (pm (sumM (K (R - 1)) (w (R - 1))) t)) ((R + 1) - 1))]) rfl ?_
      exact k_iret (post := _) hm hQ rfl rfl hw (⟨_, _, _, _, _, by rw [show R + 1 - 1 = R by omega]; unfold stkP; rw [if_neg (by omega), fup_s, fup_s, fup_n (by omega), fup_n (by omega)], rfl, hmo9, hpa9⟩) (by omega) (by omega) dX7_addMirrored_97
    · refine k_iload hm hl 0 rfl dX7_addMirrored_53 ?_
      refine k_iconstN hm 2 dX7_addMirrored_55 ?_
      refine k_iremN hm (by omega) dX7_addMirrored_56 ?_
      refine k_ifne (tgt := 64) hm dX7_addMirrored_57 (by decide) (by omega) (fun c_23 => ?_) (fun c_23 => absurd c_23 (by omega))
      refine k_iload_n hm hl 3 rfl dX7_addMirrored_64 ?_
      refine k_callV (n := 1) (As := [vN (0)]) (rest := []) (wr := []) hm hw hl (c_m_throwsAt l G D sa pa pn tx tn rf ro wk mb so kd nu it ti rd ad 0 (by first | assumption | omega)) gX7_addMirrored_X7_throwsAt rfl (by decide +kernel) ⟨by decide, by decide⟩ (ci := 7) rfl 0 rfl [0, 1, 2, 3, 4, 5, 6, 7, 8] [] (by decide) rfl rfl (by decide) (by decide) rfl rfl (by simp [Value.category]) ⟨by decide, by decide⟩ dX7_addMirrored_65 (fun v w1 H locs hp hw => ?_)
      obtain ⟨rfl, rfl⟩ := hp
      have hw := hw.sub (ws' := wMod G D sa pa pn tx tn 0 ro wk mb so kd nu it ti rd ad) [0, 1, 2, 3, 4, 5, 6, 7, 8] (by decide) rfl
      refine W.eq (g2 := F0 m 68 ls [vB (decide (0 < 0))]) rfl ?_
      refine k_ifeqB (tgt := 73) hm dX7_addMirrored_68 (by decide) (fun c_25 => ?_) (fun c_25 => absurd (of_decide_eq_true c_25) (by omega))
      refine k_aload_n hm hl 4 rfl dX7_addMirrored_73 ?_
      refine k_callV (n := 0) (As := []) (rest := []) (wr := []) hm hw hl (c_m_saves l G D sa pa pn tx tn 0 ro wk mb so kd nu it ti rd ad R sp K w y sv (by first | assumption | omega) (by first | assumption | omega)) gX7_addMirrored_X7_saves rfl (by decide +kernel) ⟨by decide, by decide⟩ (ci := 7) rfl 0 rfl [0, 1, 2, 3, 4, 5, 6, 7, 8] [] (by decide) rfl rfl (by decide) (by decide) rfl rfl (by simp [Value.category]) ⟨by decide, by decide⟩ dX7_addMirrored_74 (fun v w1 H locs hp hw => ?_)
      obtain ⟨pa2_27, rfl, rfl, hpa2_28⟩ := hp
      have hw := hw.sub (ws' := wMod G D sa pa2_27 (Nat.min (pn + 1) 4) tx tn 0 ro wk mb so kd nu it ti rd ad) [0, 1, 2, 3, 4, 5, 6, 7, 8] (by decide) rfl
      refine W.eq (g2 := F0 m 77 ls []) rfl ?_
      have hpa9 := hpa2_28
      refine k_aload_n hm hl 4 rfl dX7_addMirrored_77 ?_
      refine k_iload_n hm hl 5 rfl dX7_addMirrored_78 ?_
      refine k_iload_n hm hl 2 rfl dX7_addMirrored_79 ?_
      refine k_callV (n := 2) (As := [vN (t), vN (sumM (K (R - 1)) (w (R - 1)))]) (rest := []) (wr := []) hm hw hl (c_m_mirrors l G D sa pa2_27 (Nat.min (pn + 1) 4) tx tn 0 ro wk mb so kd nu it ti rd ad t (sumM (K (R - 1)) (w (R - 1))) (by first | assumption | omega)) gX7_addMirrored_X7_mirrors rfl (by decide +kernel) ⟨by decide, by decide⟩ (ci := 7) rfl 0 rfl [0, 1, 2, 3, 4, 5, 6, 7, 8] [] (by decide) rfl rfl (by decide) (by decide) rfl rfl (by simp [Value.category]) ⟨by decide, by decide⟩ dX7_addMirrored_80 (fun v w1 H locs hp hw => ?_)
      obtain ⟨ro2_30, rfl, rfl, hro_31⟩ := hp
      have hw := hw.sub (ws' := wMod G D sa pa2_27 (Nat.min (pn + 1) 4) tx tn 0 ro2_30 (pm (sumM (K (R - 1)) (w (R - 1))) t) mb so kd nu it ti rd ad) [0, 1, 2, 3, 4, 5, 6, 7, 8] (by decide) rfl
      refine W.eq (g2 := F0 m 83 ls []) rfl ?_
      have hro := hro_31
      refine k_aload_n hm hl 4 rfl dX7_addMirrored_83 ?_
      refine k_callV (n := 0) (As := []) (rest := []) (wr := []) hm hw hl (c_m_adds l G D sa pa2_27 (Nat.min (pn + 1) 4) tx tn 0 ro2_30 (pm (sumM (K (R - 1)) (w (R - 1))) t) mb so kd nu it ti rd ad R sp K w y (miR (sumM (K (R - 1)) (w (R - 1))) t) (by first | assumption | omega) (by first | assumption | omega) (by omega) (fun i q => ⟨hro i q, hrg.1 i q⟩) (by rw [hrg.2.2]; omega) hrg.2.1) gX7_addMirrored_X7_adds rfl (by decide +kernel) ⟨by decide, by decide⟩ (ci := 7) rfl 0 rfl [0, 1, 2, 3, 4, 5, 6, 7, 8] [] (by decide) rfl rfl (by decide) (by decide) rfl rfl (by simp [Value.category]) ⟨by decide, by decide⟩ dX7_addMirrored_84 (fun v w1 H locs hp hw => ?_)
      obtain ⟨sa2_33, rfl, rfl, hmo2_34⟩ := hp
      have hw := hw.sub (ws' := wMod G D sa2_33 pa2_27 (Nat.min (pn + 1) 4) tx tn 0 ro2_30 (pm (sumM (K (R - 1)) (w (R - 1))) t) mb so kd nu it ti rd ad) [0, 1, 2, 3, 4, 5, 6, 7, 8] (by decide) rfl
      refine W.eq (g2 := F0 m 87 ls []) rfl ?_
      have hmo9 := hmo2_34
      refine k_aload_n hm hl 4 rfl dX7_addMirrored_87 ?_
      refine k_aload_n hm hl 4 rfl dX7_addMirrored_88 ?_
      refine k_callVr (n := 0) (As := []) (rest := [.ref (D 0)]) hm hw hl (c_m_rounds l G D sa2_33 pa2_27 (Nat.min (pn + 1) 4) tx tn 0 ro2_30 (pm (sumM (K (R - 1)) (w (R - 1))) t) mb so kd nu it ti rd ad (R + 1) sp (fup K R (miR (sumM (K (R - 1)) (w (R - 1))) t)) (fup w R (pm (sumM (K (R - 1)) (w (R - 1))) t)) y hmo9) gX7_addMirrored_X7_rounds rfl (by decide +kernel) ⟨by decide, by decide⟩ (ci := 7) rfl 0 rfl [0, 1, 2, 3, 4, 5, 6, 7, 8] (by decide) rfl rfl rfl (by simp [Value.category]) ⟨by decide, by decide⟩ dX7_addMirrored_89 (fun v H locs hp hw => ?_)
      obtain rfl := hp
      refine W.eq (g2 := F0 m 92 ls [vN (R + 1), .ref (D 0)]) rfl ?_
      refine k_iconstN hm 1 dX7_addMirrored_92 ?_
      refine k_isubN hm (by omega) dX7_addMirrored_93 ?_
      refine k_callV (n := 1) (As := [vN ((R + 1) - 1)]) (rest := []) (wr := []) hm hw hl (c_m_stackedOf l G D sa2_33 pa2_27 (Nat.min (pn + 1) 4) tx tn 0 ro2_30 (pm (sumM (K (R - 1)) (w (R - 1))) t) mb so kd nu it ti rd ad (R + 1) sp (fup K R (miR (sumM (K (R - 1)) (w (R - 1))) t)) (fup w R (pm (sumM (K (R - 1)) (w (R - 1))) t)) y ((R + 1) - 1) hmo9 (by omega)) gX7_addMirrored_X7_stackedOf rfl (by decide +kernel) ⟨by decide, by decide⟩ (ci := 7) rfl 0 rfl [0, 1, 2, 3, 4, 5, 6, 7, 8] [] (by decide) rfl rfl (by decide) (by decide) rfl rfl (by simp [Value.category]) ⟨by decide, by decide⟩ dX7_addMirrored_94 (fun v w1 H locs hp hw => ?_)
      obtain ⟨ro2_37, wk2_38, mb2_39, rfl, rfl⟩ := hp
      have hw := hw.sub (ws' := wMod G D sa2_33 pa2_27 (Nat.min (pn + 1) 4) tx tn 0 ro2_37 wk2_38 mb2_39 so kd nu it ti rd ad) [0, 1, 2, 3, 4, 5, 6, 7, 8] (by decide) rfl
      refine W.eq (g2 := F0 m 97 ls [vN (stkP (fup K R (miR (sumM (K (R - 1)) (w (R - 1))) t)) (fup w R (pm (sumM (K (R - 1)) (w (R - 1))) t)) ((R + 1) - 1))]) rfl ?_
      exact k_iret (post := _) hm hQ rfl rfl hw (⟨_, _, _, _, _, by rw [show R + 1 - 1 = R by omega]; unfold stkP; rw [if_neg (by omega), fup_s, fup_s, fup_n (by omega), fup_n (by omega)], rfl, hmo9, hpa9⟩) (by omega) (by omega) dX7_addMirrored_97
  · refine k_iload_n hm hl 3 rfl dX7_addMirrored_17 ?_
    refine k_iload_n hm hl 0 rfl dX7_addMirrored_18 ?_
    refine k_isubN hm (by omega) dX7_addMirrored_19 ?_
    refine k_goto (tgt := 26) hm dX7_addMirrored_20 (by decide) ?_
    refine k_rwV (y := vN (pd (sumM (K (R - 1)) (w (R - 1))) t)) (by unfold pd; rw [if_pos (by omega)]) ?_
    refine k_istore hm hl [(4, vN (pd (sumM (K (R - 1)) (w (R - 1))) t)), (3, vN (sumM (K (R - 1)) (w (R - 1)))), (2, vN (0)), (0, .ref (D 0)), (1, vN (t))] (by decide) rfl dX7_addMirrored_26 (fun ls hl => ?_)
    refine k_iload_n hm hl 4 rfl dX7_addMirrored_28 ?_
    refine k_iload_n hm hl 1 rfl dX7_addMirrored_29 ?_
    refine k_icmplt (tgt := 37) hm dX7_addMirrored_30 (by decide) (by omega) (fun c_40 => absurd c_40 (by omega)) (fun c_40 => ?_)
    refine k_iload_n hm hl 1 rfl dX7_addMirrored_33 ?_
    refine k_goto (tgt := 38) hm dX7_addMirrored_34 (by decide) ?_
    refine k_rwV (y := vN (pm (sumM (K (R - 1)) (w (R - 1))) t)) (by unfold pm; rw [if_pos (by omega)]) ?_
    refine k_istore hm hl [(5, vN (pm (sumM (K (R - 1)) (w (R - 1))) t)), (4, vN (pd (sumM (K (R - 1)) (w (R - 1))) t)), (3, vN (sumM (K (R - 1)) (w (R - 1)))), (2, vN (0)), (0, .ref (D 0)), (1, vN (t))] (by decide) rfl dX7_addMirrored_38 (fun ls hl => ?_)
    refine k_aload_n hm hl 4 rfl dX7_addMirrored_40 ?_
    refine k_iload_n hm hl 3 rfl dX7_addMirrored_41 ?_
    refine k_ifne (tgt := 64) hm dX7_addMirrored_42 (by decide) (by omega) (fun c_41 => absurd c_41 (by omega)) (fun c_41 => ?_)
    refine k_iload hm hl 1 rfl dX7_addMirrored_45 ?_
    refine k_iconstN hm 2 dX7_addMirrored_47 ?_
    refine k_iremN hm (by omega) dX7_addMirrored_48 ?_
    refine k_iconstN hm 1 dX7_addMirrored_49 ?_
    refine k_icmpne (tgt := 64) hm dX7_addMirrored_50 (by decide) (by omega) (fun c_42 => ?_) (fun c_42 => ?_)
    · refine k_iload_n hm hl 3 rfl dX7_addMirrored_64 ?_
      refine k_callV (n := 1) (As := [vN (0)]) (rest := []) (wr := []) hm hw hl (c_m_throwsAt l G D sa pa pn tx tn rf ro wk mb so kd nu it ti rd ad 0 (by first | assumption | omega)) gX7_addMirrored_X7_throwsAt rfl (by decide +kernel) ⟨by decide, by decide⟩ (ci := 7) rfl 0 rfl [0, 1, 2, 3, 4, 5, 6, 7, 8] [] (by decide) rfl rfl (by decide) (by decide) rfl rfl (by simp [Value.category]) ⟨by decide, by decide⟩ dX7_addMirrored_65 (fun v w1 H locs hp hw => ?_)
      obtain ⟨rfl, rfl⟩ := hp
      have hw := hw.sub (ws' := wMod G D sa pa pn tx tn 0 ro wk mb so kd nu it ti rd ad) [0, 1, 2, 3, 4, 5, 6, 7, 8] (by decide) rfl
      refine W.eq (g2 := F0 m 68 ls [vB (decide (0 < 0))]) rfl ?_
      refine k_ifeqB (tgt := 73) hm dX7_addMirrored_68 (by decide) (fun c_44 => ?_) (fun c_44 => absurd (of_decide_eq_true c_44) (by omega))
      refine k_aload_n hm hl 4 rfl dX7_addMirrored_73 ?_
      refine k_callV (n := 0) (As := []) (rest := []) (wr := []) hm hw hl (c_m_saves l G D sa pa pn tx tn 0 ro wk mb so kd nu it ti rd ad R sp K w y sv (by first | assumption | omega) (by first | assumption | omega)) gX7_addMirrored_X7_saves rfl (by decide +kernel) ⟨by decide, by decide⟩ (ci := 7) rfl 0 rfl [0, 1, 2, 3, 4, 5, 6, 7, 8] [] (by decide) rfl rfl (by decide) (by decide) rfl rfl (by simp [Value.category]) ⟨by decide, by decide⟩ dX7_addMirrored_74 (fun v w1 H locs hp hw => ?_)
      obtain ⟨pa2_46, rfl, rfl, hpa2_47⟩ := hp
      have hw := hw.sub (ws' := wMod G D sa pa2_46 (Nat.min (pn + 1) 4) tx tn 0 ro wk mb so kd nu it ti rd ad) [0, 1, 2, 3, 4, 5, 6, 7, 8] (by decide) rfl
      refine W.eq (g2 := F0 m 77 ls []) rfl ?_
      have hpa9 := hpa2_47
      refine k_aload_n hm hl 4 rfl dX7_addMirrored_77 ?_
      refine k_iload_n hm hl 5 rfl dX7_addMirrored_78 ?_
      refine k_iload_n hm hl 2 rfl dX7_addMirrored_79 ?_
      refine k_callV (n := 2) (As := [vN (t), vN (sumM (K (R - 1)) (w (R - 1)))]) (rest := []) (wr := []) hm hw hl (c_m_mirrors l G D sa pa2_46 (Nat.min (pn + 1) 4) tx tn 0 ro wk mb so kd nu it ti rd ad t (sumM (K (R - 1)) (w (R - 1))) (by first | assumption | omega)) gX7_addMirrored_X7_mirrors rfl (by decide +kernel) ⟨by decide, by decide⟩ (ci := 7) rfl 0 rfl [0, 1, 2, 3, 4, 5, 6, 7, 8] [] (by decide) rfl rfl (by decide) (by decide) rfl rfl (by simp [Value.category]) ⟨by decide, by decide⟩ dX7_addMirrored_80 (fun v w1 H locs hp hw => ?_)
      obtain ⟨ro2_49, rfl, rfl, hro_50⟩ := hp
      have hw := hw.sub (ws' := wMod G D sa pa2_46 (Nat.min (pn + 1) 4) tx tn 0 ro2_49 (pm (sumM (K (R - 1)) (w (R - 1))) t) mb so kd nu it ti rd ad) [0, 1, 2, 3, 4, 5, 6, 7, 8] (by decide) rfl
      refine W.eq (g2 := F0 m 83 ls []) rfl ?_
      have hro := hro_50
      refine k_aload_n hm hl 4 rfl dX7_addMirrored_83 ?_
      refine k_callV (n := 0) (As := []) (rest := []) (wr := []) hm hw hl (c_m_adds l G D sa pa2_46 (Nat.min (pn + 1) 4) tx tn 0 ro2_49 (pm (sumM (K (R - 1)) (w (R - 1))) t) mb so kd nu it ti rd ad R sp K w y (miR (sumM (K (R - 1)) (w (R - 1))) t) (by first | assumption | omega) (by first | assumption | omega) (by omega) (fun i q => ⟨hro i q, hrg.1 i q⟩) (by rw [hrg.2.2]; omega) hrg.2.1) gX7_addMirrored_X7_adds rfl (by decide +kernel) ⟨by decide, by decide⟩ (ci := 7) rfl 0 rfl [0, 1, 2, 3, 4, 5, 6, 7, 8] [] (by decide) rfl rfl (by decide) (by decide) rfl rfl (by simp [Value.category]) ⟨by decide, by decide⟩ dX7_addMirrored_84 (fun v w1 H locs hp hw => ?_)
      obtain ⟨sa2_52, rfl, rfl, hmo2_53⟩ := hp
      have hw := hw.sub (ws' := wMod G D sa2_52 pa2_46 (Nat.min (pn + 1) 4) tx tn 0 ro2_49 (pm (sumM (K (R - 1)) (w (R - 1))) t) mb so kd nu it ti rd ad) [0, 1, 2, 3, 4, 5, 6, 7, 8] (by decide) rfl
      refine W.eq (g2 := F0 m 87 ls []) rfl ?_
      have hmo9 := hmo2_53
      refine k_aload_n hm hl 4 rfl dX7_addMirrored_87 ?_
      refine k_aload_n hm hl 4 rfl dX7_addMirrored_88 ?_
      refine k_callVr (n := 0) (As := []) (rest := [.ref (D 0)]) hm hw hl (c_m_rounds l G D sa2_52 pa2_46 (Nat.min (pn + 1) 4) tx tn 0 ro2_49 (pm (sumM (K (R - 1)) (w (R - 1))) t) mb so kd nu it ti rd ad (R + 1) sp (fup K R (miR (sumM (K (R - 1)) (w (R - 1))) t)) (fup w R (pm (sumM (K (R - 1)) (w (R - 1))) t)) y hmo9) gX7_addMirrored_X7_rounds rfl (by decide +kernel) ⟨by decide, by decide⟩ (ci := 7) rfl 0 rfl [0, 1, 2, 3, 4, 5, 6, 7, 8] (by decide) rfl rfl rfl (by simp [Value.category]) ⟨by decide, by decide⟩ dX7_addMirrored_89 (fun v H locs hp hw => ?_)
      obtain rfl := hp
      refine W.eq (g2 := F0 m 92 ls [vN (R + 1), .ref (D 0)]) rfl ?_
      refine k_iconstN hm 1 dX7_addMirrored_92 ?_
      refine k_isubN hm (by omega) dX7_addMirrored_93 ?_
      refine k_callV (n := 1) (As := [vN ((R + 1) - 1)]) (rest := []) (wr := []) hm hw hl (c_m_stackedOf l G D sa2_52 pa2_46 (Nat.min (pn + 1) 4) tx tn 0 ro2_49 (pm (sumM (K (R - 1)) (w (R - 1))) t) mb so kd nu it ti rd ad (R + 1) sp (fup K R (miR (sumM (K (R - 1)) (w (R - 1))) t)) (fup w R (pm (sumM (K (R - 1)) (w (R - 1))) t)) y ((R + 1) - 1) hmo9 (by omega)) gX7_addMirrored_X7_stackedOf rfl (by decide +kernel) ⟨by decide, by decide⟩ (ci := 7) rfl 0 rfl [0, 1, 2, 3, 4, 5, 6, 7, 8] [] (by decide) rfl rfl (by decide) (by decide) rfl rfl (by simp [Value.category]) ⟨by decide, by decide⟩ dX7_addMirrored_94 (fun v w1 H locs hp hw => ?_)
      obtain ⟨ro2_56, wk2_57, mb2_58, rfl, rfl⟩ := hp
      have hw := hw.sub (ws' := wMod G D sa2_52 pa2_46 (Nat.min (pn + 1) 4) tx tn 0 ro2_56 wk2_57 mb2_58 so kd nu it ti rd ad) [0, 1, 2, 3, 4, 5, 6, 7, 8] (by decide) rfl
      refine W.eq (g2 := F0 m 97 ls [vN (stkP (fup K R (miR (sumM (K (R - 1)) (w (R - 1))) t)) (fup w R (pm (sumM (K (R - 1)) (w (R - 1))) t)) ((R + 1) - 1))]) rfl ?_
      exact k_iret (post := _) hm hQ rfl rfl hw (⟨_, _, _, _, _, by rw [show R + 1 - 1 = R by omega]; unfold stkP; rw [if_neg (by omega), fup_s, fup_s, fup_n (by omega), fup_n (by omega)], rfl, hmo9, hpa9⟩) (by omega) (by omega) dX7_addMirrored_97
    · refine k_iload hm hl 0 rfl dX7_addMirrored_53 ?_
      refine k_iconstN hm 2 dX7_addMirrored_55 ?_
      refine k_iremN hm (by omega) dX7_addMirrored_56 ?_
      refine k_ifne (tgt := 64) hm dX7_addMirrored_57 (by decide) (by omega) (fun c_59 => ?_) (fun c_59 => absurd c_59 (by omega))
      refine k_iload_n hm hl 3 rfl dX7_addMirrored_64 ?_
      refine k_callV (n := 1) (As := [vN (0)]) (rest := []) (wr := []) hm hw hl (c_m_throwsAt l G D sa pa pn tx tn rf ro wk mb so kd nu it ti rd ad 0 (by first | assumption | omega)) gX7_addMirrored_X7_throwsAt rfl (by decide +kernel) ⟨by decide, by decide⟩ (ci := 7) rfl 0 rfl [0, 1, 2, 3, 4, 5, 6, 7, 8] [] (by decide) rfl rfl (by decide) (by decide) rfl rfl (by simp [Value.category]) ⟨by decide, by decide⟩ dX7_addMirrored_65 (fun v w1 H locs hp hw => ?_)
      obtain ⟨rfl, rfl⟩ := hp
      have hw := hw.sub (ws' := wMod G D sa pa pn tx tn 0 ro wk mb so kd nu it ti rd ad) [0, 1, 2, 3, 4, 5, 6, 7, 8] (by decide) rfl
      refine W.eq (g2 := F0 m 68 ls [vB (decide (0 < 0))]) rfl ?_
      refine k_ifeqB (tgt := 73) hm dX7_addMirrored_68 (by decide) (fun c_61 => ?_) (fun c_61 => absurd (of_decide_eq_true c_61) (by omega))
      refine k_aload_n hm hl 4 rfl dX7_addMirrored_73 ?_
      refine k_callV (n := 0) (As := []) (rest := []) (wr := []) hm hw hl (c_m_saves l G D sa pa pn tx tn 0 ro wk mb so kd nu it ti rd ad R sp K w y sv (by first | assumption | omega) (by first | assumption | omega)) gX7_addMirrored_X7_saves rfl (by decide +kernel) ⟨by decide, by decide⟩ (ci := 7) rfl 0 rfl [0, 1, 2, 3, 4, 5, 6, 7, 8] [] (by decide) rfl rfl (by decide) (by decide) rfl rfl (by simp [Value.category]) ⟨by decide, by decide⟩ dX7_addMirrored_74 (fun v w1 H locs hp hw => ?_)
      obtain ⟨pa2_63, rfl, rfl, hpa2_64⟩ := hp
      have hw := hw.sub (ws' := wMod G D sa pa2_63 (Nat.min (pn + 1) 4) tx tn 0 ro wk mb so kd nu it ti rd ad) [0, 1, 2, 3, 4, 5, 6, 7, 8] (by decide) rfl
      refine W.eq (g2 := F0 m 77 ls []) rfl ?_
      have hpa9 := hpa2_64
      refine k_aload_n hm hl 4 rfl dX7_addMirrored_77 ?_
      refine k_iload_n hm hl 5 rfl dX7_addMirrored_78 ?_
      refine k_iload_n hm hl 2 rfl dX7_addMirrored_79 ?_
      refine k_callV (n := 2) (As := [vN (t), vN (sumM (K (R - 1)) (w (R - 1)))]) (rest := []) (wr := []) hm hw hl (c_m_mirrors l G D sa pa2_63 (Nat.min (pn + 1) 4) tx tn 0 ro wk mb so kd nu it ti rd ad t (sumM (K (R - 1)) (w (R - 1))) (by first | assumption | omega)) gX7_addMirrored_X7_mirrors rfl (by decide +kernel) ⟨by decide, by decide⟩ (ci := 7) rfl 0 rfl [0, 1, 2, 3, 4, 5, 6, 7, 8] [] (by decide) rfl rfl (by decide) (by decide) rfl rfl (by simp [Value.category]) ⟨by decide, by decide⟩ dX7_addMirrored_80 (fun v w1 H locs hp hw => ?_)
      obtain ⟨ro2_66, rfl, rfl, hro_67⟩ := hp
      have hw := hw.sub (ws' := wMod G D sa pa2_63 (Nat.min (pn + 1) 4) tx tn 0 ro2_66 (pm (sumM (K (R - 1)) (w (R - 1))) t) mb so kd nu it ti rd ad) [0, 1, 2, 3, 4, 5, 6, 7, 8] (by decide) rfl
      refine W.eq (g2 := F0 m 83 ls []) rfl ?_
      have hro := hro_67
      refine k_aload_n hm hl 4 rfl dX7_addMirrored_83 ?_
      refine k_callV (n := 0) (As := []) (rest := []) (wr := []) hm hw hl (c_m_adds l G D sa pa2_63 (Nat.min (pn + 1) 4) tx tn 0 ro2_66 (pm (sumM (K (R - 1)) (w (R - 1))) t) mb so kd nu it ti rd ad R sp K w y (miR (sumM (K (R - 1)) (w (R - 1))) t) (by first | assumption | omega) (by first | assumption | omega) (by omega) (fun i q => ⟨hro i q, hrg.1 i q⟩) (by rw [hrg.2.2]; omega) hrg.2.1) gX7_addMirrored_X7_adds rfl (by decide +kernel) ⟨by decide, by decide⟩ (ci := 7) rfl 0 rfl [0, 1, 2, 3, 4, 5, 6, 7, 8] [] (by decide) rfl rfl (by decide) (by decide) rfl rfl (by simp [Value.category]) ⟨by decide, by decide⟩ dX7_addMirrored_84 (fun v w1 H locs hp hw => ?_)
      obtain ⟨sa2_69, rfl, rfl, hmo2_70⟩ := hp
      have hw := hw.sub (ws' := wMod G D sa2_69 pa2_63 (Nat.min (pn + 1) 4) tx tn 0 ro2_66 (pm (sumM (K (R - 1)) (w (R - 1))) t) mb so kd nu it ti rd ad) [0, 1, 2, 3, 4, 5, 6, 7, 8] (by decide) rfl
      refine W.eq (g2 := F0 m 87 ls []) rfl ?_
      have hmo9 := hmo2_70
      refine k_aload_n hm hl 4 rfl dX7_addMirrored_87 ?_
      refine k_aload_n hm hl 4 rfl dX7_addMirrored_88 ?_
      refine k_callVr (n := 0) (As := []) (rest := [.ref (D 0)]) hm hw hl (c_m_rounds l G D sa2_69 pa2_63 (Nat.min (pn + 1) 4) tx tn 0 ro2_66 (pm (sumM (K (R - 1)) (w (R - 1))) t) mb so kd nu it ti rd ad (R + 1) sp (fup K R (miR (sumM (K (R - 1)) (w (R - 1))) t)) (fup w R (pm (sumM (K (R - 1)) (w (R - 1))) t)) y hmo9) gX7_addMirrored_X7_rounds rfl (by decide +kernel) ⟨by decide, by decide⟩ (ci := 7) rfl 0 rfl [0, 1, 2, 3, 4, 5, 6, 7, 8] (by decide) rfl rfl rfl (by simp [Value.category]) ⟨by decide, by decide⟩ dX7_addMirrored_89 (fun v H locs hp hw => ?_)
      obtain rfl := hp
      refine W.eq (g2 := F0 m 92 ls [vN (R + 1), .ref (D 0)]) rfl ?_
      refine k_iconstN hm 1 dX7_addMirrored_92 ?_
      refine k_isubN hm (by omega) dX7_addMirrored_93 ?_
      refine k_callV (n := 1) (As := [vN ((R + 1) - 1)]) (rest := []) (wr := []) hm hw hl (c_m_stackedOf l G D sa2_69 pa2_63 (Nat.min (pn + 1) 4) tx tn 0 ro2_66 (pm (sumM (K (R - 1)) (w (R - 1))) t) mb so kd nu it ti rd ad (R + 1) sp (fup K R (miR (sumM (K (R - 1)) (w (R - 1))) t)) (fup w R (pm (sumM (K (R - 1)) (w (R - 1))) t)) y ((R + 1) - 1) hmo9 (by omega)) gX7_addMirrored_X7_stackedOf rfl (by decide +kernel) ⟨by decide, by decide⟩ (ci := 7) rfl 0 rfl [0, 1, 2, 3, 4, 5, 6, 7, 8] [] (by decide) rfl rfl (by decide) (by decide) rfl rfl (by simp [Value.category]) ⟨by decide, by decide⟩ dX7_addMirrored_94 (fun v w1 H locs hp hw => ?_)
      obtain ⟨ro2_73, wk2_74, mb2_75, rfl, rfl⟩ := hp
      have hw := hw.sub (ws' := wMod G D sa2_69 pa2_63 (Nat.min (pn + 1) 4) tx tn 0 ro2_73 wk2_74 mb2_75 so kd nu it ti rd ad) [0, 1, 2, 3, 4, 5, 6, 7, 8] (by decide) rfl
      refine W.eq (g2 := F0 m 97 ls [vN (stkP (fup K R (miR (sumM (K (R - 1)) (w (R - 1))) t)) (fup w R (pm (sumM (K (R - 1)) (w (R - 1))) t)) ((R + 1) - 1))]) rfl ?_
      exact k_iret (post := _) hm hQ rfl rfl hw (⟨_, _, _, _, _, by rw [show R + 1 - 1 = R by omega]; unfold stkP; rw [if_neg (by omega), fup_s, fup_s, fup_n (by omega), fup_n (by omega)], rfl, hmo9, hpa9⟩) (by omega) (by omega) dX7_addMirrored_97
