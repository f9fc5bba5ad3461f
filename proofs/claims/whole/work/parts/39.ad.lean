set_option maxHeartbeats 4000000 in
set_option maxRecDepth 100000 in
theorem c_m_addShifted_ok (l : Launch) (G : kG) (D : Nat → Nat) (sa : Nat → Int64) (pa : Nat → Int64) (pn : Nat) (tx : Nat → Nat) (tn : Nat) (rf : Nat) (ro : Nat → Nat) (wk : Nat) (mb : Nat → Nat) (so : Nat) (kd : Nat → Nat) (nu : Nat → Nat) (it : Nat) (ti : Nat) (rd : Nat) (ad : Nat → Int64) (R : Nat) (sp : Bool) (K : Nat → Nat → Nat) (w : Nat → Nat) (y : Nat → Nat) (sv : Nat → PSt) (t : Nat) (x : Nat) (hmo : MOk sa R sp K w y) (hpa : PaOk pa pn sv) (hR40 : R < 40) (ht : 3 ≤ t ∧ t ≤ 120) (hpo : isPo (sumM (K (R - 1)) (w (R - 1))) t) (hx : x < 120) : kCM l yX7_addShifted wsX7_addShifted 4 87 0 0 G [.ref (D 0), vN (t), vN (x)] (wMod G D sa pa pn tx tn rf ro wk mb so kd nu it ti rd ad) (fun vv uu => ∃ (sa2 : Nat → Int64), ∃ (pa2 : Nat → Int64), ∃ (ro2 : Nat → Nat), ∃ (wk2 : Nat), ∃ (mb2 : Nat → Nat), vv = some (vN (stkC (K (R - 1)) (w (R - 1)) (sumM (K (R - 1)) (w (R - 1))) t x)) ∧ uu = wMod G D sa2 pa2 (Nat.min (pn + 1) 4) tx tn 0 ro2 wk2 mb2 so kd nu it ti rd ad ∧ (MOk sa2 (R + 1) sp (fup K R (spR (sumM (K (R - 1)) (w (R - 1))) t x)) (fup w R (pm (sumM (K (R - 1)) (w (R - 1))) t)) y) ∧ (PaOk pa2 (Nat.min (pn + 1) 4) (svPush (R, sp, K, w, y) sv))) := by
  refine kCM.of (cc := cX7_addShifted) (maxL := 4) (ret := (some .int)) (by decide) rfl (Nat.le_of_ble_eq_true rfl) ?_
  intro p e s m args below meth c A ls Qz hQ hin hm hw hl
  have hl : lv_has ls 4 [(0, .ref (D 0)), (1, vN (t)), (2, vN (x))] := hl
  have hR := hmo.1.1
  have hll := PVd_last hmo.1
  have hpm : 3 ≤ pm (sumM (K (R - 1)) (w (R - 1))) t ∧ pm (sumM (K (R - 1)) (w (R - 1))) t ≤ 120 := by unfold pm; split <;> omega
  refine k_aload_n hm hl 0 rfl dX7_addShifted_0 ?_
  refine k_aload_n hm hl 0 rfl dX7_addShifted_1 ?_
  refine k_iload_n hm hl 2 rfl dX7_addShifted_2 ?_
  refine k_iconstN hm 0 dX7_addShifted_3 ?_
  refine k_bipushN hm 119 dX7_addShifted_4 rfl ?_
  refine k_callSr (n := 3) (As := [vN (x), vN (0), vN (119)]) (rest := [.ref (D 0), .ref (D 0)]) hm hw hl (c_m_in l G ((x : Nat) : Int) ((0 : Nat) : Int) ((119 : Nat) : Int) (by first | assumption | omega)) gX7_addShifted_X7_in rfl (by decide +kernel) ⟨by decide, by decide⟩ [] (by decide) rfl rfl rfl (by simp [Value.category]) ⟨by decide, by decide⟩ dX7_addShifted_6 (fun v H locs hp hw => ?_)
  obtain rfl := hp
  refine W.eq (g2 := F0 m 9 ls [vB (decide (((0 : Nat) : Int) ≤ ((x : Nat) : Int) ∧ ((x : Nat) : Int) ≤ ((119 : Nat) : Int))), .ref (D 0), .ref (D 0)]) rfl ?_
  refine k_rwV (y := vB (true)) (congrArg vB (decide_eq_true (by omega))) ?_
  refine k_iload_n hm hl 1 rfl dX7_addShifted_9 ?_
  refine k_callVr (n := 2) (As := [vB (true), vN (t)]) (rest := [.ref (D 0)]) hm hw hl (c_m_whyNot_0 l G D sa pa pn tx tn rf ro wk mb so kd nu it ti rd ad R sp K w y t (by first | assumption | omega) (by first | assumption | omega) (by first | assumption | omega) (by first | assumption | omega)) gX7_addShifted_X7_whyNot rfl (by decide +kernel) ⟨by decide, by decide⟩ (ci := 7) rfl 0 rfl [0, 1, 2, 3, 4, 5, 6, 7, 8] (by decide) rfl rfl rfl (by simp [Value.category]) ⟨by decide, by decide⟩ dX7_addShifted_10 (fun v H locs hp hw => ?_)
  obtain rfl := hp
  refine W.eq (g2 := F0 m 13 ls [vN (0), .ref (D 0)]) rfl ?_
  refine k_callV (n := 1) (As := [vN (0)]) (rest := []) (wr := []) hm hw hl (c_m_throwsAt l G D sa pa pn tx tn rf ro wk mb so kd nu it ti rd ad 0 (by first | assumption | omega)) gX7_addShifted_X7_throwsAt rfl (by decide +kernel) ⟨by decide, by decide⟩ (ci := 7) rfl 0 rfl [0, 1, 2, 3, 4, 5, 6, 7, 8] [] (by decide) rfl rfl (by decide) (by decide) rfl rfl (by simp [Value.category]) ⟨by decide, by decide⟩ dX7_addShifted_13 (fun v w1 H locs hp hw => ?_)
  obtain ⟨rfl, rfl⟩ := hp
  have hw := hw.sub (ws' := wMod G D sa pa pn tx tn 0 ro wk mb so kd nu it ti rd ad) [0, 1, 2, 3, 4, 5, 6, 7, 8] (by decide) rfl
  refine W.eq (g2 := F0 m 16 ls [vB (decide (0 < 0))]) rfl ?_
  refine k_ifeqB (tgt := 21) hm dX7_addShifted_16 (by decide) (fun c_4 => ?_) (fun c_4 => absurd (of_decide_eq_true c_4) (by omega))
  refine k_aload_n hm hl 0 rfl dX7_addShifted_21 ?_
  refine k_callV (n := 0) (As := []) (rest := []) (wr := []) hm hw hl (c_m_saves l G D sa pa pn tx tn 0 ro wk mb so kd nu it ti rd ad R sp K w y sv (by first | assumption | omega) (by first | assumption | omega)) gX7_addShifted_X7_saves rfl (by decide +kernel) ⟨by decide, by decide⟩ (ci := 7) rfl 0 rfl [0, 1, 2, 3, 4, 5, 6, 7, 8] [] (by decide) rfl rfl (by decide) (by decide) rfl rfl (by simp [Value.category]) ⟨by decide, by decide⟩ dX7_addShifted_22 (fun v w1 H locs hp hw => ?_)
  obtain ⟨pa2_6, rfl, rfl, hpa2_7⟩ := hp
  have hw := hw.sub (ws' := wMod G D sa pa2_6 (Nat.min (pn + 1) 4) tx tn 0 ro wk mb so kd nu it ti rd ad) [0, 1, 2, 3, 4, 5, 6, 7, 8] (by decide) rfl
  refine W.eq (g2 := F0 m 25 ls []) rfl ?_
  have hpa9 := hpa2_7
  refine k_aload_n hm hl 0 rfl dX7_addShifted_25 ?_
  refine k_callVr (n := 0) (As := []) (rest := []) hm hw hl (c_m_last l G D sa pa2_6 (Nat.min (pn + 1) 4) tx tn 0 ro wk mb so kd nu it ti rd ad R sp K w y (by first | assumption | omega)) gX7_addShifted_X7_last rfl (by decide +kernel) ⟨by decide, by decide⟩ (ci := 7) rfl 0 rfl [0, 1, 2, 3, 4, 5, 6, 7, 8] (by decide) rfl rfl rfl (by simp [Value.category]) ⟨by decide, by decide⟩ dX7_addShifted_26 (fun v H locs hp hw => ?_)
  obtain rfl := hp
  refine W.eq (g2 := F0 m 29 ls [vN (sumM (K (R - 1)) (w (R - 1)))]) rfl ?_
  refine k_istore_n hm hl [(3, vN (sumM (K (R - 1)) (w (R - 1)))), (0, .ref (D 0)), (1, vN (t)), (2, vN (x))] (by decide) rfl dX7_addShifted_29 (fun ls hl => ?_)
  refine k_aload_n hm hl 1 rfl dX7_addShifted_30 ?_
  refine k_iload_n hm hl 2 rfl dX7_addShifted_31 ?_
  refine k_iload_n hm hl 3 rfl dX7_addShifted_32 ?_
  refine k_iload_n hm hl 2 rfl dX7_addShifted_33 ?_
  refine k_iload_n hm hl 0 rfl dX7_addShifted_34 ?_
  refine k_icmplt (tgt := 42) hm dX7_addShifted_35 (by decide) (by omega) (fun c_9 => ?_) (fun c_9 => ?_)
  · refine k_iload_n hm hl 2 rfl dX7_addShifted_42 ?_
    refine k_rwV (y := vN (pm (sumM (K (R - 1)) (w (R - 1))) t)) (by unfold pm; rw [if_neg (by omega)]) ?_
    have hml := Nat.mod_lt x (show 0 < pm (sumM (K (R - 1)) (w (R - 1))) t by omega)
    refine k_iremN hm (by omega) dX7_addShifted_43 ?_
    refine k_callV (n := 2) (As := [vN (t), vN (x % (pm (sumM (K (R - 1)) (w (R - 1))) t))]) (rest := []) (wr := []) hm hw hl (c_m_addsBest l G D sa pa2_6 (Nat.min (pn + 1) 4) tx tn 0 ro wk mb so kd nu it ti rd ad R sp K w y t (x % (pm (sumM (K (R - 1)) (w (R - 1))) t)) (by first | assumption | omega) (by first | assumption | omega) (by first | assumption | omega) (by first | assumption | omega) (by omega)) gX7_addShifted_X7_addsBest rfl (by decide +kernel) ⟨by decide, by decide⟩ (ci := 7) rfl 0 rfl [0, 1, 2, 3, 4, 5, 6, 7, 8] [] (by decide) rfl rfl (by decide) (by decide) rfl rfl (by simp [Value.category]) ⟨by decide, by decide⟩ dX7_addShifted_44 (fun v w1 H locs hp hw => ?_)
    obtain ⟨sa2_11, ro2_12, wk2_13, rfl, rfl, hmo2_14⟩ := hp
    have hw := hw.sub (ws' := wMod G D sa2_11 pa2_6 (Nat.min (pn + 1) 4) tx tn 0 ro2_12 wk2_13 mb so kd nu it ti rd ad) [0, 1, 2, 3, 4, 5, 6, 7, 8] (by decide) rfl
    refine W.eq (g2 := F0 m 47 ls []) rfl ?_
    have hmo9 := hmo2_14
    rw [show spR (sumM (K (R - 1)) (w (R - 1))) t (x % pm (sumM (K (R - 1)) (w (R - 1))) t) = spR (sumM (K (R - 1)) (w (R - 1))) t x from funext (fun i => by unfold spR; rw [Nat.add_mod_mod])] at hmo9
    refine k_aload_n hm hl 1 rfl dX7_addShifted_47 ?_
    refine k_aload_n hm hl 1 rfl dX7_addShifted_48 ?_
    refine k_callVr (n := 0) (As := []) (rest := [.ref (D 0)]) hm hw hl (c_m_rounds l G D sa2_11 pa2_6 (Nat.min (pn + 1) 4) tx tn 0 ro2_12 wk2_13 mb so kd nu it ti rd ad (R + 1) sp (fup K R (spR (sumM (K (R - 1)) (w (R - 1))) t x)) (fup w R (pm (sumM (K (R - 1)) (w (R - 1))) t)) y hmo9) gX7_addShifted_X7_rounds rfl (by decide +kernel) ⟨by decide, by decide⟩ (ci := 7) rfl 0 rfl [0, 1, 2, 3, 4, 5, 6, 7, 8] (by decide) rfl rfl rfl (by simp [Value.category]) ⟨by decide, by decide⟩ dX7_addShifted_49 (fun v H locs hp hw => ?_)
    obtain rfl := hp
    refine W.eq (g2 := F0 m 52 ls [vN (R + 1), .ref (D 0)]) rfl ?_
    refine k_iconstN hm 1 dX7_addShifted_52 ?_
    refine k_isubN hm (by omega) dX7_addShifted_53 ?_
    refine k_callV (n := 1) (As := [vN ((R + 1) - 1)]) (rest := []) (wr := []) hm hw hl (c_m_stackedOf l G D sa2_11 pa2_6 (Nat.min (pn + 1) 4) tx tn 0 ro2_12 wk2_13 mb so kd nu it ti rd ad (R + 1) sp (fup K R (spR (sumM (K (R - 1)) (w (R - 1))) t x)) (fup w R (pm (sumM (K (R - 1)) (w (R - 1))) t)) y ((R + 1) - 1) hmo9 (by omega)) gX7_addShifted_X7_stackedOf rfl (by decide +kernel) ⟨by decide, by decide⟩ (ci := 7) rfl 0 rfl [0, 1, 2, 3, 4, 5, 6, 7, 8] [] (by decide) rfl rfl (by decide) (by decide) rfl rfl (by simp [Value.category]) ⟨by decide, by decide⟩ dX7_addShifted_54 (fun v w1 H locs hp hw => ?_)
    obtain ⟨ro2_17, wk2_18, mb2_19, rfl, rfl⟩ := hp
    have hw := hw.sub (ws' := wMod G D sa2_11 pa2_6 (Nat.min (pn + 1) 4) tx tn 0 ro2_17 wk2_18 mb2_19 so kd nu it ti rd ad) [0, 1, 2, 3, 4, 5, 6, 7, 8] (by decide) rfl
    refine W.eq (g2 := F0 m 57 ls [vN (stkP (fup K R (spR (sumM (K (R - 1)) (w (R - 1))) t x)) (fup w R (pm (sumM (K (R - 1)) (w (R - 1))) t)) ((R + 1) - 1))]) rfl ?_
    exact k_iret (post := _) hm hQ rfl rfl hw (⟨_, _, _, _, _, by rw [show R + 1 - 1 = R by omega]; unfold stkP stkC; rw [if_neg (by omega), fup_s, fup_s, fup_n (by omega), fup_n (by omega)], rfl, hmo9, hpa9⟩) (by omega) (by omega) dX7_addShifted_57
  · refine k_iload_n hm hl 0 rfl dX7_addShifted_38 ?_
    refine k_goto (tgt := 43) hm dX7_addShifted_39 (by decide) ?_
    refine k_rwV (y := vN (pm (sumM (K (R - 1)) (w (R - 1))) t)) (by unfold pm; rw [if_pos (by omega)]) ?_
    have hml := Nat.mod_lt x (show 0 < pm (sumM (K (R - 1)) (w (R - 1))) t by omega)
    refine k_iremN hm (by omega) dX7_addShifted_43 ?_
    refine k_callV (n := 2) (As := [vN (t), vN (x % (pm (sumM (K (R - 1)) (w (R - 1))) t))]) (rest := []) (wr := []) hm hw hl (c_m_addsBest l G D sa pa2_6 (Nat.min (pn + 1) 4) tx tn 0 ro wk mb so kd nu it ti rd ad R sp K w y t (x % (pm (sumM (K (R - 1)) (w (R - 1))) t)) (by first | assumption | omega) (by first | assumption | omega) (by first | assumption | omega) (by first | assumption | omega) (by omega)) gX7_addShifted_X7_addsBest rfl (by decide +kernel) ⟨by decide, by decide⟩ (ci := 7) rfl 0 rfl [0, 1, 2, 3, 4, 5, 6, 7, 8] [] (by decide) rfl rfl (by decide) (by decide) rfl rfl (by simp [Value.category]) ⟨by decide, by decide⟩ dX7_addShifted_44 (fun v w1 H locs hp hw => ?_)
    obtain ⟨sa2_21, ro2_22, wk2_23, rfl, rfl, hmo2_24⟩ := hp
    have hw := hw.sub (ws' := wMod G D sa2_21 pa2_6 (Nat.min (pn + 1) 4) tx tn 0 ro2_22 wk2_23 mb so kd nu it ti rd ad) [0, 1, 2, 3, 4, 5, 6, 7, 8] (by decide) rfl
    refine W.eq (g2 := F0 m 47 ls []) rfl ?_
    have hmo9 := hmo2_24
    rw [show spR (sumM (K (R - 1)) (w (R - 1))) t (x % pm (sumM (K (R - 1)) (w (R - 1))) t) = spR (sumM (K (R - 1)) (w (R - 1))) t x from funext (fun i => by unfold spR; rw [Nat.add_mod_mod])] at hmo9
    refine k_aload_n hm hl 1 rfl dX7_addShifted_47 ?_
    refine k_aload_n hm hl 1 rfl dX7_addShifted_48 ?_
    refine k_callVr (n := 0) (As := []) (rest := [.ref (D 0)]) hm hw hl (c_m_rounds l G D sa2_21 pa2_6 (Nat.min (pn + 1) 4) tx tn 0 ro2_22 wk2_23 mb so kd nu it ti rd ad (R + 1) sp (fup K R (spR (sumM (K (R - 1)) (w (R - 1))) t x)) (fup w R (pm (sumM (K (R - 1)) (w (R - 1))) t)) y hmo9) gX7_addShifted_X7_rounds rfl (by decide +kernel) ⟨by decide, by decide⟩ (ci := 7) rfl 0 rfl [0, 1, 2, 3, 4, 5, 6, 7, 8] (by decide) rfl rfl rfl (by simp [Value.category]) ⟨by decide, by decide⟩ dX7_addShifted_49 (fun v H locs hp hw => ?_)
    obtain rfl := hp
    refine W.eq (g2 := F0 m 52 ls [vN (R + 1), .ref (D 0)]) rfl ?_
    refine k_iconstN hm 1 dX7_addShifted_52 ?_
    refine k_isubN hm (by omega) dX7_addShifted_53 ?_
    refine k_callV (n := 1) (As := [vN ((R + 1) - 1)]) (rest := []) (wr := []) hm hw hl (c_m_stackedOf l G D sa2_21 pa2_6 (Nat.min (pn + 1) 4) tx tn 0 ro2_22 wk2_23 mb so kd nu it ti rd ad (R + 1) sp (fup K R (spR (sumM (K (R - 1)) (w (R - 1))) t x)) (fup w R (pm (sumM (K (R - 1)) (w (R - 1))) t)) y ((R + 1) - 1) hmo9 (by omega)) gX7_addShifted_X7_stackedOf rfl (by decide +kernel) ⟨by decide, by decide⟩ (ci := 7) rfl 0 rfl [0, 1, 2, 3, 4, 5, 6, 7, 8] [] (by decide) rfl rfl (by decide) (by decide) rfl rfl (by simp [Value.category]) ⟨by decide, by decide⟩ dX7_addShifted_54 (fun v w1 H locs hp hw => ?_)
    obtain ⟨ro2_27, wk2_28, mb2_29, rfl, rfl⟩ := hp
    have hw := hw.sub (ws' := wMod G D sa2_21 pa2_6 (Nat.min (pn + 1) 4) tx tn 0 ro2_27 wk2_28 mb2_29 so kd nu it ti rd ad) [0, 1, 2, 3, 4, 5, 6, 7, 8] (by decide) rfl
    refine W.eq (g2 := F0 m 57 ls [vN (stkP (fup K R (spR (sumM (K (R - 1)) (w (R - 1))) t x)) (fup w R (pm (sumM (K (R - 1)) (w (R - 1))) t)) ((R + 1) - 1))]) rfl ?_
    exact k_iret (post := _) hm hQ rfl rfl hw (⟨_, _, _, _, _, by rw [show R + 1 - 1 = R by omega]; unfold stkP stkC; rw [if_neg (by omega), fup_s, fup_s, fup_n (by omega), fup_n (by omega)], rfl, hmo9, hpa9⟩) (by omega) (by omega) dX7_addShifted_57
