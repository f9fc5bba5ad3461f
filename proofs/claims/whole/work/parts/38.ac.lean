set_option maxHeartbeats 4000000 in
set_option maxRecDepth 100000 in
theorem c_m_whyNot_0 (l : Launch) (G : kG) (D : Nat → Nat) (sa : Nat → Int64) (pa : Nat → Int64) (pn : Nat) (tx : Nat → Nat) (tn : Nat) (rf : Nat) (ro : Nat → Nat) (wk : Nat) (mb : Nat → Nat) (so : Nat) (kd : Nat → Nat) (nu : Nat → Nat) (it : Nat) (ti : Nat) (rd : Nat) (ad : Nat → Int64) (R : Nat) (sp : Bool) (K : Nat → Nat → Nat) (w : Nat → Nat) (y : Nat → Nat) (t : Nat) (hmo : MOk sa R sp K w y) (hR40 : R < 40) (ht : 3 ≤ t ∧ t ≤ 120) (hpo : isPo (sumM (K (R - 1)) (w (R - 1))) t) : kCR l yX7_whyNot wsX7_whyNot 3 65 G [.ref (D 0), vB (true), vN (t)] (wMod G D sa pa pn tx tn rf ro wk mb so kd nu it ti rd ad) (fun vv => vv = some (vN (0))) := by
  refine kCM.of (cc := cX7_whyNot) (maxL := 3) (ret := (some .int)) (by decide) rfl (Nat.le_of_ble_eq_true rfl) ?_
  intro p e s m args below meth c A ls Qz hQ hin hm hw hl
  have hl : lv_has ls 3 [(0, .ref (D 0)), (1, vB (true)), (2, vN (t))] := hl
  have hR := hmo.1.1
  have hll := PVd_last hmo.1
  refine k_iload_n hm hl 1 rfl dX7_whyNot_0 ?_
  refine k_ifeqB (tgt := 14) hm dX7_whyNot_1 (by decide) (fun c_1 => absurd c_1 (by decide)) (fun _ => ?_)
  refine k_iload_n hm hl 2 rfl dX7_whyNot_4 ?_
  refine k_iconstN hm 3 dX7_whyNot_5 ?_
  refine k_bipushN hm 120 dX7_whyNot_6 rfl ?_
  refine k_callSr (n := 3) (As := [vN (t), vN (3), vN (120)]) (rest := []) hm hw hl (c_m_in l G ((t : Nat) : Int) ((3 : Nat) : Int) ((120 : Nat) : Int) (by first | assumption | omega)) gX7_whyNot_X7_in rfl (by decide +kernel) ⟨by decide, by decide⟩ [] (by decide) rfl rfl rfl (by simp [Value.category]) ⟨by decide, by decide⟩ dX7_whyNot_8 (fun v H locs hp hw => ?_)
  obtain rfl := hp
  refine W.eq (g2 := F0 m 11 ls [vB (decide (((3 : Nat) : Int) ≤ ((t : Nat) : Int) ∧ ((t : Nat) : Int) ≤ ((120 : Nat) : Int)))]) rfl ?_
  refine k_ifneB (tgt := 18) hm dX7_whyNot_11 (by decide) (fun c_3 => ?_) (fun c_3 => absurd (of_decide_eq_false c_3) (by omega))
  refine k_aload_n hm hl 0 rfl dX7_whyNot_18 ?_
  refine k_callVr (n := 0) (As := []) (rest := []) hm hw hl (c_m_rounds l G D sa pa pn tx tn rf ro wk mb so kd nu it ti rd ad R sp K w y (by first | assumption | omega)) gX7_whyNot_X7_rounds rfl (by decide +kernel) ⟨by decide, by decide⟩ (ci := 7) rfl 0 rfl [0, 1, 2, 3, 4, 5, 6, 7, 8] (by decide) rfl rfl rfl (by simp [Value.category]) ⟨by decide, by decide⟩ dX7_whyNot_19 (fun v H locs hp hw => ?_)
  obtain rfl := hp
  refine W.eq (g2 := F0 m 22 ls [vN (R)]) rfl ?_
  refine k_bipushN hm 40 dX7_whyNot_22 rfl ?_
  refine k_icmpne (tgt := 31) hm dX7_whyNot_24 (by decide) (by omega) (fun c_5 => ?_) (fun c_5 => absurd c_5 (by omega))
  refine k_iload_n hm hl 2 rfl dX7_whyNot_31 ?_
  refine k_aload_n hm hl 0 rfl dX7_whyNot_32 ?_
  refine k_callVr (n := 0) (As := []) (rest := [vN (t)]) hm hw hl (c_m_last l G D sa pa pn tx tn rf ro wk mb so kd nu it ti rd ad R sp K w y (by first | assumption | omega)) gX7_whyNot_X7_last rfl (by decide +kernel) ⟨by decide, by decide⟩ (ci := 7) rfl 0 rfl [0, 1, 2, 3, 4, 5, 6, 7, 8] (by decide) rfl rfl rfl (by simp [Value.category]) ⟨by decide, by decide⟩ dX7_whyNot_33 (fun v H locs hp hw => ?_)
  obtain rfl := hp
  refine W.eq (g2 := F0 m 36 ls [vN (sumM (K (R - 1)) (w (R - 1))), vN (t)]) rfl ?_
  refine k_callSr (n := 2) (As := [vN (t), vN (sumM (K (R - 1)) (w (R - 1)))]) (rest := []) hm hw hl (c_m_isPossible l G t (sumM (K (R - 1)) (w (R - 1))) (by first | assumption | omega)) gX7_whyNot_X7_isPossible rfl (by decide +kernel) ⟨by decide, by decide⟩ [] (by decide) rfl rfl rfl (by simp [Value.category]) ⟨by decide, by decide⟩ dX7_whyNot_36 (fun v H locs hp hw => ?_)
  obtain ⟨b_8, rfl, hb_9⟩ := hp
  refine W.eq (g2 := F0 m 39 ls [vB (b_8)]) rfl ?_
  have hbp := hb_9
  refine k_rwV (y := vB (true)) (by rw [hbp.mpr hpo]) ?_
  refine k_ifeqB (tgt := 46) hm dX7_whyNot_39 (by decide) (fun c_10 => absurd c_10 (by decide)) (fun _ => ?_)
  refine k_iconstN hm 0 dX7_whyNot_42 ?_
  refine k_goto (tgt := 47) hm dX7_whyNot_43 (by decide) ?_
  exact k_iret (post := _) hm hQ rfl rfl hw (⟨rfl, rfl⟩) (by omega) (by omega) dX7_whyNot_47
set_option maxHeartbeats 4000000 in
set_option maxRecDepth 100000 in
theorem c_m_whyNot_1 (l : Launch) (G : kG) (D : Nat → Nat) (sa : Nat → Int64) (pa : Nat → Int64) (pn : Nat) (tx : Nat → Nat) (tn : Nat) (rf : Nat) (ro : Nat → Nat) (wk : Nat) (mb : Nat → Nat) (so : Nat) (kd : Nat → Nat) (nu : Nat → Nat) (it : Nat) (ti : Nat) (rd : Nat) (ad : Nat → Int64) (R : Nat) (sp : Bool) (K : Nat → Nat → Nat) (w : Nat → Nat) (y : Nat → Nat) (z : Int) (hmo : MOk sa R sp K w y) (hz : (-2147483648 ≤ z ∧ z < 2147483648) ∧ ¬ (3 ≤ z ∧ z ≤ 120)) : kCR l yX7_whyNot wsX7_whyNot 3 65 G [.ref (D 0), vB (true), vZ (z)] (wMod G D sa pa pn tx tn rf ro wk mb so kd nu it ti rd ad) (fun vv => vv = some (vN (1))) := by
  refine kCM.of (cc := cX7_whyNot) (maxL := 3) (ret := (some .int)) (by decide) rfl (Nat.le_of_ble_eq_true rfl) ?_
  intro p e s m args below meth c A ls Qz hQ hin hm hw hl
  have hl : lv_has ls 3 [(0, .ref (D 0)), (1, vB (true)), (2, vZ (z))] := hl
  have hR := hmo.1.1
  have hll := PVd_last hmo.1
  refine k_iload_n hm hl 1 rfl dX7_whyNot_0 ?_
  refine k_ifeqB (tgt := 14) hm dX7_whyNot_1 (by decide) (fun c_1 => absurd c_1 (by decide)) (fun _ => ?_)
  refine k_iload_n hm hl 2 rfl dX7_whyNot_4 ?_
  refine k_iconstN hm 3 dX7_whyNot_5 ?_
  refine k_bipushN hm 120 dX7_whyNot_6 rfl ?_
  refine k_callSr (n := 3) (As := [vZ (z), vN (3), vN (120)]) (rest := []) hm hw hl (c_m_in l G z ((3 : Nat) : Int) ((120 : Nat) : Int) (by first | assumption | omega)) gX7_whyNot_X7_in rfl (by decide +kernel) ⟨by decide, by decide⟩ [] (by decide) rfl rfl rfl (by simp [Value.category]) ⟨by decide, by decide⟩ dX7_whyNot_8 (fun v H locs hp hw => ?_)
  obtain rfl := hp
  refine W.eq (g2 := F0 m 11 ls [vB (decide (((3 : Nat) : Int) ≤ z ∧ z ≤ ((120 : Nat) : Int)))]) rfl ?_
  refine k_ifneB (tgt := 18) hm dX7_whyNot_11 (by decide) (fun c_3 => absurd (of_decide_eq_true c_3) (by omega)) (fun c_3 => ?_)
  refine k_iconstN hm 1 dX7_whyNot_14 ?_
  refine k_goto (tgt := 47) hm dX7_whyNot_15 (by decide) ?_
  exact k_iret (post := _) hm hQ rfl rfl hw (⟨rfl, rfl⟩) (by omega) (by omega) dX7_whyNot_47
set_option maxHeartbeats 4000000 in
set_option maxRecDepth 100000 in
theorem c_m_whyNot_b (l : Launch) (G : kG) (D : Nat → Nat) (sa : Nat → Int64) (pa : Nat → Int64) (pn : Nat) (tx : Nat → Nat) (tn : Nat) (rf : Nat) (ro : Nat → Nat) (wk : Nat) (mb : Nat → Nat) (so : Nat) (kd : Nat → Nat) (nu : Nat → Nat) (it : Nat) (ti : Nat) (rd : Nat) (ad : Nat → Int64) (R : Nat) (sp : Bool) (K : Nat → Nat → Nat) (w : Nat → Nat) (y : Nat → Nat) (z : Int) (hmo : MOk sa R sp K w y) : kCR l yX7_whyNot wsX7_whyNot 3 65 G [.ref (D 0), vB (false), vZ (z)] (wMod G D sa pa pn tx tn rf ro wk mb so kd nu it ti rd ad) (fun vv => vv = some (vN (1))) := by
  refine kCM.of (cc := cX7_whyNot) (maxL := 3) (ret := (some .int)) (by decide) rfl (Nat.le_of_ble_eq_true rfl) ?_
  intro p e s m args below meth c A ls Qz hQ hin hm hw hl
  have hl : lv_has ls 3 [(0, .ref (D 0)), (1, vB (false)), (2, vZ (z))] := hl
  refine k_iload_n hm hl 1 rfl dX7_whyNot_0 ?_
  refine k_ifeqB (tgt := 14) hm dX7_whyNot_1 (by decide) (fun _ => ?_) (fun c_1 => absurd c_1 (by decide))
  refine k_iconstN hm 1 dX7_whyNot_14 ?_
  refine k_goto (tgt := 47) hm dX7_whyNot_15 (by decide) ?_
  exact k_iret (post := _) hm hQ rfl rfl hw (⟨rfl, rfl⟩) (by omega) (by omega) dX7_whyNot_47
set_option maxHeartbeats 4000000 in
set_option maxRecDepth 100000 in
theorem c_m_whyNot_2 (l : Launch) (G : kG) (D : Nat → Nat) (sa : Nat → Int64) (pa : Nat → Int64) (pn : Nat) (tx : Nat → Nat) (tn : Nat) (rf : Nat) (ro : Nat → Nat) (wk : Nat) (mb : Nat → Nat) (so : Nat) (kd : Nat → Nat) (nu : Nat → Nat) (it : Nat) (ti : Nat) (rd : Nat) (ad : Nat → Int64) (R : Nat) (sp : Bool) (K : Nat → Nat → Nat) (w : Nat → Nat) (y : Nat → Nat) (t : Nat) (hmo : MOk sa R sp K w y) (ht : 3 ≤ t ∧ t ≤ 120) (h40 : R = 40) : kCR l yX7_whyNot wsX7_whyNot 3 65 G [.ref (D 0), vB (true), vN (t)] (wMod G D sa pa pn tx tn rf ro wk mb so kd nu it ti rd ad) (fun vv => vv = some (vN (2))) := by
  refine kCM.of (cc := cX7_whyNot) (maxL := 3) (ret := (some .int)) (by decide) rfl (Nat.le_of_ble_eq_true rfl) ?_
  intro p e s m args below meth c A ls Qz hQ hin hm hw hl
  have hl : lv_has ls 3 [(0, .ref (D 0)), (1, vB (true)), (2, vN (t))] := hl
  have hR := hmo.1.1
  have hll := PVd_last hmo.1
  refine k_iload_n hm hl 1 rfl dX7_whyNot_0 ?_
  refine k_ifeqB (tgt := 14) hm dX7_whyNot_1 (by decide) (fun c_1 => absurd c_1 (by decide)) (fun _ => ?_)
  refine k_iload_n hm hl 2 rfl dX7_whyNot_4 ?_
  refine k_iconstN hm 3 dX7_whyNot_5 ?_
  refine k_bipushN hm 120 dX7_whyNot_6 rfl ?_
  refine k_callSr (n := 3) (As := [vN (t), vN (3), vN (120)]) (rest := []) hm hw hl (c_m_in l G ((t : Nat) : Int) ((3 : Nat) : Int) ((120 : Nat) : Int) (by first | assumption | omega)) gX7_whyNot_X7_in rfl (by decide +kernel) ⟨by decide, by decide⟩ [] (by decide) rfl rfl rfl (by simp [Value.category]) ⟨by decide, by decide⟩ dX7_whyNot_8 (fun v H locs hp hw => ?_)
  obtain rfl := hp
  refine W.eq (g2 := F0 m 11 ls [vB (decide (((3 : Nat) : Int) ≤ ((t : Nat) : Int) ∧ ((t : Nat) : Int) ≤ ((120 : Nat) : Int)))]) rfl ?_
  refine k_ifneB (tgt := 18) hm dX7_whyNot_11 (by decide) (fun c_3 => ?_) (fun c_3 => absurd (of_decide_eq_false c_3) (by omega))
  refine k_aload_n hm hl 0 rfl dX7_whyNot_18 ?_
  refine k_callVr (n := 0) (As := []) (rest := []) hm hw hl (c_m_rounds l G D sa pa pn tx tn rf ro wk mb so kd nu it ti rd ad R sp K w y (by first | assumption | omega)) gX7_whyNot_X7_rounds rfl (by decide +kernel) ⟨by decide, by decide⟩ (ci := 7) rfl 0 rfl [0, 1, 2, 3, 4, 5, 6, 7, 8] (by decide) rfl rfl rfl (by simp [Value.category]) ⟨by decide, by decide⟩ dX7_whyNot_19 (fun v H locs hp hw => ?_)
  obtain rfl := hp
  refine W.eq (g2 := F0 m 22 ls [vN (R)]) rfl ?_
  refine k_bipushN hm 40 dX7_whyNot_22 rfl ?_
  refine k_icmpne (tgt := 31) hm dX7_whyNot_24 (by decide) (by omega) (fun c_5 => absurd c_5 (by omega)) (fun c_5 => ?_)
  refine k_iconstN hm 2 dX7_whyNot_27 ?_
  refine k_goto (tgt := 47) hm dX7_whyNot_28 (by decide) ?_
  exact k_iret (post := _) hm hQ rfl rfl hw (⟨rfl, rfl⟩) (by omega) (by omega) dX7_whyNot_47
set_option maxHeartbeats 4000000 in
set_option maxRecDepth 100000 in
theorem c_m_whyNot_3 (l : Launch) (G : kG) (D : Nat → Nat) (sa : Nat → Int64) (pa : Nat → Int64) (pn : Nat) (tx : Nat → Nat) (tn : Nat) (rf : Nat) (ro : Nat → Nat) (wk : Nat) (mb : Nat → Nat) (so : Nat) (kd : Nat → Nat) (nu : Nat → Nat) (it : Nat) (ti : Nat) (rd : Nat) (ad : Nat → Int64) (R : Nat) (sp : Bool) (K : Nat → Nat → Nat) (w : Nat → Nat) (y : Nat → Nat) (t : Nat) (hmo : MOk sa R sp K w y) (hR40 : R < 40) (ht : 3 ≤ t ∧ t ≤ 120) (hpo : ¬ isPo (sumM (K (R - 1)) (w (R - 1))) t) : kCR l yX7_whyNot wsX7_whyNot 3 65 G [.ref (D 0), vB (true), vN (t)] (wMod G D sa pa pn tx tn rf ro wk mb so kd nu it ti rd ad) (fun vv => vv = some (vN (3))) := by
  refine kCM.of (cc := cX7_whyNot) (maxL := 3) (ret := (some .int)) (by decide) rfl (Nat.le_of_ble_eq_true rfl) ?_
  intro p e s m args below meth c A ls Qz hQ hin hm hw hl
  have hl : lv_has ls 3 [(0, .ref (D 0)), (1, vB (true)), (2, vN (t))] := hl
  have hR := hmo.1.1
  have hll := PVd_last hmo.1
  refine k_iload_n hm hl 1 rfl dX7_whyNot_0 ?_
  refine k_ifeqB (tgt := 14) hm dX7_whyNot_1 (by decide) (fun c_1 => absurd c_1 (by decide)) (fun _ => ?_)
  refine k_iload_n hm hl 2 rfl dX7_whyNot_4 ?_
  refine k_iconstN hm 3 dX7_whyNot_5 ?_
  refine k_bipushN hm 120 dX7_whyNot_6 rfl ?_
  refine k_callSr (n := 3) (As := [vN (t), vN (3), vN (120)]) (rest := []) hm hw hl (c_m_in l G ((t : Nat) : Int) ((3 : Nat) : Int) ((120 : Nat) : Int) (by first | assumption | omega)) gX7_whyNot_X7_in rfl (by decide +kernel) ⟨by decide, by decide⟩ [] (by decide) rfl rfl rfl (by simp [Value.category]) ⟨by decide, by decide⟩ dX7_whyNot_8 (fun v H locs hp hw => ?_)
  obtain rfl := hp
  refine W.eq (g2 := F0 m 11 ls [vB (decide (((3 : Nat) : Int) ≤ ((t : Nat) : Int) ∧ ((t : Nat) : Int) ≤ ((120 : Nat) : Int)))]) rfl ?_
  refine k_ifneB (tgt := 18) hm dX7_whyNot_11 (by decide) (fun c_3 => ?_) (fun c_3 => absurd (of_decide_eq_false c_3) (by omega))
  refine k_aload_n hm hl 0 rfl dX7_whyNot_18 ?_
  refine k_callVr (n := 0) (As := []) (rest := []) hm hw hl (c_m_rounds l G D sa pa pn tx tn rf ro wk mb so kd nu it ti rd ad R sp K w y (by first | assumption | omega)) gX7_whyNot_X7_rounds rfl (by decide +kernel) ⟨by decide, by decide⟩ (ci := 7) rfl 0 rfl [0, 1, 2, 3, 4, 5, 6, 7, 8] (by decide) rfl rfl rfl (by simp [Value.category]) ⟨by decide, by decide⟩ dX7_whyNot_19 (fun v H locs hp hw => ?_)
  obtain rfl := hp
  refine W.eq (g2 := F0 m 22 ls [vN (R)]) rfl ?_
  refine k_bipushN hm 40 dX7_whyNot_22 rfl ?_
  refine k_icmpne (tgt := 31) hm dX7_whyNot_24 (by decide) (by omega) (fun c_5 => ?_) (fun c_5 => absurd c_5 (by omega))
  refine k_iload_n hm hl 2 rfl dX7_whyNot_31 ?_
  refine k_aload_n hm hl 0 rfl dX7_whyNot_32 ?_
  refine k_callVr (n := 0) (As := []) (rest := [vN (t)]) hm hw hl (c_m_last l G D sa pa pn tx tn rf ro wk mb so kd nu it ti rd ad R sp K w y (by first | assumption | omega)) gX7_whyNot_X7_last rfl (by decide +kernel) ⟨by decide, by decide⟩ (ci := 7) rfl 0 rfl [0, 1, 2, 3, 4, 5, 6, 7, 8] (by decide) rfl rfl rfl (by simp [Value.category]) ⟨by decide, by decide⟩ dX7_whyNot_33 (fun v H locs hp hw => ?_)
  obtain rfl := hp
  refine W.eq (g2 := F0 m 36 ls [vN (sumM (K (R - 1)) (w (R - 1))), vN (t)]) rfl ?_
  refine k_callSr (n := 2) (As := [vN (t), vN (sumM (K (R - 1)) (w (R - 1)))]) (rest := []) hm hw hl (c_m_isPossible l G t (sumM (K (R - 1)) (w (R - 1))) (by first | assumption | omega)) gX7_whyNot_X7_isPossible rfl (by decide +kernel) ⟨by decide, by decide⟩ [] (by decide) rfl rfl rfl (by simp [Value.category]) ⟨by decide, by decide⟩ dX7_whyNot_36 (fun v H locs hp hw => ?_)
  obtain ⟨b_8, rfl, hb_9⟩ := hp
  refine W.eq (g2 := F0 m 39 ls [vB (b_8)]) rfl ?_
  have hbp := hb_9
  refine k_rwV (y := vB (false)) (by rw [show b_8 = false from by cases hq : b_8 with | false => rfl | true => exact absurd (hbp.mp hq) hpo]) ?_
  refine k_ifeqB (tgt := 46) hm dX7_whyNot_39 (by decide) (fun _ => ?_) (fun c_10 => absurd c_10 (by decide))
  refine k_iconstN hm 3 dX7_whyNot_46 ?_
  exact k_iret (post := _) hm hQ rfl rfl hw (⟨rfl, rfl⟩) (by omega) (by omega) dX7_whyNot_47
set_option maxHeartbeats 4000000 in
set_option maxRecDepth 100000 in
theorem c_m_addRound_ok (l : Launch) (G : kG) (D : Nat → Nat) (sa : Nat → Int64) (pa : Nat → Int64) (pn : Nat) (tx : Nat → Nat) (tn : Nat) (rf : Nat) (ro : Nat → Nat) (wk : Nat) (mb : Nat → Nat) (so : Nat) (kd : Nat → Nat) (nu : Nat → Nat) (it : Nat) (ti : Nat) (rd : Nat) (ad : Nat → Int64) (R : Nat) (sp : Bool) (K : Nat → Nat → Nat) (w : Nat → Nat) (y : Nat → Nat) (sv : Nat → PSt) (t : Nat) (hmo : MOk sa R sp K w y) (hpa : PaOk pa pn sv) (hR40 : R < 40) (ht : 3 ≤ t ∧ t ≤ 120) (hpo : isPo (sumM (K (R - 1)) (w (R - 1))) t) : kCM l yX7_addRound wsX7_addRound 4 92 0 0 G [.ref (D 0), vN (t)] (wMod G D sa pa pn tx tn rf ro wk mb so kd nu it ti rd ad) (fun vv uu => ∃ (b : Nat), ∃ (sa2 : Nat → Int64), ∃ (pa2 : Nat → Int64), ∃ (ro2 : Nat → Nat), ∃ (wk2 : Nat), ∃ (mb2 : Nat → Nat), vv = some (vN (b)) ∧ uu = wMod G D sa2 pa2 (Nat.min (pn + 1) 4) tx tn 0 ro2 wk2 mb2 so kd nu it ti rd ad ∧ (isBst (stkC (K (R - 1)) (w (R - 1)) (sumM (K (R - 1)) (w (R - 1))) t) (pm (sumM (K (R - 1)) (w (R - 1))) t) b) ∧ (MOk sa2 (R + 1) sp (fup K R (spR (sumM (K (R - 1)) (w (R - 1))) t b)) (fup w R (pm (sumM (K (R - 1)) (w (R - 1))) t)) y) ∧ (PaOk pa2 (Nat.min (pn + 1) 4) (svPush (R, sp, K, w, y) sv))) := by
  refine kCM.of (cc := cX7_addRound) (maxL := 3) (ret := (some .int)) (by decide) rfl (Nat.le_of_ble_eq_true rfl) ?_
  intro p e s m args below meth c A ls Qz hQ hin hm hw hl
  have hl : lv_has ls 3 [(0, .ref (D 0)), (1, vN (t))] := hl
  have hR := hmo.1.1
  have hll := PVd_last hmo.1
  refine k_aload_n hm hl 0 rfl dX7_addRound_0 ?_
  refine k_aload_n hm hl 0 rfl dX7_addRound_1 ?_
  refine k_iconstN hm 1 dX7_addRound_2 ?_
  refine k_iload_n hm hl 1 rfl dX7_addRound_3 ?_
  refine k_callVr (n := 2) (As := [vN (1), vN (t)]) (rest := [.ref (D 0)]) hm hw hl (c_m_whyNot_0 l G D sa pa pn tx tn rf ro wk mb so kd nu it ti rd ad R sp K w y t (by first | assumption | omega) (by first | assumption | omega) (by first | assumption | omega) (by first | assumption | omega)) gX7_addRound_X7_whyNot rfl (by decide +kernel) ⟨by decide, by decide⟩ (ci := 7) rfl 0 rfl [0, 1, 2, 3, 4, 5, 6, 7, 8] (by decide) rfl rfl rfl (by simp [Value.category]) ⟨by decide, by decide⟩ dX7_addRound_4 (fun v H locs hp hw => ?_)
  obtain rfl := hp
  refine W.eq (g2 := F0 m 7 ls [vN (0), .ref (D 0)]) rfl ?_
  refine k_callV (n := 1) (As := [vN (0)]) (rest := []) (wr := []) hm hw hl (c_m_throwsAt l G D sa pa pn tx tn rf ro wk mb so kd nu it ti rd ad 0 (by first | assumption | omega)) gX7_addRound_X7_throwsAt rfl (by decide +kernel) ⟨by decide, by decide⟩ (ci := 7) rfl 0 rfl [0, 1, 2, 3, 4, 5, 6, 7, 8] [] (by decide) rfl rfl (by decide) (by decide) rfl rfl (by simp [Value.category]) ⟨by decide, by decide⟩ dX7_addRound_7 (fun v w1 H locs hp hw => ?_)
  obtain ⟨rfl, rfl⟩ := hp
  have hw := hw.sub (ws' := wMod G D sa pa pn tx tn 0 ro wk mb so kd nu it ti rd ad) [0, 1, 2, 3, 4, 5, 6, 7, 8] (by decide) rfl
  refine W.eq (g2 := F0 m 10 ls [vB (decide (0 < 0))]) rfl ?_
  refine k_ifeqB (tgt := 15) hm dX7_addRound_10 (by decide) (fun c_3 => ?_) (fun c_3 => absurd (of_decide_eq_true c_3) (by omega))
  refine k_aload_n hm hl 0 rfl dX7_addRound_15 ?_
  refine k_callV (n := 0) (As := []) (rest := []) (wr := []) hm hw hl (c_m_saves l G D sa pa pn tx tn 0 ro wk mb so kd nu it ti rd ad R sp K w y sv (by first | assumption | omega) (by first | assumption | omega)) gX7_addRound_X7_saves rfl (by decide +kernel) ⟨by decide, by decide⟩ (ci := 7) rfl 0 rfl [0, 1, 2, 3, 4, 5, 6, 7, 8] [] (by decide) rfl rfl (by decide) (by decide) rfl rfl (by simp [Value.category]) ⟨by decide, by decide⟩ dX7_addRound_16 (fun v w1 H locs hp hw => ?_)
  obtain ⟨pa2_5, rfl, rfl, hpa2_6⟩ := hp
  have hw := hw.sub (ws' := wMod G D sa pa2_5 (Nat.min (pn + 1) 4) tx tn 0 ro wk mb so kd nu it ti rd ad) [0, 1, 2, 3, 4, 5, 6, 7, 8] (by decide) rfl
  refine W.eq (g2 := F0 m 19 ls []) rfl ?_
  have hpa9 := hpa2_6
  refine k_aload_n hm hl 0 rfl dX7_addRound_19 ?_
  refine k_iload_n hm hl 1 rfl dX7_addRound_20 ?_
  refine k_callV (n := 1) (As := [vN (t)]) (rest := []) (wr := []) hm hw hl (c_m_bestShift l G D sa pa2_5 (Nat.min (pn + 1) 4) tx tn 0 ro wk mb so kd nu it ti rd ad R sp K w y t (by first | assumption | omega) (by first | assumption | omega) (by first | assumption | omega)) gX7_addRound_X7_bestShift rfl (by decide +kernel) ⟨by decide, by decide⟩ (ci := 7) rfl 0 rfl [0, 1, 2, 3, 4, 5, 6, 7, 8] [] (by decide) rfl rfl (by decide) (by decide) rfl rfl (by simp [Value.category]) ⟨by decide, by decide⟩ dX7_addRound_21 (fun v w1 H locs hp hw => ?_)
  obtain ⟨b_8, ro2_9, wk2_10, mb2_11, rfl, rfl, hb_12⟩ := hp
  have hw := hw.sub (ws' := wMod G D sa pa2_5 (Nat.min (pn + 1) 4) tx tn 0 ro2_9 wk2_10 mb2_11 so kd nu it ti rd ad) [0, 1, 2, 3, 4, 5, 6, 7, 8] (by decide) rfl
  refine W.eq (g2 := F0 m 24 ls [vN (b_8)]) rfl ?_
  have hb9 := hb_12
  have hb8 := hb9.1
  have hpm8 := pm_le (n := (sumM (K (R - 1)) (w (R - 1)))) (t := t) (by omega)
  refine k_istore_n hm hl [(2, vN (b_8)), (0, .ref (D 0)), (1, vN (t))] (by decide) rfl dX7_addRound_24 (fun ls hl => ?_)
  refine k_aload_n hm hl 1 rfl dX7_addRound_25 ?_
  refine k_iload_n hm hl 2 rfl dX7_addRound_26 ?_
  refine k_iload_n hm hl 0 rfl dX7_addRound_27 ?_
  refine k_callV (n := 2) (As := [vN (t), vN (b_8)]) (rest := []) (wr := []) hm hw hl (c_m_addsBest l G D sa pa2_5 (Nat.min (pn + 1) 4) tx tn 0 ro2_9 wk2_10 mb2_11 so kd nu it ti rd ad R sp K w y t b_8 (by first | assumption | omega) (by first | assumption | omega) (by first | assumption | omega) (by first | assumption | omega) (by omega)) gX7_addRound_X7_addsBest rfl (by decide +kernel) ⟨by decide, by decide⟩ (ci := 7) rfl 0 rfl [0, 1, 2, 3, 4, 5, 6, 7, 8] [] (by decide) rfl rfl (by decide) (by decide) rfl rfl (by simp [Value.category]) ⟨by decide, by decide⟩ dX7_addRound_28 (fun v w1 H locs hp hw => ?_)
  obtain ⟨sa2_14, ro2_15, wk2_16, rfl, rfl, hmo2_17⟩ := hp
  have hw := hw.sub (ws' := wMod G D sa2_14 pa2_5 (Nat.min (pn + 1) 4) tx tn 0 ro2_15 wk2_16 mb2_11 so kd nu it ti rd ad) [0, 1, 2, 3, 4, 5, 6, 7, 8] (by decide) rfl
  refine W.eq (g2 := F0 m 31 ls []) rfl ?_
  have hmo9 := hmo2_17
  refine k_iload_n hm hl 0 rfl dX7_addRound_31 ?_
  exact k_iret (post := _) hm hQ rfl rfl hw (⟨_, _, _, _, _, _, rfl, rfl, hb9, hmo9, hpa9⟩) (by omega) (by omega) dX7_addRound_32
set_option maxHeartbeats 4000000 in
set_option maxRecDepth 100000 in
theorem c_m_addRound_x1 (l : Launch) (G : kG) (D : Nat → Nat) (sa : Nat → Int64) (pa : Nat → Int64) (pn : Nat) (tx : Nat → Nat) (tn : Nat) (rf : Nat) (ro : Nat → Nat) (wk : Nat) (mb : Nat → Nat) (so : Nat) (kd : Nat → Nat) (nu : Nat → Nat) (it : Nat) (ti : Nat) (rd : Nat) (ad : Nat → Int64) (R : Nat) (sp : Bool) (K : Nat → Nat → Nat) (w : Nat → Nat) (y : Nat → Nat) (z : Int) (hmo : MOk sa R sp K w y) (hz : (-2147483648 ≤ z ∧ z < 2147483648) ∧ ¬ (3 ≤ z ∧ z ≤ 120)) : kCM l yX7_addRound wsX7_addRound 4 92 0 0 G [.ref (D 0), vZ (z)] (wMod G D sa pa pn tx tn rf ro wk mb so kd nu it ti rd ad) (fun vv uu => vv = some (vN (0)) ∧ uu = wMod G D sa pa pn tx tn 1 ro wk mb so kd nu it ti rd ad) := by
  refine kCM.of (cc := cX7_addRound) (maxL := 3) (ret := (some .int)) (by decide) rfl (Nat.le_of_ble_eq_true rfl) ?_
  intro p e s m args below meth c A ls Qz hQ hin hm hw hl
  have hl : lv_has ls 3 [(0, .ref (D 0)), (1, vZ (z))] := hl
  refine k_aload_n hm hl 0 rfl dX7_addRound_0 ?_
  refine k_aload_n hm hl 0 rfl dX7_addRound_1 ?_
  refine k_iconstN hm 1 dX7_addRound_2 ?_
  refine k_iload_n hm hl 1 rfl dX7_addRound_3 ?_
  refine k_callVr (n := 2) (As := [vN (1), vZ (z)]) (rest := [.ref (D 0)]) hm hw hl (c_m_whyNot_1 l G D sa pa pn tx tn rf ro wk mb so kd nu it ti rd ad R sp K w y z (by first | assumption | omega) (by first | assumption | omega)) gX7_addRound_X7_whyNot rfl (by decide +kernel) ⟨by decide, by decide⟩ (ci := 7) rfl 0 rfl [0, 1, 2, 3, 4, 5, 6, 7, 8] (by decide) rfl rfl rfl (by simp [Value.category]) ⟨by decide, by decide⟩ dX7_addRound_4 (fun v H locs hp hw => ?_)
  obtain rfl := hp
  refine W.eq (g2 := F0 m 7 ls [vN (1), .ref (D 0)]) rfl ?_
  refine k_callV (n := 1) (As := [vN (1)]) (rest := []) (wr := []) hm hw hl (c_m_throwsAt l G D sa pa pn tx tn rf ro wk mb so kd nu it ti rd ad 1 (by first | assumption | omega)) gX7_addRound_X7_throwsAt rfl (by decide +kernel) ⟨by decide, by decide⟩ (ci := 7) rfl 0 rfl [0, 1, 2, 3, 4, 5, 6, 7, 8] [] (by decide) rfl rfl (by decide) (by decide) rfl rfl (by simp [Value.category]) ⟨by decide, by decide⟩ dX7_addRound_7 (fun v w1 H locs hp hw => ?_)
  obtain ⟨rfl, rfl⟩ := hp
  have hw := hw.sub (ws' := wMod G D sa pa pn tx tn 1 ro wk mb so kd nu it ti rd ad) [0, 1, 2, 3, 4, 5, 6, 7, 8] (by decide) rfl
  refine W.eq (g2 := F0 m 10 ls [vB (decide (0 < 1))]) rfl ?_
  refine k_ifeqB (tgt := 15) hm dX7_addRound_10 (by decide) (fun c_3 => absurd (of_decide_eq_false c_3) (by omega)) (fun c_3 => ?_)
  refine k_iconstN hm 0 dX7_addRound_13 ?_
  exact k_iret (post := _) hm hQ rfl rfl hw (⟨rfl, rfl⟩) (by omega) (by omega) dX7_addRound_14
set_option maxHeartbeats 4000000 in
set_option maxRecDepth 100000 in
theorem c_m_addRound_x2 (l : Launch) (G : kG) (D : Nat → Nat) (sa : Nat → Int64) (pa : Nat → Int64) (pn : Nat) (tx : Nat → Nat) (tn : Nat) (rf : Nat) (ro : Nat → Nat) (wk : Nat) (mb : Nat → Nat) (so : Nat) (kd : Nat → Nat) (nu : Nat → Nat) (it : Nat) (ti : Nat) (rd : Nat) (ad : Nat → Int64) (R : Nat) (sp : Bool) (K : Nat → Nat → Nat) (w : Nat → Nat) (y : Nat → Nat) (t : Nat) (hmo : MOk sa R sp K w y) (ht : 3 ≤ t ∧ t ≤ 120) (h40 : R = 40) : kCM l yX7_addRound wsX7_addRound 4 92 0 0 G [.ref (D 0), vN (t)] (wMod G D sa pa pn tx tn rf ro wk mb so kd nu it ti rd ad) (fun vv uu => vv = some (vN (0)) ∧ uu = wMod G D sa pa pn tx tn 2 ro wk mb so kd nu it ti rd ad) := by
  refine kCM.of (cc := cX7_addRound) (maxL := 3) (ret := (some .int)) (by decide) rfl (Nat.le_of_ble_eq_true rfl) ?_
  intro p e s m args below meth c A ls Qz hQ hin hm hw hl
  have hl : lv_has ls 3 [(0, .ref (D 0)), (1, vN (t))] := hl
  refine k_aload_n hm hl 0 rfl dX7_addRound_0 ?_
  refine k_aload_n hm hl 0 rfl dX7_addRound_1 ?_
  refine k_iconstN hm 1 dX7_addRound_2 ?_
  refine k_iload_n hm hl 1 rfl dX7_addRound_3 ?_
  refine k_callVr (n := 2) (As := [vN (1), vN (t)]) (rest := [.ref (D 0)]) hm hw hl (c_m_whyNot_2 l G D sa pa pn tx tn rf ro wk mb so kd nu it ti rd ad R sp K w y t (by first | assumption | omega) (by first | assumption | omega) (by first | assumption | omega)) gX7_addRound_X7_whyNot rfl (by decide +kernel) ⟨by decide, by decide⟩ (ci := 7) rfl 0 rfl [0, 1, 2, 3, 4, 5, 6, 7, 8] (by decide) rfl rfl rfl (by simp [Value.category]) ⟨by decide, by decide⟩ dX7_addRound_4 (fun v H locs hp hw => ?_)
  obtain rfl := hp
  refine W.eq (g2 := F0 m 7 ls [vN (2), .ref (D 0)]) rfl ?_
  refine k_callV (n := 1) (As := [vN (2)]) (rest := []) (wr := []) hm hw hl (c_m_throwsAt l G D sa pa pn tx tn rf ro wk mb so kd nu it ti rd ad 2 (by first | assumption | omega)) gX7_addRound_X7_throwsAt rfl (by decide +kernel) ⟨by decide, by decide⟩ (ci := 7) rfl 0 rfl [0, 1, 2, 3, 4, 5, 6, 7, 8] [] (by decide) rfl rfl (by decide) (by decide) rfl rfl (by simp [Value.category]) ⟨by decide, by decide⟩ dX7_addRound_7 (fun v w1 H locs hp hw => ?_)
  obtain ⟨rfl, rfl⟩ := hp
  have hw := hw.sub (ws' := wMod G D sa pa pn tx tn 2 ro wk mb so kd nu it ti rd ad) [0, 1, 2, 3, 4, 5, 6, 7, 8] (by decide) rfl
  refine W.eq (g2 := F0 m 10 ls [vB (decide (0 < 2))]) rfl ?_
  refine k_ifeqB (tgt := 15) hm dX7_addRound_10 (by decide) (fun c_3 => absurd (of_decide_eq_false c_3) (by omega)) (fun c_3 => ?_)
  refine k_iconstN hm 0 dX7_addRound_13 ?_
  exact k_iret (post := _) hm hQ rfl rfl hw (⟨rfl, rfl⟩) (by omega) (by omega) dX7_addRound_14
set_option maxHeartbeats 4000000 in
set_option maxRecDepth 100000 in
theorem c_m_addRound_x3 (l : Launch) (G : kG) (D : Nat → Nat) (sa : Nat → Int64) (pa : Nat → Int64) (pn : Nat) (tx : Nat → Nat) (tn : Nat) (rf : Nat) (ro : Nat → Nat) (wk : Nat) (mb : Nat → Nat) (so : Nat) (kd : Nat → Nat) (nu : Nat → Nat) (it : Nat) (ti : Nat) (rd : Nat) (ad : Nat → Int64) (R : Nat) (sp : Bool) (K : Nat → Nat → Nat) (w : Nat → Nat) (y : Nat → Nat) (t : Nat) (hmo : MOk sa R sp K w y) (hR40 : R < 40) (ht : 3 ≤ t ∧ t ≤ 120) (hpo : ¬ isPo (sumM (K (R - 1)) (w (R - 1))) t) : kCM l yX7_addRound wsX7_addRound 4 92 0 0 G [.ref (D 0), vN (t)] (wMod G D sa pa pn tx tn rf ro wk mb so kd nu it ti rd ad) (fun vv uu => vv = some (vN (0)) ∧ uu = wMod G D sa pa pn tx tn 3 ro wk mb so kd nu it ti rd ad) := by
  refine kCM.of (cc := cX7_addRound) (maxL := 3) (ret := (some .int)) (by decide) rfl (Nat.le_of_ble_eq_true rfl) ?_
  intro p e s m args below meth c A ls Qz hQ hin hm hw hl
  have hl : lv_has ls 3 [(0, .ref (D 0)), (1, vN (t))] := hl
  refine k_aload_n hm hl 0 rfl dX7_addRound_0 ?_
  refine k_aload_n hm hl 0 rfl dX7_addRound_1 ?_
  refine k_iconstN hm 1 dX7_addRound_2 ?_
  refine k_iload_n hm hl 1 rfl dX7_addRound_3 ?_
  refine k_callVr (n := 2) (As := [vN (1), vN (t)]) (rest := [.ref (D 0)]) hm hw hl (c_m_whyNot_3 l G D sa pa pn tx tn rf ro wk mb so kd nu it ti rd ad R sp K w y t (by first | assumption | omega) (by first | assumption | omega) (by first | assumption | omega) (by first | assumption | omega)) gX7_addRound_X7_whyNot rfl (by decide +kernel) ⟨by decide, by decide⟩ (ci := 7) rfl 0 rfl [0, 1, 2, 3, 4, 5, 6, 7, 8] (by decide) rfl rfl rfl (by simp [Value.category]) ⟨by decide, by decide⟩ dX7_addRound_4 (fun v H locs hp hw => ?_)
  obtain rfl := hp
  refine W.eq (g2 := F0 m 7 ls [vN (3), .ref (D 0)]) rfl ?_
  refine k_callV (n := 1) (As := [vN (3)]) (rest := []) (wr := []) hm hw hl (c_m_throwsAt l G D sa pa pn tx tn rf ro wk mb so kd nu it ti rd ad 3 (by first | assumption | omega)) gX7_addRound_X7_throwsAt rfl (by decide +kernel) ⟨by decide, by decide⟩ (ci := 7) rfl 0 rfl [0, 1, 2, 3, 4, 5, 6, 7, 8] [] (by decide) rfl rfl (by decide) (by decide) rfl rfl (by simp [Value.category]) ⟨by decide, by decide⟩ dX7_addRound_7 (fun v w1 H locs hp hw => ?_)
  obtain ⟨rfl, rfl⟩ := hp
  have hw := hw.sub (ws' := wMod G D sa pa pn tx tn 3 ro wk mb so kd nu it ti rd ad) [0, 1, 2, 3, 4, 5, 6, 7, 8] (by decide) rfl
  refine W.eq (g2 := F0 m 10 ls [vB (decide (0 < 3))]) rfl ?_
  refine k_ifeqB (tgt := 15) hm dX7_addRound_10 (by decide) (fun c_3 => absurd (of_decide_eq_false c_3) (by omega)) (fun c_3 => ?_)
  refine k_iconstN hm 0 dX7_addRound_13 ?_
  exact k_iret (post := _) hm hQ rfl rfl hw (⟨rfl, rfl⟩) (by omega) (by omega) dX7_addRound_14
