set_option maxHeartbeats 4000000 in
set_option maxRecDepth 100000 in
theorem c_m_addMirrored_x1 (l : Launch) (G : kG) (D : Nat → Nat) (sa : Nat → Int64) (pa : Nat → Int64) (pn : Nat) (tx : Nat → Nat) (tn : Nat) (rf : Nat) (ro : Nat → Nat) (wk : Nat) (mb : Nat → Nat) (so : Nat) (kd : Nat → Nat) (nu : Nat → Nat) (it : Nat) (ti : Nat) (rd : Nat) (ad : Nat → Int64) (R : Nat) (sp : Bool) (K : Nat → Nat → Nat) (w : Nat → Nat) (y : Nat → Nat) (z : Int) (hmo : MOk sa R sp K w y) (hz : (-2147483648 ≤ z ∧ z < 2147483648) ∧ ¬ (3 ≤ z ∧ z ≤ 120)) : kCM l yX7_addMirrored wsX7_addMirrored 4 87 0 0 G [.ref (D 0), vZ (z)] (wMod G D sa pa pn tx tn rf ro wk mb so kd nu it ti rd ad) (fun vv uu => vv = some (vN (0)) ∧ uu = wMod G D sa pa pn tx tn 1 ro wk mb so kd nu it ti rd ad) := by
  refine kCM.of (cc := cX7_addMirrored) (maxL := 6) (ret := (some .int)) (by decide) rfl (Nat.le_of_ble_eq_true rfl) ?_
  intro p e s m args below meth c A ls Qz hQ hin hm hw hl
  have hl : lv_has ls 6 [(0, .ref (D 0)), (1, vZ (z))] := hl
  have hR := hmo.1.1
  have hll := PVd_last hmo.1
  refine k_aload_n hm hl 0 rfl dX7_addMirrored_0 ?_
  refine k_iconstN hm 1 dX7_addMirrored_1 ?_
  refine k_iload_n hm hl 1 rfl dX7_addMirrored_2 ?_
  refine k_callVr (n := 2) (As := [vN (1), vZ (z)]) (rest := []) hm hw hl (c_m_whyNot_1 l G D sa pa pn tx tn rf ro wk mb so kd nu it ti rd ad R sp K w y z (by first | assumption | omega) (by first | assumption | omega)) gX7_addMirrored_X7_whyNot rfl (by decide +kernel) ⟨by decide, by decide⟩ (ci := 7) rfl 0 rfl [0, 1, 2, 3, 4, 5, 6, 7, 8] (by decide) rfl rfl rfl (by simp [Value.category]) ⟨by decide, by decide⟩ dX7_addMirrored_3 (fun v H locs hp hw => ?_)
  obtain rfl := hp
  refine W.eq (g2 := F0 m 6 ls [vN (1)]) rfl ?_
  refine k_istore_n hm hl [(2, vN (1)), (0, .ref (D 0)), (1, vZ (z))] (by decide) rfl dX7_addMirrored_6 (fun ls hl => ?_)
  refine k_aload_n hm hl 1 rfl dX7_addMirrored_7 ?_
  refine k_callVr (n := 0) (As := []) (rest := []) hm hw hl (c_m_last l G D sa pa pn tx tn rf ro wk mb so kd nu it ti rd ad R sp K w y (by first | assumption | omega)) gX7_addMirrored_X7_last rfl (by decide +kernel) ⟨by decide, by decide⟩ (ci := 7) rfl 0 rfl [0, 1, 2, 3, 4, 5, 6, 7, 8] (by decide) rfl rfl rfl (by simp [Value.category]) ⟨by decide, by decide⟩ dX7_addMirrored_8 (fun v H locs hp hw => ?_)
  obtain rfl := hp
  refine W.eq (g2 := F0 m 11 ls [vN (sumM (K (R - 1)) (w (R - 1)))]) rfl ?_
  refine k_istore_n hm hl [(3, vN (sumM (K (R - 1)) (w (R - 1)))), (2, vN (1)), (0, .ref (D 0)), (1, vZ (z))] (by decide) rfl dX7_addMirrored_11 (fun ls hl => ?_)
  refine k_iload_n hm hl 3 rfl dX7_addMirrored_12 ?_
  refine k_iload_n hm hl 0 rfl dX7_addMirrored_13 ?_
  refine k_icmplt (tgt := 23) hm dX7_addMirrored_14 (by decide) (by omega) (fun c_3 => ?_) (fun c_3 => ?_)
  · refine k_iload_n hm hl 0 rfl dX7_addMirrored_23 ?_
    refine k_iload_n hm hl 3 rfl dX7_addMirrored_24 ?_
    refine k_isub hm dX7_addMirrored_25 ?_
    refine k_istore hm hl [(4, vZ (((sumM (K (R - 1)) (w (R - 1)) : Nat) : Int) - (z))), (3, vN (sumM (K (R - 1)) (w (R - 1)))), (2, vN (1)), (0, .ref (D 0)), (1, vZ (z))] (by decide) rfl dX7_addMirrored_26 (fun ls hl => ?_)
    refine k_iload_n hm hl 4 rfl dX7_addMirrored_28 ?_
    refine k_iload_n hm hl 1 rfl dX7_addMirrored_29 ?_
    refine k_icmplt (tgt := 37) hm dX7_addMirrored_30 (by decide) (by omega) (fun c_4 => ?_) (fun c_4 => ?_)
    · refine k_iload_n hm hl 4 rfl dX7_addMirrored_37 ?_
      refine k_istore hm hl [(5, vZ (z)), (4, vZ (((sumM (K (R - 1)) (w (R - 1)) : Nat) : Int) - (z))), (3, vN (sumM (K (R - 1)) (w (R - 1)))), (2, vN (1)), (0, .ref (D 0)), (1, vZ (z))] (by decide) rfl dX7_addMirrored_38 (fun ls hl => ?_)
      refine k_aload_n hm hl 4 rfl dX7_addMirrored_40 ?_
      refine k_iload_n hm hl 3 rfl dX7_addMirrored_41 ?_
      refine k_ifne (tgt := 64) hm dX7_addMirrored_42 (by decide) (by omega) (fun c_5 => ?_) (fun c_5 => absurd c_5 (by omega))
      refine k_iload_n hm hl 3 rfl dX7_addMirrored_64 ?_
      refine k_callV (n := 1) (As := [vN (1)]) (rest := []) (wr := []) hm hw hl (c_m_throwsAt l G D sa pa pn tx tn rf ro wk mb so kd nu it ti rd ad 1 (by first | assumption | omega)) gX7_addMirrored_X7_throwsAt rfl (by decide +kernel) ⟨by decide, by decide⟩ (ci := 7) rfl 0 rfl [0, 1, 2, 3, 4, 5, 6, 7, 8] [] (by decide) rfl rfl (by decide) (by decide) rfl rfl (by simp [Value.category]) ⟨by decide, by decide⟩ dX7_addMirrored_65 (fun v w1 H locs hp hw => ?_)
      obtain ⟨rfl, rfl⟩ := hp
      have hw := hw.sub (ws' := wMod G D sa pa pn tx tn 1 ro wk mb so kd nu it ti rd ad) [0, 1, 2, 3, 4, 5, 6, 7, 8] (by decide) rfl
      refine W.eq (g2 := F0 m 68 ls [vB (decide (0 < 1))]) rfl ?_
      refine k_ifeqB (tgt := 73) hm dX7_addMirrored_68 (by decide) (fun c_7 => absurd (of_decide_eq_false c_7) (by omega)) (fun c_7 => ?_)
      refine k_iconstN hm 0 dX7_addMirrored_71 ?_
      exact k_iret (post := _) hm hQ rfl rfl hw (⟨rfl, rfl⟩) (by omega) (by omega) dX7_addMirrored_72
    · refine k_iload_n hm hl 1 rfl dX7_addMirrored_33 ?_
      refine k_goto (tgt := 38) hm dX7_addMirrored_34 (by decide) ?_
      refine k_istore hm hl [(5, vN (sumM (K (R - 1)) (w (R - 1)))), (4, vZ (((sumM (K (R - 1)) (w (R - 1)) : Nat) : Int) - (z))), (3, vN (sumM (K (R - 1)) (w (R - 1)))), (2, vN (1)), (0, .ref (D 0)), (1, vZ (z))] (by decide) rfl dX7_addMirrored_38 (fun ls hl => ?_)
      refine k_aload_n hm hl 4 rfl dX7_addMirrored_40 ?_
      refine k_iload_n hm hl 3 rfl dX7_addMirrored_41 ?_
      refine k_ifne (tgt := 64) hm dX7_addMirrored_42 (by decide) (by omega) (fun c_8 => ?_) (fun c_8 => absurd c_8 (by omega))
      refine k_iload_n hm hl 3 rfl dX7_addMirrored_64 ?_
      refine k_callV (n := 1) (As := [vN (1)]) (rest := []) (wr := []) hm hw hl (c_m_throwsAt l G D sa pa pn tx tn rf ro wk mb so kd nu it ti rd ad 1 (by first | assumption | omega)) gX7_addMirrored_X7_throwsAt rfl (by decide +kernel) ⟨by decide, by decide⟩ (ci := 7) rfl 0 rfl [0, 1, 2, 3, 4, 5, 6, 7, 8] [] (by decide) rfl rfl (by decide) (by decide) rfl rfl (by simp [Value.category]) ⟨by decide, by decide⟩ dX7_addMirrored_65 (fun v w1 H locs hp hw => ?_)
      obtain ⟨rfl, rfl⟩ := hp
      have hw := hw.sub (ws' := wMod G D sa pa pn tx tn 1 ro wk mb so kd nu it ti rd ad) [0, 1, 2, 3, 4, 5, 6, 7, 8] (by decide) rfl
      refine W.eq (g2 := F0 m 68 ls [vB (decide (0 < 1))]) rfl ?_
      refine k_ifeqB (tgt := 73) hm dX7_addMirrored_68 (by decide) (fun c_10 => absurd (of_decide_eq_false c_10) (by omega)) (fun c_10 => ?_)
      refine k_iconstN hm 0 dX7_addMirrored_71 ?_
      exact k_iret (post := _) hm hQ rfl rfl hw (⟨rfl, rfl⟩) (by omega) (by omega) dX7_addMirrored_72
  · refine k_iload_n hm hl 3 rfl dX7_addMirrored_17 ?_
    refine k_iload_n hm hl 0 rfl dX7_addMirrored_18 ?_
    refine k_isub hm dX7_addMirrored_19 ?_
    refine k_goto (tgt := 26) hm dX7_addMirrored_20 (by decide) ?_
    refine k_istore hm hl [(4, vZ ((z) - ((sumM (K (R - 1)) (w (R - 1)) : Nat) : Int))), (3, vN (sumM (K (R - 1)) (w (R - 1)))), (2, vN (1)), (0, .ref (D 0)), (1, vZ (z))] (by decide) rfl dX7_addMirrored_26 (fun ls hl => ?_)
    refine k_iload_n hm hl 4 rfl dX7_addMirrored_28 ?_
    refine k_iload_n hm hl 1 rfl dX7_addMirrored_29 ?_
    refine k_icmplt (tgt := 37) hm dX7_addMirrored_30 (by decide) (by omega) (fun c_11 => ?_) (fun c_11 => ?_)
    · refine k_iload_n hm hl 4 rfl dX7_addMirrored_37 ?_
      refine k_istore hm hl [(5, vZ (z)), (4, vZ ((z) - ((sumM (K (R - 1)) (w (R - 1)) : Nat) : Int))), (3, vN (sumM (K (R - 1)) (w (R - 1)))), (2, vN (1)), (0, .ref (D 0)), (1, vZ (z))] (by decide) rfl dX7_addMirrored_38 (fun ls hl => ?_)
      refine k_aload_n hm hl 4 rfl dX7_addMirrored_40 ?_
      refine k_iload_n hm hl 3 rfl dX7_addMirrored_41 ?_
      refine k_ifne (tgt := 64) hm dX7_addMirrored_42 (by decide) (by omega) (fun c_12 => ?_) (fun c_12 => absurd c_12 (by omega))
      refine k_iload_n hm hl 3 rfl dX7_addMirrored_64 ?_
      refine k_callV (n := 1) (As := [vN (1)]) (rest := []) (wr := []) hm hw hl (c_m_throwsAt l G D sa pa pn tx tn rf ro wk mb so kd nu it ti rd ad 1 (by first | assumption | omega)) gX7_addMirrored_X7_throwsAt rfl (by decide +kernel) ⟨by decide, by decide⟩ (ci := 7) rfl 0 rfl [0, 1, 2, 3, 4, 5, 6, 7, 8] [] (by decide) rfl rfl (by decide) (by decide) rfl rfl (by simp [Value.category]) ⟨by decide, by decide⟩ dX7_addMirrored_65 (fun v w1 H locs hp hw => ?_)
      obtain ⟨rfl, rfl⟩ := hp
      have hw := hw.sub (ws' := wMod G D sa pa pn tx tn 1 ro wk mb so kd nu it ti rd ad) [0, 1, 2, 3, 4, 5, 6, 7, 8] (by decide) rfl
      refine W.eq (g2 := F0 m 68 ls [vB (decide (0 < 1))]) rfl ?_
      refine k_ifeqB (tgt := 73) hm dX7_addMirrored_68 (by decide) (fun c_14 => absurd (of_decide_eq_false c_14) (by omega)) (fun c_14 => ?_)
      refine k_iconstN hm 0 dX7_addMirrored_71 ?_
      exact k_iret (post := _) hm hQ rfl rfl hw (⟨rfl, rfl⟩) (by omega) (by omega) dX7_addMirrored_72
    · refine k_iload_n hm hl 1 rfl dX7_addMirrored_33 ?_
      refine k_goto (tgt := 38) hm dX7_addMirrored_34 (by decide) ?_
      refine k_istore hm hl [(5, vN (sumM (K (R - 1)) (w (R - 1)))), (4, vZ ((z) - ((sumM (K (R - 1)) (w (R - 1)) : Nat) : Int))), (3, vN (sumM (K (R - 1)) (w (R - 1)))), (2, vN (1)), (0, .ref (D 0)), (1, vZ (z))] (by decide) rfl dX7_addMirrored_38 (fun ls hl => ?_)
      refine k_aload_n hm hl 4 rfl dX7_addMirrored_40 ?_
      refine k_iload_n hm hl 3 rfl dX7_addMirrored_41 ?_
      refine k_ifne (tgt := 64) hm dX7_addMirrored_42 (by decide) (by omega) (fun c_15 => ?_) (fun c_15 => absurd c_15 (by omega))
      refine k_iload_n hm hl 3 rfl dX7_addMirrored_64 ?_
      refine k_callV (n := 1) (As := [vN (1)]) (rest := []) (wr := []) hm hw hl (c_m_throwsAt l G D sa pa pn tx tn rf ro wk mb so kd nu it ti rd ad 1 (by first | assumption | omega)) gX7_addMirrored_X7_throwsAt rfl (by decide +kernel) ⟨by decide, by decide⟩ (ci := 7) rfl 0 rfl [0, 1, 2, 3, 4, 5, 6, 7, 8] [] (by decide) rfl rfl (by decide) (by decide) rfl rfl (by simp [Value.category]) ⟨by decide, by decide⟩ dX7_addMirrored_65 (fun v w1 H locs hp hw => ?_)
      obtain ⟨rfl, rfl⟩ := hp
      have hw := hw.sub (ws' := wMod G D sa pa pn tx tn 1 ro wk mb so kd nu it ti rd ad) [0, 1, 2, 3, 4, 5, 6, 7, 8] (by decide) rfl
      refine W.eq (g2 := F0 m 68 ls [vB (decide (0 < 1))]) rfl ?_
      refine k_ifeqB (tgt := 73) hm dX7_addMirrored_68 (by decide) (fun c_17 => absurd (of_decide_eq_false c_17) (by omega)) (fun c_17 => ?_)
      refine k_iconstN hm 0 dX7_addMirrored_71 ?_
      exact k_iret (post := _) hm hQ rfl rfl hw (⟨rfl, rfl⟩) (by omega) (by omega) dX7_addMirrored_72
set_option maxHeartbeats 4000000 in
set_option maxRecDepth 100000 in
theorem c_m_addMirrored_x2 (l : Launch) (G : kG) (D : Nat → Nat) (sa : Nat → Int64) (pa : Nat → Int64) (pn : Nat) (tx : Nat → Nat) (tn : Nat) (rf : Nat) (ro : Nat → Nat) (wk : Nat) (mb : Nat → Nat) (so : Nat) (kd : Nat → Nat) (nu : Nat → Nat) (it : Nat) (ti : Nat) (rd : Nat) (ad : Nat → Int64) (R : Nat) (sp : Bool) (K : Nat → Nat → Nat) (w : Nat → Nat) (y : Nat → Nat) (t : Nat) (hmo : MOk sa R sp K w y) (ht : 3 ≤ t ∧ t ≤ 120) (h40 : R = 40) : kCM l yX7_addMirrored wsX7_addMirrored 4 87 0 0 G [.ref (D 0), vN (t)] (wMod G D sa pa pn tx tn rf ro wk mb so kd nu it ti rd ad) (fun vv uu => vv = some (vN (0)) ∧ uu = wMod G D sa pa pn tx tn 2 ro wk mb so kd nu it ti rd ad) := by
  refine kCM.of (cc := cX7_addMirrored) (maxL := 6) (ret := (some .int)) (by decide) rfl (Nat.le_of_ble_eq_true rfl) ?_
  intro p e s m args below meth c A ls Qz hQ hin hm hw hl
  have hl : lv_has ls 6 [(0, .ref (D 0)), (1, vN (t))] := hl
  have hR := hmo.1.1
  have hll := PVd_last hmo.1
  refine k_aload_n hm hl 0 rfl dX7_addMirrored_0 ?_
  refine k_iconstN hm 1 dX7_addMirrored_1 ?_
  refine k_iload_n hm hl 1 rfl dX7_addMirrored_2 ?_
  refine k_callVr (n := 2) (As := [vN (1), vN (t)]) (rest := []) hm hw hl (c_m_whyNot_2 l G D sa pa pn tx tn rf ro wk mb so kd nu it ti rd ad R sp K w y t (by first | assumption | omega) (by first | assumption | omega) (by first | assumption | omega)) gX7_addMirrored_X7_whyNot rfl (by decide +kernel) ⟨by decide, by decide⟩ (ci := 7) rfl 0 rfl [0, 1, 2, 3, 4, 5, 6, 7, 8] (by decide) rfl rfl rfl (by simp [Value.category]) ⟨by decide, by decide⟩ dX7_addMirrored_3 (fun v H locs hp hw => ?_)
  obtain rfl := hp
  refine W.eq (g2 := F0 m 6 ls [vN (2)]) rfl ?_
  refine k_istore_n hm hl [(2, vN (2)), (0, .ref (D 0)), (1, vN (t))] (by decide) rfl dX7_addMirrored_6 (fun ls hl => ?_)
  refine k_aload_n hm hl 1 rfl dX7_addMirrored_7 ?_
  refine k_callVr (n := 0) (As := []) (rest := []) hm hw hl (c_m_last l G D sa pa pn tx tn rf ro wk mb so kd nu it ti rd ad R sp K w y (by first | assumption | omega)) gX7_addMirrored_X7_last rfl (by decide +kernel) ⟨by decide, by decide⟩ (ci := 7) rfl 0 rfl [0, 1, 2, 3, 4, 5, 6, 7, 8] (by decide) rfl rfl rfl (by simp [Value.category]) ⟨by decide, by decide⟩ dX7_addMirrored_8 (fun v H locs hp hw => ?_)
  obtain rfl := hp
  refine W.eq (g2 := F0 m 11 ls [vN (sumM (K (R - 1)) (w (R - 1)))]) rfl ?_
  refine k_istore_n hm hl [(3, vN (sumM (K (R - 1)) (w (R - 1)))), (2, vN (2)), (0, .ref (D 0)), (1, vN (t))] (by decide) rfl dX7_addMirrored_11 (fun ls hl => ?_)
  refine k_iload_n hm hl 3 rfl dX7_addMirrored_12 ?_
  refine k_iload_n hm hl 0 rfl dX7_addMirrored_13 ?_
  refine k_icmplt (tgt := 23) hm dX7_addMirrored_14 (by decide) (by omega) (fun c_3 => ?_) (fun c_3 => ?_)
  · refine k_iload_n hm hl 0 rfl dX7_addMirrored_23 ?_
    refine k_iload_n hm hl 3 rfl dX7_addMirrored_24 ?_
    refine k_isub hm dX7_addMirrored_25 ?_
    refine k_istore hm hl [(4, vZ (((sumM (K (R - 1)) (w (R - 1)) : Nat) : Int) - ((t : Nat) : Int))), (3, vN (sumM (K (R - 1)) (w (R - 1)))), (2, vN (2)), (0, .ref (D 0)), (1, vN (t))] (by decide) rfl dX7_addMirrored_26 (fun ls hl => ?_)
    refine k_iload_n hm hl 4 rfl dX7_addMirrored_28 ?_
    refine k_iload_n hm hl 1 rfl dX7_addMirrored_29 ?_
    refine k_icmplt (tgt := 37) hm dX7_addMirrored_30 (by decide) (by omega) (fun c_4 => ?_) (fun c_4 => ?_)
    · refine k_iload_n hm hl 4 rfl dX7_addMirrored_37 ?_
      refine k_istore hm hl [(5, vN (t)), (4, vZ (((sumM (K (R - 1)) (w (R - 1)) : Nat) : Int) - ((t : Nat) : Int))), (3, vN (sumM (K (R - 1)) (w (R - 1)))), (2, vN (2)), (0, .ref (D 0)), (1, vN (t))] (by decide) rfl dX7_addMirrored_38 (fun ls hl => ?_)
      refine k_aload_n hm hl 4 rfl dX7_addMirrored_40 ?_
      refine k_iload_n hm hl 3 rfl dX7_addMirrored_41 ?_
      refine k_ifne (tgt := 64) hm dX7_addMirrored_42 (by decide) (by omega) (fun c_5 => ?_) (fun c_5 => absurd c_5 (by omega))
      refine k_iload_n hm hl 3 rfl dX7_addMirrored_64 ?_
      refine k_callV (n := 1) (As := [vN (2)]) (rest := []) (wr := []) hm hw hl (c_m_throwsAt l G D sa pa pn tx tn rf ro wk mb so kd nu it ti rd ad 2 (by first | assumption | omega)) gX7_addMirrored_X7_throwsAt rfl (by decide +kernel) ⟨by decide, by decide⟩ (ci := 7) rfl 0 rfl [0, 1, 2, 3, 4, 5, 6, 7, 8] [] (by decide) rfl rfl (by decide) (by decide) rfl rfl (by simp [Value.category]) ⟨by decide, by decide⟩ dX7_addMirrored_65 (fun v w1 H locs hp hw => ?_)
      obtain ⟨rfl, rfl⟩ := hp
      have hw := hw.sub (ws' := wMod G D sa pa pn tx tn 2 ro wk mb so kd nu it ti rd ad) [0, 1, 2, 3, 4, 5, 6, 7, 8] (by decide) rfl
      refine W.eq (g2 := F0 m 68 ls [vB (decide (0 < 2))]) rfl ?_
      refine k_ifeqB (tgt := 73) hm dX7_addMirrored_68 (by decide) (fun c_7 => absurd (of_decide_eq_false c_7) (by omega)) (fun c_7 => ?_)
      refine k_iconstN hm 0 dX7_addMirrored_71 ?_
      exact k_iret (post := _) hm hQ rfl rfl hw (⟨rfl, rfl⟩) (by omega) (by omega) dX7_addMirrored_72
    · refine k_iload_n hm hl 1 rfl dX7_addMirrored_33 ?_
      refine k_goto (tgt := 38) hm dX7_addMirrored_34 (by decide) ?_
      refine k_istore hm hl [(5, vN (sumM (K (R - 1)) (w (R - 1)))), (4, vZ (((sumM (K (R - 1)) (w (R - 1)) : Nat) : Int) - ((t : Nat) : Int))), (3, vN (sumM (K (R - 1)) (w (R - 1)))), (2, vN (2)), (0, .ref (D 0)), (1, vN (t))] (by decide) rfl dX7_addMirrored_38 (fun ls hl => ?_)
      refine k_aload_n hm hl 4 rfl dX7_addMirrored_40 ?_
      refine k_iload_n hm hl 3 rfl dX7_addMirrored_41 ?_
      refine k_ifne (tgt := 64) hm dX7_addMirrored_42 (by decide) (by omega) (fun c_8 => ?_) (fun c_8 => absurd c_8 (by omega))
      refine k_iload_n hm hl 3 rfl dX7_addMirrored_64 ?_
      refine k_callV (n := 1) (As := [vN (2)]) (rest := []) (wr := []) hm hw hl (c_m_throwsAt l G D sa pa pn tx tn rf ro wk mb so kd nu it ti rd ad 2 (by first | assumption | omega)) gX7_addMirrored_X7_throwsAt rfl (by decide +kernel) ⟨by decide, by decide⟩ (ci := 7) rfl 0 rfl [0, 1, 2, 3, 4, 5, 6, 7, 8] [] (by decide) rfl rfl (by decide) (by decide) rfl rfl (by simp [Value.category]) ⟨by decide, by decide⟩ dX7_addMirrored_65 (fun v w1 H locs hp hw => ?_)
      obtain ⟨rfl, rfl⟩ := hp
      have hw := hw.sub (ws' := wMod G D sa pa pn tx tn 2 ro wk mb so kd nu it ti rd ad) [0, 1, 2, 3, 4, 5, 6, 7, 8] (by decide) rfl
      refine W.eq (g2 := F0 m 68 ls [vB (decide (0 < 2))]) rfl ?_
      refine k_ifeqB (tgt := 73) hm dX7_addMirrored_68 (by decide) (fun c_10 => absurd (of_decide_eq_false c_10) (by omega)) (fun c_10 => ?_)
      refine k_iconstN hm 0 dX7_addMirrored_71 ?_
      exact k_iret (post := _) hm hQ rfl rfl hw (⟨rfl, rfl⟩) (by omega) (by omega) dX7_addMirrored_72
  · refine k_iload_n hm hl 3 rfl dX7_addMirrored_17 ?_
    refine k_iload_n hm hl 0 rfl dX7_addMirrored_18 ?_
    refine k_isub hm dX7_addMirrored_19 ?_
    refine k_goto (tgt := 26) hm dX7_addMirrored_20 (by decide) ?_
    refine k_istore hm hl [(4, vZ (((t : Nat) : Int) - ((sumM (K (R - 1)) (w (R - 1)) : Nat) : Int))), (3, vN (sumM (K (R - 1)) (w (R - 1)))), (2, vN (2)), (0, .ref (D 0)), (1, vN (t))] (by decide) rfl dX7_addMirrored_26 (fun ls hl => ?_)
    refine k_iload_n hm hl 4 rfl dX7_addMirrored_28 ?_
    refine k_iload_n hm hl 1 rfl dX7_addMirrored_29 ?_
    refine k_icmplt (tgt := 37) hm dX7_addMirrored_30 (by decide) (by omega) (fun c_11 => ?_) (fun c_11 => ?_)
    · refine k_iload_n hm hl 4 rfl dX7_addMirrored_37 ?_
      refine k_istore hm hl [(5, vN (t)), (4, vZ (((t : Nat) : Int) - ((sumM (K (R - 1)) (w (R - 1)) : Nat) : Int))), (3, vN (sumM (K (R - 1)) (w (R - 1)))), (2, vN (2)), (0, .ref (D 0)), (1, vN (t))] (by decide) rfl dX7_addMirrored_38 (fun ls hl => ?_)
      refine k_aload_n hm hl 4 rfl dX7_addMirrored_40 ?_
      refine k_iload_n hm hl 3 rfl dX7_addMirrored_41 ?_
      refine k_ifne (tgt := 64) hm dX7_addMirrored_42 (by decide) (by omega) (fun c_12 => ?_) (fun c_12 => absurd c_12 (by omega))
      refine k_iload_n hm hl 3 rfl dX7_addMirrored_64 ?_
      refine k_callV (n := 1) (As := [vN (2)]) (rest := []) (wr := []) hm hw hl (c_m_throwsAt l G D sa pa pn tx tn rf ro wk mb so kd nu it ti rd ad 2 (by first | assumption | omega)) gX7_addMirrored_X7_throwsAt rfl (by decide +kernel) ⟨by decide, by decide⟩ (ci := 7) rfl 0 rfl [0, 1, 2, 3, 4, 5, 6, 7, 8] [] (by decide) rfl rfl (by decide) (by decide) rfl rfl (by simp [Value.category]) ⟨by decide, by decide⟩ dX7_addMirrored_65 (fun v w1 H locs hp hw => ?_)
      obtain ⟨rfl, rfl⟩ := hp
      have hw := hw.sub (ws' := wMod G D sa pa pn tx tn 2 ro wk mb so kd nu it ti rd ad) [0, 1, 2, 3, 4, 5, 6, 7, 8] (by decide) rfl
      refine W.eq (g2 := F0 m 68 ls [vB (decide (0 < 2))]) rfl ?_
      refine k_ifeqB (tgt := 73) hm dX7_addMirrored_68 (by decide) (fun c_14 => absurd (of_decide_eq_false c_14) (by omega)) (fun c_14 => ?_)
      refine k_iconstN hm 0 dX7_addMirrored_71 ?_
      exact k_iret (post := _) hm hQ rfl rfl hw (⟨rfl, rfl⟩) (by omega) (by omega) dX7_addMirrored_72
    · refine k_iload_n hm hl 1 rfl dX7_addMirrored_33 ?_
      refine k_goto (tgt := 38) hm dX7_addMirrored_34 (by decide) ?_
      refine k_istore hm hl [(5, vN (sumM (K (R - 1)) (w (R - 1)))), (4, vZ (((t : Nat) : Int) - ((sumM (K (R - 1)) (w (R - 1)) : Nat) : Int))), (3, vN (sumM (K (R - 1)) (w (R - 1)))), (2, vN (2)), (0, .ref (D 0)), (1, vN (t))] (by decide) rfl dX7_addMirrored_38 (fun ls hl => ?_)
      refine k_aload_n hm hl 4 rfl dX7_addMirrored_40 ?_
      refine k_iload_n hm hl 3 rfl dX7_addMirrored_41 ?_
      refine k_ifne (tgt := 64) hm dX7_addMirrored_42 (by decide) (by omega) (fun c_15 => ?_) (fun c_15 => absurd c_15 (by omega))
      refine k_iload_n hm hl 3 rfl dX7_addMirrored_64 ?_
      refine k_callV (n := 1) (As := [vN (2)]) (rest := []) (wr := []) hm hw hl (c_m_throwsAt l G D sa pa pn tx tn rf ro wk mb so kd nu it ti rd ad 2 (by first | assumption | omega)) gX7_addMirrored_X7_throwsAt rfl (by decide +kernel) ⟨by decide, by decide⟩ (ci := 7) rfl 0 rfl [0, 1, 2, 3, 4, 5, 6, 7, 8] [] (by decide) rfl rfl (by decide) (by decide) rfl rfl (by simp [Value.category]) ⟨by decide, by decide⟩ dX7_addMirrored_65 (fun v w1 H locs hp hw => ?_)
      obtain ⟨rfl, rfl⟩ := hp
      have hw := hw.sub (ws' := wMod G D sa pa pn tx tn 2 ro wk mb so kd nu it ti rd ad) [0, 1, 2, 3, 4, 5, 6, 7, 8] (by decide) rfl
      refine W.eq (g2 := F0 m 68 ls [vB (decide (0 < 2))]) rfl ?_
      refine k_ifeqB (tgt := 73) hm dX7_addMirrored_68 (by decide) (fun c_17 => absurd (of_decide_eq_false c_17) (by omega)) (fun c_17 => ?_)
      refine k_iconstN hm 0 dX7_addMirrored_71 ?_
      exact k_iret (post := _) hm hQ rfl rfl hw (⟨rfl, rfl⟩) (by omega) (by omega) dX7_addMirrored_72
set_option maxHeartbeats 4000000 in
set_option maxRecDepth 100000 in
theorem c_m_addMirrored_x3 (l : Launch) (G : kG) (D : Nat → Nat) (sa : Nat → Int64) (pa : Nat → Int64) (pn : Nat) (tx : Nat → Nat) (tn : Nat) (rf : Nat) (ro : Nat → Nat) (wk : Nat) (mb : Nat → Nat) (so : Nat) (kd : Nat → Nat) (nu : Nat → Nat) (it : Nat) (ti : Nat) (rd : Nat) (ad : Nat → Int64) (R : Nat) (sp : Bool) (K : Nat → Nat → Nat) (w : Nat → Nat) (y : Nat → Nat) (t : Nat) (hmo : MOk sa R sp K w y) (hR40 : R < 40) (ht : 3 ≤ t ∧ t ≤ 120) (hpo : ¬ isPo (sumM (K (R - 1)) (w (R - 1))) t) : kCM l yX7_addMirrored wsX7_addMirrored 4 87 0 0 G [.ref (D 0), vN (t)] (wMod G D sa pa pn tx tn rf ro wk mb so kd nu it ti rd ad) (fun vv uu => vv = some (vN (0)) ∧ uu = wMod G D sa pa pn tx tn 3 ro wk mb so kd nu it ti rd ad) := by
  refine kCM.of (cc := cX7_addMirrored) (maxL := 6) (ret := (some .int)) (by decide) rfl (Nat.le_of_ble_eq_true rfl) ?_
  intro p e s m args below meth c A ls Qz hQ hin hm hw hl
  have hl : lv_has ls 6 [(0, .ref (D 0)), (1, vN (t))] := hl
  have hR := hmo.1.1
  have hll := PVd_last hmo.1
  refine k_aload_n hm hl 0 rfl dX7_addMirrored_0 ?_
  refine k_iconstN hm 1 dX7_addMirrored_1 ?_
  refine k_iload_n hm hl 1 rfl dX7_addMirrored_2 ?_
  refine k_callVr (n := 2) (As := [vN (1), vN (t)]) (rest := []) hm hw hl (c_m_whyNot_3 l G D sa pa pn tx tn rf ro wk mb so kd nu it ti rd ad R sp K w y t (by first | assumption | omega) (by first | assumption | omega) (by first | assumption | omega) (by first | assumption | omega)) gX7_addMirrored_X7_whyNot rfl (by decide +kernel) ⟨by decide, by decide⟩ (ci := 7) rfl 0 rfl [0, 1, 2, 3, 4, 5, 6, 7, 8] (by decide) rfl rfl rfl (by simp [Value.category]) ⟨by decide, by decide⟩ dX7_addMirrored_3 (fun v H locs hp hw => ?_)
  obtain rfl := hp
  refine W.eq (g2 := F0 m 6 ls [vN (3)]) rfl ?_
  refine k_istore_n hm hl [(2, vN (3)), (0, .ref (D 0)), (1, vN (t))] (by decide) rfl dX7_addMirrored_6 (fun ls hl => ?_)
  refine k_aload_n hm hl 1 rfl dX7_addMirrored_7 ?_
  refine k_callVr (n := 0) (As := []) (rest := []) hm hw hl (c_m_last l G D sa pa pn tx tn rf ro wk mb so kd nu it ti rd ad R sp K w y (by first | assumption | omega)) gX7_addMirrored_X7_last rfl (by decide +kernel) ⟨by decide, by decide⟩ (ci := 7) rfl 0 rfl [0, 1, 2, 3, 4, 5, 6, 7, 8] (by decide) rfl rfl rfl (by simp [Value.category]) ⟨by decide, by decide⟩ dX7_addMirrored_8 (fun v H locs hp hw => ?_)
  obtain rfl := hp
  refine W.eq (g2 := F0 m 11 ls [vN (sumM (K (R - 1)) (w (R - 1)))]) rfl ?_
  refine k_istore_n hm hl [(3, vN (sumM (K (R - 1)) (w (R - 1)))), (2, vN (3)), (0, .ref (D 0)), (1, vN (t))] (by decide) rfl dX7_addMirrored_11 (fun ls hl => ?_)
  refine k_iload_n hm hl 3 rfl dX7_addMirrored_12 ?_
  refine k_iload_n hm hl 0 rfl dX7_addMirrored_13 ?_
  refine k_icmplt (tgt := 23) hm dX7_addMirrored_14 (by decide) (by omega) (fun c_3 => ?_) (fun c_3 => ?_)
  · refine k_iload_n hm hl 0 rfl dX7_addMirrored_23 ?_
    refine k_iload_n hm hl 3 rfl dX7_addMirrored_24 ?_
    refine k_isub hm dX7_addMirrored_25 ?_
    refine k_istore hm hl [(4, vZ (((sumM (K (R - 1)) (w (R - 1)) : Nat) : Int) - ((t : Nat) : Int))), (3, vN (sumM (K (R - 1)) (w (R - 1)))), (2, vN (3)), (0, .ref (D 0)), (1, vN (t))] (by decide) rfl dX7_addMirrored_26 (fun ls hl => ?_)
    refine k_iload_n hm hl 4 rfl dX7_addMirrored_28 ?_
    refine k_iload_n hm hl 1 rfl dX7_addMirrored_29 ?_
    refine k_icmplt (tgt := 37) hm dX7_addMirrored_30 (by decide) (by omega) (fun c_4 => ?_) (fun c_4 => ?_)
    · refine k_iload_n hm hl 4 rfl dX7_addMirrored_37 ?_
      refine k_istore hm hl [(5, vN (t)), (4, vZ (((sumM (K (R - 1)) (w (R - 1)) : Nat) : Int) - ((t : Nat) : Int))), (3, vN (sumM (K (R - 1)) (w (R - 1)))), (2, vN (3)), (0, .ref (D 0)), (1, vN (t))] (by decide) rfl dX7_addMirrored_38 (fun ls hl => ?_)
      refine k_aload_n hm hl 4 rfl dX7_addMirrored_40 ?_
      refine k_iload_n hm hl 3 rfl dX7_addMirrored_41 ?_
      refine k_ifne (tgt := 64) hm dX7_addMirrored_42 (by decide) (by omega) (fun c_5 => ?_) (fun c_5 => absurd c_5 (by omega))
      refine k_iload_n hm hl 3 rfl dX7_addMirrored_64 ?_
      refine k_callV (n := 1) (As := [vN (3)]) (rest := []) (wr := []) hm hw hl (c_m_throwsAt l G D sa pa pn tx tn rf ro wk mb so kd nu it ti rd ad 3 (by first | assumption | omega)) gX7_addMirrored_X7_throwsAt rfl (by decide +kernel) ⟨by decide, by decide⟩ (ci := 7) rfl 0 rfl [0, 1, 2, 3, 4, 5, 6, 7, 8] [] (by decide) rfl rfl (by decide) (by decide) rfl rfl (by simp [Value.category]) ⟨by decide, by decide⟩ dX7_addMirrored_65 (fun v w1 H locs hp hw => ?_)
      obtain ⟨rfl, rfl⟩ := hp
      have hw := hw.sub (ws' := wMod G D sa pa pn tx tn 3 ro wk mb so kd nu it ti rd ad) [0, 1, 2, 3, 4, 5, 6, 7, 8] (by decide) rfl
      refine W.eq (g2 := F0 m 68 ls [vB (decide (0 < 3))]) rfl ?_
      refine k_ifeqB (tgt := 73) hm dX7_addMirrored_68 (by decide) (fun c_7 => absurd (of_decide_eq_false c_7) (by omega)) (fun c_7 => ?_)
      refine k_iconstN hm 0 dX7_addMirrored_71 ?_
      exact k_iret (post := _) hm hQ rfl rfl hw (⟨rfl, rfl⟩) (by omega) (by omega) dX7_addMirrored_72
    · refine k_iload_n hm hl 1 rfl dX7_addMirrored_33 ?_
      refine k_goto (tgt := 38) hm dX7_addMirrored_34 (by decide) ?_
      refine k_istore hm hl [(5, vN (sumM (K (R - 1)) (w (R - 1)))), (4, vZ (((sumM (K (R - 1)) (w (R - 1)) : Nat) : Int) - ((t : Nat) : Int))), (3, vN (sumM (K (R - 1)) (w (R - 1)))), (2, vN (3)), (0, .ref (D 0)), (1, vN (t))] (by decide) rfl dX7_addMirrored_38 (fun ls hl => ?_)
      refine k_aload_n hm hl 4 rfl dX7_addMirrored_40 ?_
      refine k_iload_n hm hl 3 rfl dX7_addMirrored_41 ?_
      refine k_ifne (tgt := 64) hm dX7_addMirrored_42 (by decide) (by omega) (fun c_8 => ?_) (fun c_8 => absurd c_8 (by omega))
      refine k_iload_n hm hl 3 rfl dX7_addMirrored_64 ?_
      refine k_callV (n := 1) (As := [vN (3)]) (rest := []) (wr := []) hm hw hl (c_m_throwsAt l G D sa pa pn tx tn rf ro wk mb so kd nu it ti rd ad 3 (by first | assumption | omega)) gX7_addMirrored_X7_throwsAt rfl (by decide +kernel) ⟨by decide, by decide⟩ (ci := 7) rfl 0 rfl [0, 1, 2, 3, 4, 5, 6, 7, 8] [] (by decide) rfl rfl (by decide) (by decide) rfl rfl (by simp [Value.category]) ⟨by decide, by decide⟩ dX7_addMirrored_65 (fun v w1 H locs hp hw => ?_)
      obtain ⟨rfl, rfl⟩ := hp
      have hw := hw.sub (ws' := wMod G D sa pa pn tx tn 3 ro wk mb so kd nu it ti rd ad) [0, 1, 2, 3, 4, 5, 6, 7, 8] (by decide) rfl
      refine W.eq (g2 := F0 m 68 ls [vB (decide (0 < 3))]) rfl ?_
      refine k_ifeqB (tgt := 73) hm dX7_addMirrored_68 (by decide) (fun c_10 => absurd (of_decide_eq_false c_10) (by omega)) (fun c_10 => ?_)
      refine k_iconstN hm 0 dX7_addMirrored_71 ?_
      exact k_iret (post := _) hm hQ rfl rfl hw (⟨rfl, rfl⟩) (by omega) (by omega) dX7_addMirrored_72
  · refine k_iload_n hm hl 3 rfl dX7_addMirrored_17 ?_
    refine k_iload_n hm hl 0 rfl dX7_addMirrored_18 ?_
    refine k_isub hm dX7_addMirrored_19 ?_
    refine k_goto (tgt := 26) hm dX7_addMirrored_20 (by decide) ?_
    refine k_istore hm hl [(4, vZ (((t : Nat) : Int) - ((sumM (K (R - 1)) (w (R - 1)) : Nat) : Int))), (3, vN (sumM (K (R - 1)) (w (R - 1)))), (2, vN (3)), (0, .ref (D 0)), (1, vN (t))] (by decide) rfl dX7_addMirrored_26 (fun ls hl => ?_)
    refine k_iload_n hm hl 4 rfl dX7_addMirrored_28 ?_
    refine k_iload_n hm hl 1 rfl dX7_addMirrored_29 ?_
    refine k_icmplt (tgt := 37) hm dX7_addMirrored_30 (by decide) (by omega) (fun c_11 => ?_) (fun c_11 => ?_)
    · refine k_iload_n hm hl 4 rfl dX7_addMirrored_37 ?_
      refine k_istore hm hl [(5, vN (t)), (4, vZ (((t : Nat) : Int) - ((sumM (K (R - 1)) (w (R - 1)) : Nat) : Int))), (3, vN (sumM (K (R - 1)) (w (R - 1)))), (2, vN (3)), (0, .ref (D 0)), (1, vN (t))] (by decide) rfl dX7_addMirrored_38 (fun ls hl => ?_)
      refine k_aload_n hm hl 4 rfl dX7_addMirrored_40 ?_
      refine k_iload_n hm hl 3 rfl dX7_addMirrored_41 ?_
      refine k_ifne (tgt := 64) hm dX7_addMirrored_42 (by decide) (by omega) (fun c_12 => ?_) (fun c_12 => absurd c_12 (by omega))
      refine k_iload_n hm hl 3 rfl dX7_addMirrored_64 ?_
      refine k_callV (n := 1) (As := [vN (3)]) (rest := []) (wr := []) hm hw hl (c_m_throwsAt l G D sa pa pn tx tn rf ro wk mb so kd nu it ti rd ad 3 (by first | assumption | omega)) gX7_addMirrored_X7_throwsAt rfl (by decide +kernel) ⟨by decide, by decide⟩ (ci := 7) rfl 0 rfl [0, 1, 2, 3, 4, 5, 6, 7, 8] [] (by decide) rfl rfl (by decide) (by decide) rfl rfl (by simp [Value.category]) ⟨by decide, by decide⟩ dX7_addMirrored_65 (fun v w1 H locs hp hw => ?_)
      obtain ⟨rfl, rfl⟩ := hp
      have hw := hw.sub (ws' := wMod G D sa pa pn tx tn 3 ro wk mb so kd nu it ti rd ad) [0, 1, 2, 3, 4, 5, 6, 7, 8] (by decide) rfl
      refine W.eq (g2 := F0 m 68 ls [vB (decide (0 < 3))]) rfl ?_
      refine k_ifeqB (tgt := 73) hm dX7_addMirrored_68 (by decide) (fun c_14 => absurd (of_decide_eq_false c_14) (by omega)) (fun c_14 => ?_)
      refine k_iconstN hm 0 dX7_addMirrored_71 ?_
      exact k_iret (post := _) hm hQ rfl rfl hw (⟨rfl, rfl⟩) (by omega) (by omega) dX7_addMirrored_72
    · refine k_iload_n hm hl 1 rfl dX7_addMirrored_33 ?_
      refine k_goto (tgt := 38) hm dX7_addMirrored_34 (by decide) ?_
      refine k_istore hm hl [(5, vN (sumM (K (R - 1)) (w (R - 1)))), (4, vZ (((t : Nat) : Int) - ((sumM (K (R - 1)) (w (R - 1)) : Nat) : Int))), (3, vN (sumM (K (R - 1)) (w (R - 1)))), (2, vN (3)), (0, .ref (D 0)), (1, vN (t))] (by decide) rfl dX7_addMirrored_38 (fun ls hl => ?_)
      refine k_aload_n hm hl 4 rfl dX7_addMirrored_40 ?_
      refine k_iload_n hm hl 3 rfl dX7_addMirrored_41 ?_
      refine k_ifne (tgt := 64) hm dX7_addMirrored_42 (by decide) (by omega) (fun c_15 => ?_) (fun c_15 => absurd c_15 (by omega))
      refine k_iload_n hm hl 3 rfl dX7_addMirrored_64 ?_
      refine k_callV (n := 1) (As := [vN (3)]) (rest := []) (wr := []) hm hw hl (c_m_throwsAt l G D sa pa pn tx tn rf ro wk mb so kd nu it ti rd ad 3 (by first | assumption | omega)) gX7_addMirrored_X7_throwsAt rfl (by decide +kernel) ⟨by decide, by decide⟩ (ci := 7) rfl 0 rfl [0, 1, 2, 3, 4, 5, 6, 7, 8] [] (by decide) rfl rfl (by decide) (by decide) rfl rfl (by simp [Value.category]) ⟨by decide, by decide⟩ dX7_addMirrored_65 (fun v w1 H locs hp hw => ?_)
      obtain ⟨rfl, rfl⟩ := hp
      have hw := hw.sub (ws' := wMod G D sa pa pn tx tn 3 ro wk mb so kd nu it ti rd ad) [0, 1, 2, 3, 4, 5, 6, 7, 8] (by decide) rfl
      refine W.eq (g2 := F0 m 68 ls [vB (decide (0 < 3))]) rfl ?_
      refine k_ifeqB (tgt := 73) hm dX7_addMirrored_68 (by decide) (fun c_17 => absurd (of_decide_eq_false c_17) (by omega)) (fun c_17 => ?_)
      refine k_iconstN hm 0 dX7_addMirrored_71 ?_
      exact k_iret (post := _) hm hQ rfl rfl hw (⟨rfl, rfl⟩) (by omega) (by omega) dX7_addMirrored_72
set_option maxHeartbeats 4000000 in
set_option maxRecDepth 100000 in
theorem c_m_addMirrored_x4 (l : Launch) (G : kG) (D : Nat → Nat) (sa : Nat → Int64) (pa : Nat → Int64) (pn : Nat) (tx : Nat → Nat) (tn : Nat) (rf : Nat) (ro : Nat → Nat) (wk : Nat) (mb : Nat → Nat) (so : Nat) (kd : Nat → Nat) (nu : Nat → Nat) (it : Nat) (ti : Nat) (rd : Nat) (ad : Nat → Int64) (R : Nat) (sp : Bool) (K : Nat → Nat → Nat) (w : Nat → Nat) (y : Nat → Nat) (t : Nat) (hmo : MOk sa R sp K w y) (hR40 : R < 40) (ht : 3 ≤ t ∧ t ≤ 120) (hpo : isPo (sumM (K (R - 1)) (w (R - 1))) t) (hodd : pd (sumM (K (R - 1)) (w (R - 1))) t % 2 = 1 ∧ pm (sumM (K (R - 1)) (w (R - 1))) t % 2 = 0) : kCM l yX7_addMirrored wsX7_addMirrored 4 87 0 0 G [.ref (D 0), vN (t)] (wMod G D sa pa pn tx tn rf ro wk mb so kd nu it ti rd ad) (fun vv uu => vv = some (vN (0)) ∧ uu = wMod G D sa pa pn tx tn 3 ro wk mb so kd nu it ti rd ad) := by
  refine kCM.of (cc := cX7_addMirrored) (maxL := 6) (ret := (some .int)) (by decide) rfl (Nat.le_of_ble_eq_true rfl) ?_
  intro p e s m args below meth c A ls Qz hQ hin hm hw hl
  have hl : lv_has ls 6 [(0, .ref (D 0)), (1, vN (t))] := hl
  have hR := hmo.1.1
  have hll := PVd_last hmo.1
  have hpm : 3 ≤ pm (sumM (K (R - 1)) (w (R - 1))) t ∧ pm (sumM (K (R - 1)) (w (R - 1))) t ≤ 120 := by unfold pm; split <;> omega
  have hpd : pd (sumM (K (R - 1)) (w (R - 1))) t ≤ 120 := by unfold pd; split <;> omega
  refine k_aload_n hm hl 0 rfl dX7_addMirrored_0 ?_
  refine k_iconstN hm 1 dX7_addMirrored_1 ?_
  refine k_iload_n hm hl 1 rfl dX7_addMirrored_2 ?_
  refine k_callVr (n := 2) (As := [vN (1), vN (t)]) (rest := []) hm hw hl (c_m_whyNot_0 l G D sa pa pn tx tn rf ro wk mb so kd nu it ti rd ad R sp K w y t (by first | assumption | omega) (by first | assumption | omega) (by first | assumption | omega) (by first | assumption | omega)) gX7_addMirrored_X7_whyNot rfl (by decide +kernel) ⟨by decide, by decide⟩ (ci := 7) rfl 0 rfl [0, 1, 2, 3, 4, 5, 6, 7, 8] (by decide) rfl rfl rfl (by simp [Value.category]) ⟨by decide, by decide⟩ dX7_addMirrored_3 (fun v H locs hp hw => ?_)
  obtain rfl := hp
  refine W.eq (g2 := F0 m 6 ls [vN (0)]) rfl ?_
  refine k_istore_n hm hl [(2, vN (0)), (0, .ref (D 0)), (1, vN (t))] (by decide) rfl dX7_addMirrored_6 (fun ls hl => ?_)
  refine k_aload_n hm hl 1 rfl dX7_addMirrored_7 ?_
  refine k_callVr (n := 0) (As := []) (rest := []) hm hw hl (c_m_last l G D sa pa pn tx tn rf ro wk mb so kd nu it ti rd ad R sp K w y (by first | assumption | omega)) gX7_addMirrored_X7_last rfl (by decide +kernel) ⟨by decide, by decide⟩ (ci := 7) rfl 0 rfl [0, 1, 2, 3, 4, 5, 6, 7, 8] (by decide) rfl rfl rfl (by simp [Value.category]) ⟨by decide, by decide⟩ dX7_addMirrored_8 (fun v H locs hp hw => ?_)
  obtain rfl := hp
  refine W.eq (g2 := F0 m 11 ls [vN (sumM (K (R - 1)) (w (R - 1)))]) rfl ?_
  refine k_istore_n hm hl [(3, vN (sumM (K (R - 1)) (w (R - 1)))), (2, vN (0)), (0, .ref (D 0)), (1, vN (t))] (by decide) rfl dX7_addMirrored_11 (fun ls hl => ?_)
  refine k_iload_n hm hl 3 rfl dX7_addMirrored_12 ?_
  refine k_iload_n hm hl 0 rfl dX7_addMirrored_13 ?_
  refine k_icmplt (tgt := 23) hm dX7_addMirrored_14 (by decide) (by omega) (fun c_3 => ?_) (fun c_3 => ?_)
  · refine k_iload_n hm hl 0 rfl dX7_addMirrored_23 ?_
    refine k_iload_n hm hl 3 rfl dX7_addMirrored_24 ?_
    refine k_isubN hm (by omega) dX7_addMirrored_25 ?_
    refine k_rwV (y := vN (pd (sumM (K (R - 1)) (w (R - 1))) t)) (by unfold pd; rw [if_neg (by omega)]) ?_
    refine k_istore hm hl [(4, vN (pd (sumM (K (R - 1)) (w (R - 1))) t)), (3, vN (sumM (K (R - 1)) (w (R - 1)))), (2, vN (0)), (0, .ref (D 0)), (1, vN (t))] (by decide) rfl dX7_addMirrored_26 (fun ls hl => ?_)
    refine k_iload_n hm hl 4 rfl dX7_addMirrored_28 ?_
    refine k_iload_n hm hl 1 rfl dX7_addMirrored_29 ?_
    refine k_icmplt (tgt := 37) hm dX7_addMirrored_30 (by decide) (by omega) (fun c_4 => ?_) (fun c_4 => absurd c_4 (by omega))
    refine k_iload_n hm hl 4 rfl dX7_addMirrored_37 ?_
    refine k_rwV (y := vN (pm (sumM (K (R - 1)) (w (R - 1))) t)) (by unfold pm; rw [if_neg (by omega)]) ?_
    refine k_istore hm hl [(5, vN (pm (sumM (K (R - 1)) (w (R - 1))) t)), (4, vN (pd (sumM (K (R - 1)) (w (R - 1))) t)), (3, vN (sumM (K (R - 1)) (w (R - 1)))), (2, vN (0)), (0, .ref (D 0)), (1, vN (t))] (by decide) rfl dX7_addMirrored_38 (fun ls hl => ?_)
    refine k_aload_n hm hl 4 rfl dX7_addMirrored_40 ?_
    refine k_iload_n hm hl 3 rfl dX7_addMirrored_41 ?_
    refine k_ifne (tgt := 64) hm dX7_addMirrored_42 (by decide) (by omega) (fun c_5 => absurd c_5 (by omega)) (fun c_5 => ?_)
    refine k_iload hm hl 1 rfl dX7_addMirrored_45 ?_
    refine k_iconstN hm 2 dX7_addMirrored_47 ?_
    refine k_iremN hm (by omega) dX7_addMirrored_48 ?_
    refine k_iconstN hm 1 dX7_addMirrored_49 ?_
    refine k_icmpne (tgt := 64) hm dX7_addMirrored_50 (by decide) (by omega) (fun c_6 => absurd c_6 (by omega)) (fun c_6 => ?_)
    refine k_iload hm hl 0 rfl dX7_addMirrored_53 ?_
    refine k_iconstN hm 2 dX7_addMirrored_55 ?_
    refine k_iremN hm (by omega) dX7_addMirrored_56 ?_
    refine k_ifne (tgt := 64) hm dX7_addMirrored_57 (by decide) (by omega) (fun c_7 => absurd c_7 (by omega)) (fun c_7 => ?_)
    refine k_iconstN hm 3 dX7_addMirrored_60 ?_
    refine k_goto (tgt := 65) hm dX7_addMirrored_61 (by decide) ?_
    refine k_callV (n := 1) (As := [vN (3)]) (rest := []) (wr := []) hm hw hl (c_m_throwsAt l G D sa pa pn tx tn rf ro wk mb so kd nu it ti rd ad 3 (by first | assumption | omega)) gX7_addMirrored_X7_throwsAt rfl (by decide +kernel) ⟨by decide, by decide⟩ (ci := 7) rfl 0 rfl [0, 1, 2, 3, 4, 5, 6, 7, 8] [] (by decide) rfl rfl (by decide) (by decide) rfl rfl (by simp [Value.category]) ⟨by decide, by decide⟩ dX7_addMirrored_65 (fun v w1 H locs hp hw => ?_)
    obtain ⟨rfl, rfl⟩ := hp
    have hw := hw.sub (ws' := wMod G D sa pa pn tx tn 3 ro wk mb so kd nu it ti rd ad) [0, 1, 2, 3, 4, 5, 6, 7, 8] (by decide) rfl
    refine W.eq (g2 := F0 m 68 ls [vB (decide (0 < 3))]) rfl ?_
    refine k_ifeqB (tgt := 73) hm dX7_addMirrored_68 (by decide) (fun c_9 => absurd (of_decide_eq_false c_9) (by omega)) (fun c_9 => ?_)
    refine k_iconstN hm 0 dX7_addMirrored_71 ?_
    exact k_iret (post := _) hm hQ rfl rfl hw (⟨rfl, rfl⟩) (by omega) (by omega) dX7_addMirrored_72
  · refine k_iload_n hm hl 3 rfl dX7_addMirrored_17 ?_
    refine k_iload_n hm hl 0 rfl dX7_addMirrored_18 ?_
    refine k_isubN hm (by omega) dX7_addMirrored_19 ?_
    refine k_goto (tgt := 26) hm dX7_addMirrored_20 (by decide) ?_
    refine k_rwV (y := vN (pd (sumM (K (R - 1)) (w (R - 1))) t)) (by unfold pd; rw [if_pos (by omega)]) ?_
    refine k_istore hm hl [(4, vN (pd (sumM (K (R - 1)) (w (R - 1))) t)), (3, vN (sumM (K (R - 1)) (w (R - 1)))), (2, vN (0)), (0, .ref (D 0)), (1, vN (t))] (by decide) rfl dX7_addMirrored_26 (fun ls hl => ?_)
    refine k_iload_n hm hl 4 rfl dX7_addMirrored_28 ?_
    refine k_iload_n hm hl 1 rfl dX7_addMirrored_29 ?_
    refine k_icmplt (tgt := 37) hm dX7_addMirrored_30 (by decide) (by omega) (fun c_10 => absurd c_10 (by omega)) (fun c_10 => ?_)
    refine k_iload_n hm hl 1 rfl dX7_addMirrored_33 ?_
    refine k_goto (tgt := 38) hm dX7_addMirrored_34 (by decide) ?_
    refine k_rwV (y := vN (pm (sumM (K (R - 1)) (w (R - 1))) t)) (by unfold pm; rw [if_pos (by omega)]) ?_
    refine k_istore hm hl [(5, vN (pm (sumM (K (R - 1)) (w (R - 1))) t)), (4, vN (pd (sumM (K (R - 1)) (w (R - 1))) t)), (3, vN (sumM (K (R - 1)) (w (R - 1)))), (2, vN (0)), (0, .ref (D 0)), (1, vN (t))] (by decide) rfl dX7_addMirrored_38 (fun ls hl => ?_)
    refine k_aload_n hm hl 4 rfl dX7_addMirrored_40 ?_
    refine k_iload_n hm hl 3 rfl dX7_addMirrored_41 ?_
    refine k_ifne (tgt := 64) hm dX7_addMirrored_42 (by decide) (by omega) (fun c_11 => absurd c_11 (by omega)) (fun c_11 => ?_)
    refine k_iload hm hl 1 rfl dX7_addMirrored_45 ?_
    refine k_iconstN hm 2 dX7_addMirrored_47 ?_
    refine k_iremN hm (by omega) dX7_addMirrored_48 ?_
    refine k_iconstN hm 1 dX7_addMirrored_49 ?_
    refine k_icmpne (tgt := 64) hm dX7_addMirrored_50 (by decide) (by omega) (fun c_12 => absurd c_12 (by omega)) (fun c_12 => ?_)
    refine k_iload hm hl 0 rfl dX7_addMirrored_53 ?_
    refine k_iconstN hm 2 dX7_addMirrored_55 ?_
    refine k_iremN hm (by omega) dX7_addMirrored_56 ?_
    refine k_ifne (tgt := 64) hm dX7_addMirrored_57 (by decide) (by omega) (fun c_13 => absurd c_13 (by omega)) (fun c_13 => ?_)
    refine k_iconstN hm 3 dX7_addMirrored_60 ?_
    refine k_goto (tgt := 65) hm dX7_addMirrored_61 (by decide) ?_
    refine k_callV (n := 1) (As := [vN (3)]) (rest := []) (wr := []) hm hw hl (c_m_throwsAt l G D sa pa pn tx tn rf ro wk mb so kd nu it ti rd ad 3 (by first | assumption | omega)) gX7_addMirrored_X7_throwsAt rfl (by decide +kernel) ⟨by decide, by decide⟩ (ci := 7) rfl 0 rfl [0, 1, 2, 3, 4, 5, 6, 7, 8] [] (by decide) rfl rfl (by decide) (by decide) rfl rfl (by simp [Value.category]) ⟨by decide, by decide⟩ dX7_addMirrored_65 (fun v w1 H locs hp hw => ?_)
    obtain ⟨rfl, rfl⟩ := hp
    have hw := hw.sub (ws' := wMod G D sa pa pn tx tn 3 ro wk mb so kd nu it ti rd ad) [0, 1, 2, 3, 4, 5, 6, 7, 8] (by decide) rfl
    refine W.eq (g2 := F0 m 68 ls [vB (decide (0 < 3))]) rfl ?_
    refine k_ifeqB (tgt := 73) hm dX7_addMirrored_68 (by decide) (fun c_15 => absurd (of_decide_eq_false c_15) (by omega)) (fun c_15 => ?_)
    refine k_iconstN hm 0 dX7_addMirrored_71 ?_
    exact k_iret (post := _) hm hQ rfl rfl hw (⟨rfl, rfl⟩) (by omega) (by omega) dX7_addMirrored_72
theorem gz_a {v : Int} (h : v < 3) : gz v = 3 := by have q := gz_z v; split at q <;> split at q <;> omega
theorem gz_b {v : Int} (h : 120 < v) : gz v = 120 := by have q := gz_z v; split at q <;> split at q <;> omega
theorem gz_c {v : Int} (h : 3 ≤ v ∧ v ≤ 120) : v = (gz v : Int) := by have q := gz_z v; split at q <;> split at q <;> omega
theorem gs1_m (f sz r : Nat) : ((f : Nat) : Int) * (if ((r + 1 : Nat) : Int) < (if ((sz : Nat) : Int) < ((3 * sz : Nat) : Int) - ((r : Nat) : Int) then ((sz : Nat) : Int) else ((3 * sz : Nat) : Int) - ((r : Nat) : Int)) then ((r + 1 : Nat) : Int) else (if ((sz : Nat) : Int) < ((3 * sz : Nat) : Int) - ((r : Nat) : Int) then ((sz : Nat) : Int) else ((3 * sz : Nat) : Int) - ((r : Nat) : Int))) = gs1 f sz r := by
  have e : Nat.min (r + 1) sz = min (r + 1) sz := rfl
  unfold gs1
  rw [e]
  congr 1
  split <;> split <;> split <;> omega
theorem gs4_m (f sz r : Nat) : ((f : Nat) : Int) * (if ((r + 1 : Nat) : Int) < ((sz : Nat) : Int) then ((r + 1 : Nat) : Int) else ((sz : Nat) : Int)) = ((f * Nat.min (r + 1) sz : Nat) : Int) := by
  have e : Nat.min (r + 1) sz = min (r + 1) sz := rfl
  rw [Int.natCast_mul, e]
  congr 1
  split <;> omega
set_option maxHeartbeats 4000000 in
set_option maxRecDepth 100000 in
theorem c_m_least (l : Launch) (G : kG) (a : Int) (b : Int) (hz : (-2147483648 ≤ a ∧ a < 2147483648) ∧ (-2147483648 ≤ b ∧ b < 2147483648)) : kCR l yX7_least wsX7_least 0 0 G [vZ (a), vZ (b)] ([]) (fun vv => vv = some (vZ ((if a < b then a else b)))) := by
  refine kCM.of (cc := cX7_least) (maxL := 2) (ret := (some .int)) (by decide) rfl (Nat.le_of_ble_eq_true rfl) ?_
  intro p e s m args below meth c A ls Qz hQ hin hm hw hl
  have hl : lv_has ls 2 [(0, vZ (a)), (1, vZ (b))] := hl
  refine k_iload_n hm hl 0 rfl dX7_least_0 ?_
  refine k_iload_n hm hl 1 rfl dX7_least_1 ?_
  refine k_icmpge (tgt := 9) hm dX7_least_2 (by decide) (by omega) (fun c_1 => ?_) (fun c_1 => ?_)
  · refine k_iload_n hm hl 1 rfl dX7_least_9 ?_
    exact k_iret (post := _) hm hQ rfl rfl hw (⟨by rw [if_neg (by omega)], rfl⟩) (by omega) (by omega) dX7_least_10
  · refine k_iload_n hm hl 0 rfl dX7_least_5 ?_
    refine k_goto (tgt := 10) hm dX7_least_6 (by decide) ?_
    exact k_iret (post := _) hm hQ rfl rfl hw (⟨by rw [if_pos (by omega)], rfl⟩) (by omega) (by omega) dX7_least_10
set_option maxHeartbeats 4000000 in
set_option maxRecDepth 100000 in
theorem c_m_within (l : Launch) (G : kG) (v : Int) (hz : (-2147483648 ≤ v ∧ v < 2147483648)) : kCR l yX7_within wsX7_within 0 0 G [vZ (v)] ([]) (fun vv => vv = some (vN (gz v))) := by
  refine kCM.of (cc := cX7_within) (maxL := 1) (ret := (some .int)) (by decide) rfl (Nat.le_of_ble_eq_true rfl) ?_
  intro p e s m args below meth c A ls Qz hQ hin hm hw hl
  have hl : lv_has ls 1 [(0, vZ (v))] := hl
  refine k_iload_n hm hl 0 rfl dX7_within_0 ?_
  refine k_iconstN hm 3 dX7_within_1 ?_
  refine k_icmpge (tgt := 9) hm dX7_within_2 (by decide) (by omega) (fun c_1 => ?_) (fun c_1 => ?_)
  · refine k_iload_n hm hl 0 rfl dX7_within_9 ?_
    refine k_bipushN hm 120 dX7_within_10 rfl ?_
    refine k_icmple (tgt := 20) hm dX7_within_12 (by decide) (by omega) (fun c_2 => ?_) (fun c_2 => ?_)
    · refine k_iload_n hm hl 0 rfl dX7_within_20 ?_
      exact k_iret (post := _) hm hQ rfl rfl hw (⟨congrArg (fun x => some (vZ x)) (gz_c (by omega)), rfl⟩) (by omega) (by omega) dX7_within_21
    · refine k_bipushN hm 120 dX7_within_15 rfl ?_
      refine k_goto (tgt := 21) hm dX7_within_17 (by decide) ?_
      exact k_iret (post := _) hm hQ rfl rfl hw (⟨by rw [gz_b (by omega)], rfl⟩) (by omega) (by omega) dX7_within_21
  · refine k_iconstN hm 3 dX7_within_5 ?_
    refine k_goto (tgt := 21) hm dX7_within_6 (by decide) ?_
    exact k_iret (post := _) hm hQ rfl rfl hw (⟨by rw [gz_a (by omega)], rfl⟩) (by omega) (by omega) dX7_within_21
set_option maxHeartbeats 4000000 in
set_option maxRecDepth 100000 in
theorem c_m_goalOf_0 (l : Launch) (G : kG) (D : Nat → Nat) (sa : Nat → Int64) (pa : Nat → Int64) (pn : Nat) (tx : Nat → Nat) (tn : Nat) (rf : Nat) (ro : Nat → Nat) (wk : Nat) (mb : Nat → Nat) (so : Nat) (kd : Nat → Nat) (nu : Nat → Nat) (it : Nat) (ti : Nat) (rd : Nat) (ad : Nat → Int64) (R : Nat) (sp : Bool) (K : Nat → Nat → Nat) (w : Nat → Nat) (y : Nat → Nat) (sz : Nat) (r : Nat) (hmo : MOk sa R sp K w y) (h : 1 ≤ sz ∧ sz ≤ 20 ∧ r ≤ 40) : kCR l yX7_goalOf wsX7_goalOf 1 21 G [.ref (D 0), vN (0), vN (sz), vN (r)] (wMod G D sa pa pn tx tn rf ro wk mb so kd nu it ti rd ad) (fun vv => vv = some (vN (goalF (sumM (K 0) (w 0)) 0 sz r))) := by
  refine kCM.of (cc := cX7_goalOf) (maxL := 7) (ret := (some .int)) (by decide) rfl (Nat.le_of_ble_eq_true rfl) ?_
  intro p e s m args below meth c A ls Qz hQ hin hm hw hl
  have hl : lv_has ls 7 [(0, .ref (D 0)), (1, vN (0)), (2, vN (sz)), (3, vN (r))] := hl
  have hR := hmo.1.1
  have h0 := tot0_rng hmo.1
  have p1 : (sumM (K 0) (w 0)) * (r + 1) ≤ 12 * 41 := Nat.mul_le_mul h0.2 (by omega)
  have p2 : r * sz ≤ 41 * 20 := Nat.mul_le_mul (by omega) (by omega)
  have p3 : (sumM (K 0) (w 0)) * Nat.min (r + 1) sz ≤ 12 * 20 := Nat.mul_le_mul h0.2 (Nat.le_trans (Nat.min_le_right _ _) (by omega))
  have q1 := (gs1_rng (f := (sumM (K 0) (w 0))) (sz := sz) (r := r) (by omega))
  have e1 : Nat.min (r + 1) sz = min (r + 1) sz := rfl
  refine k_aload_n hm hl 0 rfl dX7_goalOf_0 ?_
  refine k_iconstN hm 0 dX7_goalOf_1 ?_
  refine k_callVr (n := 1) (As := [vN (0)]) (rest := []) hm hw hl (c_m_worksOf l G D sa pa pn tx tn rf ro wk mb so kd nu it ti rd ad R sp K w y 0 (by first | assumption | omega) (by first | assumption | omega)) gX7_goalOf_X7_worksOf rfl (by decide +kernel) ⟨by decide, by decide⟩ (ci := 7) rfl 0 rfl [0, 1, 2, 3, 4, 5, 6, 7, 8] (by decide) rfl rfl rfl (by simp [Value.category]) ⟨by decide, by decide⟩ dX7_goalOf_2 (fun v H locs hp hw => ?_)
  obtain rfl := hp
  refine W.eq (g2 := F0 m 5 ls [vN (w 0)]) rfl ?_
  refine k_rwV (y := vN ((sumM (K 0) (w 0)))) (by rw [tot0 hmo.1]) ?_
  refine k_istore hm hl [(4, vN ((sumM (K 0) (w 0)))), (0, .ref (D 0)), (1, vN (0)), (2, vN (sz)), (3, vN (r))] (by decide) rfl dX7_goalOf_5 (fun ls hl => ?_)
  refine k_iload_n hm hl 2 rfl dX7_goalOf_7 ?_
  refine k_tsw (x := 0) (tgt := 40) hm dX7_goalOf_8 (by decide) (by decide) (by decide) rfl (by decide) ?_
  refine k_iload hm hl 0 rfl dX7_goalOf_40 ?_
  refine k_iload_n hm hl 4 rfl dX7_goalOf_42 ?_
  refine k_iconstN hm 1 dX7_goalOf_43 ?_
  refine k_iaddN hm dX7_goalOf_44 ?_
  refine k_imulN hm dX7_goalOf_45 ?_
  refine k_callSr (n := 1) (As := [vN ((sumM (K 0) (w 0)) * (r + 1))]) (rest := []) hm hw hl (c_m_within l G (((sumM (K 0) (w 0)) * (r + 1) : Nat) : Int) (by first | assumption | omega)) gX7_goalOf_X7_within rfl (by decide +kernel) ⟨by decide, by decide⟩ [] (by decide) rfl rfl rfl (by simp [Value.category]) ⟨by decide, by decide⟩ dX7_goalOf_46 (fun v H locs hp hw => ?_)
  obtain rfl := hp
  refine W.eq (g2 := F0 m 49 ls [vN (gz (((sumM (K 0) (w 0)) * (r + 1) : Nat) : Int))]) rfl ?_
  exact k_iret (post := _) hm hQ rfl rfl hw (⟨by unfold goalF; rw [if_pos rfl], rfl⟩) (by omega) (by omega) dX7_goalOf_49
set_option maxHeartbeats 4000000 in
set_option maxRecDepth 100000 in
theorem c_m_goalOf_1 (l : Launch) (G : kG) (D : Nat → Nat) (sa : Nat → Int64) (pa : Nat → Int64) (pn : Nat) (tx : Nat → Nat) (tn : Nat) (rf : Nat) (ro : Nat → Nat) (wk : Nat) (mb : Nat → Nat) (so : Nat) (kd : Nat → Nat) (nu : Nat → Nat) (it : Nat) (ti : Nat) (rd : Nat) (ad : Nat → Int64) (R : Nat) (sp : Bool) (K : Nat → Nat → Nat) (w : Nat → Nat) (y : Nat → Nat) (sz : Nat) (r : Nat) (hmo : MOk sa R sp K w y) (h : 1 ≤ sz ∧ sz ≤ 20 ∧ r ≤ 40) : kCR l yX7_goalOf wsX7_goalOf 1 21 G [.ref (D 0), vN (1), vN (sz), vN (r)] (wMod G D sa pa pn tx tn rf ro wk mb so kd nu it ti rd ad) (fun vv => vv = some (vN (goalF (sumM (K 0) (w 0)) 1 sz r))) := by
  refine kCM.of (cc := cX7_goalOf) (maxL := 7) (ret := (some .int)) (by decide) rfl (Nat.le_of_ble_eq_true rfl) ?_
  intro p e s m args below meth c A ls Qz hQ hin hm hw hl
  have hl : lv_has ls 7 [(0, .ref (D 0)), (1, vN (1)), (2, vN (sz)), (3, vN (r))] := hl
  have hR := hmo.1.1
  have h0 := tot0_rng hmo.1
  have p1 : (sumM (K 0) (w 0)) * (r + 1) ≤ 12 * 41 := Nat.mul_le_mul h0.2 (by omega)
  have p2 : r * sz ≤ 41 * 20 := Nat.mul_le_mul (by omega) (by omega)
  have p3 : (sumM (K 0) (w 0)) * Nat.min (r + 1) sz ≤ 12 * 20 := Nat.mul_le_mul h0.2 (Nat.le_trans (Nat.min_le_right _ _) (by omega))
  have q1 := (gs1_rng (f := (sumM (K 0) (w 0))) (sz := sz) (r := r) (by omega))
  have e1 : Nat.min (r + 1) sz = min (r + 1) sz := rfl
  refine k_aload_n hm hl 0 rfl dX7_goalOf_0 ?_
  refine k_iconstN hm 0 dX7_goalOf_1 ?_
  refine k_callVr (n := 1) (As := [vN (0)]) (rest := []) hm hw hl (c_m_worksOf l G D sa pa pn tx tn rf ro wk mb so kd nu it ti rd ad R sp K w y 0 (by first | assumption | omega) (by first | assumption | omega)) gX7_goalOf_X7_worksOf rfl (by decide +kernel) ⟨by decide, by decide⟩ (ci := 7) rfl 0 rfl [0, 1, 2, 3, 4, 5, 6, 7, 8] (by decide) rfl rfl rfl (by simp [Value.category]) ⟨by decide, by decide⟩ dX7_goalOf_2 (fun v H locs hp hw => ?_)
  obtain rfl := hp
  refine W.eq (g2 := F0 m 5 ls [vN (w 0)]) rfl ?_
  refine k_rwV (y := vN ((sumM (K 0) (w 0)))) (by rw [tot0 hmo.1]) ?_
  refine k_istore hm hl [(4, vN ((sumM (K 0) (w 0)))), (0, .ref (D 0)), (1, vN (1)), (2, vN (sz)), (3, vN (r))] (by decide) rfl dX7_goalOf_5 (fun ls hl => ?_)
  refine k_iload_n hm hl 2 rfl dX7_goalOf_7 ?_
  refine k_tsw (x := 1) (tgt := 50) hm dX7_goalOf_8 (by decide) (by decide) (by decide) rfl (by decide) ?_
  refine k_iload hm hl 0 rfl dX7_goalOf_50 ?_
  refine k_iload_n hm hl 4 rfl dX7_goalOf_52 ?_
  refine k_iconstN hm 1 dX7_goalOf_53 ?_
  refine k_iaddN hm dX7_goalOf_54 ?_
  refine k_iload_n hm hl 3 rfl dX7_goalOf_55 ?_
  refine k_iconstN hm 3 dX7_goalOf_56 ?_
  refine k_iload_n hm hl 3 rfl dX7_goalOf_57 ?_
  refine k_imulN hm dX7_goalOf_58 ?_
  refine k_iload_n hm hl 4 rfl dX7_goalOf_59 ?_
  refine k_isub hm dX7_goalOf_60 ?_
  refine k_callSr (n := 2) (As := [vN (sz), vZ (((3 * sz : Nat) : Int) - ((r : Nat) : Int))]) (rest := [vN (r + 1), vN ((sumM (K 0) (w 0)))]) hm hw hl (c_m_least l G ((sz : Nat) : Int) (((3 * sz : Nat) : Int) - ((r : Nat) : Int)) (by first | assumption | omega)) gX7_goalOf_X7_least rfl (by decide +kernel) ⟨by decide, by decide⟩ [] (by decide) rfl rfl rfl (by simp [Value.category]) ⟨by decide, by decide⟩ dX7_goalOf_61 (fun v H locs hp hw => ?_)
  obtain rfl := hp
  refine W.eq (g2 := F0 m 64 ls [vZ ((if ((sz : Nat) : Int) < (((3 * sz : Nat) : Int) - ((r : Nat) : Int)) then ((sz : Nat) : Int) else (((3 * sz : Nat) : Int) - ((r : Nat) : Int)))), vN (r + 1), vN ((sumM (K 0) (w 0)))]) rfl ?_
  refine k_callSr (n := 2) (As := [vN (r + 1), vZ ((if ((sz : Nat) : Int) < (((3 * sz : Nat) : Int) - ((r : Nat) : Int)) then ((sz : Nat) : Int) else (((3 * sz : Nat) : Int) - ((r : Nat) : Int))))]) (rest := [vN ((sumM (K 0) (w 0)))]) hm hw hl (c_m_least l G ((r + 1 : Nat) : Int) (if ((sz : Nat) : Int) < (((3 * sz : Nat) : Int) - ((r : Nat) : Int)) then ((sz : Nat) : Int) else (((3 * sz : Nat) : Int) - ((r : Nat) : Int))) (by first | assumption | omega)) gX7_goalOf_X7_least rfl (by decide +kernel) ⟨by decide, by decide⟩ [] (by decide) rfl rfl rfl (by simp [Value.category]) ⟨by decide, by decide⟩ dX7_goalOf_64 (fun v H locs hp hw => ?_)
  obtain rfl := hp
  refine W.eq (g2 := F0 m 67 ls [vZ ((if ((r + 1 : Nat) : Int) < (if ((sz : Nat) : Int) < (((3 * sz : Nat) : Int) - ((r : Nat) : Int)) then ((sz : Nat) : Int) else (((3 * sz : Nat) : Int) - ((r : Nat) : Int))) then ((r + 1 : Nat) : Int) else (if ((sz : Nat) : Int) < (((3 * sz : Nat) : Int) - ((r : Nat) : Int)) then ((sz : Nat) : Int) else (((3 * sz : Nat) : Int) - ((r : Nat) : Int))))), vN ((sumM (K 0) (w 0)))]) rfl ?_
  refine k_imul hm dX7_goalOf_67 ?_
  refine k_rwV (y := vZ (gs1 (sumM (K 0) (w 0)) sz r)) (by rw [gs1_m]) ?_
  refine k_callSr (n := 1) (As := [vZ (gs1 (sumM (K 0) (w 0)) sz r)]) (rest := []) hm hw hl (c_m_within l G (gs1 (sumM (K 0) (w 0)) sz r) (by first | assumption | omega)) gX7_goalOf_X7_within rfl (by decide +kernel) ⟨by decide, by decide⟩ [] (by decide) rfl rfl rfl (by simp [Value.category]) ⟨by decide, by decide⟩ dX7_goalOf_68 (fun v H locs hp hw => ?_)
  obtain rfl := hp
  refine W.eq (g2 := F0 m 71 ls [vN (gz (gs1 (sumM (K 0) (w 0)) sz r))]) rfl ?_
  exact k_iret (post := _) hm hQ rfl rfl hw (⟨by unfold goalF; rw [if_neg (by decide)]; rw [if_pos rfl], rfl⟩) (by omega) (by omega) dX7_goalOf_71
set_option maxHeartbeats 4000000 in
set_option maxRecDepth 100000 in
theorem c_m_goalOf_2 (l : Launch) (G : kG) (D : Nat → Nat) (sa : Nat → Int64) (pa : Nat → Int64) (pn : Nat) (tx : Nat → Nat) (tn : Nat) (rf : Nat) (ro : Nat → Nat) (wk : Nat) (mb : Nat → Nat) (so : Nat) (kd : Nat → Nat) (nu : Nat → Nat) (it : Nat) (ti : Nat) (rd : Nat) (ad : Nat → Int64) (R : Nat) (sp : Bool) (K : Nat → Nat → Nat) (w : Nat → Nat) (y : Nat → Nat) (sz : Nat) (r : Nat) (hmo : MOk sa R sp K w y) (h : 1 ≤ sz ∧ sz ≤ 20 ∧ r ≤ 40) : kCR l yX7_goalOf wsX7_goalOf 1 21 G [.ref (D 0), vN (2), vN (sz), vN (r)] (wMod G D sa pa pn tx tn rf ro wk mb so kd nu it ti rd ad) (fun vv => vv = some (vN (goalF (sumM (K 0) (w 0)) 2 sz r))) := by
  refine kCM.of (cc := cX7_goalOf) (maxL := 7) (ret := (some .int)) (by decide) rfl (Nat.le_of_ble_eq_true rfl) ?_
  intro p e s m args below meth c A ls Qz hQ hin hm hw hl
  have hl : lv_has ls 7 [(0, .ref (D 0)), (1, vN (2)), (2, vN (sz)), (3, vN (r))] := hl
  have hR := hmo.1.1
  have h0 := tot0_rng hmo.1
  have p1 : (sumM (K 0) (w 0)) * (r + 1) ≤ 12 * 41 := Nat.mul_le_mul h0.2 (by omega)
  have p2 : r * sz ≤ 41 * 20 := Nat.mul_le_mul (by omega) (by omega)
  have p3 : (sumM (K 0) (w 0)) * Nat.min (r + 1) sz ≤ 12 * 20 := Nat.mul_le_mul h0.2 (Nat.le_trans (Nat.min_le_right _ _) (by omega))
  have q1 := (gs1_rng (f := (sumM (K 0) (w 0))) (sz := sz) (r := r) (by omega))
  have e1 : Nat.min (r + 1) sz = min (r + 1) sz := rfl
  refine k_aload_n hm hl 0 rfl dX7_goalOf_0 ?_
  refine k_iconstN hm 0 dX7_goalOf_1 ?_
  refine k_callVr (n := 1) (As := [vN (0)]) (rest := []) hm hw hl (c_m_worksOf l G D sa pa pn tx tn rf ro wk mb so kd nu it ti rd ad R sp K w y 0 (by first | assumption | omega) (by first | assumption | omega)) gX7_goalOf_X7_worksOf rfl (by decide +kernel) ⟨by decide, by decide⟩ (ci := 7) rfl 0 rfl [0, 1, 2, 3, 4, 5, 6, 7, 8] (by decide) rfl rfl rfl (by simp [Value.category]) ⟨by decide, by decide⟩ dX7_goalOf_2 (fun v H locs hp hw => ?_)
  obtain rfl := hp
  refine W.eq (g2 := F0 m 5 ls [vN (w 0)]) rfl ?_
  refine k_rwV (y := vN ((sumM (K 0) (w 0)))) (by rw [tot0 hmo.1]) ?_
  refine k_istore hm hl [(4, vN ((sumM (K 0) (w 0)))), (0, .ref (D 0)), (1, vN (2)), (2, vN (sz)), (3, vN (r))] (by decide) rfl dX7_goalOf_5 (fun ls hl => ?_)
  refine k_iload_n hm hl 2 rfl dX7_goalOf_7 ?_
  refine k_tsw (x := 2) (tgt := 72) hm dX7_goalOf_8 (by decide) (by decide) (by decide) rfl (by decide) ?_
  refine k_iload hm hl 0 rfl dX7_goalOf_72 ?_
  refine k_istore hm hl [(5, vN ((sumM (K 0) (w 0)))), (4, vN ((sumM (K 0) (w 0)))), (0, .ref (D 0)), (1, vN (2)), (2, vN (sz)), (3, vN (r))] (by decide) rfl dX7_goalOf_74 (fun ls hl => ?_)
  refine k_iconstN hm 0 dX7_goalOf_76 ?_
  refine k_istore hm hl [(6, vN (0)), (5, vN ((sumM (K 0) (w 0)))), (4, vN ((sumM (K 0) (w 0)))), (0, .ref (D 0)), (1, vN (2)), (2, vN (sz)), (3, vN (r))] (by decide) rfl dX7_goalOf_77 (fun ls hl => ?_)
  have loop_79 : ∀ (fu : Nat) (k : Nat) (hk : k ≤ r) (H : Heap) (locs : List Loc) (ls : Array Slot), r - k < fu → kW G A s (wMod G D sa pa pn tx tn rf ro wk mb so kd nu it ti rd ad) H locs → lv_has ls 7 [(0, .ref (D 0)), (1, vN (2)), (2, vN (sz)), (3, vN (r)), (4, vN ((sumM (K 0) (w 0)))), (5, vN (ruf (sumM (K 0) (w 0)) k)), (6, vN (k))] → W p l e { frames := 1, cells := 0, slots := 0, locals := 21 } s m args below meth c H locs 0 0 Qz (F0 m 79 ls []) := by
    intro fu
    induction fu with
    | zero => intro k hk H locs ls hfu; exact absurd hfu (Nat.not_lt_zero _)
    | succ fu ih_79 =>
      intro k hk H locs ls hfu hw hl
      refine k_iload hm hl 6 rfl dX7_goalOf_79 ?_
      refine k_iload_n hm hl 3 rfl dX7_goalOf_81 ?_
      refine k_icmpge (tgt := 100) hm dX7_goalOf_82 (by decide) (by omega) (fun c_2 => ?_) (fun c_2 => ?_)
      · refine k_iload hm hl 5 rfl dX7_goalOf_100 ?_
        exact k_iret (post := _) hm hQ rfl rfl hw (⟨by unfold goalF; rw [if_neg (by decide)]; rw [if_neg (by decide)]; rw [if_pos rfl]; rw [show r = k by omega], rfl⟩) (by omega) (by omega) dX7_goalOf_102
      · have hrk := ruf_rng h0 k
        refine k_iconstN hm 2 dX7_goalOf_85 ?_
        refine k_iload hm hl 5 rfl dX7_goalOf_86 ?_
        refine k_imulN hm dX7_goalOf_88 ?_
        refine k_callSr (n := 1) (As := [vN (2 * (ruf (sumM (K 0) (w 0)) k))]) (rest := []) hm hw hl (c_m_within l G ((2 * (ruf (sumM (K 0) (w 0)) k) : Nat) : Int) (by first | assumption | omega)) gX7_goalOf_X7_within rfl (by decide +kernel) ⟨by decide, by decide⟩ [] (by decide) rfl rfl rfl (by simp [Value.category]) ⟨by decide, by decide⟩ dX7_goalOf_89 (fun v H locs hp hw => ?_)
        obtain rfl := hp
        refine W.eq (g2 := F0 m 92 ls [vN (gz ((2 * (ruf (sumM (K 0) (w 0)) k) : Nat) : Int))]) rfl ?_
        refine k_rwV (y := vN (ruf (sumM (K 0) (w 0)) (k + 1))) (by have e2 : ruf (sumM (K 0) (w 0)) (k + 1) = Nat.min 120 (2 * ruf (sumM (K 0) (w 0)) k) := rfl; rw [e2, ← gz_min (by omega)]) ?_
        refine k_istore hm hl [(5, vN (ruf (sumM (K 0) (w 0)) (k + 1))), (0, .ref (D 0)), (1, vN (2)), (2, vN (sz)), (3, vN (r)), (4, vN ((sumM (K 0) (w 0)))), (6, vN (k))] (by decide) rfl dX7_goalOf_92 (fun ls hl => ?_)
        refine k_iincN hm hl 6 1 rfl [(6, vN (k + 1)), (5, vN (ruf (sumM (K 0) (w 0)) (k + 1))), (0, .ref (D 0)), (1, vN (2)), (2, vN (sz)), (3, vN (r)), (4, vN ((sumM (K 0) (w 0))))] (by decide) rfl dX7_goalOf_94 (fun ls hl => ?_)
        refine k_goto (tgt := 79) hm dX7_goalOf_97 (by decide) ?_
        exact ih_79  (k + 1) (by first | assumption | omega) _ _ _ (by omega) hw (lv_sub hl [2, 3, 4, 5, 6, 1, 0] rfl)
  exact loop_79 (r - 0 + 1) 0 (by first | assumption | omega) _ _ _ (Nat.lt_succ_self _) hw (lv_sub hl [3, 4, 5, 6, 2, 1, 0] rfl)
set_option maxHeartbeats 4000000 in
set_option maxRecDepth 100000 in
theorem c_m_goalOf_3 (l : Launch) (G : kG) (D : Nat → Nat) (sa : Nat → Int64) (pa : Nat → Int64) (pn : Nat) (tx : Nat → Nat) (tn : Nat) (rf : Nat) (ro : Nat → Nat) (wk : Nat) (mb : Nat → Nat) (so : Nat) (kd : Nat → Nat) (nu : Nat → Nat) (it : Nat) (ti : Nat) (rd : Nat) (ad : Nat → Int64) (R : Nat) (sp : Bool) (K : Nat → Nat → Nat) (w : Nat → Nat) (y : Nat → Nat) (sz : Nat) (r : Nat) (hmo : MOk sa R sp K w y) (h : 1 ≤ sz ∧ sz ≤ 20 ∧ r ≤ 40) : kCR l yX7_goalOf wsX7_goalOf 1 21 G [.ref (D 0), vN (3), vN (sz), vN (r)] (wMod G D sa pa pn tx tn rf ro wk mb so kd nu it ti rd ad) (fun vv => vv = some (vN (goalF (sumM (K 0) (w 0)) 3 sz r))) := by
  refine kCM.of (cc := cX7_goalOf) (maxL := 7) (ret := (some .int)) (by decide) rfl (Nat.le_of_ble_eq_true rfl) ?_
  intro p e s m args below meth c A ls Qz hQ hin hm hw hl
  have hl : lv_has ls 7 [(0, .ref (D 0)), (1, vN (3)), (2, vN (sz)), (3, vN (r))] := hl
  have hR := hmo.1.1
  have h0 := tot0_rng hmo.1
  have p1 : (sumM (K 0) (w 0)) * (r + 1) ≤ 12 * 41 := Nat.mul_le_mul h0.2 (by omega)
  have p2 : r * sz ≤ 41 * 20 := Nat.mul_le_mul (by omega) (by omega)
  have p3 : (sumM (K 0) (w 0)) * Nat.min (r + 1) sz ≤ 12 * 20 := Nat.mul_le_mul h0.2 (Nat.le_trans (Nat.min_le_right _ _) (by omega))
  have q1 := (gs1_rng (f := (sumM (K 0) (w 0))) (sz := sz) (r := r) (by omega))
  have e1 : Nat.min (r + 1) sz = min (r + 1) sz := rfl
  refine k_aload_n hm hl 0 rfl dX7_goalOf_0 ?_
  refine k_iconstN hm 0 dX7_goalOf_1 ?_
  refine k_callVr (n := 1) (As := [vN (0)]) (rest := []) hm hw hl (c_m_worksOf l G D sa pa pn tx tn rf ro wk mb so kd nu it ti rd ad R sp K w y 0 (by first | assumption | omega) (by first | assumption | omega)) gX7_goalOf_X7_worksOf rfl (by decide +kernel) ⟨by decide, by decide⟩ (ci := 7) rfl 0 rfl [0, 1, 2, 3, 4, 5, 6, 7, 8] (by decide) rfl rfl rfl (by simp [Value.category]) ⟨by decide, by decide⟩ dX7_goalOf_2 (fun v H locs hp hw => ?_)
  obtain rfl := hp
  refine W.eq (g2 := F0 m 5 ls [vN (w 0)]) rfl ?_
  refine k_rwV (y := vN ((sumM (K 0) (w 0)))) (by rw [tot0 hmo.1]) ?_
  refine k_istore hm hl [(4, vN ((sumM (K 0) (w 0)))), (0, .ref (D 0)), (1, vN (3)), (2, vN (sz)), (3, vN (r))] (by decide) rfl dX7_goalOf_5 (fun ls hl => ?_)
  refine k_iload_n hm hl 2 rfl dX7_goalOf_7 ?_
  refine k_tsw (x := 3) (tgt := 103) hm dX7_goalOf_8 (by decide) (by decide) (by decide) rfl (by decide) ?_
  refine k_iload hm hl 0 rfl dX7_goalOf_103 ?_
  refine k_iload_n hm hl 4 rfl dX7_goalOf_105 ?_
  refine k_iload_n hm hl 3 rfl dX7_goalOf_106 ?_
  refine k_imulN hm dX7_goalOf_107 ?_
  refine k_iaddN hm dX7_goalOf_108 ?_
  refine k_callSr (n := 1) (As := [vN ((sumM (K 0) (w 0)) + (r * sz))]) (rest := []) hm hw hl (c_m_within l G (((sumM (K 0) (w 0)) + (r * sz) : Nat) : Int) (by first | assumption | omega)) gX7_goalOf_X7_within rfl (by decide +kernel) ⟨by decide, by decide⟩ [] (by decide) rfl rfl rfl (by simp [Value.category]) ⟨by decide, by decide⟩ dX7_goalOf_109 (fun v H locs hp hw => ?_)
  obtain rfl := hp
  refine W.eq (g2 := F0 m 112 ls [vN (gz (((sumM (K 0) (w 0)) + (r * sz) : Nat) : Int))]) rfl ?_
  exact k_iret (post := _) hm hQ rfl rfl hw (⟨by unfold goalF; rw [if_neg (by decide)]; rw [if_neg (by decide)]; rw [if_neg (by decide)]; rw [if_pos rfl], rfl⟩) (by omega) (by omega) dX7_goalOf_112
set_option maxHeartbeats 4000000 in
set_option maxRecDepth 100000 in
theorem c_m_goalOf_4 (l : Launch) (G : kG) (D : Nat → Nat) (sa : Nat → Int64) (pa : Nat → Int64) (pn : Nat) (tx : Nat → Nat) (tn : Nat) (rf : Nat) (ro : Nat → Nat) (wk : Nat) (mb : Nat → Nat) (so : Nat) (kd : Nat → Nat) (nu : Nat → Nat) (it : Nat) (ti : Nat) (rd : Nat) (ad : Nat → Int64) (R : Nat) (sp : Bool) (K : Nat → Nat → Nat) (w : Nat → Nat) (y : Nat → Nat) (sz : Nat) (r : Nat) (hmo : MOk sa R sp K w y) (h : 1 ≤ sz ∧ sz ≤ 20 ∧ r ≤ 40) : kCR l yX7_goalOf wsX7_goalOf 1 21 G [.ref (D 0), vN (4), vN (sz), vN (r)] (wMod G D sa pa pn tx tn rf ro wk mb so kd nu it ti rd ad) (fun vv => vv = some (vN (goalF (sumM (K 0) (w 0)) 4 sz r))) := by
  refine kCM.of (cc := cX7_goalOf) (maxL := 7) (ret := (some .int)) (by decide) rfl (Nat.le_of_ble_eq_true rfl) ?_
  intro p e s m args below meth c A ls Qz hQ hin hm hw hl
  have hl : lv_has ls 7 [(0, .ref (D 0)), (1, vN (4)), (2, vN (sz)), (3, vN (r))] := hl
  have hR := hmo.1.1
  have h0 := tot0_rng hmo.1
  have p1 : (sumM (K 0) (w 0)) * (r + 1) ≤ 12 * 41 := Nat.mul_le_mul h0.2 (by omega)
  have p2 : r * sz ≤ 41 * 20 := Nat.mul_le_mul (by omega) (by omega)
  have p3 : (sumM (K 0) (w 0)) * Nat.min (r + 1) sz ≤ 12 * 20 := Nat.mul_le_mul h0.2 (Nat.le_trans (Nat.min_le_right _ _) (by omega))
  have q1 := (gs1_rng (f := (sumM (K 0) (w 0))) (sz := sz) (r := r) (by omega))
  have e1 : Nat.min (r + 1) sz = min (r + 1) sz := rfl
  refine k_aload_n hm hl 0 rfl dX7_goalOf_0 ?_
  refine k_iconstN hm 0 dX7_goalOf_1 ?_
  refine k_callVr (n := 1) (As := [vN (0)]) (rest := []) hm hw hl (c_m_worksOf l G D sa pa pn tx tn rf ro wk mb so kd nu it ti rd ad R sp K w y 0 (by first | assumption | omega) (by first | assumption | omega)) gX7_goalOf_X7_worksOf rfl (by decide +kernel) ⟨by decide, by decide⟩ (ci := 7) rfl 0 rfl [0, 1, 2, 3, 4, 5, 6, 7, 8] (by decide) rfl rfl rfl (by simp [Value.category]) ⟨by decide, by decide⟩ dX7_goalOf_2 (fun v H locs hp hw => ?_)
  obtain rfl := hp
  refine W.eq (g2 := F0 m 5 ls [vN (w 0)]) rfl ?_
  refine k_rwV (y := vN ((sumM (K 0) (w 0)))) (by rw [tot0 hmo.1]) ?_
  refine k_istore hm hl [(4, vN ((sumM (K 0) (w 0)))), (0, .ref (D 0)), (1, vN (4)), (2, vN (sz)), (3, vN (r))] (by decide) rfl dX7_goalOf_5 (fun ls hl => ?_)
  refine k_iload_n hm hl 2 rfl dX7_goalOf_7 ?_
  refine k_tsd (x := 4) (tgt := 113) hm dX7_goalOf_8 (by decide) (by decide) (by decide) ?_
  refine k_iload hm hl 0 rfl dX7_goalOf_113 ?_
  refine k_iload_n hm hl 4 rfl dX7_goalOf_115 ?_
  refine k_iconstN hm 1 dX7_goalOf_116 ?_
  refine k_iaddN hm dX7_goalOf_117 ?_
  refine k_iload_n hm hl 3 rfl dX7_goalOf_118 ?_
  refine k_callSr (n := 2) (As := [vN (r + 1), vN (sz)]) (rest := [vN ((sumM (K 0) (w 0)))]) hm hw hl (c_m_least l G ((r + 1 : Nat) : Int) ((sz : Nat) : Int) (by first | assumption | omega)) gX7_goalOf_X7_least rfl (by decide +kernel) ⟨by decide, by decide⟩ [] (by decide) rfl rfl rfl (by simp [Value.category]) ⟨by decide, by decide⟩ dX7_goalOf_119 (fun v H locs hp hw => ?_)
  obtain rfl := hp
  refine W.eq (g2 := F0 m 122 ls [vZ ((if ((r + 1 : Nat) : Int) < ((sz : Nat) : Int) then ((r + 1 : Nat) : Int) else ((sz : Nat) : Int))), vN ((sumM (K 0) (w 0)))]) rfl ?_
  refine k_imul hm dX7_goalOf_122 ?_
  refine k_rwV (y := vZ ((((sumM (K 0) (w 0)) * Nat.min (r + 1) sz : Nat) : Int))) (by rw [gs4_m]) ?_
  refine k_callSr (n := 1) (As := [vZ ((((sumM (K 0) (w 0)) * Nat.min (r + 1) sz : Nat) : Int))]) (rest := []) hm hw hl (c_m_within l G (((sumM (K 0) (w 0)) * Nat.min (r + 1) sz : Nat) : Int) (by first | assumption | omega)) gX7_goalOf_X7_within rfl (by decide +kernel) ⟨by decide, by decide⟩ [] (by decide) rfl rfl rfl (by simp [Value.category]) ⟨by decide, by decide⟩ dX7_goalOf_123 (fun v H locs hp hw => ?_)
  obtain rfl := hp
  refine W.eq (g2 := F0 m 126 ls [vN (gz (((sumM (K 0) (w 0)) * Nat.min (r + 1) sz : Nat) : Int))]) rfl ?_
  exact k_iret (post := _) hm hQ rfl rfl hw (⟨by unfold goalF; rw [if_neg (by decide)]; rw [if_neg (by decide)]; rw [if_neg (by decide)]; rw [if_neg (by decide)], rfl⟩) (by omega) (by omega) dX7_goalOf_126
set_option maxHeartbeats 4000000 in
set_option maxRecDepth 100000 in
theorem c_m_goalOf (l : Launch) (G : kG) (D : Nat → Nat) (sa : Nat → Int64) (pa : Nat → Int64) (pn : Nat) (tx : Nat → Nat) (tn : Nat) (rf : Nat) (ro : Nat → Nat) (wk : Nat) (mb : Nat → Nat) (so : Nat) (kd : Nat → Nat) (nu : Nat → Nat) (it : Nat) (ti : Nat) (rd : Nat) (ad : Nat → Int64) (R : Nat) (sp : Bool) (K : Nat → Nat → Nat) (w : Nat → Nat) (y : Nat → Nat) (sh : Nat) (sz : Nat) (r : Nat) (hmo : MOk sa R sp K w y) (hsh : sh < 5) (h : 1 ≤ sz ∧ sz ≤ 20 ∧ r ≤ 40) : kCR l yX7_goalOf wsX7_goalOf 1 21 G [.ref (D 0), vN (sh), vN (sz), vN (r)] (wMod G D sa pa pn tx tn rf ro wk mb so kd nu it ti rd ad) (fun vv => vv = some (vN (goalF (sumM (K 0) (w 0)) sh sz r))) := by
  rcases (show sh = 0 ∨ sh = 1 ∨ sh = 2 ∨ sh = 3 ∨ sh = 4 by omega) with rfl | rfl | rfl | rfl | rfl
  · exact c_m_goalOf_0 l G D sa pa pn tx tn rf ro wk mb so kd nu it ti rd ad R sp K w y sz r hmo h
  · exact c_m_goalOf_1 l G D sa pa pn tx tn rf ro wk mb so kd nu it ti rd ad R sp K w y sz r hmo h
  · exact c_m_goalOf_2 l G D sa pa pn tx tn rf ro wk mb so kd nu it ti rd ad R sp K w y sz r hmo h
  · exact c_m_goalOf_3 l G D sa pa pn tx tn rf ro wk mb so kd nu it ti rd ad R sp K w y sz r hmo h
  · exact c_m_goalOf_4 l G D sa pa pn tx tn rf ro wk mb so kd nu it ti rd ad R sp K w y sz r hmo h
set_option maxHeartbeats 4000000 in
set_option maxRecDepth 100000 in
theorem c_m_isShape (l : Launch) (G : kG) (z : Int) (x : Int) (hzz : -2147483648 ≤ z ∧ z < 2147483648) (hzx : -2147483648 ≤ x ∧ x < 2147483648) : kCR l yX7_isShape wsX7_isShape 1 22 G [vZ (z), vZ (x)] ([]) (fun vv => vv = some (vB (decide ((0 ≤ z ∧ z ≤ 4) ∧ 1 ≤ x ∧ x ≤ 20)))) := by
  refine kCM.of (cc := cX7_isShape) (maxL := 2) (ret := (some .boolean)) (by decide) rfl (Nat.le_of_ble_eq_true rfl) ?_
  intro p e s m args below meth c A ls Qz hQ hin hm hw hl
  have hl : lv_has ls 2 [(0, vZ (z)), (1, vZ (x))] := hl
  refine k_iload_n hm hl 0 rfl dX7_isShape_0 ?_
  refine k_iconstN hm 0 dX7_isShape_1 ?_
  refine k_iconstN hm 4 dX7_isShape_2 ?_
  refine k_callSr (n := 3) (As := [vZ (z), vN (0), vN (4)]) (rest := []) hm hw hl (c_m_in l G z ((0 : Nat) : Int) ((4 : Nat) : Int) (by first | assumption | omega)) gX7_isShape_X7_in rfl (by decide +kernel) ⟨by decide, by decide⟩ [] (by decide) rfl rfl rfl (by simp [Value.category]) ⟨by decide, by decide⟩ dX7_isShape_3 (fun v H locs hp hw => ?_)
  obtain rfl := hp
  refine W.eq (g2 := F0 m 6 ls [vB (decide (((0 : Nat) : Int) ≤ z ∧ z ≤ ((4 : Nat) : Int)))]) rfl ?_
  refine k_ifeqB (tgt := 23) hm dX7_isShape_6 (by decide) (fun c_2 => ?_) (fun c_2 => ?_)
  · have c_2d := of_decide_eq_false c_2
    refine k_iconstN hm 0 dX7_isShape_23 ?_
    exact k_iret (post := _) hm hQ rfl (kN_bool false) hw (⟨(congrArg (fun b => some (vB b)) (decide_eq_false (by omega))).symm, rfl⟩) (by omega) (by omega) dX7_isShape_24
  · have c_2d := of_decide_eq_true c_2
    refine k_iload_n hm hl 1 rfl dX7_isShape_9 ?_
    refine k_iconstN hm 1 dX7_isShape_10 ?_
    refine k_bipushN hm 20 dX7_isShape_11 rfl ?_
    refine k_callSr (n := 3) (As := [vZ (x), vN (1), vN (20)]) (rest := []) hm hw hl (c_m_in l G x ((1 : Nat) : Int) ((20 : Nat) : Int) (by first | assumption | omega)) gX7_isShape_X7_in rfl (by decide +kernel) ⟨by decide, by decide⟩ [] (by decide) rfl rfl rfl (by simp [Value.category]) ⟨by decide, by decide⟩ dX7_isShape_13 (fun v H locs hp hw => ?_)
    obtain rfl := hp
    refine W.eq (g2 := F0 m 16 ls [vB (decide (((1 : Nat) : Int) ≤ x ∧ x ≤ ((20 : Nat) : Int)))]) rfl ?_
    refine k_ifeqB (tgt := 23) hm dX7_isShape_16 (by decide) (fun c_4 => ?_) (fun c_4 => ?_)
    · have c_4d := of_decide_eq_false c_4
      refine k_iconstN hm 0 dX7_isShape_23 ?_
      exact k_iret (post := _) hm hQ rfl (kN_bool false) hw (⟨(congrArg (fun b => some (vB b)) (decide_eq_false (by omega))).symm, rfl⟩) (by omega) (by omega) dX7_isShape_24
    · have c_4d := of_decide_eq_true c_4
      refine k_iconstN hm 1 dX7_isShape_19 ?_
      refine k_goto (tgt := 24) hm dX7_isShape_20 (by decide) ?_
      exact k_iret (post := _) hm hQ rfl (kN_bool true) hw (⟨(congrArg (fun b => some (vB b)) (decide_eq_true (by omega))).symm, rfl⟩) (by omega) (by omega) dX7_isShape_24
set_option maxHeartbeats 4000000 in
set_option maxRecDepth 100000 in
theorem c_m_goal_ok (l : Launch) (G : kG) (D : Nat → Nat) (sa : Nat → Int64) (pa : Nat → Int64) (pn : Nat) (tx : Nat → Nat) (tn : Nat) (rf : Nat) (ro : Nat → Nat) (wk : Nat) (mb : Nat → Nat) (so : Nat) (kd : Nat → Nat) (nu : Nat → Nat) (it : Nat) (ti : Nat) (rd : Nat) (ad : Nat → Int64) (R : Nat) (sp : Bool) (K : Nat → Nat → Nat) (w : Nat → Nat) (y : Nat → Nat) (sh : Nat) (sz : Nat) (r : Nat) (hmo : MOk sa R sp K w y) (hs : sh < 5 ∧ 1 ≤ sz ∧ sz ≤ 20 ∧ r < 40) : kCM l yX7_goal wsX7_goal 2 47 0 0 G [.ref (D 0), vN (sh), vN (sz), vN (r)] (wMod G D sa pa pn tx tn rf ro wk mb so kd nu it ti rd ad) (fun vv uu => vv = some (vN (goalF (sumM (K 0) (w 0)) sh sz r)) ∧ uu = wMod G D sa pa pn tx tn 0 ro wk mb so kd nu it ti rd ad) := by
  refine kCM.of (cc := cX7_goal) (maxL := 4) (ret := (some .int)) (by decide) rfl (Nat.le_of_ble_eq_true rfl) ?_
  intro p e s m args below meth c A ls Qz hQ hin hm hw hl
  have hl : lv_has ls 4 [(0, .ref (D 0)), (1, vN (sh)), (2, vN (sz)), (3, vN (r))] := hl
  refine k_aload_n hm hl 0 rfl dX7_goal_0 ?_
  refine k_iload_n hm hl 1 rfl dX7_goal_1 ?_
  refine k_iload_n hm hl 2 rfl dX7_goal_2 ?_
  refine k_callSr (n := 2) (As := [vN (sh), vN (sz)]) (rest := [.ref (D 0)]) hm hw hl (c_m_isShape l G ((sh : Nat) : Int) ((sz : Nat) : Int) (by first | assumption | omega) (by first | assumption | omega)) gX7_goal_X7_isShape rfl (by decide +kernel) ⟨by decide, by decide⟩ [] (by decide) rfl rfl rfl (by simp [Value.category]) ⟨by decide, by decide⟩ dX7_goal_3 (fun v H locs hp hw => ?_)
  obtain rfl := hp
  refine W.eq (g2 := F0 m 6 ls [vB (decide ((0 ≤ ((sh : Nat) : Int) ∧ ((sh : Nat) : Int) ≤ 4) ∧ 1 ≤ ((sz : Nat) : Int) ∧ ((sz : Nat) : Int) ≤ 20)), .ref (D 0)]) rfl ?_
  refine k_ifeqB (tgt := 23) hm dX7_goal_6 (by decide) (fun c_2 => absurd (of_decide_eq_false c_2) (by omega)) (fun c_2 => ?_)
  refine k_iload_n hm hl 3 rfl dX7_goal_9 ?_
  refine k_iconstN hm 0 dX7_goal_10 ?_
  refine k_bipushN hm 39 dX7_goal_11 rfl ?_
  refine k_callSr (n := 3) (As := [vN (r), vN (0), vN (39)]) (rest := [.ref (D 0)]) hm hw hl (c_m_in l G ((r : Nat) : Int) ((0 : Nat) : Int) ((39 : Nat) : Int) (by first | assumption | omega)) gX7_goal_X7_in rfl (by decide +kernel) ⟨by decide, by decide⟩ [] (by decide) rfl rfl rfl (by simp [Value.category]) ⟨by decide, by decide⟩ dX7_goal_13 (fun v H locs hp hw => ?_)
  obtain rfl := hp
  refine W.eq (g2 := F0 m 16 ls [vB (decide (((0 : Nat) : Int) ≤ ((r : Nat) : Int) ∧ ((r : Nat) : Int) ≤ ((39 : Nat) : Int))), .ref (D 0)]) rfl ?_
  refine k_ifeqB (tgt := 23) hm dX7_goal_16 (by decide) (fun c_4 => absurd (of_decide_eq_false c_4) (by omega)) (fun c_4 => ?_)
  refine k_iconstN hm 0 dX7_goal_19 ?_
  refine k_goto (tgt := 24) hm dX7_goal_20 (by decide) ?_
  refine k_callV (n := 1) (As := [vN (0)]) (rest := []) (wr := []) hm hw hl (c_m_throwsAt l G D sa pa pn tx tn rf ro wk mb so kd nu it ti rd ad 0 (by first | assumption | omega)) gX7_goal_X7_throwsAt rfl (by decide +kernel) ⟨by decide, by decide⟩ (ci := 7) rfl 0 rfl [0, 1, 2, 3, 4, 5, 6, 7, 8] [] (by decide) rfl rfl (by decide) (by decide) rfl rfl (by simp [Value.category]) ⟨by decide, by decide⟩ dX7_goal_24 (fun v w1 H locs hp hw => ?_)
  obtain ⟨rfl, rfl⟩ := hp
  have hw := hw.sub (ws' := wMod G D sa pa pn tx tn 0 ro wk mb so kd nu it ti rd ad) [0, 1, 2, 3, 4, 5, 6, 7, 8] (by decide) rfl
  refine W.eq (g2 := F0 m 27 ls [vB (decide (0 < 0))]) rfl ?_
  refine k_ifeqB (tgt := 34) hm dX7_goal_27 (by decide) (fun c_6 => ?_) (fun c_6 => absurd (of_decide_eq_true c_6) (by omega))
  refine k_aload_n hm hl 0 rfl dX7_goal_34 ?_
  refine k_iload_n hm hl 1 rfl dX7_goal_35 ?_
  refine k_iload_n hm hl 2 rfl dX7_goal_36 ?_
  refine k_iload_n hm hl 3 rfl dX7_goal_37 ?_
  refine k_callVr (n := 3) (As := [vN (sh), vN (sz), vN (r)]) (rest := []) hm hw hl (c_m_goalOf l G D sa pa pn tx tn 0 ro wk mb so kd nu it ti rd ad R sp K w y sh sz r (by first | assumption | omega) (by first | assumption | omega) (by first | assumption | omega)) gX7_goal_X7_goalOf rfl (by decide +kernel) ⟨by decide, by decide⟩ (ci := 7) rfl 0 rfl [0, 1, 2, 3, 4, 5, 6, 7, 8] (by decide) rfl rfl rfl (by simp [Value.category]) ⟨by decide, by decide⟩ dX7_goal_38 (fun v H locs hp hw => ?_)
  obtain rfl := hp
  refine W.eq (g2 := F0 m 41 ls [vN (goalF (sumM (K 0) (w 0)) sh sz r)]) rfl ?_
  exact k_iret (post := _) hm hQ rfl rfl hw (⟨rfl, rfl⟩) (by omega) (by omega) dX7_goal_41
set_option maxHeartbeats 4000000 in
set_option maxRecDepth 100000 in
theorem c_m_goal_x (l : Launch) (G : kG) (D : Nat → Nat) (sa : Nat → Int64) (pa : Nat → Int64) (pn : Nat) (tx : Nat → Nat) (tn : Nat) (rf : Nat) (ro : Nat → Nat) (wk : Nat) (mb : Nat → Nat) (so : Nat) (kd : Nat → Nat) (nu : Nat → Nat) (it : Nat) (ti : Nat) (rd : Nat) (ad : Nat → Int64) (z : Int) (x : Int) (k : Int) (hzz : -2147483648 ≤ z ∧ z < 2147483648) (hzx : -2147483648 ≤ x ∧ x < 2147483648) (hzk : -2147483648 ≤ k ∧ k < 2147483648) (hx : ¬ ((0 ≤ z ∧ z ≤ 4) ∧ (1 ≤ x ∧ x ≤ 20) ∧ 0 ≤ k ∧ k < 40)) : kCM l yX7_goal wsX7_goal 2 47 0 0 G [.ref (D 0), vZ (z), vZ (x), vZ (k)] (wMod G D sa pa pn tx tn rf ro wk mb so kd nu it ti rd ad) (fun vv uu => vv = some (vN (0)) ∧ uu = wMod G D sa pa pn tx tn 1 ro wk mb so kd nu it ti rd ad) := by
  refine kCM.of (cc := cX7_goal) (maxL := 4) (ret := (some .int)) (by decide) rfl (Nat.le_of_ble_eq_true rfl) ?_
  intro p e s m args below meth c A ls Qz hQ hin hm hw hl
  have hl : lv_has ls 4 [(0, .ref (D 0)), (1, vZ (z)), (2, vZ (x)), (3, vZ (k))] := hl
  refine k_aload_n hm hl 0 rfl dX7_goal_0 ?_
  refine k_iload_n hm hl 1 rfl dX7_goal_1 ?_
  refine k_iload_n hm hl 2 rfl dX7_goal_2 ?_
  refine k_callSr (n := 2) (As := [vZ (z), vZ (x)]) (rest := [.ref (D 0)]) hm hw hl (c_m_isShape l G z x (by first | assumption | omega) (by first | assumption | omega)) gX7_goal_X7_isShape rfl (by decide +kernel) ⟨by decide, by decide⟩ [] (by decide) rfl rfl rfl (by simp [Value.category]) ⟨by decide, by decide⟩ dX7_goal_3 (fun v H locs hp hw => ?_)
  obtain rfl := hp
  refine W.eq (g2 := F0 m 6 ls [vB (decide ((0 ≤ z ∧ z ≤ 4) ∧ 1 ≤ x ∧ x ≤ 20)), .ref (D 0)]) rfl ?_
  refine k_ifeqB (tgt := 23) hm dX7_goal_6 (by decide) (fun c_2 => ?_) (fun c_2 => ?_)
  · have c_2d := of_decide_eq_false c_2
    refine k_iconstN hm 1 dX7_goal_23 ?_
    refine k_callV (n := 1) (As := [vN (1)]) (rest := []) (wr := []) hm hw hl (c_m_throwsAt l G D sa pa pn tx tn rf ro wk mb so kd nu it ti rd ad 1 (by first | assumption | omega)) gX7_goal_X7_throwsAt rfl (by decide +kernel) ⟨by decide, by decide⟩ (ci := 7) rfl 0 rfl [0, 1, 2, 3, 4, 5, 6, 7, 8] [] (by decide) rfl rfl (by decide) (by decide) rfl rfl (by simp [Value.category]) ⟨by decide, by decide⟩ dX7_goal_24 (fun v w1 H locs hp hw => ?_)
    obtain ⟨rfl, rfl⟩ := hp
    have hw := hw.sub (ws' := wMod G D sa pa pn tx tn 1 ro wk mb so kd nu it ti rd ad) [0, 1, 2, 3, 4, 5, 6, 7, 8] (by decide) rfl
    refine W.eq (g2 := F0 m 27 ls [vB (decide (0 < 1))]) rfl ?_
    refine k_ifeqB (tgt := 34) hm dX7_goal_27 (by decide) (fun c_4 => absurd (of_decide_eq_false c_4) (by omega)) (fun c_4 => ?_)
    refine k_iconstN hm 0 dX7_goal_30 ?_
    refine k_goto (tgt := 41) hm dX7_goal_31 (by decide) ?_
    exact k_iret (post := _) hm hQ rfl rfl hw (⟨rfl, rfl⟩) (by omega) (by omega) dX7_goal_41
  · have c_2d := of_decide_eq_true c_2
    refine k_iload_n hm hl 3 rfl dX7_goal_9 ?_
    refine k_iconstN hm 0 dX7_goal_10 ?_
    refine k_bipushN hm 39 dX7_goal_11 rfl ?_
    refine k_callSr (n := 3) (As := [vZ (k), vN (0), vN (39)]) (rest := [.ref (D 0)]) hm hw hl (c_m_in l G k ((0 : Nat) : Int) ((39 : Nat) : Int) (by first | assumption | omega)) gX7_goal_X7_in rfl (by decide +kernel) ⟨by decide, by decide⟩ [] (by decide) rfl rfl rfl (by simp [Value.category]) ⟨by decide, by decide⟩ dX7_goal_13 (fun v H locs hp hw => ?_)
    obtain rfl := hp
    refine W.eq (g2 := F0 m 16 ls [vB (decide (((0 : Nat) : Int) ≤ k ∧ k ≤ ((39 : Nat) : Int))), .ref (D 0)]) rfl ?_
    refine k_ifeqB (tgt := 23) hm dX7_goal_16 (by decide) (fun c_6 => ?_) (fun c_6 => absurd (of_decide_eq_true c_6) (by omega))
    refine k_iconstN hm 1 dX7_goal_23 ?_
    refine k_callV (n := 1) (As := [vN (1)]) (rest := []) (wr := []) hm hw hl (c_m_throwsAt l G D sa pa pn tx tn rf ro wk mb so kd nu it ti rd ad 1 (by first | assumption | omega)) gX7_goal_X7_throwsAt rfl (by decide +kernel) ⟨by decide, by decide⟩ (ci := 7) rfl 0 rfl [0, 1, 2, 3, 4, 5, 6, 7, 8] [] (by decide) rfl rfl (by decide) (by decide) rfl rfl (by simp [Value.category]) ⟨by decide, by decide⟩ dX7_goal_24 (fun v w1 H locs hp hw => ?_)
    obtain ⟨rfl, rfl⟩ := hp
    have hw := hw.sub (ws' := wMod G D sa pa pn tx tn 1 ro wk mb so kd nu it ti rd ad) [0, 1, 2, 3, 4, 5, 6, 7, 8] (by decide) rfl
    refine W.eq (g2 := F0 m 27 ls [vB (decide (0 < 1))]) rfl ?_
    refine k_ifeqB (tgt := 34) hm dX7_goal_27 (by decide) (fun c_8 => absurd (of_decide_eq_false c_8) (by omega)) (fun c_8 => ?_)
    refine k_iconstN hm 0 dX7_goal_30 ?_
    refine k_goto (tgt := 41) hm dX7_goal_31 (by decide) ?_
    exact k_iret (post := _) hm hQ rfl rfl hw (⟨rfl, rfl⟩) (by omega) (by omega) dX7_goal_41
set_option maxHeartbeats 4000000 in
set_option maxRecDepth 100000 in
theorem c_m_addShape_x (l : Launch) (G : kG) (D : Nat → Nat) (sa : Nat → Int64) (pa : Nat → Int64) (pn : Nat) (tx : Nat → Nat) (tn : Nat) (rf : Nat) (ro : Nat → Nat) (wk : Nat) (mb : Nat → Nat) (so : Nat) (kd : Nat → Nat) (nu : Nat → Nat) (it : Nat) (ti : Nat) (rd : Nat) (ad : Nat → Int64) (z : Int) (x : Int) (k : Int) (hzz : -2147483648 ≤ z ∧ z < 2147483648) (hzx : -2147483648 ≤ x ∧ x < 2147483648) (hzk : -2147483648 ≤ k ∧ k < 2147483648) (hx : ¬ ((0 ≤ z ∧ z ≤ 4) ∧ (1 ≤ x ∧ x ≤ 20) ∧ 1 ≤ k ∧ k < 40)) : kCM l yX7_addShape wsX7_addShape 4 92 0 0 G [.ref (D 0), vZ (z), vZ (x), vZ (k)] (wMod G D sa pa pn tx tn rf ro wk mb so kd nu it ti rd ad) (fun vv uu => vv = some (vN (0)) ∧ uu = wMod G D sa pa pn tx tn 1 ro wk mb so kd nu it ti rd ad) := by
  refine kCM.of (cc := cX7_addShape) (maxL := 7) (ret := (some .int)) (by decide) rfl (Nat.le_of_ble_eq_true rfl) ?_
  intro p e s m args below meth c A ls Qz hQ hin hm hw hl
  have hl : lv_has ls 7 [(0, .ref (D 0)), (1, vZ (z)), (2, vZ (x)), (3, vZ (k))] := hl
  refine k_aload_n hm hl 0 rfl dX7_addShape_0 ?_
  refine k_iload_n hm hl 1 rfl dX7_addShape_1 ?_
  refine k_iload_n hm hl 2 rfl dX7_addShape_2 ?_
  refine k_callSr (n := 2) (As := [vZ (z), vZ (x)]) (rest := [.ref (D 0)]) hm hw hl (c_m_isShape l G z x (by first | assumption | omega) (by first | assumption | omega)) gX7_addShape_X7_isShape rfl (by decide +kernel) ⟨by decide, by decide⟩ [] (by decide) rfl rfl rfl (by simp [Value.category]) ⟨by decide, by decide⟩ dX7_addShape_3 (fun v H locs hp hw => ?_)
  obtain rfl := hp
  refine W.eq (g2 := F0 m 6 ls [vB (decide ((0 ≤ z ∧ z ≤ 4) ∧ 1 ≤ x ∧ x ≤ 20)), .ref (D 0)]) rfl ?_
  refine k_ifeqB (tgt := 23) hm dX7_addShape_6 (by decide) (fun c_2 => ?_) (fun c_2 => ?_)
  · have c_2d := of_decide_eq_false c_2
    refine k_iconstN hm 1 dX7_addShape_23 ?_
    refine k_callV (n := 1) (As := [vN (1)]) (rest := []) (wr := []) hm hw hl (c_m_throwsAt l G D sa pa pn tx tn rf ro wk mb so kd nu it ti rd ad 1 (by first | assumption | omega)) gX7_addShape_X7_throwsAt rfl (by decide +kernel) ⟨by decide, by decide⟩ (ci := 7) rfl 0 rfl [0, 1, 2, 3, 4, 5, 6, 7, 8] [] (by decide) rfl rfl (by decide) (by decide) rfl rfl (by simp [Value.category]) ⟨by decide, by decide⟩ dX7_addShape_24 (fun v w1 H locs hp hw => ?_)
    obtain ⟨rfl, rfl⟩ := hp
    have hw := hw.sub (ws' := wMod G D sa pa pn tx tn 1 ro wk mb so kd nu it ti rd ad) [0, 1, 2, 3, 4, 5, 6, 7, 8] (by decide) rfl
    refine W.eq (g2 := F0 m 27 ls [vB (decide (0 < 1))]) rfl ?_
    refine k_ifeqB (tgt := 32) hm dX7_addShape_27 (by decide) (fun c_4 => absurd (of_decide_eq_false c_4) (by omega)) (fun c_4 => ?_)
    refine k_iconstN hm 0 dX7_addShape_30 ?_
    exact k_iret (post := _) hm hQ rfl rfl hw (⟨rfl, rfl⟩) (by omega) (by omega) dX7_addShape_31
  · have c_2d := of_decide_eq_true c_2
    refine k_iload_n hm hl 3 rfl dX7_addShape_9 ?_
    refine k_iconstN hm 1 dX7_addShape_10 ?_
    refine k_bipushN hm 39 dX7_addShape_11 rfl ?_
    refine k_callSr (n := 3) (As := [vZ (k), vN (1), vN (39)]) (rest := [.ref (D 0)]) hm hw hl (c_m_in l G k ((1 : Nat) : Int) ((39 : Nat) : Int) (by first | assumption | omega)) gX7_addShape_X7_in rfl (by decide +kernel) ⟨by decide, by decide⟩ [] (by decide) rfl rfl rfl (by simp [Value.category]) ⟨by decide, by decide⟩ dX7_addShape_13 (fun v H locs hp hw => ?_)
    obtain rfl := hp
    refine W.eq (g2 := F0 m 16 ls [vB (decide (((1 : Nat) : Int) ≤ k ∧ k ≤ ((39 : Nat) : Int))), .ref (D 0)]) rfl ?_
    refine k_ifeqB (tgt := 23) hm dX7_addShape_16 (by decide) (fun c_6 => ?_) (fun c_6 => absurd (of_decide_eq_true c_6) (by omega))
    refine k_iconstN hm 1 dX7_addShape_23 ?_
    refine k_callV (n := 1) (As := [vN (1)]) (rest := []) (wr := []) hm hw hl (c_m_throwsAt l G D sa pa pn tx tn rf ro wk mb so kd nu it ti rd ad 1 (by first | assumption | omega)) gX7_addShape_X7_throwsAt rfl (by decide +kernel) ⟨by decide, by decide⟩ (ci := 7) rfl 0 rfl [0, 1, 2, 3, 4, 5, 6, 7, 8] [] (by decide) rfl rfl (by decide) (by decide) rfl rfl (by simp [Value.category]) ⟨by decide, by decide⟩ dX7_addShape_24 (fun v w1 H locs hp hw => ?_)
    obtain ⟨rfl, rfl⟩ := hp
    have hw := hw.sub (ws' := wMod G D sa pa pn tx tn 1 ro wk mb so kd nu it ti rd ad) [0, 1, 2, 3, 4, 5, 6, 7, 8] (by decide) rfl
    refine W.eq (g2 := F0 m 27 ls [vB (decide (0 < 1))]) rfl ?_
    refine k_ifeqB (tgt := 32) hm dX7_addShape_27 (by decide) (fun c_8 => absurd (of_decide_eq_false c_8) (by omega)) (fun c_8 => ?_)
    refine k_iconstN hm 0 dX7_addShape_30 ?_
    exact k_iret (post := _) hm hQ rfl rfl hw (⟨rfl, rfl⟩) (by omega) (by omega) dX7_addShape_31
set_option maxHeartbeats 4000000 in
set_option maxRecDepth 100000 in
theorem c_m_addShape_ok (l : Launch) (G : kG) (D : Nat → Nat) (sa : Nat → Int64) (pa : Nat → Int64) (pn : Nat) (tx : Nat → Nat) (tn : Nat) (rf : Nat) (ro : Nat → Nat) (wk : Nat) (mb : Nat → Nat) (so : Nat) (kd : Nat → Nat) (nu : Nat → Nat) (it : Nat) (ti : Nat) (rd : Nat) (ad : Nat → Int64) (R : Nat) (sp : Bool) (K : Nat → Nat → Nat) (w : Nat → Nat) (y : Nat → Nat) (sv : Nat → PSt) (sh : Nat) (sz2 : Nat) (k : Nat) (hmo : MOk sa R sp K w y) (hpa : PaOk pa pn sv) (hsk : sh < 5 ∧ 1 ≤ sz2 ∧ sz2 ≤ 20 ∧ 1 ≤ k ∧ k < 40) : kCM l yX7_addShape wsX7_addShape 4 92 0 0 G [.ref (D 0), vN (sh), vN (sz2), vN (k)] (wMod G D sa pa pn tx tn rf ro wk mb so kd nu it ti rd ad) (fun vv uu => ∃ (q : Nat), ∃ (K2 : Nat → Nat → Nat), ∃ (w2 : Nat → Nat), ∃ (sa2 : Nat → Int64), ∃ (pa2 : Nat → Int64), ∃ (ro2 : Nat → Nat), ∃ (wk2 : Nat), ∃ (mb2 : Nat → Nat), vv = some (vN (q)) ∧ uu = wMod G D sa2 pa2 (Nat.min (pn + 1) 4) tx tn 0 ro2 wk2 mb2 so kd nu it ti rd ad ∧ (shS sh sz2 k R K w q K2 w2) ∧ (MOk sa2 (R + q) sp K2 w2 y) ∧ (PaOk pa2 (Nat.min (pn + 1) 4) (svPush (R, sp, K, w, y) sv))) := by
  refine kCM.of (cc := cX7_addShape) (maxL := 7) (ret := (some .int)) (by decide) rfl (Nat.le_of_ble_eq_true rfl) ?_
  intro p e s m args below meth c A ls Qz hQ hin hm hw hl
  have hl : lv_has ls 7 [(0, .ref (D 0)), (1, vN (sh)), (2, vN (sz2)), (3, vN (k))] := hl
  have hR := hmo.1.1
  refine k_aload_n hm hl 0 rfl dX7_addShape_0 ?_
  refine k_iload_n hm hl 1 rfl dX7_addShape_1 ?_
  refine k_iload_n hm hl 2 rfl dX7_addShape_2 ?_
  refine k_callSr (n := 2) (As := [vN (sh), vN (sz2)]) (rest := [.ref (D 0)]) hm hw hl (c_m_isShape l G ((sh : Nat) : Int) ((sz2 : Nat) : Int) (by first | assumption | omega) (by first | assumption | omega)) gX7_addShape_X7_isShape rfl (by decide +kernel) ⟨by decide, by decide⟩ [] (by decide) rfl rfl rfl (by simp [Value.category]) ⟨by decide, by decide⟩ dX7_addShape_3 (fun v H locs hp hw => ?_)
  obtain rfl := hp
  refine W.eq (g2 := F0 m 6 ls [vB (decide ((0 ≤ ((sh : Nat) : Int) ∧ ((sh : Nat) : Int) ≤ 4) ∧ 1 ≤ ((sz2 : Nat) : Int) ∧ ((sz2 : Nat) : Int) ≤ 20)), .ref (D 0)]) rfl ?_
  refine k_ifeqB (tgt := 23) hm dX7_addShape_6 (by decide) (fun c_2 => absurd (of_decide_eq_false c_2) (by omega)) (fun c_2 => ?_)
  refine k_iload_n hm hl 3 rfl dX7_addShape_9 ?_
  refine k_iconstN hm 1 dX7_addShape_10 ?_
  refine k_bipushN hm 39 dX7_addShape_11 rfl ?_
  refine k_callSr (n := 3) (As := [vN (k), vN (1), vN (39)]) (rest := [.ref (D 0)]) hm hw hl (c_m_in l G ((k : Nat) : Int) ((1 : Nat) : Int) ((39 : Nat) : Int) (by first | assumption | omega)) gX7_addShape_X7_in rfl (by decide +kernel) ⟨by decide, by decide⟩ [] (by decide) rfl rfl rfl (by simp [Value.category]) ⟨by decide, by decide⟩ dX7_addShape_13 (fun v H locs hp hw => ?_)
  obtain rfl := hp
  refine W.eq (g2 := F0 m 16 ls [vB (decide (((1 : Nat) : Int) ≤ ((k : Nat) : Int) ∧ ((k : Nat) : Int) ≤ ((39 : Nat) : Int))), .ref (D 0)]) rfl ?_
  refine k_ifeqB (tgt := 23) hm dX7_addShape_16 (by decide) (fun c_4 => absurd (of_decide_eq_false c_4) (by omega)) (fun c_4 => ?_)
  refine k_iconstN hm 0 dX7_addShape_19 ?_
  refine k_goto (tgt := 24) hm dX7_addShape_20 (by decide) ?_
  refine k_callV (n := 1) (As := [vN (0)]) (rest := []) (wr := []) hm hw hl (c_m_throwsAt l G D sa pa pn tx tn rf ro wk mb so kd nu it ti rd ad 0 (by first | assumption | omega)) gX7_addShape_X7_throwsAt rfl (by decide +kernel) ⟨by decide, by decide⟩ (ci := 7) rfl 0 rfl [0, 1, 2, 3, 4, 5, 6, 7, 8] [] (by decide) rfl rfl (by decide) (by decide) rfl rfl (by simp [Value.category]) ⟨by decide, by decide⟩ dX7_addShape_24 (fun v w1 H locs hp hw => ?_)
  obtain ⟨rfl, rfl⟩ := hp
  have hw := hw.sub (ws' := wMod G D sa pa pn tx tn 0 ro wk mb so kd nu it ti rd ad) [0, 1, 2, 3, 4, 5, 6, 7, 8] (by decide) rfl
  refine W.eq (g2 := F0 m 27 ls [vB (decide (0 < 0))]) rfl ?_
  refine k_ifeqB (tgt := 32) hm dX7_addShape_27 (by decide) (fun c_6 => ?_) (fun c_6 => absurd (of_decide_eq_true c_6) (by omega))
  refine k_aload_n hm hl 0 rfl dX7_addShape_32 ?_
  refine k_callV (n := 0) (As := []) (rest := []) (wr := []) hm hw hl (c_m_saves l G D sa pa pn tx tn 0 ro wk mb so kd nu it ti rd ad R sp K w y sv (by first | assumption | omega) (by first | assumption | omega)) gX7_addShape_X7_saves rfl (by decide +kernel) ⟨by decide, by decide⟩ (ci := 7) rfl 0 rfl [0, 1, 2, 3, 4, 5, 6, 7, 8] [] (by decide) rfl rfl (by decide) (by decide) rfl rfl (by simp [Value.category]) ⟨by decide, by decide⟩ dX7_addShape_33 (fun v w1 H locs hp hw => ?_)
  obtain ⟨pa2_8, rfl, rfl, hpa2_9⟩ := hp
  have hw := hw.sub (ws' := wMod G D sa pa2_8 (Nat.min (pn + 1) 4) tx tn 0 ro wk mb so kd nu it ti rd ad) [0, 1, 2, 3, 4, 5, 6, 7, 8] (by decide) rfl
  refine W.eq (g2 := F0 m 36 ls []) rfl ?_
  have hpa9 := hpa2_9
  refine k_iconstN hm 0 dX7_addShape_36 ?_
  refine k_istore hm hl [(4, vN (0)), (0, .ref (D 0)), (1, vN (sh)), (2, vN (sz2)), (3, vN (k))] (by decide) rfl dX7_addShape_37 (fun ls hl => ?_)
  refine k_iconstN hm 1 dX7_addShape_39 ?_
  refine k_istore hm hl [(5, vN (1)), (4, vN (0)), (0, .ref (D 0)), (1, vN (sh)), (2, vN (sz2)), (3, vN (k))] (by decide) rfl dX7_addShape_40 (fun ls hl => ?_)
  have loop_42 : ∀ (fu : Nat) (n : Nat) (sa1 : Nat → Int64) (R1 : Nat) (ro1 : Nat → Nat) (wk1 : Nat) (mb1 : Nat → Nat) (K1 : Nat → Nat → Nat) (w1 : Nat → Nat) (hn : n ≤ k) (hR1 : R1 = R + n) (hmo1 : MOk sa1 R1 sp K1 w1 y) (hc : ∀ c2 K2 w2, shS sh sz2 (k - n) R1 K1 w1 c2 K2 w2 → shS sh sz2 k R K w (n + c2) K2 w2) (H : Heap) (locs : List Loc) (ls : Array Slot), k - n < fu → kW G A s (wMod G D sa1 pa2_8 (Nat.min (pn + 1) 4) tx tn 0 ro1 wk1 mb1 so kd nu it ti rd ad) H locs → lv_has ls 7 [(0, .ref (D 0)), (1, vN (sh)), (2, vN (sz2)), (3, vN (k)), (4, vN (n)), (5, vN (1))] → W p l e { frames := 4, cells := 0, slots := 0, locals := 92 } s m args below meth c H locs 0 0 Qz (F0 m 42 ls []) := by
    intro fu
    induction fu with
    | zero => intro n sa1 R1 ro1 wk1 mb1 K1 w1 hn hR1 hmo1 hc H locs ls hfu; exact absurd hfu (Nat.not_lt_zero _)
    | succ fu ih_42 =>
      intro n sa1 R1 ro1 wk1 mb1 K1 w1 hn hR1 hmo1 hc H locs ls hfu hw hl
      refine k_iload hm hl 5 rfl dX7_addShape_42 ?_
      refine k_ifeq (tgt := 105) hm dX7_addShape_44 (by decide) (by omega) (fun c_10 => absurd c_10 (by omega)) (fun c_10 => ?_)
      refine k_iload hm hl 4 rfl dX7_addShape_47 ?_
      refine k_iload_n hm hl 3 rfl dX7_addShape_49 ?_
      refine k_icmpge (tgt := 105) hm dX7_addShape_50 (by decide) (by omega) (fun c_11 => ?_) (fun c_11 => ?_)
      · refine k_iload hm hl 4 rfl dX7_addShape_105 ?_
        exact k_iret (post := _) hm hQ rfl rfl hw (⟨n, K1, w1, _, _, _, _, _, rfl, rfl, hc 0 K1 w1 (shS_0 (by rcases Nat.lt_or_ge n k with z | z; exact Or.inr (fun z2 => by omega); exact Or.inl (by omega))), by rw [← hR1]; exact hmo1, hpa9⟩) (by omega) (by omega) dX7_addShape_107
      · have hR9 := hmo1.1.1
        have hll1 := PVd_last hmo1.1
        have ht01 := tot0_rng hmo1.1
        have hg1 := goalF_rng (sh := sh) (sz := sz2) (r := R1) ht01
        refine k_aload_n hm hl 0 rfl dX7_addShape_53 ?_
        refine k_iload_n hm hl 1 rfl dX7_addShape_54 ?_
        refine k_iload_n hm hl 2 rfl dX7_addShape_55 ?_
        refine k_aload_n hm hl 0 rfl dX7_addShape_56 ?_
        refine k_callVr (n := 0) (As := []) (rest := [vN (sz2), vN (sh), .ref (D 0)]) hm hw hl (c_m_rounds l G D sa1 pa2_8 (Nat.min (pn + 1) 4) tx tn 0 ro1 wk1 mb1 so kd nu it ti rd ad R1 sp K1 w1 y hmo1) gX7_addShape_X7_rounds rfl (by decide +kernel) ⟨by decide, by decide⟩ (ci := 7) rfl 0 rfl [0, 1, 2, 3, 4, 5, 6, 7, 8] (by decide) rfl rfl rfl (by simp [Value.category]) ⟨by decide, by decide⟩ dX7_addShape_57 (fun v H locs hp hw => ?_)
        obtain rfl := hp
        refine W.eq (g2 := F0 m 60 ls [vN (R1), vN (sz2), vN (sh), .ref (D 0)]) rfl ?_
        refine k_callVr (n := 3) (As := [vN (sh), vN (sz2), vN (R1)]) (rest := []) hm hw hl (c_m_goalOf l G D sa1 pa2_8 (Nat.min (pn + 1) 4) tx tn 0 ro1 wk1 mb1 so kd nu it ti rd ad R1 sp K1 w1 y sh sz2 R1 hmo1 (by first | assumption | omega) (by first | assumption | omega)) gX7_addShape_X7_goalOf rfl (by decide +kernel) ⟨by decide, by decide⟩ (ci := 7) rfl 0 rfl [0, 1, 2, 3, 4, 5, 6, 7, 8] (by decide) rfl rfl rfl (by simp [Value.category]) ⟨by decide, by decide⟩ dX7_addShape_60 (fun v H locs hp hw => ?_)
        obtain rfl := hp
        refine W.eq (g2 := F0 m 63 ls [vN (goalF (sumM (K1 0) (w1 0)) sh sz2 R1)]) rfl ?_
        refine k_istore hm hl [(6, vN (goalF (sumM (K1 0) (w1 0)) sh sz2 R1)), (0, .ref (D 0)), (1, vN (sh)), (2, vN (sz2)), (3, vN (k)), (4, vN (n)), (5, vN (1))] (by decide) rfl dX7_addShape_63 (fun ls hl => ?_)
        refine k_aload_n hm hl 1 rfl dX7_addShape_65 ?_
        refine Or.elim (Nat.lt_or_ge R1 40) (fun h41 => ?_) (fun h41 => ?_)
        · refine k_iconstN hm 1 dX7_addShape_66 ?_
          refine Or.elim (Classical.em (isPo (sumM (K1 (R1 - 1)) (w1 (R1 - 1))) (goalF (sumM (K1 0) (w1 0)) sh sz2 R1))) (fun hpo1 => ?_) (fun hpo1 => ?_)
          · refine k_iload hm hl 0 rfl dX7_addShape_67 ?_
            refine k_callVr (n := 2) (As := [vN (1), vN (goalF (sumM (K1 0) (w1 0)) sh sz2 R1)]) (rest := []) hm hw hl (c_m_whyNot_0 l G D sa1 pa2_8 (Nat.min (pn + 1) 4) tx tn 0 ro1 wk1 mb1 so kd nu it ti rd ad R1 sp K1 w1 y (goalF (sumM (K1 0) (w1 0)) sh sz2 R1) hmo1 (by first | assumption | omega) (by first | assumption | omega) hpo1) gX7_addShape_X7_whyNot rfl (by decide +kernel) ⟨by decide, by decide⟩ (ci := 7) rfl 0 rfl [0, 1, 2, 3, 4, 5, 6, 7, 8] (by decide) rfl rfl rfl (by simp [Value.category]) ⟨by decide, by decide⟩ dX7_addShape_69 (fun v H locs hp hw => ?_)
            obtain rfl := hp
            refine W.eq (g2 := F0 m 72 ls [vN (0)]) rfl ?_
            refine k_ifne (tgt := 79) hm dX7_addShape_72 (by decide) (by omega) (fun c_15 => absurd c_15 (by omega)) (fun c_15 => ?_)
            refine k_iconstN hm 1 dX7_addShape_75 ?_
            refine k_goto (tgt := 80) hm dX7_addShape_76 (by decide) ?_
            refine k_istore hm hl [(5, vN (1)), (6, vN (goalF (sumM (K1 0) (w1 0)) sh sz2 R1)), (0, .ref (D 0)), (1, vN (sh)), (2, vN (sz2)), (3, vN (k)), (4, vN (n))] (by decide) rfl dX7_addShape_80 (fun ls hl => ?_)
            refine k_iload hm hl 0 rfl dX7_addShape_82 ?_
            refine k_ifeq (tgt := 102) hm dX7_addShape_84 (by decide) (by omega) (fun c_16 => absurd c_16 (by omega)) (fun c_16 => ?_)
            refine k_aload_n hm hl 2 rfl dX7_addShape_87 ?_
            refine k_iload hm hl 1 rfl dX7_addShape_88 ?_
            refine k_aload_n hm hl 2 rfl dX7_addShape_90 ?_
            refine k_iload hm hl 1 rfl dX7_addShape_91 ?_
            refine k_callV (n := 1) (As := [vN (goalF (sumM (K1 0) (w1 0)) sh sz2 R1)]) (rest := [vN (goalF (sumM (K1 0) (w1 0)) sh sz2 R1), .ref (D 0)]) (wr := []) hm hw hl (c_m_bestShift l G D sa1 pa2_8 (Nat.min (pn + 1) 4) tx tn 0 ro1 wk1 mb1 so kd nu it ti rd ad R1 sp K1 w1 y (goalF (sumM (K1 0) (w1 0)) sh sz2 R1) hmo1 (by first | assumption | omega) hpo1) gX7_addShape_X7_bestShift rfl (by decide +kernel) ⟨by decide, by decide⟩ (ci := 7) rfl 0 rfl [0, 1, 2, 3, 4, 5, 6, 7, 8] [] (by decide) rfl rfl (by decide) (by decide) rfl rfl (by simp [Value.category]) ⟨by decide, by decide⟩ dX7_addShape_93 (fun v w1 H locs hp hw => ?_)
            obtain ⟨b_18, ro2_19, wk2_20, mb2_21, rfl, rfl, hb_22⟩ := hp
            have hw := hw.sub (ws' := wMod G D sa1 pa2_8 (Nat.min (pn + 1) 4) tx tn 0 ro2_19 wk2_20 mb2_21 so kd nu it ti rd ad) [0, 1, 2, 3, 4, 5, 6, 7, 8] (by decide) rfl
            refine W.eq (g2 := F0 m 96 ls [vN (b_18), vN (goalF (sumM (K1 0) (w1 0)) sh sz2 R1), .ref (D 0)]) rfl ?_
            have hb9 := hb_22
            have hb8 := hb9.1
            have hpm8 := pm_le (n := sumM (K1 (R1 - 1)) (w1 (R1 - 1))) (t := goalF (sumM (K1 0) (w1 0)) sh sz2 R1) (by omega)
            refine k_callV (n := 2) (As := [vN (goalF (sumM (K1 0) (w1 0)) sh sz2 R1), vN (b_18)]) (rest := []) (wr := []) hm hw hl (c_m_addsBest l G D sa1 pa2_8 (Nat.min (pn + 1) 4) tx tn 0 ro2_19 wk2_20 mb2_21 so kd nu it ti rd ad R1 sp K1 w1 y (goalF (sumM (K1 0) (w1 0)) sh sz2 R1) b_18 hmo1 (by first | assumption | omega) (by first | assumption | omega) hpo1 (by omega)) gX7_addShape_X7_addsBest rfl (by decide +kernel) ⟨by decide, by decide⟩ (ci := 7) rfl 0 rfl [0, 1, 2, 3, 4, 5, 6, 7, 8] [] (by decide) rfl rfl (by decide) (by decide) rfl rfl (by simp [Value.category]) ⟨by decide, by decide⟩ dX7_addShape_96 (fun v w1 H locs hp hw => ?_)
            obtain ⟨sa2_24, ro2_25, wk2_26, rfl, rfl, hmo2_27⟩ := hp
            have hw := hw.sub (ws' := wMod G D sa2_24 pa2_8 (Nat.min (pn + 1) 4) tx tn 0 ro2_25 wk2_26 mb2_21 so kd nu it ti rd ad) [0, 1, 2, 3, 4, 5, 6, 7, 8] (by decide) rfl
            refine W.eq (g2 := F0 m 99 ls []) rfl ?_
            have hmo9 := hmo2_27
            refine k_iincN hm hl 6 1 rfl [(4, vN (n + 1)), (5, vN (1)), (6, vN (goalF (sumM (K1 0) (w1 0)) sh sz2 R1)), (0, .ref (D 0)), (1, vN (sh)), (2, vN (sz2)), (3, vN (k))] (by decide) rfl dX7_addShape_99 (fun ls hl => ?_)
            refine k_goto (tgt := 42) hm dX7_addShape_102 (by decide) ?_
            exact ih_42  (n + 1) sa2_24 (R1 + 1) ro2_25 wk2_26 mb2_21 (fup K1 R1 (spR (sumM (K1 (R1 - 1)) (w1 (R1 - 1))) (goalF (sumM (K1 0) (w1 0)) sh sz2 R1) b_18)) (fup w1 R1 (pm (sumM (K1 (R1 - 1)) (w1 (R1 - 1))) (goalF (sumM (K1 0) (w1 0)) sh sz2 R1))) (by first | assumption | omega) (by omega) hmo9 (by
                              intro c2 K2 w2 z
                              have z2 := hc (c2 + 1) K2 w2 (by
                                rw [show k - n = (k - (n + 1)) + 1 by omega]
                                exact Or.inr ⟨by omega, hpo1, b_18, c2, hb9, rfl, z⟩)
                              rw [show n + 1 + c2 = n + (c2 + 1) by omega]
                              exact z2) _ _ _ (by omega) hw (lv_sub hl [3, 4, 5, 6, 0, 1] rfl)
          · refine k_iload hm hl 0 rfl dX7_addShape_67 ?_
            refine k_callVr (n := 2) (As := [vN (1), vN (goalF (sumM (K1 0) (w1 0)) sh sz2 R1)]) (rest := []) hm hw hl (c_m_whyNot_3 l G D sa1 pa2_8 (Nat.min (pn + 1) 4) tx tn 0 ro1 wk1 mb1 so kd nu it ti rd ad R1 sp K1 w1 y (goalF (sumM (K1 0) (w1 0)) sh sz2 R1) hmo1 (by first | assumption | omega) (by first | assumption | omega) hpo1) gX7_addShape_X7_whyNot rfl (by decide +kernel) ⟨by decide, by decide⟩ (ci := 7) rfl 0 rfl [0, 1, 2, 3, 4, 5, 6, 7, 8] (by decide) rfl rfl rfl (by simp [Value.category]) ⟨by decide, by decide⟩ dX7_addShape_69 (fun v H locs hp hw => ?_)
            obtain rfl := hp
            refine W.eq (g2 := F0 m 72 ls [vN (3)]) rfl ?_
            refine k_ifne (tgt := 79) hm dX7_addShape_72 (by decide) (by omega) (fun c_29 => ?_) (fun c_29 => absurd c_29 (by omega))
            refine k_iconstN hm 0 dX7_addShape_79 ?_
            refine k_istore hm hl [(5, vN (0)), (6, vN (goalF (sumM (K1 0) (w1 0)) sh sz2 R1)), (0, .ref (D 0)), (1, vN (sh)), (2, vN (sz2)), (3, vN (k)), (4, vN (n))] (by decide) rfl dX7_addShape_80 (fun ls hl => ?_)
            refine k_iload hm hl 0 rfl dX7_addShape_82 ?_
            refine k_ifeq (tgt := 102) hm dX7_addShape_84 (by decide) (by omega) (fun c_30 => ?_) (fun c_30 => absurd c_30 (by omega))
            refine k_goto (tgt := 42) hm dX7_addShape_102 (by decide) ?_
            refine k_iload hm hl 0 rfl dX7_addShape_42 ?_
            refine k_ifeq (tgt := 105) hm dX7_addShape_44 (by decide) (by omega) (fun c_31 => ?_) (fun c_31 => absurd c_31 (by omega))
            refine k_iload hm hl 6 rfl dX7_addShape_105 ?_
            exact k_iret (post := _) hm hQ rfl rfl hw (⟨n, K1, w1, _, _, _, _, _, rfl, rfl, hc 0 K1 w1 (shS_0 (Or.inr (fun z2 => hpo1 z2.2))), by rw [← hR1]; exact hmo1, hpa9⟩) (by omega) (by omega) dX7_addShape_107
        · refine k_iconstN hm 1 dX7_addShape_66 ?_
          refine k_iload hm hl 0 rfl dX7_addShape_67 ?_
          refine k_callVr (n := 2) (As := [vN (1), vN (goalF (sumM (K1 0) (w1 0)) sh sz2 R1)]) (rest := []) hm hw hl (c_m_whyNot_2 l G D sa1 pa2_8 (Nat.min (pn + 1) 4) tx tn 0 ro1 wk1 mb1 so kd nu it ti rd ad R1 sp K1 w1 y (goalF (sumM (K1 0) (w1 0)) sh sz2 R1) hmo1 (by first | assumption | omega) (by omega)) gX7_addShape_X7_whyNot rfl (by decide +kernel) ⟨by decide, by decide⟩ (ci := 7) rfl 0 rfl [0, 1, 2, 3, 4, 5, 6, 7, 8] (by decide) rfl rfl rfl (by simp [Value.category]) ⟨by decide, by decide⟩ dX7_addShape_69 (fun v H locs hp hw => ?_)
          obtain rfl := hp
          refine W.eq (g2 := F0 m 72 ls [vN (2)]) rfl ?_
          refine k_ifne (tgt := 79) hm dX7_addShape_72 (by decide) (by omega) (fun c_33 => ?_) (fun c_33 => absurd c_33 (by omega))
          refine k_iconstN hm 0 dX7_addShape_79 ?_
          refine k_istore hm hl [(5, vN (0)), (6, vN (goalF (sumM (K1 0) (w1 0)) sh sz2 R1)), (0, .ref (D 0)), (1, vN (sh)), (2, vN (sz2)), (3, vN (k)), (4, vN (n))] (by decide) rfl dX7_addShape_80 (fun ls hl => ?_)
          refine k_iload hm hl 0 rfl dX7_addShape_82 ?_
          refine k_ifeq (tgt := 102) hm dX7_addShape_84 (by decide) (by omega) (fun c_34 => ?_) (fun c_34 => absurd c_34 (by omega))
          refine k_goto (tgt := 42) hm dX7_addShape_102 (by decide) ?_
          refine k_iload hm hl 0 rfl dX7_addShape_42 ?_
          refine k_ifeq (tgt := 105) hm dX7_addShape_44 (by decide) (by omega) (fun c_35 => ?_) (fun c_35 => absurd c_35 (by omega))
          refine k_iload hm hl 6 rfl dX7_addShape_105 ?_
          exact k_iret (post := _) hm hQ rfl rfl hw (⟨n, K1, w1, _, _, _, _, _, rfl, rfl, hc 0 K1 w1 (shS_0 (Or.inr (fun z2 => by omega))), by rw [← hR1]; exact hmo1, hpa9⟩) (by omega) (by omega) dX7_addShape_107
  exact loop_42 (k - 0 + 1) 0 sa R ro wk mb K w (by first | assumption | omega) rfl hmo (fun c2 K2 w2 z => by rw [Nat.zero_add]; exact z) _ _ _ (Nat.lt_succ_self _) hw (lv_sub hl [2, 3, 4, 5, 1, 0] rfl)
theorem PVd_rip {R k : Nat} {K : Nat → Nat → Nat} {w y : Nat → Nat} (h : PVd R K w y) (hk : k < R) : PVd (R - k) K w y := by
  obtain ⟨v1, v2, v3, v4, v5⟩ := h
  exact ⟨by omega, fun r hr => v2 r (by omega), fun r hr => v3 r (by omega), v4, v5⟩
theorem MOk_rip {sa sb : Nat → Int64} {R k : Nat} {sp : Bool} {K : Nat → Nat → Nat} {w y : Nat → Nat} (h : MOk sa R sp K w y) (hk : k < R) (b0 : sb 0 = lI ((R : Int) - (k : Int))) (b1 : ∀ q, 1 ≤ q → q < 5 + (R - k) → sb q = sa q) (b2 : ∀ q, 45 ≤ q → q < 45 + 4 * (R - k) → sb q = sa q) : MOk sb (R - k) sp K w y := by
  obtain ⟨hv, a0, a1, a2, a3⟩ := h
  refine ⟨PVd_rip hv hk, ?_, ?_, fun j hj => ?_, fun r hr => ⟨?_, fun i hi => ?_⟩⟩
  · rw [b0, show (R : Int) - (k : Int) = ((R - k : Nat) : Int) by omega]
  · rw [b1 1 (by omega) (by omega)]; exact a1
  · rw [b1 (2 + j) (by omega) (by omega)]; exact a2 j hj
  · rw [b1 (5 + r) (by omega) (by omega)]; exact (a3 r (by omega)).1
  · have := (hv.2.1 r (by omega)).1
    rw [b2 (45 + 4 * r + i / 32) (by omega) (by omega)]; exact (a3 r (by omega)).2 i hi
set_option maxHeartbeats 4000000 in
set_option maxRecDepth 100000 in
theorem c_m_rip_x1 (l : Launch) (G : kG) (D : Nat → Nat) (sa : Nat → Int64) (pa : Nat → Int64) (pn : Nat) (tx : Nat → Nat) (tn : Nat) (rf : Nat) (ro : Nat → Nat) (wk : Nat) (mb : Nat → Nat) (so : Nat) (kd : Nat → Nat) (nu : Nat → Nat) (it : Nat) (ti : Nat) (rd : Nat) (ad : Nat → Int64) (z : Int) (hzz : -2147483648 ≤ z ∧ z < 2147483648) (hx : z < 1) : kCM l yX7_rip wsX7_rip 3 65 0 0 G [.ref (D 0), vZ (z)] (wMod G D sa pa pn tx tn rf ro wk mb so kd nu it ti rd ad) (fun vv uu => vv = some (vN (0)) ∧ uu = wMod G D sa pa pn tx tn 1 ro wk mb so kd nu it ti rd ad) := by
  refine kCM.of (cc := cX7_rip) (maxL := 3) (ret := (some .int)) (by decide) rfl (Nat.le_of_ble_eq_true rfl) ?_
  intro p e s m args below meth c A ls Qz hQ hin hm hw hl
  have hl : lv_has ls 3 [(0, .ref (D 0)), (1, vZ (z))] := hl
  have i7 : ∀ w ∈ wsX70, w ∈ wsX7_rip := by decide +kernel
  refine k_aload_n hm hl 0 rfl dX7_rip_0 ?_
  refine k_iload_n hm hl 1 rfl dX7_rip_1 ?_
  refine k_iconstN hm 1 dX7_rip_2 ?_
  refine k_icmpge (tgt := 10) hm dX7_rip_3 (by decide) (by omega) (fun c_1 => absurd c_1 (by omega)) (fun c_1 => ?_)
  refine k_iconstN hm 1 dX7_rip_6 ?_
  refine k_goto (tgt := 23) hm dX7_rip_7 (by decide) ?_
  refine k_callV (n := 1) (As := [vN (1)]) (rest := []) (wr := []) hm hw hl (c_m_throwsAt l G D sa pa pn tx tn rf ro wk mb so kd nu it ti rd ad 1 (by first | assumption | omega)) gX7_rip_X7_throwsAt rfl (by decide +kernel) ⟨by decide, by decide⟩ (ci := 7) rfl 0 rfl [0, 1, 2, 3, 4, 5, 6, 7, 8] [] (by decide) rfl rfl (by decide) (by decide) rfl rfl (by simp [Value.category]) ⟨by decide, by decide⟩ dX7_rip_23 (fun v w1 H locs hp hw => ?_)
  obtain ⟨rfl, rfl⟩ := hp
  have hw := hw.sub (ws' := wMod G D sa pa pn tx tn 1 ro wk mb so kd nu it ti rd ad) [0, 1, 2, 3, 4, 5, 6, 7, 8] (by decide) rfl
  refine W.eq (g2 := F0 m 26 ls [vB (decide (0 < 1))]) rfl ?_
  refine k_ifeqB (tgt := 31) hm dX7_rip_26 (by decide) (fun c_3 => absurd (of_decide_eq_false c_3) (by omega)) (fun c_3 => ?_)
  refine k_iconstN hm 0 dX7_rip_29 ?_
  exact k_iret (post := _) hm hQ rfl rfl hw (⟨rfl, rfl⟩) (by omega) (by omega) dX7_rip_30
set_option maxHeartbeats 4000000 in
set_option maxRecDepth 100000 in
theorem c_m_rip_x2 (l : Launch) (G : kG) (D : Nat → Nat) (sa : Nat → Int64) (pa : Nat → Int64) (pn : Nat) (tx : Nat → Nat) (tn : Nat) (rf : Nat) (ro : Nat → Nat) (wk : Nat) (mb : Nat → Nat) (so : Nat) (kd : Nat → Nat) (nu : Nat → Nat) (it : Nat) (ti : Nat) (rd : Nat) (ad : Nat → Int64) (R : Nat) (sp : Bool) (K : Nat → Nat → Nat) (w : Nat → Nat) (y : Nat → Nat) (z : Int) (hmo : MOk sa R sp K w y) (hzz : -2147483648 ≤ z ∧ z < 2147483648) (hx : 1 ≤ z ∧ (R : Int) ≤ z) : kCM l yX7_rip wsX7_rip 3 65 0 0 G [.ref (D 0), vZ (z)] (wMod G D sa pa pn tx tn rf ro wk mb so kd nu it ti rd ad) (fun vv uu => vv = some (vN (0)) ∧ uu = wMod G D sa pa pn tx tn 2 ro wk mb so kd nu it ti rd ad) := by
  refine kCM.of (cc := cX7_rip) (maxL := 3) (ret := (some .int)) (by decide) rfl (Nat.le_of_ble_eq_true rfl) ?_
  intro p e s m args below meth c A ls Qz hQ hin hm hw hl
  have hl : lv_has ls 3 [(0, .ref (D 0)), (1, vZ (z))] := hl
  have i7 : ∀ w ∈ wsX70, w ∈ wsX7_rip := by decide +kernel
  have hR := hmo.1.1
  refine k_aload_n hm hl 0 rfl dX7_rip_0 ?_
  refine k_iload_n hm hl 1 rfl dX7_rip_1 ?_
  refine k_iconstN hm 1 dX7_rip_2 ?_
  refine k_icmpge (tgt := 10) hm dX7_rip_3 (by decide) (by omega) (fun c_1 => ?_) (fun c_1 => absurd c_1 (by omega))
  refine k_iload_n hm hl 1 rfl dX7_rip_10 ?_
  refine k_aload_n hm hl 0 rfl dX7_rip_11 ?_
  refine k_callVr (n := 0) (As := []) (rest := [vZ (z), .ref (D 0)]) hm hw hl (c_m_rounds l G D sa pa pn tx tn rf ro wk mb so kd nu it ti rd ad R sp K w y (by first | assumption | omega)) gX7_rip_X7_rounds rfl (by decide +kernel) ⟨by decide, by decide⟩ (ci := 7) rfl 0 rfl [0, 1, 2, 3, 4, 5, 6, 7, 8] (by decide) rfl rfl rfl (by simp [Value.category]) ⟨by decide, by decide⟩ dX7_rip_12 (fun v H locs hp hw => ?_)
  obtain rfl := hp
  refine W.eq (g2 := F0 m 15 ls [vN (R), vZ (z), .ref (D 0)]) rfl ?_
  refine k_icmplt (tgt := 22) hm dX7_rip_15 (by decide) (by omega) (fun c_3 => absurd c_3 (by omega)) (fun c_3 => ?_)
  refine k_iconstN hm 2 dX7_rip_18 ?_
  refine k_goto (tgt := 23) hm dX7_rip_19 (by decide) ?_
  refine k_callV (n := 1) (As := [vN (2)]) (rest := []) (wr := []) hm hw hl (c_m_throwsAt l G D sa pa pn tx tn rf ro wk mb so kd nu it ti rd ad 2 (by first | assumption | omega)) gX7_rip_X7_throwsAt rfl (by decide +kernel) ⟨by decide, by decide⟩ (ci := 7) rfl 0 rfl [0, 1, 2, 3, 4, 5, 6, 7, 8] [] (by decide) rfl rfl (by decide) (by decide) rfl rfl (by simp [Value.category]) ⟨by decide, by decide⟩ dX7_rip_23 (fun v w1 H locs hp hw => ?_)
  obtain ⟨rfl, rfl⟩ := hp
  have hw := hw.sub (ws' := wMod G D sa pa pn tx tn 2 ro wk mb so kd nu it ti rd ad) [0, 1, 2, 3, 4, 5, 6, 7, 8] (by decide) rfl
  refine W.eq (g2 := F0 m 26 ls [vB (decide (0 < 2))]) rfl ?_
  refine k_ifeqB (tgt := 31) hm dX7_rip_26 (by decide) (fun c_5 => absurd (of_decide_eq_false c_5) (by omega)) (fun c_5 => ?_)
  refine k_iconstN hm 0 dX7_rip_29 ?_
  exact k_iret (post := _) hm hQ rfl rfl hw (⟨rfl, rfl⟩) (by omega) (by omega) dX7_rip_30
theorem MOk_rip2 {sa sb : Nat → Int64} {R : Nat} {sp : Bool} {K : Nat → Nat → Nat} {w y : Nat → Nat} (h : MOk sa R sp K w y) (b1 : ∀ q, (q < 5 + R ∨ (45 ≤ q ∧ q < 45 + 4 * R)) → sb q = sa q) : MOk sb R sp K w y := by
  obtain ⟨hv, a0, a1, a2, a3⟩ := h
  refine ⟨hv, ?_, ?_, fun j hj => ?_, fun r hr => ⟨?_, fun i hi => ?_⟩⟩
  · rw [b1 0 (by omega)]; exact a0
  · rw [b1 1 (by omega)]; exact a1
  · rw [b1 (2 + j) (by omega)]; exact a2 j hj
  · rw [b1 (5 + r) (by omega)]; exact (a3 r (by omega)).1
  · have := (hv.2.1 r (by omega)).1
    rw [b1 (45 + 4 * r + i / 32) (by omega)]; exact (a3 r (by omega)).2 i hi
set_option maxHeartbeats 4000000 in
set_option maxRecDepth 100000 in
theorem c_m_rip_ok (l : Launch) (G : kG) (D : Nat → Nat) (sa : Nat → Int64) (pa : Nat → Int64) (pn : Nat) (tx : Nat → Nat) (tn : Nat) (rf : Nat) (ro : Nat → Nat) (wk : Nat) (mb : Nat → Nat) (so : Nat) (kd : Nat → Nat) (nu : Nat → Nat) (it : Nat) (ti : Nat) (rd : Nat) (ad : Nat → Int64) (R : Nat) (sp : Bool) (K : Nat → Nat → Nat) (w : Nat → Nat) (y : Nat → Nat) (sv : Nat → PSt) (k : Nat) (hmo : MOk sa R sp K w y) (hpa : PaOk pa pn sv) (hk : 1 ≤ k ∧ k < R) : kCM l yX7_rip wsX7_rip 3 65 0 0 G [.ref (D 0), vN (k)] (wMod G D sa pa pn tx tn rf ro wk mb so kd nu it ti rd ad) (fun vv uu => ∃ (sa2 : Nat → Int64), ∃ (pa2 : Nat → Int64), vv = some (vN (sumM (K (R - k - 1)) (w (R - k - 1)))) ∧ uu = wMod G D sa2 pa2 (Nat.min (pn + 1) 4) tx tn 0 ro wk mb so kd nu it ti rd ad ∧ (MOk sa2 (R - k) sp K w y) ∧ (PaOk pa2 (Nat.min (pn + 1) 4) (svPush (R, sp, K, w, y) sv))) := by
  refine kCM.of (cc := cX7_rip) (maxL := 3) (ret := (some .int)) (by decide) rfl (Nat.le_of_ble_eq_true rfl) ?_
  intro p e s m args below meth c A ls Qz hQ hin hm hw hl
  have hl : lv_has ls 3 [(0, .ref (D 0)), (1, vN (k))] := hl
  have i7 : ∀ w ∈ wsX70, w ∈ wsX7_rip := by decide +kernel
  have hR := hmo.1.1
  refine k_aload_n hm hl 0 rfl dX7_rip_0 ?_
  refine k_iload_n hm hl 1 rfl dX7_rip_1 ?_
  refine k_iconstN hm 1 dX7_rip_2 ?_
  refine k_icmpge (tgt := 10) hm dX7_rip_3 (by decide) (by omega) (fun c_1 => ?_) (fun c_1 => absurd c_1 (by omega))
  refine k_iload_n hm hl 1 rfl dX7_rip_10 ?_
  refine k_aload_n hm hl 0 rfl dX7_rip_11 ?_
  refine k_callVr (n := 0) (As := []) (rest := [vN (k), .ref (D 0)]) hm hw hl (c_m_rounds l G D sa pa pn tx tn rf ro wk mb so kd nu it ti rd ad R sp K w y (by first | assumption | omega)) gX7_rip_X7_rounds rfl (by decide +kernel) ⟨by decide, by decide⟩ (ci := 7) rfl 0 rfl [0, 1, 2, 3, 4, 5, 6, 7, 8] (by decide) rfl rfl rfl (by simp [Value.category]) ⟨by decide, by decide⟩ dX7_rip_12 (fun v H locs hp hw => ?_)
  obtain rfl := hp
  refine W.eq (g2 := F0 m 15 ls [vN (R), vN (k), .ref (D 0)]) rfl ?_
  refine k_icmplt (tgt := 22) hm dX7_rip_15 (by decide) (by omega) (fun c_3 => ?_) (fun c_3 => absurd c_3 (by omega))
  refine k_iconstN hm 0 dX7_rip_22 ?_
  refine k_callV (n := 1) (As := [vN (0)]) (rest := []) (wr := []) hm hw hl (c_m_throwsAt l G D sa pa pn tx tn rf ro wk mb so kd nu it ti rd ad 0 (by first | assumption | omega)) gX7_rip_X7_throwsAt rfl (by decide +kernel) ⟨by decide, by decide⟩ (ci := 7) rfl 0 rfl [0, 1, 2, 3, 4, 5, 6, 7, 8] [] (by decide) rfl rfl (by decide) (by decide) rfl rfl (by simp [Value.category]) ⟨by decide, by decide⟩ dX7_rip_23 (fun v w1 H locs hp hw => ?_)
  obtain ⟨rfl, rfl⟩ := hp
  have hw := hw.sub (ws' := wMod G D sa pa pn tx tn 0 ro wk mb so kd nu it ti rd ad) [0, 1, 2, 3, 4, 5, 6, 7, 8] (by decide) rfl
  refine W.eq (g2 := F0 m 26 ls [vB (decide (0 < 0))]) rfl ?_
  refine k_ifeqB (tgt := 31) hm dX7_rip_26 (by decide) (fun c_5 => ?_) (fun c_5 => absurd (of_decide_eq_true c_5) (by omega))
  refine k_aload_n hm hl 0 rfl dX7_rip_31 ?_
  refine k_callV (n := 0) (As := []) (rest := []) (wr := []) hm hw hl (c_m_saves l G D sa pa pn tx tn 0 ro wk mb so kd nu it ti rd ad R sp K w y sv (by first | assumption | omega) (by first | assumption | omega)) gX7_rip_X7_saves rfl (by decide +kernel) ⟨by decide, by decide⟩ (ci := 7) rfl 0 rfl [0, 1, 2, 3, 4, 5, 6, 7, 8] [] (by decide) rfl rfl (by decide) (by decide) rfl rfl (by simp [Value.category]) ⟨by decide, by decide⟩ dX7_rip_32 (fun v w1 H locs hp hw => ?_)
  obtain ⟨pa2_7, rfl, rfl, hpa2_8⟩ := hp
  have hw := hw.sub (ws' := wMod G D sa pa2_7 (Nat.min (pn + 1) 4) tx tn 0 ro wk mb so kd nu it ti rd ad) [0, 1, 2, 3, 4, 5, 6, 7, 8] (by decide) rfl
  refine W.eq (g2 := F0 m 35 ls []) rfl ?_
  have hpa9 := hpa2_8
  refine k_aload_n hm hl 0 rfl dX7_rip_35 ?_
  refine k_get (T := TX7) hm hw 0 0 i7 rfl rfl (by decide) (by decide +kernel) rfl dX7_rip_36 ?_
  refine k_iconstN hm 0 dX7_rip_39 ?_
  refine lv_dup2_11 hm.1 hm.2.1 dX7_rip_40 rfl rfl ?_
  refine k_lald hm hw 1 rfl (by omega) dX7_rip_41 ?_
  rw [show sa 0 = lI (R : Int) from hmo.2.1]
  refine k_iload_n hm hl 1 rfl dX7_rip_42 ?_
  refine k_i2l hm dX7_rip_43 (by omega) ?_
  refine k_lsub hm dX7_rip_44 ?_
  refine k_last hm hw 1 (wMod G D (vp_updL sa 0 (lI ((R : Int) - ((k : Nat) : Int)))) pa2_7 (Nat.min (pn + 1) 4) tx tn 0 ro wk mb so kd nu it ti rd ad) rfl (by omega) rfl dX7_rip_45 (fun H locs hw => ?_)
  have hmb := MOk_rip hmo hk.2 (sb := vp_updL sa 0 (lI ((R : Int) - ((k : Nat) : Int)))) (by rw [updL_s]) (fun q z1 z2 => by rw [updL_n (by omega)]) (fun q z1 z2 => by rw [updL_n (by omega)])
  refine k_aload_n hm hl 0 rfl dX7_rip_46 ?_
  refine k_callVr (n := 0) (As := []) (rest := []) hm hw hl (c_m_rounds l G D (vp_updL sa 0 (lI ((R : Int) - ((k : Nat) : Int)))) pa2_7 (Nat.min (pn + 1) 4) tx tn 0 ro wk mb so kd nu it ti rd ad (R - k) sp K w y hmb) gX7_rip_X7_rounds rfl (by decide +kernel) ⟨by decide, by decide⟩ (ci := 7) rfl 0 rfl [0, 1, 2, 3, 4, 5, 6, 7, 8] (by decide) rfl rfl rfl (by simp [Value.category]) ⟨by decide, by decide⟩ dX7_rip_47 (fun v H locs hp hw => ?_)
  obtain rfl := hp
  refine W.eq (g2 := F0 m 50 ls [vN (R - k)]) rfl ?_
  refine k_istore_n hm hl [(2, vN (R - k)), (0, .ref (D 0)), (1, vN (k))] (by decide) rfl dX7_rip_50 (fun ls hl => ?_)
  have loop_51 : ∀ (fu : Nat) (r : Nat) (g : Nat → Int64) (hr : R - k ≤ r ∧ r ≤ 40) (hmg : MOk g (R - k) sp K w y) (H : Heap) (locs : List Loc) (ls : Array Slot), 40 - r < fu → kW G A s (wMod G D g pa2_7 (Nat.min (pn + 1) 4) tx tn 0 ro wk mb so kd nu it ti rd ad) H locs → lv_has ls 3 [(0, .ref (D 0)), (1, vN (k)), (2, vN (r))] → W p l e { frames := 3, cells := 0, slots := 0, locals := 65 } s m args below meth c H locs 0 0 Qz (F0 m 51 ls []) := by
    intro fu
    induction fu with
    | zero => intro r g hr hmg H locs ls hfu; exact absurd hfu (Nat.not_lt_zero _)
    | succ fu ih_51 =>
      intro r g hr hmg H locs ls hfu hw hl
      refine k_iload_n hm hl 2 rfl dX7_rip_51 ?_
      refine k_bipushN hm 40 dX7_rip_52 rfl ?_
      refine k_icmpge (tgt := 72) hm dX7_rip_54 (by decide) (by omega) (fun c_10 => ?_) (fun c_10 => ?_)
      · refine k_bipushN hm 45 dX7_rip_72 rfl ?_
        refine k_iconstN hm 4 dX7_rip_74 ?_
        refine k_aload_n hm hl 0 rfl dX7_rip_75 ?_
        refine k_callVr (n := 0) (As := []) (rest := [vN (4), vN (45)]) hm hw hl (c_m_rounds l G D g pa2_7 (Nat.min (pn + 1) 4) tx tn 0 ro wk mb so kd nu it ti rd ad (R - k) sp K w y hmg) gX7_rip_X7_rounds rfl (by decide +kernel) ⟨by decide, by decide⟩ (ci := 7) rfl 0 rfl [0, 1, 2, 3, 4, 5, 6, 7, 8] (by decide) rfl rfl rfl (by simp [Value.category]) ⟨by decide, by decide⟩ dX7_rip_76 (fun v H locs hp hw => ?_)
        obtain rfl := hp
        refine W.eq (g2 := F0 m 79 ls [vN (R - k), vN (4), vN (45)]) rfl ?_
        refine k_imulN hm dX7_rip_79 ?_
        refine k_iaddN hm dX7_rip_80 ?_
        refine k_istore_n hm hl [(2, vN (45 + (4 * (R - k)))), (0, .ref (D 0)), (1, vN (k))] (by decide) rfl dX7_rip_81 (fun ls hl => ?_)
        have loop_82 : ∀ (fu : Nat) (j : Nat) (g2 : Nat → Int64) (hj : 45 + 4 * (R - k) ≤ j ∧ j ≤ 205) (hmg2 : MOk g2 (R - k) sp K w y) (H : Heap) (locs : List Loc) (ls : Array Slot), 205 - j < fu → kW G A s (wMod G D g2 pa2_7 (Nat.min (pn + 1) 4) tx tn 0 ro wk mb so kd nu it ti rd ad) H locs → lv_has ls 3 [(0, .ref (D 0)), (1, vN (k)), (2, vN (j))] → W p l e { frames := 3, cells := 0, slots := 0, locals := 65 } s m args below meth c H locs 0 0 Qz (F0 m 82 ls []) := by
          intro fu
          induction fu with
          | zero => intro j g2 hj hmg2 H locs ls hfu; exact absurd hfu (Nat.not_lt_zero _)
          | succ fu ih_82 =>
            intro j g2 hj hmg2 H locs ls hfu hw hl
            refine k_iload_n hm hl 2 rfl dX7_rip_82 ?_
            refine k_sipushN hm 205 dX7_rip_83 rfl ?_
            refine k_icmpge (tgt := 102) hm dX7_rip_86 (by decide) (by omega) (fun c_12 => ?_) (fun c_12 => ?_)
            · refine k_aload_n hm hl 0 rfl dX7_rip_102 ?_
              refine k_callVr (n := 0) (As := []) (rest := []) hm hw hl (c_m_last l G D g2 pa2_7 (Nat.min (pn + 1) 4) tx tn 0 ro wk mb so kd nu it ti rd ad (R - k) sp K w y hmg2) gX7_rip_X7_last rfl (by decide +kernel) ⟨by decide, by decide⟩ (ci := 7) rfl 0 rfl [0, 1, 2, 3, 4, 5, 6, 7, 8] (by decide) rfl rfl rfl (by simp [Value.category]) ⟨by decide, by decide⟩ dX7_rip_103 (fun v H locs hp hw => ?_)
              obtain rfl := hp
              refine W.eq (g2 := F0 m 106 ls [vN (sumM (K ((R - k) - 1)) (w ((R - k) - 1)))]) rfl ?_
              exact k_iret (post := _) hm hQ rfl rfl hw (⟨_, _, rfl, rfl, hmg2, hpa9⟩) (by omega) (by omega) dX7_rip_106
            · refine k_aload_n hm hl 0 rfl dX7_rip_89 ?_
              refine k_get (T := TX7) hm hw 0 0 i7 rfl rfl (by decide) (by decide +kernel) rfl dX7_rip_90 ?_
              refine k_iload_n hm hl 2 rfl dX7_rip_93 ?_
              refine k_lconst (n := 0) hm dX7_rip_94 ?_
              refine k_last hm hw 1 (wMod G D (vp_updL g2 j (lI 0)) pa2_7 (Nat.min (pn + 1) 4) tx tn 0 ro wk mb so kd nu it ti rd ad) rfl (by omega) rfl dX7_rip_95 (fun H locs hw => ?_)
              refine k_iincN hm hl 2 1 rfl [(2, vN (j + 1)), (0, .ref (D 0)), (1, vN (k))] (by decide) rfl dX7_rip_96 (fun ls hl => ?_)
              refine k_goto (tgt := 82) hm dX7_rip_99 (by decide) ?_
              exact ih_82  (j + 1) (vp_updL g2 j (lI 0)) (by first | assumption | omega) (MOk_rip2 hmg2 (fun q z => updL_n (by omega))) _ _ _ (by omega) hw (lv_sub hl [1, 2, 0] rfl)
        exact loop_82 (205 - (45 + (4 * (R - k))) + 1) (45 + (4 * (R - k))) g (by first | assumption | omega) hmg _ _ _ (Nat.lt_succ_self _) hw (lv_sub hl [1, 2, 0] rfl)
      · refine k_aload_n hm hl 0 rfl dX7_rip_57 ?_
        refine k_get (T := TX7) hm hw 0 0 i7 rfl rfl (by decide) (by decide +kernel) rfl dX7_rip_58 ?_
        refine k_iconstN hm 5 dX7_rip_61 ?_
        refine k_iload_n hm hl 2 rfl dX7_rip_62 ?_
        refine k_iaddN hm dX7_rip_63 ?_
        refine k_lconst (n := 0) hm dX7_rip_64 ?_
        refine k_last hm hw 1 (wMod G D (vp_updL g (5 + r) (lI 0)) pa2_7 (Nat.min (pn + 1) 4) tx tn 0 ro wk mb so kd nu it ti rd ad) rfl (by omega) rfl dX7_rip_65 (fun H locs hw => ?_)
        refine k_iincN hm hl 2 1 rfl [(2, vN (r + 1)), (0, .ref (D 0)), (1, vN (k))] (by decide) rfl dX7_rip_66 (fun ls hl => ?_)
        refine k_goto (tgt := 51) hm dX7_rip_69 (by decide) ?_
        exact ih_51  (r + 1) (vp_updL g (5 + r) (lI 0)) (by first | assumption | omega) (MOk_rip2 hmg (fun q z => updL_n (by omega))) _ _ _ (by omega) hw (lv_sub hl [1, 2, 0] rfl)
  exact loop_51 (40 - (R - k) + 1) (R - k) (vp_updL sa 0 (lI ((R : Int) - ((k : Nat) : Int)))) (by first | assumption | omega) hmb _ _ _ (Nat.lt_succ_self _) hw (lv_sub hl [1, 2, 0] rfl)
