set_option maxHeartbeats 4000000 in
set_option maxRecDepth 100000 in
theorem c_m_begin_ok (l : Launch) (G : kG) (D : Nat → Nat) (sa : Nat → Int64) (pa : Nat → Int64) (pn : Nat) (tx : Nat → Nat) (tn : Nat) (rf : Nat) (ro : Nat → Nat) (wk : Nat) (mb : Nat → Nat) (so : Nat) (kd : Nat → Nat) (nu : Nat → Nat) (it : Nat) (ti : Nat) (rd : Nat) (ad : Nat → Int64) (R : Nat) (sp : Bool) (K : Nat → Nat → Nat) (w : Nat → Nat) (y : Nat → Nat) (sv : Nat → PSt) (n : Nat) (hmo : MOk sa R sp K w y) (hpa : PaOk pa pn sv) (hn : 3 ≤ n ∧ n ≤ 12) : kCM l yX7_begin wsX7_begin 1 22 0 0 G [.ref (D 0), vN (n)] (wMod G D sa pa pn tx tn rf ro wk mb so kd nu it ti rd ad) (fun vv uu => ∃ (sa2 : Nat → Int64), ∃ (pa2 : Nat → Int64), vv = some (vN (R)) ∧ uu = wMod G D sa2 pa2 (Nat.min (pn + 1) 4) tx tn 0 ro wk mb so kd nu it ti rd ad ∧ (MOk sa2 1 sp (fun _ _ => 0) (fun _ => n) y) ∧ (PaOk pa2 (Nat.min (pn + 1) 4) (svPush (R, sp, K, w, y) sv))) := by
  refine kCM.of (cc := cX7_begin) (maxL := 3) (ret := (some .int)) (by decide) rfl (Nat.le_of_ble_eq_true rfl) ?_
  intro p e s m args below meth c A ls Qz hQ hin hm hw hl
  have hl : lv_has ls 3 [(0, .ref (D 0)), (1, vN (n))] := hl
  have hR := hmo.1.1
  refine k_aload_n hm hl 0 rfl dX7_begin_0 ?_
  refine k_iload_n hm hl 1 rfl dX7_begin_1 ?_
  refine k_iconstN hm 3 dX7_begin_2 ?_
  refine k_bipushN hm 12 dX7_begin_3 rfl ?_
  refine k_callSr (n := 3) (As := [vN (n), vN (3), vN (12)]) (rest := [.ref (D 0)]) hm hw hl (c_m_in l G ((n : Nat) : Int) ((3 : Nat) : Int) ((12 : Nat) : Int) (by first | assumption | omega)) gX7_begin_X7_in rfl (by decide +kernel) ⟨by decide, by decide⟩ [] (by decide) rfl rfl rfl (by simp [Value.category]) ⟨by decide, by decide⟩ dX7_begin_5 (fun v H locs hp hw => ?_)
  obtain rfl := hp
  refine W.eq (g2 := F0 m 8 ls [vB (decide (((3 : Nat) : Int) ≤ ((n : Nat) : Int) ∧ ((n : Nat) : Int) ≤ ((12 : Nat) : Int))), .ref (D 0)]) rfl ?_
  refine k_ifeqB (tgt := 15) hm dX7_begin_8 (by decide) (fun c_2 => absurd (of_decide_eq_false c_2) (by omega)) (fun c_2 => ?_)
  refine k_iconstN hm 0 dX7_begin_11 ?_
  refine k_goto (tgt := 16) hm dX7_begin_12 (by decide) ?_
  refine k_callV (n := 1) (As := [vN (0)]) (rest := []) (wr := []) hm hw hl (c_m_throwsAt l G D sa pa pn tx tn rf ro wk mb so kd nu it ti rd ad 0 (by first | assumption | omega)) gX7_begin_X7_throwsAt rfl (by decide +kernel) ⟨by decide, by decide⟩ (ci := 7) rfl 0 rfl [0, 1, 2, 3, 4, 5, 6, 7, 8] [] (by decide) rfl rfl (by decide) (by decide) rfl rfl (by simp [Value.category]) ⟨by decide, by decide⟩ dX7_begin_16 (fun v w1 H locs hp hw => ?_)
  obtain ⟨rfl, rfl⟩ := hp
  have hw := hw.sub (ws' := wMod G D sa pa pn tx tn 0 ro wk mb so kd nu it ti rd ad) [0, 1, 2, 3, 4, 5, 6, 7, 8] (by decide) rfl
  refine W.eq (g2 := F0 m 19 ls [vB (decide (0 < 0))]) rfl ?_
  refine k_ifeqB (tgt := 24) hm dX7_begin_19 (by decide) (fun c_4 => ?_) (fun c_4 => absurd (of_decide_eq_true c_4) (by omega))
  refine k_aload_n hm hl 0 rfl dX7_begin_24 ?_
  refine k_callV (n := 0) (As := []) (rest := []) (wr := []) hm hw hl (c_m_saves l G D sa pa pn tx tn 0 ro wk mb so kd nu it ti rd ad R sp K w y sv (by first | assumption | omega) (by first | assumption | omega)) gX7_begin_X7_saves rfl (by decide +kernel) ⟨by decide, by decide⟩ (ci := 7) rfl 0 rfl [0, 1, 2, 3, 4, 5, 6, 7, 8] [] (by decide) rfl rfl (by decide) (by decide) rfl rfl (by simp [Value.category]) ⟨by decide, by decide⟩ dX7_begin_25 (fun v w1 H locs hp hw => ?_)
  obtain ⟨pa2_6, rfl, rfl, hpa2_7⟩ := hp
  have hw := hw.sub (ws' := wMod G D sa pa2_6 (Nat.min (pn + 1) 4) tx tn 0 ro wk mb so kd nu it ti rd ad) [0, 1, 2, 3, 4, 5, 6, 7, 8] (by decide) rfl
  refine W.eq (g2 := F0 m 28 ls []) rfl ?_
  have hpa9 := hpa2_7
  refine k_aload_n hm hl 0 rfl dX7_begin_28 ?_
  refine k_callVr (n := 0) (As := []) (rest := []) hm hw hl (c_m_rounds l G D sa pa2_6 (Nat.min (pn + 1) 4) tx tn 0 ro wk mb so kd nu it ti rd ad R sp K w y (by first | assumption | omega)) gX7_begin_X7_rounds rfl (by decide +kernel) ⟨by decide, by decide⟩ (ci := 7) rfl 0 rfl [0, 1, 2, 3, 4, 5, 6, 7, 8] (by decide) rfl rfl rfl (by simp [Value.category]) ⟨by decide, by decide⟩ dX7_begin_29 (fun v H locs hp hw => ?_)
  obtain rfl := hp
  refine W.eq (g2 := F0 m 32 ls [vN (R)]) rfl ?_
  refine k_istore_n hm hl [(2, vN (R)), (0, .ref (D 0)), (1, vN (n))] (by decide) rfl dX7_begin_32 (fun ls hl => ?_)
  refine k_aload_n hm hl 1 rfl dX7_begin_33 ?_
  refine k_iload_n hm hl 2 rfl dX7_begin_34 ?_
  refine k_callV (n := 1) (As := [vN (n)]) (rest := []) (wr := []) hm hw hl (c_m_laysFirst l G D sa pa2_6 (Nat.min (pn + 1) 4) tx tn 0 ro wk mb so kd nu it ti rd ad sp y n (by first | assumption | omega) hmo.2.2.1 (fun k hk => ⟨hmo.2.2.2.1 k hk, hmo.1.2.2.2.1 k hk⟩)) gX7_begin_X7_laysFirst rfl (by decide +kernel) ⟨by decide, by decide⟩ (ci := 7) rfl 0 rfl [0, 1, 2, 3, 4, 5, 6, 7, 8] [] (by decide) rfl rfl (by decide) (by decide) rfl rfl (by simp [Value.category]) ⟨by decide, by decide⟩ dX7_begin_35 (fun v w1 H locs hp hw => ?_)
  obtain ⟨sa2_10, rfl, rfl, hmo2_11⟩ := hp
  have hw := hw.sub (ws' := wMod G D sa2_10 pa2_6 (Nat.min (pn + 1) 4) tx tn 0 ro wk mb so kd nu it ti rd ad) [0, 1, 2, 3, 4, 5, 6, 7, 8] (by decide) rfl
  refine W.eq (g2 := F0 m 38 ls []) rfl ?_
  have hmo9 := hmo2_11
  refine k_iload_n hm hl 0 rfl dX7_begin_38 ?_
  exact k_iret (post := _) hm hQ rfl rfl hw (⟨_, _, rfl, rfl, hmo9, hpa9⟩) (by omega) (by omega) dX7_begin_39
set_option maxHeartbeats 4000000 in
set_option maxRecDepth 100000 in
theorem c_m_begin_x (l : Launch) (G : kG) (D : Nat → Nat) (sa : Nat → Int64) (pa : Nat → Int64) (pn : Nat) (tx : Nat → Nat) (tn : Nat) (rf : Nat) (ro : Nat → Nat) (wk : Nat) (mb : Nat → Nat) (so : Nat) (kd : Nat → Nat) (nu : Nat → Nat) (it : Nat) (ti : Nat) (rd : Nat) (ad : Nat → Int64) (z : Int) (hz : (-2147483648 ≤ z ∧ z < 2147483648) ∧ ¬ (3 ≤ z ∧ z ≤ 12)) : kCM l yX7_begin wsX7_begin 1 22 0 0 G [.ref (D 0), vZ (z)] (wMod G D sa pa pn tx tn rf ro wk mb so kd nu it ti rd ad) (fun vv uu => vv = some (vN (0)) ∧ uu = wMod G D sa pa pn tx tn 1 ro wk mb so kd nu it ti rd ad) := by
  refine kCM.of (cc := cX7_begin) (maxL := 3) (ret := (some .int)) (by decide) rfl (Nat.le_of_ble_eq_true rfl) ?_
  intro p e s m args below meth c A ls Qz hQ hin hm hw hl
  have hl : lv_has ls 3 [(0, .ref (D 0)), (1, vZ (z))] := hl
  refine k_aload_n hm hl 0 rfl dX7_begin_0 ?_
  refine k_iload_n hm hl 1 rfl dX7_begin_1 ?_
  refine k_iconstN hm 3 dX7_begin_2 ?_
  refine k_bipushN hm 12 dX7_begin_3 rfl ?_
  refine k_callSr (n := 3) (As := [vZ (z), vN (3), vN (12)]) (rest := [.ref (D 0)]) hm hw hl (c_m_in l G z ((3 : Nat) : Int) ((12 : Nat) : Int) (by first | assumption | omega)) gX7_begin_X7_in rfl (by decide +kernel) ⟨by decide, by decide⟩ [] (by decide) rfl rfl rfl (by simp [Value.category]) ⟨by decide, by decide⟩ dX7_begin_5 (fun v H locs hp hw => ?_)
  obtain rfl := hp
  refine W.eq (g2 := F0 m 8 ls [vB (decide (((3 : Nat) : Int) ≤ z ∧ z ≤ ((12 : Nat) : Int))), .ref (D 0)]) rfl ?_
  refine k_ifeqB (tgt := 15) hm dX7_begin_8 (by decide) (fun c_2 => ?_) (fun c_2 => absurd (of_decide_eq_true c_2) (by omega))
  refine k_iconstN hm 1 dX7_begin_15 ?_
  refine k_callV (n := 1) (As := [vN (1)]) (rest := []) (wr := []) hm hw hl (c_m_throwsAt l G D sa pa pn tx tn rf ro wk mb so kd nu it ti rd ad 1 (by first | assumption | omega)) gX7_begin_X7_throwsAt rfl (by decide +kernel) ⟨by decide, by decide⟩ (ci := 7) rfl 0 rfl [0, 1, 2, 3, 4, 5, 6, 7, 8] [] (by decide) rfl rfl (by decide) (by decide) rfl rfl (by simp [Value.category]) ⟨by decide, by decide⟩ dX7_begin_16 (fun v w1 H locs hp hw => ?_)
  obtain ⟨rfl, rfl⟩ := hp
  have hw := hw.sub (ws' := wMod G D sa pa pn tx tn 1 ro wk mb so kd nu it ti rd ad) [0, 1, 2, 3, 4, 5, 6, 7, 8] (by decide) rfl
  refine W.eq (g2 := F0 m 19 ls [vB (decide (0 < 1))]) rfl ?_
  refine k_ifeqB (tgt := 24) hm dX7_begin_19 (by decide) (fun c_4 => absurd (of_decide_eq_false c_4) (by omega)) (fun c_4 => ?_)
  refine k_iconstN hm 0 dX7_begin_22 ?_
  exact k_iret (post := _) hm hQ rfl rfl hw (⟨rfl, rfl⟩) (by omega) (by omega) dX7_begin_23
