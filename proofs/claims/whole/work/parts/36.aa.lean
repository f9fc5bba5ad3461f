set_option maxHeartbeats 4000000 in
set_option maxRecDepth 100000 in
theorem c_m_addsBest (l : Launch) (G : kG) (D : Nat → Nat) (sa : Nat → Int64) (pa : Nat → Int64) (pn : Nat) (tx : Nat → Nat) (tn : Nat) (rf : Nat) (ro : Nat → Nat) (wk : Nat) (mb : Nat → Nat) (so : Nat) (kd : Nat → Nat) (nu : Nat → Nat) (it : Nat) (ti : Nat) (rd : Nat) (ad : Nat → Int64) (R : Nat) (sp : Bool) (K : Nat → Nat → Nat) (w : Nat → Nat) (y : Nat → Nat) (t : Nat) (x : Nat) (hmo : MOk sa R sp K w y) (hR40 : R < 40) (ht : 3 ≤ t ∧ t ≤ 120) (hpo : isPo (sumM (K (R - 1)) (w (R - 1))) t) (hx : x < 120) : kCM l yX7_addsBest wsX7_addsBest 3 65 0 0 G [.ref (D 0), vN (t), vN (x)] (wMod G D sa pa pn tx tn rf ro wk mb so kd nu it ti rd ad) (fun vv uu => ∃ (sa2 : Nat → Int64), ∃ (ro2 : Nat → Nat), ∃ (wk2 : Nat), vv = none ∧ uu = wMod G D sa2 pa pn tx tn rf ro2 wk2 mb so kd nu it ti rd ad ∧ (MOk sa2 (R + 1) sp (fup K R (spR (sumM (K (R - 1)) (w (R - 1))) t x)) (fup w R (pm (sumM (K (R - 1)) (w (R - 1))) t)) y)) := by
  refine kCM.of (cc := cX7_addsBest) (maxL := 3) (ret := none) (by decide) rfl (Nat.le_of_ble_eq_true rfl) ?_
  intro p e s m args below meth c A ls Qz hQ hin hm hw hl
  have hl : lv_has ls 3 [(0, .ref (D 0)), (1, vN (t)), (2, vN (x))] := hl
  have hR := hmo.1.1
  have hll := PVd_last hmo.1
  have hrg := spR_ok (x := x) (show 3 ≤ (sumM (K (R - 1)) (w (R - 1))) ∧ (sumM (K (R - 1)) (w (R - 1))) ≤ 120 ∧ 3 ≤ t ∧ t ≤ 120 by omega) hpo
  have hpm : 3 ≤ pm (sumM (K (R - 1)) (w (R - 1))) t ∧ pm (sumM (K (R - 1)) (w (R - 1))) t ≤ 120 := by unfold pm; split <;> omega
  refine k_aload_n hm hl 0 rfl dX7_addsBest_0 ?_
  refine k_iload_n hm hl 1 rfl dX7_addsBest_1 ?_
  refine k_aload_n hm hl 0 rfl dX7_addsBest_2 ?_
  refine k_callVr (n := 0) (As := []) (rest := [vN (t), .ref (D 0)]) hm hw hl (c_m_last l G D sa pa pn tx tn rf ro wk mb so kd nu it ti rd ad R sp K w y (by first | assumption | omega)) gX7_addsBest_X7_last rfl (by decide +kernel) ⟨by decide, by decide⟩ (ci := 7) rfl 0 rfl [0, 1, 2, 3, 4, 5, 6, 7, 8] (by decide) rfl rfl rfl (by simp [Value.category]) ⟨by decide, by decide⟩ dX7_addsBest_3 (fun v H locs hp hw => ?_)
  obtain rfl := hp
  refine W.eq (g2 := F0 m 6 ls [vN (sumM (K (R - 1)) (w (R - 1))), vN (t), .ref (D 0)]) rfl ?_
  refine k_iload_n hm hl 2 rfl dX7_addsBest_6 ?_
  refine k_callV (n := 3) (As := [vN (t), vN (sumM (K (R - 1)) (w (R - 1))), vN (x)]) (rest := []) (wr := []) hm hw hl (c_m_spreads l G D sa pa pn tx tn rf ro wk mb so kd nu it ti rd ad t (sumM (K (R - 1)) (w (R - 1))) x (by first | assumption | omega)) gX7_addsBest_X7_spreads rfl (by decide +kernel) ⟨by decide, by decide⟩ (ci := 7) rfl 0 rfl [0, 1, 2, 3, 4, 5, 6, 7, 8] [] (by decide) rfl rfl (by decide) (by decide) rfl rfl (by simp [Value.category]) ⟨by decide, by decide⟩ dX7_addsBest_7 (fun v w1 H locs hp hw => ?_)
  obtain ⟨ro2_3, rfl, rfl, hro_4⟩ := hp
  have hw := hw.sub (ws' := wMod G D sa pa pn tx tn rf ro2_3 (pm (sumM (K (R - 1)) (w (R - 1))) t) mb so kd nu it ti rd ad) [0, 1, 2, 3, 4, 5, 6, 7, 8] (by decide) rfl
  refine W.eq (g2 := F0 m 10 ls []) rfl ?_
  have hro := hro_4
  refine k_aload_n hm hl 0 rfl dX7_addsBest_10 ?_
  refine k_callV (n := 0) (As := []) (rest := []) (wr := []) hm hw hl (c_m_adds l G D sa pa pn tx tn rf ro2_3 (pm (sumM (K (R - 1)) (w (R - 1))) t) mb so kd nu it ti rd ad R sp K w y (spR (sumM (K (R - 1)) (w (R - 1))) t x) (by first | assumption | omega) (by first | assumption | omega) (by omega) (fun i q => ⟨hro i q, hrg.1 i q⟩) (by rw [hrg.2.2]; omega) hrg.2.1) gX7_addsBest_X7_adds rfl (by decide +kernel) ⟨by decide, by decide⟩ (ci := 7) rfl 0 rfl [0, 1, 2, 3, 4, 5, 6, 7, 8] [] (by decide) rfl rfl (by decide) (by decide) rfl rfl (by simp [Value.category]) ⟨by decide, by decide⟩ dX7_addsBest_11 (fun v w1 H locs hp hw => ?_)
  obtain ⟨sa2_6, rfl, rfl, hmo2_7⟩ := hp
  have hw := hw.sub (ws' := wMod G D sa2_6 pa pn tx tn rf ro2_3 (pm (sumM (K (R - 1)) (w (R - 1))) t) mb so kd nu it ti rd ad) [0, 1, 2, 3, 4, 5, 6, 7, 8] (by decide) rfl
  refine W.eq (g2 := F0 m 14 ls []) rfl ?_
  have hmo9 := hmo2_7
  exact k_vret hm hQ rfl hw (⟨_, _, _, rfl, rfl, hmo9⟩) (by omega) (by omega) dX7_addsBest_14
