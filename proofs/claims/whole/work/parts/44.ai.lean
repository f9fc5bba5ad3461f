set_option maxHeartbeats 4000000 in
set_option maxRecDepth 100000 in
theorem c_m_roundOf_0 (l : Launch) (G : kG) (D : Nat → Nat) (sa : Nat → Int64) (pa : Nat → Int64) (pn : Nat) (tx : Nat → Nat) (tn : Nat) (rf : Nat) (ro : Nat → Nat) (wk : Nat) (mb : Nat → Nat) (so : Nat) (kd : Nat → Nat) (nu : Nat → Nat) (it : Nat) (ti : Nat) (rd : Nat) (ad : Nat → Int64) (R : Nat) (sp : Bool) (K : Nat → Nat → Nat) (w : Nat → Nat) (y : Nat → Nat) (r : Nat) (hmo : MOk sa R sp K w y) (hr : r < R) : kCM l yX7_roundOf wsX7_roundOf 3 73 0 0 G [.ref (D 0), vN (r), vN (0)] (wMod G D sa pa pn tx tn rf ro wk mb so kd nu it ti rd ad) (fun vv uu => ∃ (ro2 : Nat → Nat), ∃ (wk2 : Nat), ∃ (mb2 : Nat → Nat), vv = some (vN (rvN K w y r 0)) ∧ uu = wMod G D sa pa pn tx tn rf ro2 wk2 mb2 so kd nu it ti rd ad) := by
  refine kCM.of (cc := cX7_roundOf) (maxL := 3) (ret := (some .int)) (by decide) rfl (Nat.le_of_ble_eq_true rfl) ?_
  intro p e s m args below meth c A ls Qz hQ hin hm hw hl
  have hl : lv_has ls 3 [(0, .ref (D 0)), (1, vN (r)), (2, vN (0))] := hl
  have hR := hmo.1.1
  have hb := hmo.1.2.1 r hr
  have h0 := tot0_rng hmo.1
  refine k_iload_n hm hl 2 rfl dX7_roundOf_0 ?_
  refine k_tsw (x := 0) (tgt := 56) hm dX7_roundOf_1 (by decide) (by decide) (by decide) rfl (by decide) ?_
  refine k_aload_n hm hl 0 rfl dX7_roundOf_56 ?_
  refine k_iload_n hm hl 1 rfl dX7_roundOf_57 ?_
  refine k_callVr (n := 1) (As := [vN (r)]) (rest := []) hm hw hl (c_m_totalOf l G D sa pa pn tx tn rf ro wk mb so kd nu it ti rd ad R sp K w y r (by first | assumption | omega) (by first | assumption | omega)) gX7_roundOf_X7_totalOf rfl (by decide +kernel) ⟨by decide, by decide⟩ (ci := 7) rfl 0 rfl [0, 1, 2, 3, 4, 5, 6, 7, 8] (by decide) rfl rfl rfl (by simp [Value.category]) ⟨by decide, by decide⟩ dX7_roundOf_58 (fun v H locs hp hw => ?_)
  obtain rfl := hp
  refine W.eq (g2 := F0 m 61 ls [vN (sumM (K r) (w r))]) rfl ?_
  exact k_iret (post := _) hm hQ rfl rfl hw (⟨ro, wk, mb, rfl, rfl⟩) (by omega) (by omega) dX7_roundOf_61
set_option maxHeartbeats 4000000 in
set_option maxRecDepth 100000 in
theorem c_m_roundOf_1 (l : Launch) (G : kG) (D : Nat → Nat) (sa : Nat → Int64) (pa : Nat → Int64) (pn : Nat) (tx : Nat → Nat) (tn : Nat) (rf : Nat) (ro : Nat → Nat) (wk : Nat) (mb : Nat → Nat) (so : Nat) (kd : Nat → Nat) (nu : Nat → Nat) (it : Nat) (ti : Nat) (rd : Nat) (ad : Nat → Int64) (R : Nat) (sp : Bool) (K : Nat → Nat → Nat) (w : Nat → Nat) (y : Nat → Nat) (r : Nat) (hmo : MOk sa R sp K w y) (hr : r < R) : kCM l yX7_roundOf wsX7_roundOf 3 73 0 0 G [.ref (D 0), vN (r), vN (1)] (wMod G D sa pa pn tx tn rf ro wk mb so kd nu it ti rd ad) (fun vv uu => ∃ (ro2 : Nat → Nat), ∃ (wk2 : Nat), ∃ (mb2 : Nat → Nat), vv = some (vN (rvN K w y r 1)) ∧ uu = wMod G D sa pa pn tx tn rf ro2 wk2 mb2 so kd nu it ti rd ad) := by
  refine kCM.of (cc := cX7_roundOf) (maxL := 3) (ret := (some .int)) (by decide) rfl (Nat.le_of_ble_eq_true rfl) ?_
  intro p e s m args below meth c A ls Qz hQ hin hm hw hl
  have hl : lv_has ls 3 [(0, .ref (D 0)), (1, vN (r)), (2, vN (1))] := hl
  have hR := hmo.1.1
  have hb := hmo.1.2.1 r hr
  have h0 := tot0_rng hmo.1
  refine k_iload_n hm hl 2 rfl dX7_roundOf_0 ?_
  refine k_tsw (x := 1) (tgt := 62) hm dX7_roundOf_1 (by decide) (by decide) (by decide) rfl (by decide) ?_
  refine k_aload_n hm hl 0 rfl dX7_roundOf_62 ?_
  refine k_iload_n hm hl 1 rfl dX7_roundOf_63 ?_
  refine k_callVr (n := 1) (As := [vN (r)]) (rest := []) hm hw hl (c_m_worksOf l G D sa pa pn tx tn rf ro wk mb so kd nu it ti rd ad R sp K w y r (by first | assumption | omega) (by first | assumption | omega)) gX7_roundOf_X7_worksOf rfl (by decide +kernel) ⟨by decide, by decide⟩ (ci := 7) rfl 0 rfl [0, 1, 2, 3, 4, 5, 6, 7, 8] (by decide) rfl rfl rfl (by simp [Value.category]) ⟨by decide, by decide⟩ dX7_roundOf_64 (fun v H locs hp hw => ?_)
  obtain rfl := hp
  refine W.eq (g2 := F0 m 67 ls [vN (w r)]) rfl ?_
  exact k_iret (post := _) hm hQ rfl rfl hw (⟨ro, wk, mb, rfl, rfl⟩) (by omega) (by omega) dX7_roundOf_67
set_option maxHeartbeats 4000000 in
set_option maxRecDepth 100000 in
theorem c_m_roundOf_2 (l : Launch) (G : kG) (D : Nat → Nat) (sa : Nat → Int64) (pa : Nat → Int64) (pn : Nat) (tx : Nat → Nat) (tn : Nat) (rf : Nat) (ro : Nat → Nat) (wk : Nat) (mb : Nat → Nat) (so : Nat) (kd : Nat → Nat) (nu : Nat → Nat) (it : Nat) (ti : Nat) (rd : Nat) (ad : Nat → Int64) (R : Nat) (sp : Bool) (K : Nat → Nat → Nat) (w : Nat → Nat) (y : Nat → Nat) (r : Nat) (hmo : MOk sa R sp K w y) (hr : r < R) : kCM l yX7_roundOf wsX7_roundOf 3 73 0 0 G [.ref (D 0), vN (r), vN (2)] (wMod G D sa pa pn tx tn rf ro wk mb so kd nu it ti rd ad) (fun vv uu => ∃ (ro2 : Nat → Nat), ∃ (wk2 : Nat), ∃ (mb2 : Nat → Nat), vv = some (vN (rvN K w y r 2)) ∧ uu = wMod G D sa pa pn tx tn rf ro2 wk2 mb2 so kd nu it ti rd ad) := by
  refine kCM.of (cc := cX7_roundOf) (maxL := 3) (ret := (some .int)) (by decide) rfl (Nat.le_of_ble_eq_true rfl) ?_
  intro p e s m args below meth c A ls Qz hQ hin hm hw hl
  have hl : lv_has ls 3 [(0, .ref (D 0)), (1, vN (r)), (2, vN (2))] := hl
  have hR := hmo.1.1
  have hb := hmo.1.2.1 r hr
  have h0 := tot0_rng hmo.1
  refine k_iload_n hm hl 2 rfl dX7_roundOf_0 ?_
  refine k_tsw (x := 2) (tgt := 68) hm dX7_roundOf_1 (by decide) (by decide) (by decide) rfl (by decide) ?_
  refine k_aload_n hm hl 0 rfl dX7_roundOf_68 ?_
  refine k_iload_n hm hl 1 rfl dX7_roundOf_69 ?_
  refine k_iload_n hm hl 2 rfl dX7_roundOf_70 ?_
  refine k_iconstN hm 2 dX7_roundOf_71 ?_
  refine k_isubN hm (by omega) dX7_roundOf_72 ?_
  refine k_callVr (n := 2) (As := [vN (r), vN (2 - 2)]) (rest := []) hm hw hl (c_m_kinds l G D sa pa pn tx tn rf ro wk mb so kd nu it ti rd ad R sp K w y r (2 - 2) (by first | assumption | omega) (by first | assumption | omega) (by first | assumption | omega)) gX7_roundOf_X7_kinds rfl (by decide +kernel) ⟨by decide, by decide⟩ (ci := 7) rfl 0 rfl [0, 1, 2, 3, 4, 5, 6, 7, 8] (by decide) rfl rfl rfl (by simp [Value.category]) ⟨by decide, by decide⟩ dX7_roundOf_73 (fun v H locs hp hw => ?_)
  obtain rfl := hp
  refine W.eq (g2 := F0 m 76 ls [vN (cnt (K r) (2 - 2) (w r))]) rfl ?_
  exact k_iret (post := _) hm hQ rfl rfl hw (⟨ro, wk, mb, rfl, rfl⟩) (by omega) (by omega) dX7_roundOf_76
set_option maxHeartbeats 4000000 in
set_option maxRecDepth 100000 in
theorem c_m_roundOf_3 (l : Launch) (G : kG) (D : Nat → Nat) (sa : Nat → Int64) (pa : Nat → Int64) (pn : Nat) (tx : Nat → Nat) (tn : Nat) (rf : Nat) (ro : Nat → Nat) (wk : Nat) (mb : Nat → Nat) (so : Nat) (kd : Nat → Nat) (nu : Nat → Nat) (it : Nat) (ti : Nat) (rd : Nat) (ad : Nat → Int64) (R : Nat) (sp : Bool) (K : Nat → Nat → Nat) (w : Nat → Nat) (y : Nat → Nat) (r : Nat) (hmo : MOk sa R sp K w y) (hr : r < R) : kCM l yX7_roundOf wsX7_roundOf 3 73 0 0 G [.ref (D 0), vN (r), vN (3)] (wMod G D sa pa pn tx tn rf ro wk mb so kd nu it ti rd ad) (fun vv uu => ∃ (ro2 : Nat → Nat), ∃ (wk2 : Nat), ∃ (mb2 : Nat → Nat), vv = some (vN (rvN K w y r 3)) ∧ uu = wMod G D sa pa pn tx tn rf ro2 wk2 mb2 so kd nu it ti rd ad) := by
  refine kCM.of (cc := cX7_roundOf) (maxL := 3) (ret := (some .int)) (by decide) rfl (Nat.le_of_ble_eq_true rfl) ?_
  intro p e s m args below meth c A ls Qz hQ hin hm hw hl
  have hl : lv_has ls 3 [(0, .ref (D 0)), (1, vN (r)), (2, vN (3))] := hl
  have hR := hmo.1.1
  have hb := hmo.1.2.1 r hr
  have h0 := tot0_rng hmo.1
  refine k_iload_n hm hl 2 rfl dX7_roundOf_0 ?_
  refine k_tsw (x := 3) (tgt := 68) hm dX7_roundOf_1 (by decide) (by decide) (by decide) rfl (by decide) ?_
  refine k_aload_n hm hl 0 rfl dX7_roundOf_68 ?_
  refine k_iload_n hm hl 1 rfl dX7_roundOf_69 ?_
  refine k_iload_n hm hl 2 rfl dX7_roundOf_70 ?_
  refine k_iconstN hm 2 dX7_roundOf_71 ?_
  refine k_isubN hm (by omega) dX7_roundOf_72 ?_
  refine k_callVr (n := 2) (As := [vN (r), vN (3 - 2)]) (rest := []) hm hw hl (c_m_kinds l G D sa pa pn tx tn rf ro wk mb so kd nu it ti rd ad R sp K w y r (3 - 2) (by first | assumption | omega) (by first | assumption | omega) (by first | assumption | omega)) gX7_roundOf_X7_kinds rfl (by decide +kernel) ⟨by decide, by decide⟩ (ci := 7) rfl 0 rfl [0, 1, 2, 3, 4, 5, 6, 7, 8] (by decide) rfl rfl rfl (by simp [Value.category]) ⟨by decide, by decide⟩ dX7_roundOf_73 (fun v H locs hp hw => ?_)
  obtain rfl := hp
  refine W.eq (g2 := F0 m 76 ls [vN (cnt (K r) (3 - 2) (w r))]) rfl ?_
  exact k_iret (post := _) hm hQ rfl rfl hw (⟨ro, wk, mb, rfl, rfl⟩) (by omega) (by omega) dX7_roundOf_76
set_option maxHeartbeats 4000000 in
set_option maxRecDepth 100000 in
theorem c_m_roundOf_4 (l : Launch) (G : kG) (D : Nat → Nat) (sa : Nat → Int64) (pa : Nat → Int64) (pn : Nat) (tx : Nat → Nat) (tn : Nat) (rf : Nat) (ro : Nat → Nat) (wk : Nat) (mb : Nat → Nat) (so : Nat) (kd : Nat → Nat) (nu : Nat → Nat) (it : Nat) (ti : Nat) (rd : Nat) (ad : Nat → Int64) (R : Nat) (sp : Bool) (K : Nat → Nat → Nat) (w : Nat → Nat) (y : Nat → Nat) (r : Nat) (hmo : MOk sa R sp K w y) (hr : r < R) : kCM l yX7_roundOf wsX7_roundOf 3 73 0 0 G [.ref (D 0), vN (r), vN (4)] (wMod G D sa pa pn tx tn rf ro wk mb so kd nu it ti rd ad) (fun vv uu => ∃ (ro2 : Nat → Nat), ∃ (wk2 : Nat), ∃ (mb2 : Nat → Nat), vv = some (vN (rvN K w y r 4)) ∧ uu = wMod G D sa pa pn tx tn rf ro2 wk2 mb2 so kd nu it ti rd ad) := by
  refine kCM.of (cc := cX7_roundOf) (maxL := 3) (ret := (some .int)) (by decide) rfl (Nat.le_of_ble_eq_true rfl) ?_
  intro p e s m args below meth c A ls Qz hQ hin hm hw hl
  have hl : lv_has ls 3 [(0, .ref (D 0)), (1, vN (r)), (2, vN (4))] := hl
  have hR := hmo.1.1
  have hb := hmo.1.2.1 r hr
  have h0 := tot0_rng hmo.1
  refine k_iload_n hm hl 2 rfl dX7_roundOf_0 ?_
  refine k_tsw (x := 4) (tgt := 68) hm dX7_roundOf_1 (by decide) (by decide) (by decide) rfl (by decide) ?_
  refine k_aload_n hm hl 0 rfl dX7_roundOf_68 ?_
  refine k_iload_n hm hl 1 rfl dX7_roundOf_69 ?_
  refine k_iload_n hm hl 2 rfl dX7_roundOf_70 ?_
  refine k_iconstN hm 2 dX7_roundOf_71 ?_
  refine k_isubN hm (by omega) dX7_roundOf_72 ?_
  refine k_callVr (n := 2) (As := [vN (r), vN (4 - 2)]) (rest := []) hm hw hl (c_m_kinds l G D sa pa pn tx tn rf ro wk mb so kd nu it ti rd ad R sp K w y r (4 - 2) (by first | assumption | omega) (by first | assumption | omega) (by first | assumption | omega)) gX7_roundOf_X7_kinds rfl (by decide +kernel) ⟨by decide, by decide⟩ (ci := 7) rfl 0 rfl [0, 1, 2, 3, 4, 5, 6, 7, 8] (by decide) rfl rfl rfl (by simp [Value.category]) ⟨by decide, by decide⟩ dX7_roundOf_73 (fun v H locs hp hw => ?_)
  obtain rfl := hp
  refine W.eq (g2 := F0 m 76 ls [vN (cnt (K r) (4 - 2) (w r))]) rfl ?_
  exact k_iret (post := _) hm hQ rfl rfl hw (⟨ro, wk, mb, rfl, rfl⟩) (by omega) (by omega) dX7_roundOf_76
set_option maxHeartbeats 4000000 in
set_option maxRecDepth 100000 in
theorem c_m_roundOf_5 (l : Launch) (G : kG) (D : Nat → Nat) (sa : Nat → Int64) (pa : Nat → Int64) (pn : Nat) (tx : Nat → Nat) (tn : Nat) (rf : Nat) (ro : Nat → Nat) (wk : Nat) (mb : Nat → Nat) (so : Nat) (kd : Nat → Nat) (nu : Nat → Nat) (it : Nat) (ti : Nat) (rd : Nat) (ad : Nat → Int64) (R : Nat) (sp : Bool) (K : Nat → Nat → Nat) (w : Nat → Nat) (y : Nat → Nat) (r : Nat) (hmo : MOk sa R sp K w y) (hr : r < R) : kCM l yX7_roundOf wsX7_roundOf 3 73 0 0 G [.ref (D 0), vN (r), vN (5)] (wMod G D sa pa pn tx tn rf ro wk mb so kd nu it ti rd ad) (fun vv uu => ∃ (ro2 : Nat → Nat), ∃ (wk2 : Nat), ∃ (mb2 : Nat → Nat), vv = some (vN (rvN K w y r 5)) ∧ uu = wMod G D sa pa pn tx tn rf ro2 wk2 mb2 so kd nu it ti rd ad) := by
  refine kCM.of (cc := cX7_roundOf) (maxL := 3) (ret := (some .int)) (by decide) rfl (Nat.le_of_ble_eq_true rfl) ?_
  intro p e s m args below meth c A ls Qz hQ hin hm hw hl
  have hl : lv_has ls 3 [(0, .ref (D 0)), (1, vN (r)), (2, vN (5))] := hl
  have hR := hmo.1.1
  have hb := hmo.1.2.1 r hr
  have h0 := tot0_rng hmo.1
  refine k_iload_n hm hl 2 rfl dX7_roundOf_0 ?_
  refine k_tsw (x := 5) (tgt := 77) hm dX7_roundOf_1 (by decide) (by decide) (by decide) rfl (by decide) ?_
  refine k_aload_n hm hl 0 rfl dX7_roundOf_77 ?_
  refine k_iload_n hm hl 1 rfl dX7_roundOf_78 ?_
  refine k_callV (n := 1) (As := [vN (r)]) (rest := []) (wr := []) hm hw hl (c_m_stackedOf l G D sa pa pn tx tn rf ro wk mb so kd nu it ti rd ad R sp K w y r (by first | assumption | omega) (by first | assumption | omega)) gX7_roundOf_X7_stackedOf rfl (by decide +kernel) ⟨by decide, by decide⟩ (ci := 7) rfl 0 rfl [0, 1, 2, 3, 4, 5, 6, 7, 8] [] (by decide) rfl rfl (by decide) (by decide) rfl rfl (by simp [Value.category]) ⟨by decide, by decide⟩ dX7_roundOf_79 (fun v w1 H locs hp hw => ?_)
  obtain ⟨ro2_2, wk2_3, mb2_4, rfl, rfl⟩ := hp
  have hw := hw.sub (ws' := wMod G D sa pa pn tx tn rf ro2_2 wk2_3 mb2_4 so kd nu it ti rd ad) [0, 1, 2, 3, 4, 5, 6, 7, 8] (by decide) rfl
  refine W.eq (g2 := F0 m 82 ls [vN (stkP K w r)]) rfl ?_
  exact k_iret (post := _) hm hQ rfl rfl hw (⟨_, _, _, rfl, rfl⟩) (by omega) (by omega) dX7_roundOf_82
set_option maxHeartbeats 4000000 in
set_option maxRecDepth 100000 in
theorem c_m_roundOf_6 (l : Launch) (G : kG) (D : Nat → Nat) (sa : Nat → Int64) (pa : Nat → Int64) (pn : Nat) (tx : Nat → Nat) (tn : Nat) (rf : Nat) (ro : Nat → Nat) (wk : Nat) (mb : Nat → Nat) (so : Nat) (kd : Nat → Nat) (nu : Nat → Nat) (it : Nat) (ti : Nat) (rd : Nat) (ad : Nat → Int64) (R : Nat) (sp : Bool) (K : Nat → Nat → Nat) (w : Nat → Nat) (y : Nat → Nat) (r : Nat) (hmo : MOk sa R sp K w y) (hr : r < R) : kCM l yX7_roundOf wsX7_roundOf 3 73 0 0 G [.ref (D 0), vN (r), vN (6)] (wMod G D sa pa pn tx tn rf ro wk mb so kd nu it ti rd ad) (fun vv uu => ∃ (ro2 : Nat → Nat), ∃ (wk2 : Nat), ∃ (mb2 : Nat → Nat), vv = some (vN (rvN K w y r 6)) ∧ uu = wMod G D sa pa pn tx tn rf ro2 wk2 mb2 so kd nu it ti rd ad) := by
  refine kCM.of (cc := cX7_roundOf) (maxL := 3) (ret := (some .int)) (by decide) rfl (Nat.le_of_ble_eq_true rfl) ?_
  intro p e s m args below meth c A ls Qz hQ hin hm hw hl
  have hl : lv_has ls 3 [(0, .ref (D 0)), (1, vN (r)), (2, vN (6))] := hl
  have hR := hmo.1.1
  have hb := hmo.1.2.1 r hr
  have h0 := tot0_rng hmo.1
  refine k_iload_n hm hl 2 rfl dX7_roundOf_0 ?_
  refine k_tsw (x := 6) (tgt := 83) hm dX7_roundOf_1 (by decide) (by decide) (by decide) rfl (by decide) ?_
  refine k_aload_n hm hl 0 rfl dX7_roundOf_83 ?_
  refine k_iload_n hm hl 1 rfl dX7_roundOf_84 ?_
  refine k_callVr (n := 1) (As := [vN (r)]) (rest := []) hm hw hl (c_m_isMirrored l G D sa pa pn tx tn rf ro wk mb so kd nu it ti rd ad R sp K w y r (by first | assumption | omega) (by first | assumption | omega)) gX7_roundOf_X7_isMirrored rfl (by decide +kernel) ⟨by decide, by decide⟩ (ci := 7) rfl 0 rfl [0, 1, 2, 3, 4, 5, 6, 7, 8] (by decide) rfl rfl rfl (by simp [Value.category]) ⟨by decide, by decide⟩ dX7_roundOf_85 (fun v H locs hp hw => ?_)
  obtain ⟨b_2, rfl, hb_3⟩ := hp
  refine W.eq (g2 := F0 m 88 ls [vB (b_2)]) rfl ?_
  have hfx := hb_3
  refine k_ifeqB (tgt := 95) hm dX7_roundOf_88 (by decide) (fun c_4 => ?_) (fun c_4 => ?_)
  · refine k_iconstN hm 0 dX7_roundOf_95 ?_
    exact k_iret (post := _) hm hQ rfl rfl hw (⟨ro, wk, mb, by show _ = some (vN (miN (K r) (w r))); rw [miN_of hfx, if_neg (by rw [c_4]; decide)], rfl⟩) (by omega) (by omega) dX7_roundOf_96
  · refine k_iconstN hm 1 dX7_roundOf_91 ?_
    refine k_goto (tgt := 96) hm dX7_roundOf_92 (by decide) ?_
    exact k_iret (post := _) hm hQ rfl rfl hw (⟨ro, wk, mb, by show _ = some (vN (miN (K r) (w r))); rw [miN_of hfx, if_pos c_4], rfl⟩) (by omega) (by omega) dX7_roundOf_96
set_option maxHeartbeats 4000000 in
set_option maxRecDepth 100000 in
theorem c_m_roundOf_7 (l : Launch) (G : kG) (D : Nat → Nat) (sa : Nat → Int64) (pa : Nat → Int64) (pn : Nat) (tx : Nat → Nat) (tn : Nat) (rf : Nat) (ro : Nat → Nat) (wk : Nat) (mb : Nat → Nat) (so : Nat) (kd : Nat → Nat) (nu : Nat → Nat) (it : Nat) (ti : Nat) (rd : Nat) (ad : Nat → Int64) (R : Nat) (sp : Bool) (K : Nat → Nat → Nat) (w : Nat → Nat) (y : Nat → Nat) (r : Nat) (hmo : MOk sa R sp K w y) (hr : r < R) : kCM l yX7_roundOf wsX7_roundOf 3 73 0 0 G [.ref (D 0), vN (r), vN (7)] (wMod G D sa pa pn tx tn rf ro wk mb so kd nu it ti rd ad) (fun vv uu => ∃ (ro2 : Nat → Nat), ∃ (wk2 : Nat), ∃ (mb2 : Nat → Nat), vv = some (vN (rvN K w y r 7)) ∧ uu = wMod G D sa pa pn tx tn rf ro2 wk2 mb2 so kd nu it ti rd ad) := by
  refine kCM.of (cc := cX7_roundOf) (maxL := 3) (ret := (some .int)) (by decide) rfl (Nat.le_of_ble_eq_true rfl) ?_
  intro p e s m args below meth c A ls Qz hQ hin hm hw hl
  have hl : lv_has ls 3 [(0, .ref (D 0)), (1, vN (r)), (2, vN (7))] := hl
  have hR := hmo.1.1
  have hb := hmo.1.2.1 r hr
  have h0 := tot0_rng hmo.1
  refine k_iload_n hm hl 2 rfl dX7_roundOf_0 ?_
  refine k_tsw (x := 7) (tgt := 97) hm dX7_roundOf_1 (by decide) (by decide) (by decide) rfl (by decide) ?_
  refine k_aload_n hm hl 0 rfl dX7_roundOf_97 ?_
  refine k_iload_n hm hl 1 rfl dX7_roundOf_98 ?_
  refine k_callVr (n := 1) (As := [vN (r)]) (rest := []) hm hw hl (c_m_yarnOf l G D sa pa pn tx tn rf ro wk mb so kd nu it ti rd ad R sp K w y r (by first | assumption | omega) (by first | assumption | omega)) gX7_roundOf_X7_yarnOf rfl (by decide +kernel) ⟨by decide, by decide⟩ (ci := 7) rfl 0 rfl [0, 1, 2, 3, 4, 5, 6, 7, 8] (by decide) rfl rfl rfl (by simp [Value.category]) ⟨by decide, by decide⟩ dX7_roundOf_99 (fun v H locs hp hw => ?_)
  obtain rfl := hp
  refine W.eq (g2 := F0 m 102 ls [vN (yrn y (K r) (w r))]) rfl ?_
  exact k_iret (post := _) hm hQ rfl rfl hw (⟨ro, wk, mb, rfl, rfl⟩) (by omega) (by omega) dX7_roundOf_102
set_option maxHeartbeats 4000000 in
set_option maxRecDepth 100000 in
theorem c_m_roundOf_8 (l : Launch) (G : kG) (D : Nat → Nat) (sa : Nat → Int64) (pa : Nat → Int64) (pn : Nat) (tx : Nat → Nat) (tn : Nat) (rf : Nat) (ro : Nat → Nat) (wk : Nat) (mb : Nat → Nat) (so : Nat) (kd : Nat → Nat) (nu : Nat → Nat) (it : Nat) (ti : Nat) (rd : Nat) (ad : Nat → Int64) (R : Nat) (sp : Bool) (K : Nat → Nat → Nat) (w : Nat → Nat) (y : Nat → Nat) (r : Nat) (hmo : MOk sa R sp K w y) (hr : r < R) : kCM l yX7_roundOf wsX7_roundOf 3 73 0 0 G [.ref (D 0), vN (r), vN (8)] (wMod G D sa pa pn tx tn rf ro wk mb so kd nu it ti rd ad) (fun vv uu => ∃ (ro2 : Nat → Nat), ∃ (wk2 : Nat), ∃ (mb2 : Nat → Nat), vv = some (vN (rvN K w y r 8)) ∧ uu = wMod G D sa pa pn tx tn rf ro2 wk2 mb2 so kd nu it ti rd ad) := by
  refine kCM.of (cc := cX7_roundOf) (maxL := 3) (ret := (some .int)) (by decide) rfl (Nat.le_of_ble_eq_true rfl) ?_
  intro p e s m args below meth c A ls Qz hQ hin hm hw hl
  have hl : lv_has ls 3 [(0, .ref (D 0)), (1, vN (r)), (2, vN (8))] := hl
  have hR := hmo.1.1
  have hb := hmo.1.2.1 r hr
  have h0 := tot0_rng hmo.1
  refine k_iload_n hm hl 2 rfl dX7_roundOf_0 ?_
  refine k_tsw (x := 8) (tgt := 103) hm dX7_roundOf_1 (by decide) (by decide) (by decide) rfl (by decide) ?_
  refine k_aload_n hm hl 0 rfl dX7_roundOf_103 ?_
  refine k_iload_n hm hl 1 rfl dX7_roundOf_104 ?_
  refine k_iconstN hm 1 dX7_roundOf_105 ?_
  refine k_callVr (n := 2) (As := [vN (r), vN (1)]) (rest := []) hm hw hl (c_m_distance l G D sa pa pn tx tn rf ro wk mb so kd nu it ti rd ad R sp K w y r true (by first | assumption | omega) (by first | assumption | omega)) gX7_roundOf_X7_distance rfl (by decide +kernel) ⟨by decide, by decide⟩ (ci := 7) rfl 0 rfl [0, 1, 2, 3, 4, 5, 6, 7, 8] (by decide) rfl rfl rfl (by simp [Value.category]) ⟨by decide, by decide⟩ dX7_roundOf_106 (fun v H locs hp hw => ?_)
  obtain rfl := hp
  refine W.eq (g2 := F0 m 109 ls [vN (dsF (K r) (w r) true)]) rfl ?_
  exact k_iret (post := _) hm hQ rfl rfl hw (⟨ro, wk, mb, rfl, rfl⟩) (by omega) (by omega) dX7_roundOf_109
set_option maxHeartbeats 4000000 in
set_option maxRecDepth 100000 in
theorem c_m_roundOf_9 (l : Launch) (G : kG) (D : Nat → Nat) (sa : Nat → Int64) (pa : Nat → Int64) (pn : Nat) (tx : Nat → Nat) (tn : Nat) (rf : Nat) (ro : Nat → Nat) (wk : Nat) (mb : Nat → Nat) (so : Nat) (kd : Nat → Nat) (nu : Nat → Nat) (it : Nat) (ti : Nat) (rd : Nat) (ad : Nat → Int64) (R : Nat) (sp : Bool) (K : Nat → Nat → Nat) (w : Nat → Nat) (y : Nat → Nat) (r : Nat) (hmo : MOk sa R sp K w y) (hr : r < R) : kCM l yX7_roundOf wsX7_roundOf 3 73 0 0 G [.ref (D 0), vN (r), vN (9)] (wMod G D sa pa pn tx tn rf ro wk mb so kd nu it ti rd ad) (fun vv uu => ∃ (ro2 : Nat → Nat), ∃ (wk2 : Nat), ∃ (mb2 : Nat → Nat), vv = some (vN (rvN K w y r 9)) ∧ uu = wMod G D sa pa pn tx tn rf ro2 wk2 mb2 so kd nu it ti rd ad) := by
  refine kCM.of (cc := cX7_roundOf) (maxL := 3) (ret := (some .int)) (by decide) rfl (Nat.le_of_ble_eq_true rfl) ?_
  intro p e s m args below meth c A ls Qz hQ hin hm hw hl
  have hl : lv_has ls 3 [(0, .ref (D 0)), (1, vN (r)), (2, vN (9))] := hl
  have hR := hmo.1.1
  have hb := hmo.1.2.1 r hr
  have h0 := tot0_rng hmo.1
  refine k_iload_n hm hl 2 rfl dX7_roundOf_0 ?_
  refine k_tsw (x := 9) (tgt := 110) hm dX7_roundOf_1 (by decide) (by decide) (by decide) rfl (by decide) ?_
  refine k_aload_n hm hl 0 rfl dX7_roundOf_110 ?_
  refine k_iload_n hm hl 1 rfl dX7_roundOf_111 ?_
  refine k_iconstN hm 0 dX7_roundOf_112 ?_
  refine k_callVr (n := 2) (As := [vN (r), vN (0)]) (rest := []) hm hw hl (c_m_distance l G D sa pa pn tx tn rf ro wk mb so kd nu it ti rd ad R sp K w y r false (by first | assumption | omega) (by first | assumption | omega)) gX7_roundOf_X7_distance rfl (by decide +kernel) ⟨by decide, by decide⟩ (ci := 7) rfl 0 rfl [0, 1, 2, 3, 4, 5, 6, 7, 8] (by decide) rfl rfl rfl (by simp [Value.category]) ⟨by decide, by decide⟩ dX7_roundOf_113 (fun v H locs hp hw => ?_)
  obtain rfl := hp
  refine W.eq (g2 := F0 m 116 ls [vN (dsF (K r) (w r) false)]) rfl ?_
  exact k_iret (post := _) hm hQ rfl rfl hw (⟨ro, wk, mb, rfl, rfl⟩) (by omega) (by omega) dX7_roundOf_116
set_option maxHeartbeats 4000000 in
set_option maxRecDepth 100000 in
theorem c_m_roundOf_10 (l : Launch) (G : kG) (D : Nat → Nat) (sa : Nat → Int64) (pa : Nat → Int64) (pn : Nat) (tx : Nat → Nat) (tn : Nat) (rf : Nat) (ro : Nat → Nat) (wk : Nat) (mb : Nat → Nat) (so : Nat) (kd : Nat → Nat) (nu : Nat → Nat) (it : Nat) (ti : Nat) (rd : Nat) (ad : Nat → Int64) (R : Nat) (sp : Bool) (K : Nat → Nat → Nat) (w : Nat → Nat) (y : Nat → Nat) (r : Nat) (hmo : MOk sa R sp K w y) (hr : r < R) : kCM l yX7_roundOf wsX7_roundOf 3 73 0 0 G [.ref (D 0), vN (r), vN (10)] (wMod G D sa pa pn tx tn rf ro wk mb so kd nu it ti rd ad) (fun vv uu => ∃ (ro2 : Nat → Nat), ∃ (wk2 : Nat), ∃ (mb2 : Nat → Nat), vv = some (vZ (rv K w y r 10)) ∧ uu = wMod G D sa pa pn tx tn rf ro2 wk2 mb2 so kd nu it ti rd ad) := by
  refine kCM.of (cc := cX7_roundOf) (maxL := 3) (ret := (some .int)) (by decide) rfl (Nat.le_of_ble_eq_true rfl) ?_
  intro p e s m args below meth c A ls Qz hQ hin hm hw hl
  have hl : lv_has ls 3 [(0, .ref (D 0)), (1, vN (r)), (2, vN (10))] := hl
  have hR := hmo.1.1
  have hb := hmo.1.2.1 r hr
  have h0 := tot0_rng hmo.1
  refine k_iload_n hm hl 2 rfl dX7_roundOf_0 ?_
  refine k_tsd (x := 10) (tgt := 117) hm dX7_roundOf_1 (by decide) (by decide) (by decide) ?_
  refine k_aload_n hm hl 0 rfl dX7_roundOf_117 ?_
  refine k_iload_n hm hl 1 rfl dX7_roundOf_118 ?_
  refine k_callVr (n := 1) (As := [vN (r)]) (rest := []) hm hw hl (c_m_totalOf l G D sa pa pn tx tn rf ro wk mb so kd nu it ti rd ad R sp K w y r (by first | assumption | omega) (by first | assumption | omega)) gX7_roundOf_X7_totalOf rfl (by decide +kernel) ⟨by decide, by decide⟩ (ci := 7) rfl 0 rfl [0, 1, 2, 3, 4, 5, 6, 7, 8] (by decide) rfl rfl rfl (by simp [Value.category]) ⟨by decide, by decide⟩ dX7_roundOf_119 (fun v H locs hp hw => ?_)
  obtain rfl := hp
  refine W.eq (g2 := F0 m 122 ls [vN (sumM (K r) (w r))]) rfl ?_
  refine k_aload_n hm hl 0 rfl dX7_roundOf_122 ?_
  refine k_iconstN hm 0 dX7_roundOf_123 ?_
  refine k_callVr (n := 1) (As := [vN (0)]) (rest := [vN (sumM (K r) (w r))]) hm hw hl (c_m_worksOf l G D sa pa pn tx tn rf ro wk mb so kd nu it ti rd ad R sp K w y 0 (by first | assumption | omega) (by first | assumption | omega)) gX7_roundOf_X7_worksOf rfl (by decide +kernel) ⟨by decide, by decide⟩ (ci := 7) rfl 0 rfl [0, 1, 2, 3, 4, 5, 6, 7, 8] (by decide) rfl rfl rfl (by simp [Value.category]) ⟨by decide, by decide⟩ dX7_roundOf_124 (fun v H locs hp hw => ?_)
  obtain rfl := hp
  refine W.eq (g2 := F0 m 127 ls [vN (w 0), vN (sumM (K r) (w r))]) rfl ?_
  refine k_rwV (y := vN (sumM (K 0) (w 0))) (by rw [tot0 hmo.1]) ?_
  refine k_iload_n hm hl 1 rfl dX7_roundOf_127 ?_
  refine k_iconstN hm 1 dX7_roundOf_128 ?_
  refine k_iaddN hm dX7_roundOf_129 ?_
  refine k_imulN hm dX7_roundOf_130 ?_
  refine k_isub hm dX7_roundOf_131 ?_
  exact k_iret (post := _) hm hQ rfl rfl hw (⟨ro, wk, mb, rfl, rfl⟩) (by omega) (by omega) dX7_roundOf_132
set_option maxHeartbeats 4000000 in
set_option maxRecDepth 100000 in
theorem c_m_roundOf (l : Launch) (G : kG) (D : Nat → Nat) (sa : Nat → Int64) (pa : Nat → Int64) (pn : Nat) (tx : Nat → Nat) (tn : Nat) (rf : Nat) (ro : Nat → Nat) (wk : Nat) (mb : Nat → Nat) (so : Nat) (kd : Nat → Nat) (nu : Nat → Nat) (it : Nat) (ti : Nat) (rd : Nat) (ad : Nat → Int64) (R : Nat) (sp : Bool) (K : Nat → Nat → Nat) (w : Nat → Nat) (y : Nat → Nat) (r : Nat) (x : Nat) (hmo : MOk sa R sp K w y) (hr : r < R) (hx : x ≤ 10) : kCM l yX7_roundOf wsX7_roundOf 3 73 0 0 G [.ref (D 0), vN (r), vN (x)] (wMod G D sa pa pn tx tn rf ro wk mb so kd nu it ti rd ad) (fun vv uu => ∃ (ro2 : Nat → Nat), ∃ (wk2 : Nat), ∃ (mb2 : Nat → Nat), vv = some (vZ (rv K w y r x)) ∧ uu = wMod G D sa pa pn tx tn rf ro2 wk2 mb2 so kd nu it ti rd ad) := by
  rcases (show x = 0 ∨ x = 1 ∨ x = 2 ∨ x = 3 ∨ x = 4 ∨ x = 5 ∨ x = 6 ∨ x = 7 ∨ x = 8 ∨ x = 9 ∨ x = 10 by omega) with rfl | rfl | rfl | rfl | rfl | rfl | rfl | rfl | rfl | rfl | rfl
  · refine (c_m_roundOf_0 l G D sa pa pn tx tn rf ro wk mb so kd nu it ti rd ad R sp K w y r hmo hr).post ?_
    rintro v u ⟨a, b, d, rfl, rfl⟩
    exact ⟨a, b, d, by rw [rv_lt (by decide)], rfl⟩
  · refine (c_m_roundOf_1 l G D sa pa pn tx tn rf ro wk mb so kd nu it ti rd ad R sp K w y r hmo hr).post ?_
    rintro v u ⟨a, b, d, rfl, rfl⟩
    exact ⟨a, b, d, by rw [rv_lt (by decide)], rfl⟩
  · refine (c_m_roundOf_2 l G D sa pa pn tx tn rf ro wk mb so kd nu it ti rd ad R sp K w y r hmo hr).post ?_
    rintro v u ⟨a, b, d, rfl, rfl⟩
    exact ⟨a, b, d, by rw [rv_lt (by decide)], rfl⟩
  · refine (c_m_roundOf_3 l G D sa pa pn tx tn rf ro wk mb so kd nu it ti rd ad R sp K w y r hmo hr).post ?_
    rintro v u ⟨a, b, d, rfl, rfl⟩
    exact ⟨a, b, d, by rw [rv_lt (by decide)], rfl⟩
  · refine (c_m_roundOf_4 l G D sa pa pn tx tn rf ro wk mb so kd nu it ti rd ad R sp K w y r hmo hr).post ?_
    rintro v u ⟨a, b, d, rfl, rfl⟩
    exact ⟨a, b, d, by rw [rv_lt (by decide)], rfl⟩
  · refine (c_m_roundOf_5 l G D sa pa pn tx tn rf ro wk mb so kd nu it ti rd ad R sp K w y r hmo hr).post ?_
    rintro v u ⟨a, b, d, rfl, rfl⟩
    exact ⟨a, b, d, by rw [rv_lt (by decide)], rfl⟩
  · refine (c_m_roundOf_6 l G D sa pa pn tx tn rf ro wk mb so kd nu it ti rd ad R sp K w y r hmo hr).post ?_
    rintro v u ⟨a, b, d, rfl, rfl⟩
    exact ⟨a, b, d, by rw [rv_lt (by decide)], rfl⟩
  · refine (c_m_roundOf_7 l G D sa pa pn tx tn rf ro wk mb so kd nu it ti rd ad R sp K w y r hmo hr).post ?_
    rintro v u ⟨a, b, d, rfl, rfl⟩
    exact ⟨a, b, d, by rw [rv_lt (by decide)], rfl⟩
  · refine (c_m_roundOf_8 l G D sa pa pn tx tn rf ro wk mb so kd nu it ti rd ad R sp K w y r hmo hr).post ?_
    rintro v u ⟨a, b, d, rfl, rfl⟩
    exact ⟨a, b, d, by rw [rv_lt (by decide)], rfl⟩
  · refine (c_m_roundOf_9 l G D sa pa pn tx tn rf ro wk mb so kd nu it ti rd ad R sp K w y r hmo hr).post ?_
    rintro v u ⟨a, b, d, rfl, rfl⟩
    exact ⟨a, b, d, by rw [rv_lt (by decide)], rfl⟩
  · refine (c_m_roundOf_10 l G D sa pa pn tx tn rf ro wk mb so kd nu it ti rd ad R sp K w y r hmo hr).post ?_
    rintro v u ⟨a, b, d, rfl, rfl⟩
    exact ⟨a, b, d, rfl, rfl⟩
set_option maxHeartbeats 4000000 in
set_option maxRecDepth 100000 in
theorem c_m_sumOf_0 (l : Launch) (G : kG) (D : Nat → Nat) (sa : Nat → Int64) (pa : Nat → Int64) (pn : Nat) (tx : Nat → Nat) (tn : Nat) (rf : Nat) (ro : Nat → Nat) (wk : Nat) (mb : Nat → Nat) (so : Nat) (kd : Nat → Nat) (nu : Nat → Nat) (it : Nat) (ti : Nat) (rd : Nat) (ad : Nat → Int64) (R : Nat) (sp : Bool) (K : Nat → Nat → Nat) (w : Nat → Nat) (y : Nat → Nat) (hmo : MOk sa R sp K w y) : kCM l yX7_sumOf wsX7_sumOf 4 95 0 0 G [.ref (D 0), vN (0)] (wMod G D sa pa pn tx tn rf ro wk mb so kd nu it ti rd ad) (fun vv uu => ∃ (ro2 : Nat → Nat), ∃ (wk2 : Nat), ∃ (mb2 : Nat → Nat), vv = some (vN (sumR K w y 0 R)) ∧ uu = wMod G D sa pa pn tx tn rf ro2 wk2 mb2 so kd nu it ti rd ad) := by
  refine kCM.of (cc := cX7_sumOf) (maxL := 4) (ret := (some .int)) (by decide) rfl (Nat.le_of_ble_eq_true rfl) ?_
  intro p e s m args below meth c A ls Qz hQ hin hm hw hl
  have hl : lv_has ls 4 [(0, .ref (D 0)), (1, vN (0))] := hl
  have hR := hmo.1.1
  refine k_iconstN hm 0 dX7_sumOf_0 ?_
  refine k_istore_n hm hl [(2, vN (0)), (0, .ref (D 0)), (1, vN (0))] (by decide) rfl dX7_sumOf_1 (fun ls hl => ?_)
  refine k_iconstN hm 0 dX7_sumOf_2 ?_
  refine k_istore_n hm hl [(3, vN (0)), (2, vN (0)), (0, .ref (D 0)), (1, vN (0))] (by decide) rfl dX7_sumOf_3 (fun ls hl => ?_)
  have loop_4 : ∀ (fu : Nat) (t : Nat) (i : Nat) (ro1 : Nat → Nat) (wk1 : Nat) (mb1 : Nat → Nat) (hi : i ≤ R) (ht : t = sumR K w y 0 i) (H : Heap) (locs : List Loc) (ls : Array Slot), R - i < fu → kW G A s (wMod G D sa pa pn tx tn rf ro1 wk1 mb1 so kd nu it ti rd ad) H locs → lv_has ls 4 [(0, .ref (D 0)), (1, vN (0)), (2, vN (t)), (3, vN (i))] → W p l e { frames := 4, cells := 0, slots := 0, locals := 95 } s m args below meth c H locs 0 0 Qz (F0 m 4 ls []) := by
    intro fu
    induction fu with
    | zero => intro t i ro1 wk1 mb1 hi ht H locs ls hfu; exact absurd hfu (Nat.not_lt_zero _)
    | succ fu ih_4 =>
      intro t i ro1 wk1 mb1 hi ht H locs ls hfu hw hl
      refine k_iload_n hm hl 3 rfl dX7_sumOf_4 ?_
      refine k_aload_n hm hl 0 rfl dX7_sumOf_5 ?_
      refine k_callVr (n := 0) (As := []) (rest := [vN (i)]) hm hw hl (c_m_rounds l G D sa pa pn tx tn rf ro1 wk1 mb1 so kd nu it ti rd ad R sp K w y (by first | assumption | omega)) gX7_sumOf_X7_rounds rfl (by decide +kernel) ⟨by decide, by decide⟩ (ci := 7) rfl 0 rfl [0, 1, 2, 3, 4, 5, 6, 7, 8] (by decide) rfl rfl rfl (by simp [Value.category]) ⟨by decide, by decide⟩ dX7_sumOf_6 (fun v H locs hp hw => ?_)
      obtain rfl := hp
      refine W.eq (g2 := F0 m 9 ls [vN (R), vN (i)]) rfl ?_
      refine k_icmpge (tgt := 27) hm dX7_sumOf_9 (by decide) (by omega) (fun c_2 => ?_) (fun c_2 => ?_)
      · refine k_iload_n hm hl 2 rfl dX7_sumOf_27 ?_
        exact k_iret (post := _) hm hQ rfl rfl hw (⟨ro1, wk1, mb1, by rw [ht, show i = R by omega], rfl⟩) (by omega) (by omega) dX7_sumOf_28
      · refine k_iload_n hm hl 2 rfl dX7_sumOf_12 ?_
        refine k_aload_n hm hl 0 rfl dX7_sumOf_13 ?_
        refine k_iload_n hm hl 3 rfl dX7_sumOf_14 ?_
        refine k_iload_n hm hl 1 rfl dX7_sumOf_15 ?_
        refine k_callV (n := 2) (As := [vN (i), vN (0)]) (rest := [vN (t)]) (wr := []) hm hw hl (c_m_roundOf_0 l G D sa pa pn tx tn rf ro1 wk1 mb1 so kd nu it ti rd ad R sp K w y i (by first | assumption | omega) (by first | assumption | omega)) gX7_sumOf_X7_roundOf rfl (by decide +kernel) ⟨by decide, by decide⟩ (ci := 7) rfl 0 rfl [0, 1, 2, 3, 4, 5, 6, 7, 8] [] (by decide) rfl rfl (by decide) (by decide) rfl rfl (by simp [Value.category]) ⟨by decide, by decide⟩ dX7_sumOf_16 (fun v w1 H locs hp hw => ?_)
        obtain ⟨ro2_4, wk2_5, mb2_6, rfl, rfl⟩ := hp
        have hw := hw.sub (ws' := wMod G D sa pa pn tx tn rf ro2_4 wk2_5 mb2_6 so kd nu it ti rd ad) [0, 1, 2, 3, 4, 5, 6, 7, 8] (by decide) rfl
        refine W.eq (g2 := F0 m 19 ls [vN (rvN K w y i 0), vN (t)]) rfl ?_
        refine k_iaddN hm dX7_sumOf_19 ?_
        refine k_istore_n hm hl [(2, vN (t + (rvN K w y i 0))), (0, .ref (D 0)), (1, vN (0)), (3, vN (i))] (by decide) rfl dX7_sumOf_20 (fun ls hl => ?_)
        refine k_iincN hm hl 3 1 rfl [(3, vN (i + 1)), (2, vN (t + (rvN K w y i 0))), (0, .ref (D 0)), (1, vN (0))] (by decide) rfl dX7_sumOf_21 (fun ls hl => ?_)
        refine k_goto (tgt := 4) hm dX7_sumOf_24 (by decide) ?_
        exact ih_4  (t + (rvN K w y i 0)) (i + 1) ro2_4 wk2_5 mb2_6 (by first | assumption | omega) (by simp only [sumR]; omega) _ _ _ (by omega) hw (lv_sub hl [2, 3, 1, 0] rfl)
  exact loop_4 (R - 0 + 1) 0 0 ro wk mb (by first | assumption | omega) rfl _ _ _ (Nat.lt_succ_self _) hw (lv_sub hl [2, 3, 1, 0] rfl)
set_option maxHeartbeats 4000000 in
set_option maxRecDepth 100000 in
theorem c_m_sumOf_5 (l : Launch) (G : kG) (D : Nat → Nat) (sa : Nat → Int64) (pa : Nat → Int64) (pn : Nat) (tx : Nat → Nat) (tn : Nat) (rf : Nat) (ro : Nat → Nat) (wk : Nat) (mb : Nat → Nat) (so : Nat) (kd : Nat → Nat) (nu : Nat → Nat) (it : Nat) (ti : Nat) (rd : Nat) (ad : Nat → Int64) (R : Nat) (sp : Bool) (K : Nat → Nat → Nat) (w : Nat → Nat) (y : Nat → Nat) (hmo : MOk sa R sp K w y) : kCM l yX7_sumOf wsX7_sumOf 4 95 0 0 G [.ref (D 0), vN (5)] (wMod G D sa pa pn tx tn rf ro wk mb so kd nu it ti rd ad) (fun vv uu => ∃ (ro2 : Nat → Nat), ∃ (wk2 : Nat), ∃ (mb2 : Nat → Nat), vv = some (vN (sumR K w y 5 R)) ∧ uu = wMod G D sa pa pn tx tn rf ro2 wk2 mb2 so kd nu it ti rd ad) := by
  refine kCM.of (cc := cX7_sumOf) (maxL := 4) (ret := (some .int)) (by decide) rfl (Nat.le_of_ble_eq_true rfl) ?_
  intro p e s m args below meth c A ls Qz hQ hin hm hw hl
  have hl : lv_has ls 4 [(0, .ref (D 0)), (1, vN (5))] := hl
  have hR := hmo.1.1
  refine k_iconstN hm 0 dX7_sumOf_0 ?_
  refine k_istore_n hm hl [(2, vN (0)), (0, .ref (D 0)), (1, vN (5))] (by decide) rfl dX7_sumOf_1 (fun ls hl => ?_)
  refine k_iconstN hm 0 dX7_sumOf_2 ?_
  refine k_istore_n hm hl [(3, vN (0)), (2, vN (0)), (0, .ref (D 0)), (1, vN (5))] (by decide) rfl dX7_sumOf_3 (fun ls hl => ?_)
  have loop_4 : ∀ (fu : Nat) (t : Nat) (i : Nat) (ro1 : Nat → Nat) (wk1 : Nat) (mb1 : Nat → Nat) (hi : i ≤ R) (ht : t = sumR K w y 5 i) (H : Heap) (locs : List Loc) (ls : Array Slot), R - i < fu → kW G A s (wMod G D sa pa pn tx tn rf ro1 wk1 mb1 so kd nu it ti rd ad) H locs → lv_has ls 4 [(0, .ref (D 0)), (1, vN (5)), (2, vN (t)), (3, vN (i))] → W p l e { frames := 4, cells := 0, slots := 0, locals := 95 } s m args below meth c H locs 0 0 Qz (F0 m 4 ls []) := by
    intro fu
    induction fu with
    | zero => intro t i ro1 wk1 mb1 hi ht H locs ls hfu; exact absurd hfu (Nat.not_lt_zero _)
    | succ fu ih_4 =>
      intro t i ro1 wk1 mb1 hi ht H locs ls hfu hw hl
      refine k_iload_n hm hl 3 rfl dX7_sumOf_4 ?_
      refine k_aload_n hm hl 0 rfl dX7_sumOf_5 ?_
      refine k_callVr (n := 0) (As := []) (rest := [vN (i)]) hm hw hl (c_m_rounds l G D sa pa pn tx tn rf ro1 wk1 mb1 so kd nu it ti rd ad R sp K w y (by first | assumption | omega)) gX7_sumOf_X7_rounds rfl (by decide +kernel) ⟨by decide, by decide⟩ (ci := 7) rfl 0 rfl [0, 1, 2, 3, 4, 5, 6, 7, 8] (by decide) rfl rfl rfl (by simp [Value.category]) ⟨by decide, by decide⟩ dX7_sumOf_6 (fun v H locs hp hw => ?_)
      obtain rfl := hp
      refine W.eq (g2 := F0 m 9 ls [vN (R), vN (i)]) rfl ?_
      refine k_icmpge (tgt := 27) hm dX7_sumOf_9 (by decide) (by omega) (fun c_2 => ?_) (fun c_2 => ?_)
      · refine k_iload_n hm hl 2 rfl dX7_sumOf_27 ?_
        exact k_iret (post := _) hm hQ rfl rfl hw (⟨ro1, wk1, mb1, by rw [ht, show i = R by omega], rfl⟩) (by omega) (by omega) dX7_sumOf_28
      · refine k_iload_n hm hl 2 rfl dX7_sumOf_12 ?_
        refine k_aload_n hm hl 0 rfl dX7_sumOf_13 ?_
        refine k_iload_n hm hl 3 rfl dX7_sumOf_14 ?_
        refine k_iload_n hm hl 1 rfl dX7_sumOf_15 ?_
        refine k_callV (n := 2) (As := [vN (i), vN (5)]) (rest := [vN (t)]) (wr := []) hm hw hl (c_m_roundOf_5 l G D sa pa pn tx tn rf ro1 wk1 mb1 so kd nu it ti rd ad R sp K w y i (by first | assumption | omega) (by first | assumption | omega)) gX7_sumOf_X7_roundOf rfl (by decide +kernel) ⟨by decide, by decide⟩ (ci := 7) rfl 0 rfl [0, 1, 2, 3, 4, 5, 6, 7, 8] [] (by decide) rfl rfl (by decide) (by decide) rfl rfl (by simp [Value.category]) ⟨by decide, by decide⟩ dX7_sumOf_16 (fun v w1 H locs hp hw => ?_)
        obtain ⟨ro2_4, wk2_5, mb2_6, rfl, rfl⟩ := hp
        have hw := hw.sub (ws' := wMod G D sa pa pn tx tn rf ro2_4 wk2_5 mb2_6 so kd nu it ti rd ad) [0, 1, 2, 3, 4, 5, 6, 7, 8] (by decide) rfl
        refine W.eq (g2 := F0 m 19 ls [vN (rvN K w y i 5), vN (t)]) rfl ?_
        refine k_iaddN hm dX7_sumOf_19 ?_
        refine k_istore_n hm hl [(2, vN (t + (rvN K w y i 5))), (0, .ref (D 0)), (1, vN (5)), (3, vN (i))] (by decide) rfl dX7_sumOf_20 (fun ls hl => ?_)
        refine k_iincN hm hl 3 1 rfl [(3, vN (i + 1)), (2, vN (t + (rvN K w y i 5))), (0, .ref (D 0)), (1, vN (5))] (by decide) rfl dX7_sumOf_21 (fun ls hl => ?_)
        refine k_goto (tgt := 4) hm dX7_sumOf_24 (by decide) ?_
        exact ih_4  (t + (rvN K w y i 5)) (i + 1) ro2_4 wk2_5 mb2_6 (by first | assumption | omega) (by simp only [sumR]; omega) _ _ _ (by omega) hw (lv_sub hl [2, 3, 1, 0] rfl)
  exact loop_4 (R - 0 + 1) 0 0 ro wk mb (by first | assumption | omega) rfl _ _ _ (Nat.lt_succ_self _) hw (lv_sub hl [2, 3, 1, 0] rfl)
set_option maxHeartbeats 4000000 in
set_option maxRecDepth 100000 in
theorem c_m_sumOf_6 (l : Launch) (G : kG) (D : Nat → Nat) (sa : Nat → Int64) (pa : Nat → Int64) (pn : Nat) (tx : Nat → Nat) (tn : Nat) (rf : Nat) (ro : Nat → Nat) (wk : Nat) (mb : Nat → Nat) (so : Nat) (kd : Nat → Nat) (nu : Nat → Nat) (it : Nat) (ti : Nat) (rd : Nat) (ad : Nat → Int64) (R : Nat) (sp : Bool) (K : Nat → Nat → Nat) (w : Nat → Nat) (y : Nat → Nat) (hmo : MOk sa R sp K w y) : kCM l yX7_sumOf wsX7_sumOf 4 95 0 0 G [.ref (D 0), vN (6)] (wMod G D sa pa pn tx tn rf ro wk mb so kd nu it ti rd ad) (fun vv uu => ∃ (ro2 : Nat → Nat), ∃ (wk2 : Nat), ∃ (mb2 : Nat → Nat), vv = some (vN (sumR K w y 6 R)) ∧ uu = wMod G D sa pa pn tx tn rf ro2 wk2 mb2 so kd nu it ti rd ad) := by
  refine kCM.of (cc := cX7_sumOf) (maxL := 4) (ret := (some .int)) (by decide) rfl (Nat.le_of_ble_eq_true rfl) ?_
  intro p e s m args below meth c A ls Qz hQ hin hm hw hl
  have hl : lv_has ls 4 [(0, .ref (D 0)), (1, vN (6))] := hl
  have hR := hmo.1.1
  refine k_iconstN hm 0 dX7_sumOf_0 ?_
  refine k_istore_n hm hl [(2, vN (0)), (0, .ref (D 0)), (1, vN (6))] (by decide) rfl dX7_sumOf_1 (fun ls hl => ?_)
  refine k_iconstN hm 0 dX7_sumOf_2 ?_
  refine k_istore_n hm hl [(3, vN (0)), (2, vN (0)), (0, .ref (D 0)), (1, vN (6))] (by decide) rfl dX7_sumOf_3 (fun ls hl => ?_)
  have loop_4 : ∀ (fu : Nat) (t : Nat) (i : Nat) (ro1 : Nat → Nat) (wk1 : Nat) (mb1 : Nat → Nat) (hi : i ≤ R) (ht : t = sumR K w y 6 i) (H : Heap) (locs : List Loc) (ls : Array Slot), R - i < fu → kW G A s (wMod G D sa pa pn tx tn rf ro1 wk1 mb1 so kd nu it ti rd ad) H locs → lv_has ls 4 [(0, .ref (D 0)), (1, vN (6)), (2, vN (t)), (3, vN (i))] → W p l e { frames := 4, cells := 0, slots := 0, locals := 95 } s m args below meth c H locs 0 0 Qz (F0 m 4 ls []) := by
    intro fu
    induction fu with
    | zero => intro t i ro1 wk1 mb1 hi ht H locs ls hfu; exact absurd hfu (Nat.not_lt_zero _)
    | succ fu ih_4 =>
      intro t i ro1 wk1 mb1 hi ht H locs ls hfu hw hl
      refine k_iload_n hm hl 3 rfl dX7_sumOf_4 ?_
      refine k_aload_n hm hl 0 rfl dX7_sumOf_5 ?_
      refine k_callVr (n := 0) (As := []) (rest := [vN (i)]) hm hw hl (c_m_rounds l G D sa pa pn tx tn rf ro1 wk1 mb1 so kd nu it ti rd ad R sp K w y (by first | assumption | omega)) gX7_sumOf_X7_rounds rfl (by decide +kernel) ⟨by decide, by decide⟩ (ci := 7) rfl 0 rfl [0, 1, 2, 3, 4, 5, 6, 7, 8] (by decide) rfl rfl rfl (by simp [Value.category]) ⟨by decide, by decide⟩ dX7_sumOf_6 (fun v H locs hp hw => ?_)
      obtain rfl := hp
      refine W.eq (g2 := F0 m 9 ls [vN (R), vN (i)]) rfl ?_
      refine k_icmpge (tgt := 27) hm dX7_sumOf_9 (by decide) (by omega) (fun c_2 => ?_) (fun c_2 => ?_)
      · refine k_iload_n hm hl 2 rfl dX7_sumOf_27 ?_
        exact k_iret (post := _) hm hQ rfl rfl hw (⟨ro1, wk1, mb1, by rw [ht, show i = R by omega], rfl⟩) (by omega) (by omega) dX7_sumOf_28
      · refine k_iload_n hm hl 2 rfl dX7_sumOf_12 ?_
        refine k_aload_n hm hl 0 rfl dX7_sumOf_13 ?_
        refine k_iload_n hm hl 3 rfl dX7_sumOf_14 ?_
        refine k_iload_n hm hl 1 rfl dX7_sumOf_15 ?_
        refine k_callV (n := 2) (As := [vN (i), vN (6)]) (rest := [vN (t)]) (wr := []) hm hw hl (c_m_roundOf_6 l G D sa pa pn tx tn rf ro1 wk1 mb1 so kd nu it ti rd ad R sp K w y i (by first | assumption | omega) (by first | assumption | omega)) gX7_sumOf_X7_roundOf rfl (by decide +kernel) ⟨by decide, by decide⟩ (ci := 7) rfl 0 rfl [0, 1, 2, 3, 4, 5, 6, 7, 8] [] (by decide) rfl rfl (by decide) (by decide) rfl rfl (by simp [Value.category]) ⟨by decide, by decide⟩ dX7_sumOf_16 (fun v w1 H locs hp hw => ?_)
        obtain ⟨ro2_4, wk2_5, mb2_6, rfl, rfl⟩ := hp
        have hw := hw.sub (ws' := wMod G D sa pa pn tx tn rf ro2_4 wk2_5 mb2_6 so kd nu it ti rd ad) [0, 1, 2, 3, 4, 5, 6, 7, 8] (by decide) rfl
        refine W.eq (g2 := F0 m 19 ls [vN (rvN K w y i 6), vN (t)]) rfl ?_
        refine k_iaddN hm dX7_sumOf_19 ?_
        refine k_istore_n hm hl [(2, vN (t + (rvN K w y i 6))), (0, .ref (D 0)), (1, vN (6)), (3, vN (i))] (by decide) rfl dX7_sumOf_20 (fun ls hl => ?_)
        refine k_iincN hm hl 3 1 rfl [(3, vN (i + 1)), (2, vN (t + (rvN K w y i 6))), (0, .ref (D 0)), (1, vN (6))] (by decide) rfl dX7_sumOf_21 (fun ls hl => ?_)
        refine k_goto (tgt := 4) hm dX7_sumOf_24 (by decide) ?_
        exact ih_4  (t + (rvN K w y i 6)) (i + 1) ro2_4 wk2_5 mb2_6 (by first | assumption | omega) (by simp only [sumR]; omega) _ _ _ (by omega) hw (lv_sub hl [2, 3, 1, 0] rfl)
  exact loop_4 (R - 0 + 1) 0 0 ro wk mb (by first | assumption | omega) rfl _ _ _ (Nat.lt_succ_self _) hw (lv_sub hl [2, 3, 1, 0] rfl)
set_option maxHeartbeats 4000000 in
set_option maxRecDepth 100000 in
theorem c_m_sumOf_7 (l : Launch) (G : kG) (D : Nat → Nat) (sa : Nat → Int64) (pa : Nat → Int64) (pn : Nat) (tx : Nat → Nat) (tn : Nat) (rf : Nat) (ro : Nat → Nat) (wk : Nat) (mb : Nat → Nat) (so : Nat) (kd : Nat → Nat) (nu : Nat → Nat) (it : Nat) (ti : Nat) (rd : Nat) (ad : Nat → Int64) (R : Nat) (sp : Bool) (K : Nat → Nat → Nat) (w : Nat → Nat) (y : Nat → Nat) (hmo : MOk sa R sp K w y) : kCM l yX7_sumOf wsX7_sumOf 4 95 0 0 G [.ref (D 0), vN (7)] (wMod G D sa pa pn tx tn rf ro wk mb so kd nu it ti rd ad) (fun vv uu => ∃ (ro2 : Nat → Nat), ∃ (wk2 : Nat), ∃ (mb2 : Nat → Nat), vv = some (vN (sumR K w y 7 R)) ∧ uu = wMod G D sa pa pn tx tn rf ro2 wk2 mb2 so kd nu it ti rd ad) := by
  refine kCM.of (cc := cX7_sumOf) (maxL := 4) (ret := (some .int)) (by decide) rfl (Nat.le_of_ble_eq_true rfl) ?_
  intro p e s m args below meth c A ls Qz hQ hin hm hw hl
  have hl : lv_has ls 4 [(0, .ref (D 0)), (1, vN (7))] := hl
  have hR := hmo.1.1
  refine k_iconstN hm 0 dX7_sumOf_0 ?_
  refine k_istore_n hm hl [(2, vN (0)), (0, .ref (D 0)), (1, vN (7))] (by decide) rfl dX7_sumOf_1 (fun ls hl => ?_)
  refine k_iconstN hm 0 dX7_sumOf_2 ?_
  refine k_istore_n hm hl [(3, vN (0)), (2, vN (0)), (0, .ref (D 0)), (1, vN (7))] (by decide) rfl dX7_sumOf_3 (fun ls hl => ?_)
  have loop_4 : ∀ (fu : Nat) (t : Nat) (i : Nat) (ro1 : Nat → Nat) (wk1 : Nat) (mb1 : Nat → Nat) (hi : i ≤ R) (ht : t = sumR K w y 7 i) (H : Heap) (locs : List Loc) (ls : Array Slot), R - i < fu → kW G A s (wMod G D sa pa pn tx tn rf ro1 wk1 mb1 so kd nu it ti rd ad) H locs → lv_has ls 4 [(0, .ref (D 0)), (1, vN (7)), (2, vN (t)), (3, vN (i))] → W p l e { frames := 4, cells := 0, slots := 0, locals := 95 } s m args below meth c H locs 0 0 Qz (F0 m 4 ls []) := by
    intro fu
    induction fu with
    | zero => intro t i ro1 wk1 mb1 hi ht H locs ls hfu; exact absurd hfu (Nat.not_lt_zero _)
    | succ fu ih_4 =>
      intro t i ro1 wk1 mb1 hi ht H locs ls hfu hw hl
      refine k_iload_n hm hl 3 rfl dX7_sumOf_4 ?_
      refine k_aload_n hm hl 0 rfl dX7_sumOf_5 ?_
      refine k_callVr (n := 0) (As := []) (rest := [vN (i)]) hm hw hl (c_m_rounds l G D sa pa pn tx tn rf ro1 wk1 mb1 so kd nu it ti rd ad R sp K w y (by first | assumption | omega)) gX7_sumOf_X7_rounds rfl (by decide +kernel) ⟨by decide, by decide⟩ (ci := 7) rfl 0 rfl [0, 1, 2, 3, 4, 5, 6, 7, 8] (by decide) rfl rfl rfl (by simp [Value.category]) ⟨by decide, by decide⟩ dX7_sumOf_6 (fun v H locs hp hw => ?_)
      obtain rfl := hp
      refine W.eq (g2 := F0 m 9 ls [vN (R), vN (i)]) rfl ?_
      refine k_icmpge (tgt := 27) hm dX7_sumOf_9 (by decide) (by omega) (fun c_2 => ?_) (fun c_2 => ?_)
      · refine k_iload_n hm hl 2 rfl dX7_sumOf_27 ?_
        exact k_iret (post := _) hm hQ rfl rfl hw (⟨ro1, wk1, mb1, by rw [ht, show i = R by omega], rfl⟩) (by omega) (by omega) dX7_sumOf_28
      · refine k_iload_n hm hl 2 rfl dX7_sumOf_12 ?_
        refine k_aload_n hm hl 0 rfl dX7_sumOf_13 ?_
        refine k_iload_n hm hl 3 rfl dX7_sumOf_14 ?_
        refine k_iload_n hm hl 1 rfl dX7_sumOf_15 ?_
        refine k_callV (n := 2) (As := [vN (i), vN (7)]) (rest := [vN (t)]) (wr := []) hm hw hl (c_m_roundOf_7 l G D sa pa pn tx tn rf ro1 wk1 mb1 so kd nu it ti rd ad R sp K w y i (by first | assumption | omega) (by first | assumption | omega)) gX7_sumOf_X7_roundOf rfl (by decide +kernel) ⟨by decide, by decide⟩ (ci := 7) rfl 0 rfl [0, 1, 2, 3, 4, 5, 6, 7, 8] [] (by decide) rfl rfl (by decide) (by decide) rfl rfl (by simp [Value.category]) ⟨by decide, by decide⟩ dX7_sumOf_16 (fun v w1 H locs hp hw => ?_)
        obtain ⟨ro2_4, wk2_5, mb2_6, rfl, rfl⟩ := hp
        have hw := hw.sub (ws' := wMod G D sa pa pn tx tn rf ro2_4 wk2_5 mb2_6 so kd nu it ti rd ad) [0, 1, 2, 3, 4, 5, 6, 7, 8] (by decide) rfl
        refine W.eq (g2 := F0 m 19 ls [vN (rvN K w y i 7), vN (t)]) rfl ?_
        refine k_iaddN hm dX7_sumOf_19 ?_
        refine k_istore_n hm hl [(2, vN (t + (rvN K w y i 7))), (0, .ref (D 0)), (1, vN (7)), (3, vN (i))] (by decide) rfl dX7_sumOf_20 (fun ls hl => ?_)
        refine k_iincN hm hl 3 1 rfl [(3, vN (i + 1)), (2, vN (t + (rvN K w y i 7))), (0, .ref (D 0)), (1, vN (7))] (by decide) rfl dX7_sumOf_21 (fun ls hl => ?_)
        refine k_goto (tgt := 4) hm dX7_sumOf_24 (by decide) ?_
        exact ih_4  (t + (rvN K w y i 7)) (i + 1) ro2_4 wk2_5 mb2_6 (by first | assumption | omega) (by simp only [sumR]; omega) _ _ _ (by omega) hw (lv_sub hl [2, 3, 1, 0] rfl)
  exact loop_4 (R - 0 + 1) 0 0 ro wk mb (by first | assumption | omega) rfl _ _ _ (Nat.lt_succ_self _) hw (lv_sub hl [2, 3, 1, 0] rfl)
set_option maxHeartbeats 4000000 in
set_option maxRecDepth 100000 in
theorem c_m_round_ok (l : Launch) (G : kG) (D : Nat → Nat) (sa : Nat → Int64) (pa : Nat → Int64) (pn : Nat) (tx : Nat → Nat) (tn : Nat) (rf : Nat) (ro : Nat → Nat) (wk : Nat) (mb : Nat → Nat) (so : Nat) (kd : Nat → Nat) (nu : Nat → Nat) (it : Nat) (ti : Nat) (rd : Nat) (ad : Nat → Int64) (R : Nat) (sp : Bool) (K : Nat → Nat → Nat) (w : Nat → Nat) (y : Nat → Nat) (r : Nat) (x : Nat) (hmo : MOk sa R sp K w y) (hr : r < R) (hx : x ≤ 10) : kCM l yX7_round wsX7_round 4 95 0 0 G [.ref (D 0), vN (r), vN (x)] (wMod G D sa pa pn tx tn rf ro wk mb so kd nu it ti rd ad) (fun vv uu => ∃ (ro2 : Nat → Nat), ∃ (wk2 : Nat), ∃ (mb2 : Nat → Nat), vv = some (vZ (rv K w y r x)) ∧ uu = wMod G D sa pa pn tx tn 0 ro2 wk2 mb2 so kd nu it ti rd ad) := by
  refine kCM.of (cc := cX7_round) (maxL := 3) (ret := (some .int)) (by decide) rfl (Nat.le_of_ble_eq_true rfl) ?_
  intro p e s m args below meth c A ls Qz hQ hin hm hw hl
  have hl : lv_has ls 3 [(0, .ref (D 0)), (1, vN (r)), (2, vN (x))] := hl
  have hR := hmo.1.1
  have hb := hmo.1.2.1 r hr
  refine k_aload_n hm hl 0 rfl dX7_round_0 ?_
  refine k_aload_n hm hl 0 rfl dX7_round_1 ?_
  refine k_iload_n hm hl 1 rfl dX7_round_2 ?_
  refine k_callVr (n := 1) (As := [vN (r)]) (rest := [.ref (D 0)]) hm hw hl (c_m_isRound l G D sa pa pn tx tn rf ro wk mb so kd nu it ti rd ad R sp K w y ((r : Nat) : Int) (by first | assumption | omega) (by first | assumption | omega)) gX7_round_X7_isRound rfl (by decide +kernel) ⟨by decide, by decide⟩ (ci := 7) rfl 0 rfl [0, 1, 2, 3, 4, 5, 6, 7, 8] (by decide) rfl rfl rfl (by simp [Value.category]) ⟨by decide, by decide⟩ dX7_round_3 (fun v H locs hp hw => ?_)
  obtain rfl := hp
  refine W.eq (g2 := F0 m 6 ls [vB (decide (0 ≤ ((r : Nat) : Int) ∧ ((r : Nat) : Int) < (R : Int))), .ref (D 0)]) rfl ?_
  refine k_ifneB (tgt := 13) hm dX7_round_6 (by decide) (fun c_2 => ?_) (fun c_2 => absurd (of_decide_eq_false c_2) (by omega))
  refine k_iload_n hm hl 2 rfl dX7_round_13 ?_
  refine k_iconstN hm 0 dX7_round_14 ?_
  refine k_bipushN hm 10 dX7_round_15 rfl ?_
  refine k_callSr (n := 3) (As := [vN (x), vN (0), vN (10)]) (rest := [.ref (D 0)]) hm hw hl (c_m_in l G ((x : Nat) : Int) ((0 : Nat) : Int) ((10 : Nat) : Int) (by first | assumption | omega)) gX7_round_X7_in rfl (by decide +kernel) ⟨by decide, by decide⟩ [] (by decide) rfl rfl rfl (by simp [Value.category]) ⟨by decide, by decide⟩ dX7_round_17 (fun v H locs hp hw => ?_)
  obtain rfl := hp
  refine W.eq (g2 := F0 m 20 ls [vB (decide (((0 : Nat) : Int) ≤ ((x : Nat) : Int) ∧ ((x : Nat) : Int) ≤ ((10 : Nat) : Int))), .ref (D 0)]) rfl ?_
  refine k_ifeqB (tgt := 27) hm dX7_round_20 (by decide) (fun c_4 => absurd (of_decide_eq_false c_4) (by omega)) (fun c_4 => ?_)
  refine k_iconstN hm 0 dX7_round_23 ?_
  refine k_goto (tgt := 28) hm dX7_round_24 (by decide) ?_
  refine k_callV (n := 1) (As := [vN (0)]) (rest := []) (wr := []) hm hw hl (c_m_throwsAt l G D sa pa pn tx tn rf ro wk mb so kd nu it ti rd ad 0 (by first | assumption | omega)) gX7_round_X7_throwsAt rfl (by decide +kernel) ⟨by decide, by decide⟩ (ci := 7) rfl 0 rfl [0, 1, 2, 3, 4, 5, 6, 7, 8] [] (by decide) rfl rfl (by decide) (by decide) rfl rfl (by simp [Value.category]) ⟨by decide, by decide⟩ dX7_round_28 (fun v w1 H locs hp hw => ?_)
  obtain ⟨rfl, rfl⟩ := hp
  have hw := hw.sub (ws' := wMod G D sa pa pn tx tn 0 ro wk mb so kd nu it ti rd ad) [0, 1, 2, 3, 4, 5, 6, 7, 8] (by decide) rfl
  refine W.eq (g2 := F0 m 31 ls [vB (decide (0 < 0))]) rfl ?_
  refine k_ifeqB (tgt := 38) hm dX7_round_31 (by decide) (fun c_6 => ?_) (fun c_6 => absurd (of_decide_eq_true c_6) (by omega))
  refine k_aload_n hm hl 0 rfl dX7_round_38 ?_
  refine k_iload_n hm hl 1 rfl dX7_round_39 ?_
  refine k_iload_n hm hl 2 rfl dX7_round_40 ?_
  refine k_callV (n := 2) (As := [vN (r), vN (x)]) (rest := []) (wr := []) hm hw hl (c_m_roundOf l G D sa pa pn tx tn 0 ro wk mb so kd nu it ti rd ad R sp K w y r x (by first | assumption | omega) (by first | assumption | omega) (by first | assumption | omega)) gX7_round_X7_roundOf rfl (by decide +kernel) ⟨by decide, by decide⟩ (ci := 7) rfl 0 rfl [0, 1, 2, 3, 4, 5, 6, 7, 8] [] (by decide) rfl rfl (by decide) (by decide) rfl rfl (by simp [Value.category]) ⟨by decide, by decide⟩ dX7_round_41 (fun v w1 H locs hp hw => ?_)
  obtain ⟨ro2_8, wk2_9, mb2_10, rfl, rfl⟩ := hp
  have hw := hw.sub (ws' := wMod G D sa pa pn tx tn 0 ro2_8 wk2_9 mb2_10 so kd nu it ti rd ad) [0, 1, 2, 3, 4, 5, 6, 7, 8] (by decide) rfl
  refine W.eq (g2 := F0 m 44 ls [vZ (rv K w y r x)]) rfl ?_
  exact k_iret (post := _) hm hQ rfl rfl hw (⟨_, _, _, rfl, rfl⟩) (by omega) (by omega) dX7_round_44
set_option maxHeartbeats 4000000 in
set_option maxRecDepth 100000 in
theorem c_m_round_x1 (l : Launch) (G : kG) (D : Nat → Nat) (sa : Nat → Int64) (pa : Nat → Int64) (pn : Nat) (tx : Nat → Nat) (tn : Nat) (rf : Nat) (ro : Nat → Nat) (wk : Nat) (mb : Nat → Nat) (so : Nat) (kd : Nat → Nat) (nu : Nat → Nat) (it : Nat) (ti : Nat) (rd : Nat) (ad : Nat → Int64) (R : Nat) (sp : Bool) (K : Nat → Nat → Nat) (w : Nat → Nat) (y : Nat → Nat) (z : Int) (x : Int) (hmo : MOk sa R sp K w y) (hzz : -2147483648 ≤ z ∧ z < 2147483648) (hzx : -2147483648 ≤ x ∧ x < 2147483648) (hx : ¬ (0 ≤ z ∧ z < (R : Int))) : kCM l yX7_round wsX7_round 4 95 0 0 G [.ref (D 0), vZ (z), vZ (x)] (wMod G D sa pa pn tx tn rf ro wk mb so kd nu it ti rd ad) (fun vv uu => vv = some (vN (0)) ∧ uu = wMod G D sa pa pn tx tn 1 ro wk mb so kd nu it ti rd ad) := by
  refine kCM.of (cc := cX7_round) (maxL := 3) (ret := (some .int)) (by decide) rfl (Nat.le_of_ble_eq_true rfl) ?_
  intro p e s m args below meth c A ls Qz hQ hin hm hw hl
  have hl : lv_has ls 3 [(0, .ref (D 0)), (1, vZ (z)), (2, vZ (x))] := hl
  have hR := hmo.1.1
  refine k_aload_n hm hl 0 rfl dX7_round_0 ?_
  refine k_aload_n hm hl 0 rfl dX7_round_1 ?_
  refine k_iload_n hm hl 1 rfl dX7_round_2 ?_
  refine k_callVr (n := 1) (As := [vZ (z)]) (rest := [.ref (D 0)]) hm hw hl (c_m_isRound l G D sa pa pn tx tn rf ro wk mb so kd nu it ti rd ad R sp K w y z (by first | assumption | omega) (by first | assumption | omega)) gX7_round_X7_isRound rfl (by decide +kernel) ⟨by decide, by decide⟩ (ci := 7) rfl 0 rfl [0, 1, 2, 3, 4, 5, 6, 7, 8] (by decide) rfl rfl rfl (by simp [Value.category]) ⟨by decide, by decide⟩ dX7_round_3 (fun v H locs hp hw => ?_)
  obtain rfl := hp
  refine W.eq (g2 := F0 m 6 ls [vB (decide (0 ≤ z ∧ z < (R : Int))), .ref (D 0)]) rfl ?_
  refine k_ifneB (tgt := 13) hm dX7_round_6 (by decide) (fun c_2 => absurd (of_decide_eq_true c_2) (by omega)) (fun c_2 => ?_)
  refine k_iconstN hm 1 dX7_round_9 ?_
  refine k_goto (tgt := 28) hm dX7_round_10 (by decide) ?_
  refine k_callV (n := 1) (As := [vN (1)]) (rest := []) (wr := []) hm hw hl (c_m_throwsAt l G D sa pa pn tx tn rf ro wk mb so kd nu it ti rd ad 1 (by first | assumption | omega)) gX7_round_X7_throwsAt rfl (by decide +kernel) ⟨by decide, by decide⟩ (ci := 7) rfl 0 rfl [0, 1, 2, 3, 4, 5, 6, 7, 8] [] (by decide) rfl rfl (by decide) (by decide) rfl rfl (by simp [Value.category]) ⟨by decide, by decide⟩ dX7_round_28 (fun v w1 H locs hp hw => ?_)
  obtain ⟨rfl, rfl⟩ := hp
  have hw := hw.sub (ws' := wMod G D sa pa pn tx tn 1 ro wk mb so kd nu it ti rd ad) [0, 1, 2, 3, 4, 5, 6, 7, 8] (by decide) rfl
  refine W.eq (g2 := F0 m 31 ls [vB (decide (0 < 1))]) rfl ?_
  refine k_ifeqB (tgt := 38) hm dX7_round_31 (by decide) (fun c_4 => absurd (of_decide_eq_false c_4) (by omega)) (fun c_4 => ?_)
  refine k_iconstN hm 0 dX7_round_34 ?_
  refine k_goto (tgt := 44) hm dX7_round_35 (by decide) ?_
  exact k_iret (post := _) hm hQ rfl rfl hw (⟨rfl, rfl⟩) (by omega) (by omega) dX7_round_44
set_option maxHeartbeats 4000000 in
set_option maxRecDepth 100000 in
theorem c_m_round_x2 (l : Launch) (G : kG) (D : Nat → Nat) (sa : Nat → Int64) (pa : Nat → Int64) (pn : Nat) (tx : Nat → Nat) (tn : Nat) (rf : Nat) (ro : Nat → Nat) (wk : Nat) (mb : Nat → Nat) (so : Nat) (kd : Nat → Nat) (nu : Nat → Nat) (it : Nat) (ti : Nat) (rd : Nat) (ad : Nat → Int64) (R : Nat) (sp : Bool) (K : Nat → Nat → Nat) (w : Nat → Nat) (y : Nat → Nat) (r : Nat) (x : Int) (hmo : MOk sa R sp K w y) (hzx : -2147483648 ≤ x ∧ x < 2147483648) (hr : r < R) (hx : ¬ (0 ≤ x ∧ x ≤ 10)) : kCM l yX7_round wsX7_round 4 95 0 0 G [.ref (D 0), vN (r), vZ (x)] (wMod G D sa pa pn tx tn rf ro wk mb so kd nu it ti rd ad) (fun vv uu => vv = some (vN (0)) ∧ uu = wMod G D sa pa pn tx tn 2 ro wk mb so kd nu it ti rd ad) := by
  refine kCM.of (cc := cX7_round) (maxL := 3) (ret := (some .int)) (by decide) rfl (Nat.le_of_ble_eq_true rfl) ?_
  intro p e s m args below meth c A ls Qz hQ hin hm hw hl
  have hl : lv_has ls 3 [(0, .ref (D 0)), (1, vN (r)), (2, vZ (x))] := hl
  have hR := hmo.1.1
  refine k_aload_n hm hl 0 rfl dX7_round_0 ?_
  refine k_aload_n hm hl 0 rfl dX7_round_1 ?_
  refine k_iload_n hm hl 1 rfl dX7_round_2 ?_
  refine k_callVr (n := 1) (As := [vN (r)]) (rest := [.ref (D 0)]) hm hw hl (c_m_isRound l G D sa pa pn tx tn rf ro wk mb so kd nu it ti rd ad R sp K w y ((r : Nat) : Int) (by first | assumption | omega) (by first | assumption | omega)) gX7_round_X7_isRound rfl (by decide +kernel) ⟨by decide, by decide⟩ (ci := 7) rfl 0 rfl [0, 1, 2, 3, 4, 5, 6, 7, 8] (by decide) rfl rfl rfl (by simp [Value.category]) ⟨by decide, by decide⟩ dX7_round_3 (fun v H locs hp hw => ?_)
  obtain rfl := hp
  refine W.eq (g2 := F0 m 6 ls [vB (decide (0 ≤ ((r : Nat) : Int) ∧ ((r : Nat) : Int) < (R : Int))), .ref (D 0)]) rfl ?_
  refine k_ifneB (tgt := 13) hm dX7_round_6 (by decide) (fun c_2 => ?_) (fun c_2 => absurd (of_decide_eq_false c_2) (by omega))
  refine k_iload_n hm hl 2 rfl dX7_round_13 ?_
  refine k_iconstN hm 0 dX7_round_14 ?_
  refine k_bipushN hm 10 dX7_round_15 rfl ?_
  refine k_callSr (n := 3) (As := [vZ (x), vN (0), vN (10)]) (rest := [.ref (D 0)]) hm hw hl (c_m_in l G x ((0 : Nat) : Int) ((10 : Nat) : Int) (by first | assumption | omega)) gX7_round_X7_in rfl (by decide +kernel) ⟨by decide, by decide⟩ [] (by decide) rfl rfl rfl (by simp [Value.category]) ⟨by decide, by decide⟩ dX7_round_17 (fun v H locs hp hw => ?_)
  obtain rfl := hp
  refine W.eq (g2 := F0 m 20 ls [vB (decide (((0 : Nat) : Int) ≤ x ∧ x ≤ ((10 : Nat) : Int))), .ref (D 0)]) rfl ?_
  refine k_ifeqB (tgt := 27) hm dX7_round_20 (by decide) (fun c_4 => ?_) (fun c_4 => absurd (of_decide_eq_true c_4) (by omega))
  refine k_iconstN hm 2 dX7_round_27 ?_
  refine k_callV (n := 1) (As := [vN (2)]) (rest := []) (wr := []) hm hw hl (c_m_throwsAt l G D sa pa pn tx tn rf ro wk mb so kd nu it ti rd ad 2 (by first | assumption | omega)) gX7_round_X7_throwsAt rfl (by decide +kernel) ⟨by decide, by decide⟩ (ci := 7) rfl 0 rfl [0, 1, 2, 3, 4, 5, 6, 7, 8] [] (by decide) rfl rfl (by decide) (by decide) rfl rfl (by simp [Value.category]) ⟨by decide, by decide⟩ dX7_round_28 (fun v w1 H locs hp hw => ?_)
  obtain ⟨rfl, rfl⟩ := hp
  have hw := hw.sub (ws' := wMod G D sa pa pn tx tn 2 ro wk mb so kd nu it ti rd ad) [0, 1, 2, 3, 4, 5, 6, 7, 8] (by decide) rfl
  refine W.eq (g2 := F0 m 31 ls [vB (decide (0 < 2))]) rfl ?_
  refine k_ifeqB (tgt := 38) hm dX7_round_31 (by decide) (fun c_6 => absurd (of_decide_eq_false c_6) (by omega)) (fun c_6 => ?_)
  refine k_iconstN hm 0 dX7_round_34 ?_
  refine k_goto (tgt := 44) hm dX7_round_35 (by decide) ?_
  exact k_iret (post := _) hm hQ rfl rfl hw (⟨rfl, rfl⟩) (by omega) (by omega) dX7_round_44
set_option maxHeartbeats 4000000 in
set_option maxRecDepth 100000 in
theorem c_m_work_ok (l : Launch) (G : kG) (D : Nat → Nat) (sa : Nat → Int64) (pa : Nat → Int64) (pn : Nat) (tx : Nat → Nat) (tn : Nat) (rf : Nat) (ro : Nat → Nat) (wk : Nat) (mb : Nat → Nat) (so : Nat) (kd : Nat → Nat) (nu : Nat → Nat) (it : Nat) (ti : Nat) (rd : Nat) (ad : Nat → Int64) (R : Nat) (sp : Bool) (K : Nat → Nat → Nat) (w : Nat → Nat) (y : Nat → Nat) (r : Nat) (x : Nat) (hmo : MOk sa R sp K w y) (hr : r < R) (hx : x < w r) : kCM l yX7_work wsX7_work 2 41 0 0 G [.ref (D 0), vN (r), vN (x)] (wMod G D sa pa pn tx tn rf ro wk mb so kd nu it ti rd ad) (fun vv uu => vv = some (vN (K r x)) ∧ uu = wMod G D sa pa pn tx tn 0 ro wk mb so kd nu it ti rd ad) := by
  refine kCM.of (cc := cX7_work) (maxL := 3) (ret := (some .int)) (by decide) rfl (Nat.le_of_ble_eq_true rfl) ?_
  intro p e s m args below meth c A ls Qz hQ hin hm hw hl
  have hl : lv_has ls 3 [(0, .ref (D 0)), (1, vN (r)), (2, vN (x))] := hl
  have hR := hmo.1.1
  have hb := hmo.1.2.1 r hr
  refine k_aload_n hm hl 0 rfl dX7_work_0 ?_
  refine k_aload_n hm hl 0 rfl dX7_work_1 ?_
  refine k_iload_n hm hl 1 rfl dX7_work_2 ?_
  refine k_callVr (n := 1) (As := [vN (r)]) (rest := [.ref (D 0)]) hm hw hl (c_m_isRound l G D sa pa pn tx tn rf ro wk mb so kd nu it ti rd ad R sp K w y ((r : Nat) : Int) (by first | assumption | omega) (by first | assumption | omega)) gX7_work_X7_isRound rfl (by decide +kernel) ⟨by decide, by decide⟩ (ci := 7) rfl 0 rfl [0, 1, 2, 3, 4, 5, 6, 7, 8] (by decide) rfl rfl rfl (by simp [Value.category]) ⟨by decide, by decide⟩ dX7_work_3 (fun v H locs hp hw => ?_)
  obtain rfl := hp
  refine W.eq (g2 := F0 m 6 ls [vB (decide (0 ≤ ((r : Nat) : Int) ∧ ((r : Nat) : Int) < (R : Int))), .ref (D 0)]) rfl ?_
  refine k_ifeqB (tgt := 26) hm dX7_work_6 (by decide) (fun c_2 => absurd (of_decide_eq_false c_2) (by omega)) (fun c_2 => ?_)
  refine k_iload_n hm hl 2 rfl dX7_work_9 ?_
  refine k_iflt (tgt := 26) hm dX7_work_10 (by decide) (by omega) (fun c_3 => absurd c_3 (by omega)) (fun c_3 => ?_)
  refine k_iload_n hm hl 2 rfl dX7_work_13 ?_
  refine k_aload_n hm hl 0 rfl dX7_work_14 ?_
  refine k_iload_n hm hl 1 rfl dX7_work_15 ?_
  refine k_callVr (n := 1) (As := [vN (r)]) (rest := [vN (x), .ref (D 0)]) hm hw hl (c_m_worksOf l G D sa pa pn tx tn rf ro wk mb so kd nu it ti rd ad R sp K w y r (by first | assumption | omega) (by first | assumption | omega)) gX7_work_X7_worksOf rfl (by decide +kernel) ⟨by decide, by decide⟩ (ci := 7) rfl 0 rfl [0, 1, 2, 3, 4, 5, 6, 7, 8] (by decide) rfl rfl rfl (by simp [Value.category]) ⟨by decide, by decide⟩ dX7_work_16 (fun v H locs hp hw => ?_)
  obtain rfl := hp
  refine W.eq (g2 := F0 m 19 ls [vN (w r), vN (x), .ref (D 0)]) rfl ?_
  refine k_icmpge (tgt := 26) hm dX7_work_19 (by decide) (by omega) (fun c_5 => absurd c_5 (by omega)) (fun c_5 => ?_)
  refine k_iconstN hm 0 dX7_work_22 ?_
  refine k_goto (tgt := 27) hm dX7_work_23 (by decide) ?_
  refine k_callV (n := 1) (As := [vN (0)]) (rest := []) (wr := []) hm hw hl (c_m_throwsAt l G D sa pa pn tx tn rf ro wk mb so kd nu it ti rd ad 0 (by first | assumption | omega)) gX7_work_X7_throwsAt rfl (by decide +kernel) ⟨by decide, by decide⟩ (ci := 7) rfl 0 rfl [0, 1, 2, 3, 4, 5, 6, 7, 8] [] (by decide) rfl rfl (by decide) (by decide) rfl rfl (by simp [Value.category]) ⟨by decide, by decide⟩ dX7_work_27 (fun v w1 H locs hp hw => ?_)
  obtain ⟨rfl, rfl⟩ := hp
  have hw := hw.sub (ws' := wMod G D sa pa pn tx tn 0 ro wk mb so kd nu it ti rd ad) [0, 1, 2, 3, 4, 5, 6, 7, 8] (by decide) rfl
  refine W.eq (g2 := F0 m 30 ls [vB (decide (0 < 0))]) rfl ?_
  refine k_ifeqB (tgt := 37) hm dX7_work_30 (by decide) (fun c_7 => ?_) (fun c_7 => absurd (of_decide_eq_true c_7) (by omega))
  refine k_aload_n hm hl 0 rfl dX7_work_37 ?_
  refine k_iload_n hm hl 1 rfl dX7_work_38 ?_
  refine k_iload_n hm hl 2 rfl dX7_work_39 ?_
  refine k_callVr (n := 2) (As := [vN (r), vN (x)]) (rest := []) hm hw hl (c_m_kindOf l G D sa pa pn tx tn 0 ro wk mb so kd nu it ti rd ad R sp K w y r x (by first | assumption | omega) (by first | assumption | omega) (by first | assumption | omega)) gX7_work_X7_kindOf rfl (by decide +kernel) ⟨by decide, by decide⟩ (ci := 7) rfl 0 rfl [0, 1, 2, 3, 4, 5, 6, 7, 8] (by decide) rfl rfl rfl (by simp [Value.category]) ⟨by decide, by decide⟩ dX7_work_40 (fun v H locs hp hw => ?_)
  obtain rfl := hp
  refine W.eq (g2 := F0 m 43 ls [vN (K r x)]) rfl ?_
  exact k_iret (post := _) hm hQ rfl rfl hw (⟨rfl, rfl⟩) (by omega) (by omega) dX7_work_43
set_option maxHeartbeats 4000000 in
set_option maxRecDepth 100000 in
theorem c_m_work_x1 (l : Launch) (G : kG) (D : Nat → Nat) (sa : Nat → Int64) (pa : Nat → Int64) (pn : Nat) (tx : Nat → Nat) (tn : Nat) (rf : Nat) (ro : Nat → Nat) (wk : Nat) (mb : Nat → Nat) (so : Nat) (kd : Nat → Nat) (nu : Nat → Nat) (it : Nat) (ti : Nat) (rd : Nat) (ad : Nat → Int64) (R : Nat) (sp : Bool) (K : Nat → Nat → Nat) (w : Nat → Nat) (y : Nat → Nat) (z : Int) (x : Int) (hmo : MOk sa R sp K w y) (hzz : -2147483648 ≤ z ∧ z < 2147483648) (hzx : -2147483648 ≤ x ∧ x < 2147483648) (hx : ¬ (0 ≤ z ∧ z < (R : Int))) : kCM l yX7_work wsX7_work 2 41 0 0 G [.ref (D 0), vZ (z), vZ (x)] (wMod G D sa pa pn tx tn rf ro wk mb so kd nu it ti rd ad) (fun vv uu => vv = some (vN (0)) ∧ uu = wMod G D sa pa pn tx tn 1 ro wk mb so kd nu it ti rd ad) := by
  refine kCM.of (cc := cX7_work) (maxL := 3) (ret := (some .int)) (by decide) rfl (Nat.le_of_ble_eq_true rfl) ?_
  intro p e s m args below meth c A ls Qz hQ hin hm hw hl
  have hl : lv_has ls 3 [(0, .ref (D 0)), (1, vZ (z)), (2, vZ (x))] := hl
  have hR := hmo.1.1
  refine k_aload_n hm hl 0 rfl dX7_work_0 ?_
  refine k_aload_n hm hl 0 rfl dX7_work_1 ?_
  refine k_iload_n hm hl 1 rfl dX7_work_2 ?_
  refine k_callVr (n := 1) (As := [vZ (z)]) (rest := [.ref (D 0)]) hm hw hl (c_m_isRound l G D sa pa pn tx tn rf ro wk mb so kd nu it ti rd ad R sp K w y z (by first | assumption | omega) (by first | assumption | omega)) gX7_work_X7_isRound rfl (by decide +kernel) ⟨by decide, by decide⟩ (ci := 7) rfl 0 rfl [0, 1, 2, 3, 4, 5, 6, 7, 8] (by decide) rfl rfl rfl (by simp [Value.category]) ⟨by decide, by decide⟩ dX7_work_3 (fun v H locs hp hw => ?_)
  obtain rfl := hp
  refine W.eq (g2 := F0 m 6 ls [vB (decide (0 ≤ z ∧ z < (R : Int))), .ref (D 0)]) rfl ?_
  refine k_ifeqB (tgt := 26) hm dX7_work_6 (by decide) (fun c_2 => ?_) (fun c_2 => absurd (of_decide_eq_true c_2) (by omega))
  refine k_iconstN hm 1 dX7_work_26 ?_
  refine k_callV (n := 1) (As := [vN (1)]) (rest := []) (wr := []) hm hw hl (c_m_throwsAt l G D sa pa pn tx tn rf ro wk mb so kd nu it ti rd ad 1 (by first | assumption | omega)) gX7_work_X7_throwsAt rfl (by decide +kernel) ⟨by decide, by decide⟩ (ci := 7) rfl 0 rfl [0, 1, 2, 3, 4, 5, 6, 7, 8] [] (by decide) rfl rfl (by decide) (by decide) rfl rfl (by simp [Value.category]) ⟨by decide, by decide⟩ dX7_work_27 (fun v w1 H locs hp hw => ?_)
  obtain ⟨rfl, rfl⟩ := hp
  have hw := hw.sub (ws' := wMod G D sa pa pn tx tn 1 ro wk mb so kd nu it ti rd ad) [0, 1, 2, 3, 4, 5, 6, 7, 8] (by decide) rfl
  refine W.eq (g2 := F0 m 30 ls [vB (decide (0 < 1))]) rfl ?_
  refine k_ifeqB (tgt := 37) hm dX7_work_30 (by decide) (fun c_4 => absurd (of_decide_eq_false c_4) (by omega)) (fun c_4 => ?_)
  refine k_iconstN hm 0 dX7_work_33 ?_
  refine k_goto (tgt := 43) hm dX7_work_34 (by decide) ?_
  exact k_iret (post := _) hm hQ rfl rfl hw (⟨rfl, rfl⟩) (by omega) (by omega) dX7_work_43
set_option maxHeartbeats 4000000 in
set_option maxRecDepth 100000 in
theorem c_m_work_x2 (l : Launch) (G : kG) (D : Nat → Nat) (sa : Nat → Int64) (pa : Nat → Int64) (pn : Nat) (tx : Nat → Nat) (tn : Nat) (rf : Nat) (ro : Nat → Nat) (wk : Nat) (mb : Nat → Nat) (so : Nat) (kd : Nat → Nat) (nu : Nat → Nat) (it : Nat) (ti : Nat) (rd : Nat) (ad : Nat → Int64) (R : Nat) (sp : Bool) (K : Nat → Nat → Nat) (w : Nat → Nat) (y : Nat → Nat) (r : Nat) (x : Int) (hmo : MOk sa R sp K w y) (hzx : -2147483648 ≤ x ∧ x < 2147483648) (hr : r < R) (hx : ¬ (0 ≤ x ∧ x < (w r : Int))) : kCM l yX7_work wsX7_work 2 41 0 0 G [.ref (D 0), vN (r), vZ (x)] (wMod G D sa pa pn tx tn rf ro wk mb so kd nu it ti rd ad) (fun vv uu => vv = some (vN (0)) ∧ uu = wMod G D sa pa pn tx tn 1 ro wk mb so kd nu it ti rd ad) := by
  refine kCM.of (cc := cX7_work) (maxL := 3) (ret := (some .int)) (by decide) rfl (Nat.le_of_ble_eq_true rfl) ?_
  intro p e s m args below meth c A ls Qz hQ hin hm hw hl
  have hl : lv_has ls 3 [(0, .ref (D 0)), (1, vN (r)), (2, vZ (x))] := hl
  have hR := hmo.1.1
  have hb := hmo.1.2.1 r hr
  refine k_aload_n hm hl 0 rfl dX7_work_0 ?_
  refine k_aload_n hm hl 0 rfl dX7_work_1 ?_
  refine k_iload_n hm hl 1 rfl dX7_work_2 ?_
  refine k_callVr (n := 1) (As := [vN (r)]) (rest := [.ref (D 0)]) hm hw hl (c_m_isRound l G D sa pa pn tx tn rf ro wk mb so kd nu it ti rd ad R sp K w y ((r : Nat) : Int) (by first | assumption | omega) (by first | assumption | omega)) gX7_work_X7_isRound rfl (by decide +kernel) ⟨by decide, by decide⟩ (ci := 7) rfl 0 rfl [0, 1, 2, 3, 4, 5, 6, 7, 8] (by decide) rfl rfl rfl (by simp [Value.category]) ⟨by decide, by decide⟩ dX7_work_3 (fun v H locs hp hw => ?_)
  obtain rfl := hp
  refine W.eq (g2 := F0 m 6 ls [vB (decide (0 ≤ ((r : Nat) : Int) ∧ ((r : Nat) : Int) < (R : Int))), .ref (D 0)]) rfl ?_
  refine k_ifeqB (tgt := 26) hm dX7_work_6 (by decide) (fun c_2 => absurd (of_decide_eq_false c_2) (by omega)) (fun c_2 => ?_)
  refine k_iload_n hm hl 2 rfl dX7_work_9 ?_
  refine k_iflt (tgt := 26) hm dX7_work_10 (by decide) (by omega) (fun c_3 => ?_) (fun c_3 => ?_)
  · refine k_iconstN hm 1 dX7_work_26 ?_
    refine k_callV (n := 1) (As := [vN (1)]) (rest := []) (wr := []) hm hw hl (c_m_throwsAt l G D sa pa pn tx tn rf ro wk mb so kd nu it ti rd ad 1 (by first | assumption | omega)) gX7_work_X7_throwsAt rfl (by decide +kernel) ⟨by decide, by decide⟩ (ci := 7) rfl 0 rfl [0, 1, 2, 3, 4, 5, 6, 7, 8] [] (by decide) rfl rfl (by decide) (by decide) rfl rfl (by simp [Value.category]) ⟨by decide, by decide⟩ dX7_work_27 (fun v w1 H locs hp hw => ?_)
    obtain ⟨rfl, rfl⟩ := hp
    have hw := hw.sub (ws' := wMod G D sa pa pn tx tn 1 ro wk mb so kd nu it ti rd ad) [0, 1, 2, 3, 4, 5, 6, 7, 8] (by decide) rfl
    refine W.eq (g2 := F0 m 30 ls [vB (decide (0 < 1))]) rfl ?_
    refine k_ifeqB (tgt := 37) hm dX7_work_30 (by decide) (fun c_5 => absurd (of_decide_eq_false c_5) (by omega)) (fun c_5 => ?_)
    refine k_iconstN hm 0 dX7_work_33 ?_
    refine k_goto (tgt := 43) hm dX7_work_34 (by decide) ?_
    exact k_iret (post := _) hm hQ rfl rfl hw (⟨rfl, rfl⟩) (by omega) (by omega) dX7_work_43
  · refine k_iload_n hm hl 2 rfl dX7_work_13 ?_
    refine k_aload_n hm hl 0 rfl dX7_work_14 ?_
    refine k_iload_n hm hl 1 rfl dX7_work_15 ?_
    refine k_callVr (n := 1) (As := [vN (r)]) (rest := [vZ (x), .ref (D 0)]) hm hw hl (c_m_worksOf l G D sa pa pn tx tn rf ro wk mb so kd nu it ti rd ad R sp K w y r (by first | assumption | omega) (by first | assumption | omega)) gX7_work_X7_worksOf rfl (by decide +kernel) ⟨by decide, by decide⟩ (ci := 7) rfl 0 rfl [0, 1, 2, 3, 4, 5, 6, 7, 8] (by decide) rfl rfl rfl (by simp [Value.category]) ⟨by decide, by decide⟩ dX7_work_16 (fun v H locs hp hw => ?_)
    obtain rfl := hp
    refine W.eq (g2 := F0 m 19 ls [vN (w r), vZ (x), .ref (D 0)]) rfl ?_
    refine k_icmpge (tgt := 26) hm dX7_work_19 (by decide) (by omega) (fun c_7 => ?_) (fun c_7 => absurd c_7 (by omega))
    refine k_iconstN hm 1 dX7_work_26 ?_
    refine k_callV (n := 1) (As := [vN (1)]) (rest := []) (wr := []) hm hw hl (c_m_throwsAt l G D sa pa pn tx tn rf ro wk mb so kd nu it ti rd ad 1 (by first | assumption | omega)) gX7_work_X7_throwsAt rfl (by decide +kernel) ⟨by decide, by decide⟩ (ci := 7) rfl 0 rfl [0, 1, 2, 3, 4, 5, 6, 7, 8] [] (by decide) rfl rfl (by decide) (by decide) rfl rfl (by simp [Value.category]) ⟨by decide, by decide⟩ dX7_work_27 (fun v w1 H locs hp hw => ?_)
    obtain ⟨rfl, rfl⟩ := hp
    have hw := hw.sub (ws' := wMod G D sa pa pn tx tn 1 ro wk mb so kd nu it ti rd ad) [0, 1, 2, 3, 4, 5, 6, 7, 8] (by decide) rfl
    refine W.eq (g2 := F0 m 30 ls [vB (decide (0 < 1))]) rfl ?_
    refine k_ifeqB (tgt := 37) hm dX7_work_30 (by decide) (fun c_9 => absurd (of_decide_eq_false c_9) (by omega)) (fun c_9 => ?_)
    refine k_iconstN hm 0 dX7_work_33 ?_
    refine k_goto (tgt := 43) hm dX7_work_34 (by decide) ?_
    exact k_iret (post := _) hm hQ rfl rfl hw (⟨rfl, rfl⟩) (by omega) (by omega) dX7_work_43
set_option maxHeartbeats 4000000 in
set_option maxRecDepth 100000 in
theorem c_m_isStitch_1 (l : Launch) (G : kG) (D : Nat → Nat) (sa : Nat → Int64) (pa : Nat → Int64) (pn : Nat) (tx : Nat → Nat) (tn : Nat) (rf : Nat) (ro : Nat → Nat) (wk : Nat) (mb : Nat → Nat) (so : Nat) (kd : Nat → Nat) (nu : Nat → Nat) (it : Nat) (ti : Nat) (rd : Nat) (ad : Nat → Int64) (R : Nat) (sp : Bool) (K : Nat → Nat → Nat) (w : Nat → Nat) (y : Nat → Nat) (z : Int) (x : Int) (hmo : MOk sa R sp K w y) (hzz : -2147483648 ≤ z ∧ z < 2147483648) (hzx : -2147483648 ≤ x ∧ x < 2147483648) (hx : ¬ (0 ≤ z ∧ z < (R : Int))) : kCR l yX7_isStitch wsX7_isStitch 2 45 G [.ref (D 0), vZ (z), vZ (x)] (wMod G D sa pa pn tx tn rf ro wk mb so kd nu it ti rd ad) (fun vv => vv = some (vB (false))) := by
  refine kCM.of (cc := cX7_isStitch) (maxL := 3) (ret := (some .boolean)) (by decide) rfl (Nat.le_of_ble_eq_true rfl) ?_
  intro p e s m args below meth c A ls Qz hQ hin hm hw hl
  have hl : lv_has ls 3 [(0, .ref (D 0)), (1, vZ (z)), (2, vZ (x))] := hl
  have hR := hmo.1.1
  refine k_aload_n hm hl 0 rfl dX7_isStitch_0 ?_
  refine k_iload_n hm hl 1 rfl dX7_isStitch_1 ?_
  refine k_callVr (n := 1) (As := [vZ (z)]) (rest := []) hm hw hl (c_m_isRound l G D sa pa pn tx tn rf ro wk mb so kd nu it ti rd ad R sp K w y z (by first | assumption | omega) (by first | assumption | omega)) gX7_isStitch_X7_isRound rfl (by decide +kernel) ⟨by decide, by decide⟩ (ci := 7) rfl 0 rfl [0, 1, 2, 3, 4, 5, 6, 7, 8] (by decide) rfl rfl rfl (by simp [Value.category]) ⟨by decide, by decide⟩ dX7_isStitch_2 (fun v H locs hp hw => ?_)
  obtain rfl := hp
  refine W.eq (g2 := F0 m 5 ls [vB (decide (0 ≤ z ∧ z < (R : Int)))]) rfl ?_
  refine k_ifeqB (tgt := 27) hm dX7_isStitch_5 (by decide) (fun c_2 => ?_) (fun c_2 => absurd (of_decide_eq_true c_2) (by omega))
  refine k_iconstN hm 0 dX7_isStitch_27 ?_
  exact k_iret (post := _) hm hQ rfl (kN_bool false) hw (⟨rfl, rfl⟩) (by omega) (by omega) dX7_isStitch_28
set_option maxHeartbeats 4000000 in
set_option maxRecDepth 100000 in
theorem c_m_isStitch_2 (l : Launch) (G : kG) (D : Nat → Nat) (sa : Nat → Int64) (pa : Nat → Int64) (pn : Nat) (tx : Nat → Nat) (tn : Nat) (rf : Nat) (ro : Nat → Nat) (wk : Nat) (mb : Nat → Nat) (so : Nat) (kd : Nat → Nat) (nu : Nat → Nat) (it : Nat) (ti : Nat) (rd : Nat) (ad : Nat → Int64) (R : Nat) (sp : Bool) (K : Nat → Nat → Nat) (w : Nat → Nat) (y : Nat → Nat) (r : Nat) (x : Int) (hmo : MOk sa R sp K w y) (hzx : -2147483648 ≤ x ∧ x < 2147483648) (hr : r < R) : kCR l yX7_isStitch wsX7_isStitch 2 45 G [.ref (D 0), vN (r), vZ (x)] (wMod G D sa pa pn tx tn rf ro wk mb so kd nu it ti rd ad) (fun vv => vv = some (vB (decide (0 ≤ x ∧ x < (sumM (K r) (w r) : Int))))) := by
  refine kCM.of (cc := cX7_isStitch) (maxL := 3) (ret := (some .boolean)) (by decide) rfl (Nat.le_of_ble_eq_true rfl) ?_
  intro p e s m args below meth c A ls Qz hQ hin hm hw hl
  have hl : lv_has ls 3 [(0, .ref (D 0)), (1, vN (r)), (2, vZ (x))] := hl
  have hR := hmo.1.1
  have hb := hmo.1.2.1 r hr
  refine k_aload_n hm hl 0 rfl dX7_isStitch_0 ?_
  refine k_iload_n hm hl 1 rfl dX7_isStitch_1 ?_
  refine k_callVr (n := 1) (As := [vN (r)]) (rest := []) hm hw hl (c_m_isRound l G D sa pa pn tx tn rf ro wk mb so kd nu it ti rd ad R sp K w y ((r : Nat) : Int) (by first | assumption | omega) (by first | assumption | omega)) gX7_isStitch_X7_isRound rfl (by decide +kernel) ⟨by decide, by decide⟩ (ci := 7) rfl 0 rfl [0, 1, 2, 3, 4, 5, 6, 7, 8] (by decide) rfl rfl rfl (by simp [Value.category]) ⟨by decide, by decide⟩ dX7_isStitch_2 (fun v H locs hp hw => ?_)
  obtain rfl := hp
  refine W.eq (g2 := F0 m 5 ls [vB (decide (0 ≤ ((r : Nat) : Int) ∧ ((r : Nat) : Int) < (R : Int)))]) rfl ?_
  refine k_ifeqB (tgt := 27) hm dX7_isStitch_5 (by decide) (fun c_2 => absurd (of_decide_eq_false c_2) (by omega)) (fun c_2 => ?_)
  refine k_iload_n hm hl 2 rfl dX7_isStitch_8 ?_
  refine k_iconstN hm 0 dX7_isStitch_9 ?_
  refine k_aload_n hm hl 0 rfl dX7_isStitch_10 ?_
  refine k_iload_n hm hl 1 rfl dX7_isStitch_11 ?_
  refine k_callVr (n := 1) (As := [vN (r)]) (rest := [vN (0), vZ (x)]) hm hw hl (c_m_totalOf l G D sa pa pn tx tn rf ro wk mb so kd nu it ti rd ad R sp K w y r (by first | assumption | omega) (by first | assumption | omega)) gX7_isStitch_X7_totalOf rfl (by decide +kernel) ⟨by decide, by decide⟩ (ci := 7) rfl 0 rfl [0, 1, 2, 3, 4, 5, 6, 7, 8] (by decide) rfl rfl rfl (by simp [Value.category]) ⟨by decide, by decide⟩ dX7_isStitch_12 (fun v H locs hp hw => ?_)
  obtain rfl := hp
  refine W.eq (g2 := F0 m 15 ls [vN (sumM (K r) (w r)), vN (0), vZ (x)]) rfl ?_
  refine k_iconstN hm 1 dX7_isStitch_15 ?_
  refine k_isubN hm (by omega) dX7_isStitch_16 ?_
  refine k_callSr (n := 3) (As := [vZ (x), vN (0), vN ((sumM (K r) (w r)) - 1)]) (rest := []) hm hw hl (c_m_in l G x ((0 : Nat) : Int) (((sumM (K r) (w r)) - 1 : Nat) : Int) (by first | assumption | omega)) gX7_isStitch_X7_in rfl (by decide +kernel) ⟨by decide, by decide⟩ [] (by decide) rfl rfl rfl (by simp [Value.category]) ⟨by decide, by decide⟩ dX7_isStitch_17 (fun v H locs hp hw => ?_)
  obtain rfl := hp
  refine W.eq (g2 := F0 m 20 ls [vB (decide (((0 : Nat) : Int) ≤ x ∧ x ≤ (((sumM (K r) (w r)) - 1 : Nat) : Int)))]) rfl ?_
  refine k_ifeqB (tgt := 27) hm dX7_isStitch_20 (by decide) (fun c_5 => ?_) (fun c_5 => ?_)
  · have c_5d := of_decide_eq_false c_5
    refine k_iconstN hm 0 dX7_isStitch_27 ?_
    exact k_iret (post := _) hm hQ rfl (kN_bool false) hw (⟨(congrArg (fun b => some (vB b)) (decide_eq_false (by omega))).symm, rfl⟩) (by omega) (by omega) dX7_isStitch_28
  · have c_5d := of_decide_eq_true c_5
    refine k_iconstN hm 1 dX7_isStitch_23 ?_
    refine k_goto (tgt := 28) hm dX7_isStitch_24 (by decide) ?_
    exact k_iret (post := _) hm hQ rfl (kN_bool true) hw (⟨(congrArg (fun b => some (vB b)) (decide_eq_true (by omega))).symm, rfl⟩) (by omega) (by omega) dX7_isStitch_28
set_option maxHeartbeats 4000000 in
set_option maxRecDepth 100000 in
theorem c_m_makerOf (l : Launch) (G : kG) (D : Nat → Nat) (sa : Nat → Int64) (pa : Nat → Int64) (pn : Nat) (tx : Nat → Nat) (tn : Nat) (rf : Nat) (ro : Nat → Nat) (wk : Nat) (mb : Nat → Nat) (so : Nat) (kd : Nat → Nat) (nu : Nat → Nat) (it : Nat) (ti : Nat) (rd : Nat) (ad : Nat → Int64) (R : Nat) (sp : Bool) (K : Nat → Nat → Nat) (w : Nat → Nat) (y : Nat → Nat) (r : Nat) (x : Nat) (hmo : MOk sa R sp K w y) (hr : r < R) (hx : x < sumM (K r) (w r)) : kCR l yX7_makerOf wsX7_makerOf 1 22 G [.ref (D 0), vN (r), vN (x)] (wMod G D sa pa pn tx tn rf ro wk mb so kd nu it ti rd ad) (fun vv => ∃ (i : Nat), vv = some (vN (i)) ∧ (isMk (K r) x i) ∧ (i < w r)) := by
  refine kCM.of (cc := cX7_makerOf) (maxL := 5) (ret := (some .int)) (by decide) rfl (Nat.le_of_ble_eq_true rfl) ?_
  intro p e s m args below meth c A ls Qz hQ hin hm hw hl
  have hl : lv_has ls 5 [(0, .ref (D 0)), (1, vN (r)), (2, vN (x))] := hl
  have hR := hmo.1.1
  have hb := hmo.1.2.1 r hr
  have hk0 := hb.2.2 0 (by omega)
  refine k_iconstN hm 0 dX7_makerOf_0 ?_
  refine k_istore_n hm hl [(3, vN (0)), (0, .ref (D 0)), (1, vN (r)), (2, vN (x))] (by decide) rfl dX7_makerOf_1 (fun ls hl => ?_)
  refine k_aload_n hm hl 1 rfl dX7_makerOf_2 ?_
  refine k_iload_n hm hl 2 rfl dX7_makerOf_3 ?_
  refine k_iconstN hm 0 dX7_makerOf_4 ?_
  refine k_callVr (n := 2) (As := [vN (r), vN (0)]) (rest := []) hm hw hl (c_m_kindOf l G D sa pa pn tx tn rf ro wk mb so kd nu it ti rd ad R sp K w y r 0 (by first | assumption | omega) (by first | assumption | omega) (by first | assumption | omega)) gX7_makerOf_X7_kindOf rfl (by decide +kernel) ⟨by decide, by decide⟩ (ci := 7) rfl 0 rfl [0, 1, 2, 3, 4, 5, 6, 7, 8] (by decide) rfl rfl rfl (by simp [Value.category]) ⟨by decide, by decide⟩ dX7_makerOf_5 (fun v H locs hp hw => ?_)
  obtain rfl := hp
  refine W.eq (g2 := F0 m 8 ls [vN (K r 0)]) rfl ?_
  refine k_iconstN hm 1 dX7_makerOf_8 ?_
  refine k_icmpne (tgt := 16) hm dX7_makerOf_9 (by decide) (by omega) (fun c_2 => ?_) (fun c_2 => ?_)
  · refine k_iconstN hm 1 dX7_makerOf_16 ?_
    refine k_istore hm hl [(4, vN (1)), (3, vN (0)), (0, .ref (D 0)), (1, vN (r)), (2, vN (x))] (by decide) rfl dX7_makerOf_17 (fun ls hl => ?_)
    have loop_19 : ∀ (fu : Nat) (i : Nat) (q : Nat) (hi : i < w r) (hq : q = sumM (K r) (i + 1)) (hle : sumM (K r) i ≤ x) (H : Heap) (locs : List Loc) (ls : Array Slot), w r - i < fu → kW G A s (wMod G D sa pa pn tx tn rf ro wk mb so kd nu it ti rd ad) H locs → lv_has ls 5 [(0, .ref (D 0)), (1, vN (r)), (2, vN (x)), (3, vN (i)), (4, vN (q))] → W p l e { frames := 1, cells := 0, slots := 0, locals := 22 } s m args below meth c H locs 0 0 Qz (F0 m 19 ls []) := by
      intro fu
      induction fu with
      | zero => intro i q hi hq hle H locs ls hfu; exact absurd hfu (Nat.not_lt_zero _)
      | succ fu ih_19 =>
        intro i q hi hq hle H locs ls hfu hw hl
        refine k_iload hm hl 4 rfl dX7_makerOf_19 ?_
        have hs3 := sumM_mn (k := K r) (show i + 1 ≤ w r by omega)
        refine k_iload_n hm hl 2 rfl dX7_makerOf_21 ?_
        refine k_icmpgt (tgt := 51) hm dX7_makerOf_22 (by decide) (by omega) (fun c_3 => ?_) (fun c_3 => ?_)
        · refine k_iload_n hm hl 3 rfl dX7_makerOf_51 ?_
          exact k_iret (post := _) hm hQ rfl rfl hw (⟨⟨i, rfl, ⟨hle, by omega⟩, hi⟩, rfl⟩) (by omega) (by omega) dX7_makerOf_52
        · have hin9 : i + 1 < w r := Nat.lt_of_not_le (fun z => by have z2 : w r = i + 1 := (by omega); have z3 : sumM (K r) (w r) = sumM (K r) (i + 1) := congrArg _ z2; omega)
          have hk := hb.2.2 (i + 1) hin9
          have hs2 : sumM (K r) (i + 1 + 1) = sumM (K r) (i + 1) + mdB (K r (i + 1)) := rfl
          refine k_iincN hm hl 3 1 rfl [(3, vN (i + 1)), (0, .ref (D 0)), (1, vN (r)), (2, vN (x)), (4, vN (q))] (by decide) rfl dX7_makerOf_25 (fun ls hl => ?_)
          refine k_iload hm hl 4 rfl dX7_makerOf_28 ?_
          refine k_aload_n hm hl 1 rfl dX7_makerOf_30 ?_
          refine k_iload_n hm hl 2 rfl dX7_makerOf_31 ?_
          refine k_iload_n hm hl 0 rfl dX7_makerOf_32 ?_
          refine k_callVr (n := 2) (As := [vN (r), vN (i + 1)]) (rest := [vN (q)]) hm hw hl (c_m_kindOf l G D sa pa pn tx tn rf ro wk mb so kd nu it ti rd ad R sp K w y r (i + 1) (by first | assumption | omega) (by first | assumption | omega) (by first | assumption | omega)) gX7_makerOf_X7_kindOf rfl (by decide +kernel) ⟨by decide, by decide⟩ (ci := 7) rfl 0 rfl [0, 1, 2, 3, 4, 5, 6, 7, 8] (by decide) rfl rfl rfl (by simp [Value.category]) ⟨by decide, by decide⟩ dX7_makerOf_33 (fun v H locs hp hw => ?_)
          obtain rfl := hp
          refine W.eq (g2 := F0 m 36 ls [vN (K r (i + 1)), vN (q)]) rfl ?_
          refine k_iconstN hm 1 dX7_makerOf_36 ?_
          refine k_icmpne (tgt := 44) hm dX7_makerOf_37 (by decide) (by omega) (fun c_5 => ?_) (fun c_5 => ?_)
          · refine k_iconstN hm 1 dX7_makerOf_44 ?_
            refine k_iaddN hm dX7_makerOf_45 ?_
            refine k_istore hm hl [(4, vN (q + 1)), (3, vN (i + 1)), (0, .ref (D 0)), (1, vN (r)), (2, vN (x))] (by decide) rfl dX7_makerOf_46 (fun ls hl => ?_)
            refine k_goto (tgt := 19) hm dX7_makerOf_48 (by decide) ?_
            exact ih_19  (i + 1) (q + 1) hin9 (by rw [hs2, mdB, if_neg (by omega)]; omega) (by omega) _ _ _ (by omega) hw (lv_sub hl [2, 3, 4, 1, 0] rfl)
          · refine k_iconstN hm 2 dX7_makerOf_40 ?_
            refine k_goto (tgt := 45) hm dX7_makerOf_41 (by decide) ?_
            refine k_iaddN hm dX7_makerOf_45 ?_
            refine k_istore hm hl [(4, vN (q + 2)), (3, vN (i + 1)), (0, .ref (D 0)), (1, vN (r)), (2, vN (x))] (by decide) rfl dX7_makerOf_46 (fun ls hl => ?_)
            refine k_goto (tgt := 19) hm dX7_makerOf_48 (by decide) ?_
            exact ih_19  (i + 1) (q + 2) hin9 (by rw [hs2, mdB, if_pos (by omega)]; omega) (by omega) _ _ _ (by omega) hw (lv_sub hl [2, 3, 4, 1, 0] rfl)
    exact loop_19 (w r - 0 + 1) 0 1 (by first | assumption | omega) (by simp only [sumM, mdB]; rw [if_neg (by omega)]) (Nat.zero_le _) _ _ _ (Nat.lt_succ_self _) hw (lv_sub hl [2, 3, 4, 1, 0] rfl)
  · refine k_iconstN hm 2 dX7_makerOf_12 ?_
    refine k_goto (tgt := 17) hm dX7_makerOf_13 (by decide) ?_
    refine k_istore hm hl [(4, vN (2)), (3, vN (0)), (0, .ref (D 0)), (1, vN (r)), (2, vN (x))] (by decide) rfl dX7_makerOf_17 (fun ls hl => ?_)
    have loop_19 : ∀ (fu : Nat) (i : Nat) (q : Nat) (hi : i < w r) (hq : q = sumM (K r) (i + 1)) (hle : sumM (K r) i ≤ x) (H : Heap) (locs : List Loc) (ls : Array Slot), w r - i < fu → kW G A s (wMod G D sa pa pn tx tn rf ro wk mb so kd nu it ti rd ad) H locs → lv_has ls 5 [(0, .ref (D 0)), (1, vN (r)), (2, vN (x)), (3, vN (i)), (4, vN (q))] → W p l e { frames := 1, cells := 0, slots := 0, locals := 22 } s m args below meth c H locs 0 0 Qz (F0 m 19 ls []) := by
      intro fu
      induction fu with
      | zero => intro i q hi hq hle H locs ls hfu; exact absurd hfu (Nat.not_lt_zero _)
      | succ fu ih_19 =>
        intro i q hi hq hle H locs ls hfu hw hl
        refine k_iload hm hl 4 rfl dX7_makerOf_19 ?_
        have hs3 := sumM_mn (k := K r) (show i + 1 ≤ w r by omega)
        refine k_iload_n hm hl 2 rfl dX7_makerOf_21 ?_
        refine k_icmpgt (tgt := 51) hm dX7_makerOf_22 (by decide) (by omega) (fun c_6 => ?_) (fun c_6 => ?_)
        · refine k_iload_n hm hl 3 rfl dX7_makerOf_51 ?_
          exact k_iret (post := _) hm hQ rfl rfl hw (⟨⟨i, rfl, ⟨hle, by omega⟩, hi⟩, rfl⟩) (by omega) (by omega) dX7_makerOf_52
        · have hin9 : i + 1 < w r := Nat.lt_of_not_le (fun z => by have z2 : w r = i + 1 := (by omega); have z3 : sumM (K r) (w r) = sumM (K r) (i + 1) := congrArg _ z2; omega)
          have hk := hb.2.2 (i + 1) hin9
          have hs2 : sumM (K r) (i + 1 + 1) = sumM (K r) (i + 1) + mdB (K r (i + 1)) := rfl
          refine k_iincN hm hl 3 1 rfl [(3, vN (i + 1)), (0, .ref (D 0)), (1, vN (r)), (2, vN (x)), (4, vN (q))] (by decide) rfl dX7_makerOf_25 (fun ls hl => ?_)
          refine k_iload hm hl 4 rfl dX7_makerOf_28 ?_
          refine k_aload_n hm hl 1 rfl dX7_makerOf_30 ?_
          refine k_iload_n hm hl 2 rfl dX7_makerOf_31 ?_
          refine k_iload_n hm hl 0 rfl dX7_makerOf_32 ?_
          refine k_callVr (n := 2) (As := [vN (r), vN (i + 1)]) (rest := [vN (q)]) hm hw hl (c_m_kindOf l G D sa pa pn tx tn rf ro wk mb so kd nu it ti rd ad R sp K w y r (i + 1) (by first | assumption | omega) (by first | assumption | omega) (by first | assumption | omega)) gX7_makerOf_X7_kindOf rfl (by decide +kernel) ⟨by decide, by decide⟩ (ci := 7) rfl 0 rfl [0, 1, 2, 3, 4, 5, 6, 7, 8] (by decide) rfl rfl rfl (by simp [Value.category]) ⟨by decide, by decide⟩ dX7_makerOf_33 (fun v H locs hp hw => ?_)
          obtain rfl := hp
          refine W.eq (g2 := F0 m 36 ls [vN (K r (i + 1)), vN (q)]) rfl ?_
          refine k_iconstN hm 1 dX7_makerOf_36 ?_
          refine k_icmpne (tgt := 44) hm dX7_makerOf_37 (by decide) (by omega) (fun c_8 => ?_) (fun c_8 => ?_)
          · refine k_iconstN hm 1 dX7_makerOf_44 ?_
            refine k_iaddN hm dX7_makerOf_45 ?_
            refine k_istore hm hl [(4, vN (q + 1)), (3, vN (i + 1)), (0, .ref (D 0)), (1, vN (r)), (2, vN (x))] (by decide) rfl dX7_makerOf_46 (fun ls hl => ?_)
            refine k_goto (tgt := 19) hm dX7_makerOf_48 (by decide) ?_
            exact ih_19  (i + 1) (q + 1) hin9 (by rw [hs2, mdB, if_neg (by omega)]; omega) (by omega) _ _ _ (by omega) hw (lv_sub hl [2, 3, 4, 1, 0] rfl)
          · refine k_iconstN hm 2 dX7_makerOf_40 ?_
            refine k_goto (tgt := 45) hm dX7_makerOf_41 (by decide) ?_
            refine k_iaddN hm dX7_makerOf_45 ?_
            refine k_istore hm hl [(4, vN (q + 2)), (3, vN (i + 1)), (0, .ref (D 0)), (1, vN (r)), (2, vN (x))] (by decide) rfl dX7_makerOf_46 (fun ls hl => ?_)
            refine k_goto (tgt := 19) hm dX7_makerOf_48 (by decide) ?_
            exact ih_19  (i + 1) (q + 2) hin9 (by rw [hs2, mdB, if_pos (by omega)]; omega) (by omega) _ _ _ (by omega) hw (lv_sub hl [2, 3, 4, 1, 0] rfl)
    exact loop_19 (w r - 0 + 1) 0 2 (by first | assumption | omega) (by simp only [sumM, mdB]; rw [if_pos (by omega)]) (Nat.zero_le _) _ _ _ (Nat.lt_succ_self _) hw (lv_sub hl [2, 3, 4, 1, 0] rfl)
set_option maxHeartbeats 4000000 in
set_option maxRecDepth 100000 in
theorem c_m_usedBy (l : Launch) (G : kG) (D : Nat → Nat) (sa : Nat → Int64) (pa : Nat → Int64) (pn : Nat) (tx : Nat → Nat) (tn : Nat) (rf : Nat) (ro : Nat → Nat) (wk : Nat) (mb : Nat → Nat) (so : Nat) (kd : Nat → Nat) (nu : Nat → Nat) (it : Nat) (ti : Nat) (rd : Nat) (ad : Nat → Int64) (R : Nat) (sp : Bool) (K : Nat → Nat → Nat) (w : Nat → Nat) (y : Nat → Nat) (r : Nat) (i : Nat) (hmo : MOk sa R sp K w y) (hr : r < R) (hi : i ≤ w r) : kCR l yX7_usedBy wsX7_usedBy 1 22 G [.ref (D 0), vN (r), vN (i)] (wMod G D sa pa pn tx tn rf ro wk mb so kd nu it ti rd ad) (fun vv => vv = some (vN (sumU (K r) i))) := by
  refine kCM.of (cc := cX7_usedBy) (maxL := 5) (ret := (some .int)) (by decide) rfl (Nat.le_of_ble_eq_true rfl) ?_
  intro p e s m args below meth c A ls Qz hQ hin hm hw hl
  have hl : lv_has ls 5 [(0, .ref (D 0)), (1, vN (r)), (2, vN (i))] := hl
  have hR := hmo.1.1
  have hb := hmo.1.2.1 r hr
  refine k_iconstN hm 0 dX7_usedBy_0 ?_
  refine k_istore_n hm hl [(3, vN (0)), (0, .ref (D 0)), (1, vN (r)), (2, vN (i))] (by decide) rfl dX7_usedBy_1 (fun ls hl => ?_)
  refine k_iconstN hm 0 dX7_usedBy_2 ?_
  refine k_istore hm hl [(4, vN (0)), (3, vN (0)), (0, .ref (D 0)), (1, vN (r)), (2, vN (i))] (by decide) rfl dX7_usedBy_3 (fun ls hl => ?_)
  have loop_5 : ∀ (fu : Nat) (n : Nat) (j : Nat) (hj : j ≤ i) (hn : n = sumU (K r) j) (H : Heap) (locs : List Loc) (ls : Array Slot), i - j < fu → kW G A s (wMod G D sa pa pn tx tn rf ro wk mb so kd nu it ti rd ad) H locs → lv_has ls 5 [(0, .ref (D 0)), (1, vN (r)), (2, vN (i)), (3, vN (n)), (4, vN (j))] → W p l e { frames := 1, cells := 0, slots := 0, locals := 22 } s m args below meth c H locs 0 0 Qz (F0 m 5 ls []) := by
    intro fu
    induction fu with
    | zero => intro n j hj hn H locs ls hfu; exact absurd hfu (Nat.not_lt_zero _)
    | succ fu ih_5 =>
      intro n j hj hn H locs ls hfu hw hl
      refine k_iload hm hl 4 rfl dX7_usedBy_5 ?_
      refine k_iload_n hm hl 2 rfl dX7_usedBy_7 ?_
      refine k_icmpge (tgt := 36) hm dX7_usedBy_8 (by decide) (by omega) (fun c_1 => ?_) (fun c_1 => ?_)
      · refine k_iload_n hm hl 3 rfl dX7_usedBy_36 ?_
        exact k_iret (post := _) hm hQ rfl rfl hw (⟨by rw [hn, show j = i by omega], rfl⟩) (by omega) (by omega) dX7_usedBy_37
      · have hk := hb.2.2 j (by omega)
        refine k_iload_n hm hl 3 rfl dX7_usedBy_11 ?_
        refine k_aload_n hm hl 0 rfl dX7_usedBy_12 ?_
        refine k_iload_n hm hl 1 rfl dX7_usedBy_13 ?_
        refine k_iload hm hl 4 rfl dX7_usedBy_14 ?_
        refine k_callVr (n := 2) (As := [vN (r), vN (j)]) (rest := [vN (n)]) hm hw hl (c_m_kindOf l G D sa pa pn tx tn rf ro wk mb so kd nu it ti rd ad R sp K w y r j (by first | assumption | omega) (by first | assumption | omega) (by first | assumption | omega)) gX7_usedBy_X7_kindOf rfl (by decide +kernel) ⟨by decide, by decide⟩ (ci := 7) rfl 0 rfl [0, 1, 2, 3, 4, 5, 6, 7, 8] (by decide) rfl rfl rfl (by simp [Value.category]) ⟨by decide, by decide⟩ dX7_usedBy_16 (fun v H locs hp hw => ?_)
        obtain rfl := hp
        refine W.eq (g2 := F0 m 19 ls [vN (K r j), vN (n)]) rfl ?_
        refine k_iconstN hm 2 dX7_usedBy_19 ?_
        refine k_icmpne (tgt := 27) hm dX7_usedBy_20 (by decide) (by omega) (fun c_3 => ?_) (fun c_3 => ?_)
        · refine k_iconstN hm 1 dX7_usedBy_27 ?_
          refine k_iaddN hm dX7_usedBy_28 ?_
          refine k_istore_n hm hl [(3, vN (n + 1)), (0, .ref (D 0)), (1, vN (r)), (2, vN (i)), (4, vN (j))] (by decide) rfl dX7_usedBy_29 (fun ls hl => ?_)
          refine k_iincN hm hl 4 1 rfl [(4, vN (j + 1)), (3, vN (n + 1)), (0, .ref (D 0)), (1, vN (r)), (2, vN (i))] (by decide) rfl dX7_usedBy_30 (fun ls hl => ?_)
          refine k_goto (tgt := 5) hm dX7_usedBy_33 (by decide) ?_
          exact ih_5  (n + 1) (j + 1) (by first | assumption | omega) (by simp only [sumU, usB]; rw [hn, if_neg (by omega)]) _ _ _ (by omega) hw (lv_sub hl [2, 3, 4, 1, 0] rfl)
        · refine k_iconstN hm 2 dX7_usedBy_23 ?_
          refine k_goto (tgt := 28) hm dX7_usedBy_24 (by decide) ?_
          refine k_iaddN hm dX7_usedBy_28 ?_
          refine k_istore_n hm hl [(3, vN (n + 2)), (0, .ref (D 0)), (1, vN (r)), (2, vN (i)), (4, vN (j))] (by decide) rfl dX7_usedBy_29 (fun ls hl => ?_)
          refine k_iincN hm hl 4 1 rfl [(4, vN (j + 1)), (3, vN (n + 2)), (0, .ref (D 0)), (1, vN (r)), (2, vN (i))] (by decide) rfl dX7_usedBy_30 (fun ls hl => ?_)
          refine k_goto (tgt := 5) hm dX7_usedBy_33 (by decide) ?_
          exact ih_5  (n + 2) (j + 1) (by first | assumption | omega) (by simp only [sumU, usB]; rw [hn, if_pos (by omega)]) _ _ _ (by omega) hw (lv_sub hl [2, 3, 4, 1, 0] rfl)
  exact loop_5 (i - 0 + 1) 0 0 (by first | assumption | omega) rfl _ _ _ (Nat.lt_succ_self _) hw (lv_sub hl [2, 3, 4, 1, 0] rfl)
set_option maxHeartbeats 4000000 in
set_option maxRecDepth 100000 in
theorem c_m_parentOf (l : Launch) (G : kG) (D : Nat → Nat) (sa : Nat → Int64) (pa : Nat → Int64) (pn : Nat) (tx : Nat → Nat) (tn : Nat) (rf : Nat) (ro : Nat → Nat) (wk : Nat) (mb : Nat → Nat) (so : Nat) (kd : Nat → Nat) (nu : Nat → Nat) (it : Nat) (ti : Nat) (rd : Nat) (ad : Nat → Int64) (R : Nat) (sp : Bool) (K : Nat → Nat → Nat) (w : Nat → Nat) (y : Nat → Nat) (r : Nat) (x : Nat) (hmo : MOk sa R sp K w y) (hr : r < R) (hx : x < sumM (K r) (w r)) : kCR l yX7_parentOf wsX7_parentOf 2 46 G [.ref (D 0), vN (r), vN (x)] (wMod G D sa pa pn tx tn rf ro wk mb so kd nu it ti rd ad) (fun vv => ∃ (i : Nat), vv = some (vN (sumU (K r) i)) ∧ (isMk (K r) x i) ∧ (i < w r)) := by
  refine kCM.of (cc := cX7_parentOf) (maxL := 3) (ret := (some .int)) (by decide) rfl (Nat.le_of_ble_eq_true rfl) ?_
  intro p e s m args below meth c A ls Qz hQ hin hm hw hl
  have hl : lv_has ls 3 [(0, .ref (D 0)), (1, vN (r)), (2, vN (x))] := hl
  refine k_aload_n hm hl 0 rfl dX7_parentOf_0 ?_
  refine k_iload_n hm hl 1 rfl dX7_parentOf_1 ?_
  refine k_aload_n hm hl 0 rfl dX7_parentOf_2 ?_
  refine k_iload_n hm hl 1 rfl dX7_parentOf_3 ?_
  refine k_iload_n hm hl 2 rfl dX7_parentOf_4 ?_
  refine k_callVr (n := 2) (As := [vN (r), vN (x)]) (rest := [vN (r), .ref (D 0)]) hm hw hl (c_m_makerOf l G D sa pa pn tx tn rf ro wk mb so kd nu it ti rd ad R sp K w y r x (by first | assumption | omega) (by first | assumption | omega) (by first | assumption | omega)) gX7_parentOf_X7_makerOf rfl (by decide +kernel) ⟨by decide, by decide⟩ (ci := 7) rfl 0 rfl [0, 1, 2, 3, 4, 5, 6, 7, 8] (by decide) rfl rfl rfl (by simp [Value.category]) ⟨by decide, by decide⟩ dX7_parentOf_5 (fun v H locs hp hw => ?_)
  obtain ⟨i_2, rfl, hmk_3, hi_4⟩ := hp
  refine W.eq (g2 := F0 m 8 ls [vN (i_2), vN (r), .ref (D 0)]) rfl ?_
  have hmk9 := hmk_3
  have hi9 := hi_4
  refine k_callVr (n := 2) (As := [vN (r), vN (i_2)]) (rest := []) hm hw hl (c_m_usedBy l G D sa pa pn tx tn rf ro wk mb so kd nu it ti rd ad R sp K w y r i_2 (by first | assumption | omega) (by first | assumption | omega) (by omega)) gX7_parentOf_X7_usedBy rfl (by decide +kernel) ⟨by decide, by decide⟩ (ci := 7) rfl 0 rfl [0, 1, 2, 3, 4, 5, 6, 7, 8] (by decide) rfl rfl rfl (by simp [Value.category]) ⟨by decide, by decide⟩ dX7_parentOf_8 (fun v H locs hp hw => ?_)
  obtain rfl := hp
  refine W.eq (g2 := F0 m 11 ls [vN (sumU (K r) i_2)]) rfl ?_
  exact k_iret (post := _) hm hQ rfl rfl hw (⟨⟨_, rfl, hmk9, hi9⟩, rfl⟩) (by omega) (by omega) dX7_parentOf_11
set_option maxHeartbeats 4000000 in
set_option maxRecDepth 100000 in
theorem c_m_maker_ok (l : Launch) (G : kG) (D : Nat → Nat) (sa : Nat → Int64) (pa : Nat → Int64) (pn : Nat) (tx : Nat → Nat) (tn : Nat) (rf : Nat) (ro : Nat → Nat) (wk : Nat) (mb : Nat → Nat) (so : Nat) (kd : Nat → Nat) (nu : Nat → Nat) (it : Nat) (ti : Nat) (rd : Nat) (ad : Nat → Int64) (R : Nat) (sp : Bool) (K : Nat → Nat → Nat) (w : Nat → Nat) (y : Nat → Nat) (r : Nat) (x : Nat) (hmo : MOk sa R sp K w y) (hr : r < R) (hx : x < sumM (K r) (w r)) : kCM l yX7_maker wsX7_maker 3 67 0 0 G [.ref (D 0), vN (r), vN (x)] (wMod G D sa pa pn tx tn rf ro wk mb so kd nu it ti rd ad) (fun vv uu => ∃ (i : Nat), vv = some (vN (i)) ∧ uu = wMod G D sa pa pn tx tn 0 ro wk mb so kd nu it ti rd ad ∧ (isMk (K r) x i)) := by
  refine kCM.of (cc := cX7_maker) (maxL := 3) (ret := (some .int)) (by decide) rfl (Nat.le_of_ble_eq_true rfl) ?_
  intro p e s m args below meth c A ls Qz hQ hin hm hw hl
  have hl : lv_has ls 3 [(0, .ref (D 0)), (1, vN (r)), (2, vN (x))] := hl
  have hR := hmo.1.1
  have hb := hmo.1.2.1 r hr
  refine k_aload_n hm hl 0 rfl dX7_maker_0 ?_
  refine k_aload_n hm hl 0 rfl dX7_maker_1 ?_
  refine k_iload_n hm hl 1 rfl dX7_maker_2 ?_
  refine k_iload_n hm hl 2 rfl dX7_maker_3 ?_
  refine k_callVr (n := 2) (As := [vN (r), vN (x)]) (rest := [.ref (D 0)]) hm hw hl (c_m_isStitch_2 l G D sa pa pn tx tn rf ro wk mb so kd nu it ti rd ad R sp K w y r ((x : Nat) : Int) (by first | assumption | omega) (by first | assumption | omega) (by first | assumption | omega)) gX7_maker_X7_isStitch rfl (by decide +kernel) ⟨by decide, by decide⟩ (ci := 7) rfl 0 rfl [0, 1, 2, 3, 4, 5, 6, 7, 8] (by decide) rfl rfl rfl (by simp [Value.category]) ⟨by decide, by decide⟩ dX7_maker_4 (fun v H locs hp hw => ?_)
  obtain rfl := hp
  refine W.eq (g2 := F0 m 7 ls [vB (decide (0 ≤ ((x : Nat) : Int) ∧ ((x : Nat) : Int) < (sumM (K r) (w r) : Int))), .ref (D 0)]) rfl ?_
  refine k_ifeqB (tgt := 14) hm dX7_maker_7 (by decide) (fun c_2 => absurd (of_decide_eq_false c_2) (by omega)) (fun c_2 => ?_)
  refine k_iconstN hm 0 dX7_maker_10 ?_
  refine k_goto (tgt := 15) hm dX7_maker_11 (by decide) ?_
  refine k_callV (n := 1) (As := [vN (0)]) (rest := []) (wr := []) hm hw hl (c_m_throwsAt l G D sa pa pn tx tn rf ro wk mb so kd nu it ti rd ad 0 (by first | assumption | omega)) gX7_maker_X7_throwsAt rfl (by decide +kernel) ⟨by decide, by decide⟩ (ci := 7) rfl 0 rfl [0, 1, 2, 3, 4, 5, 6, 7, 8] [] (by decide) rfl rfl (by decide) (by decide) rfl rfl (by simp [Value.category]) ⟨by decide, by decide⟩ dX7_maker_15 (fun v w1 H locs hp hw => ?_)
  obtain ⟨rfl, rfl⟩ := hp
  have hw := hw.sub (ws' := wMod G D sa pa pn tx tn 0 ro wk mb so kd nu it ti rd ad) [0, 1, 2, 3, 4, 5, 6, 7, 8] (by decide) rfl
  refine W.eq (g2 := F0 m 18 ls [vB (decide (0 < 0))]) rfl ?_
  refine k_ifeqB (tgt := 25) hm dX7_maker_18 (by decide) (fun c_4 => ?_) (fun c_4 => absurd (of_decide_eq_true c_4) (by omega))
  refine k_aload_n hm hl 0 rfl dX7_maker_25 ?_
  refine k_iload_n hm hl 1 rfl dX7_maker_26 ?_
  refine k_iload_n hm hl 2 rfl dX7_maker_27 ?_
  refine k_callVr (n := 2) (As := [vN (r), vN (x)]) (rest := []) hm hw hl (c_m_makerOf l G D sa pa pn tx tn 0 ro wk mb so kd nu it ti rd ad R sp K w y r x (by first | assumption | omega) (by first | assumption | omega) (by first | assumption | omega)) gX7_maker_X7_makerOf rfl (by decide +kernel) ⟨by decide, by decide⟩ (ci := 7) rfl 0 rfl [0, 1, 2, 3, 4, 5, 6, 7, 8] (by decide) rfl rfl rfl (by simp [Value.category]) ⟨by decide, by decide⟩ dX7_maker_28 (fun v H locs hp hw => ?_)
  obtain ⟨i_6, rfl, hmk_7, hi_8⟩ := hp
  refine W.eq (g2 := F0 m 31 ls [vN (i_6)]) rfl ?_
  exact k_iret (post := _) hm hQ rfl rfl hw (⟨_, rfl, rfl, hmk_7⟩) (by omega) (by omega) dX7_maker_31
set_option maxHeartbeats 4000000 in
set_option maxRecDepth 100000 in
theorem c_m_maker_x1 (l : Launch) (G : kG) (D : Nat → Nat) (sa : Nat → Int64) (pa : Nat → Int64) (pn : Nat) (tx : Nat → Nat) (tn : Nat) (rf : Nat) (ro : Nat → Nat) (wk : Nat) (mb : Nat → Nat) (so : Nat) (kd : Nat → Nat) (nu : Nat → Nat) (it : Nat) (ti : Nat) (rd : Nat) (ad : Nat → Int64) (R : Nat) (sp : Bool) (K : Nat → Nat → Nat) (w : Nat → Nat) (y : Nat → Nat) (z : Int) (x : Int) (hmo : MOk sa R sp K w y) (hzz : -2147483648 ≤ z ∧ z < 2147483648) (hzx : -2147483648 ≤ x ∧ x < 2147483648) (hx : ¬ (0 ≤ z ∧ z < (R : Int))) : kCM l yX7_maker wsX7_maker 3 67 0 0 G [.ref (D 0), vZ (z), vZ (x)] (wMod G D sa pa pn tx tn rf ro wk mb so kd nu it ti rd ad) (fun vv uu => vv = some (vN (0)) ∧ uu = wMod G D sa pa pn tx tn 1 ro wk mb so kd nu it ti rd ad) := by
  refine kCM.of (cc := cX7_maker) (maxL := 3) (ret := (some .int)) (by decide) rfl (Nat.le_of_ble_eq_true rfl) ?_
  intro p e s m args below meth c A ls Qz hQ hin hm hw hl
  have hl : lv_has ls 3 [(0, .ref (D 0)), (1, vZ (z)), (2, vZ (x))] := hl
  refine k_aload_n hm hl 0 rfl dX7_maker_0 ?_
  refine k_aload_n hm hl 0 rfl dX7_maker_1 ?_
  refine k_iload_n hm hl 1 rfl dX7_maker_2 ?_
  refine k_iload_n hm hl 2 rfl dX7_maker_3 ?_
  refine k_callVr (n := 2) (As := [vZ (z), vZ (x)]) (rest := [.ref (D 0)]) hm hw hl (c_m_isStitch_1 l G D sa pa pn tx tn rf ro wk mb so kd nu it ti rd ad R sp K w y z x (by first | assumption | omega) (by first | assumption | omega) (by first | assumption | omega) (by first | assumption | omega)) gX7_maker_X7_isStitch rfl (by decide +kernel) ⟨by decide, by decide⟩ (ci := 7) rfl 0 rfl [0, 1, 2, 3, 4, 5, 6, 7, 8] (by decide) rfl rfl rfl (by simp [Value.category]) ⟨by decide, by decide⟩ dX7_maker_4 (fun v H locs hp hw => ?_)
  obtain rfl := hp
  refine W.eq (g2 := F0 m 7 ls [vB (false), .ref (D 0)]) rfl ?_
  refine k_ifeqB (tgt := 14) hm dX7_maker_7 (by decide) (fun _ => ?_) (fun c_2 => absurd c_2 (by decide))
  refine k_iconstN hm 1 dX7_maker_14 ?_
  refine k_callV (n := 1) (As := [vN (1)]) (rest := []) (wr := []) hm hw hl (c_m_throwsAt l G D sa pa pn tx tn rf ro wk mb so kd nu it ti rd ad 1 (by first | assumption | omega)) gX7_maker_X7_throwsAt rfl (by decide +kernel) ⟨by decide, by decide⟩ (ci := 7) rfl 0 rfl [0, 1, 2, 3, 4, 5, 6, 7, 8] [] (by decide) rfl rfl (by decide) (by decide) rfl rfl (by simp [Value.category]) ⟨by decide, by decide⟩ dX7_maker_15 (fun v w1 H locs hp hw => ?_)
  obtain ⟨rfl, rfl⟩ := hp
  have hw := hw.sub (ws' := wMod G D sa pa pn tx tn 1 ro wk mb so kd nu it ti rd ad) [0, 1, 2, 3, 4, 5, 6, 7, 8] (by decide) rfl
  refine W.eq (g2 := F0 m 18 ls [vB (decide (0 < 1))]) rfl ?_
  refine k_ifeqB (tgt := 25) hm dX7_maker_18 (by decide) (fun c_4 => absurd (of_decide_eq_false c_4) (by omega)) (fun c_4 => ?_)
  refine k_iconstN hm 0 dX7_maker_21 ?_
  refine k_goto (tgt := 31) hm dX7_maker_22 (by decide) ?_
  exact k_iret (post := _) hm hQ rfl rfl hw (⟨rfl, rfl⟩) (by omega) (by omega) dX7_maker_31
set_option maxHeartbeats 4000000 in
set_option maxRecDepth 100000 in
theorem c_m_maker_x2 (l : Launch) (G : kG) (D : Nat → Nat) (sa : Nat → Int64) (pa : Nat → Int64) (pn : Nat) (tx : Nat → Nat) (tn : Nat) (rf : Nat) (ro : Nat → Nat) (wk : Nat) (mb : Nat → Nat) (so : Nat) (kd : Nat → Nat) (nu : Nat → Nat) (it : Nat) (ti : Nat) (rd : Nat) (ad : Nat → Int64) (R : Nat) (sp : Bool) (K : Nat → Nat → Nat) (w : Nat → Nat) (y : Nat → Nat) (r : Nat) (x : Int) (hmo : MOk sa R sp K w y) (hzx : -2147483648 ≤ x ∧ x < 2147483648) (hr : r < R) (hx : ¬ (0 ≤ x ∧ x < (sumM (K r) (w r) : Int))) : kCM l yX7_maker wsX7_maker 3 67 0 0 G [.ref (D 0), vN (r), vZ (x)] (wMod G D sa pa pn tx tn rf ro wk mb so kd nu it ti rd ad) (fun vv uu => vv = some (vN (0)) ∧ uu = wMod G D sa pa pn tx tn 1 ro wk mb so kd nu it ti rd ad) := by
  refine kCM.of (cc := cX7_maker) (maxL := 3) (ret := (some .int)) (by decide) rfl (Nat.le_of_ble_eq_true rfl) ?_
  intro p e s m args below meth c A ls Qz hQ hin hm hw hl
  have hl : lv_has ls 3 [(0, .ref (D 0)), (1, vN (r)), (2, vZ (x))] := hl
  have hR := hmo.1.1
  have hb := hmo.1.2.1 r hr
  refine k_aload_n hm hl 0 rfl dX7_maker_0 ?_
  refine k_aload_n hm hl 0 rfl dX7_maker_1 ?_
  refine k_iload_n hm hl 1 rfl dX7_maker_2 ?_
  refine k_iload_n hm hl 2 rfl dX7_maker_3 ?_
  refine k_callVr (n := 2) (As := [vN (r), vZ (x)]) (rest := [.ref (D 0)]) hm hw hl (c_m_isStitch_2 l G D sa pa pn tx tn rf ro wk mb so kd nu it ti rd ad R sp K w y r x (by first | assumption | omega) (by first | assumption | omega) (by first | assumption | omega)) gX7_maker_X7_isStitch rfl (by decide +kernel) ⟨by decide, by decide⟩ (ci := 7) rfl 0 rfl [0, 1, 2, 3, 4, 5, 6, 7, 8] (by decide) rfl rfl rfl (by simp [Value.category]) ⟨by decide, by decide⟩ dX7_maker_4 (fun v H locs hp hw => ?_)
  obtain rfl := hp
  refine W.eq (g2 := F0 m 7 ls [vB (decide (0 ≤ x ∧ x < (sumM (K r) (w r) : Int))), .ref (D 0)]) rfl ?_
  refine k_ifeqB (tgt := 14) hm dX7_maker_7 (by decide) (fun c_2 => ?_) (fun c_2 => absurd (of_decide_eq_true c_2) (by omega))
  refine k_iconstN hm 1 dX7_maker_14 ?_
  refine k_callV (n := 1) (As := [vN (1)]) (rest := []) (wr := []) hm hw hl (c_m_throwsAt l G D sa pa pn tx tn rf ro wk mb so kd nu it ti rd ad 1 (by first | assumption | omega)) gX7_maker_X7_throwsAt rfl (by decide +kernel) ⟨by decide, by decide⟩ (ci := 7) rfl 0 rfl [0, 1, 2, 3, 4, 5, 6, 7, 8] [] (by decide) rfl rfl (by decide) (by decide) rfl rfl (by simp [Value.category]) ⟨by decide, by decide⟩ dX7_maker_15 (fun v w1 H locs hp hw => ?_)
  obtain ⟨rfl, rfl⟩ := hp
  have hw := hw.sub (ws' := wMod G D sa pa pn tx tn 1 ro wk mb so kd nu it ti rd ad) [0, 1, 2, 3, 4, 5, 6, 7, 8] (by decide) rfl
  refine W.eq (g2 := F0 m 18 ls [vB (decide (0 < 1))]) rfl ?_
  refine k_ifeqB (tgt := 25) hm dX7_maker_18 (by decide) (fun c_4 => absurd (of_decide_eq_false c_4) (by omega)) (fun c_4 => ?_)
  refine k_iconstN hm 0 dX7_maker_21 ?_
  refine k_goto (tgt := 31) hm dX7_maker_22 (by decide) ?_
  exact k_iret (post := _) hm hQ rfl rfl hw (⟨rfl, rfl⟩) (by omega) (by omega) dX7_maker_31
set_option maxHeartbeats 4000000 in
set_option maxRecDepth 100000 in
theorem c_m_parent_ok (l : Launch) (G : kG) (D : Nat → Nat) (sa : Nat → Int64) (pa : Nat → Int64) (pn : Nat) (tx : Nat → Nat) (tn : Nat) (rf : Nat) (ro : Nat → Nat) (wk : Nat) (mb : Nat → Nat) (so : Nat) (kd : Nat → Nat) (nu : Nat → Nat) (it : Nat) (ti : Nat) (rd : Nat) (ad : Nat → Int64) (R : Nat) (sp : Bool) (K : Nat → Nat → Nat) (w : Nat → Nat) (y : Nat → Nat) (r : Nat) (x : Nat) (hmo : MOk sa R sp K w y) (hr : r < R) (hx : x < sumM (K r) (w r)) : kCM l yX7_parent wsX7_parent 3 68 0 0 G [.ref (D 0), vN (r), vN (x)] (wMod G D sa pa pn tx tn rf ro wk mb so kd nu it ti rd ad) (fun vv uu => ∃ (v : Int), vv = some (vZ (v)) ∧ uu = wMod G D sa pa pn tx tn 0 ro wk mb so kd nu it ti rd ad ∧ (isPar K r x v)) := by
  refine kCM.of (cc := cX7_parent) (maxL := 3) (ret := (some .int)) (by decide) rfl (Nat.le_of_ble_eq_true rfl) ?_
  intro p e s m args below meth c A ls Qz hQ hin hm hw hl
  have hl : lv_has ls 3 [(0, .ref (D 0)), (1, vN (r)), (2, vN (x))] := hl
  have hR := hmo.1.1
  have hb := hmo.1.2.1 r hr
  refine k_aload_n hm hl 0 rfl dX7_parent_0 ?_
  refine k_aload_n hm hl 0 rfl dX7_parent_1 ?_
  refine k_iload_n hm hl 1 rfl dX7_parent_2 ?_
  refine k_iload_n hm hl 2 rfl dX7_parent_3 ?_
  refine k_callVr (n := 2) (As := [vN (r), vN (x)]) (rest := [.ref (D 0)]) hm hw hl (c_m_isStitch_2 l G D sa pa pn tx tn rf ro wk mb so kd nu it ti rd ad R sp K w y r ((x : Nat) : Int) (by first | assumption | omega) (by first | assumption | omega) (by first | assumption | omega)) gX7_parent_X7_isStitch rfl (by decide +kernel) ⟨by decide, by decide⟩ (ci := 7) rfl 0 rfl [0, 1, 2, 3, 4, 5, 6, 7, 8] (by decide) rfl rfl rfl (by simp [Value.category]) ⟨by decide, by decide⟩ dX7_parent_4 (fun v H locs hp hw => ?_)
  obtain rfl := hp
  refine W.eq (g2 := F0 m 7 ls [vB (decide (0 ≤ ((x : Nat) : Int) ∧ ((x : Nat) : Int) < (sumM (K r) (w r) : Int))), .ref (D 0)]) rfl ?_
  refine k_ifeqB (tgt := 14) hm dX7_parent_7 (by decide) (fun c_2 => absurd (of_decide_eq_false c_2) (by omega)) (fun c_2 => ?_)
  refine k_iconstN hm 0 dX7_parent_10 ?_
  refine k_goto (tgt := 15) hm dX7_parent_11 (by decide) ?_
  refine k_callV (n := 1) (As := [vN (0)]) (rest := []) (wr := []) hm hw hl (c_m_throwsAt l G D sa pa pn tx tn rf ro wk mb so kd nu it ti rd ad 0 (by first | assumption | omega)) gX7_parent_X7_throwsAt rfl (by decide +kernel) ⟨by decide, by decide⟩ (ci := 7) rfl 0 rfl [0, 1, 2, 3, 4, 5, 6, 7, 8] [] (by decide) rfl rfl (by decide) (by decide) rfl rfl (by simp [Value.category]) ⟨by decide, by decide⟩ dX7_parent_15 (fun v w1 H locs hp hw => ?_)
  obtain ⟨rfl, rfl⟩ := hp
  have hw := hw.sub (ws' := wMod G D sa pa pn tx tn 0 ro wk mb so kd nu it ti rd ad) [0, 1, 2, 3, 4, 5, 6, 7, 8] (by decide) rfl
  refine W.eq (g2 := F0 m 18 ls [vB (decide (0 < 0))]) rfl ?_
  refine k_ifeqB (tgt := 23) hm dX7_parent_18 (by decide) (fun c_4 => ?_) (fun c_4 => absurd (of_decide_eq_true c_4) (by omega))
  refine k_iload_n hm hl 1 rfl dX7_parent_23 ?_
  refine k_ifne (tgt := 31) hm dX7_parent_24 (by decide) (by omega) (fun c_5 => ?_) (fun c_5 => ?_)
  · refine k_aload_n hm hl 0 rfl dX7_parent_31 ?_
    refine k_iload_n hm hl 1 rfl dX7_parent_32 ?_
    refine k_iload_n hm hl 2 rfl dX7_parent_33 ?_
    refine k_callVr (n := 2) (As := [vN (r), vN (x)]) (rest := []) hm hw hl (c_m_parentOf l G D sa pa pn tx tn 0 ro wk mb so kd nu it ti rd ad R sp K w y r x (by first | assumption | omega) (by first | assumption | omega) (by first | assumption | omega)) gX7_parent_X7_parentOf rfl (by decide +kernel) ⟨by decide, by decide⟩ (ci := 7) rfl 0 rfl [0, 1, 2, 3, 4, 5, 6, 7, 8] (by decide) rfl rfl rfl (by simp [Value.category]) ⟨by decide, by decide⟩ dX7_parent_34 (fun v H locs hp hw => ?_)
    obtain ⟨i_7, rfl, hmk_8, hi_9⟩ := hp
    refine W.eq (g2 := F0 m 37 ls [vN (sumU (K r) i_7)]) rfl ?_
    exact k_iret (post := _) hm hQ rfl rfl hw (⟨_, rfl, rfl, Or.inr ⟨by omega, _, hmk_8, rfl⟩⟩) (by omega) (by omega) dX7_parent_37
  · refine k_iconst (n := -1) hm dX7_parent_27 ?_
    refine k_goto (tgt := 37) hm dX7_parent_28 (by decide) ?_
    exact k_iret (post := _) hm hQ rfl rfl hw (⟨_, rfl, rfl, Or.inl ⟨by omega, rfl⟩⟩) (by omega) (by omega) dX7_parent_37
set_option maxHeartbeats 4000000 in
set_option maxRecDepth 100000 in
theorem c_m_parent_x1 (l : Launch) (G : kG) (D : Nat → Nat) (sa : Nat → Int64) (pa : Nat → Int64) (pn : Nat) (tx : Nat → Nat) (tn : Nat) (rf : Nat) (ro : Nat → Nat) (wk : Nat) (mb : Nat → Nat) (so : Nat) (kd : Nat → Nat) (nu : Nat → Nat) (it : Nat) (ti : Nat) (rd : Nat) (ad : Nat → Int64) (R : Nat) (sp : Bool) (K : Nat → Nat → Nat) (w : Nat → Nat) (y : Nat → Nat) (z : Int) (x : Int) (hmo : MOk sa R sp K w y) (hzz : -2147483648 ≤ z ∧ z < 2147483648) (hzx : -2147483648 ≤ x ∧ x < 2147483648) (hx : ¬ (0 ≤ z ∧ z < (R : Int))) : kCM l yX7_parent wsX7_parent 3 68 0 0 G [.ref (D 0), vZ (z), vZ (x)] (wMod G D sa pa pn tx tn rf ro wk mb so kd nu it ti rd ad) (fun vv uu => vv = some (vN (0)) ∧ uu = wMod G D sa pa pn tx tn 1 ro wk mb so kd nu it ti rd ad) := by
  refine kCM.of (cc := cX7_parent) (maxL := 3) (ret := (some .int)) (by decide) rfl (Nat.le_of_ble_eq_true rfl) ?_
  intro p e s m args below meth c A ls Qz hQ hin hm hw hl
  have hl : lv_has ls 3 [(0, .ref (D 0)), (1, vZ (z)), (2, vZ (x))] := hl
  refine k_aload_n hm hl 0 rfl dX7_parent_0 ?_
  refine k_aload_n hm hl 0 rfl dX7_parent_1 ?_
  refine k_iload_n hm hl 1 rfl dX7_parent_2 ?_
  refine k_iload_n hm hl 2 rfl dX7_parent_3 ?_
  refine k_callVr (n := 2) (As := [vZ (z), vZ (x)]) (rest := [.ref (D 0)]) hm hw hl (c_m_isStitch_1 l G D sa pa pn tx tn rf ro wk mb so kd nu it ti rd ad R sp K w y z x (by first | assumption | omega) (by first | assumption | omega) (by first | assumption | omega) (by first | assumption | omega)) gX7_parent_X7_isStitch rfl (by decide +kernel) ⟨by decide, by decide⟩ (ci := 7) rfl 0 rfl [0, 1, 2, 3, 4, 5, 6, 7, 8] (by decide) rfl rfl rfl (by simp [Value.category]) ⟨by decide, by decide⟩ dX7_parent_4 (fun v H locs hp hw => ?_)
  obtain rfl := hp
  refine W.eq (g2 := F0 m 7 ls [vB (false), .ref (D 0)]) rfl ?_
  refine k_ifeqB (tgt := 14) hm dX7_parent_7 (by decide) (fun _ => ?_) (fun c_2 => absurd c_2 (by decide))
  refine k_iconstN hm 1 dX7_parent_14 ?_
  refine k_callV (n := 1) (As := [vN (1)]) (rest := []) (wr := []) hm hw hl (c_m_throwsAt l G D sa pa pn tx tn rf ro wk mb so kd nu it ti rd ad 1 (by first | assumption | omega)) gX7_parent_X7_throwsAt rfl (by decide +kernel) ⟨by decide, by decide⟩ (ci := 7) rfl 0 rfl [0, 1, 2, 3, 4, 5, 6, 7, 8] [] (by decide) rfl rfl (by decide) (by decide) rfl rfl (by simp [Value.category]) ⟨by decide, by decide⟩ dX7_parent_15 (fun v w1 H locs hp hw => ?_)
  obtain ⟨rfl, rfl⟩ := hp
  have hw := hw.sub (ws' := wMod G D sa pa pn tx tn 1 ro wk mb so kd nu it ti rd ad) [0, 1, 2, 3, 4, 5, 6, 7, 8] (by decide) rfl
  refine W.eq (g2 := F0 m 18 ls [vB (decide (0 < 1))]) rfl ?_
  refine k_ifeqB (tgt := 23) hm dX7_parent_18 (by decide) (fun c_4 => absurd (of_decide_eq_false c_4) (by omega)) (fun c_4 => ?_)
  refine k_iconstN hm 0 dX7_parent_21 ?_
  exact k_iret (post := _) hm hQ rfl rfl hw (⟨rfl, rfl⟩) (by omega) (by omega) dX7_parent_22
set_option maxHeartbeats 4000000 in
set_option maxRecDepth 100000 in
theorem c_m_parent_x2 (l : Launch) (G : kG) (D : Nat → Nat) (sa : Nat → Int64) (pa : Nat → Int64) (pn : Nat) (tx : Nat → Nat) (tn : Nat) (rf : Nat) (ro : Nat → Nat) (wk : Nat) (mb : Nat → Nat) (so : Nat) (kd : Nat → Nat) (nu : Nat → Nat) (it : Nat) (ti : Nat) (rd : Nat) (ad : Nat → Int64) (R : Nat) (sp : Bool) (K : Nat → Nat → Nat) (w : Nat → Nat) (y : Nat → Nat) (r : Nat) (x : Int) (hmo : MOk sa R sp K w y) (hzx : -2147483648 ≤ x ∧ x < 2147483648) (hr : r < R) (hx : ¬ (0 ≤ x ∧ x < (sumM (K r) (w r) : Int))) : kCM l yX7_parent wsX7_parent 3 68 0 0 G [.ref (D 0), vN (r), vZ (x)] (wMod G D sa pa pn tx tn rf ro wk mb so kd nu it ti rd ad) (fun vv uu => vv = some (vN (0)) ∧ uu = wMod G D sa pa pn tx tn 1 ro wk mb so kd nu it ti rd ad) := by
  refine kCM.of (cc := cX7_parent) (maxL := 3) (ret := (some .int)) (by decide) rfl (Nat.le_of_ble_eq_true rfl) ?_
  intro p e s m args below meth c A ls Qz hQ hin hm hw hl
  have hl : lv_has ls 3 [(0, .ref (D 0)), (1, vN (r)), (2, vZ (x))] := hl
  have hR := hmo.1.1
  have hb := hmo.1.2.1 r hr
  refine k_aload_n hm hl 0 rfl dX7_parent_0 ?_
  refine k_aload_n hm hl 0 rfl dX7_parent_1 ?_
  refine k_iload_n hm hl 1 rfl dX7_parent_2 ?_
  refine k_iload_n hm hl 2 rfl dX7_parent_3 ?_
  refine k_callVr (n := 2) (As := [vN (r), vZ (x)]) (rest := [.ref (D 0)]) hm hw hl (c_m_isStitch_2 l G D sa pa pn tx tn rf ro wk mb so kd nu it ti rd ad R sp K w y r x (by first | assumption | omega) (by first | assumption | omega) (by first | assumption | omega)) gX7_parent_X7_isStitch rfl (by decide +kernel) ⟨by decide, by decide⟩ (ci := 7) rfl 0 rfl [0, 1, 2, 3, 4, 5, 6, 7, 8] (by decide) rfl rfl rfl (by simp [Value.category]) ⟨by decide, by decide⟩ dX7_parent_4 (fun v H locs hp hw => ?_)
  obtain rfl := hp
  refine W.eq (g2 := F0 m 7 ls [vB (decide (0 ≤ x ∧ x < (sumM (K r) (w r) : Int))), .ref (D 0)]) rfl ?_
  refine k_ifeqB (tgt := 14) hm dX7_parent_7 (by decide) (fun c_2 => ?_) (fun c_2 => absurd (of_decide_eq_true c_2) (by omega))
  refine k_iconstN hm 1 dX7_parent_14 ?_
  refine k_callV (n := 1) (As := [vN (1)]) (rest := []) (wr := []) hm hw hl (c_m_throwsAt l G D sa pa pn tx tn rf ro wk mb so kd nu it ti rd ad 1 (by first | assumption | omega)) gX7_parent_X7_throwsAt rfl (by decide +kernel) ⟨by decide, by decide⟩ (ci := 7) rfl 0 rfl [0, 1, 2, 3, 4, 5, 6, 7, 8] [] (by decide) rfl rfl (by decide) (by decide) rfl rfl (by simp [Value.category]) ⟨by decide, by decide⟩ dX7_parent_15 (fun v w1 H locs hp hw => ?_)
  obtain ⟨rfl, rfl⟩ := hp
  have hw := hw.sub (ws' := wMod G D sa pa pn tx tn 1 ro wk mb so kd nu it ti rd ad) [0, 1, 2, 3, 4, 5, 6, 7, 8] (by decide) rfl
  refine W.eq (g2 := F0 m 18 ls [vB (decide (0 < 1))]) rfl ?_
  refine k_ifeqB (tgt := 23) hm dX7_parent_18 (by decide) (fun c_4 => absurd (of_decide_eq_false c_4) (by omega)) (fun c_4 => ?_)
  refine k_iconstN hm 0 dX7_parent_21 ?_
  exact k_iret (post := _) hm hQ rfl rfl hw (⟨rfl, rfl⟩) (by omega) (by omega) dX7_parent_22
set_option maxHeartbeats 4000000 in
set_option maxRecDepth 100000 in
theorem c_m_child_ok (l : Launch) (G : kG) (D : Nat → Nat) (sa : Nat → Int64) (pa : Nat → Int64) (pn : Nat) (tx : Nat → Nat) (tn : Nat) (rf : Nat) (ro : Nat → Nat) (wk : Nat) (mb : Nat → Nat) (so : Nat) (kd : Nat → Nat) (nu : Nat → Nat) (it : Nat) (ti : Nat) (rd : Nat) (ad : Nat → Int64) (R : Nat) (sp : Bool) (K : Nat → Nat → Nat) (w : Nat → Nat) (y : Nat → Nat) (r : Nat) (x : Nat) (hmo : MOk sa R sp K w y) (hr : r < R) (hx : x < sumM (K r) (w r)) : kCM l yX7_child wsX7_child 3 67 0 0 G [.ref (D 0), vN (r), vN (x)] (wMod G D sa pa pn tx tn rf ro wk mb so kd nu it ti rd ad) (fun vv uu => ∃ (v : Int), vv = some (vZ (v)) ∧ uu = wMod G D sa pa pn tx tn 0 ro wk mb so kd nu it ti rd ad ∧ (isChi K R r x v)) := by
  refine kCM.of (cc := cX7_child) (maxL := 6) (ret := (some .int)) (by decide) rfl (Nat.le_of_ble_eq_true rfl) ?_
  intro p e s m args below meth c A ls Qz hQ hin hm hw hl
  have hl : lv_has ls 6 [(0, .ref (D 0)), (1, vN (r)), (2, vN (x))] := hl
  have hR := hmo.1.1
  have hb := hmo.1.2.1 r hr
  refine k_aload_n hm hl 0 rfl dX7_child_0 ?_
  refine k_aload_n hm hl 0 rfl dX7_child_1 ?_
  refine k_iload_n hm hl 1 rfl dX7_child_2 ?_
  refine k_iload_n hm hl 2 rfl dX7_child_3 ?_
  refine k_callVr (n := 2) (As := [vN (r), vN (x)]) (rest := [.ref (D 0)]) hm hw hl (c_m_isStitch_2 l G D sa pa pn tx tn rf ro wk mb so kd nu it ti rd ad R sp K w y r ((x : Nat) : Int) (by first | assumption | omega) (by first | assumption | omega) (by first | assumption | omega)) gX7_child_X7_isStitch rfl (by decide +kernel) ⟨by decide, by decide⟩ (ci := 7) rfl 0 rfl [0, 1, 2, 3, 4, 5, 6, 7, 8] (by decide) rfl rfl rfl (by simp [Value.category]) ⟨by decide, by decide⟩ dX7_child_4 (fun v H locs hp hw => ?_)
  obtain rfl := hp
  refine W.eq (g2 := F0 m 7 ls [vB (decide (0 ≤ ((x : Nat) : Int) ∧ ((x : Nat) : Int) < (sumM (K r) (w r) : Int))), .ref (D 0)]) rfl ?_
  refine k_ifeqB (tgt := 14) hm dX7_child_7 (by decide) (fun c_2 => absurd (of_decide_eq_false c_2) (by omega)) (fun c_2 => ?_)
  refine k_iconstN hm 0 dX7_child_10 ?_
  refine k_goto (tgt := 15) hm dX7_child_11 (by decide) ?_
  refine k_callV (n := 1) (As := [vN (0)]) (rest := []) (wr := []) hm hw hl (c_m_throwsAt l G D sa pa pn tx tn rf ro wk mb so kd nu it ti rd ad 0 (by first | assumption | omega)) gX7_child_X7_throwsAt rfl (by decide +kernel) ⟨by decide, by decide⟩ (ci := 7) rfl 0 rfl [0, 1, 2, 3, 4, 5, 6, 7, 8] [] (by decide) rfl rfl (by decide) (by decide) rfl rfl (by simp [Value.category]) ⟨by decide, by decide⟩ dX7_child_15 (fun v w1 H locs hp hw => ?_)
  obtain ⟨rfl, rfl⟩ := hp
  have hw := hw.sub (ws' := wMod G D sa pa pn tx tn 0 ro wk mb so kd nu it ti rd ad) [0, 1, 2, 3, 4, 5, 6, 7, 8] (by decide) rfl
  refine W.eq (g2 := F0 m 18 ls [vB (decide (0 < 0))]) rfl ?_
  refine k_ifeqB (tgt := 23) hm dX7_child_18 (by decide) (fun c_4 => ?_) (fun c_4 => absurd (of_decide_eq_true c_4) (by omega))
  refine k_iload_n hm hl 1 rfl dX7_child_23 ?_
  refine k_aload_n hm hl 0 rfl dX7_child_24 ?_
  refine k_callVr (n := 0) (As := []) (rest := [vN (r)]) hm hw hl (c_m_rounds l G D sa pa pn tx tn 0 ro wk mb so kd nu it ti rd ad R sp K w y (by first | assumption | omega)) gX7_child_X7_rounds rfl (by decide +kernel) ⟨by decide, by decide⟩ (ci := 7) rfl 0 rfl [0, 1, 2, 3, 4, 5, 6, 7, 8] (by decide) rfl rfl rfl (by simp [Value.category]) ⟨by decide, by decide⟩ dX7_child_25 (fun v H locs hp hw => ?_)
  obtain rfl := hp
  refine W.eq (g2 := F0 m 28 ls [vN (R), vN (r)]) rfl ?_
  refine k_iconstN hm 1 dX7_child_28 ?_
  refine k_isubN hm (by omega) dX7_child_29 ?_
  refine k_icmpne (tgt := 35) hm dX7_child_30 (by decide) (by omega) (fun c_6 => ?_) (fun c_6 => ?_)
  · have hU := hmo.1.2.2.1 r (by omega)
    have hb2 := hmo.1.2.1 (r + 1) (by omega)
    refine k_iconstN hm 0 dX7_child_35 ?_
    refine k_istore_n hm hl [(3, vN (0)), (0, .ref (D 0)), (1, vN (r)), (2, vN (x))] (by decide) rfl dX7_child_36 (fun ls hl => ?_)
    refine k_iconstN hm 0 dX7_child_37 ?_
    refine k_istore hm hl [(4, vN (0)), (3, vN (0)), (0, .ref (D 0)), (1, vN (r)), (2, vN (x))] (by decide) rfl dX7_child_38 (fun ls hl => ?_)
    refine k_iconstN hm 0 dX7_child_40 ?_
    refine k_istore hm hl [(5, vN (0)), (4, vN (0)), (3, vN (0)), (0, .ref (D 0)), (1, vN (r)), (2, vN (x))] (by decide) rfl dX7_child_41 (fun ls hl => ?_)
    have loop_43 : ∀ (fu : Nat) (u : Nat) (v : Nat) (i : Nat) (hi : i < w (r + 1)) (hu : u = sumU (K (r + 1)) i) (hv : v = sumM (K (r + 1)) i) (hle : u ≤ x) (H : Heap) (locs : List Loc) (ls : Array Slot), w (r + 1) - i < fu → kW G A s (wMod G D sa pa pn tx tn 0 ro wk mb so kd nu it ti rd ad) H locs → lv_has ls 6 [(0, .ref (D 0)), (1, vN (r)), (2, vN (x)), (3, vN (u)), (4, vN (v)), (5, vN (i))] → W p l e { frames := 3, cells := 0, slots := 0, locals := 67 } s m args below meth c H locs 0 0 Qz (F0 m 43 ls []) := by
      intro fu
      induction fu with
      | zero => intro u v i hi hu hv hle H locs ls hfu; exact absurd hfu (Nat.not_lt_zero _)
      | succ fu ih_43 =>
        intro u v i hi hu hv hle H locs ls hfu hw hl
        refine k_iload_n hm hl 3 rfl dX7_child_43 ?_
        have hk := hb2.2.2 i hi
        have hs1 : sumU (K (r + 1)) (i + 1) = sumU (K (r + 1)) i + usB (K (r + 1) i) := rfl
        have hs2 : sumM (K (r + 1)) (i + 1) = sumM (K (r + 1)) i + mdB (K (r + 1) i) := rfl
        have hs3 := sumM_mn (k := K (r + 1)) (show i ≤ w (r + 1) by omega)
        refine k_aload_n hm hl 0 rfl dX7_child_44 ?_
        refine k_iload_n hm hl 1 rfl dX7_child_45 ?_
        refine k_iconstN hm 1 dX7_child_46 ?_
        refine k_iaddN hm dX7_child_47 ?_
        refine k_iload hm hl 5 rfl dX7_child_48 ?_
        refine k_callVr (n := 2) (As := [vN (r + 1), vN (i)]) (rest := [vN (u)]) hm hw hl (c_m_kindOf l G D sa pa pn tx tn 0 ro wk mb so kd nu it ti rd ad R sp K w y (r + 1) i (by first | assumption | omega) (by first | assumption | omega) (by first | assumption | omega)) gX7_child_X7_kindOf rfl (by decide +kernel) ⟨by decide, by decide⟩ (ci := 7) rfl 0 rfl [0, 1, 2, 3, 4, 5, 6, 7, 8] (by decide) rfl rfl rfl (by simp [Value.category]) ⟨by decide, by decide⟩ dX7_child_50 (fun v H locs hp hw => ?_)
        obtain rfl := hp
        refine W.eq (g2 := F0 m 53 ls [vN (K (r + 1) i), vN (u)]) rfl ?_
        refine k_iconstN hm 2 dX7_child_53 ?_
        refine k_icmpne (tgt := 61) hm dX7_child_54 (by decide) (by omega) (fun c_8 => ?_) (fun c_8 => ?_)
        · refine k_iconstN hm 1 dX7_child_61 ?_
          refine k_iaddN hm dX7_child_62 ?_
          refine k_iload_n hm hl 2 rfl dX7_child_63 ?_
          refine k_icmpgt (tgt := 117) hm dX7_child_64 (by decide) (by omega) (fun c_9 => ?_) (fun c_9 => ?_)
          · refine k_iload hm hl 4 rfl dX7_child_117 ?_
            exact k_iret (post := _) hm hQ rfl rfl hw (⟨_, rfl, rfl, Or.inr ⟨by omega, i, ⟨by omega, by rw [hs1, usB]; first | (rw [if_pos (by omega)]; omega) | (rw [if_neg (by omega)]; omega)⟩, by rw [hv]⟩⟩) (by omega) (by omega) dX7_child_119
          · refine k_iload_n hm hl 3 rfl dX7_child_67 ?_
            refine k_aload_n hm hl 0 rfl dX7_child_68 ?_
            refine k_iload_n hm hl 1 rfl dX7_child_69 ?_
            refine k_iconstN hm 1 dX7_child_70 ?_
            refine k_iaddN hm dX7_child_71 ?_
            refine k_iload hm hl 5 rfl dX7_child_72 ?_
            refine k_callVr (n := 2) (As := [vN (r + 1), vN (i)]) (rest := [vN (u)]) hm hw hl (c_m_kindOf l G D sa pa pn tx tn 0 ro wk mb so kd nu it ti rd ad R sp K w y (r + 1) i (by first | assumption | omega) (by first | assumption | omega) (by first | assumption | omega)) gX7_child_X7_kindOf rfl (by decide +kernel) ⟨by decide, by decide⟩ (ci := 7) rfl 0 rfl [0, 1, 2, 3, 4, 5, 6, 7, 8] (by decide) rfl rfl rfl (by simp [Value.category]) ⟨by decide, by decide⟩ dX7_child_74 (fun v H locs hp hw => ?_)
            obtain rfl := hp
            refine W.eq (g2 := F0 m 77 ls [vN (K (r + 1) i), vN (u)]) rfl ?_
            refine k_iconstN hm 2 dX7_child_77 ?_
            refine k_icmpne (tgt := 85) hm dX7_child_78 (by decide) (by omega) (fun c_11 => ?_) (fun c_11 => ?_)
            · refine k_iconstN hm 1 dX7_child_85 ?_
              refine k_iaddN hm dX7_child_86 ?_
              refine k_istore_n hm hl [(3, vN (u + 1)), (0, .ref (D 0)), (1, vN (r)), (2, vN (x)), (4, vN (v)), (5, vN (i))] (by decide) rfl dX7_child_87 (fun ls hl => ?_)
              refine k_iload hm hl 4 rfl dX7_child_88 ?_
              refine k_aload_n hm hl 1 rfl dX7_child_90 ?_
              refine k_iload_n hm hl 2 rfl dX7_child_91 ?_
              refine k_iconstN hm 1 dX7_child_92 ?_
              refine k_iaddN hm dX7_child_93 ?_
              refine k_iload hm hl 5 rfl dX7_child_94 ?_
              refine k_callVr (n := 2) (As := [vN (r + 1), vN (i)]) (rest := [vN (v)]) hm hw hl (c_m_kindOf l G D sa pa pn tx tn 0 ro wk mb so kd nu it ti rd ad R sp K w y (r + 1) i (by first | assumption | omega) (by first | assumption | omega) (by first | assumption | omega)) gX7_child_X7_kindOf rfl (by decide +kernel) ⟨by decide, by decide⟩ (ci := 7) rfl 0 rfl [0, 1, 2, 3, 4, 5, 6, 7, 8] (by decide) rfl rfl rfl (by simp [Value.category]) ⟨by decide, by decide⟩ dX7_child_96 (fun v H locs hp hw => ?_)
              obtain rfl := hp
              refine W.eq (g2 := F0 m 99 ls [vN (K (r + 1) i), vN (v)]) rfl ?_
              refine k_iconstN hm 1 dX7_child_99 ?_
              refine k_icmpne (tgt := 107) hm dX7_child_100 (by decide) (by omega) (fun c_13 => ?_) (fun c_13 => ?_)
              · refine k_iconstN hm 1 dX7_child_107 ?_
                refine k_iaddN hm dX7_child_108 ?_
                refine k_istore hm hl [(4, vN (v + 1)), (3, vN (u + 1)), (0, .ref (D 0)), (1, vN (r)), (2, vN (x)), (5, vN (i))] (by decide) rfl dX7_child_109 (fun ls hl => ?_)
                refine k_iincN hm hl 5 1 rfl [(5, vN (i + 1)), (4, vN (v + 1)), (3, vN (u + 1)), (0, .ref (D 0)), (1, vN (r)), (2, vN (x))] (by decide) rfl dX7_child_111 (fun ls hl => ?_)
                refine k_goto (tgt := 43) hm dX7_child_114 (by decide) ?_
                exact ih_43  (u + 1) (v + 1) (i + 1) (by first | (exfalso; omega) | (exact Nat.lt_of_not_le (fun z => by have z2 : w (r + 1) = i + 1 := (by omega); have z3 : sumU (K (r + 1)) (w (r + 1)) = sumU (K (r + 1)) (i + 1) := congrArg _ z2; have z4 : usB (K (r + 1) i) = 2 ∧ K (r + 1) i = 2 ∨ usB (K (r + 1) i) = 1 ∧ K (r + 1) i ≠ 2 := (by unfold usB; split <;> omega); omega))) (by first | (exfalso; omega) | (rw [hs1, usB]; first | (rw [if_pos (by omega)]; omega) | (rw [if_neg (by omega)]; omega))) (by first | (exfalso; omega) | (rw [hs2, mdB]; first | (rw [if_pos (by omega)]; omega) | (rw [if_neg (by omega)]; omega))) (by omega) _ _ _ (by omega) hw (lv_sub hl [3, 4, 5, 2, 1, 0] rfl)
              · refine k_iconstN hm 2 dX7_child_103 ?_
                refine k_goto (tgt := 108) hm dX7_child_104 (by decide) ?_
                refine k_iaddN hm dX7_child_108 ?_
                refine k_istore hm hl [(4, vN (v + 2)), (3, vN (u + 1)), (0, .ref (D 0)), (1, vN (r)), (2, vN (x)), (5, vN (i))] (by decide) rfl dX7_child_109 (fun ls hl => ?_)
                refine k_iincN hm hl 5 1 rfl [(5, vN (i + 1)), (4, vN (v + 2)), (3, vN (u + 1)), (0, .ref (D 0)), (1, vN (r)), (2, vN (x))] (by decide) rfl dX7_child_111 (fun ls hl => ?_)
                refine k_goto (tgt := 43) hm dX7_child_114 (by decide) ?_
                exact ih_43  (u + 1) (v + 2) (i + 1) (by first | (exfalso; omega) | (exact Nat.lt_of_not_le (fun z => by have z2 : w (r + 1) = i + 1 := (by omega); have z3 : sumU (K (r + 1)) (w (r + 1)) = sumU (K (r + 1)) (i + 1) := congrArg _ z2; have z4 : usB (K (r + 1) i) = 2 ∧ K (r + 1) i = 2 ∨ usB (K (r + 1) i) = 1 ∧ K (r + 1) i ≠ 2 := (by unfold usB; split <;> omega); omega))) (by first | (exfalso; omega) | (rw [hs1, usB]; first | (rw [if_pos (by omega)]; omega) | (rw [if_neg (by omega)]; omega))) (by first | (exfalso; omega) | (rw [hs2, mdB]; first | (rw [if_pos (by omega)]; omega) | (rw [if_neg (by omega)]; omega))) (by omega) _ _ _ (by omega) hw (lv_sub hl [3, 4, 5, 2, 1, 0] rfl)
            · refine k_iconstN hm 2 dX7_child_81 ?_
              refine k_goto (tgt := 86) hm dX7_child_82 (by decide) ?_
              refine k_iaddN hm dX7_child_86 ?_
              refine k_istore_n hm hl [(3, vN (u + 2)), (0, .ref (D 0)), (1, vN (r)), (2, vN (x)), (4, vN (v)), (5, vN (i))] (by decide) rfl dX7_child_87 (fun ls hl => ?_)
              refine k_iload hm hl 4 rfl dX7_child_88 ?_
              refine k_aload_n hm hl 1 rfl dX7_child_90 ?_
              refine k_iload_n hm hl 2 rfl dX7_child_91 ?_
              refine k_iconstN hm 1 dX7_child_92 ?_
              refine k_iaddN hm dX7_child_93 ?_
              refine k_iload hm hl 5 rfl dX7_child_94 ?_
              refine k_callVr (n := 2) (As := [vN (r + 1), vN (i)]) (rest := [vN (v)]) hm hw hl (c_m_kindOf l G D sa pa pn tx tn 0 ro wk mb so kd nu it ti rd ad R sp K w y (r + 1) i (by first | assumption | omega) (by first | assumption | omega) (by first | assumption | omega)) gX7_child_X7_kindOf rfl (by decide +kernel) ⟨by decide, by decide⟩ (ci := 7) rfl 0 rfl [0, 1, 2, 3, 4, 5, 6, 7, 8] (by decide) rfl rfl rfl (by simp [Value.category]) ⟨by decide, by decide⟩ dX7_child_96 (fun v H locs hp hw => ?_)
              obtain rfl := hp
              refine W.eq (g2 := F0 m 99 ls [vN (K (r + 1) i), vN (v)]) rfl ?_
              refine k_iconstN hm 1 dX7_child_99 ?_
              refine k_icmpne (tgt := 107) hm dX7_child_100 (by decide) (by omega) (fun c_15 => ?_) (fun c_15 => ?_)
              · refine k_iconstN hm 1 dX7_child_107 ?_
                refine k_iaddN hm dX7_child_108 ?_
                refine k_istore hm hl [(4, vN (v + 1)), (3, vN (u + 2)), (0, .ref (D 0)), (1, vN (r)), (2, vN (x)), (5, vN (i))] (by decide) rfl dX7_child_109 (fun ls hl => ?_)
                refine k_iincN hm hl 5 1 rfl [(5, vN (i + 1)), (4, vN (v + 1)), (3, vN (u + 2)), (0, .ref (D 0)), (1, vN (r)), (2, vN (x))] (by decide) rfl dX7_child_111 (fun ls hl => ?_)
                refine k_goto (tgt := 43) hm dX7_child_114 (by decide) ?_
                exact ih_43  (u + 2) (v + 1) (i + 1) (by first | (exfalso; omega) | (exact Nat.lt_of_not_le (fun z => by have z2 : w (r + 1) = i + 1 := (by omega); have z3 : sumU (K (r + 1)) (w (r + 1)) = sumU (K (r + 1)) (i + 1) := congrArg _ z2; have z4 : usB (K (r + 1) i) = 2 ∧ K (r + 1) i = 2 ∨ usB (K (r + 1) i) = 1 ∧ K (r + 1) i ≠ 2 := (by unfold usB; split <;> omega); omega))) (by first | (exfalso; omega) | (rw [hs1, usB]; first | (rw [if_pos (by omega)]; omega) | (rw [if_neg (by omega)]; omega))) (by first | (exfalso; omega) | (rw [hs2, mdB]; first | (rw [if_pos (by omega)]; omega) | (rw [if_neg (by omega)]; omega))) (by omega) _ _ _ (by omega) hw (lv_sub hl [3, 4, 5, 2, 1, 0] rfl)
              · refine k_iconstN hm 2 dX7_child_103 ?_
                refine k_goto (tgt := 108) hm dX7_child_104 (by decide) ?_
                refine k_iaddN hm dX7_child_108 ?_
                refine k_istore hm hl [(4, vN (v + 2)), (3, vN (u + 2)), (0, .ref (D 0)), (1, vN (r)), (2, vN (x)), (5, vN (i))] (by decide) rfl dX7_child_109 (fun ls hl => ?_)
                refine k_iincN hm hl 5 1 rfl [(5, vN (i + 1)), (4, vN (v + 2)), (3, vN (u + 2)), (0, .ref (D 0)), (1, vN (r)), (2, vN (x))] (by decide) rfl dX7_child_111 (fun ls hl => ?_)
                refine k_goto (tgt := 43) hm dX7_child_114 (by decide) ?_
                exact ih_43  (u + 2) (v + 2) (i + 1) (by first | (exfalso; omega) | (exact Nat.lt_of_not_le (fun z => by have z2 : w (r + 1) = i + 1 := (by omega); have z3 : sumU (K (r + 1)) (w (r + 1)) = sumU (K (r + 1)) (i + 1) := congrArg _ z2; have z4 : usB (K (r + 1) i) = 2 ∧ K (r + 1) i = 2 ∨ usB (K (r + 1) i) = 1 ∧ K (r + 1) i ≠ 2 := (by unfold usB; split <;> omega); omega))) (by first | (exfalso; omega) | (rw [hs1, usB]; first | (rw [if_pos (by omega)]; omega) | (rw [if_neg (by omega)]; omega))) (by first | (exfalso; omega) | (rw [hs2, mdB]; first | (rw [if_pos (by omega)]; omega) | (rw [if_neg (by omega)]; omega))) (by omega) _ _ _ (by omega) hw (lv_sub hl [3, 4, 5, 2, 1, 0] rfl)
        · refine k_iconstN hm 2 dX7_child_57 ?_
          refine k_goto (tgt := 62) hm dX7_child_58 (by decide) ?_
          refine k_iaddN hm dX7_child_62 ?_
          refine k_iload_n hm hl 2 rfl dX7_child_63 ?_
          refine k_icmpgt (tgt := 117) hm dX7_child_64 (by decide) (by omega) (fun c_16 => ?_) (fun c_16 => ?_)
          · refine k_iload hm hl 4 rfl dX7_child_117 ?_
            exact k_iret (post := _) hm hQ rfl rfl hw (⟨_, rfl, rfl, Or.inr ⟨by omega, i, ⟨by omega, by rw [hs1, usB]; first | (rw [if_pos (by omega)]; omega) | (rw [if_neg (by omega)]; omega)⟩, by rw [hv]⟩⟩) (by omega) (by omega) dX7_child_119
          · refine k_iload_n hm hl 3 rfl dX7_child_67 ?_
            refine k_aload_n hm hl 0 rfl dX7_child_68 ?_
            refine k_iload_n hm hl 1 rfl dX7_child_69 ?_
            refine k_iconstN hm 1 dX7_child_70 ?_
            refine k_iaddN hm dX7_child_71 ?_
            refine k_iload hm hl 5 rfl dX7_child_72 ?_
            refine k_callVr (n := 2) (As := [vN (r + 1), vN (i)]) (rest := [vN (u)]) hm hw hl (c_m_kindOf l G D sa pa pn tx tn 0 ro wk mb so kd nu it ti rd ad R sp K w y (r + 1) i (by first | assumption | omega) (by first | assumption | omega) (by first | assumption | omega)) gX7_child_X7_kindOf rfl (by decide +kernel) ⟨by decide, by decide⟩ (ci := 7) rfl 0 rfl [0, 1, 2, 3, 4, 5, 6, 7, 8] (by decide) rfl rfl rfl (by simp [Value.category]) ⟨by decide, by decide⟩ dX7_child_74 (fun v H locs hp hw => ?_)
            obtain rfl := hp
            refine W.eq (g2 := F0 m 77 ls [vN (K (r + 1) i), vN (u)]) rfl ?_
            refine k_iconstN hm 2 dX7_child_77 ?_
            refine k_icmpne (tgt := 85) hm dX7_child_78 (by decide) (by omega) (fun c_18 => ?_) (fun c_18 => ?_)
            · refine k_iconstN hm 1 dX7_child_85 ?_
              refine k_iaddN hm dX7_child_86 ?_
              refine k_istore_n hm hl [(3, vN (u + 1)), (0, .ref (D 0)), (1, vN (r)), (2, vN (x)), (4, vN (v)), (5, vN (i))] (by decide) rfl dX7_child_87 (fun ls hl => ?_)
              refine k_iload hm hl 4 rfl dX7_child_88 ?_
              refine k_aload_n hm hl 1 rfl dX7_child_90 ?_
              refine k_iload_n hm hl 2 rfl dX7_child_91 ?_
              refine k_iconstN hm 1 dX7_child_92 ?_
              refine k_iaddN hm dX7_child_93 ?_
              refine k_iload hm hl 5 rfl dX7_child_94 ?_
              refine k_callVr (n := 2) (As := [vN (r + 1), vN (i)]) (rest := [vN (v)]) hm hw hl (c_m_kindOf l G D sa pa pn tx tn 0 ro wk mb so kd nu it ti rd ad R sp K w y (r + 1) i (by first | assumption | omega) (by first | assumption | omega) (by first | assumption | omega)) gX7_child_X7_kindOf rfl (by decide +kernel) ⟨by decide, by decide⟩ (ci := 7) rfl 0 rfl [0, 1, 2, 3, 4, 5, 6, 7, 8] (by decide) rfl rfl rfl (by simp [Value.category]) ⟨by decide, by decide⟩ dX7_child_96 (fun v H locs hp hw => ?_)
              obtain rfl := hp
              refine W.eq (g2 := F0 m 99 ls [vN (K (r + 1) i), vN (v)]) rfl ?_
              refine k_iconstN hm 1 dX7_child_99 ?_
              refine k_icmpne (tgt := 107) hm dX7_child_100 (by decide) (by omega) (fun c_20 => ?_) (fun c_20 => ?_)
              · refine k_iconstN hm 1 dX7_child_107 ?_
                refine k_iaddN hm dX7_child_108 ?_
                refine k_istore hm hl [(4, vN (v + 1)), (3, vN (u + 1)), (0, .ref (D 0)), (1, vN (r)), (2, vN (x)), (5, vN (i))] (by decide) rfl dX7_child_109 (fun ls hl => ?_)
                refine k_iincN hm hl 5 1 rfl [(5, vN (i + 1)), (4, vN (v + 1)), (3, vN (u + 1)), (0, .ref (D 0)), (1, vN (r)), (2, vN (x))] (by decide) rfl dX7_child_111 (fun ls hl => ?_)
                refine k_goto (tgt := 43) hm dX7_child_114 (by decide) ?_
                exact ih_43  (u + 1) (v + 1) (i + 1) (by first | (exfalso; omega) | (exact Nat.lt_of_not_le (fun z => by have z2 : w (r + 1) = i + 1 := (by omega); have z3 : sumU (K (r + 1)) (w (r + 1)) = sumU (K (r + 1)) (i + 1) := congrArg _ z2; have z4 : usB (K (r + 1) i) = 2 ∧ K (r + 1) i = 2 ∨ usB (K (r + 1) i) = 1 ∧ K (r + 1) i ≠ 2 := (by unfold usB; split <;> omega); omega))) (by first | (exfalso; omega) | (rw [hs1, usB]; first | (rw [if_pos (by omega)]; omega) | (rw [if_neg (by omega)]; omega))) (by first | (exfalso; omega) | (rw [hs2, mdB]; first | (rw [if_pos (by omega)]; omega) | (rw [if_neg (by omega)]; omega))) (by omega) _ _ _ (by omega) hw (lv_sub hl [3, 4, 5, 2, 1, 0] rfl)
              · refine k_iconstN hm 2 dX7_child_103 ?_
                refine k_goto (tgt := 108) hm dX7_child_104 (by decide) ?_
                refine k_iaddN hm dX7_child_108 ?_
                refine k_istore hm hl [(4, vN (v + 2)), (3, vN (u + 1)), (0, .ref (D 0)), (1, vN (r)), (2, vN (x)), (5, vN (i))] (by decide) rfl dX7_child_109 (fun ls hl => ?_)
                refine k_iincN hm hl 5 1 rfl [(5, vN (i + 1)), (4, vN (v + 2)), (3, vN (u + 1)), (0, .ref (D 0)), (1, vN (r)), (2, vN (x))] (by decide) rfl dX7_child_111 (fun ls hl => ?_)
                refine k_goto (tgt := 43) hm dX7_child_114 (by decide) ?_
                exact ih_43  (u + 1) (v + 2) (i + 1) (by first | (exfalso; omega) | (exact Nat.lt_of_not_le (fun z => by have z2 : w (r + 1) = i + 1 := (by omega); have z3 : sumU (K (r + 1)) (w (r + 1)) = sumU (K (r + 1)) (i + 1) := congrArg _ z2; have z4 : usB (K (r + 1) i) = 2 ∧ K (r + 1) i = 2 ∨ usB (K (r + 1) i) = 1 ∧ K (r + 1) i ≠ 2 := (by unfold usB; split <;> omega); omega))) (by first | (exfalso; omega) | (rw [hs1, usB]; first | (rw [if_pos (by omega)]; omega) | (rw [if_neg (by omega)]; omega))) (by first | (exfalso; omega) | (rw [hs2, mdB]; first | (rw [if_pos (by omega)]; omega) | (rw [if_neg (by omega)]; omega))) (by omega) _ _ _ (by omega) hw (lv_sub hl [3, 4, 5, 2, 1, 0] rfl)
            · refine k_iconstN hm 2 dX7_child_81 ?_
              refine k_goto (tgt := 86) hm dX7_child_82 (by decide) ?_
              refine k_iaddN hm dX7_child_86 ?_
              refine k_istore_n hm hl [(3, vN (u + 2)), (0, .ref (D 0)), (1, vN (r)), (2, vN (x)), (4, vN (v)), (5, vN (i))] (by decide) rfl dX7_child_87 (fun ls hl => ?_)
              refine k_iload hm hl 4 rfl dX7_child_88 ?_
              refine k_aload_n hm hl 1 rfl dX7_child_90 ?_
              refine k_iload_n hm hl 2 rfl dX7_child_91 ?_
              refine k_iconstN hm 1 dX7_child_92 ?_
              refine k_iaddN hm dX7_child_93 ?_
              refine k_iload hm hl 5 rfl dX7_child_94 ?_
              refine k_callVr (n := 2) (As := [vN (r + 1), vN (i)]) (rest := [vN (v)]) hm hw hl (c_m_kindOf l G D sa pa pn tx tn 0 ro wk mb so kd nu it ti rd ad R sp K w y (r + 1) i (by first | assumption | omega) (by first | assumption | omega) (by first | assumption | omega)) gX7_child_X7_kindOf rfl (by decide +kernel) ⟨by decide, by decide⟩ (ci := 7) rfl 0 rfl [0, 1, 2, 3, 4, 5, 6, 7, 8] (by decide) rfl rfl rfl (by simp [Value.category]) ⟨by decide, by decide⟩ dX7_child_96 (fun v H locs hp hw => ?_)
              obtain rfl := hp
              refine W.eq (g2 := F0 m 99 ls [vN (K (r + 1) i), vN (v)]) rfl ?_
              refine k_iconstN hm 1 dX7_child_99 ?_
              refine k_icmpne (tgt := 107) hm dX7_child_100 (by decide) (by omega) (fun c_22 => ?_) (fun c_22 => ?_)
              · refine k_iconstN hm 1 dX7_child_107 ?_
                refine k_iaddN hm dX7_child_108 ?_
                refine k_istore hm hl [(4, vN (v + 1)), (3, vN (u + 2)), (0, .ref (D 0)), (1, vN (r)), (2, vN (x)), (5, vN (i))] (by decide) rfl dX7_child_109 (fun ls hl => ?_)
                refine k_iincN hm hl 5 1 rfl [(5, vN (i + 1)), (4, vN (v + 1)), (3, vN (u + 2)), (0, .ref (D 0)), (1, vN (r)), (2, vN (x))] (by decide) rfl dX7_child_111 (fun ls hl => ?_)
                refine k_goto (tgt := 43) hm dX7_child_114 (by decide) ?_
                exact ih_43  (u + 2) (v + 1) (i + 1) (by first | (exfalso; omega) | (exact Nat.lt_of_not_le (fun z => by have z2 : w (r + 1) = i + 1 := (by omega); have z3 : sumU (K (r + 1)) (w (r + 1)) = sumU (K (r + 1)) (i + 1) := congrArg _ z2; have z4 : usB (K (r + 1) i) = 2 ∧ K (r + 1) i = 2 ∨ usB (K (r + 1) i) = 1 ∧ K (r + 1) i ≠ 2 := (by unfold usB; split <;> omega); omega))) (by first | (exfalso; omega) | (rw [hs1, usB]; first | (rw [if_pos (by omega)]; omega) | (rw [if_neg (by omega)]; omega))) (by first | (exfalso; omega) | (rw [hs2, mdB]; first | (rw [if_pos (by omega)]; omega) | (rw [if_neg (by omega)]; omega))) (by omega) _ _ _ (by omega) hw (lv_sub hl [3, 4, 5, 2, 1, 0] rfl)
              · refine k_iconstN hm 2 dX7_child_103 ?_
                refine k_goto (tgt := 108) hm dX7_child_104 (by decide) ?_
                refine k_iaddN hm dX7_child_108 ?_
                refine k_istore hm hl [(4, vN (v + 2)), (3, vN (u + 2)), (0, .ref (D 0)), (1, vN (r)), (2, vN (x)), (5, vN (i))] (by decide) rfl dX7_child_109 (fun ls hl => ?_)
                refine k_iincN hm hl 5 1 rfl [(5, vN (i + 1)), (4, vN (v + 2)), (3, vN (u + 2)), (0, .ref (D 0)), (1, vN (r)), (2, vN (x))] (by decide) rfl dX7_child_111 (fun ls hl => ?_)
                refine k_goto (tgt := 43) hm dX7_child_114 (by decide) ?_
                exact ih_43  (u + 2) (v + 2) (i + 1) (by first | (exfalso; omega) | (exact Nat.lt_of_not_le (fun z => by have z2 : w (r + 1) = i + 1 := (by omega); have z3 : sumU (K (r + 1)) (w (r + 1)) = sumU (K (r + 1)) (i + 1) := congrArg _ z2; have z4 : usB (K (r + 1) i) = 2 ∧ K (r + 1) i = 2 ∨ usB (K (r + 1) i) = 1 ∧ K (r + 1) i ≠ 2 := (by unfold usB; split <;> omega); omega))) (by first | (exfalso; omega) | (rw [hs1, usB]; first | (rw [if_pos (by omega)]; omega) | (rw [if_neg (by omega)]; omega))) (by first | (exfalso; omega) | (rw [hs2, mdB]; first | (rw [if_pos (by omega)]; omega) | (rw [if_neg (by omega)]; omega))) (by omega) _ _ _ (by omega) hw (lv_sub hl [3, 4, 5, 2, 1, 0] rfl)
    exact loop_43 (w (r + 1) - 0 + 1) 0 0 0 (by omega) rfl rfl (by first | assumption | omega) _ _ _ (Nat.lt_succ_self _) hw (lv_sub hl [3, 4, 5, 2, 1, 0] rfl)
  · refine k_iconst (n := -1) hm dX7_child_33 ?_
    exact k_iret (post := _) hm hQ rfl rfl hw (⟨_, rfl, rfl, Or.inl ⟨by omega, rfl⟩⟩) (by omega) (by omega) dX7_child_34
set_option maxHeartbeats 4000000 in
set_option maxRecDepth 100000 in
theorem c_m_child_x1 (l : Launch) (G : kG) (D : Nat → Nat) (sa : Nat → Int64) (pa : Nat → Int64) (pn : Nat) (tx : Nat → Nat) (tn : Nat) (rf : Nat) (ro : Nat → Nat) (wk : Nat) (mb : Nat → Nat) (so : Nat) (kd : Nat → Nat) (nu : Nat → Nat) (it : Nat) (ti : Nat) (rd : Nat) (ad : Nat → Int64) (R : Nat) (sp : Bool) (K : Nat → Nat → Nat) (w : Nat → Nat) (y : Nat → Nat) (z : Int) (x : Int) (hmo : MOk sa R sp K w y) (hzz : -2147483648 ≤ z ∧ z < 2147483648) (hzx : -2147483648 ≤ x ∧ x < 2147483648) (hx : ¬ (0 ≤ z ∧ z < (R : Int))) : kCM l yX7_child wsX7_child 3 67 0 0 G [.ref (D 0), vZ (z), vZ (x)] (wMod G D sa pa pn tx tn rf ro wk mb so kd nu it ti rd ad) (fun vv uu => vv = some (vN (0)) ∧ uu = wMod G D sa pa pn tx tn 1 ro wk mb so kd nu it ti rd ad) := by
  refine kCM.of (cc := cX7_child) (maxL := 6) (ret := (some .int)) (by decide) rfl (Nat.le_of_ble_eq_true rfl) ?_
  intro p e s m args below meth c A ls Qz hQ hin hm hw hl
  have hl : lv_has ls 6 [(0, .ref (D 0)), (1, vZ (z)), (2, vZ (x))] := hl
  refine k_aload_n hm hl 0 rfl dX7_child_0 ?_
  refine k_aload_n hm hl 0 rfl dX7_child_1 ?_
  refine k_iload_n hm hl 1 rfl dX7_child_2 ?_
  refine k_iload_n hm hl 2 rfl dX7_child_3 ?_
  refine k_callVr (n := 2) (As := [vZ (z), vZ (x)]) (rest := [.ref (D 0)]) hm hw hl (c_m_isStitch_1 l G D sa pa pn tx tn rf ro wk mb so kd nu it ti rd ad R sp K w y z x (by first | assumption | omega) (by first | assumption | omega) (by first | assumption | omega) (by first | assumption | omega)) gX7_child_X7_isStitch rfl (by decide +kernel) ⟨by decide, by decide⟩ (ci := 7) rfl 0 rfl [0, 1, 2, 3, 4, 5, 6, 7, 8] (by decide) rfl rfl rfl (by simp [Value.category]) ⟨by decide, by decide⟩ dX7_child_4 (fun v H locs hp hw => ?_)
  obtain rfl := hp
  refine W.eq (g2 := F0 m 7 ls [vB (false), .ref (D 0)]) rfl ?_
  refine k_ifeqB (tgt := 14) hm dX7_child_7 (by decide) (fun _ => ?_) (fun c_2 => absurd c_2 (by decide))
  refine k_iconstN hm 1 dX7_child_14 ?_
  refine k_callV (n := 1) (As := [vN (1)]) (rest := []) (wr := []) hm hw hl (c_m_throwsAt l G D sa pa pn tx tn rf ro wk mb so kd nu it ti rd ad 1 (by first | assumption | omega)) gX7_child_X7_throwsAt rfl (by decide +kernel) ⟨by decide, by decide⟩ (ci := 7) rfl 0 rfl [0, 1, 2, 3, 4, 5, 6, 7, 8] [] (by decide) rfl rfl (by decide) (by decide) rfl rfl (by simp [Value.category]) ⟨by decide, by decide⟩ dX7_child_15 (fun v w1 H locs hp hw => ?_)
  obtain ⟨rfl, rfl⟩ := hp
  have hw := hw.sub (ws' := wMod G D sa pa pn tx tn 1 ro wk mb so kd nu it ti rd ad) [0, 1, 2, 3, 4, 5, 6, 7, 8] (by decide) rfl
  refine W.eq (g2 := F0 m 18 ls [vB (decide (0 < 1))]) rfl ?_
  refine k_ifeqB (tgt := 23) hm dX7_child_18 (by decide) (fun c_4 => absurd (of_decide_eq_false c_4) (by omega)) (fun c_4 => ?_)
  refine k_iconstN hm 0 dX7_child_21 ?_
  exact k_iret (post := _) hm hQ rfl rfl hw (⟨rfl, rfl⟩) (by omega) (by omega) dX7_child_22
set_option maxHeartbeats 4000000 in
set_option maxRecDepth 100000 in
theorem c_m_child_x2 (l : Launch) (G : kG) (D : Nat → Nat) (sa : Nat → Int64) (pa : Nat → Int64) (pn : Nat) (tx : Nat → Nat) (tn : Nat) (rf : Nat) (ro : Nat → Nat) (wk : Nat) (mb : Nat → Nat) (so : Nat) (kd : Nat → Nat) (nu : Nat → Nat) (it : Nat) (ti : Nat) (rd : Nat) (ad : Nat → Int64) (R : Nat) (sp : Bool) (K : Nat → Nat → Nat) (w : Nat → Nat) (y : Nat → Nat) (r : Nat) (x : Int) (hmo : MOk sa R sp K w y) (hzx : -2147483648 ≤ x ∧ x < 2147483648) (hr : r < R) (hx : ¬ (0 ≤ x ∧ x < (sumM (K r) (w r) : Int))) : kCM l yX7_child wsX7_child 3 67 0 0 G [.ref (D 0), vN (r), vZ (x)] (wMod G D sa pa pn tx tn rf ro wk mb so kd nu it ti rd ad) (fun vv uu => vv = some (vN (0)) ∧ uu = wMod G D sa pa pn tx tn 1 ro wk mb so kd nu it ti rd ad) := by
  refine kCM.of (cc := cX7_child) (maxL := 6) (ret := (some .int)) (by decide) rfl (Nat.le_of_ble_eq_true rfl) ?_
  intro p e s m args below meth c A ls Qz hQ hin hm hw hl
  have hl : lv_has ls 6 [(0, .ref (D 0)), (1, vN (r)), (2, vZ (x))] := hl
  have hR := hmo.1.1
  have hb := hmo.1.2.1 r hr
  refine k_aload_n hm hl 0 rfl dX7_child_0 ?_
  refine k_aload_n hm hl 0 rfl dX7_child_1 ?_
  refine k_iload_n hm hl 1 rfl dX7_child_2 ?_
  refine k_iload_n hm hl 2 rfl dX7_child_3 ?_
  refine k_callVr (n := 2) (As := [vN (r), vZ (x)]) (rest := [.ref (D 0)]) hm hw hl (c_m_isStitch_2 l G D sa pa pn tx tn rf ro wk mb so kd nu it ti rd ad R sp K w y r x (by first | assumption | omega) (by first | assumption | omega) (by first | assumption | omega)) gX7_child_X7_isStitch rfl (by decide +kernel) ⟨by decide, by decide⟩ (ci := 7) rfl 0 rfl [0, 1, 2, 3, 4, 5, 6, 7, 8] (by decide) rfl rfl rfl (by simp [Value.category]) ⟨by decide, by decide⟩ dX7_child_4 (fun v H locs hp hw => ?_)
  obtain rfl := hp
  refine W.eq (g2 := F0 m 7 ls [vB (decide (0 ≤ x ∧ x < (sumM (K r) (w r) : Int))), .ref (D 0)]) rfl ?_
  refine k_ifeqB (tgt := 14) hm dX7_child_7 (by decide) (fun c_2 => ?_) (fun c_2 => absurd (of_decide_eq_true c_2) (by omega))
  refine k_iconstN hm 1 dX7_child_14 ?_
  refine k_callV (n := 1) (As := [vN (1)]) (rest := []) (wr := []) hm hw hl (c_m_throwsAt l G D sa pa pn tx tn rf ro wk mb so kd nu it ti rd ad 1 (by first | assumption | omega)) gX7_child_X7_throwsAt rfl (by decide +kernel) ⟨by decide, by decide⟩ (ci := 7) rfl 0 rfl [0, 1, 2, 3, 4, 5, 6, 7, 8] [] (by decide) rfl rfl (by decide) (by decide) rfl rfl (by simp [Value.category]) ⟨by decide, by decide⟩ dX7_child_15 (fun v w1 H locs hp hw => ?_)
  obtain ⟨rfl, rfl⟩ := hp
  have hw := hw.sub (ws' := wMod G D sa pa pn tx tn 1 ro wk mb so kd nu it ti rd ad) [0, 1, 2, 3, 4, 5, 6, 7, 8] (by decide) rfl
  refine W.eq (g2 := F0 m 18 ls [vB (decide (0 < 1))]) rfl ?_
  refine k_ifeqB (tgt := 23) hm dX7_child_18 (by decide) (fun c_4 => absurd (of_decide_eq_false c_4) (by omega)) (fun c_4 => ?_)
  refine k_iconstN hm 0 dX7_child_21 ?_
  exact k_iret (post := _) hm hQ rfl rfl hw (⟨rfl, rfl⟩) (by omega) (by omega) dX7_child_22
set_option maxHeartbeats 4000000 in
set_option maxRecDepth 100000 in
theorem c_m_root_ok (l : Launch) (G : kG) (D : Nat → Nat) (sa : Nat → Int64) (pa : Nat → Int64) (pn : Nat) (tx : Nat → Nat) (tn : Nat) (rf : Nat) (ro : Nat → Nat) (wk : Nat) (mb : Nat → Nat) (so : Nat) (kd : Nat → Nat) (nu : Nat → Nat) (it : Nat) (ti : Nat) (rd : Nat) (ad : Nat → Int64) (R : Nat) (sp : Bool) (K : Nat → Nat → Nat) (w : Nat → Nat) (y : Nat → Nat) (r : Nat) (x : Nat) (hmo : MOk sa R sp K w y) (hr : r < R) (hx : x < sumM (K r) (w r)) : kCM l yX7_root wsX7_root 3 68 0 0 G [.ref (D 0), vN (r), vN (x)] (wMod G D sa pa pn tx tn rf ro wk mb so kd nu it ti rd ad) (fun vv uu => ∃ (z : Nat), vv = some (vN (z)) ∧ uu = wMod G D sa pa pn tx tn 0 ro wk mb so kd nu it ti rd ad ∧ (rtP K r x z)) := by
  refine kCM.of (cc := cX7_root) (maxL := 5) (ret := (some .int)) (by decide) rfl (Nat.le_of_ble_eq_true rfl) ?_
  intro p e s m args below meth c A ls Qz hQ hin hm hw hl
  have hl : lv_has ls 5 [(0, .ref (D 0)), (1, vN (r)), (2, vN (x))] := hl
  have hR := hmo.1.1
  have hb := hmo.1.2.1 r hr
  refine k_aload_n hm hl 0 rfl dX7_root_0 ?_
  refine k_aload_n hm hl 0 rfl dX7_root_1 ?_
  refine k_iload_n hm hl 1 rfl dX7_root_2 ?_
  refine k_iload_n hm hl 2 rfl dX7_root_3 ?_
  refine k_callVr (n := 2) (As := [vN (r), vN (x)]) (rest := [.ref (D 0)]) hm hw hl (c_m_isStitch_2 l G D sa pa pn tx tn rf ro wk mb so kd nu it ti rd ad R sp K w y r ((x : Nat) : Int) (by first | assumption | omega) (by first | assumption | omega) (by first | assumption | omega)) gX7_root_X7_isStitch rfl (by decide +kernel) ⟨by decide, by decide⟩ (ci := 7) rfl 0 rfl [0, 1, 2, 3, 4, 5, 6, 7, 8] (by decide) rfl rfl rfl (by simp [Value.category]) ⟨by decide, by decide⟩ dX7_root_4 (fun v H locs hp hw => ?_)
  obtain rfl := hp
  refine W.eq (g2 := F0 m 7 ls [vB (decide (0 ≤ ((x : Nat) : Int) ∧ ((x : Nat) : Int) < (sumM (K r) (w r) : Int))), .ref (D 0)]) rfl ?_
  refine k_ifeqB (tgt := 14) hm dX7_root_7 (by decide) (fun c_2 => absurd (of_decide_eq_false c_2) (by omega)) (fun c_2 => ?_)
  refine k_iconstN hm 0 dX7_root_10 ?_
  refine k_goto (tgt := 15) hm dX7_root_11 (by decide) ?_
  refine k_callV (n := 1) (As := [vN (0)]) (rest := []) (wr := []) hm hw hl (c_m_throwsAt l G D sa pa pn tx tn rf ro wk mb so kd nu it ti rd ad 0 (by first | assumption | omega)) gX7_root_X7_throwsAt rfl (by decide +kernel) ⟨by decide, by decide⟩ (ci := 7) rfl 0 rfl [0, 1, 2, 3, 4, 5, 6, 7, 8] [] (by decide) rfl rfl (by decide) (by decide) rfl rfl (by simp [Value.category]) ⟨by decide, by decide⟩ dX7_root_15 (fun v w1 H locs hp hw => ?_)
  obtain ⟨rfl, rfl⟩ := hp
  have hw := hw.sub (ws' := wMod G D sa pa pn tx tn 0 ro wk mb so kd nu it ti rd ad) [0, 1, 2, 3, 4, 5, 6, 7, 8] (by decide) rfl
  refine W.eq (g2 := F0 m 18 ls [vB (decide (0 < 0))]) rfl ?_
  refine k_ifeqB (tgt := 23) hm dX7_root_18 (by decide) (fun c_4 => ?_) (fun c_4 => absurd (of_decide_eq_true c_4) (by omega))
  refine k_iload_n hm hl 2 rfl dX7_root_23 ?_
  refine k_istore_n hm hl [(3, vN (x)), (0, .ref (D 0)), (1, vN (r)), (2, vN (x))] (by decide) rfl dX7_root_24 (fun ls hl => ?_)
  refine k_iload_n hm hl 2 rfl dX7_root_25 ?_
  refine k_istore hm hl [(4, vN (r)), (3, vN (x)), (0, .ref (D 0)), (1, vN (r)), (2, vN (x))] (by decide) rfl dX7_root_26 (fun ls hl => ?_)
  have loop_28 : ∀ (fu : Nat) (q : Nat) (j : Nat) (hj : j ≤ r) (hq : q < sumM (K j) (w j)) (hrt : ∀ z, rtP K j q z → rtP K r x z) (H : Heap) (locs : List Loc) (ls : Array Slot), j < fu → kW G A s (wMod G D sa pa pn tx tn 0 ro wk mb so kd nu it ti rd ad) H locs → lv_has ls 5 [(0, .ref (D 0)), (1, vN (r)), (2, vN (x)), (3, vN (q)), (4, vN (j))] → W p l e { frames := 3, cells := 0, slots := 0, locals := 68 } s m args below meth c H locs 0 0 Qz (F0 m 28 ls []) := by
    intro fu
    induction fu with
    | zero => intro q j hj hq hrt H locs ls hfu; exact absurd hfu (Nat.not_lt_zero _)
    | succ fu ih_28 =>
      intro q j hj hq hrt H locs ls hfu hw hl
      refine k_iload hm hl 4 rfl dX7_root_28 ?_
      refine k_ifle (tgt := 47) hm dX7_root_30 (by decide) (by omega) (fun c_5 => ?_) (fun c_5 => ?_)
      · refine k_iload_n hm hl 3 rfl dX7_root_47 ?_
        exact k_iret (post := _) hm hQ rfl rfl hw (⟨q, rfl, rfl, hrt q (by rw [show j = 0 by omega]; rfl)⟩) (by omega) (by omega) dX7_root_48
      · refine k_aload_n hm hl 0 rfl dX7_root_33 ?_
        refine k_iload hm hl 4 rfl dX7_root_34 ?_
        refine k_iload_n hm hl 3 rfl dX7_root_36 ?_
        refine k_callVr (n := 2) (As := [vN (j), vN (q)]) (rest := []) hm hw hl (c_m_parentOf l G D sa pa pn tx tn 0 ro wk mb so kd nu it ti rd ad R sp K w y j q (by first | assumption | omega) (by first | assumption | omega) (by first | assumption | omega)) gX7_root_X7_parentOf rfl (by decide +kernel) ⟨by decide, by decide⟩ (ci := 7) rfl 0 rfl [0, 1, 2, 3, 4, 5, 6, 7, 8] (by decide) rfl rfl rfl (by simp [Value.category]) ⟨by decide, by decide⟩ dX7_root_37 (fun v H locs hp hw => ?_)
        obtain ⟨i_7, rfl, hmk_8, hi_9⟩ := hp
        refine W.eq (g2 := F0 m 40 ls [vN (sumU (K j) i_7)]) rfl ?_
        have hmk9 := hmk_8
        have hi9 := hi_9
        refine k_istore_n hm hl [(3, vN (sumU (K j) i_7)), (0, .ref (D 0)), (1, vN (r)), (2, vN (x)), (4, vN (j))] (by decide) rfl dX7_root_40 (fun ls hl => ?_)
        refine k_idecN hm hl 4 1 (by omega) rfl [(4, vN (j - 1)), (3, vN (sumU (K j) i_7)), (0, .ref (D 0)), (1, vN (r)), (2, vN (x))] (by decide) rfl dX7_root_41 (fun ls hl => ?_)
        refine k_goto (tgt := 28) hm dX7_root_44 (by decide) ?_
        exact ih_28  (sumU (K j) i_7) (j - 1) (by first | assumption | omega) (par_lt hmo.1 (show j < R by omega) (by omega) hi9) (fun z hz => hrt z (by rw [show j = (j - 1) + 1 by omega]; exact ⟨_, by rw [show j - 1 + 1 = j by omega]; exact hmk9, by rw [show j - 1 + 1 = j by omega]; exact hz⟩)) _ _ _ (by omega) hw (lv_sub hl [2, 3, 4, 1, 0] rfl)
  exact loop_28 (r + 1) x r (by first | assumption | omega) hx (fun z q => q) _ _ _ (Nat.lt_succ_self _) hw (lv_sub hl [2, 3, 4, 1, 0] rfl)
set_option maxHeartbeats 4000000 in
set_option maxRecDepth 100000 in
theorem c_m_root_x1 (l : Launch) (G : kG) (D : Nat → Nat) (sa : Nat → Int64) (pa : Nat → Int64) (pn : Nat) (tx : Nat → Nat) (tn : Nat) (rf : Nat) (ro : Nat → Nat) (wk : Nat) (mb : Nat → Nat) (so : Nat) (kd : Nat → Nat) (nu : Nat → Nat) (it : Nat) (ti : Nat) (rd : Nat) (ad : Nat → Int64) (R : Nat) (sp : Bool) (K : Nat → Nat → Nat) (w : Nat → Nat) (y : Nat → Nat) (z : Int) (x : Int) (hmo : MOk sa R sp K w y) (hzz : -2147483648 ≤ z ∧ z < 2147483648) (hzx : -2147483648 ≤ x ∧ x < 2147483648) (hx : ¬ (0 ≤ z ∧ z < (R : Int))) : kCM l yX7_root wsX7_root 3 68 0 0 G [.ref (D 0), vZ (z), vZ (x)] (wMod G D sa pa pn tx tn rf ro wk mb so kd nu it ti rd ad) (fun vv uu => vv = some (vN (0)) ∧ uu = wMod G D sa pa pn tx tn 1 ro wk mb so kd nu it ti rd ad) := by
  refine kCM.of (cc := cX7_root) (maxL := 5) (ret := (some .int)) (by decide) rfl (Nat.le_of_ble_eq_true rfl) ?_
  intro p e s m args below meth c A ls Qz hQ hin hm hw hl
  have hl : lv_has ls 5 [(0, .ref (D 0)), (1, vZ (z)), (2, vZ (x))] := hl
  refine k_aload_n hm hl 0 rfl dX7_root_0 ?_
  refine k_aload_n hm hl 0 rfl dX7_root_1 ?_
  refine k_iload_n hm hl 1 rfl dX7_root_2 ?_
  refine k_iload_n hm hl 2 rfl dX7_root_3 ?_
  refine k_callVr (n := 2) (As := [vZ (z), vZ (x)]) (rest := [.ref (D 0)]) hm hw hl (c_m_isStitch_1 l G D sa pa pn tx tn rf ro wk mb so kd nu it ti rd ad R sp K w y z x (by first | assumption | omega) (by first | assumption | omega) (by first | assumption | omega) (by first | assumption | omega)) gX7_root_X7_isStitch rfl (by decide +kernel) ⟨by decide, by decide⟩ (ci := 7) rfl 0 rfl [0, 1, 2, 3, 4, 5, 6, 7, 8] (by decide) rfl rfl rfl (by simp [Value.category]) ⟨by decide, by decide⟩ dX7_root_4 (fun v H locs hp hw => ?_)
  obtain rfl := hp
  refine W.eq (g2 := F0 m 7 ls [vB (false), .ref (D 0)]) rfl ?_
  refine k_ifeqB (tgt := 14) hm dX7_root_7 (by decide) (fun _ => ?_) (fun c_2 => absurd c_2 (by decide))
  refine k_iconstN hm 1 dX7_root_14 ?_
  refine k_callV (n := 1) (As := [vN (1)]) (rest := []) (wr := []) hm hw hl (c_m_throwsAt l G D sa pa pn tx tn rf ro wk mb so kd nu it ti rd ad 1 (by first | assumption | omega)) gX7_root_X7_throwsAt rfl (by decide +kernel) ⟨by decide, by decide⟩ (ci := 7) rfl 0 rfl [0, 1, 2, 3, 4, 5, 6, 7, 8] [] (by decide) rfl rfl (by decide) (by decide) rfl rfl (by simp [Value.category]) ⟨by decide, by decide⟩ dX7_root_15 (fun v w1 H locs hp hw => ?_)
  obtain ⟨rfl, rfl⟩ := hp
  have hw := hw.sub (ws' := wMod G D sa pa pn tx tn 1 ro wk mb so kd nu it ti rd ad) [0, 1, 2, 3, 4, 5, 6, 7, 8] (by decide) rfl
  refine W.eq (g2 := F0 m 18 ls [vB (decide (0 < 1))]) rfl ?_
  refine k_ifeqB (tgt := 23) hm dX7_root_18 (by decide) (fun c_4 => absurd (of_decide_eq_false c_4) (by omega)) (fun c_4 => ?_)
  refine k_iconstN hm 0 dX7_root_21 ?_
  exact k_iret (post := _) hm hQ rfl rfl hw (⟨rfl, rfl⟩) (by omega) (by omega) dX7_root_22
set_option maxHeartbeats 4000000 in
set_option maxRecDepth 100000 in
theorem c_m_root_x2 (l : Launch) (G : kG) (D : Nat → Nat) (sa : Nat → Int64) (pa : Nat → Int64) (pn : Nat) (tx : Nat → Nat) (tn : Nat) (rf : Nat) (ro : Nat → Nat) (wk : Nat) (mb : Nat → Nat) (so : Nat) (kd : Nat → Nat) (nu : Nat → Nat) (it : Nat) (ti : Nat) (rd : Nat) (ad : Nat → Int64) (R : Nat) (sp : Bool) (K : Nat → Nat → Nat) (w : Nat → Nat) (y : Nat → Nat) (r : Nat) (x : Int) (hmo : MOk sa R sp K w y) (hzx : -2147483648 ≤ x ∧ x < 2147483648) (hr : r < R) (hx : ¬ (0 ≤ x ∧ x < (sumM (K r) (w r) : Int))) : kCM l yX7_root wsX7_root 3 68 0 0 G [.ref (D 0), vN (r), vZ (x)] (wMod G D sa pa pn tx tn rf ro wk mb so kd nu it ti rd ad) (fun vv uu => vv = some (vN (0)) ∧ uu = wMod G D sa pa pn tx tn 1 ro wk mb so kd nu it ti rd ad) := by
  refine kCM.of (cc := cX7_root) (maxL := 5) (ret := (some .int)) (by decide) rfl (Nat.le_of_ble_eq_true rfl) ?_
  intro p e s m args below meth c A ls Qz hQ hin hm hw hl
  have hl : lv_has ls 5 [(0, .ref (D 0)), (1, vN (r)), (2, vZ (x))] := hl
  have hR := hmo.1.1
  have hb := hmo.1.2.1 r hr
  refine k_aload_n hm hl 0 rfl dX7_root_0 ?_
  refine k_aload_n hm hl 0 rfl dX7_root_1 ?_
  refine k_iload_n hm hl 1 rfl dX7_root_2 ?_
  refine k_iload_n hm hl 2 rfl dX7_root_3 ?_
  refine k_callVr (n := 2) (As := [vN (r), vZ (x)]) (rest := [.ref (D 0)]) hm hw hl (c_m_isStitch_2 l G D sa pa pn tx tn rf ro wk mb so kd nu it ti rd ad R sp K w y r x (by first | assumption | omega) (by first | assumption | omega) (by first | assumption | omega)) gX7_root_X7_isStitch rfl (by decide +kernel) ⟨by decide, by decide⟩ (ci := 7) rfl 0 rfl [0, 1, 2, 3, 4, 5, 6, 7, 8] (by decide) rfl rfl rfl (by simp [Value.category]) ⟨by decide, by decide⟩ dX7_root_4 (fun v H locs hp hw => ?_)
  obtain rfl := hp
  refine W.eq (g2 := F0 m 7 ls [vB (decide (0 ≤ x ∧ x < (sumM (K r) (w r) : Int))), .ref (D 0)]) rfl ?_
  refine k_ifeqB (tgt := 14) hm dX7_root_7 (by decide) (fun c_2 => ?_) (fun c_2 => absurd (of_decide_eq_true c_2) (by omega))
  refine k_iconstN hm 1 dX7_root_14 ?_
  refine k_callV (n := 1) (As := [vN (1)]) (rest := []) (wr := []) hm hw hl (c_m_throwsAt l G D sa pa pn tx tn rf ro wk mb so kd nu it ti rd ad 1 (by first | assumption | omega)) gX7_root_X7_throwsAt rfl (by decide +kernel) ⟨by decide, by decide⟩ (ci := 7) rfl 0 rfl [0, 1, 2, 3, 4, 5, 6, 7, 8] [] (by decide) rfl rfl (by decide) (by decide) rfl rfl (by simp [Value.category]) ⟨by decide, by decide⟩ dX7_root_15 (fun v w1 H locs hp hw => ?_)
  obtain ⟨rfl, rfl⟩ := hp
  have hw := hw.sub (ws' := wMod G D sa pa pn tx tn 1 ro wk mb so kd nu it ti rd ad) [0, 1, 2, 3, 4, 5, 6, 7, 8] (by decide) rfl
  refine W.eq (g2 := F0 m 18 ls [vB (decide (0 < 1))]) rfl ?_
  refine k_ifeqB (tgt := 23) hm dX7_root_18 (by decide) (fun c_4 => absurd (of_decide_eq_false c_4) (by omega)) (fun c_4 => ?_)
  refine k_iconstN hm 0 dX7_root_21 ?_
  exact k_iret (post := _) hm hQ rfl rfl hw (⟨rfl, rfl⟩) (by omega) (by omega) dX7_root_22
set_option maxHeartbeats 4000000 in
set_option maxRecDepth 100000 in
theorem c_m_place_ok (l : Launch) (G : kG) (D : Nat → Nat) (sa : Nat → Int64) (pa : Nat → Int64) (pn : Nat) (tx : Nat → Nat) (tn : Nat) (rf : Nat) (ro : Nat → Nat) (wk : Nat) (mb : Nat → Nat) (so : Nat) (kd : Nat → Nat) (nu : Nat → Nat) (it : Nat) (ti : Nat) (rd : Nat) (ad : Nat → Int64) (R : Nat) (sp : Bool) (K : Nat → Nat → Nat) (w : Nat → Nat) (y : Nat → Nat) (r : Nat) (x : Nat) (hmo : MOk sa R sp K w y) (hr : r < R) (hx : x < sumM (K r) (w r)) : kCM l yX7_place wsX7_place 3 67 0 0 G [.ref (D 0), vN (r), vN (x)] (wMod G D sa pa pn tx tn rf ro wk mb so kd nu it ti rd ad) (fun vv uu => vv = some (vN (if sp = true then (2 * x + r) * 1000 / (2 * sumM (K r) (w r)) % 1000 else x * 1000 / sumM (K r) (w r))) ∧ uu = wMod G D sa pa pn tx tn 0 ro wk mb so kd nu it ti rd ad) := by
  refine kCM.of (cc := cX7_place) (maxL := 4) (ret := (some .int)) (by decide) rfl (Nat.le_of_ble_eq_true rfl) ?_
  intro p e s m args below meth c A ls Qz hQ hin hm hw hl
  have hl : lv_has ls 4 [(0, .ref (D 0)), (1, vN (r)), (2, vN (x))] := hl
  have i7 : ∀ w ∈ wsX70, w ∈ wsX7_place := by decide +kernel
  have hR := hmo.1.1
  have hb := hmo.1.2.1 r hr
  refine k_aload_n hm hl 0 rfl dX7_place_0 ?_
  refine k_aload_n hm hl 0 rfl dX7_place_1 ?_
  refine k_iload_n hm hl 1 rfl dX7_place_2 ?_
  refine k_iload_n hm hl 2 rfl dX7_place_3 ?_
  refine k_callVr (n := 2) (As := [vN (r), vN (x)]) (rest := [.ref (D 0)]) hm hw hl (c_m_isStitch_2 l G D sa pa pn tx tn rf ro wk mb so kd nu it ti rd ad R sp K w y r ((x : Nat) : Int) (by first | assumption | omega) (by first | assumption | omega) (by first | assumption | omega)) gX7_place_X7_isStitch rfl (by decide +kernel) ⟨by decide, by decide⟩ (ci := 7) rfl 0 rfl [0, 1, 2, 3, 4, 5, 6, 7, 8] (by decide) rfl rfl rfl (by simp [Value.category]) ⟨by decide, by decide⟩ dX7_place_4 (fun v H locs hp hw => ?_)
  obtain rfl := hp
  refine W.eq (g2 := F0 m 7 ls [vB (decide (0 ≤ ((x : Nat) : Int) ∧ ((x : Nat) : Int) < (sumM (K r) (w r) : Int))), .ref (D 0)]) rfl ?_
  refine k_ifeqB (tgt := 14) hm dX7_place_7 (by decide) (fun c_2 => absurd (of_decide_eq_false c_2) (by omega)) (fun c_2 => ?_)
  refine k_iconstN hm 0 dX7_place_10 ?_
  refine k_goto (tgt := 15) hm dX7_place_11 (by decide) ?_
  refine k_callV (n := 1) (As := [vN (0)]) (rest := []) (wr := []) hm hw hl (c_m_throwsAt l G D sa pa pn tx tn rf ro wk mb so kd nu it ti rd ad 0 (by first | assumption | omega)) gX7_place_X7_throwsAt rfl (by decide +kernel) ⟨by decide, by decide⟩ (ci := 7) rfl 0 rfl [0, 1, 2, 3, 4, 5, 6, 7, 8] [] (by decide) rfl rfl (by decide) (by decide) rfl rfl (by simp [Value.category]) ⟨by decide, by decide⟩ dX7_place_15 (fun v w1 H locs hp hw => ?_)
  obtain ⟨rfl, rfl⟩ := hp
  have hw := hw.sub (ws' := wMod G D sa pa pn tx tn 0 ro wk mb so kd nu it ti rd ad) [0, 1, 2, 3, 4, 5, 6, 7, 8] (by decide) rfl
  refine W.eq (g2 := F0 m 18 ls [vB (decide (0 < 0))]) rfl ?_
  refine k_ifeqB (tgt := 23) hm dX7_place_18 (by decide) (fun c_4 => ?_) (fun c_4 => absurd (of_decide_eq_true c_4) (by omega))
  refine k_aload_n hm hl 0 rfl dX7_place_23 ?_
  refine k_iload_n hm hl 1 rfl dX7_place_24 ?_
  refine k_callVr (n := 1) (As := [vN (r)]) (rest := []) hm hw hl (c_m_totalOf l G D sa pa pn tx tn 0 ro wk mb so kd nu it ti rd ad R sp K w y r (by first | assumption | omega) (by first | assumption | omega)) gX7_place_X7_totalOf rfl (by decide +kernel) ⟨by decide, by decide⟩ (ci := 7) rfl 0 rfl [0, 1, 2, 3, 4, 5, 6, 7, 8] (by decide) rfl rfl rfl (by simp [Value.category]) ⟨by decide, by decide⟩ dX7_place_25 (fun v H locs hp hw => ?_)
  obtain rfl := hp
  refine W.eq (g2 := F0 m 28 ls [vN (sumM (K r) (w r))]) rfl ?_
  refine k_istore_n hm hl [(3, vN (sumM (K r) (w r))), (0, .ref (D 0)), (1, vN (r)), (2, vN (x))] (by decide) rfl dX7_place_28 (fun ls hl => ?_)
  refine k_aload_n hm hl 1 rfl dX7_place_29 ?_
  refine k_get (T := TX7) hm hw 0 0 i7 rfl rfl (by decide) (by decide +kernel) rfl dX7_place_30 ?_
  refine k_iconstN hm 1 dX7_place_33 ?_
  refine k_lald hm hw 1 rfl (by omega) dX7_place_34 ?_
  rw [show sa 1 = lI (bI sp) from hmo.2.2.1]
  refine k_lconst (n := 1) hm dX7_place_35 ?_
  have hb01 := bI_01 sp
  refine k_lcmpB (b := sp) hm dX7_place_36 ?_
  refine k_ifne (tgt := 60) hm dX7_place_37 (by decide) (by omega) (fun c_6 => ?_) (fun c_6 => ?_)
  · have hsp : sp = false := by
                              have h2 := bI_01 sp
                              cases hq : sp with
                              | true => first | rfl | (exfalso; rw [hq, bI_t] at c_6; omega)
                              | false => first | rfl | (exfalso; rw [hq, bI_f] at c_6; omega)
    refine k_iload_n hm hl 3 rfl dX7_place_60 ?_
    refine k_sipushN hm 1000 dX7_place_61 rfl ?_
    refine k_imulN hm dX7_place_64 ?_
    refine k_iload_n hm hl 0 rfl dX7_place_65 ?_
    refine k_idivN hm (by omega) dX7_place_66 ?_
    exact k_iret (post := _) hm hQ rfl rfl hw (⟨by rw [if_neg (by rw [hsp]; decide)], rfl⟩) (by omega) (by omega) dX7_place_67
  · have hsp : sp = true := by
                              have h2 := bI_01 sp
                              cases hq : sp with
                              | true => first | rfl | (exfalso; rw [hq, bI_t] at c_6; omega)
                              | false => first | rfl | (exfalso; rw [hq, bI_f] at c_6; omega)
    refine k_iconstN hm 2 dX7_place_40 ?_
    refine k_iload_n hm hl 3 rfl dX7_place_41 ?_
    refine k_imulN hm dX7_place_42 ?_
    refine k_iload_n hm hl 2 rfl dX7_place_43 ?_
    refine k_iaddN hm dX7_place_44 ?_
    refine k_sipushN hm 1000 dX7_place_45 rfl ?_
    refine k_imulN hm dX7_place_48 ?_
    refine k_iconstN hm 2 dX7_place_49 ?_
    refine k_iload_n hm hl 0 rfl dX7_place_50 ?_
    refine k_imulN hm dX7_place_51 ?_
    refine k_idivN hm (by omega) dX7_place_52 ?_
    refine k_nmN (fun u_7 eu_7 => ?_)
    have hu : u_7 ≤ (2 * x + r) * 1000 := by rw [eu_7]; exact Nat.div_le_self _ _
    have eu := eu_7
    refine k_sipushN hm 1000 dX7_place_53 rfl ?_
    refine k_iremN hm (by omega) dX7_place_56 ?_
    refine k_goto (tgt := 67) hm dX7_place_57 (by decide) ?_
    exact k_iret (post := _) hm hQ rfl rfl hw (⟨by rw [if_pos hsp, ← eu], rfl⟩) (by omega) (by omega) dX7_place_67
set_option maxHeartbeats 4000000 in
set_option maxRecDepth 100000 in
theorem c_m_place_x1 (l : Launch) (G : kG) (D : Nat → Nat) (sa : Nat → Int64) (pa : Nat → Int64) (pn : Nat) (tx : Nat → Nat) (tn : Nat) (rf : Nat) (ro : Nat → Nat) (wk : Nat) (mb : Nat → Nat) (so : Nat) (kd : Nat → Nat) (nu : Nat → Nat) (it : Nat) (ti : Nat) (rd : Nat) (ad : Nat → Int64) (R : Nat) (sp : Bool) (K : Nat → Nat → Nat) (w : Nat → Nat) (y : Nat → Nat) (z : Int) (x : Int) (hmo : MOk sa R sp K w y) (hzz : -2147483648 ≤ z ∧ z < 2147483648) (hzx : -2147483648 ≤ x ∧ x < 2147483648) (hx : ¬ (0 ≤ z ∧ z < (R : Int))) : kCM l yX7_place wsX7_place 3 67 0 0 G [.ref (D 0), vZ (z), vZ (x)] (wMod G D sa pa pn tx tn rf ro wk mb so kd nu it ti rd ad) (fun vv uu => vv = some (vN (0)) ∧ uu = wMod G D sa pa pn tx tn 1 ro wk mb so kd nu it ti rd ad) := by
  refine kCM.of (cc := cX7_place) (maxL := 4) (ret := (some .int)) (by decide) rfl (Nat.le_of_ble_eq_true rfl) ?_
  intro p e s m args below meth c A ls Qz hQ hin hm hw hl
  have hl : lv_has ls 4 [(0, .ref (D 0)), (1, vZ (z)), (2, vZ (x))] := hl
  have i7 : ∀ w ∈ wsX70, w ∈ wsX7_place := by decide +kernel
  refine k_aload_n hm hl 0 rfl dX7_place_0 ?_
  refine k_aload_n hm hl 0 rfl dX7_place_1 ?_
  refine k_iload_n hm hl 1 rfl dX7_place_2 ?_
  refine k_iload_n hm hl 2 rfl dX7_place_3 ?_
  refine k_callVr (n := 2) (As := [vZ (z), vZ (x)]) (rest := [.ref (D 0)]) hm hw hl (c_m_isStitch_1 l G D sa pa pn tx tn rf ro wk mb so kd nu it ti rd ad R sp K w y z x (by first | assumption | omega) (by first | assumption | omega) (by first | assumption | omega) (by first | assumption | omega)) gX7_place_X7_isStitch rfl (by decide +kernel) ⟨by decide, by decide⟩ (ci := 7) rfl 0 rfl [0, 1, 2, 3, 4, 5, 6, 7, 8] (by decide) rfl rfl rfl (by simp [Value.category]) ⟨by decide, by decide⟩ dX7_place_4 (fun v H locs hp hw => ?_)
  obtain rfl := hp
  refine W.eq (g2 := F0 m 7 ls [vB (false), .ref (D 0)]) rfl ?_
  refine k_ifeqB (tgt := 14) hm dX7_place_7 (by decide) (fun _ => ?_) (fun c_2 => absurd c_2 (by decide))
  refine k_iconstN hm 1 dX7_place_14 ?_
  refine k_callV (n := 1) (As := [vN (1)]) (rest := []) (wr := []) hm hw hl (c_m_throwsAt l G D sa pa pn tx tn rf ro wk mb so kd nu it ti rd ad 1 (by first | assumption | omega)) gX7_place_X7_throwsAt rfl (by decide +kernel) ⟨by decide, by decide⟩ (ci := 7) rfl 0 rfl [0, 1, 2, 3, 4, 5, 6, 7, 8] [] (by decide) rfl rfl (by decide) (by decide) rfl rfl (by simp [Value.category]) ⟨by decide, by decide⟩ dX7_place_15 (fun v w1 H locs hp hw => ?_)
  obtain ⟨rfl, rfl⟩ := hp
  have hw := hw.sub (ws' := wMod G D sa pa pn tx tn 1 ro wk mb so kd nu it ti rd ad) [0, 1, 2, 3, 4, 5, 6, 7, 8] (by decide) rfl
  refine W.eq (g2 := F0 m 18 ls [vB (decide (0 < 1))]) rfl ?_
  refine k_ifeqB (tgt := 23) hm dX7_place_18 (by decide) (fun c_4 => absurd (of_decide_eq_false c_4) (by omega)) (fun c_4 => ?_)
  refine k_iconstN hm 0 dX7_place_21 ?_
  exact k_iret (post := _) hm hQ rfl rfl hw (⟨rfl, rfl⟩) (by omega) (by omega) dX7_place_22
set_option maxHeartbeats 4000000 in
set_option maxRecDepth 100000 in
theorem c_m_place_x2 (l : Launch) (G : kG) (D : Nat → Nat) (sa : Nat → Int64) (pa : Nat → Int64) (pn : Nat) (tx : Nat → Nat) (tn : Nat) (rf : Nat) (ro : Nat → Nat) (wk : Nat) (mb : Nat → Nat) (so : Nat) (kd : Nat → Nat) (nu : Nat → Nat) (it : Nat) (ti : Nat) (rd : Nat) (ad : Nat → Int64) (R : Nat) (sp : Bool) (K : Nat → Nat → Nat) (w : Nat → Nat) (y : Nat → Nat) (r : Nat) (x : Int) (hmo : MOk sa R sp K w y) (hzx : -2147483648 ≤ x ∧ x < 2147483648) (hr : r < R) (hx : ¬ (0 ≤ x ∧ x < (sumM (K r) (w r) : Int))) : kCM l yX7_place wsX7_place 3 67 0 0 G [.ref (D 0), vN (r), vZ (x)] (wMod G D sa pa pn tx tn rf ro wk mb so kd nu it ti rd ad) (fun vv uu => vv = some (vN (0)) ∧ uu = wMod G D sa pa pn tx tn 1 ro wk mb so kd nu it ti rd ad) := by
  refine kCM.of (cc := cX7_place) (maxL := 4) (ret := (some .int)) (by decide) rfl (Nat.le_of_ble_eq_true rfl) ?_
  intro p e s m args below meth c A ls Qz hQ hin hm hw hl
  have hl : lv_has ls 4 [(0, .ref (D 0)), (1, vN (r)), (2, vZ (x))] := hl
  have i7 : ∀ w ∈ wsX70, w ∈ wsX7_place := by decide +kernel
  have hR := hmo.1.1
  have hb := hmo.1.2.1 r hr
  refine k_aload_n hm hl 0 rfl dX7_place_0 ?_
  refine k_aload_n hm hl 0 rfl dX7_place_1 ?_
  refine k_iload_n hm hl 1 rfl dX7_place_2 ?_
  refine k_iload_n hm hl 2 rfl dX7_place_3 ?_
  refine k_callVr (n := 2) (As := [vN (r), vZ (x)]) (rest := [.ref (D 0)]) hm hw hl (c_m_isStitch_2 l G D sa pa pn tx tn rf ro wk mb so kd nu it ti rd ad R sp K w y r x (by first | assumption | omega) (by first | assumption | omega) (by first | assumption | omega)) gX7_place_X7_isStitch rfl (by decide +kernel) ⟨by decide, by decide⟩ (ci := 7) rfl 0 rfl [0, 1, 2, 3, 4, 5, 6, 7, 8] (by decide) rfl rfl rfl (by simp [Value.category]) ⟨by decide, by decide⟩ dX7_place_4 (fun v H locs hp hw => ?_)
  obtain rfl := hp
  refine W.eq (g2 := F0 m 7 ls [vB (decide (0 ≤ x ∧ x < (sumM (K r) (w r) : Int))), .ref (D 0)]) rfl ?_
  refine k_ifeqB (tgt := 14) hm dX7_place_7 (by decide) (fun c_2 => ?_) (fun c_2 => absurd (of_decide_eq_true c_2) (by omega))
  refine k_iconstN hm 1 dX7_place_14 ?_
  refine k_callV (n := 1) (As := [vN (1)]) (rest := []) (wr := []) hm hw hl (c_m_throwsAt l G D sa pa pn tx tn rf ro wk mb so kd nu it ti rd ad 1 (by first | assumption | omega)) gX7_place_X7_throwsAt rfl (by decide +kernel) ⟨by decide, by decide⟩ (ci := 7) rfl 0 rfl [0, 1, 2, 3, 4, 5, 6, 7, 8] [] (by decide) rfl rfl (by decide) (by decide) rfl rfl (by simp [Value.category]) ⟨by decide, by decide⟩ dX7_place_15 (fun v w1 H locs hp hw => ?_)
  obtain ⟨rfl, rfl⟩ := hp
  have hw := hw.sub (ws' := wMod G D sa pa pn tx tn 1 ro wk mb so kd nu it ti rd ad) [0, 1, 2, 3, 4, 5, 6, 7, 8] (by decide) rfl
  refine W.eq (g2 := F0 m 18 ls [vB (decide (0 < 1))]) rfl ?_
  refine k_ifeqB (tgt := 23) hm dX7_place_18 (by decide) (fun c_4 => absurd (of_decide_eq_false c_4) (by omega)) (fun c_4 => ?_)
  refine k_iconstN hm 0 dX7_place_21 ?_
  exact k_iret (post := _) hm hQ rfl rfl hw (⟨rfl, rfl⟩) (by omega) (by omega) dX7_place_22
