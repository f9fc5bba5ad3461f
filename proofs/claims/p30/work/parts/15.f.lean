/-- the kinds of the works that made the stitches, told once and for all -/
def mkF (k : Nat → Nat) : Nat → Nat → Nat | 0, _ => 0 | n + 1, x => if sumM k n ≤ x ∧ x < sumM k (n + 1) then k n else mkF k n x
theorem mkF_ok (k : Nat → Nat) : ∀ m, mkOk (mkF k m) k m
  | 0 => fun i hi => absurd hi (by omega)
  | m + 1 => fun i hi x h1 h2 => by
    by_cases q : i = m
    · subst q; simp only [mkF]; rw [if_pos ⟨h1, h2⟩]
    · have hm := sumM_mono k (show i + 1 ≤ m by omega)
      simp only [mkF]; rw [if_neg (by omega)]; exact mkF_ok k m i (by omega) x h1 h2
def spR (n t x : Nat) : Nat → Nat := fun i => spk (pk n t) (pd n t) (pm n t) ((i + x) % pm n t)
def miR (n t : Nat) : Nat → Nat := mik (pk n t) (pd n t) (pm n t)
def stkC (k : Nat → Nat) (m n t x : Nat) : Nat := nstk (mkF k m) (spR n t x) (pm n t)
theorem nstk_mk {mf k row : Nat → Nat} {m m2 : Nat} (h : mkOk mf k m) (h2 : sumU row m2 ≤ sumM k m) : nstk mf row m2 = nstk (mkF k m) row m2 :=
  nstk_ext (fun _ _ => rfl) (fun x hx => mkOk_u h (mkF_ok k m) x (by omega))
theorem spR_ok {n t x : Nat} (h : 3 ≤ n ∧ n ≤ 120 ∧ 3 ≤ t ∧ t ≤ 120) (hpo : isPo n t) : rowGood (spR n t x) n t := rowGood_sp (s := x) h hpo (fun _ _ => rfl)
theorem miR_ok {n t : Nat} (hpo : isPo n t) (hp : ¬ (pd n t % 2 = 1 ∧ pm n t % 2 = 0)) : rowGood (miR n t) n t := rowGood_mi hpo hp (fun _ _ => rfl)
theorem isBst_ext {c d : Nat → Nat} {m b : Nat} (h : isBst c m b) (e : ∀ x, x < m → c x = d x) : isBst d m b := by
  have h1 := h.1
  refine ⟨h.1, fun x hx => ?_, fun x hx => ?_⟩
  · rw [← e b h1, ← e x hx]; exact h.2.1 x hx
  · rw [← e b h1, ← e x (by omega)]; exact h.2.2 x hx
theorem PVd_last {R : Nat} {K : Nat → Nat → Nat} {w y : Nat → Nat} (h : PVd R K w y) : 3 ≤ sumM (K (R - 1)) (w (R - 1)) ∧ sumM (K (R - 1)) (w (R - 1)) ≤ 120 := (h.2.1 (R - 1) (by have := h.1; omega)).2.1
theorem spR_f {f : Nat → Nat} {n t x : Nat} (h : 3 ≤ n ∧ n ≤ 120 ∧ 3 ≤ t ∧ t ≤ 120) (hf : ∀ i, i < pm n t → f i = spk (pk n t) (pd n t) (pm n t) i) : (fun i => f ((i + x) % pm n t)) = spR n t x := by
  have := pm_le h
  funext i
  exact hf _ (Nat.mod_lt _ (by omega))
set_option maxHeartbeats 4000000 in
set_option maxRecDepth 100000 in
theorem c_addBest (l : Launch) (G : kG) (o : Nat) (h : Nat) (T : Nat → Nat) (M : Nat → Nat) (mf : Nat → Nat) (P : Nat → Nat) (gk : Nat → Nat) (gw : Nat → Nat) (gt : Nat → Nat) (gy : Nat → Nat) (R : Nat) (sp : Bool) (L : Nat → Nat) (f : Nat → Nat) (sd : Nat) (kd : Nat) (K : Nat → Nat → Nat) (w : Nat → Nat) (y : Nat → Nat) (n : Nat) (t : Nat) (hok : POk gk gw gt gy R K w y) (hR40 : R < 40) (h3 : 3 ≤ n ∧ n ≤ 120 ∧ 3 ≤ t ∧ t ≤ 120) (hn : n = sumM (K (R - 1)) (w (R - 1))) (hpo : isPo n t) (hf : ∀ i, i < pm n t → f i = spk (pk n t) (pd n t) (pm n t) i) : kCM l yX6_addBest wsX6_addBest 3 76 0 0 G [.ref (o)] (wMain G o P h T L M ++ (wPiece G P gk gw gt gy R sp ++ (wPlan G L f (pm n t) sd kd ++ wMk G M mf))) (fun vv uu => ∃ (b : Nat), ∃ (gk2 : Nat → Nat), ∃ (gw2 : Nat → Nat), ∃ (gt2 : Nat → Nat), ∃ (mf2 : Nat → Nat), vv = some (vN (b)) ∧ uu = wMain G o P h T L M ++ (wPiece G P gk2 gw2 gt2 gy (R + 1) sp ++ (wPlan G L f (pm n t) sd kd ++ wMk G M mf2)) ∧ (isBst (stkC (K (R - 1)) (w (R - 1)) n t) (pm n t) b) ∧ (POk gk2 gw2 gt2 gy (R + 1) (fup K R (spR n t b)) (fup w R (pm n t)) y)) := by
  refine kCM.of (cc := cX6_addBest) (maxL := 2) (ret := (some .int)) (by decide) rfl (Nat.le_of_ble_eq_true rfl) ?_
  intro p e s m args below meth c A ls Qz hQ hin hm hw hl
  have hl : lv_has ls 2 [(0, .ref (o))] := hl
  have i4 : ∀ w ∈ wsX40, w ∈ wsX6_addBest := by decide +kernel
  have i6 : ∀ w ∈ wsX60, w ∈ wsX6_addBest := by decide +kernel
  have hR := hok.1.1
  have hpm := pm_le h3
  refine k_aload_n hm hl 0 rfl dX6_addBest_0 ?_
  refine k_get (T := TX6) hm hw 0 4 i6 rfl rfl (by decide) (by decide +kernel) rfl dX6_addBest_1 ?_
  refine k_aload_n hm hl 0 rfl dX6_addBest_4 ?_
  refine k_get (T := TX6) hm hw 0 0 i6 rfl rfl (by decide) (by decide +kernel) rfl dX6_addBest_5 ?_
  refine k_aload_n hm hl 0 rfl dX6_addBest_8 ?_
  refine k_get (T := TX6) hm hw 0 0 i6 rfl rfl (by decide) (by decide +kernel) rfl dX6_addBest_9 ?_
  refine k_get (T := TX4) hm hw 1 4 i4 rfl rfl (by decide) (by decide +kernel) rfl dX6_addBest_12 ?_
  refine k_iconstN hm 1 dX6_addBest_15 ?_
  refine k_isubN hm (by omega) dX6_addBest_16 ?_
  refine k_callV (n := 2) (As := [.ref (P 0), vN (R - 1)]) (rest := []) (wr := [(o, .inr (6, [.ref (P 0), .ref (h), .ref (T 0), .ref (L 0), .ref (M 0)])), (L 0, .inr (5, [.ref (L 1), vN (pm n t), vN (sd), vN (kd)])), (L 1, .inr (2, [.ref (L 2)])), (L 2, .inl (G.2 0, 120, .inl (nF f)))]) hm hw hl (c_load l G M mf P gk gw gt gy R sp K w y (R - 1) (by first | assumption | omega) (by first | assumption | omega)) gX6_addBest_X1_load rfl (by decide +kernel) ⟨by decide, by decide⟩ (ci := 1) rfl 13 rfl [13, 14, 15, 1, 2, 3, 4, 5, 6, 7, 8, 9] [0, 10, 11, 12] (by decide) rfl rfl (by decide) (by decide) rfl rfl (by simp [Value.category]) ⟨by decide, by decide⟩ dX6_addBest_17 (fun v w1 H locs hp hw => ?_)
  obtain ⟨mf2_2, rfl, rfl, hmk_3⟩ := hp
  have hw := hw.sub (ws' := wMain G o P h T L M ++ (wPiece G P gk gw gt gy R sp ++ (wPlan G L f (pm n t) sd kd ++ wMk G M mf2_2))) [0, 7, 8, 9, 10, 11, 12, 13, 14, 15, 1, 2, 3, 4, 5, 6] (by decide) rfl
  refine W.eq (g2 := F0 m 20 ls []) rfl ?_
  have hmk := hmk_3
  refine k_aload_n hm hl 0 rfl dX6_addBest_20 ?_
  refine k_get (T := TX6) hm hw 0 4 i6 rfl rfl (by decide) (by decide +kernel) rfl dX6_addBest_21 ?_
  refine k_aload_n hm hl 0 rfl dX6_addBest_24 ?_
  refine k_get (T := TX6) hm hw 0 3 i6 rfl rfl (by decide) (by decide +kernel) rfl dX6_addBest_25 ?_
  refine k_callVr (n := 1) (As := [.ref (L 0)]) (rest := []) hm hw hl (c_bestShift l G M mf2_2 L f (pm n t) sd kd (fun x => nstk mf2_2 (fun i => f ((i + x) % pm n t)) (pm n t)) (by first | assumption | omega) (fun i q => by rw [hf i q]; exact spk_le (pkx_le n t).2) (fun x => by rw [spR_f h3 hf, (spR_ok h3 hpo).2.1]; exact h3.2.1) (fun z x q => mkOk_le hok.1 (show R - 1 < R by omega) hmk x (by rw [spR_f h3 hf, (spR_ok h3 hpo).2.1, hn] at q; exact q)) (fun _ => rfl)) gX6_addBest_X1_bestShift rfl (by decide +kernel) ⟨by decide, by decide⟩ (ci := 1) rfl 13 rfl [13, 14, 15, 10, 11, 12] (by decide) rfl rfl rfl (by simp [Value.category]) ⟨by decide, by decide⟩ dX6_addBest_28 (fun v H locs hp hw => ?_)
  obtain ⟨b_5, rfl, hb_6⟩ := hp
  refine W.eq (g2 := F0 m 31 ls [vN (b_5)]) rfl ?_
  have hb := isBst_ext hb_6 (d := stkC (K (R - 1)) (w (R - 1)) n t) (fun x _ => by rw [spR_f h3 hf]; exact nstk_mk hmk (by rw [(spR_ok h3 hpo).2.1, hn]; exact Nat.le_refl _))
  have hb1 := hb.1
  refine k_istore_n hm hl [(1, vN (b_5)), (0, .ref (o))] (by decide) rfl dX6_addBest_31 (fun ls hl => ?_)
  refine k_aload_n hm hl 1 rfl dX6_addBest_32 ?_
  refine k_iload_n hm hl 0 rfl dX6_addBest_33 ?_
  refine k_callV (n := 1) (As := [vN (b_5)]) (rest := []) (wr := [(M 0, .inr (1, [.ref (M 1)])), (M 1, .inr (2, [.ref (M 2)])), (M 2, .inl (G.2 0, 120, .inl (nF mf2_2)))]) hm hw hl (c_addRow l G o h T L M P gk gw gt gy R sp f (pm n t) sd kd K w y b_5 (spR n t b_5) (by first | assumption | omega) (by first | assumption | omega) (by first | assumption | omega) (by have := pm_le h3; omega) (fun i q => ⟨(hf _ (Nat.mod_lt _ (by have := pm_le h3; omega))).symm, (spR_ok h3 hpo).1 i q⟩) (by rw [(spR_ok h3 hpo).2.2]; omega) (by rw [(spR_ok h3 hpo).2.1]; exact hn)) gX6_addBest_X6_addRow rfl (by decide +kernel) ⟨by decide, by decide⟩ (ci := 6) rfl 0 rfl [0, 1, 2, 3, 4, 5, 6, 7, 8, 9, 10, 11, 12] [13, 14, 15] (by decide) rfl rfl (by decide) (by decide) rfl rfl (by simp [Value.category]) ⟨by decide, by decide⟩ dX6_addBest_34 (fun v w1 H locs hp hw => ?_)
  obtain ⟨gk2_8, gw2_9, gt2_10, rfl, rfl, hok2_11⟩ := hp
  have hw := hw.sub (ws' := wMain G o P h T L M ++ (wPiece G P gk2_8 gw2_9 gt2_10 gy (R + 1) sp ++ (wPlan G L f (pm n t) sd kd ++ wMk G M mf2_2))) [3, 4, 5, 6, 7, 8, 9, 10, 11, 12, 13, 14, 15, 0, 1, 2] (by decide) rfl
  refine W.eq (g2 := F0 m 37 ls []) rfl ?_
  have hok2 := hok2_11
  refine k_iload_n hm hl 0 rfl dX6_addBest_37 ?_
  exact k_iret (post := _) hm hQ rfl rfl hw (⟨b_5, _, _, _, _, rfl, rfl, hb, hok2⟩) (by omega) (by omega) dX6_addBest_38
set_option maxHeartbeats 4000000 in
set_option maxRecDepth 100000 in
theorem c_addPlanned (l : Launch) (G : kG) (o : Nat) (h : Nat) (T : Nat → Nat) (M : Nat → Nat) (mf : Nat → Nat) (P : Nat → Nat) (gk : Nat → Nat) (gw : Nat → Nat) (gt : Nat → Nat) (gy : Nat → Nat) (R : Nat) (sp : Bool) (L : Nat → Nat) (f : Nat → Nat) (wk : Nat) (sd : Nat) (kd : Nat) (K : Nat → Nat → Nat) (w : Nat → Nat) (y : Nat → Nat) (x : Nat) (row : Nat → Nat) (hok : POk gk gw gt gy R K w y) (hR40 : R < 40) (hwk : 1 ≤ wk ∧ wk ≤ 120) (hsh : x < 120) (hr2 : ∀ i, i < wk → row i = f ((i + x) % wk) ∧ row i ≤ 2) (hrM : 3 ≤ sumM row wk ∧ sumM row wk ≤ 120) (hrU : sumU row wk = sumM (K (R - 1)) (w (R - 1))) : kCM l yX6_addPlanned wsX6_addPlanned 3 67 0 0 G [.ref (o), vN (x)] (wMain G o P h T L M ++ (wPiece G P gk gw gt gy R sp ++ (wPlan G L f wk sd kd ++ wMk G M mf))) (fun vv uu => ∃ (gk2 : Nat → Nat), ∃ (gw2 : Nat → Nat), ∃ (gt2 : Nat → Nat), ∃ (mf2 : Nat → Nat), vv = some (vN (nstk (mkF (K (R - 1)) (w (R - 1))) row wk)) ∧ uu = wMain G o P h T L M ++ (wPiece G P gk2 gw2 gt2 gy (R + 1) sp ++ (wPlan G L f wk sd kd ++ wMk G M mf2)) ∧ (POk gk2 gw2 gt2 gy (R + 1) (fup K R row) (fup w R wk) y)) := by
  refine kCM.of (cc := cX6_addPlanned) (maxL := 3) (ret := (some .int)) (by decide) rfl (Nat.le_of_ble_eq_true rfl) ?_
  intro p e s m args below meth c A ls Qz hQ hin hm hw hl
  have hl : lv_has ls 3 [(0, .ref (o)), (1, vN (x))] := hl
  have i4 : ∀ w ∈ wsX40, w ∈ wsX6_addPlanned := by decide +kernel
  have i5 : ∀ w ∈ wsX50, w ∈ wsX6_addPlanned := by decide +kernel
  have i6 : ∀ w ∈ wsX60, w ∈ wsX6_addPlanned := by decide +kernel
  have hR := hok.1.1
  have hlast := PVd_last hok.1
  refine k_aload_n hm hl 0 rfl dX6_addPlanned_0 ?_
  refine k_get (T := TX6) hm hw 0 4 i6 rfl rfl (by decide) (by decide +kernel) rfl dX6_addPlanned_1 ?_
  refine k_aload_n hm hl 0 rfl dX6_addPlanned_4 ?_
  refine k_get (T := TX6) hm hw 0 0 i6 rfl rfl (by decide) (by decide +kernel) rfl dX6_addPlanned_5 ?_
  refine k_aload_n hm hl 0 rfl dX6_addPlanned_8 ?_
  refine k_get (T := TX6) hm hw 0 0 i6 rfl rfl (by decide) (by decide +kernel) rfl dX6_addPlanned_9 ?_
  refine k_get (T := TX4) hm hw 1 4 i4 rfl rfl (by decide) (by decide +kernel) rfl dX6_addPlanned_12 ?_
  refine k_iconstN hm 1 dX6_addPlanned_15 ?_
  refine k_isubN hm (by omega) dX6_addPlanned_16 ?_
  refine k_callV (n := 2) (As := [.ref (P 0), vN (R - 1)]) (rest := []) (wr := [(o, .inr (6, [.ref (P 0), .ref (h), .ref (T 0), .ref (L 0), .ref (M 0)])), (L 0, .inr (5, [.ref (L 1), vN (wk), vN (sd), vN (kd)])), (L 1, .inr (2, [.ref (L 2)])), (L 2, .inl (G.2 0, 120, .inl (nF f)))]) hm hw hl (c_load l G M mf P gk gw gt gy R sp K w y (R - 1) (by first | assumption | omega) (by first | assumption | omega)) gX6_addPlanned_X1_load rfl (by decide +kernel) ⟨by decide, by decide⟩ (ci := 1) rfl 13 rfl [13, 14, 15, 1, 2, 3, 4, 5, 6, 7, 8, 9] [0, 10, 11, 12] (by decide) rfl rfl (by decide) (by decide) rfl rfl (by simp [Value.category]) ⟨by decide, by decide⟩ dX6_addPlanned_17 (fun v w1 H locs hp hw => ?_)
  obtain ⟨mf2_2, rfl, rfl, hmk_3⟩ := hp
  have hw := hw.sub (ws' := wMain G o P h T L M ++ (wPiece G P gk gw gt gy R sp ++ (wPlan G L f wk sd kd ++ wMk G M mf2_2))) [0, 7, 8, 9, 10, 11, 12, 13, 14, 15, 1, 2, 3, 4, 5, 6] (by decide) rfl
  refine W.eq (g2 := F0 m 20 ls []) rfl ?_
  have hmk := hmk_3
  refine k_aload_n hm hl 0 rfl dX6_addPlanned_20 ?_
  refine k_get (T := TX6) hm hw 0 4 i6 rfl rfl (by decide) (by decide +kernel) rfl dX6_addPlanned_21 ?_
  refine k_aload_n hm hl 0 rfl dX6_addPlanned_24 ?_
  refine k_get (T := TX6) hm hw 0 3 i6 rfl rfl (by decide) (by decide +kernel) rfl dX6_addPlanned_25 ?_
  refine k_get (T := TX5) hm hw 10 0 i5 rfl rfl (by decide) (by decide +kernel) rfl dX6_addPlanned_28 ?_
  refine k_iconstN hm 0 dX6_addPlanned_31 ?_
  refine k_aload_n hm hl 0 rfl dX6_addPlanned_32 ?_
  refine k_get (T := TX6) hm hw 0 3 i6 rfl rfl (by decide) (by decide +kernel) rfl dX6_addPlanned_33 ?_
  refine k_get (T := TX5) hm hw 10 1 i5 rfl rfl (by decide) (by decide +kernel) rfl dX6_addPlanned_36 ?_
  refine k_iload_n hm hl 1 rfl dX6_addPlanned_39 ?_
  refine k_callVr (n := 4) (As := [.ref (L 1), vN (0), vN (wk), vN (x)]) (rest := []) hm hw hl (c_stackedIn l G M mf2_2 (L 1) (L 2) 120 f 0 wk x row (by first | assumption | omega) (fun i q => by rw [Nat.zero_add]; exact ⟨(hr2 i q).1.symm, (hr2 i q).2⟩) (by rw [hrU]; exact hlast.2) (fun x q => mkOk_le hok.1 (show R - 1 < R by omega) hmk x (by rw [← hrU]; exact q))) gX6_addPlanned_X1_stackedIn rfl (by decide +kernel) ⟨by decide, by decide⟩ (ci := 1) rfl 13 rfl [13, 14, 15, 11, 12] (by decide) rfl rfl rfl (by simp [Value.category]) ⟨by decide, by decide⟩ dX6_addPlanned_40 (fun v H locs hp hw => ?_)
  obtain rfl := hp
  refine W.eq (g2 := F0 m 43 ls [vN (nstk mf2_2 row wk)]) rfl ?_
  refine k_rwV (y := vN (nstk (mkF (K (R - 1)) (w (R - 1))) row wk)) (by rw [nstk_mk hmk (by rw [hrU]; exact Nat.le_refl _)]) ?_
  refine k_istore_n hm hl [(2, vN (nstk (mkF (K (R - 1)) (w (R - 1))) row wk)), (0, .ref (o)), (1, vN (x))] (by decide) rfl dX6_addPlanned_43 (fun ls hl => ?_)
  refine k_aload_n hm hl 1 rfl dX6_addPlanned_44 ?_
  refine k_iload_n hm hl 2 rfl dX6_addPlanned_45 ?_
  refine k_callV (n := 1) (As := [vN (x)]) (rest := []) (wr := [(M 0, .inr (1, [.ref (M 1)])), (M 1, .inr (2, [.ref (M 2)])), (M 2, .inl (G.2 0, 120, .inl (nF mf2_2)))]) hm hw hl (c_addRow l G o h T L M P gk gw gt gy R sp f wk sd kd K w y x row (by first | assumption | omega) (by first | assumption | omega) (by first | assumption | omega) (by first | assumption | omega) (by first | assumption | omega) (by first | assumption | omega) (by first | assumption | omega)) gX6_addPlanned_X6_addRow rfl (by decide +kernel) ⟨by decide, by decide⟩ (ci := 6) rfl 0 rfl [0, 1, 2, 3, 4, 5, 6, 7, 8, 9, 10, 11, 12] [13, 14, 15] (by decide) rfl rfl (by decide) (by decide) rfl rfl (by simp [Value.category]) ⟨by decide, by decide⟩ dX6_addPlanned_46 (fun v w1 H locs hp hw => ?_)
  obtain ⟨gk2_6, gw2_7, gt2_8, rfl, rfl, hok2_9⟩ := hp
  have hw := hw.sub (ws' := wMain G o P h T L M ++ (wPiece G P gk2_6 gw2_7 gt2_8 gy (R + 1) sp ++ (wPlan G L f wk sd kd ++ wMk G M mf2_2))) [3, 4, 5, 6, 7, 8, 9, 10, 11, 12, 13, 14, 15, 0, 1, 2] (by decide) rfl
  refine W.eq (g2 := F0 m 49 ls []) rfl ?_
  have hok2 := hok2_9
  refine k_iload_n hm hl 0 rfl dX6_addPlanned_49 ?_
  exact k_iret (post := _) hm hQ rfl rfl hw (⟨_, _, _, _, rfl, rfl, hok2⟩) (by omega) (by omega) dX6_addPlanned_50
