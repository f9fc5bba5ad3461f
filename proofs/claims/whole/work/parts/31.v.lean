set_option maxHeartbeats 4000000 in
set_option maxRecDepth 100000 in
theorem c_m_stackedOf (l : Launch) (G : kG) (D : Nat → Nat) (sa : Nat → Int64) (pa : Nat → Int64) (pn : Nat) (tx : Nat → Nat) (tn : Nat) (rf : Nat) (ro : Nat → Nat) (wk : Nat) (mb : Nat → Nat) (so : Nat) (kd : Nat → Nat) (nu : Nat → Nat) (it : Nat) (ti : Nat) (rd : Nat) (ad : Nat → Int64) (R : Nat) (sp : Bool) (K : Nat → Nat → Nat) (w : Nat → Nat) (y : Nat → Nat) (r : Nat) (hmo : MOk sa R sp K w y) (hr : r < R) : kCM l yX7_stackedOf wsX7_stackedOf 2 47 0 0 G [.ref (D 0), vN (r)] (wMod G D sa pa pn tx tn rf ro wk mb so kd nu it ti rd ad) (fun vv uu => ∃ (ro2 : Nat → Nat), ∃ (wk2 : Nat), ∃ (mb2 : Nat → Nat), vv = some (vN (stkP K w r)) ∧ uu = wMod G D sa pa pn tx tn rf ro2 wk2 mb2 so kd nu it ti rd ad) := by
  refine kCM.of (cc := cX7_stackedOf) (maxL := 2) (ret := (some .int)) (by decide) rfl (Nat.le_of_ble_eq_true rfl) ?_
  intro p e s m args below meth c A ls Qz hQ hin hm hw hl
  have hl : lv_has ls 2 [(0, .ref (D 0)), (1, vN (r))] := hl
  have hR := hmo.1.1
  have hb := hmo.1.2.1 r hr
  refine k_iload_n hm hl 1 rfl dX7_stackedOf_0 ?_
  refine k_ifne (tgt := 6) hm dX7_stackedOf_1 (by decide) (by omega) (fun c_1 => ?_) (fun c_1 => ?_)
  · refine k_aload_n hm hl 0 rfl dX7_stackedOf_6 ?_
    refine k_iload_n hm hl 1 rfl dX7_stackedOf_7 ?_
    refine k_iconstN hm 1 dX7_stackedOf_8 ?_
    refine k_isubN hm (by omega) dX7_stackedOf_9 ?_
    refine k_callV (n := 1) (As := [vN (r - 1)]) (rest := []) (wr := []) hm hw hl (c_m_laysMade l G D sa pa pn tx tn rf ro wk mb so kd nu it ti rd ad R sp K w y (r - 1) (by first | assumption | omega) (by first | assumption | omega)) gX7_stackedOf_X7_laysMade rfl (by decide +kernel) ⟨by decide, by decide⟩ (ci := 7) rfl 0 rfl [0, 1, 2, 3, 4, 5, 6, 7, 8] [] (by decide) rfl rfl (by decide) (by decide) rfl rfl (by simp [Value.category]) ⟨by decide, by decide⟩ dX7_stackedOf_10 (fun v w1 H locs hp hw => ?_)
    obtain ⟨mb2_3, rfl, rfl, hmk_4⟩ := hp
    have hw := hw.sub (ws' := wMod G D sa pa pn tx tn rf ro wk mb2_3 so kd nu it ti rd ad) [0, 1, 2, 3, 4, 5, 6, 7, 8] (by decide) rfl
    refine W.eq (g2 := F0 m 13 ls []) rfl ?_
    have hmk := hmk_4
    refine k_aload_n hm hl 0 rfl dX7_stackedOf_13 ?_
    refine k_iload_n hm hl 1 rfl dX7_stackedOf_14 ?_
    refine k_callV (n := 1) (As := [vN (r)]) (rest := []) (wr := []) hm hw hl (c_m_takesRow l G D sa pa pn tx tn rf ro wk mb2_3 so kd nu it ti rd ad R sp K w y r (by first | assumption | omega) (by first | assumption | omega)) gX7_stackedOf_X7_takesRow rfl (by decide +kernel) ⟨by decide, by decide⟩ (ci := 7) rfl 0 rfl [0, 1, 2, 3, 4, 5, 6, 7, 8] [] (by decide) rfl rfl (by decide) (by decide) rfl rfl (by simp [Value.category]) ⟨by decide, by decide⟩ dX7_stackedOf_15 (fun v w1 H locs hp hw => ?_)
    obtain ⟨ro2_6, rfl, rfl, hro_7⟩ := hp
    have hw := hw.sub (ws' := wMod G D sa pa pn tx tn rf ro2_6 (w r) mb2_3 so kd nu it ti rd ad) [0, 1, 2, 3, 4, 5, 6, 7, 8] (by decide) rfl
    refine W.eq (g2 := F0 m 18 ls []) rfl ?_
    have hro := hro_7
    have hU : sumU (K r) (w r) = sumM (K (r - 1)) (w (r - 1)) := by have q := hmo.1.2.2.1 (r - 1) (by omega); rw [show r - 1 + 1 = r by omega] at q; exact q
    have hl1 := (hmo.1.2.1 (r - 1) (by omega)).2.1
    have hUx : ∀ i, i ≤ w r → sumU ro2_6 i = sumU (K r) i := fun i hi => sumU_ext (fun j hj => hro j (by omega))
    refine k_aload_n hm hl 0 rfl dX7_stackedOf_18 ?_
    refine k_callVr (n := 0) (As := []) (rest := []) hm hw hl (c_m_stacked l G D sa pa pn tx tn rf ro2_6 (w r) mb2_3 so kd nu it ti rd ad (by omega) (fun i q => by rw [hro i q]; exact hb.2.2 i q) (by rw [hUx _ (Nat.le_refl _)]; omega) (fun x q => by rw [hUx _ (Nat.le_refl _), hU] at q; exact mkOk_le hmo.1 (show r - 1 < R by omega) hmk x q)) gX7_stackedOf_X7_stacked rfl (by decide +kernel) ⟨by decide, by decide⟩ (ci := 7) rfl 0 rfl [0, 1, 2, 3, 4, 5, 6, 7, 8] (by decide) rfl rfl rfl (by simp [Value.category]) ⟨by decide, by decide⟩ dX7_stackedOf_19 (fun v H locs hp hw => ?_)
    obtain rfl := hp
    refine W.eq (g2 := F0 m 22 ls [vN (nstk mb2_3 ro2_6 (w r))]) rfl ?_
    exact k_iret (post := _) hm hQ rfl rfl hw (⟨_, _, _, by unfold stkP; rw [if_neg (by omega), ← nstk_mk hmk (by omega)]; exact congrArg (fun z => some (vN z)) (nstk_ext (fun i q => hro i q) (fun _ _ => rfl)), rfl⟩) (by omega) (by omega) dX7_stackedOf_22
  · refine k_iconstN hm 0 dX7_stackedOf_4 ?_
    exact k_iret (post := _) hm hQ rfl rfl hw (⟨_, _, _, by unfold stkP; rw [if_pos (by omega)], rfl⟩) (by omega) (by omega) dX7_stackedOf_5
set_option maxHeartbeats 4000000 in
set_option maxRecDepth 100000 in
theorem c_m_isPossible (l : Launch) (G : kG) (t : Nat) (n : Nat) (h : t ≤ 100000 ∧ n ≤ 100000) : kCR l yX7_isPossible wsX7_isPossible 0 0 G [vN (t), vN (n)] ([]) (fun vv => ∃ (b : Bool), vv = some (vB (b)) ∧ (b = true ↔ isPo n t)) := by
  refine kCM.of (cc := cX7_isPossible) (maxL := 2) (ret := (some .boolean)) (by decide) rfl (Nat.le_of_ble_eq_true rfl) ?_
  intro p e s m args below meth c A ls Qz hQ hin hm hw hl
  have hl : lv_has ls 2 [(0, vN (t)), (1, vN (n))] := hl
  refine k_iload_n hm hl 0 rfl dX7_isPossible_0 ?_
  refine k_iload_n hm hl 1 rfl dX7_isPossible_1 ?_
  refine k_icmplt (tgt := 20) hm dX7_isPossible_2 (by decide) (by omega) (fun c_1 => ?_) (fun c_1 => ?_)
  · refine k_iconstN hm 2 dX7_isPossible_20 ?_
    refine k_iload_n hm hl 1 rfl dX7_isPossible_21 ?_
    refine k_iload_n hm hl 0 rfl dX7_isPossible_22 ?_
    refine k_isubN hm (by omega) dX7_isPossible_23 ?_
    refine k_imulN hm dX7_isPossible_24 ?_
    refine k_iload_n hm hl 1 rfl dX7_isPossible_25 ?_
    refine k_icmpgt (tgt := 33) hm dX7_isPossible_26 (by decide) (by omega) (fun c_2 => ?_) (fun c_2 => ?_)
    · refine k_iconstN hm 0 dX7_isPossible_33 ?_
      exact k_iret (post := _) hm hQ rfl (kN_bool false) hw (⟨⟨false, rfl, by unfold isPo; constructor <;> intro z <;> first | (split <;> omega) | rfl | (exfalso; split at z <;> omega) | cases z⟩, rfl⟩) (by omega) (by omega) dX7_isPossible_34
    · refine k_iconstN hm 1 dX7_isPossible_29 ?_
      refine k_goto (tgt := 34) hm dX7_isPossible_30 (by decide) ?_
      exact k_iret (post := _) hm hQ rfl (kN_bool true) hw (⟨⟨true, rfl, by unfold isPo; constructor <;> intro z <;> first | (split <;> omega) | rfl | (exfalso; split at z <;> omega) | cases z⟩, rfl⟩) (by omega) (by omega) dX7_isPossible_34
  · refine k_iload_n hm hl 0 rfl dX7_isPossible_5 ?_
    refine k_iload_n hm hl 1 rfl dX7_isPossible_6 ?_
    refine k_isubN hm (by omega) dX7_isPossible_7 ?_
    refine k_iload_n hm hl 1 rfl dX7_isPossible_8 ?_
    refine k_icmpgt (tgt := 16) hm dX7_isPossible_9 (by decide) (by omega) (fun c_3 => ?_) (fun c_3 => ?_)
    · refine k_iconstN hm 0 dX7_isPossible_16 ?_
      refine k_goto (tgt := 34) hm dX7_isPossible_17 (by decide) ?_
      exact k_iret (post := _) hm hQ rfl (kN_bool false) hw (⟨⟨false, rfl, by unfold isPo; constructor <;> intro z <;> first | (split <;> omega) | rfl | (exfalso; split at z <;> omega) | cases z⟩, rfl⟩) (by omega) (by omega) dX7_isPossible_34
    · refine k_iconstN hm 1 dX7_isPossible_12 ?_
      refine k_goto (tgt := 34) hm dX7_isPossible_13 (by decide) ?_
      exact k_iret (post := _) hm hQ rfl (kN_bool true) hw (⟨⟨true, rfl, by unfold isPo; constructor <;> intro z <;> first | (split <;> omega) | rfl | (exfalso; split at z <;> omega) | cases z⟩, rfl⟩) (by omega) (by omega) dX7_isPossible_34
set_option maxHeartbeats 4000000 in
set_option maxRecDepth 100000 in
theorem c_m_isShaped (l : Launch) (G : kG) (i : Nat) (d : Nat) (m1 : Nat) (h : i ≤ 1000 ∧ d ≤ 1000 ∧ 1 ≤ m1 ∧ m1 ≤ 1000) : kCR l yX7_isShaped wsX7_isShaped 0 0 G [vN (i), vN (d), vN (m1)] ([]) (fun vv => vv = some (vB (decide (i * d / m1 < (i + 1) * d / m1)))) := by
  refine kCM.of (cc := cX7_isShaped) (maxL := 3) (ret := (some .boolean)) (by decide) rfl (Nat.le_of_ble_eq_true rfl) ?_
  intro p e s m args below meth c A ls Qz hQ hin hm hw hl
  have hl : lv_has ls 3 [(0, vN (i)), (1, vN (d)), (2, vN (m1))] := hl
  have q1 : i * d ≤ 1000 * 1000 := Nat.mul_le_mul h.1 h.2.1
  have q2 : (i + 1) * d ≤ 1001 * 1000 := Nat.mul_le_mul (by omega) h.2.1
  have q3 := Nat.div_le_self (i * d) m1
  have q4 := Nat.div_le_self ((i + 1) * d) m1
  refine k_iload_n hm hl 0 rfl dX7_isShaped_0 ?_
  refine k_iconstN hm 1 dX7_isShaped_1 ?_
  refine k_iaddN hm dX7_isShaped_2 ?_
  refine k_iload_n hm hl 1 rfl dX7_isShaped_3 ?_
  refine k_imulN hm dX7_isShaped_4 ?_
  refine k_iload_n hm hl 2 rfl dX7_isShaped_5 ?_
  refine k_idivN hm (by omega) dX7_isShaped_6 ?_
  refine k_nmN (fun qa_1 eqa_1 => ?_)
  refine k_iload_n hm hl 0 rfl dX7_isShaped_7 ?_
  refine k_iload_n hm hl 1 rfl dX7_isShaped_8 ?_
  refine k_imulN hm dX7_isShaped_9 ?_
  refine k_iload_n hm hl 2 rfl dX7_isShaped_10 ?_
  refine k_idivN hm (by omega) dX7_isShaped_11 ?_
  refine k_nmN (fun qb_2 eqb_2 => ?_)
  refine k_icmple (tgt := 19) hm dX7_isShaped_12 (by decide) (by omega) (fun c_3 => ?_) (fun c_3 => ?_)
  · refine k_iconstN hm 0 dX7_isShaped_19 ?_
    exact k_iret (post := _) hm hQ rfl (kN_bool false) hw (⟨(congrArg (fun b => some (vB b)) (decide_eq_false (by rw [← eqb_2, ← eqa_1]; omega))).symm, rfl⟩) (by omega) (by omega) dX7_isShaped_20
  · refine k_iconstN hm 1 dX7_isShaped_15 ?_
    refine k_goto (tgt := 20) hm dX7_isShaped_16 (by decide) ?_
    exact k_iret (post := _) hm hQ rfl (kN_bool true) hw (⟨(congrArg (fun b => some (vB b)) (decide_eq_true (by rw [← eqb_2, ← eqa_1]; omega))).symm, rfl⟩) (by omega) (by omega) dX7_isShaped_20
set_option maxHeartbeats 4000000 in
set_option maxRecDepth 100000 in
theorem c_m_spreads (l : Launch) (G : kG) (D : Nat → Nat) (sa : Nat → Int64) (pa : Nat → Int64) (pn : Nat) (tx : Nat → Nat) (tn : Nat) (rf : Nat) (ro : Nat → Nat) (wk : Nat) (mb : Nat → Nat) (so : Nat) (kd : Nat → Nat) (nu : Nat → Nat) (it : Nat) (ti : Nat) (rd : Nat) (ad : Nat → Int64) (t : Nat) (n : Nat) (x : Nat) (h : 3 ≤ t ∧ t ≤ 120 ∧ 3 ≤ n ∧ n ≤ 120 ∧ x < 120) : kCM l yX7_spreads wsX7_spreads 1 22 0 0 G [.ref (D 0), vN (t), vN (n), vN (x)] (wMod G D sa pa pn tx tn rf ro wk mb so kd nu it ti rd ad) (fun vv uu => ∃ (ro2 : Nat → Nat), vv = none ∧ uu = wMod G D sa pa pn tx tn rf ro2 (pm n t) mb so kd nu it ti rd ad ∧ (∀ i, i < pm n t → ro2 i = spR n t x i)) := by
  refine kCM.of (cc := cX7_spreads) (maxL := 6) (ret := none) (by decide) rfl (Nat.le_of_ble_eq_true rfl) ?_
  intro p e s m args below meth c A ls Qz hQ hin hm hw hl
  have hl : lv_has ls 6 [(0, .ref (D 0)), (1, vN (t)), (2, vN (n)), (3, vN (x))] := hl
  have i7 : ∀ w ∈ wsX70, w ∈ wsX7_spreads := by decide +kernel
  have hpm : 3 ≤ pm n t ∧ pm n t ≤ 120 := by unfold pm; split <;> omega
  have hpd : pd n t ≤ 120 := by unfold pd; split <;> omega
  refine k_aload_n hm hl 0 rfl dX7_spreads_0 ?_
  refine k_iload_n hm hl 1 rfl dX7_spreads_1 ?_
  refine k_iload_n hm hl 2 rfl dX7_spreads_2 ?_
  refine k_icmplt (tgt := 10) hm dX7_spreads_3 (by decide) (by omega) (fun c_1 => ?_) (fun c_1 => ?_)
  · refine k_iload_n hm hl 1 rfl dX7_spreads_10 ?_
    refine k_rwV (y := vN (pm n t)) (by unfold pm; rw [if_neg (by omega)]) ?_
    refine k_put (T := TX7) hm hw 0 7 (wMod G D sa pa pn tx tn rf ro (pm n t) mb so kd nu it ti rd ad) i7 tyX7 tyX7_ok nmX7 rfl rfl (by decide) (by decide +kernel) rfl (tyX7_ok 7 (by decide)) rfl rfl (Nat.le_of_ble_eq_true rfl) rfl dX7_spreads_11 (fun H locs hw => ?_)
    refine k_iload_n hm hl 1 rfl dX7_spreads_14 ?_
    refine k_iload_n hm hl 2 rfl dX7_spreads_15 ?_
    refine k_icmplt (tgt := 25) hm dX7_spreads_16 (by decide) (by omega) (fun c_2 => ?_) (fun c_2 => absurd c_2 (by omega))
    refine k_iload_n hm hl 2 rfl dX7_spreads_25 ?_
    refine k_iload_n hm hl 1 rfl dX7_spreads_26 ?_
    refine k_isubN hm (by omega) dX7_spreads_27 ?_
    refine k_rwV (y := vN (pd n t)) (by unfold pd; rw [if_neg (by omega)]) ?_
    refine k_istore hm hl [(4, vN (pd n t)), (0, .ref (D 0)), (1, vN (t)), (2, vN (n)), (3, vN (x))] (by decide) rfl dX7_spreads_28 (fun ls hl => ?_)
    refine k_iconstN hm 0 dX7_spreads_30 ?_
    refine k_istore hm hl [(5, vN (0)), (4, vN (pd n t)), (0, .ref (D 0)), (1, vN (t)), (2, vN (n)), (3, vN (x))] (by decide) rfl dX7_spreads_31 (fun ls hl => ?_)
    have loop_33 : ∀ (fu : Nat) (i : Nat) (g : Nat → Nat) (hi : i ≤ pm n t) (hg : ∀ j, j < i → g j = spR n t x j) (H : Heap) (locs : List Loc) (ls : Array Slot), pm n t - i < fu → kW G A s (wMod G D sa pa pn tx tn rf g (pm n t) mb so kd nu it ti rd ad) H locs → lv_has ls 6 [(0, .ref (D 0)), (1, vN (t)), (2, vN (n)), (3, vN (x)), (4, vN (pd n t)), (5, vN (i))] → W p l e { frames := 1, cells := 0, slots := 0, locals := 22 } s m args below meth c H locs 0 0 Qz (F0 m 33 ls []) := by
      intro fu
      induction fu with
      | zero => intro i g hi hg H locs ls hfu; exact absurd hfu (Nat.not_lt_zero _)
      | succ fu ih_33 =>
        intro i g hi hg H locs ls hfu hw hl
        refine k_iload hm hl 5 rfl dX7_spreads_33 ?_
        refine k_aload_n hm hl 0 rfl dX7_spreads_35 ?_
        refine k_get (T := TX7) hm hw 0 7 i7 rfl rfl (by decide) (by decide +kernel) rfl dX7_spreads_36 ?_
        refine k_icmpge (tgt := 90) hm dX7_spreads_39 (by decide) (by omega) (fun c_3 => ?_) (fun c_3 => ?_)
        · exact k_vret hm hQ rfl hw (⟨g, rfl, rfl, fun j q => hg j (by omega)⟩) (by omega) (by omega) dX7_spreads_90
        · have hml := Nat.mod_lt (i + x) (show 0 < pm n t by omega)
          refine k_aload_n hm hl 0 rfl dX7_spreads_42 ?_
          refine k_get (T := TX7) hm hw 0 6 i7 rfl rfl (by decide) (by decide +kernel) rfl dX7_spreads_43 ?_
          refine k_iload hm hl 5 rfl dX7_spreads_46 ?_
          refine k_iload hm hl 5 rfl dX7_spreads_48 ?_
          refine k_iload_n hm hl 3 rfl dX7_spreads_50 ?_
          refine k_iaddN hm dX7_spreads_51 ?_
          refine k_aload_n hm hl 0 rfl dX7_spreads_52 ?_
          refine k_get (T := TX7) hm hw 0 7 i7 rfl rfl (by decide) (by decide +kernel) rfl dX7_spreads_53 ?_
          refine k_iremN hm (by omega) dX7_spreads_56 ?_
          refine k_iload hm hl 4 rfl dX7_spreads_57 ?_
          refine k_aload_n hm hl 0 rfl dX7_spreads_59 ?_
          refine k_get (T := TX7) hm hw 0 7 i7 rfl rfl (by decide) (by decide +kernel) rfl dX7_spreads_60 ?_
          refine k_callSr (n := 3) (As := [vN ((i + x) % (pm n t)), vN (pd n t), vN (pm n t)]) (rest := [vN (i), .ref (D 4)]) hm hw hl (c_m_isShaped l G ((i + x) % (pm n t)) (pd n t) (pm n t) (by first | assumption | omega)) gX7_spreads_X7_isShaped rfl (by decide +kernel) ⟨by decide, by decide⟩ [] (by decide) rfl rfl rfl (by simp [Value.category]) ⟨by decide, by decide⟩ dX7_spreads_63 (fun v H locs hp hw => ?_)
          obtain rfl := hp
          refine W.eq (g2 := F0 m 66 ls [vB (decide (((i + x) % (pm n t)) * (pd n t) / (pm n t) < (((i + x) % (pm n t)) + 1) * (pd n t) / (pm n t))), vN (i), .ref (D 4)]) rfl ?_
          refine k_ifneB (tgt := 73) hm dX7_spreads_66 (by decide) (fun c_5 => ?_) (fun c_5 => ?_)
          · have c_5d := of_decide_eq_true c_5
            have hsp : (i + x) % pm n t * pd n t / pm n t < ((i + x) % pm n t + 1) * pd n t / pm n t := of_decide_eq_true c_5
            refine k_iload_n hm hl 1 rfl dX7_spreads_73 ?_
            refine k_iload_n hm hl 2 rfl dX7_spreads_74 ?_
            refine k_icmplt (tgt := 82) hm dX7_spreads_75 (by decide) (by omega) (fun c_6 => ?_) (fun c_6 => ?_)
            · refine k_iconstN hm 2 dX7_spreads_82 ?_
              refine k_iastN hm hw 4 (wMod G D sa pa pn tx tn rf (nU g i 2) (pm n t) mb so kd nu it ti rd ad) rfl (by omega) rfl dX7_spreads_83 (fun H locs hw => ?_)
              refine k_iincN hm hl 5 1 rfl [(5, vN (i + 1)), (0, .ref (D 0)), (1, vN (t)), (2, vN (n)), (3, vN (x)), (4, vN (pd n t))] (by decide) rfl dX7_spreads_84 (fun ls hl => ?_)
              refine k_goto (tgt := 33) hm dX7_spreads_87 (by decide) ?_
              exact ih_33  (i + 1) (nU g i 2) (by first | assumption | omega) (fun j q => by rcases Nat.lt_or_ge j i with z | z; rw [nU_n (by omega)]; exact hg j z; rw [show j = i by omega, nU_s]; unfold spR spk pk; rw [if_pos hsp, if_neg (by omega)]) _ _ _ (by omega) hw (lv_sub hl [1, 2, 3, 4, 5, 0] rfl)
            · refine k_iconstN hm 1 dX7_spreads_78 ?_
              refine k_goto (tgt := 83) hm dX7_spreads_79 (by decide) ?_
              refine k_iastN hm hw 4 (wMod G D sa pa pn tx tn rf (nU g i 1) (pm n t) mb so kd nu it ti rd ad) rfl (by omega) rfl dX7_spreads_83 (fun H locs hw => ?_)
              refine k_iincN hm hl 5 1 rfl [(5, vN (i + 1)), (0, .ref (D 0)), (1, vN (t)), (2, vN (n)), (3, vN (x)), (4, vN (pd n t))] (by decide) rfl dX7_spreads_84 (fun ls hl => ?_)
              refine k_goto (tgt := 33) hm dX7_spreads_87 (by decide) ?_
              exact ih_33  (i + 1) (nU g i 1) (by first | assumption | omega) (fun j q => by rcases Nat.lt_or_ge j i with z | z; rw [nU_n (by omega)]; exact hg j z; rw [show j = i by omega, nU_s]; unfold spR spk pk; rw [if_pos hsp, if_pos (by omega)]) _ _ _ (by omega) hw (lv_sub hl [1, 2, 3, 4, 5, 0] rfl)
          · have c_5d := of_decide_eq_false c_5
            have hsp : ¬ ((i + x) % pm n t * pd n t / pm n t < ((i + x) % pm n t + 1) * pd n t / pm n t) := of_decide_eq_false c_5
            refine k_iconstN hm 0 dX7_spreads_69 ?_
            refine k_goto (tgt := 83) hm dX7_spreads_70 (by decide) ?_
            refine k_iastN hm hw 4 (wMod G D sa pa pn tx tn rf (nU g i 0) (pm n t) mb so kd nu it ti rd ad) rfl (by omega) rfl dX7_spreads_83 (fun H locs hw => ?_)
            refine k_iincN hm hl 5 1 rfl [(5, vN (i + 1)), (0, .ref (D 0)), (1, vN (t)), (2, vN (n)), (3, vN (x)), (4, vN (pd n t))] (by decide) rfl dX7_spreads_84 (fun ls hl => ?_)
            refine k_goto (tgt := 33) hm dX7_spreads_87 (by decide) ?_
            exact ih_33  (i + 1) (nU g i 0) (by first | assumption | omega) (fun j q => by rcases Nat.lt_or_ge j i with z | z; rw [nU_n (by omega)]; exact hg j z; rw [show j = i by omega, nU_s]; unfold spR spk; rw [if_neg hsp]) _ _ _ (by omega) hw (lv_sub hl [1, 2, 3, 4, 5, 0] rfl)
    exact loop_33 (pm n t - 0 + 1) 0 ro (by first | assumption | omega) (fun i q => absurd q (by omega)) _ _ _ (Nat.lt_succ_self _) hw (lv_sub hl [2, 3, 4, 5, 1, 0] rfl)
  · refine k_iload_n hm hl 2 rfl dX7_spreads_6 ?_
    refine k_goto (tgt := 11) hm dX7_spreads_7 (by decide) ?_
    refine k_rwV (y := vN (pm n t)) (by unfold pm; rw [if_pos (by omega)]) ?_
    refine k_put (T := TX7) hm hw 0 7 (wMod G D sa pa pn tx tn rf ro (pm n t) mb so kd nu it ti rd ad) i7 tyX7 tyX7_ok nmX7 rfl rfl (by decide) (by decide +kernel) rfl (tyX7_ok 7 (by decide)) rfl rfl (Nat.le_of_ble_eq_true rfl) rfl dX7_spreads_11 (fun H locs hw => ?_)
    refine k_iload_n hm hl 1 rfl dX7_spreads_14 ?_
    refine k_iload_n hm hl 2 rfl dX7_spreads_15 ?_
    refine k_icmplt (tgt := 25) hm dX7_spreads_16 (by decide) (by omega) (fun c_7 => absurd c_7 (by omega)) (fun c_7 => ?_)
    refine k_iload_n hm hl 1 rfl dX7_spreads_19 ?_
    refine k_iload_n hm hl 2 rfl dX7_spreads_20 ?_
    refine k_isubN hm (by omega) dX7_spreads_21 ?_
    refine k_goto (tgt := 28) hm dX7_spreads_22 (by decide) ?_
    refine k_rwV (y := vN (pd n t)) (by unfold pd; rw [if_pos (by omega)]) ?_
    refine k_istore hm hl [(4, vN (pd n t)), (0, .ref (D 0)), (1, vN (t)), (2, vN (n)), (3, vN (x))] (by decide) rfl dX7_spreads_28 (fun ls hl => ?_)
    refine k_iconstN hm 0 dX7_spreads_30 ?_
    refine k_istore hm hl [(5, vN (0)), (4, vN (pd n t)), (0, .ref (D 0)), (1, vN (t)), (2, vN (n)), (3, vN (x))] (by decide) rfl dX7_spreads_31 (fun ls hl => ?_)
    have loop_33 : ∀ (fu : Nat) (i : Nat) (g : Nat → Nat) (hi : i ≤ pm n t) (hg : ∀ j, j < i → g j = spR n t x j) (H : Heap) (locs : List Loc) (ls : Array Slot), pm n t - i < fu → kW G A s (wMod G D sa pa pn tx tn rf g (pm n t) mb so kd nu it ti rd ad) H locs → lv_has ls 6 [(0, .ref (D 0)), (1, vN (t)), (2, vN (n)), (3, vN (x)), (4, vN (pd n t)), (5, vN (i))] → W p l e { frames := 1, cells := 0, slots := 0, locals := 22 } s m args below meth c H locs 0 0 Qz (F0 m 33 ls []) := by
      intro fu
      induction fu with
      | zero => intro i g hi hg H locs ls hfu; exact absurd hfu (Nat.not_lt_zero _)
      | succ fu ih_33 =>
        intro i g hi hg H locs ls hfu hw hl
        refine k_iload hm hl 5 rfl dX7_spreads_33 ?_
        refine k_aload_n hm hl 0 rfl dX7_spreads_35 ?_
        refine k_get (T := TX7) hm hw 0 7 i7 rfl rfl (by decide) (by decide +kernel) rfl dX7_spreads_36 ?_
        refine k_icmpge (tgt := 90) hm dX7_spreads_39 (by decide) (by omega) (fun c_8 => ?_) (fun c_8 => ?_)
        · exact k_vret hm hQ rfl hw (⟨g, rfl, rfl, fun j q => hg j (by omega)⟩) (by omega) (by omega) dX7_spreads_90
        · have hml := Nat.mod_lt (i + x) (show 0 < pm n t by omega)
          refine k_aload_n hm hl 0 rfl dX7_spreads_42 ?_
          refine k_get (T := TX7) hm hw 0 6 i7 rfl rfl (by decide) (by decide +kernel) rfl dX7_spreads_43 ?_
          refine k_iload hm hl 5 rfl dX7_spreads_46 ?_
          refine k_iload hm hl 5 rfl dX7_spreads_48 ?_
          refine k_iload_n hm hl 3 rfl dX7_spreads_50 ?_
          refine k_iaddN hm dX7_spreads_51 ?_
          refine k_aload_n hm hl 0 rfl dX7_spreads_52 ?_
          refine k_get (T := TX7) hm hw 0 7 i7 rfl rfl (by decide) (by decide +kernel) rfl dX7_spreads_53 ?_
          refine k_iremN hm (by omega) dX7_spreads_56 ?_
          refine k_iload hm hl 4 rfl dX7_spreads_57 ?_
          refine k_aload_n hm hl 0 rfl dX7_spreads_59 ?_
          refine k_get (T := TX7) hm hw 0 7 i7 rfl rfl (by decide) (by decide +kernel) rfl dX7_spreads_60 ?_
          refine k_callSr (n := 3) (As := [vN ((i + x) % (pm n t)), vN (pd n t), vN (pm n t)]) (rest := [vN (i), .ref (D 4)]) hm hw hl (c_m_isShaped l G ((i + x) % (pm n t)) (pd n t) (pm n t) (by first | assumption | omega)) gX7_spreads_X7_isShaped rfl (by decide +kernel) ⟨by decide, by decide⟩ [] (by decide) rfl rfl rfl (by simp [Value.category]) ⟨by decide, by decide⟩ dX7_spreads_63 (fun v H locs hp hw => ?_)
          obtain rfl := hp
          refine W.eq (g2 := F0 m 66 ls [vB (decide (((i + x) % (pm n t)) * (pd n t) / (pm n t) < (((i + x) % (pm n t)) + 1) * (pd n t) / (pm n t))), vN (i), .ref (D 4)]) rfl ?_
          refine k_ifneB (tgt := 73) hm dX7_spreads_66 (by decide) (fun c_10 => ?_) (fun c_10 => ?_)
          · have c_10d := of_decide_eq_true c_10
            have hsp : (i + x) % pm n t * pd n t / pm n t < ((i + x) % pm n t + 1) * pd n t / pm n t := of_decide_eq_true c_10
            refine k_iload_n hm hl 1 rfl dX7_spreads_73 ?_
            refine k_iload_n hm hl 2 rfl dX7_spreads_74 ?_
            refine k_icmplt (tgt := 82) hm dX7_spreads_75 (by decide) (by omega) (fun c_11 => ?_) (fun c_11 => ?_)
            · refine k_iconstN hm 2 dX7_spreads_82 ?_
              refine k_iastN hm hw 4 (wMod G D sa pa pn tx tn rf (nU g i 2) (pm n t) mb so kd nu it ti rd ad) rfl (by omega) rfl dX7_spreads_83 (fun H locs hw => ?_)
              refine k_iincN hm hl 5 1 rfl [(5, vN (i + 1)), (0, .ref (D 0)), (1, vN (t)), (2, vN (n)), (3, vN (x)), (4, vN (pd n t))] (by decide) rfl dX7_spreads_84 (fun ls hl => ?_)
              refine k_goto (tgt := 33) hm dX7_spreads_87 (by decide) ?_
              exact ih_33  (i + 1) (nU g i 2) (by first | assumption | omega) (fun j q => by rcases Nat.lt_or_ge j i with z | z; rw [nU_n (by omega)]; exact hg j z; rw [show j = i by omega, nU_s]; unfold spR spk pk; rw [if_pos hsp, if_neg (by omega)]) _ _ _ (by omega) hw (lv_sub hl [1, 2, 3, 4, 5, 0] rfl)
            · refine k_iconstN hm 1 dX7_spreads_78 ?_
              refine k_goto (tgt := 83) hm dX7_spreads_79 (by decide) ?_
              refine k_iastN hm hw 4 (wMod G D sa pa pn tx tn rf (nU g i 1) (pm n t) mb so kd nu it ti rd ad) rfl (by omega) rfl dX7_spreads_83 (fun H locs hw => ?_)
              refine k_iincN hm hl 5 1 rfl [(5, vN (i + 1)), (0, .ref (D 0)), (1, vN (t)), (2, vN (n)), (3, vN (x)), (4, vN (pd n t))] (by decide) rfl dX7_spreads_84 (fun ls hl => ?_)
              refine k_goto (tgt := 33) hm dX7_spreads_87 (by decide) ?_
              exact ih_33  (i + 1) (nU g i 1) (by first | assumption | omega) (fun j q => by rcases Nat.lt_or_ge j i with z | z; rw [nU_n (by omega)]; exact hg j z; rw [show j = i by omega, nU_s]; unfold spR spk pk; rw [if_pos hsp, if_pos (by omega)]) _ _ _ (by omega) hw (lv_sub hl [1, 2, 3, 4, 5, 0] rfl)
          · have c_10d := of_decide_eq_false c_10
            have hsp : ¬ ((i + x) % pm n t * pd n t / pm n t < ((i + x) % pm n t + 1) * pd n t / pm n t) := of_decide_eq_false c_10
            refine k_iconstN hm 0 dX7_spreads_69 ?_
            refine k_goto (tgt := 83) hm dX7_spreads_70 (by decide) ?_
            refine k_iastN hm hw 4 (wMod G D sa pa pn tx tn rf (nU g i 0) (pm n t) mb so kd nu it ti rd ad) rfl (by omega) rfl dX7_spreads_83 (fun H locs hw => ?_)
            refine k_iincN hm hl 5 1 rfl [(5, vN (i + 1)), (0, .ref (D 0)), (1, vN (t)), (2, vN (n)), (3, vN (x)), (4, vN (pd n t))] (by decide) rfl dX7_spreads_84 (fun ls hl => ?_)
            refine k_goto (tgt := 33) hm dX7_spreads_87 (by decide) ?_
            exact ih_33  (i + 1) (nU g i 0) (by first | assumption | omega) (fun j q => by rcases Nat.lt_or_ge j i with z | z; rw [nU_n (by omega)]; exact hg j z; rw [show j = i by omega, nU_s]; unfold spR spk; rw [if_neg hsp]) _ _ _ (by omega) hw (lv_sub hl [1, 2, 3, 4, 5, 0] rfl)
    exact loop_33 (pm n t - 0 + 1) 0 ro (by first | assumption | omega) (fun i q => absurd q (by omega)) _ _ _ (Nat.lt_succ_self _) hw (lv_sub hl [2, 3, 4, 5, 1, 0] rfl)
