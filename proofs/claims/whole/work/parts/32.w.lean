set_option maxHeartbeats 4000000 in
set_option maxRecDepth 100000 in
theorem c_m_bestShift (l : Launch) (G : kG) (D : Nat → Nat) (sa : Nat → Int64) (pa : Nat → Int64) (pn : Nat) (tx : Nat → Nat) (tn : Nat) (rf : Nat) (ro : Nat → Nat) (wk : Nat) (mb : Nat → Nat) (so : Nat) (kd : Nat → Nat) (nu : Nat → Nat) (it : Nat) (ti : Nat) (rd : Nat) (ad : Nat → Int64) (R : Nat) (sp : Bool) (K : Nat → Nat → Nat) (w : Nat → Nat) (y : Nat → Nat) (t : Nat) (hmo : MOk sa R sp K w y) (ht : 3 ≤ t ∧ t ≤ 120) (hpo : isPo (sumM (K (R - 1)) (w (R - 1))) t) : kCM l yX7_bestShift wsX7_bestShift 3 65 0 0 G [.ref (D 0), vN (t)] (wMod G D sa pa pn tx tn rf ro wk mb so kd nu it ti rd ad) (fun vv uu => ∃ (b : Nat), ∃ (ro2 : Nat → Nat), ∃ (wk2 : Nat), ∃ (mb2 : Nat → Nat), vv = some (vN (b)) ∧ uu = wMod G D sa pa pn tx tn rf ro2 wk2 mb2 so kd nu it ti rd ad ∧ (isBst (stkC (K (R - 1)) (w (R - 1)) (sumM (K (R - 1)) (w (R - 1))) t) (pm (sumM (K (R - 1)) (w (R - 1))) t) b)) := by
  refine kCM.of (cc := cX7_bestShift) (maxL := 8) (ret := (some .int)) (by decide) rfl (Nat.le_of_ble_eq_true rfl) ?_
  intro p e s m args below meth c A ls Qz hQ hin hm hw hl
  have hl : lv_has ls 8 [(0, .ref (D 0)), (1, vN (t))] := hl
  have hR := hmo.1.1
  have hll := PVd_last hmo.1
  have hk0 := hmo.1.2.1 (R - 1) (by omega)
  refine k_aload_n hm hl 0 rfl dX7_bestShift_0 ?_
  refine k_callVr (n := 0) (As := []) (rest := []) hm hw hl (c_m_last l G D sa pa pn tx tn rf ro wk mb so kd nu it ti rd ad R sp K w y (by first | assumption | omega)) gX7_bestShift_X7_last rfl (by decide +kernel) ⟨by decide, by decide⟩ (ci := 7) rfl 0 rfl [0, 1, 2, 3, 4, 5, 6, 7, 8] (by decide) rfl rfl rfl (by simp [Value.category]) ⟨by decide, by decide⟩ dX7_bestShift_1 (fun v H locs hp hw => ?_)
  obtain rfl := hp
  refine W.eq (g2 := F0 m 4 ls [vN (sumM (K (R - 1)) (w (R - 1)))]) rfl ?_
  refine k_istore_n hm hl [(2, vN (sumM (K (R - 1)) (w (R - 1)))), (0, .ref (D 0)), (1, vN (t))] (by decide) rfl dX7_bestShift_4 (fun ls hl => ?_)
  refine k_aload_n hm hl 1 rfl dX7_bestShift_5 ?_
  refine k_aload_n hm hl 1 rfl dX7_bestShift_6 ?_
  refine k_callVr (n := 0) (As := []) (rest := [.ref (D 0)]) hm hw hl (c_m_rounds l G D sa pa pn tx tn rf ro wk mb so kd nu it ti rd ad R sp K w y (by first | assumption | omega)) gX7_bestShift_X7_rounds rfl (by decide +kernel) ⟨by decide, by decide⟩ (ci := 7) rfl 0 rfl [0, 1, 2, 3, 4, 5, 6, 7, 8] (by decide) rfl rfl rfl (by simp [Value.category]) ⟨by decide, by decide⟩ dX7_bestShift_7 (fun v H locs hp hw => ?_)
  obtain rfl := hp
  refine W.eq (g2 := F0 m 10 ls [vN (R), .ref (D 0)]) rfl ?_
  refine k_iconstN hm 1 dX7_bestShift_10 ?_
  refine k_isubN hm (by omega) dX7_bestShift_11 ?_
  refine k_callV (n := 1) (As := [vN (R - 1)]) (rest := []) (wr := []) hm hw hl (c_m_laysMade l G D sa pa pn tx tn rf ro wk mb so kd nu it ti rd ad R sp K w y (R - 1) (by first | assumption | omega) (by first | assumption | omega)) gX7_bestShift_X7_laysMade rfl (by decide +kernel) ⟨by decide, by decide⟩ (ci := 7) rfl 0 rfl [0, 1, 2, 3, 4, 5, 6, 7, 8] [] (by decide) rfl rfl (by decide) (by decide) rfl rfl (by simp [Value.category]) ⟨by decide, by decide⟩ dX7_bestShift_12 (fun v w1 H locs hp hw => ?_)
  obtain ⟨mb2_4, rfl, rfl, hmk_5⟩ := hp
  have hw := hw.sub (ws' := wMod G D sa pa pn tx tn rf ro wk mb2_4 so kd nu it ti rd ad) [0, 1, 2, 3, 4, 5, 6, 7, 8] (by decide) rfl
  refine W.eq (g2 := F0 m 15 ls []) rfl ?_
  have hmk := hmk_5
  have hpm : 3 ≤ pm (sumM (K (R - 1)) (w (R - 1))) t ∧ pm (sumM (K (R - 1)) (w (R - 1))) t ≤ 120 := by unfold pm; split <;> omega
  refine k_iload_n hm hl 2 rfl dX7_bestShift_15 ?_
  refine k_iload_n hm hl 0 rfl dX7_bestShift_16 ?_
  refine k_icmplt (tgt := 24) hm dX7_bestShift_17 (by decide) (by omega) (fun c_6 => ?_) (fun c_6 => ?_)
  · refine k_iload_n hm hl 2 rfl dX7_bestShift_24 ?_
    refine k_rwV (y := vN (pm (sumM (K (R - 1)) (w (R - 1))) t)) (by unfold pm; rw [if_neg (by omega)]) ?_
    refine k_istore_n hm hl [(3, vN (pm (sumM (K (R - 1)) (w (R - 1))) t)), (2, vN (sumM (K (R - 1)) (w (R - 1)))), (0, .ref (D 0)), (1, vN (t))] (by decide) rfl dX7_bestShift_25 (fun ls hl => ?_)
    refine k_iconstN hm 0 dX7_bestShift_26 ?_
    refine k_istore hm hl [(4, vN (0)), (3, vN (pm (sumM (K (R - 1)) (w (R - 1))) t)), (2, vN (sumM (K (R - 1)) (w (R - 1)))), (0, .ref (D 0)), (1, vN (t))] (by decide) rfl dX7_bestShift_27 (fun ls hl => ?_)
    refine k_bipushN hm 121 dX7_bestShift_29 rfl ?_
    refine k_istore hm hl [(5, vN (121)), (4, vN (0)), (3, vN (pm (sumM (K (R - 1)) (w (R - 1))) t)), (2, vN (sumM (K (R - 1)) (w (R - 1)))), (0, .ref (D 0)), (1, vN (t))] (by decide) rfl dX7_bestShift_31 (fun ls hl => ?_)
    refine k_iconstN hm 0 dX7_bestShift_33 ?_
    refine k_istore hm hl [(6, vN (0)), (5, vN (121)), (4, vN (0)), (3, vN (pm (sumM (K (R - 1)) (w (R - 1))) t)), (2, vN (sumM (K (R - 1)) (w (R - 1)))), (0, .ref (D 0)), (1, vN (t))] (by decide) rfl dX7_bestShift_34 (fun ls hl => ?_)
    have loop_36 : ∀ (fu : Nat) (b : Nat) (f : Nat) (x : Nat) (g : Nat → Nat) (wk1 : Nat) (hx : x ≤ pm (sumM (K (R - 1)) (w (R - 1))) t) (hf : f ≤ 121) (hbf : (x = 0 ∧ b = 0 ∧ f = 121) ∨ (0 < x ∧ f = stkC (K (R - 1)) (w (R - 1)) (sumM (K (R - 1)) (w (R - 1))) t b ∧ isBst (stkC (K (R - 1)) (w (R - 1)) (sumM (K (R - 1)) (w (R - 1))) t) x b)) (H : Heap) (locs : List Loc) (ls : Array Slot), pm (sumM (K (R - 1)) (w (R - 1))) t - x < fu → kW G A s (wMod G D sa pa pn tx tn rf g wk1 mb2_4 so kd nu it ti rd ad) H locs → lv_has ls 8 [(0, .ref (D 0)), (1, vN (t)), (2, vN ((sumM (K (R - 1)) (w (R - 1))))), (3, vN (pm (sumM (K (R - 1)) (w (R - 1))) t)), (4, vN (b)), (5, vN (f)), (6, vN (x))] → W p l e { frames := 3, cells := 0, slots := 0, locals := 65 } s m args below meth c H locs 0 0 Qz (F0 m 36 ls []) := by
      intro fu
      induction fu with
      | zero => intro b f x g wk1 hx hf hbf H locs ls hfu; exact absurd hfu (Nat.not_lt_zero _)
      | succ fu ih_36 =>
        intro b f x g wk1 hx hf hbf H locs ls hfu hw hl
        refine k_iload hm hl 6 rfl dX7_bestShift_36 ?_
        refine k_iload_n hm hl 3 rfl dX7_bestShift_38 ?_
        refine k_icmpge (tgt := 99) hm dX7_bestShift_39 (by decide) (by omega) (fun c_7 => ?_) (fun c_7 => ?_)
        · refine k_iload hm hl 4 rfl dX7_bestShift_99 ?_
          exact k_iret (post := _) hm hQ rfl rfl hw (⟨b, g, wk1, _, rfl, rfl, (by
                              rcases hbf with ⟨z1, z2, z3⟩ | ⟨z1, z2, z3⟩
                              · omega
                              · rw [show pm (sumM (K (R - 1)) (w (R - 1))) t = x by omega]; exact z3)⟩) (by omega) (by omega) dX7_bestShift_101
        · refine k_iload hm hl 5 rfl dX7_bestShift_42 ?_
          refine k_ifle (tgt := 99) hm dX7_bestShift_44 (by decide) (by omega) (fun c_8 => ?_) (fun c_8 => ?_)
          · refine k_iload hm hl 4 rfl dX7_bestShift_99 ?_
            exact k_iret (post := _) hm hQ rfl rfl hw (⟨b, g, wk1, _, rfl, rfl, (by
                              rcases hbf with ⟨z1, z2, z3⟩ | ⟨z1, z2, z3⟩
                              · omega
                              · have := z3.1
                                exact ⟨by omega, fun y q => by omega, z3.2.2⟩)⟩) (by omega) (by omega) dX7_bestShift_101
          · refine k_aload_n hm hl 0 rfl dX7_bestShift_47 ?_
            refine k_iload_n hm hl 1 rfl dX7_bestShift_48 ?_
            refine k_iload_n hm hl 2 rfl dX7_bestShift_49 ?_
            refine k_iload hm hl 6 rfl dX7_bestShift_50 ?_
            refine k_callV (n := 3) (As := [vN (t), vN ((sumM (K (R - 1)) (w (R - 1)))), vN (x)]) (rest := []) (wr := []) hm hw hl (c_m_spreads l G D sa pa pn tx tn rf g wk1 mb2_4 so kd nu it ti rd ad t (sumM (K (R - 1)) (w (R - 1))) x (by first | assumption | omega)) gX7_bestShift_X7_spreads rfl (by decide +kernel) ⟨by decide, by decide⟩ (ci := 7) rfl 0 rfl [0, 1, 2, 3, 4, 5, 6, 7, 8] [] (by decide) rfl rfl (by decide) (by decide) rfl rfl (by simp [Value.category]) ⟨by decide, by decide⟩ dX7_bestShift_52 (fun v w1 H locs hp hw => ?_)
            obtain ⟨ro2_10, rfl, rfl, hro_11⟩ := hp
            have hw := hw.sub (ws' := wMod G D sa pa pn tx tn rf ro2_10 (pm (sumM (K (R - 1)) (w (R - 1))) t) mb2_4 so kd nu it ti rd ad) [0, 1, 2, 3, 4, 5, 6, 7, 8] (by decide) rfl
            refine W.eq (g2 := F0 m 55 ls []) rfl ?_
            have hro := hro_11
            refine k_aload_n hm hl 0 rfl dX7_bestShift_55 ?_
            have hUx : sumU ro2_10 (pm (sumM (K (R - 1)) (w (R - 1))) t) = sumU (spR (sumM (K (R - 1)) (w (R - 1))) t x) (pm (sumM (K (R - 1)) (w (R - 1))) t) := sumU_ext (fun j hj => hro j hj)
            have hrg := spR_ok (x := x) (show 3 ≤ (sumM (K (R - 1)) (w (R - 1))) ∧ (sumM (K (R - 1)) (w (R - 1))) ≤ 120 ∧ 3 ≤ t ∧ t ≤ 120 by omega) hpo
            refine k_callVr (n := 0) (As := []) (rest := []) hm hw hl (c_m_stacked l G D sa pa pn tx tn rf ro2_10 (pm (sumM (K (R - 1)) (w (R - 1))) t) mb2_4 so kd nu it ti rd ad (by omega) (fun i q => by rw [hro i q]; exact hrg.1 i q) (by rw [hUx, hrg.2.1]; omega) (fun z q => by rw [hUx, hrg.2.1] at q; exact mkOk_le hmo.1 (show R - 1 < R by omega) hmk z q)) gX7_bestShift_X7_stacked rfl (by decide +kernel) ⟨by decide, by decide⟩ (ci := 7) rfl 0 rfl [0, 1, 2, 3, 4, 5, 6, 7, 8] (by decide) rfl rfl rfl (by simp [Value.category]) ⟨by decide, by decide⟩ dX7_bestShift_56 (fun v H locs hp hw => ?_)
            obtain rfl := hp
            refine W.eq (g2 := F0 m 59 ls [vN (nstk mb2_4 ro2_10 (pm (sumM (K (R - 1)) (w (R - 1))) t))]) rfl ?_
            refine k_rwV (y := vN (stkC (K (R - 1)) (w (R - 1)) (sumM (K (R - 1)) (w (R - 1))) t x)) (congrArg vN (by unfold stkC; rw [← nstk_mk hmk (by rw [hrg.2.1]; exact Nat.le_refl _)]; exact nstk_ext (fun i q => hro i q) (fun _ _ => rfl))) ?_
            have hle : stkC (K (R - 1)) (w (R - 1)) (sumM (K (R - 1)) (w (R - 1))) t x ≤ pm (sumM (K (R - 1)) (w (R - 1))) t := nstk_le _ _ _
            refine k_istore hm hl [(7, vN (stkC (K (R - 1)) (w (R - 1)) (sumM (K (R - 1)) (w (R - 1))) t x)), (0, .ref (D 0)), (1, vN (t)), (2, vN ((sumM (K (R - 1)) (w (R - 1))))), (3, vN (pm (sumM (K (R - 1)) (w (R - 1))) t)), (4, vN (b)), (5, vN (f)), (6, vN (x))] (by decide) rfl dX7_bestShift_59 (fun ls hl => ?_)
            refine k_iload hm hl 0 rfl dX7_bestShift_61 ?_
            refine k_iload hm hl 6 rfl dX7_bestShift_63 ?_
            refine k_icmpge (tgt := 73) hm dX7_bestShift_65 (by decide) (by omega) (fun c_13 => ?_) (fun c_13 => ?_)
            · refine k_iload hm hl 5 rfl dX7_bestShift_73 ?_
              refine k_istore hm hl [(4, vN (b)), (7, vN (stkC (K (R - 1)) (w (R - 1)) (sumM (K (R - 1)) (w (R - 1))) t x)), (0, .ref (D 0)), (1, vN (t)), (2, vN ((sumM (K (R - 1)) (w (R - 1))))), (3, vN (pm (sumM (K (R - 1)) (w (R - 1))) t)), (5, vN (f)), (6, vN (x))] (by decide) rfl dX7_bestShift_75 (fun ls hl => ?_)
              refine k_iload hm hl 1 rfl dX7_bestShift_77 ?_
              refine k_iload hm hl 6 rfl dX7_bestShift_79 ?_
              refine k_icmpge (tgt := 89) hm dX7_bestShift_81 (by decide) (by omega) (fun c_14 => ?_) (fun c_14 => ?_)
              · refine k_iload hm hl 6 rfl dX7_bestShift_89 ?_
                refine k_istore hm hl [(5, vN (f)), (4, vN (b)), (7, vN (stkC (K (R - 1)) (w (R - 1)) (sumM (K (R - 1)) (w (R - 1))) t x)), (0, .ref (D 0)), (1, vN (t)), (2, vN ((sumM (K (R - 1)) (w (R - 1))))), (3, vN (pm (sumM (K (R - 1)) (w (R - 1))) t)), (6, vN (x))] (by decide) rfl dX7_bestShift_91 (fun ls hl => ?_)
                refine k_iincN hm hl 7 1 rfl [(6, vN (x + 1)), (5, vN (f)), (4, vN (b)), (7, vN (stkC (K (R - 1)) (w (R - 1)) (sumM (K (R - 1)) (w (R - 1))) t x)), (0, .ref (D 0)), (1, vN (t)), (2, vN ((sumM (K (R - 1)) (w (R - 1))))), (3, vN (pm (sumM (K (R - 1)) (w (R - 1))) t))] (by decide) rfl dX7_bestShift_93 (fun ls hl => ?_)
                refine k_goto (tgt := 36) hm dX7_bestShift_96 (by decide) ?_
                exact ih_36  b f (x + 1) ro2_10 (pm (sumM (K (R - 1)) (w (R - 1))) t) (by first | assumption | omega) (by first | assumption | omega) (by
                              refine Or.inr ⟨by omega, ?_, ?_⟩
                              · first | rfl | (rcases hbf with ⟨z1, z2, z3⟩ | ⟨z1, z2, z3⟩ <;> omega)
                              · rcases hbf with ⟨z1, z2, z3⟩ | ⟨z1, z2, z3⟩
                                · first
                                  | (exfalso; omega)
                                  | (refine ⟨by omega, fun y q => ?_, fun y q => absurd q (by omega)⟩
                                     rw [show y = x by omega]; exact Nat.le_refl _)
                                · have hb1 := z3.1
                                  first
                                  | (refine ⟨by omega, fun y q => ?_, fun y q => ?_⟩
                                     · by_cases q2 : y = x
                                       · rw [q2]; exact Nat.le_refl _
                                       · have := z3.2.1 y (by omega); omega
                                     · have := z3.2.1 y (by omega); omega)
                                  | (refine ⟨by omega, fun y q => ?_, z3.2.2⟩
                                     by_cases q2 : y = x
                                     · rw [q2]; omega
                                     · exact z3.2.1 y (by omega))) _ _ _ (by omega) hw (lv_sub hl [4, 5, 6, 7, 2, 1, 0] rfl)
              · refine k_iload hm hl 1 rfl dX7_bestShift_84 ?_
                refine k_goto (tgt := 91) hm dX7_bestShift_86 (by decide) ?_
                refine k_istore hm hl [(5, vN (stkC (K (R - 1)) (w (R - 1)) (sumM (K (R - 1)) (w (R - 1))) t x)), (4, vN (b)), (7, vN (stkC (K (R - 1)) (w (R - 1)) (sumM (K (R - 1)) (w (R - 1))) t x)), (0, .ref (D 0)), (1, vN (t)), (2, vN ((sumM (K (R - 1)) (w (R - 1))))), (3, vN (pm (sumM (K (R - 1)) (w (R - 1))) t)), (6, vN (x))] (by decide) rfl dX7_bestShift_91 (fun ls hl => ?_)
                refine k_iincN hm hl 7 1 rfl [(6, vN (x + 1)), (5, vN (stkC (K (R - 1)) (w (R - 1)) (sumM (K (R - 1)) (w (R - 1))) t x)), (4, vN (b)), (7, vN (stkC (K (R - 1)) (w (R - 1)) (sumM (K (R - 1)) (w (R - 1))) t x)), (0, .ref (D 0)), (1, vN (t)), (2, vN ((sumM (K (R - 1)) (w (R - 1))))), (3, vN (pm (sumM (K (R - 1)) (w (R - 1))) t))] (by decide) rfl dX7_bestShift_93 (fun ls hl => ?_)
                refine k_goto (tgt := 36) hm dX7_bestShift_96 (by decide) ?_
                exact ih_36  b (stkC (K (R - 1)) (w (R - 1)) (sumM (K (R - 1)) (w (R - 1))) t x) (x + 1) ro2_10 (pm (sumM (K (R - 1)) (w (R - 1))) t) (by first | assumption | omega) (by first | assumption | omega) (by
                              refine Or.inr ⟨by omega, ?_, ?_⟩
                              · first | rfl | (rcases hbf with ⟨z1, z2, z3⟩ | ⟨z1, z2, z3⟩ <;> omega)
                              · rcases hbf with ⟨z1, z2, z3⟩ | ⟨z1, z2, z3⟩
                                · first
                                  | (exfalso; omega)
                                  | (refine ⟨by omega, fun y q => ?_, fun y q => absurd q (by omega)⟩
                                     rw [show y = x by omega]; exact Nat.le_refl _)
                                · have hb1 := z3.1
                                  first
                                  | (refine ⟨by omega, fun y q => ?_, fun y q => ?_⟩
                                     · by_cases q2 : y = x
                                       · rw [q2]; exact Nat.le_refl _
                                       · have := z3.2.1 y (by omega); omega
                                     · have := z3.2.1 y (by omega); omega)
                                  | (refine ⟨by omega, fun y q => ?_, z3.2.2⟩
                                     by_cases q2 : y = x
                                     · rw [q2]; omega
                                     · exact z3.2.1 y (by omega))) _ _ _ (by omega) hw (lv_sub hl [4, 5, 6, 7, 2, 1, 0] rfl)
            · refine k_iload hm hl 7 rfl dX7_bestShift_68 ?_
              refine k_goto (tgt := 75) hm dX7_bestShift_70 (by decide) ?_
              refine k_istore hm hl [(4, vN (x)), (7, vN (stkC (K (R - 1)) (w (R - 1)) (sumM (K (R - 1)) (w (R - 1))) t x)), (0, .ref (D 0)), (1, vN (t)), (2, vN ((sumM (K (R - 1)) (w (R - 1))))), (3, vN (pm (sumM (K (R - 1)) (w (R - 1))) t)), (5, vN (f)), (6, vN (x))] (by decide) rfl dX7_bestShift_75 (fun ls hl => ?_)
              refine k_iload hm hl 1 rfl dX7_bestShift_77 ?_
              refine k_iload hm hl 6 rfl dX7_bestShift_79 ?_
              refine k_icmpge (tgt := 89) hm dX7_bestShift_81 (by decide) (by omega) (fun c_15 => ?_) (fun c_15 => ?_)
              · refine k_iload hm hl 6 rfl dX7_bestShift_89 ?_
                refine k_istore hm hl [(5, vN (f)), (4, vN (x)), (7, vN (stkC (K (R - 1)) (w (R - 1)) (sumM (K (R - 1)) (w (R - 1))) t x)), (0, .ref (D 0)), (1, vN (t)), (2, vN ((sumM (K (R - 1)) (w (R - 1))))), (3, vN (pm (sumM (K (R - 1)) (w (R - 1))) t)), (6, vN (x))] (by decide) rfl dX7_bestShift_91 (fun ls hl => ?_)
                refine k_iincN hm hl 7 1 rfl [(6, vN (x + 1)), (5, vN (f)), (4, vN (x)), (7, vN (stkC (K (R - 1)) (w (R - 1)) (sumM (K (R - 1)) (w (R - 1))) t x)), (0, .ref (D 0)), (1, vN (t)), (2, vN ((sumM (K (R - 1)) (w (R - 1))))), (3, vN (pm (sumM (K (R - 1)) (w (R - 1))) t))] (by decide) rfl dX7_bestShift_93 (fun ls hl => ?_)
                refine k_goto (tgt := 36) hm dX7_bestShift_96 (by decide) ?_
                exact ih_36  x f (x + 1) ro2_10 (pm (sumM (K (R - 1)) (w (R - 1))) t) (by first | assumption | omega) (by first | assumption | omega) (by
                              refine Or.inr ⟨by omega, ?_, ?_⟩
                              · first | rfl | (rcases hbf with ⟨z1, z2, z3⟩ | ⟨z1, z2, z3⟩ <;> omega)
                              · rcases hbf with ⟨z1, z2, z3⟩ | ⟨z1, z2, z3⟩
                                · first
                                  | (exfalso; omega)
                                  | (refine ⟨by omega, fun y q => ?_, fun y q => absurd q (by omega)⟩
                                     rw [show y = x by omega]; exact Nat.le_refl _)
                                · have hb1 := z3.1
                                  first
                                  | (refine ⟨by omega, fun y q => ?_, fun y q => ?_⟩
                                     · by_cases q2 : y = x
                                       · rw [q2]; exact Nat.le_refl _
                                       · have := z3.2.1 y (by omega); omega
                                     · have := z3.2.1 y (by omega); omega)
                                  | (refine ⟨by omega, fun y q => ?_, z3.2.2⟩
                                     by_cases q2 : y = x
                                     · rw [q2]; omega
                                     · exact z3.2.1 y (by omega))) _ _ _ (by omega) hw (lv_sub hl [4, 5, 6, 7, 2, 1, 0] rfl)
              · refine k_iload hm hl 1 rfl dX7_bestShift_84 ?_
                refine k_goto (tgt := 91) hm dX7_bestShift_86 (by decide) ?_
                refine k_istore hm hl [(5, vN (stkC (K (R - 1)) (w (R - 1)) (sumM (K (R - 1)) (w (R - 1))) t x)), (4, vN (x)), (7, vN (stkC (K (R - 1)) (w (R - 1)) (sumM (K (R - 1)) (w (R - 1))) t x)), (0, .ref (D 0)), (1, vN (t)), (2, vN ((sumM (K (R - 1)) (w (R - 1))))), (3, vN (pm (sumM (K (R - 1)) (w (R - 1))) t)), (6, vN (x))] (by decide) rfl dX7_bestShift_91 (fun ls hl => ?_)
                refine k_iincN hm hl 7 1 rfl [(6, vN (x + 1)), (5, vN (stkC (K (R - 1)) (w (R - 1)) (sumM (K (R - 1)) (w (R - 1))) t x)), (4, vN (x)), (7, vN (stkC (K (R - 1)) (w (R - 1)) (sumM (K (R - 1)) (w (R - 1))) t x)), (0, .ref (D 0)), (1, vN (t)), (2, vN ((sumM (K (R - 1)) (w (R - 1))))), (3, vN (pm (sumM (K (R - 1)) (w (R - 1))) t))] (by decide) rfl dX7_bestShift_93 (fun ls hl => ?_)
                refine k_goto (tgt := 36) hm dX7_bestShift_96 (by decide) ?_
                exact ih_36  x (stkC (K (R - 1)) (w (R - 1)) (sumM (K (R - 1)) (w (R - 1))) t x) (x + 1) ro2_10 (pm (sumM (K (R - 1)) (w (R - 1))) t) (by first | assumption | omega) (by first | assumption | omega) (by
                              refine Or.inr ⟨by omega, ?_, ?_⟩
                              · first | rfl | (rcases hbf with ⟨z1, z2, z3⟩ | ⟨z1, z2, z3⟩ <;> omega)
                              · rcases hbf with ⟨z1, z2, z3⟩ | ⟨z1, z2, z3⟩
                                · first
                                  | (exfalso; omega)
                                  | (refine ⟨by omega, fun y q => ?_, fun y q => absurd q (by omega)⟩
                                     rw [show y = x by omega]; exact Nat.le_refl _)
                                · have hb1 := z3.1
                                  first
                                  | (refine ⟨by omega, fun y q => ?_, fun y q => ?_⟩
                                     · by_cases q2 : y = x
                                       · rw [q2]; exact Nat.le_refl _
                                       · have := z3.2.1 y (by omega); omega
                                     · have := z3.2.1 y (by omega); omega)
                                  | (refine ⟨by omega, fun y q => ?_, z3.2.2⟩
                                     by_cases q2 : y = x
                                     · rw [q2]; omega
                                     · exact z3.2.1 y (by omega))) _ _ _ (by omega) hw (lv_sub hl [4, 5, 6, 7, 2, 1, 0] rfl)
    exact loop_36 (pm (sumM (K (R - 1)) (w (R - 1))) t - 0 + 1) 0 121 0 ro wk (by first | assumption | omega) (by first | assumption | omega) (Or.inl ⟨rfl, rfl, rfl⟩) _ _ _ (Nat.lt_succ_self _) hw (lv_sub hl [5, 6, 4, 3, 2, 1, 0] rfl)
  · refine k_iload_n hm hl 0 rfl dX7_bestShift_20 ?_
    refine k_goto (tgt := 25) hm dX7_bestShift_21 (by decide) ?_
    refine k_rwV (y := vN (pm (sumM (K (R - 1)) (w (R - 1))) t)) (by unfold pm; rw [if_pos (by omega)]) ?_
    refine k_istore_n hm hl [(3, vN (pm (sumM (K (R - 1)) (w (R - 1))) t)), (2, vN (sumM (K (R - 1)) (w (R - 1)))), (0, .ref (D 0)), (1, vN (t))] (by decide) rfl dX7_bestShift_25 (fun ls hl => ?_)
    refine k_iconstN hm 0 dX7_bestShift_26 ?_
    refine k_istore hm hl [(4, vN (0)), (3, vN (pm (sumM (K (R - 1)) (w (R - 1))) t)), (2, vN (sumM (K (R - 1)) (w (R - 1)))), (0, .ref (D 0)), (1, vN (t))] (by decide) rfl dX7_bestShift_27 (fun ls hl => ?_)
    refine k_bipushN hm 121 dX7_bestShift_29 rfl ?_
    refine k_istore hm hl [(5, vN (121)), (4, vN (0)), (3, vN (pm (sumM (K (R - 1)) (w (R - 1))) t)), (2, vN (sumM (K (R - 1)) (w (R - 1)))), (0, .ref (D 0)), (1, vN (t))] (by decide) rfl dX7_bestShift_31 (fun ls hl => ?_)
    refine k_iconstN hm 0 dX7_bestShift_33 ?_
    refine k_istore hm hl [(6, vN (0)), (5, vN (121)), (4, vN (0)), (3, vN (pm (sumM (K (R - 1)) (w (R - 1))) t)), (2, vN (sumM (K (R - 1)) (w (R - 1)))), (0, .ref (D 0)), (1, vN (t))] (by decide) rfl dX7_bestShift_34 (fun ls hl => ?_)
    have loop_36 : ∀ (fu : Nat) (b : Nat) (f : Nat) (x : Nat) (g : Nat → Nat) (wk1 : Nat) (hx : x ≤ pm (sumM (K (R - 1)) (w (R - 1))) t) (hf : f ≤ 121) (hbf : (x = 0 ∧ b = 0 ∧ f = 121) ∨ (0 < x ∧ f = stkC (K (R - 1)) (w (R - 1)) (sumM (K (R - 1)) (w (R - 1))) t b ∧ isBst (stkC (K (R - 1)) (w (R - 1)) (sumM (K (R - 1)) (w (R - 1))) t) x b)) (H : Heap) (locs : List Loc) (ls : Array Slot), pm (sumM (K (R - 1)) (w (R - 1))) t - x < fu → kW G A s (wMod G D sa pa pn tx tn rf g wk1 mb2_4 so kd nu it ti rd ad) H locs → lv_has ls 8 [(0, .ref (D 0)), (1, vN (t)), (2, vN ((sumM (K (R - 1)) (w (R - 1))))), (3, vN (pm (sumM (K (R - 1)) (w (R - 1))) t)), (4, vN (b)), (5, vN (f)), (6, vN (x))] → W p l e { frames := 3, cells := 0, slots := 0, locals := 65 } s m args below meth c H locs 0 0 Qz (F0 m 36 ls []) := by
      intro fu
      induction fu with
      | zero => intro b f x g wk1 hx hf hbf H locs ls hfu; exact absurd hfu (Nat.not_lt_zero _)
      | succ fu ih_36 =>
        intro b f x g wk1 hx hf hbf H locs ls hfu hw hl
        refine k_iload hm hl 6 rfl dX7_bestShift_36 ?_
        refine k_iload_n hm hl 3 rfl dX7_bestShift_38 ?_
        refine k_icmpge (tgt := 99) hm dX7_bestShift_39 (by decide) (by omega) (fun c_16 => ?_) (fun c_16 => ?_)
        · refine k_iload hm hl 4 rfl dX7_bestShift_99 ?_
          exact k_iret (post := _) hm hQ rfl rfl hw (⟨b, g, wk1, _, rfl, rfl, (by
                              rcases hbf with ⟨z1, z2, z3⟩ | ⟨z1, z2, z3⟩
                              · omega
                              · rw [show pm (sumM (K (R - 1)) (w (R - 1))) t = x by omega]; exact z3)⟩) (by omega) (by omega) dX7_bestShift_101
        · refine k_iload hm hl 5 rfl dX7_bestShift_42 ?_
          refine k_ifle (tgt := 99) hm dX7_bestShift_44 (by decide) (by omega) (fun c_17 => ?_) (fun c_17 => ?_)
          · refine k_iload hm hl 4 rfl dX7_bestShift_99 ?_
            exact k_iret (post := _) hm hQ rfl rfl hw (⟨b, g, wk1, _, rfl, rfl, (by
                              rcases hbf with ⟨z1, z2, z3⟩ | ⟨z1, z2, z3⟩
                              · omega
                              · have := z3.1
                                exact ⟨by omega, fun y q => by omega, z3.2.2⟩)⟩) (by omega) (by omega) dX7_bestShift_101
          · refine k_aload_n hm hl 0 rfl dX7_bestShift_47 ?_
            refine k_iload_n hm hl 1 rfl dX7_bestShift_48 ?_
            refine k_iload_n hm hl 2 rfl dX7_bestShift_49 ?_
            refine k_iload hm hl 6 rfl dX7_bestShift_50 ?_
            refine k_callV (n := 3) (As := [vN (t), vN ((sumM (K (R - 1)) (w (R - 1)))), vN (x)]) (rest := []) (wr := []) hm hw hl (c_m_spreads l G D sa pa pn tx tn rf g wk1 mb2_4 so kd nu it ti rd ad t (sumM (K (R - 1)) (w (R - 1))) x (by first | assumption | omega)) gX7_bestShift_X7_spreads rfl (by decide +kernel) ⟨by decide, by decide⟩ (ci := 7) rfl 0 rfl [0, 1, 2, 3, 4, 5, 6, 7, 8] [] (by decide) rfl rfl (by decide) (by decide) rfl rfl (by simp [Value.category]) ⟨by decide, by decide⟩ dX7_bestShift_52 (fun v w1 H locs hp hw => ?_)
            obtain ⟨ro2_19, rfl, rfl, hro_20⟩ := hp
            have hw := hw.sub (ws' := wMod G D sa pa pn tx tn rf ro2_19 (pm (sumM (K (R - 1)) (w (R - 1))) t) mb2_4 so kd nu it ti rd ad) [0, 1, 2, 3, 4, 5, 6, 7, 8] (by decide) rfl
            refine W.eq (g2 := F0 m 55 ls []) rfl ?_
            have hro := hro_20
            refine k_aload_n hm hl 0 rfl dX7_bestShift_55 ?_
            have hUx : sumU ro2_19 (pm (sumM (K (R - 1)) (w (R - 1))) t) = sumU (spR (sumM (K (R - 1)) (w (R - 1))) t x) (pm (sumM (K (R - 1)) (w (R - 1))) t) := sumU_ext (fun j hj => hro j hj)
            have hrg := spR_ok (x := x) (show 3 ≤ (sumM (K (R - 1)) (w (R - 1))) ∧ (sumM (K (R - 1)) (w (R - 1))) ≤ 120 ∧ 3 ≤ t ∧ t ≤ 120 by omega) hpo
            refine k_callVr (n := 0) (As := []) (rest := []) hm hw hl (c_m_stacked l G D sa pa pn tx tn rf ro2_19 (pm (sumM (K (R - 1)) (w (R - 1))) t) mb2_4 so kd nu it ti rd ad (by omega) (fun i q => by rw [hro i q]; exact hrg.1 i q) (by rw [hUx, hrg.2.1]; omega) (fun z q => by rw [hUx, hrg.2.1] at q; exact mkOk_le hmo.1 (show R - 1 < R by omega) hmk z q)) gX7_bestShift_X7_stacked rfl (by decide +kernel) ⟨by decide, by decide⟩ (ci := 7) rfl 0 rfl [0, 1, 2, 3, 4, 5, 6, 7, 8] (by decide) rfl rfl rfl (by simp [Value.category]) ⟨by decide, by decide⟩ dX7_bestShift_56 (fun v H locs hp hw => ?_)
            obtain rfl := hp
            refine W.eq (g2 := F0 m 59 ls [vN (nstk mb2_4 ro2_19 (pm (sumM (K (R - 1)) (w (R - 1))) t))]) rfl ?_
            refine k_rwV (y := vN (stkC (K (R - 1)) (w (R - 1)) (sumM (K (R - 1)) (w (R - 1))) t x)) (congrArg vN (by unfold stkC; rw [← nstk_mk hmk (by rw [hrg.2.1]; exact Nat.le_refl _)]; exact nstk_ext (fun i q => hro i q) (fun _ _ => rfl))) ?_
            have hle : stkC (K (R - 1)) (w (R - 1)) (sumM (K (R - 1)) (w (R - 1))) t x ≤ pm (sumM (K (R - 1)) (w (R - 1))) t := nstk_le _ _ _
            refine k_istore hm hl [(7, vN (stkC (K (R - 1)) (w (R - 1)) (sumM (K (R - 1)) (w (R - 1))) t x)), (0, .ref (D 0)), (1, vN (t)), (2, vN ((sumM (K (R - 1)) (w (R - 1))))), (3, vN (pm (sumM (K (R - 1)) (w (R - 1))) t)), (4, vN (b)), (5, vN (f)), (6, vN (x))] (by decide) rfl dX7_bestShift_59 (fun ls hl => ?_)
            refine k_iload hm hl 0 rfl dX7_bestShift_61 ?_
            refine k_iload hm hl 6 rfl dX7_bestShift_63 ?_
            refine k_icmpge (tgt := 73) hm dX7_bestShift_65 (by decide) (by omega) (fun c_22 => ?_) (fun c_22 => ?_)
            · refine k_iload hm hl 5 rfl dX7_bestShift_73 ?_
              refine k_istore hm hl [(4, vN (b)), (7, vN (stkC (K (R - 1)) (w (R - 1)) (sumM (K (R - 1)) (w (R - 1))) t x)), (0, .ref (D 0)), (1, vN (t)), (2, vN ((sumM (K (R - 1)) (w (R - 1))))), (3, vN (pm (sumM (K (R - 1)) (w (R - 1))) t)), (5, vN (f)), (6, vN (x))] (by decide) rfl dX7_bestShift_75 (fun ls hl => ?_)
              refine k_iload hm hl 1 rfl dX7_bestShift_77 ?_
              refine k_iload hm hl 6 rfl dX7_bestShift_79 ?_
              refine k_icmpge (tgt := 89) hm dX7_bestShift_81 (by decide) (by omega) (fun c_23 => ?_) (fun c_23 => ?_)
              · refine k_iload hm hl 6 rfl dX7_bestShift_89 ?_
                refine k_istore hm hl [(5, vN (f)), (4, vN (b)), (7, vN (stkC (K (R - 1)) (w (R - 1)) (sumM (K (R - 1)) (w (R - 1))) t x)), (0, .ref (D 0)), (1, vN (t)), (2, vN ((sumM (K (R - 1)) (w (R - 1))))), (3, vN (pm (sumM (K (R - 1)) (w (R - 1))) t)), (6, vN (x))] (by decide) rfl dX7_bestShift_91 (fun ls hl => ?_)
                refine k_iincN hm hl 7 1 rfl [(6, vN (x + 1)), (5, vN (f)), (4, vN (b)), (7, vN (stkC (K (R - 1)) (w (R - 1)) (sumM (K (R - 1)) (w (R - 1))) t x)), (0, .ref (D 0)), (1, vN (t)), (2, vN ((sumM (K (R - 1)) (w (R - 1))))), (3, vN (pm (sumM (K (R - 1)) (w (R - 1))) t))] (by decide) rfl dX7_bestShift_93 (fun ls hl => ?_)
                refine k_goto (tgt := 36) hm dX7_bestShift_96 (by decide) ?_
                exact ih_36  b f (x + 1) ro2_19 (pm (sumM (K (R - 1)) (w (R - 1))) t) (by first | assumption | omega) (by first | assumption | omega) (by
                              refine Or.inr ⟨by omega, ?_, ?_⟩
                              · first | rfl | (rcases hbf with ⟨z1, z2, z3⟩ | ⟨z1, z2, z3⟩ <;> omega)
                              · rcases hbf with ⟨z1, z2, z3⟩ | ⟨z1, z2, z3⟩
                                · first
                                  | (exfalso; omega)
                                  | (refine ⟨by omega, fun y q => ?_, fun y q => absurd q (by omega)⟩
                                     rw [show y = x by omega]; exact Nat.le_refl _)
                                · have hb1 := z3.1
                                  first
                                  | (refine ⟨by omega, fun y q => ?_, fun y q => ?_⟩
                                     · by_cases q2 : y = x
                                       · rw [q2]; exact Nat.le_refl _
                                       · have := z3.2.1 y (by omega); omega
                                     · have := z3.2.1 y (by omega); omega)
                                  | (refine ⟨by omega, fun y q => ?_, z3.2.2⟩
                                     by_cases q2 : y = x
                                     · rw [q2]; omega
                                     · exact z3.2.1 y (by omega))) _ _ _ (by omega) hw (lv_sub hl [4, 5, 6, 7, 2, 1, 0] rfl)
              · refine k_iload hm hl 1 rfl dX7_bestShift_84 ?_
                refine k_goto (tgt := 91) hm dX7_bestShift_86 (by decide) ?_
                refine k_istore hm hl [(5, vN (stkC (K (R - 1)) (w (R - 1)) (sumM (K (R - 1)) (w (R - 1))) t x)), (4, vN (b)), (7, vN (stkC (K (R - 1)) (w (R - 1)) (sumM (K (R - 1)) (w (R - 1))) t x)), (0, .ref (D 0)), (1, vN (t)), (2, vN ((sumM (K (R - 1)) (w (R - 1))))), (3, vN (pm (sumM (K (R - 1)) (w (R - 1))) t)), (6, vN (x))] (by decide) rfl dX7_bestShift_91 (fun ls hl => ?_)
                refine k_iincN hm hl 7 1 rfl [(6, vN (x + 1)), (5, vN (stkC (K (R - 1)) (w (R - 1)) (sumM (K (R - 1)) (w (R - 1))) t x)), (4, vN (b)), (7, vN (stkC (K (R - 1)) (w (R - 1)) (sumM (K (R - 1)) (w (R - 1))) t x)), (0, .ref (D 0)), (1, vN (t)), (2, vN ((sumM (K (R - 1)) (w (R - 1))))), (3, vN (pm (sumM (K (R - 1)) (w (R - 1))) t))] (by decide) rfl dX7_bestShift_93 (fun ls hl => ?_)
                refine k_goto (tgt := 36) hm dX7_bestShift_96 (by decide) ?_
                exact ih_36  b (stkC (K (R - 1)) (w (R - 1)) (sumM (K (R - 1)) (w (R - 1))) t x) (x + 1) ro2_19 (pm (sumM (K (R - 1)) (w (R - 1))) t) (by first | assumption | omega) (by first | assumption | omega) (by
                              refine Or.inr ⟨by omega, ?_, ?_⟩
                              · first | rfl | (rcases hbf with ⟨z1, z2, z3⟩ | ⟨z1, z2, z3⟩ <;> omega)
                              · rcases hbf with ⟨z1, z2, z3⟩ | ⟨z1, z2, z3⟩
                                · first
                                  | (exfalso; omega)
                                  | (refine ⟨by omega, fun y q => ?_, fun y q => absurd q (by omega)⟩
                                     rw [show y = x by omega]; exact Nat.le_refl _)
                                · have hb1 := z3.1
                                  first
                                  | (refine ⟨by omega, fun y q => ?_, fun y q => ?_⟩
                                     · by_cases q2 : y = x
                                       · rw [q2]; exact Nat.le_refl _
                                       · have := z3.2.1 y (by omega); omega
                                     · have := z3.2.1 y (by omega); omega)
                                  | (refine ⟨by omega, fun y q => ?_, z3.2.2⟩
                                     by_cases q2 : y = x
                                     · rw [q2]; omega
                                     · exact z3.2.1 y (by omega))) _ _ _ (by omega) hw (lv_sub hl [4, 5, 6, 7, 2, 1, 0] rfl)
            · refine k_iload hm hl 7 rfl dX7_bestShift_68 ?_
              refine k_goto (tgt := 75) hm dX7_bestShift_70 (by decide) ?_
              refine k_istore hm hl [(4, vN (x)), (7, vN (stkC (K (R - 1)) (w (R - 1)) (sumM (K (R - 1)) (w (R - 1))) t x)), (0, .ref (D 0)), (1, vN (t)), (2, vN ((sumM (K (R - 1)) (w (R - 1))))), (3, vN (pm (sumM (K (R - 1)) (w (R - 1))) t)), (5, vN (f)), (6, vN (x))] (by decide) rfl dX7_bestShift_75 (fun ls hl => ?_)
              refine k_iload hm hl 1 rfl dX7_bestShift_77 ?_
              refine k_iload hm hl 6 rfl dX7_bestShift_79 ?_
              refine k_icmpge (tgt := 89) hm dX7_bestShift_81 (by decide) (by omega) (fun c_24 => ?_) (fun c_24 => ?_)
              · refine k_iload hm hl 6 rfl dX7_bestShift_89 ?_
                refine k_istore hm hl [(5, vN (f)), (4, vN (x)), (7, vN (stkC (K (R - 1)) (w (R - 1)) (sumM (K (R - 1)) (w (R - 1))) t x)), (0, .ref (D 0)), (1, vN (t)), (2, vN ((sumM (K (R - 1)) (w (R - 1))))), (3, vN (pm (sumM (K (R - 1)) (w (R - 1))) t)), (6, vN (x))] (by decide) rfl dX7_bestShift_91 (fun ls hl => ?_)
                refine k_iincN hm hl 7 1 rfl [(6, vN (x + 1)), (5, vN (f)), (4, vN (x)), (7, vN (stkC (K (R - 1)) (w (R - 1)) (sumM (K (R - 1)) (w (R - 1))) t x)), (0, .ref (D 0)), (1, vN (t)), (2, vN ((sumM (K (R - 1)) (w (R - 1))))), (3, vN (pm (sumM (K (R - 1)) (w (R - 1))) t))] (by decide) rfl dX7_bestShift_93 (fun ls hl => ?_)
                refine k_goto (tgt := 36) hm dX7_bestShift_96 (by decide) ?_
                exact ih_36  x f (x + 1) ro2_19 (pm (sumM (K (R - 1)) (w (R - 1))) t) (by first | assumption | omega) (by first | assumption | omega) (by
                              refine Or.inr ⟨by omega, ?_, ?_⟩
                              · first | rfl | (rcases hbf with ⟨z1, z2, z3⟩ | ⟨z1, z2, z3⟩ <;> omega)
                              · rcases hbf with ⟨z1, z2, z3⟩ | ⟨z1, z2, z3⟩
                                · first
                                  | (exfalso; omega)
                                  | (refine ⟨by omega, fun y q => ?_, fun y q => absurd q (by omega)⟩
                                     rw [show y = x by omega]; exact Nat.le_refl _)
                                · have hb1 := z3.1
                                  first
                                  | (refine ⟨by omega, fun y q => ?_, fun y q => ?_⟩
                                     · by_cases q2 : y = x
                                       · rw [q2]; exact Nat.le_refl _
                                       · have := z3.2.1 y (by omega); omega
                                     · have := z3.2.1 y (by omega); omega)
                                  | (refine ⟨by omega, fun y q => ?_, z3.2.2⟩
                                     by_cases q2 : y = x
                                     · rw [q2]; omega
                                     · exact z3.2.1 y (by omega))) _ _ _ (by omega) hw (lv_sub hl [4, 5, 6, 7, 2, 1, 0] rfl)
              · refine k_iload hm hl 1 rfl dX7_bestShift_84 ?_
                refine k_goto (tgt := 91) hm dX7_bestShift_86 (by decide) ?_
                refine k_istore hm hl [(5, vN (stkC (K (R - 1)) (w (R - 1)) (sumM (K (R - 1)) (w (R - 1))) t x)), (4, vN (x)), (7, vN (stkC (K (R - 1)) (w (R - 1)) (sumM (K (R - 1)) (w (R - 1))) t x)), (0, .ref (D 0)), (1, vN (t)), (2, vN ((sumM (K (R - 1)) (w (R - 1))))), (3, vN (pm (sumM (K (R - 1)) (w (R - 1))) t)), (6, vN (x))] (by decide) rfl dX7_bestShift_91 (fun ls hl => ?_)
                refine k_iincN hm hl 7 1 rfl [(6, vN (x + 1)), (5, vN (stkC (K (R - 1)) (w (R - 1)) (sumM (K (R - 1)) (w (R - 1))) t x)), (4, vN (x)), (7, vN (stkC (K (R - 1)) (w (R - 1)) (sumM (K (R - 1)) (w (R - 1))) t x)), (0, .ref (D 0)), (1, vN (t)), (2, vN ((sumM (K (R - 1)) (w (R - 1))))), (3, vN (pm (sumM (K (R - 1)) (w (R - 1))) t))] (by decide) rfl dX7_bestShift_93 (fun ls hl => ?_)
                refine k_goto (tgt := 36) hm dX7_bestShift_96 (by decide) ?_
                exact ih_36  x (stkC (K (R - 1)) (w (R - 1)) (sumM (K (R - 1)) (w (R - 1))) t x) (x + 1) ro2_19 (pm (sumM (K (R - 1)) (w (R - 1))) t) (by first | assumption | omega) (by first | assumption | omega) (by
                              refine Or.inr ⟨by omega, ?_, ?_⟩
                              · first | rfl | (rcases hbf with ⟨z1, z2, z3⟩ | ⟨z1, z2, z3⟩ <;> omega)
                              · rcases hbf with ⟨z1, z2, z3⟩ | ⟨z1, z2, z3⟩
                                · first
                                  | (exfalso; omega)
                                  | (refine ⟨by omega, fun y q => ?_, fun y q => absurd q (by omega)⟩
                                     rw [show y = x by omega]; exact Nat.le_refl _)
                                · have hb1 := z3.1
                                  first
                                  | (refine ⟨by omega, fun y q => ?_, fun y q => ?_⟩
                                     · by_cases q2 : y = x
                                       · rw [q2]; exact Nat.le_refl _
                                       · have := z3.2.1 y (by omega); omega
                                     · have := z3.2.1 y (by omega); omega)
                                  | (refine ⟨by omega, fun y q => ?_, z3.2.2⟩
                                     by_cases q2 : y = x
                                     · rw [q2]; omega
                                     · exact z3.2.1 y (by omega))) _ _ _ (by omega) hw (lv_sub hl [4, 5, 6, 7, 2, 1, 0] rfl)
    exact loop_36 (pm (sumM (K (R - 1)) (w (R - 1))) t - 0 + 1) 0 121 0 ro wk (by first | assumption | omega) (by first | assumption | omega) (Or.inl ⟨rfl, rfl, rfl⟩) _ _ _ (Nat.lt_succ_self _) hw (lv_sub hl [5, 6, 4, 3, 2, 1, 0] rfl)
