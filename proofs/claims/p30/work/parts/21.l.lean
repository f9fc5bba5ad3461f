/-- rounds of a shape: at most k more; c of them come -/
def shS (sh sz : Nat) : Nat → Nat → (Nat → Nat → Nat) → (Nat → Nat) → Nat → (Nat → Nat → Nat) → (Nat → Nat) → Prop
  | 0, _, K, w, c, K2, w2 => c = 0 ∧ K2 = K ∧ w2 = w
  | k + 1, R, K, w, c, K2, w2 => (¬ (R < 40 ∧ isPo (sumM (K (R - 1)) (w (R - 1))) (goalF (sumM (K 0) (w 0)) sh sz R)) ∧ c = 0 ∧ K2 = K ∧ w2 = w) ∨
    (R < 40 ∧ isPo (sumM (K (R - 1)) (w (R - 1))) (goalF (sumM (K 0) (w 0)) sh sz R) ∧ ∃ b c2, isBst (stkC (K (R - 1)) (w (R - 1)) (sumM (K (R - 1)) (w (R - 1))) (goalF (sumM (K 0) (w 0)) sh sz R)) (pm (sumM (K (R - 1)) (w (R - 1))) (goalF (sumM (K 0) (w 0)) sh sz R)) b ∧ c = c2 + 1 ∧ shS sh sz k (R + 1) (fup K R (spR (sumM (K (R - 1)) (w (R - 1))) (goalF (sumM (K 0) (w 0)) sh sz R) b)) (fup w R (pm (sumM (K (R - 1)) (w (R - 1))) (goalF (sumM (K 0) (w 0)) sh sz R))) c2 K2 w2)
theorem shS_u {sh sz : Nat} : ∀ {k R : Nat} {K : Nat → Nat → Nat} {w : Nat → Nat} {c d : Nat} {K2 K3 : Nat → Nat → Nat} {w2 w3 : Nat → Nat}, shS sh sz k R K w c K2 w2 → shS sh sz k R K w d K3 w3 → c = d ∧ K2 = K3 ∧ w2 = w3
  | 0, _, _, _, _, _, _, _, _, _, h, h2 => by
    obtain ⟨a1, a2, a3⟩ := h
    obtain ⟨b1, b2, b3⟩ := h2
    exact ⟨by rw [a1, b1], by rw [a2, b2], by rw [a3, b3]⟩
  | k + 1, R, K, w, c, d, K2, K3, w2, w3, h, h2 => by
    rcases h with ⟨a0, a1, a2, a3⟩ | ⟨a1, a2, b, c2, a3, a4, a5⟩ <;> rcases h2 with ⟨b0, b1, b2, b3⟩ | ⟨b1, b2, b', d2, b3, b4, b5⟩
    · exact ⟨by rw [a1, b1], by rw [a2, b2], by rw [a3, b3]⟩
    · exact absurd ⟨b1, b2⟩ a0
    · exact absurd ⟨a1, a2⟩ b0
    · have e := isBst_u a3 b3
      subst e
      obtain ⟨e1, e2, e3⟩ := shS_u a5 b5
      exact ⟨by omega, e2, e3⟩
theorem shS_0 {sh sz : Nat} {k R : Nat} {K : Nat → Nat → Nat} {w : Nat → Nat} (h : k = 0 ∨ ¬ (R < 40 ∧ isPo (sumM (K (R - 1)) (w (R - 1))) (goalF (sumM (K 0) (w 0)) sh sz R))) : shS sh sz k R K w 0 K w := by
  cases k with
  | zero => exact ⟨rfl, rfl, rfl⟩
  | succ k => exact Or.inl ⟨by rcases h with h | h; cases h; exact h, rfl, rfl, rfl⟩
set_option maxHeartbeats 4000000 in
set_option maxRecDepth 100000 in
theorem c_addShape_ok (l : Launch) (G : kG) (o : Nat) (T : Nat → Nat) (L : Nat → Nat) (M : Nat → Nat) (P : Nat → Nat) (gk : Nat → Nat) (gw : Nat → Nat) (gt : Nat → Nat) (gy : Nat → Nat) (R : Nat) (sp : Bool) (h : Nat) (hs : Nat) (Q : Nat → Nat → Nat) (ak : Nat → Nat → Nat) (aw : Nat → Nat → Nat) (au : Nat → Nat → Nat) (ay : Nat → Nat → Nat) (aR : Nat → Nat) (aS : Nat → Bool) (nx : Nat) (sz : Nat) (f : Nat → Nat) (wk : Nat) (sd : Nat) (kd : Nat) (mf : Nat → Nat) (K : Nat → Nat → Nat) (w : Nat → Nat) (y : Nat → Nat) (sv : Nat → PSt) (sh : Nat) (sz2 : Nat) (k : Nat) (hok : POk gk gw gt gy R K w y) (hho : HOk ak aw au ay aR aS nx sz sv) (hsk : sh < 5 ∧ 1 ≤ sz2 ∧ sz2 ≤ 20 ∧ 1 ≤ k ∧ k < 40) : kCM l yX6_addShape wsX6_addShape 4 97 0 0 G [.ref (o), vN (sh), vN (sz2), vN (k)] (wMain G o P h T L M ++ (wPiece G P gk gw gt gy R sp ++ (wHist G h hs Q ak aw au ay aR aS nx sz ++ (wPlan G L f wk sd kd ++ wMk G M mf)))) (fun vv uu => ∃ (q : Nat), ∃ (K2 : Nat → Nat → Nat), ∃ (w2 : Nat → Nat), ∃ (gk2 : Nat → Nat), ∃ (gw2 : Nat → Nat), ∃ (gt2 : Nat → Nat), ∃ (ak2 : Nat → Nat → Nat), ∃ (aw2 : Nat → Nat → Nat), ∃ (au2 : Nat → Nat → Nat), ∃ (ay2 : Nat → Nat → Nat), ∃ (aR2 : Nat → Nat), ∃ (aS2 : Nat → Bool), ∃ (f2 : Nat → Nat), ∃ (wk2 : Nat), ∃ (sd2 : Nat), ∃ (kd2 : Nat), ∃ (mf2 : Nat → Nat), vv = some (vN (q)) ∧ uu = wMain G o P h T L M ++ (wPiece G P gk2 gw2 gt2 gy (R + q) sp ++ (wHist G h hs Q ak2 aw2 au2 ay2 aR2 aS2 ((nx + 1) % 4) (Nat.min (sz + 1) 4) ++ (wPlan G L f2 wk2 sd2 kd2 ++ wMk G M mf2))) ∧ (shS sh sz2 k R K w q K2 w2) ∧ (POk gk2 gw2 gt2 gy (R + q) K2 w2 y) ∧ (HOk ak2 aw2 au2 ay2 aR2 aS2 ((nx + 1) % 4) (Nat.min (sz + 1) 4) (svPush (R, sp, K, w, y) sv))) := by
  refine kCM.of (cc := cX6_addShape) (maxL := 6) (ret := (some .int)) (by decide) rfl (Nat.le_of_ble_eq_true rfl) ?_
  intro p e s m args below meth c A ls Qz hQ hin hm hw hl
  have hl : lv_has ls 6 [(0, .ref (o)), (1, vN (sh)), (2, vN (sz2)), (3, vN (k))] := hl
  have i4 : ∀ w ∈ wsX40, w ∈ wsX6_addShape := by decide +kernel
  have i6 : ∀ w ∈ wsX60, w ∈ wsX6_addShape := by decide +kernel
  have hR := hok.1.1
  refine k_iload_n hm hl 1 rfl dX6_addShape_0 ?_
  refine k_callSr (n := 1) (As := [vN (sh)]) (rest := []) hm hw hl (c_isShape l G ((sh : Nat) : Int) (by first | assumption | omega)) gX6_addShape_X6_isShape rfl (by decide +kernel) ⟨by decide, by decide⟩ [] (by decide) rfl rfl rfl (by simp [Value.category]) ⟨by decide, by decide⟩ dX6_addShape_1 (fun v H locs hp hw => ?_)
  obtain rfl := hp
  refine W.eq (g2 := F0 m 4 ls [vB (decide (0 ≤ ((sh : Nat) : Int) ∧ ((sh : Nat) : Int) ≤ 4))]) rfl ?_
  refine k_rwV (y := vB (true)) (by rw [decide_eq_true (by omega)]) ?_
  refine k_ifeqB (tgt := 18) hm dX6_addShape_4 (by decide) (fun c_2 => absurd c_2 (by decide)) (fun _ => ?_)
  refine k_iload_n hm hl 2 rfl dX6_addShape_7 ?_
  refine k_callSr (n := 1) (As := [vN (sz2)]) (rest := []) hm hw hl (c_isSize l G ((sz2 : Nat) : Int) (by first | assumption | omega)) gX6_addShape_X6_isSize rfl (by decide +kernel) ⟨by decide, by decide⟩ [] (by decide) rfl rfl rfl (by simp [Value.category]) ⟨by decide, by decide⟩ dX6_addShape_8 (fun v H locs hp hw => ?_)
  obtain rfl := hp
  refine W.eq (g2 := F0 m 11 ls [vB (decide (1 ≤ ((sz2 : Nat) : Int) ∧ ((sz2 : Nat) : Int) ≤ 20))]) rfl ?_
  refine k_rwV (y := vB (true)) (by rw [decide_eq_true (by omega)]) ?_
  refine k_ifeqB (tgt := 18) hm dX6_addShape_11 (by decide) (fun c_4 => absurd c_4 (by decide)) (fun _ => ?_)
  refine k_iconstN hm 1 dX6_addShape_14 ?_
  refine k_goto (tgt := 19) hm dX6_addShape_15 (by decide) ?_
  refine k_callSr (n := 1) (As := [vN (1)]) (rest := []) hm hw hl (c_checkArgument_ok l G ) gX6_addShape_X6_checkArgument rfl (by decide +kernel) ⟨by decide, by decide⟩ [] (by decide) rfl rfl rfl (by simp [Value.category]) ⟨by decide, by decide⟩ dX6_addShape_19 (fun v H locs hp hw => ?_)
  obtain rfl := hp
  refine W.eq (g2 := F0 m 22 ls []) rfl ?_
  refine k_iload_n hm hl 3 rfl dX6_addShape_22 ?_
  refine k_iconstN hm 1 dX6_addShape_23 ?_
  refine k_icmplt (tgt := 37) hm dX6_addShape_24 (by decide) (by omega) (fun c_6 => absurd c_6 (by omega)) (fun c_6 => ?_)
  refine k_iload_n hm hl 3 rfl dX6_addShape_27 ?_
  refine k_bipushN hm 40 dX6_addShape_28 rfl ?_
  refine k_icmpge (tgt := 37) hm dX6_addShape_30 (by decide) (by omega) (fun c_7 => absurd c_7 (by omega)) (fun c_7 => ?_)
  refine k_iconstN hm 1 dX6_addShape_33 ?_
  refine k_goto (tgt := 38) hm dX6_addShape_34 (by decide) ?_
  refine k_callSr (n := 1) (As := [vN (1)]) (rest := []) hm hw hl (c_checkArgument_ok l G ) gX6_addShape_X6_checkArgument rfl (by decide +kernel) ⟨by decide, by decide⟩ [] (by decide) rfl rfl rfl (by simp [Value.category]) ⟨by decide, by decide⟩ dX6_addShape_38 (fun v H locs hp hw => ?_)
  obtain rfl := hp
  refine W.eq (g2 := F0 m 41 ls []) rfl ?_
  refine k_aload_n hm hl 0 rfl dX6_addShape_41 ?_
  refine k_get (T := TX6) hm hw 0 1 i6 rfl rfl (by decide) (by decide +kernel) rfl dX6_addShape_42 ?_
  refine k_aload_n hm hl 0 rfl dX6_addShape_45 ?_
  refine k_get (T := TX6) hm hw 0 0 i6 rfl rfl (by decide) (by decide +kernel) rfl dX6_addShape_46 ?_
  refine k_callV (n := 1) (As := [.ref (P 0)]) (rest := []) (wr := [(o, .inr (6, [.ref (P 0), .ref (h), .ref (T 0), .ref (L 0), .ref (M 0)])), (L 0, .inr (5, [.ref (L 1), vN (wk), vN (sd), vN (kd)])), (L 1, .inr (2, [.ref (L 2)])), (L 2, .inl (G.2 0, 120, .inl (nF f))), (M 0, .inr (1, [.ref (M 1)])), (M 1, .inr (2, [.ref (M 2)])), (M 2, .inl (G.2 0, 120, .inl (nF mf)))]) hm hw hl (c_keep l G h hs Q ak aw au ay aR aS nx sz P gk gw gt gy R sp K w y sv (by first | assumption | omega) (by first | assumption | omega)) gX6_addShape_X0_keep rfl (by decide +kernel) ⟨by decide, by decide⟩ (ci := 0) rfl 10 rfl [10, 11, 12, 13, 14, 15, 16, 17, 18, 19, 20, 21, 22, 23, 24, 25, 26, 27, 28, 29, 30, 31, 32, 33, 34, 35, 36, 37, 38, 39, 40, 41, 42, 43, 44, 45, 46, 47, 1, 2, 3, 4, 5, 6, 7, 8, 9] [0, 48, 49, 50, 51, 52, 53] (by decide) rfl rfl (by decide) (by decide) rfl rfl (by simp [Value.category]) ⟨by decide, by decide⟩ dX6_addShape_49 (fun v w1 H locs hp hw => ?_)
  obtain ⟨ak2_10, aw2_11, au2_12, ay2_13, aR2_14, aS2_15, rfl, rfl, hho2_16⟩ := hp
  have hw := hw.sub (ws' := wMain G o P h T L M ++ (wPiece G P gk gw gt gy R sp ++ (wHist G h hs Q ak2_10 aw2_11 au2_12 ay2_13 aR2_14 aS2_15 ((nx + 1) % 4) (Nat.min (sz + 1) 4) ++ (wPlan G L f wk sd kd ++ wMk G M mf)))) [0, 45, 46, 47, 48, 49, 50, 51, 52, 53, 7, 8, 9, 10, 11, 12, 13, 14, 15, 16, 17, 18, 19, 20, 21, 22, 23, 24, 25, 26, 27, 28, 29, 30, 31, 32, 33, 34, 35, 36, 37, 38, 39, 40, 41, 42, 43, 44, 1, 2, 3, 4, 5, 6] (by decide) rfl
  refine W.eq (g2 := F0 m 52 ls []) rfl ?_
  have hho2 := hho2_16
  refine k_iconstN hm 0 dX6_addShape_52 ?_
  refine k_istore hm hl [(4, vN (0)), (0, .ref (o)), (1, vN (sh)), (2, vN (sz2)), (3, vN (k))] (by decide) rfl dX6_addShape_53 (fun ls hl => ?_)
  have loop_55 : ∀ (fu : Nat) (n : Nat) (gk1 : Nat → Nat) (gw1 : Nat → Nat) (gt1 : Nat → Nat) (R1 : Nat) (f1 : Nat → Nat) (wk1 : Nat) (sd1 : Nat) (kd1 : Nat) (mf1 : Nat → Nat) (K1 : Nat → Nat → Nat) (w1 : Nat → Nat) (hn : n ≤ k) (hR1 : R1 = R + n) (hok1 : POk gk1 gw1 gt1 gy R1 K1 w1 y) (hc : ∀ c2 K2 w2, shS sh sz2 (k - n) R1 K1 w1 c2 K2 w2 → shS sh sz2 k R K w (n + c2) K2 w2) (H : Heap) (locs : List Loc) (ls : Array Slot), k - n < fu → kW G A s (wMain G o P h T L M ++ (wPiece G P gk1 gw1 gt1 gy R1 sp ++ (wHist G h hs Q ak2_10 aw2_11 au2_12 ay2_13 aR2_14 aS2_15 ((nx + 1) % 4) (Nat.min (sz + 1) 4) ++ (wPlan G L f1 wk1 sd1 kd1 ++ wMk G M mf1)))) H locs → lv_has ls 6 [(0, .ref (o)), (1, vN (sh)), (2, vN (sz2)), (3, vN (k)), (4, vN (n))] → W p l e { frames := 4, cells := 0, slots := 0, locals := 97 } s m args below meth c H locs 0 0 Qz (F0 m 55 ls []) := by
    intro fu
    induction fu with
    | zero => intro n gk1 gw1 gt1 R1 f1 wk1 sd1 kd1 mf1 K1 w1 hn hR1 hok1 hc H locs ls hfu; exact absurd hfu (Nat.not_lt_zero _)
    | succ fu ih_55 =>
      intro n gk1 gw1 gt1 R1 f1 wk1 sd1 kd1 mf1 K1 w1 hn hR1 hok1 hc H locs ls hfu hw hl
      refine k_iload hm hl 4 rfl dX6_addShape_55 ?_
      refine k_iload_n hm hl 3 rfl dX6_addShape_57 ?_
      refine k_icmpge (tgt := 121) hm dX6_addShape_58 (by decide) (by omega) (fun c_17 => ?_) (fun c_17 => ?_)
      · refine k_iload hm hl 4 rfl dX6_addShape_121 ?_
        exact k_iret (post := _) hm hQ rfl rfl hw (⟨n, K1, w1, _, _, _, _, _, _, _, _, _, _, _, _, _, _, rfl, by rw [hR1], hc 0 K1 w1 (shS_0 (by rcases Nat.lt_or_ge n k with z | z; exact Or.inr (fun z2 => by omega); exact Or.inl (by omega))), by rw [← hR1]; exact hok1, hho2⟩) (by omega) (by omega) dX6_addShape_123
      · have hll1 := PVd_last hok1.1
        have ht01 := tot0_rng hok1.1
        have hg1 := goalF_rng (sh := sh) (sz := sz2) (r := R1) ht01
        refine k_aload_n hm hl 0 rfl dX6_addShape_61 ?_
        refine k_get (T := TX6) hm hw 0 0 i6 rfl rfl (by decide) (by decide +kernel) rfl dX6_addShape_62 ?_
        refine k_get (T := TX4) hm hw 1 4 i4 rfl rfl (by decide) (by decide +kernel) rfl dX6_addShape_65 ?_
        refine k_bipushN hm 40 dX6_addShape_68 rfl ?_
        refine k_icmpge (tgt := 121) hm dX6_addShape_70 (by decide) (by omega) (fun c_18 => ?_) (fun c_18 => ?_)
        · refine k_iload hm hl 4 rfl dX6_addShape_121 ?_
          exact k_iret (post := _) hm hQ rfl rfl hw (⟨n, K1, w1, _, _, _, _, _, _, _, _, _, _, _, _, _, _, rfl, by rw [hR1], hc 0 K1 w1 (shS_0 (by rcases Nat.lt_or_ge n k with z | z; exact Or.inr (fun z2 => by omega); exact Or.inl (by omega))), by rw [← hR1]; exact hok1, hho2⟩) (by omega) (by omega) dX6_addShape_123
        · refine k_aload_n hm hl 0 rfl dX6_addShape_73 ?_
          refine k_iload_n hm hl 1 rfl dX6_addShape_74 ?_
          refine k_iload_n hm hl 2 rfl dX6_addShape_75 ?_
          refine k_aload_n hm hl 0 rfl dX6_addShape_76 ?_
          refine k_get (T := TX6) hm hw 0 0 i6 rfl rfl (by decide) (by decide +kernel) rfl dX6_addShape_77 ?_
          refine k_get (T := TX4) hm hw 1 4 i4 rfl rfl (by decide) (by decide +kernel) rfl dX6_addShape_80 ?_
          refine k_callVr (n := 3) (As := [vN (sh), vN (sz2), vN (R1)]) (rest := []) hm hw hl (c_shapeGoal l G o h T L M P gk1 gw1 gt1 gy R1 sp K1 w1 y sh sz2 R1 (by first | assumption | omega) (by first | assumption | omega)) gX6_addShape_X6_shapeGoal rfl (by decide +kernel) ⟨by decide, by decide⟩ (ci := 6) rfl 0 rfl [0, 1, 2, 3, 4, 5, 6, 7, 8, 9] (by decide) rfl rfl rfl (by simp [Value.category]) ⟨by decide, by decide⟩ dX6_addShape_83 (fun v H locs hp hw => ?_)
          obtain rfl := hp
          refine W.eq (g2 := F0 m 86 ls [vN (goalF (sumM (K1 0) (w1 0)) sh sz2 R1)]) rfl ?_
          refine k_istore hm hl [(5, vN (goalF (sumM (K1 0) (w1 0)) sh sz2 R1)), (0, .ref (o)), (1, vN (sh)), (2, vN (sz2)), (3, vN (k)), (4, vN (n))] (by decide) rfl dX6_addShape_86 (fun ls hl => ?_)
          refine k_aload_n hm hl 1 rfl dX6_addShape_88 ?_
          refine k_get (T := TX6) hm hw 0 3 i6 rfl rfl (by decide) (by decide +kernel) rfl dX6_addShape_89 ?_
          refine k_aload_n hm hl 1 rfl dX6_addShape_92 ?_
          refine k_get (T := TX6) hm hw 0 0 i6 rfl rfl (by decide) (by decide +kernel) rfl dX6_addShape_93 ?_
          refine k_callVr (n := 0) (As := []) (rest := [.ref (L 0)]) hm hw hl (c_lastTotal l G P gk1 gw1 gt1 gy R1 sp K1 w1 y (by first | assumption | omega)) gX6_addShape_X4_lastTotal rfl (by decide +kernel) ⟨by decide, by decide⟩ (ci := 4) rfl 1 rfl [1, 2, 3, 4, 5, 6, 7, 8, 9] (by decide) rfl rfl rfl (by simp [Value.category]) ⟨by decide, by decide⟩ dX6_addShape_96 (fun v H locs hp hw => ?_)
          obtain rfl := hp
          refine W.eq (g2 := F0 m 99 ls [vN (sumM (K1 (R1 - 1)) (w1 (R1 - 1))), .ref (L 0)]) rfl ?_
          refine k_iload hm hl 0 rfl dX6_addShape_99 ?_
          refine k_callV (n := 2) (As := [vN (sumM (K1 (R1 - 1)) (w1 (R1 - 1))), vN (goalF (sumM (K1 0) (w1 0)) sh sz2 R1)]) (rest := []) (wr := [(o, .inr (6, [.ref (P 0), .ref (h), .ref (T 0), .ref (L 0), .ref (M 0)])), (P 0, .inr (4, [.ref (P 1), .ref (P 3), .ref (P 5), .ref (P 7), vN (R1), vB (sp)])), (P 1, .inr (2, [.ref (P 2)])), (P 2, .inl (G.2 0, 4800, .inl (nF gk1))), (P 3, .inr (2, [.ref (P 4)])), (P 4, .inl (G.2 0, 40, .inl (nF gw1))), (P 5, .inr (2, [.ref (P 6)])), (P 6, .inl (G.2 0, 40, .inl (nF gt1))), (P 7, .inr (2, [.ref (P 8)])), (P 8, .inl (G.2 0, 3, .inl (nF gy))), (h, .inr (0, [.ref (hs), vN ((nx + 1) % 4), vN (Nat.min (sz + 1) 4)])), (hs, .inl (G.2 2, 4, .inr (.inr (.inr (.inr (fun j => some (Q j 0))))))), ((Q 0) 0, .inr (4, [.ref ((Q 0) 1), .ref ((Q 0) 3), .ref ((Q 0) 5), .ref ((Q 0) 7), vN (aR2_14 0), vB (aS2_15 0)])), ((Q 0) 1, .inr (2, [.ref ((Q 0) 2)])), ((Q 0) 2, .inl (G.2 0, 4800, .inl (nF (ak2_10 0)))), ((Q 0) 3, .inr (2, [.ref ((Q 0) 4)])), ((Q 0) 4, .inl (G.2 0, 40, .inl (nF (aw2_11 0)))), ((Q 0) 5, .inr (2, [.ref ((Q 0) 6)])), ((Q 0) 6, .inl (G.2 0, 40, .inl (nF (au2_12 0)))), ((Q 0) 7, .inr (2, [.ref ((Q 0) 8)])), ((Q 0) 8, .inl (G.2 0, 3, .inl (nF (ay2_13 0)))), ((Q 1) 0, .inr (4, [.ref ((Q 1) 1), .ref ((Q 1) 3), .ref ((Q 1) 5), .ref ((Q 1) 7), vN (aR2_14 1), vB (aS2_15 1)])), ((Q 1) 1, .inr (2, [.ref ((Q 1) 2)])), ((Q 1) 2, .inl (G.2 0, 4800, .inl (nF (ak2_10 1)))), ((Q 1) 3, .inr (2, [.ref ((Q 1) 4)])), ((Q 1) 4, .inl (G.2 0, 40, .inl (nF (aw2_11 1)))), ((Q 1) 5, .inr (2, [.ref ((Q 1) 6)])), ((Q 1) 6, .inl (G.2 0, 40, .inl (nF (au2_12 1)))), ((Q 1) 7, .inr (2, [.ref ((Q 1) 8)])), ((Q 1) 8, .inl (G.2 0, 3, .inl (nF (ay2_13 1)))), ((Q 2) 0, .inr (4, [.ref ((Q 2) 1), .ref ((Q 2) 3), .ref ((Q 2) 5), .ref ((Q 2) 7), vN (aR2_14 2), vB (aS2_15 2)])), ((Q 2) 1, .inr (2, [.ref ((Q 2) 2)])), ((Q 2) 2, .inl (G.2 0, 4800, .inl (nF (ak2_10 2)))), ((Q 2) 3, .inr (2, [.ref ((Q 2) 4)])), ((Q 2) 4, .inl (G.2 0, 40, .inl (nF (aw2_11 2)))), ((Q 2) 5, .inr (2, [.ref ((Q 2) 6)])), ((Q 2) 6, .inl (G.2 0, 40, .inl (nF (au2_12 2)))), ((Q 2) 7, .inr (2, [.ref ((Q 2) 8)])), ((Q 2) 8, .inl (G.2 0, 3, .inl (nF (ay2_13 2)))), ((Q 3) 0, .inr (4, [.ref ((Q 3) 1), .ref ((Q 3) 3), .ref ((Q 3) 5), .ref ((Q 3) 7), vN (aR2_14 3), vB (aS2_15 3)])), ((Q 3) 1, .inr (2, [.ref ((Q 3) 2)])), ((Q 3) 2, .inl (G.2 0, 4800, .inl (nF (ak2_10 3)))), ((Q 3) 3, .inr (2, [.ref ((Q 3) 4)])), ((Q 3) 4, .inl (G.2 0, 40, .inl (nF (aw2_11 3)))), ((Q 3) 5, .inr (2, [.ref ((Q 3) 6)])), ((Q 3) 6, .inl (G.2 0, 40, .inl (nF (au2_12 3)))), ((Q 3) 7, .inr (2, [.ref ((Q 3) 8)])), ((Q 3) 8, .inl (G.2 0, 3, .inl (nF (ay2_13 3)))), (M 0, .inr (1, [.ref (M 1)])), (M 1, .inr (2, [.ref (M 2)])), (M 2, .inl (G.2 0, 120, .inl (nF mf1)))]) hm hw hl (c_spread l G L f1 wk1 sd1 kd1 (sumM (K1 (R1 - 1)) (w1 (R1 - 1))) (goalF (sumM (K1 0) (w1 0)) sh sz2 R1) (by first | assumption | omega)) gX6_addShape_X5_spread rfl (by decide +kernel) ⟨by decide, by decide⟩ (ci := 5) rfl 48 rfl [48, 49, 50] [0, 1, 2, 3, 4, 5, 6, 7, 8, 9, 10, 11, 12, 13, 14, 15, 16, 17, 18, 19, 20, 21, 22, 23, 24, 25, 26, 27, 28, 29, 30, 31, 32, 33, 34, 35, 36, 37, 38, 39, 40, 41, 42, 43, 44, 45, 46, 47, 51, 52, 53] (by decide) rfl rfl (by decide) (by decide) rfl rfl (by simp [Value.category]) ⟨by decide, by decide⟩ dX6_addShape_101 (fun v w1 H locs hp hw => ?_)
          obtain ⟨b_22, f2_23, rfl, rfl, hb_24, hf_25⟩ := hp
          have hw := hw.sub (ws' := wMain G o P h T L M ++ (wPiece G P gk1 gw1 gt1 gy R1 sp ++ (wHist G h hs Q ak2_10 aw2_11 au2_12 ay2_13 aR2_14 aS2_15 ((nx + 1) % 4) (Nat.min (sz + 1) 4) ++ (wPlan G L f2_23 (pm (sumM (K1 (R1 - 1)) (w1 (R1 - 1))) (goalF (sumM (K1 0) (w1 0)) sh sz2 R1)) (pd (sumM (K1 (R1 - 1)) (w1 (R1 - 1))) (goalF (sumM (K1 0) (w1 0)) sh sz2 R1)) (pk (sumM (K1 (R1 - 1)) (w1 (R1 - 1))) (goalF (sumM (K1 0) (w1 0)) sh sz2 R1)) ++ wMk G M mf1)))) [0, 1, 2, 3, 4, 5, 6, 7, 8, 9, 10, 11, 12, 13, 14, 15, 16, 17, 18, 19, 20, 21, 22, 23, 24, 25, 26, 27, 28, 29, 30, 31, 32, 33, 34, 35, 36, 37, 38, 39, 40, 41, 42, 43, 44, 45, 46, 47, 51, 52, 53, 48, 49, 50] (by decide) rfl
          refine W.eq (g2 := F0 m 104 ls [vB (b_22)]) rfl ?_
          have hbs := hb_24
          have hfs := hf_25
          refine k_ifneB (tgt := 110) hm dX6_addShape_104 (by decide) (fun c_26 => ?_) (fun c_26 => ?_)
          · have hpo1 := hbs.mp c_26
            refine k_aload_n hm hl 1 rfl dX6_addShape_110 ?_
            refine k_callV (n := 0) (As := []) (rest := []) (wr := [(h, .inr (0, [.ref (hs), vN ((nx + 1) % 4), vN (Nat.min (sz + 1) 4)])), (hs, .inl (G.2 2, 4, .inr (.inr (.inr (.inr (fun j => some (Q j 0))))))), ((Q 0) 0, .inr (4, [.ref ((Q 0) 1), .ref ((Q 0) 3), .ref ((Q 0) 5), .ref ((Q 0) 7), vN (aR2_14 0), vB (aS2_15 0)])), ((Q 0) 1, .inr (2, [.ref ((Q 0) 2)])), ((Q 0) 2, .inl (G.2 0, 4800, .inl (nF (ak2_10 0)))), ((Q 0) 3, .inr (2, [.ref ((Q 0) 4)])), ((Q 0) 4, .inl (G.2 0, 40, .inl (nF (aw2_11 0)))), ((Q 0) 5, .inr (2, [.ref ((Q 0) 6)])), ((Q 0) 6, .inl (G.2 0, 40, .inl (nF (au2_12 0)))), ((Q 0) 7, .inr (2, [.ref ((Q 0) 8)])), ((Q 0) 8, .inl (G.2 0, 3, .inl (nF (ay2_13 0)))), ((Q 1) 0, .inr (4, [.ref ((Q 1) 1), .ref ((Q 1) 3), .ref ((Q 1) 5), .ref ((Q 1) 7), vN (aR2_14 1), vB (aS2_15 1)])), ((Q 1) 1, .inr (2, [.ref ((Q 1) 2)])), ((Q 1) 2, .inl (G.2 0, 4800, .inl (nF (ak2_10 1)))), ((Q 1) 3, .inr (2, [.ref ((Q 1) 4)])), ((Q 1) 4, .inl (G.2 0, 40, .inl (nF (aw2_11 1)))), ((Q 1) 5, .inr (2, [.ref ((Q 1) 6)])), ((Q 1) 6, .inl (G.2 0, 40, .inl (nF (au2_12 1)))), ((Q 1) 7, .inr (2, [.ref ((Q 1) 8)])), ((Q 1) 8, .inl (G.2 0, 3, .inl (nF (ay2_13 1)))), ((Q 2) 0, .inr (4, [.ref ((Q 2) 1), .ref ((Q 2) 3), .ref ((Q 2) 5), .ref ((Q 2) 7), vN (aR2_14 2), vB (aS2_15 2)])), ((Q 2) 1, .inr (2, [.ref ((Q 2) 2)])), ((Q 2) 2, .inl (G.2 0, 4800, .inl (nF (ak2_10 2)))), ((Q 2) 3, .inr (2, [.ref ((Q 2) 4)])), ((Q 2) 4, .inl (G.2 0, 40, .inl (nF (aw2_11 2)))), ((Q 2) 5, .inr (2, [.ref ((Q 2) 6)])), ((Q 2) 6, .inl (G.2 0, 40, .inl (nF (au2_12 2)))), ((Q 2) 7, .inr (2, [.ref ((Q 2) 8)])), ((Q 2) 8, .inl (G.2 0, 3, .inl (nF (ay2_13 2)))), ((Q 3) 0, .inr (4, [.ref ((Q 3) 1), .ref ((Q 3) 3), .ref ((Q 3) 5), .ref ((Q 3) 7), vN (aR2_14 3), vB (aS2_15 3)])), ((Q 3) 1, .inr (2, [.ref ((Q 3) 2)])), ((Q 3) 2, .inl (G.2 0, 4800, .inl (nF (ak2_10 3)))), ((Q 3) 3, .inr (2, [.ref ((Q 3) 4)])), ((Q 3) 4, .inl (G.2 0, 40, .inl (nF (aw2_11 3)))), ((Q 3) 5, .inr (2, [.ref ((Q 3) 6)])), ((Q 3) 6, .inl (G.2 0, 40, .inl (nF (au2_12 3)))), ((Q 3) 7, .inr (2, [.ref ((Q 3) 8)])), ((Q 3) 8, .inl (G.2 0, 3, .inl (nF (ay2_13 3))))]) hm hw hl (c_addBest l G o h T M mf1 P gk1 gw1 gt1 gy R1 sp L f2_23 (pd (sumM (K1 (R1 - 1)) (w1 (R1 - 1))) (goalF (sumM (K1 0) (w1 0)) sh sz2 R1)) (pk (sumM (K1 (R1 - 1)) (w1 (R1 - 1))) (goalF (sumM (K1 0) (w1 0)) sh sz2 R1)) K1 w1 y (sumM (K1 (R1 - 1)) (w1 (R1 - 1))) (goalF (sumM (K1 0) (w1 0)) sh sz2 R1) (by first | assumption | omega) (by first | assumption | omega) (by omega) rfl hpo1 (hfs hpo1)) gX6_addShape_X6_addBest rfl (by decide +kernel) ⟨by decide, by decide⟩ (ci := 6) rfl 0 rfl [0, 1, 2, 3, 4, 5, 6, 7, 8, 9, 48, 49, 50, 51, 52, 53] [10, 11, 12, 13, 14, 15, 16, 17, 18, 19, 20, 21, 22, 23, 24, 25, 26, 27, 28, 29, 30, 31, 32, 33, 34, 35, 36, 37, 38, 39, 40, 41, 42, 43, 44, 45, 46, 47] (by decide) rfl rfl (by decide) (by decide) rfl rfl (by simp [Value.category]) ⟨by decide, by decide⟩ dX6_addShape_111 (fun v w1 H locs hp hw => ?_)
            obtain ⟨b_28, gk2_29, gw2_30, gt2_31, mf2_32, rfl, rfl, hb_33, hok2_34⟩ := hp
            have hw := hw.sub (ws' := wMain G o P h T L M ++ (wPiece G P gk2_29 gw2_30 gt2_31 gy (R1 + 1) sp ++ (wHist G h hs Q ak2_10 aw2_11 au2_12 ay2_13 aR2_14 aS2_15 ((nx + 1) % 4) (Nat.min (sz + 1) 4) ++ (wPlan G L f2_23 (pm (sumM (K1 (R1 - 1)) (w1 (R1 - 1))) (goalF (sumM (K1 0) (w1 0)) sh sz2 R1)) (pd (sumM (K1 (R1 - 1)) (w1 (R1 - 1))) (goalF (sumM (K1 0) (w1 0)) sh sz2 R1)) (pk (sumM (K1 (R1 - 1)) (w1 (R1 - 1))) (goalF (sumM (K1 0) (w1 0)) sh sz2 R1)) ++ wMk G M mf2_32)))) [38, 39, 40, 41, 42, 43, 44, 45, 46, 47, 0, 1, 2, 3, 4, 5, 6, 7, 8, 9, 10, 11, 12, 13, 14, 15, 16, 17, 18, 19, 20, 21, 22, 23, 24, 25, 26, 27, 28, 29, 30, 31, 32, 33, 34, 35, 36, 37, 48, 49, 50, 51, 52, 53] (by decide) rfl
            refine W.eq (g2 := F0 m 114 ls [vN (b_28)]) rfl ?_
            have hb9 := hb_33
            have hok9 := hok2_34
            refine k_pop hm dX6_addShape_114 rfl ?_
            refine k_iincN hm hl 5 1 rfl [(4, vN (n + 1)), (5, vN (goalF (sumM (K1 0) (w1 0)) sh sz2 R1)), (0, .ref (o)), (1, vN (sh)), (2, vN (sz2)), (3, vN (k))] (by decide) rfl dX6_addShape_115 (fun ls hl => ?_)
            refine k_goto (tgt := 55) hm dX6_addShape_118 (by decide) ?_
            exact ih_55  (n + 1) gk2_29 gw2_30 gt2_31 (R1 + 1) f2_23 (pm (sumM (K1 (R1 - 1)) (w1 (R1 - 1))) (goalF (sumM (K1 0) (w1 0)) sh sz2 R1)) (pd (sumM (K1 (R1 - 1)) (w1 (R1 - 1))) (goalF (sumM (K1 0) (w1 0)) sh sz2 R1)) (pk (sumM (K1 (R1 - 1)) (w1 (R1 - 1))) (goalF (sumM (K1 0) (w1 0)) sh sz2 R1)) mf2_32 (fup K1 R1 (spR (sumM (K1 (R1 - 1)) (w1 (R1 - 1))) (goalF (sumM (K1 0) (w1 0)) sh sz2 R1) b_28)) (fup w1 R1 (pm (sumM (K1 (R1 - 1)) (w1 (R1 - 1))) (goalF (sumM (K1 0) (w1 0)) sh sz2 R1))) (by first | assumption | omega) (by omega) hok9 (by
                              intro c2 K2 w2 z
                              have z2 := hc (c2 + 1) K2 w2 (by
                                rw [show k - n = (k - (n + 1)) + 1 by omega]
                                exact Or.inr ⟨by omega, hpo1, b_28, c2, hb9, rfl, z⟩)
                              rw [show n + 1 + c2 = n + (c2 + 1) by omega]
                              exact z2) _ _ _ (by omega) hw (lv_sub hl [2, 3, 4, 5, 0] rfl)
          · have hno1 : ¬ isPo (sumM (K1 (R1 - 1)) (w1 (R1 - 1))) (goalF (sumM (K1 0) (w1 0)) sh sz2 R1) := fun q => by rw [hbs.mpr q] at c_26; cases c_26
            refine k_iload hm hl 5 rfl dX6_addShape_107 ?_
            exact k_iret (post := _) hm hQ rfl rfl hw (⟨n, K1, w1, _, _, _, _, _, _, _, _, _, _, _, _, _, _, rfl, by rw [hR1], hc 0 K1 w1 (shS_0 (Or.inr (fun z => hno1 z.2))), by rw [← hR1]; exact hok1, hho2⟩) (by omega) (by omega) dX6_addShape_109
  exact loop_55 (k - 0 + 1) 0 gk gw gt R f wk sd kd mf K w (by first | assumption | omega) rfl hok (fun c2 K2 w2 z => by rw [Nat.zero_add]; exact z) _ _ _ (Nat.lt_succ_self _) hw (lv_sub hl [1, 2, 3, 4, 0] rfl)
