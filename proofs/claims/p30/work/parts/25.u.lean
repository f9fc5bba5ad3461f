set_option maxHeartbeats 4000000 in
set_option maxRecDepth 100000 in
theorem c_l_total (l : Launch) (G : kG) (ma : Nat) (mg : Nat → Nat) (wa : Nat) (wf : Nat → Int64) (r : Nat) (k : Nat → Nat) (n : Nat) (hm1 : mg r = n) (hrw : RwB wf r k n) (hr : r ≤ 15) : kCR l yL_total wsL_total 1 22 G [.ref (ma), .ref (wa), vN (r)] ([(ma, .inl (G.2 0, 16, .inl (nF mg)))] ++ [(wa, .inl (G.2 1, 64, .inr (.inl wf)))]) (fun vv => vv = some (vN (sumM k n))) := by
  refine kCM.of (cc := cL_total) (maxL := 5) (ret := (some .int)) (by decide) rfl (Nat.le_of_ble_eq_true rfl) ?_
  intro p e s m args below meth c A ls Qz hQ hin hm hw hl
  have hl : lv_has ls 5 [(0, .ref (ma)), (1, .ref (wa)), (2, vN (r))] := hl
  have hn := hrw.1
  refine k_aload_n hm hl 0 rfl dL_total_0 ?_
  refine k_iload_n hm hl 2 rfl dL_total_1 ?_
  refine k_ialdN hm hw 0 rfl (by omega) dL_total_2 ?_
  refine k_rwV (y := vN (n)) (by rw [hm1]) ?_
  refine k_istore_n hm hl [(3, vN (n)), (0, .ref (ma)), (1, .ref (wa)), (2, vN (r))] (by decide) rfl dL_total_3 (fun ls hl => ?_)
  refine k_iconstN hm 0 dL_total_4 ?_
  refine k_istore hm hl [(4, vN (0)), (3, vN (n)), (0, .ref (ma)), (1, .ref (wa)), (2, vN (r))] (by decide) rfl dL_total_5 (fun ls hl => ?_)
  have loop_7 : ∀ (fu : Nat) (t : Nat) (i : Nat) (hi : i ≤ n) (ht : t = n + cnt k 1 i) (H : Heap) (locs : List Loc) (ls : Array Slot), n - i < fu → kW G A s ([(ma, .inl (G.2 0, 16, .inl (nF mg)))] ++ [(wa, .inl (G.2 1, 64, .inr (.inl wf)))]) H locs → lv_has ls 5 [(0, .ref (ma)), (1, .ref (wa)), (2, vN (r)), (3, vN (t)), (4, vN (i))] → W p l e { frames := 1, cells := 0, slots := 0, locals := 22 } s m args below meth c H locs 0 0 Qz (F0 m 7 ls []) := by
    intro fu
    induction fu with
    | zero => intro t i hi ht H locs ls hfu; exact absurd hfu (Nat.not_lt_zero _)
    | succ fu ih_7 =>
      intro t i hi ht H locs ls hfu hw hl
      refine k_iload hm hl 4 rfl dL_total_7 ?_
      refine k_aload_n hm hl 0 rfl dL_total_9 ?_
      refine k_iload_n hm hl 2 rfl dL_total_10 ?_
      refine k_ialdN hm hw 0 rfl (by omega) dL_total_11 ?_
      refine k_rwV (y := vN (n)) (by rw [hm1]) ?_
      refine k_icmpge (tgt := 40) hm dL_total_12 (by decide) (by omega) (fun c_1 => ?_) (fun c_1 => ?_)
      · refine k_iload_n hm hl 3 rfl dL_total_40 ?_
        exact k_iret (post := _) hm hQ rfl rfl hw (⟨by rw [ht, show i = n by omega, ← sumM_cnt], rfl⟩) (by omega) (by omega) dL_total_41
      · have hci := cnt_le k 1 i
        have hk2 := (hrw.2 i (by omega)).1
        refine k_iload_n hm hl 3 rfl dL_total_15 ?_
        refine k_aload_n hm hl 1 rfl dL_total_16 ?_
        refine k_iload_n hm hl 2 rfl dL_total_17 ?_
        refine k_iload hm hl 4 rfl dL_total_18 ?_
        refine k_callSr (n := 3) (As := [.ref (wa), vN (r), vN (i)]) (rest := [vN (t)]) hm hw hl (c_l_kind l G wa wf r i k n (by first | assumption | omega) (by first | assumption | omega) (by first | assumption | omega)) gL_total_L_kind rfl (by decide +kernel) ⟨by decide, by decide⟩ [1] (by decide) rfl rfl rfl (by simp [Value.category]) ⟨by decide, by decide⟩ dL_total_20 (fun v H locs hp hw => ?_)
        obtain rfl := hp
        refine W.eq (g2 := F0 m 23 ls [vN (k i), vN (t)]) rfl ?_
        refine k_iconstN hm 1 dL_total_23 ?_
        refine k_icmpne (tgt := 31) hm dL_total_24 (by decide) (by omega) (fun c_3 => ?_) (fun c_3 => ?_)
        · refine k_iconstN hm 0 dL_total_31 ?_
          refine k_iaddN hm dL_total_32 ?_
          refine k_istore_n hm hl [(3, vN (t + 0)), (0, .ref (ma)), (1, .ref (wa)), (2, vN (r)), (4, vN (i))] (by decide) rfl dL_total_33 (fun ls hl => ?_)
          refine k_iincN hm hl 4 1 rfl [(4, vN (i + 1)), (3, vN (t + 0)), (0, .ref (ma)), (1, .ref (wa)), (2, vN (r))] (by decide) rfl dL_total_34 (fun ls hl => ?_)
          refine k_goto (tgt := 7) hm dL_total_37 (by decide) ?_
          exact ih_7  (t + 0) (i + 1) (by first | assumption | omega) (by simp only [cnt]; rw [if_neg (by omega)]; omega) _ _ _ (by omega) hw (lv_sub hl [2, 3, 4, 1, 0] rfl)
        · refine k_iconstN hm 1 dL_total_27 ?_
          refine k_goto (tgt := 32) hm dL_total_28 (by decide) ?_
          refine k_iaddN hm dL_total_32 ?_
          refine k_istore_n hm hl [(3, vN (t + 1)), (0, .ref (ma)), (1, .ref (wa)), (2, vN (r)), (4, vN (i))] (by decide) rfl dL_total_33 (fun ls hl => ?_)
          refine k_iincN hm hl 4 1 rfl [(4, vN (i + 1)), (3, vN (t + 1)), (0, .ref (ma)), (1, .ref (wa)), (2, vN (r))] (by decide) rfl dL_total_34 (fun ls hl => ?_)
          refine k_goto (tgt := 7) hm dL_total_37 (by decide) ?_
          exact ih_7  (t + 1) (i + 1) (by first | assumption | omega) (by simp only [cnt]; rw [if_pos (by omega)]; omega) _ _ _ (by omega) hw (lv_sub hl [2, 3, 4, 1, 0] rfl)
  exact loop_7 (n - 0 + 1) n 0 (by first | assumption | omega) rfl _ _ _ (Nat.lt_succ_self _) hw (lv_sub hl [2, 3, 4, 1, 0] rfl)
set_option maxHeartbeats 4000000 in
set_option maxRecDepth 100000 in
theorem c_l_isMade (l : Launch) (G : kG) (ma : Nat) (mg : Nat → Nat) (wa : Nat) (wf : Nat → Int64) (r : Nat) (x : Nat) (kd : Nat) (k : Nat → Nat) (n : Nat) (hm1 : mg r = n) (hrw : RwB wf r k n) (hr : r ≤ 15) (hx : x < sumM k n) (hkd : kd ≤ 2) : kCR l yL_isMade wsL_isMade 1 22 G [.ref (ma), .ref (wa), vN (r), vN (x), vN (kd)] ([(ma, .inl (G.2 0, 16, .inl (nF mg)))] ++ [(wa, .inl (G.2 1, 64, .inr (.inl wf)))]) (fun vv => vv = some (vB (decide (mkF k n x = kd)))) := by
  refine kCM.of (cc := cL_isMade) (maxL := 8) (ret := (some .boolean)) (by decide) rfl (Nat.le_of_ble_eq_true rfl) ?_
  intro p e s m args below meth c A ls Qz hQ hin hm hw hl
  have hl : lv_has ls 8 [(0, .ref (ma)), (1, .ref (wa)), (2, vN (r)), (3, vN (x)), (4, vN (kd))] := hl
  have hn := hrw.1
  refine k_iconstN hm 0 dL_isMade_0 ?_
  refine k_istore hm hl [(5, vN (0)), (0, .ref (ma)), (1, .ref (wa)), (2, vN (r)), (3, vN (x)), (4, vN (kd))] (by decide) rfl dL_isMade_1 (fun ls hl => ?_)
  refine k_iconstN hm 0 dL_isMade_3 ?_
  refine k_istore hm hl [(6, vN (0)), (5, vN (0)), (0, .ref (ma)), (1, .ref (wa)), (2, vN (r)), (3, vN (x)), (4, vN (kd))] (by decide) rfl dL_isMade_4 (fun ls hl => ?_)
  have loop_6 : ∀ (fu : Nat) (t : Nat) (i : Nat) (hi : i ≤ n) (ht : t = sumM k i) (hs : t ≤ x) (H : Heap) (locs : List Loc) (ls : Array Slot), n - i < fu → kW G A s ([(ma, .inl (G.2 0, 16, .inl (nF mg)))] ++ [(wa, .inl (G.2 1, 64, .inr (.inl wf)))]) H locs → lv_has ls 8 [(0, .ref (ma)), (1, .ref (wa)), (2, vN (r)), (3, vN (x)), (4, vN (kd)), (5, vN (t)), (6, vN (i))] → W p l e { frames := 1, cells := 0, slots := 0, locals := 22 } s m args below meth c H locs 0 0 Qz (F0 m 6 ls []) := by
    intro fu
    induction fu with
    | zero => intro t i hi ht hs H locs ls hfu; exact absurd hfu (Nat.not_lt_zero _)
    | succ fu ih_6 =>
      intro t i hi ht hs H locs ls hfu hw hl
      refine k_iload hm hl 6 rfl dL_isMade_6 ?_
      refine k_aload_n hm hl 0 rfl dL_isMade_8 ?_
      refine k_iload_n hm hl 2 rfl dL_isMade_9 ?_
      refine k_ialdN hm hw 0 rfl (by omega) dL_isMade_10 ?_
      refine k_rwV (y := vN (n)) (by rw [hm1]) ?_
      refine k_icmpge (tgt := 78) hm dL_isMade_11 (by decide) (by omega) (fun c_1 => False.elim (by
                              have q : i = n := by omega
                              rw [q] at ht
                              omega)) (fun c_1 => ?_)
      have h9 := mdB_le (k i)
      have h8 := sumM_le2 k n
      have hk2 := (hrw.2 i (by omega)).1
      refine k_aload_n hm hl 1 rfl dL_isMade_14 ?_
      refine k_iload_n hm hl 2 rfl dL_isMade_15 ?_
      refine k_iload hm hl 6 rfl dL_isMade_16 ?_
      refine k_callSr (n := 3) (As := [.ref (wa), vN (r), vN (i)]) (rest := []) hm hw hl (c_l_kind l G wa wf r i k n (by first | assumption | omega) (by first | assumption | omega) (by first | assumption | omega)) gL_isMade_L_kind rfl (by decide +kernel) ⟨by decide, by decide⟩ [1] (by decide) rfl rfl rfl (by simp [Value.category]) ⟨by decide, by decide⟩ dL_isMade_18 (fun v H locs hp hw => ?_)
      obtain rfl := hp
      refine W.eq (g2 := F0 m 21 ls [vN (k i)]) rfl ?_
      refine k_iconstN hm 1 dL_isMade_21 ?_
      refine k_icmpne (tgt := 29) hm dL_isMade_22 (by decide) (by omega) (fun c_3 => ?_) (fun c_3 => ?_)
      · refine k_iconstN hm 1 dL_isMade_29 ?_
        refine k_rwV (y := vN (mdB (k i))) (by unfold mdB; rw [if_neg (by omega)]) ?_
        refine k_istore hm hl [(7, vN (mdB (k i))), (0, .ref (ma)), (1, .ref (wa)), (2, vN (r)), (3, vN (x)), (4, vN (kd)), (5, vN (t)), (6, vN (i))] (by decide) rfl dL_isMade_30 (fun ls hl => ?_)
        refine k_iload_n hm hl 4 rfl dL_isMade_32 ?_
        refine k_iload hm hl 6 rfl dL_isMade_33 ?_
        refine k_icmplt (tgt := 65) hm dL_isMade_35 (by decide) (by omega) (fun c_4 => absurd c_4 (by omega)) (fun c_4 => ?_)
        refine k_iload_n hm hl 4 rfl dL_isMade_38 ?_
        refine k_iload hm hl 6 rfl dL_isMade_39 ?_
        refine k_iload hm hl 0 rfl dL_isMade_41 ?_
        refine k_iaddN hm dL_isMade_43 ?_
        refine k_icmpge (tgt := 65) hm dL_isMade_44 (by decide) (by omega) (fun c_5 => ?_) (fun c_5 => ?_)
        · refine k_iload hm hl 6 rfl dL_isMade_65 ?_
          refine k_iload hm hl 0 rfl dL_isMade_67 ?_
          refine k_iaddN hm dL_isMade_69 ?_
          refine k_istore hm hl [(5, vN (t + (mdB (k i)))), (7, vN (mdB (k i))), (0, .ref (ma)), (1, .ref (wa)), (2, vN (r)), (3, vN (x)), (4, vN (kd)), (6, vN (i))] (by decide) rfl dL_isMade_70 (fun ls hl => ?_)
          refine k_iincN hm hl 7 1 rfl [(6, vN (i + 1)), (5, vN (t + (mdB (k i)))), (7, vN (mdB (k i))), (0, .ref (ma)), (1, .ref (wa)), (2, vN (r)), (3, vN (x)), (4, vN (kd))] (by decide) rfl dL_isMade_72 (fun ls hl => ?_)
          refine k_goto (tgt := 6) hm dL_isMade_75 (by decide) ?_
          exact ih_6  (t + (mdB (k i))) (i + 1) (by first | assumption | omega) (by simp only [sumM]; omega) (by omega) _ _ _ (by omega) hw (lv_sub hl [3, 4, 5, 6, 7, 1, 0] rfl)
        · have hmk : mkF k n x = k i := mkF_ok k n i (by omega) x (by omega) (by simp only [sumM]; omega)
          refine k_aload_n hm hl 2 rfl dL_isMade_47 ?_
          refine k_iload_n hm hl 3 rfl dL_isMade_48 ?_
          refine k_iload hm hl 7 rfl dL_isMade_49 ?_
          refine k_callSr (n := 3) (As := [.ref (wa), vN (r), vN (i)]) (rest := []) hm hw hl (c_l_kind l G wa wf r i k n (by first | assumption | omega) (by first | assumption | omega) (by first | assumption | omega)) gL_isMade_L_kind rfl (by decide +kernel) ⟨by decide, by decide⟩ [1] (by decide) rfl rfl rfl (by simp [Value.category]) ⟨by decide, by decide⟩ dL_isMade_51 (fun v H locs hp hw => ?_)
          obtain rfl := hp
          refine W.eq (g2 := F0 m 54 ls [vN (k i)]) rfl ?_
          refine k_iload hm hl 5 rfl dL_isMade_54 ?_
          refine k_icmpne (tgt := 63) hm dL_isMade_56 (by decide) (by omega) (fun c_7 => ?_) (fun c_7 => ?_)
          · refine k_iconstN hm 0 dL_isMade_63 ?_
            exact k_iret (post := _) hm hQ rfl (kN_bool false) hw (⟨(congrArg (fun b => some (vB b)) (decide_eq_false (by omega))).symm, rfl⟩) (by omega) (by omega) dL_isMade_64
          · refine k_iconstN hm 1 dL_isMade_59 ?_
            refine k_goto (tgt := 64) hm dL_isMade_60 (by decide) ?_
            exact k_iret (post := _) hm hQ rfl (kN_bool true) hw (⟨(congrArg (fun b => some (vB b)) (decide_eq_true (by omega))).symm, rfl⟩) (by omega) (by omega) dL_isMade_64
      · refine k_iconstN hm 2 dL_isMade_25 ?_
        refine k_goto (tgt := 30) hm dL_isMade_26 (by decide) ?_
        refine k_rwV (y := vN (mdB (k i))) (by unfold mdB; rw [if_pos (by omega)]) ?_
        refine k_istore hm hl [(7, vN (mdB (k i))), (0, .ref (ma)), (1, .ref (wa)), (2, vN (r)), (3, vN (x)), (4, vN (kd)), (5, vN (t)), (6, vN (i))] (by decide) rfl dL_isMade_30 (fun ls hl => ?_)
        refine k_iload_n hm hl 4 rfl dL_isMade_32 ?_
        refine k_iload hm hl 6 rfl dL_isMade_33 ?_
        refine k_icmplt (tgt := 65) hm dL_isMade_35 (by decide) (by omega) (fun c_8 => absurd c_8 (by omega)) (fun c_8 => ?_)
        refine k_iload_n hm hl 4 rfl dL_isMade_38 ?_
        refine k_iload hm hl 6 rfl dL_isMade_39 ?_
        refine k_iload hm hl 0 rfl dL_isMade_41 ?_
        refine k_iaddN hm dL_isMade_43 ?_
        refine k_icmpge (tgt := 65) hm dL_isMade_44 (by decide) (by omega) (fun c_9 => ?_) (fun c_9 => ?_)
        · refine k_iload hm hl 6 rfl dL_isMade_65 ?_
          refine k_iload hm hl 0 rfl dL_isMade_67 ?_
          refine k_iaddN hm dL_isMade_69 ?_
          refine k_istore hm hl [(5, vN (t + (mdB (k i)))), (7, vN (mdB (k i))), (0, .ref (ma)), (1, .ref (wa)), (2, vN (r)), (3, vN (x)), (4, vN (kd)), (6, vN (i))] (by decide) rfl dL_isMade_70 (fun ls hl => ?_)
          refine k_iincN hm hl 7 1 rfl [(6, vN (i + 1)), (5, vN (t + (mdB (k i)))), (7, vN (mdB (k i))), (0, .ref (ma)), (1, .ref (wa)), (2, vN (r)), (3, vN (x)), (4, vN (kd))] (by decide) rfl dL_isMade_72 (fun ls hl => ?_)
          refine k_goto (tgt := 6) hm dL_isMade_75 (by decide) ?_
          exact ih_6  (t + (mdB (k i))) (i + 1) (by first | assumption | omega) (by simp only [sumM]; omega) (by omega) _ _ _ (by omega) hw (lv_sub hl [3, 4, 5, 6, 7, 1, 0] rfl)
        · have hmk : mkF k n x = k i := mkF_ok k n i (by omega) x (by omega) (by simp only [sumM]; omega)
          refine k_aload_n hm hl 2 rfl dL_isMade_47 ?_
          refine k_iload_n hm hl 3 rfl dL_isMade_48 ?_
          refine k_iload hm hl 7 rfl dL_isMade_49 ?_
          refine k_callSr (n := 3) (As := [.ref (wa), vN (r), vN (i)]) (rest := []) hm hw hl (c_l_kind l G wa wf r i k n (by first | assumption | omega) (by first | assumption | omega) (by first | assumption | omega)) gL_isMade_L_kind rfl (by decide +kernel) ⟨by decide, by decide⟩ [1] (by decide) rfl rfl rfl (by simp [Value.category]) ⟨by decide, by decide⟩ dL_isMade_51 (fun v H locs hp hw => ?_)
          obtain rfl := hp
          refine W.eq (g2 := F0 m 54 ls [vN (k i)]) rfl ?_
          refine k_iload hm hl 5 rfl dL_isMade_54 ?_
          refine k_icmpne (tgt := 63) hm dL_isMade_56 (by decide) (by omega) (fun c_11 => ?_) (fun c_11 => ?_)
          · refine k_iconstN hm 0 dL_isMade_63 ?_
            exact k_iret (post := _) hm hQ rfl (kN_bool false) hw (⟨(congrArg (fun b => some (vB b)) (decide_eq_false (by omega))).symm, rfl⟩) (by omega) (by omega) dL_isMade_64
          · refine k_iconstN hm 1 dL_isMade_59 ?_
            refine k_goto (tgt := 64) hm dL_isMade_60 (by decide) ?_
            exact k_iret (post := _) hm hQ rfl (kN_bool true) hw (⟨(congrArg (fun b => some (vB b)) (decide_eq_true (by omega))).symm, rfl⟩) (by omega) (by omega) dL_isMade_64
  exact loop_6 (n - 0 + 1) 0 0 (by first | assumption | omega) rfl (by first | assumption | omega) _ _ _ (Nat.lt_succ_self _) hw (lv_sub hl [2, 3, 4, 5, 6, 1, 0] rfl)
set_option maxHeartbeats 4000000 in
set_option maxRecDepth 100000 in
theorem c_l_stacked (l : Launch) (G : kG) (ma : Nat) (mg : Nat → Nat) (wa : Nat) (wf : Nat → Int64) (r : Nat) (k : Nat → Nat) (n : Nat) (k0 : Nat → Nat) (n0 : Nat) (hm1 : mg r = n) (hrw : RwB wf r k n) (hr : r ≤ 15) (hp : r = 0 ∨ (mg (r - 1) = n0 ∧ RwB wf (r - 1) k0 n0 ∧ sumU k n = sumM k0 n0 ∧ sumM k0 n0 ≤ 120)) : kCR l yL_stacked wsL_stacked 2 49 G [.ref (ma), .ref (wa), vN (r)] ([(ma, .inl (G.2 0, 16, .inl (nF mg)))] ++ [(wa, .inl (G.2 1, 64, .inr (.inl wf)))]) (fun vv => vv = some (vN (if r = 0 then 0 else nstk (mkF k0 n0) k n))) := by
  refine kCM.of (cc := cL_stacked) (maxL := 7) (ret := (some .int)) (by decide) rfl (Nat.le_of_ble_eq_true rfl) ?_
  intro p e s m args below meth c A ls Qz hQ hin hm hw hl
  have hl : lv_has ls 7 [(0, .ref (ma)), (1, .ref (wa)), (2, vN (r))] := hl
  have hn := hrw.1
  refine k_iconstN hm 0 dL_stacked_0 ?_
  refine k_istore_n hm hl [(3, vN (0)), (0, .ref (ma)), (1, .ref (wa)), (2, vN (r))] (by decide) rfl dL_stacked_1 (fun ls hl => ?_)
  refine k_iconstN hm 0 dL_stacked_2 ?_
  refine k_istore hm hl [(4, vN (0)), (3, vN (0)), (0, .ref (ma)), (1, .ref (wa)), (2, vN (r))] (by decide) rfl dL_stacked_3 (fun ls hl => ?_)
  refine k_iconstN hm 0 dL_stacked_5 ?_
  refine k_istore hm hl [(5, vN (0)), (4, vN (0)), (3, vN (0)), (0, .ref (ma)), (1, .ref (wa)), (2, vN (r))] (by decide) rfl dL_stacked_6 (fun ls hl => ?_)
  have loop_8 : ∀ (fu : Nat) (cn : Nat) (t : Nat) (i : Nat) (hi : i ≤ n ∧ (r = 0 → i = 0)) (hc : cn = nstk (mkF k0 n0) k i) (ht : t = sumU k i) (H : Heap) (locs : List Loc) (ls : Array Slot), n - i < fu → kW G A s ([(ma, .inl (G.2 0, 16, .inl (nF mg)))] ++ [(wa, .inl (G.2 1, 64, .inr (.inl wf)))]) H locs → lv_has ls 7 [(0, .ref (ma)), (1, .ref (wa)), (2, vN (r)), (3, vN (cn)), (4, vN (t)), (5, vN (i))] → W p l e { frames := 2, cells := 0, slots := 0, locals := 49 } s m args below meth c H locs 0 0 Qz (F0 m 8 ls []) := by
    intro fu
    induction fu with
    | zero => intro cn t i hi hc ht H locs ls hfu; exact absurd hfu (Nat.not_lt_zero _)
    | succ fu ih_8 =>
      intro cn t i hi hc ht H locs ls hfu hw hl
      refine k_iload hm hl 5 rfl dL_stacked_8 ?_
      refine k_aload_n hm hl 0 rfl dL_stacked_10 ?_
      refine k_iload_n hm hl 2 rfl dL_stacked_11 ?_
      refine k_ialdN hm hw 0 rfl (by omega) dL_stacked_12 ?_
      refine k_rwV (y := vN (n)) (by rw [hm1]) ?_
      refine k_icmpge (tgt := 110) hm dL_stacked_13 (by decide) (by omega) (fun c_1 => ?_) (fun c_1 => ?_)
      · refine k_iload_n hm hl 3 rfl dL_stacked_110 ?_
        exact k_iret (post := _) hm hQ rfl rfl hw (⟨by rw [hc]; by_cases q : r = 0; rw [if_pos q, hi.2 q]; rfl; rw [if_neg q, show i = n by omega], rfl⟩) (by omega) (by omega) dL_stacked_111
      · refine k_iload_n hm hl 2 rfl dL_stacked_16 ?_
        refine k_ifle (tgt := 110) hm dL_stacked_17 (by decide) (by omega) (fun c_2 => ?_) (fun c_2 => ?_)
        · refine k_iload_n hm hl 3 rfl dL_stacked_110 ?_
          exact k_iret (post := _) hm hQ rfl rfl hw (⟨by rw [if_pos (by omega), hc, (show i = 0 by omega)]; rfl, rfl⟩) (by omega) (by omega) dL_stacked_111
        · obtain ⟨p1, p2, p3, p4⟩ := hp.resolve_left (by omega)
          have hk2 := (hrw.2 i (by omega)).1
          have hs1 := sumU_mono k (show i + 1 ≤ n by omega)
          have hs2 : sumU k (i + 1) = sumU k i + usB (k i) := rfl
          have hu1 := usB_le (k i)
          have hu2 : k i = 2 → usB (k i) = 2 := fun q => by rw [q]; rfl
          have hnl := nstk_le (mkF k0 n0) k i
          refine k_aload_n hm hl 1 rfl dL_stacked_20 ?_
          refine k_iload_n hm hl 2 rfl dL_stacked_21 ?_
          refine k_iload hm hl 5 rfl dL_stacked_22 ?_
          refine k_callSr (n := 3) (As := [.ref (wa), vN (r), vN (i)]) (rest := []) hm hw hl (c_l_kind l G wa wf r i k n (by first | assumption | omega) (by first | assumption | omega) (by first | assumption | omega)) gL_stacked_L_kind rfl (by decide +kernel) ⟨by decide, by decide⟩ [1] (by decide) rfl rfl rfl (by simp [Value.category]) ⟨by decide, by decide⟩ dL_stacked_24 (fun v H locs hp hw => ?_)
          obtain rfl := hp
          refine W.eq (g2 := F0 m 27 ls [vN (k i)]) rfl ?_
          refine k_istore hm hl [(6, vN (k i)), (0, .ref (ma)), (1, .ref (wa)), (2, vN (r)), (3, vN (cn)), (4, vN (t)), (5, vN (i))] (by decide) rfl dL_stacked_27 (fun ls hl => ?_)
          refine k_iload hm hl 0 rfl dL_stacked_29 ?_
          refine k_iconstN hm 1 dL_stacked_31 ?_
          refine k_icmpne (tgt := 49) hm dL_stacked_32 (by decide) (by omega) (fun c_4 => ?_) (fun c_4 => ?_)
          · refine k_iload hm hl 0 rfl dL_stacked_49 ?_
            refine k_iconstN hm 2 dL_stacked_51 ?_
            refine k_icmpne (tgt := 88) hm dL_stacked_52 (by decide) (by omega) (fun c_5 => ?_) (fun c_5 => ?_)
            · refine k_iload hm hl 5 rfl dL_stacked_88 ?_
              refine k_iload hm hl 0 rfl dL_stacked_90 ?_
              refine k_iconstN hm 2 dL_stacked_92 ?_
              refine k_icmpne (tgt := 100) hm dL_stacked_93 (by decide) (by omega) (fun c_6 => ?_) (fun c_6 => ?_)
              · refine k_iconstN hm 1 dL_stacked_100 ?_
                refine k_rwV (y := vN (usB (k i))) (by unfold usB; rw [if_neg (by omega)]) ?_
                refine k_iaddN hm dL_stacked_101 ?_
                refine k_istore hm hl [(4, vN (t + (usB (k i)))), (6, vN (k i)), (0, .ref (ma)), (1, .ref (wa)), (2, vN (r)), (3, vN (cn)), (5, vN (i))] (by decide) rfl dL_stacked_102 (fun ls hl => ?_)
                refine k_iincN hm hl 6 1 rfl [(5, vN (i + 1)), (4, vN (t + (usB (k i)))), (6, vN (k i)), (0, .ref (ma)), (1, .ref (wa)), (2, vN (r)), (3, vN (cn))] (by decide) rfl dL_stacked_104 (fun ls hl => ?_)
                refine k_goto (tgt := 8) hm dL_stacked_107 (by decide) ?_
                exact ih_8  cn (t + (usB (k i))) (i + 1) (by first | assumption | omega) (by first | (exfalso; omega) | (simp only [nstk]; rw [← ht, hc]; first | rw [if_pos (by omega)] | (rw [if_neg (by omega)]; rfl))) (by simp only [sumU]; omega) _ _ _ (by omega) hw (lv_sub hl [3, 4, 5, 6, 1, 0] rfl)
              · refine k_iconstN hm 2 dL_stacked_96 ?_
                refine k_goto (tgt := 101) hm dL_stacked_97 (by decide) ?_
                refine k_rwV (y := vN (usB (k i))) (by unfold usB; rw [if_pos (by omega)]) ?_
                refine k_iaddN hm dL_stacked_101 ?_
                refine k_istore hm hl [(4, vN (t + (usB (k i)))), (6, vN (k i)), (0, .ref (ma)), (1, .ref (wa)), (2, vN (r)), (3, vN (cn)), (5, vN (i))] (by decide) rfl dL_stacked_102 (fun ls hl => ?_)
                refine k_iincN hm hl 6 1 rfl [(5, vN (i + 1)), (4, vN (t + (usB (k i)))), (6, vN (k i)), (0, .ref (ma)), (1, .ref (wa)), (2, vN (r)), (3, vN (cn))] (by decide) rfl dL_stacked_104 (fun ls hl => ?_)
                refine k_goto (tgt := 8) hm dL_stacked_107 (by decide) ?_
                exact ih_8  cn (t + (usB (k i))) (i + 1) (by first | assumption | omega) (by first | (exfalso; omega) | (simp only [nstk]; rw [← ht, hc]; first | rw [if_pos (by omega)] | (rw [if_neg (by omega)]; rfl))) (by simp only [sumU]; omega) _ _ _ (by omega) hw (lv_sub hl [3, 4, 5, 6, 1, 0] rfl)
            · refine k_aload_n hm hl 1 rfl dL_stacked_55 ?_
              refine k_aload_n hm hl 2 rfl dL_stacked_56 ?_
              refine k_iload_n hm hl 3 rfl dL_stacked_57 ?_
              refine k_iconstN hm 1 dL_stacked_58 ?_
              refine k_isubN hm (by omega) dL_stacked_59 ?_
              refine k_iload hm hl 5 rfl dL_stacked_60 ?_
              refine k_iconstN hm 2 dL_stacked_62 ?_
              refine k_callSr (n := 5) (As := [.ref (ma), .ref (wa), vN (r - 1), vN (t), vN (2)]) (rest := []) hm hw hl (c_l_isMade l G ma mg wa wf (r - 1) t 2 k0 n0 p1 p2 (by omega) (by first | assumption | omega) (by first | assumption | omega)) gL_stacked_L_isMade rfl (by decide +kernel) ⟨by decide, by decide⟩ [0, 1] (by decide) rfl rfl rfl (by simp [Value.category]) ⟨by decide, by decide⟩ dL_stacked_63 (fun v H locs hp hw => ?_)
              obtain rfl := hp
              refine W.eq (g2 := F0 m 66 ls [vB (decide (mkF k0 n0 t = 2))]) rfl ?_
              refine k_ifneB (tgt := 85) hm dL_stacked_66 (by decide) (fun c_8 => ?_) (fun c_8 => ?_)
              · have c_8d := of_decide_eq_true c_8
                refine k_iincN hm hl 4 1 rfl [(3, vN (cn + 1)), (6, vN (k i)), (0, .ref (ma)), (1, .ref (wa)), (2, vN (r)), (4, vN (t)), (5, vN (i))] (by decide) rfl dL_stacked_85 (fun ls hl => ?_)
                refine k_iload hm hl 5 rfl dL_stacked_88 ?_
                refine k_iload hm hl 1 rfl dL_stacked_90 ?_
                refine k_iconstN hm 2 dL_stacked_92 ?_
                refine k_icmpne (tgt := 100) hm dL_stacked_93 (by decide) (by omega) (fun c_9 => ?_) (fun c_9 => ?_)
                · refine k_iconstN hm 1 dL_stacked_100 ?_
                  refine k_rwV (y := vN (usB (k i))) (by unfold usB; rw [if_neg (by omega)]) ?_
                  refine k_iaddN hm dL_stacked_101 ?_
                  refine k_istore hm hl [(4, vN (t + (usB (k i)))), (3, vN (cn + 1)), (6, vN (k i)), (0, .ref (ma)), (1, .ref (wa)), (2, vN (r)), (5, vN (i))] (by decide) rfl dL_stacked_102 (fun ls hl => ?_)
                  refine k_iincN hm hl 6 1 rfl [(5, vN (i + 1)), (4, vN (t + (usB (k i)))), (3, vN (cn + 1)), (6, vN (k i)), (0, .ref (ma)), (1, .ref (wa)), (2, vN (r))] (by decide) rfl dL_stacked_104 (fun ls hl => ?_)
                  refine k_goto (tgt := 8) hm dL_stacked_107 (by decide) ?_
                  exact ih_8  (cn + 1) (t + (usB (k i))) (i + 1) (by first | assumption | omega) (by first | (exfalso; omega) | (simp only [nstk]; rw [← ht, hc]; first | rw [if_pos (by omega)] | (rw [if_neg (by omega)]; rfl))) (by simp only [sumU]; omega) _ _ _ (by omega) hw (lv_sub hl [4, 5, 6, 2, 1, 0] rfl)
                · refine k_iconstN hm 2 dL_stacked_96 ?_
                  refine k_goto (tgt := 101) hm dL_stacked_97 (by decide) ?_
                  refine k_rwV (y := vN (usB (k i))) (by unfold usB; rw [if_pos (by omega)]) ?_
                  refine k_iaddN hm dL_stacked_101 ?_
                  refine k_istore hm hl [(4, vN (t + (usB (k i)))), (3, vN (cn + 1)), (6, vN (k i)), (0, .ref (ma)), (1, .ref (wa)), (2, vN (r)), (5, vN (i))] (by decide) rfl dL_stacked_102 (fun ls hl => ?_)
                  refine k_iincN hm hl 6 1 rfl [(5, vN (i + 1)), (4, vN (t + (usB (k i)))), (3, vN (cn + 1)), (6, vN (k i)), (0, .ref (ma)), (1, .ref (wa)), (2, vN (r))] (by decide) rfl dL_stacked_104 (fun ls hl => ?_)
                  refine k_goto (tgt := 8) hm dL_stacked_107 (by decide) ?_
                  exact ih_8  (cn + 1) (t + (usB (k i))) (i + 1) (by first | assumption | omega) (by first | (exfalso; omega) | (simp only [nstk]; rw [← ht, hc]; first | rw [if_pos (by omega)] | (rw [if_neg (by omega)]; rfl))) (by simp only [sumU]; omega) _ _ _ (by omega) hw (lv_sub hl [4, 5, 6, 2, 1, 0] rfl)
              · have c_8d := of_decide_eq_false c_8
                refine k_aload_n hm hl 1 rfl dL_stacked_69 ?_
                refine k_aload_n hm hl 2 rfl dL_stacked_70 ?_
                refine k_iload_n hm hl 3 rfl dL_stacked_71 ?_
                refine k_iconstN hm 1 dL_stacked_72 ?_
                refine k_isubN hm (by omega) dL_stacked_73 ?_
                refine k_iload hm hl 5 rfl dL_stacked_74 ?_
                refine k_iconstN hm 1 dL_stacked_76 ?_
                refine k_iaddN hm dL_stacked_77 ?_
                refine k_iconstN hm 2 dL_stacked_78 ?_
                refine k_callSr (n := 5) (As := [.ref (ma), .ref (wa), vN (r - 1), vN (t + 1), vN (2)]) (rest := []) hm hw hl (c_l_isMade l G ma mg wa wf (r - 1) (t + 1) 2 k0 n0 p1 p2 (by omega) (by first | assumption | omega) (by first | assumption | omega)) gL_stacked_L_isMade rfl (by decide +kernel) ⟨by decide, by decide⟩ [0, 1] (by decide) rfl rfl rfl (by simp [Value.category]) ⟨by decide, by decide⟩ dL_stacked_79 (fun v H locs hp hw => ?_)
                obtain rfl := hp
                refine W.eq (g2 := F0 m 82 ls [vB (decide (mkF k0 n0 (t + 1) = 2))]) rfl ?_
                refine k_ifeqB (tgt := 88) hm dL_stacked_82 (by decide) (fun c_11 => ?_) (fun c_11 => ?_)
                · have c_11d := of_decide_eq_false c_11
                  refine k_iload hm hl 5 rfl dL_stacked_88 ?_
                  refine k_iload hm hl 0 rfl dL_stacked_90 ?_
                  refine k_iconstN hm 2 dL_stacked_92 ?_
                  refine k_icmpne (tgt := 100) hm dL_stacked_93 (by decide) (by omega) (fun c_12 => ?_) (fun c_12 => ?_)
                  · refine k_iconstN hm 1 dL_stacked_100 ?_
                    refine k_rwV (y := vN (usB (k i))) (by unfold usB; rw [if_neg (by omega)]) ?_
                    refine k_iaddN hm dL_stacked_101 ?_
                    refine k_istore hm hl [(4, vN (t + (usB (k i)))), (6, vN (k i)), (0, .ref (ma)), (1, .ref (wa)), (2, vN (r)), (3, vN (cn)), (5, vN (i))] (by decide) rfl dL_stacked_102 (fun ls hl => ?_)
                    refine k_iincN hm hl 6 1 rfl [(5, vN (i + 1)), (4, vN (t + (usB (k i)))), (6, vN (k i)), (0, .ref (ma)), (1, .ref (wa)), (2, vN (r)), (3, vN (cn))] (by decide) rfl dL_stacked_104 (fun ls hl => ?_)
                    refine k_goto (tgt := 8) hm dL_stacked_107 (by decide) ?_
                    exact ih_8  cn (t + (usB (k i))) (i + 1) (by first | assumption | omega) (by first | (exfalso; omega) | (simp only [nstk]; rw [← ht, hc]; first | rw [if_pos (by omega)] | (rw [if_neg (by omega)]; rfl))) (by simp only [sumU]; omega) _ _ _ (by omega) hw (lv_sub hl [3, 4, 5, 6, 1, 0] rfl)
                  · refine k_iconstN hm 2 dL_stacked_96 ?_
                    refine k_goto (tgt := 101) hm dL_stacked_97 (by decide) ?_
                    refine k_rwV (y := vN (usB (k i))) (by unfold usB; rw [if_pos (by omega)]) ?_
                    refine k_iaddN hm dL_stacked_101 ?_
                    refine k_istore hm hl [(4, vN (t + (usB (k i)))), (6, vN (k i)), (0, .ref (ma)), (1, .ref (wa)), (2, vN (r)), (3, vN (cn)), (5, vN (i))] (by decide) rfl dL_stacked_102 (fun ls hl => ?_)
                    refine k_iincN hm hl 6 1 rfl [(5, vN (i + 1)), (4, vN (t + (usB (k i)))), (6, vN (k i)), (0, .ref (ma)), (1, .ref (wa)), (2, vN (r)), (3, vN (cn))] (by decide) rfl dL_stacked_104 (fun ls hl => ?_)
                    refine k_goto (tgt := 8) hm dL_stacked_107 (by decide) ?_
                    exact ih_8  cn (t + (usB (k i))) (i + 1) (by first | assumption | omega) (by first | (exfalso; omega) | (simp only [nstk]; rw [← ht, hc]; first | rw [if_pos (by omega)] | (rw [if_neg (by omega)]; rfl))) (by simp only [sumU]; omega) _ _ _ (by omega) hw (lv_sub hl [3, 4, 5, 6, 1, 0] rfl)
                · have c_11d := of_decide_eq_true c_11
                  refine k_iincN hm hl 4 1 rfl [(3, vN (cn + 1)), (6, vN (k i)), (0, .ref (ma)), (1, .ref (wa)), (2, vN (r)), (4, vN (t)), (5, vN (i))] (by decide) rfl dL_stacked_85 (fun ls hl => ?_)
                  refine k_iload hm hl 5 rfl dL_stacked_88 ?_
                  refine k_iload hm hl 1 rfl dL_stacked_90 ?_
                  refine k_iconstN hm 2 dL_stacked_92 ?_
                  refine k_icmpne (tgt := 100) hm dL_stacked_93 (by decide) (by omega) (fun c_13 => ?_) (fun c_13 => ?_)
                  · refine k_iconstN hm 1 dL_stacked_100 ?_
                    refine k_rwV (y := vN (usB (k i))) (by unfold usB; rw [if_neg (by omega)]) ?_
                    refine k_iaddN hm dL_stacked_101 ?_
                    refine k_istore hm hl [(4, vN (t + (usB (k i)))), (3, vN (cn + 1)), (6, vN (k i)), (0, .ref (ma)), (1, .ref (wa)), (2, vN (r)), (5, vN (i))] (by decide) rfl dL_stacked_102 (fun ls hl => ?_)
                    refine k_iincN hm hl 6 1 rfl [(5, vN (i + 1)), (4, vN (t + (usB (k i)))), (3, vN (cn + 1)), (6, vN (k i)), (0, .ref (ma)), (1, .ref (wa)), (2, vN (r))] (by decide) rfl dL_stacked_104 (fun ls hl => ?_)
                    refine k_goto (tgt := 8) hm dL_stacked_107 (by decide) ?_
                    exact ih_8  (cn + 1) (t + (usB (k i))) (i + 1) (by first | assumption | omega) (by first | (exfalso; omega) | (simp only [nstk]; rw [← ht, hc]; first | rw [if_pos (by omega)] | (rw [if_neg (by omega)]; rfl))) (by simp only [sumU]; omega) _ _ _ (by omega) hw (lv_sub hl [4, 5, 6, 2, 1, 0] rfl)
                  · refine k_iconstN hm 2 dL_stacked_96 ?_
                    refine k_goto (tgt := 101) hm dL_stacked_97 (by decide) ?_
                    refine k_rwV (y := vN (usB (k i))) (by unfold usB; rw [if_pos (by omega)]) ?_
                    refine k_iaddN hm dL_stacked_101 ?_
                    refine k_istore hm hl [(4, vN (t + (usB (k i)))), (3, vN (cn + 1)), (6, vN (k i)), (0, .ref (ma)), (1, .ref (wa)), (2, vN (r)), (5, vN (i))] (by decide) rfl dL_stacked_102 (fun ls hl => ?_)
                    refine k_iincN hm hl 6 1 rfl [(5, vN (i + 1)), (4, vN (t + (usB (k i)))), (3, vN (cn + 1)), (6, vN (k i)), (0, .ref (ma)), (1, .ref (wa)), (2, vN (r))] (by decide) rfl dL_stacked_104 (fun ls hl => ?_)
                    refine k_goto (tgt := 8) hm dL_stacked_107 (by decide) ?_
                    exact ih_8  (cn + 1) (t + (usB (k i))) (i + 1) (by first | assumption | omega) (by first | (exfalso; omega) | (simp only [nstk]; rw [← ht, hc]; first | rw [if_pos (by omega)] | (rw [if_neg (by omega)]; rfl))) (by simp only [sumU]; omega) _ _ _ (by omega) hw (lv_sub hl [4, 5, 6, 2, 1, 0] rfl)
          · refine k_aload_n hm hl 1 rfl dL_stacked_35 ?_
            refine k_aload_n hm hl 2 rfl dL_stacked_36 ?_
            refine k_iload_n hm hl 3 rfl dL_stacked_37 ?_
            refine k_iconstN hm 1 dL_stacked_38 ?_
            refine k_isubN hm (by omega) dL_stacked_39 ?_
            refine k_iload hm hl 5 rfl dL_stacked_40 ?_
            refine k_iconstN hm 1 dL_stacked_42 ?_
            refine k_callSr (n := 5) (As := [.ref (ma), .ref (wa), vN (r - 1), vN (t), vN (1)]) (rest := []) hm hw hl (c_l_isMade l G ma mg wa wf (r - 1) t 1 k0 n0 p1 p2 (by omega) (by first | assumption | omega) (by first | assumption | omega)) gL_stacked_L_isMade rfl (by decide +kernel) ⟨by decide, by decide⟩ [0, 1] (by decide) rfl rfl rfl (by simp [Value.category]) ⟨by decide, by decide⟩ dL_stacked_43 (fun v H locs hp hw => ?_)
            obtain rfl := hp
            refine W.eq (g2 := F0 m 46 ls [vB (decide (mkF k0 n0 t = 1))]) rfl ?_
            refine k_ifneB (tgt := 85) hm dL_stacked_46 (by decide) (fun c_15 => ?_) (fun c_15 => ?_)
            · have c_15d := of_decide_eq_true c_15
              refine k_iincN hm hl 4 1 rfl [(3, vN (cn + 1)), (6, vN (k i)), (0, .ref (ma)), (1, .ref (wa)), (2, vN (r)), (4, vN (t)), (5, vN (i))] (by decide) rfl dL_stacked_85 (fun ls hl => ?_)
              refine k_iload hm hl 5 rfl dL_stacked_88 ?_
              refine k_iload hm hl 1 rfl dL_stacked_90 ?_
              refine k_iconstN hm 2 dL_stacked_92 ?_
              refine k_icmpne (tgt := 100) hm dL_stacked_93 (by decide) (by omega) (fun c_16 => ?_) (fun c_16 => ?_)
              · refine k_iconstN hm 1 dL_stacked_100 ?_
                refine k_rwV (y := vN (usB (k i))) (by unfold usB; rw [if_neg (by omega)]) ?_
                refine k_iaddN hm dL_stacked_101 ?_
                refine k_istore hm hl [(4, vN (t + (usB (k i)))), (3, vN (cn + 1)), (6, vN (k i)), (0, .ref (ma)), (1, .ref (wa)), (2, vN (r)), (5, vN (i))] (by decide) rfl dL_stacked_102 (fun ls hl => ?_)
                refine k_iincN hm hl 6 1 rfl [(5, vN (i + 1)), (4, vN (t + (usB (k i)))), (3, vN (cn + 1)), (6, vN (k i)), (0, .ref (ma)), (1, .ref (wa)), (2, vN (r))] (by decide) rfl dL_stacked_104 (fun ls hl => ?_)
                refine k_goto (tgt := 8) hm dL_stacked_107 (by decide) ?_
                exact ih_8  (cn + 1) (t + (usB (k i))) (i + 1) (by first | assumption | omega) (by first | (exfalso; omega) | (simp only [nstk]; rw [← ht, hc]; first | rw [if_pos (by omega)] | (rw [if_neg (by omega)]; rfl))) (by simp only [sumU]; omega) _ _ _ (by omega) hw (lv_sub hl [4, 5, 6, 2, 1, 0] rfl)
              · refine k_iconstN hm 2 dL_stacked_96 ?_
                refine k_goto (tgt := 101) hm dL_stacked_97 (by decide) ?_
                refine k_rwV (y := vN (usB (k i))) (by unfold usB; rw [if_pos (by omega)]) ?_
                refine k_iaddN hm dL_stacked_101 ?_
                refine k_istore hm hl [(4, vN (t + (usB (k i)))), (3, vN (cn + 1)), (6, vN (k i)), (0, .ref (ma)), (1, .ref (wa)), (2, vN (r)), (5, vN (i))] (by decide) rfl dL_stacked_102 (fun ls hl => ?_)
                refine k_iincN hm hl 6 1 rfl [(5, vN (i + 1)), (4, vN (t + (usB (k i)))), (3, vN (cn + 1)), (6, vN (k i)), (0, .ref (ma)), (1, .ref (wa)), (2, vN (r))] (by decide) rfl dL_stacked_104 (fun ls hl => ?_)
                refine k_goto (tgt := 8) hm dL_stacked_107 (by decide) ?_
                exact ih_8  (cn + 1) (t + (usB (k i))) (i + 1) (by first | assumption | omega) (by first | (exfalso; omega) | (simp only [nstk]; rw [← ht, hc]; first | rw [if_pos (by omega)] | (rw [if_neg (by omega)]; rfl))) (by simp only [sumU]; omega) _ _ _ (by omega) hw (lv_sub hl [4, 5, 6, 2, 1, 0] rfl)
            · have c_15d := of_decide_eq_false c_15
              refine k_iload hm hl 0 rfl dL_stacked_49 ?_
              refine k_iconstN hm 2 dL_stacked_51 ?_
              refine k_icmpne (tgt := 88) hm dL_stacked_52 (by decide) (by omega) (fun c_17 => ?_) (fun c_17 => absurd c_17 (by omega))
              refine k_iload hm hl 5 rfl dL_stacked_88 ?_
              refine k_iload hm hl 0 rfl dL_stacked_90 ?_
              refine k_iconstN hm 2 dL_stacked_92 ?_
              refine k_icmpne (tgt := 100) hm dL_stacked_93 (by decide) (by omega) (fun c_18 => ?_) (fun c_18 => ?_)
              · refine k_iconstN hm 1 dL_stacked_100 ?_
                refine k_rwV (y := vN (usB (k i))) (by unfold usB; rw [if_neg (by omega)]) ?_
                refine k_iaddN hm dL_stacked_101 ?_
                refine k_istore hm hl [(4, vN (t + (usB (k i)))), (6, vN (k i)), (0, .ref (ma)), (1, .ref (wa)), (2, vN (r)), (3, vN (cn)), (5, vN (i))] (by decide) rfl dL_stacked_102 (fun ls hl => ?_)
                refine k_iincN hm hl 6 1 rfl [(5, vN (i + 1)), (4, vN (t + (usB (k i)))), (6, vN (k i)), (0, .ref (ma)), (1, .ref (wa)), (2, vN (r)), (3, vN (cn))] (by decide) rfl dL_stacked_104 (fun ls hl => ?_)
                refine k_goto (tgt := 8) hm dL_stacked_107 (by decide) ?_
                exact ih_8  cn (t + (usB (k i))) (i + 1) (by first | assumption | omega) (by first | (exfalso; omega) | (simp only [nstk]; rw [← ht, hc]; first | rw [if_pos (by omega)] | (rw [if_neg (by omega)]; rfl))) (by simp only [sumU]; omega) _ _ _ (by omega) hw (lv_sub hl [3, 4, 5, 6, 1, 0] rfl)
              · refine k_iconstN hm 2 dL_stacked_96 ?_
                refine k_goto (tgt := 101) hm dL_stacked_97 (by decide) ?_
                refine k_rwV (y := vN (usB (k i))) (by unfold usB; rw [if_pos (by omega)]) ?_
                refine k_iaddN hm dL_stacked_101 ?_
                refine k_istore hm hl [(4, vN (t + (usB (k i)))), (6, vN (k i)), (0, .ref (ma)), (1, .ref (wa)), (2, vN (r)), (3, vN (cn)), (5, vN (i))] (by decide) rfl dL_stacked_102 (fun ls hl => ?_)
                refine k_iincN hm hl 6 1 rfl [(5, vN (i + 1)), (4, vN (t + (usB (k i)))), (6, vN (k i)), (0, .ref (ma)), (1, .ref (wa)), (2, vN (r)), (3, vN (cn))] (by decide) rfl dL_stacked_104 (fun ls hl => ?_)
                refine k_goto (tgt := 8) hm dL_stacked_107 (by decide) ?_
                exact ih_8  cn (t + (usB (k i))) (i + 1) (by first | assumption | omega) (by first | (exfalso; omega) | (simp only [nstk]; rw [← ht, hc]; first | rw [if_pos (by omega)] | (rw [if_neg (by omega)]; rfl))) (by simp only [sumU]; omega) _ _ _ (by omega) hw (lv_sub hl [3, 4, 5, 6, 1, 0] rfl)
  exact loop_8 (n - 0 + 1) 0 0 0 (by first | assumption | omega) rfl rfl _ _ _ (Nat.lt_succ_self _) hw (lv_sub hl [3, 4, 5, 2, 1, 0] rfl)
set_option maxHeartbeats 4000000 in
set_option maxRecDepth 100000 in
theorem c_l_canBe (l : Launch) (G : kG) (t : Nat) (n : Nat) (h : t ≤ 100000 ∧ n ≤ 100000) : kCR l yL_canBe wsL_canBe 0 0 G [vN (t), vN (n)] ([]) (fun vv => ∃ (b : Bool), vv = some (vB (b)) ∧ (b = true ↔ isPo n t)) := by
  refine kCM.of (cc := cL_canBe) (maxL := 2) (ret := (some .boolean)) (by decide) rfl (Nat.le_of_ble_eq_true rfl) ?_
  intro p e s m args below meth c A ls Qz hQ hin hm hw hl
  have hl : lv_has ls 2 [(0, vN (t)), (1, vN (n))] := hl
  refine k_iload_n hm hl 0 rfl dL_canBe_0 ?_
  refine k_iconstN hm 2 dL_canBe_1 ?_
  refine k_iload_n hm hl 1 rfl dL_canBe_2 ?_
  refine k_imulN hm dL_canBe_3 ?_
  refine k_icmpgt (tgt := 18) hm dL_canBe_4 (by decide) (by omega) (fun c_1 => ?_) (fun c_1 => ?_)
  · refine k_iconstN hm 0 dL_canBe_18 ?_
    exact k_iret (post := _) hm hQ rfl (kN_bool false) hw (⟨⟨false, rfl, by unfold isPo; constructor <;> intro z <;> first | (split <;> omega) | rfl | (exfalso; split at z <;> omega) | cases z⟩, rfl⟩) (by omega) (by omega) dL_canBe_19
  · refine k_iconstN hm 2 dL_canBe_7 ?_
    refine k_iload_n hm hl 0 rfl dL_canBe_8 ?_
    refine k_imulN hm dL_canBe_9 ?_
    refine k_iload_n hm hl 1 rfl dL_canBe_10 ?_
    refine k_icmplt (tgt := 18) hm dL_canBe_11 (by decide) (by omega) (fun c_2 => ?_) (fun c_2 => ?_)
    · refine k_iconstN hm 0 dL_canBe_18 ?_
      exact k_iret (post := _) hm hQ rfl (kN_bool false) hw (⟨⟨false, rfl, by unfold isPo; constructor <;> intro z <;> first | (split <;> omega) | rfl | (exfalso; split at z <;> omega) | cases z⟩, rfl⟩) (by omega) (by omega) dL_canBe_19
    · refine k_iconstN hm 1 dL_canBe_14 ?_
      refine k_goto (tgt := 19) hm dL_canBe_15 (by decide) ?_
      exact k_iret (post := _) hm hQ rfl (kN_bool true) hw (⟨⟨true, rfl, by unfold isPo; constructor <;> intro z <;> first | (split <;> omega) | rfl | (exfalso; split at z <;> omega) | cases z⟩, rfl⟩) (by omega) (by omega) dL_canBe_19
