set_option maxHeartbeats 4000000 in
set_option maxRecDepth 100000 in
theorem c_m_widest (l : Launch) (G : kG) (D : Nat → Nat) (sa : Nat → Int64) (pa : Nat → Int64) (pn : Nat) (tx : Nat → Nat) (tn : Nat) (rf : Nat) (ro : Nat → Nat) (wk : Nat) (mb : Nat → Nat) (so : Nat) (kd : Nat → Nat) (nu : Nat → Nat) (it : Nat) (ti : Nat) (rd : Nat) (ad : Nat → Int64) (R : Nat) (sp : Bool) (K : Nat → Nat → Nat) (w : Nat → Nat) (y : Nat → Nat) (hmo : MOk sa R sp K w y) : kCR l yX7_widest wsX7_widest 2 45 G [.ref (D 0)] (wMod G D sa pa pn tx tn rf ro wk mb so kd nu it ti rd ad) (fun vv => ∃ (b : Nat), vv = some (vN (b)) ∧ (isWd (fun r => sumM (K r) (w r)) R b)) := by
  refine kCM.of (cc := cX7_widest) (maxL := 3) (ret := (some .int)) (by decide) rfl (Nat.le_of_ble_eq_true rfl) ?_
  intro p e s m args below meth c A ls Qz hQ hin hm hw hl
  have hl : lv_has ls 3 [(0, .ref (D 0))] := hl
  have hR := hmo.1.1
  refine k_iconstN hm 0 dX7_widest_0 ?_
  refine k_istore_n hm hl [(1, vN (0)), (0, .ref (D 0))] (by decide) rfl dX7_widest_1 (fun ls hl => ?_)
  refine k_iconstN hm 1 dX7_widest_2 ?_
  refine k_istore_n hm hl [(2, vN (1)), (1, vN (0)), (0, .ref (D 0))] (by decide) rfl dX7_widest_3 (fun ls hl => ?_)
  have loop_4 : ∀ (fu : Nat) (b : Nat) (i : Nat) (hi : 1 ≤ i ∧ i ≤ R) (hb : isWd (fun r => sumM (K r) (w r)) i b) (H : Heap) (locs : List Loc) (ls : Array Slot), R - i < fu → kW G A s (wMod G D sa pa pn tx tn rf ro wk mb so kd nu it ti rd ad) H locs → lv_has ls 3 [(0, .ref (D 0)), (1, vN (b)), (2, vN (i))] → W p l e { frames := 2, cells := 0, slots := 0, locals := 45 } s m args below meth c H locs 0 0 Qz (F0 m 4 ls []) := by
    intro fu
    induction fu with
    | zero => intro b i hi hb H locs ls hfu; exact absurd hfu (Nat.not_lt_zero _)
    | succ fu ih_4 =>
      intro b i hi hb H locs ls hfu hw hl
      refine k_iload_n hm hl 2 rfl dX7_widest_4 ?_
      refine k_aload_n hm hl 0 rfl dX7_widest_5 ?_
      refine k_callVr (n := 0) (As := []) (rest := [vN (i)]) hm hw hl (c_m_rounds l G D sa pa pn tx tn rf ro wk mb so kd nu it ti rd ad R sp K w y (by first | assumption | omega)) gX7_widest_X7_rounds rfl (by decide +kernel) ⟨by decide, by decide⟩ (ci := 7) rfl 0 rfl [0, 1, 2, 3, 4, 5, 6, 7, 8] (by decide) rfl rfl rfl (by simp [Value.category]) ⟨by decide, by decide⟩ dX7_widest_6 (fun v H locs hp hw => ?_)
      obtain rfl := hp
      refine W.eq (g2 := F0 m 9 ls [vN (R), vN (i)]) rfl ?_
      refine k_icmpge (tgt := 37) hm dX7_widest_9 (by decide) (by omega) (fun c_2 => ?_) (fun c_2 => ?_)
      · refine k_iload_n hm hl 1 rfl dX7_widest_37 ?_
        exact k_iret (post := _) hm hQ rfl rfl hw (⟨⟨b, rfl, by rw [show R = i by omega]; exact hb⟩, rfl⟩) (by omega) (by omega) dX7_widest_38
      · have ha2 := hmo.1.2.1 i (by omega)
        have hb2 := hmo.1.2.1 b (by have := hb.1; omega)
        have hb1 := hb.1
        refine k_aload_n hm hl 0 rfl dX7_widest_12 ?_
        refine k_iload_n hm hl 2 rfl dX7_widest_13 ?_
        refine k_callVr (n := 1) (As := [vN (i)]) (rest := []) hm hw hl (c_m_totalOf l G D sa pa pn tx tn rf ro wk mb so kd nu it ti rd ad R sp K w y i (by first | assumption | omega) (by first | assumption | omega)) gX7_widest_X7_totalOf rfl (by decide +kernel) ⟨by decide, by decide⟩ (ci := 7) rfl 0 rfl [0, 1, 2, 3, 4, 5, 6, 7, 8] (by decide) rfl rfl rfl (by simp [Value.category]) ⟨by decide, by decide⟩ dX7_widest_14 (fun v H locs hp hw => ?_)
        obtain rfl := hp
        refine W.eq (g2 := F0 m 17 ls [vN (sumM (K i) (w i))]) rfl ?_
        refine k_aload_n hm hl 0 rfl dX7_widest_17 ?_
        refine k_iload_n hm hl 1 rfl dX7_widest_18 ?_
        refine k_callVr (n := 1) (As := [vN (b)]) (rest := [vN (sumM (K i) (w i))]) hm hw hl (c_m_totalOf l G D sa pa pn tx tn rf ro wk mb so kd nu it ti rd ad R sp K w y b (by first | assumption | omega) (by first | assumption | omega)) gX7_widest_X7_totalOf rfl (by decide +kernel) ⟨by decide, by decide⟩ (ci := 7) rfl 0 rfl [0, 1, 2, 3, 4, 5, 6, 7, 8] (by decide) rfl rfl rfl (by simp [Value.category]) ⟨by decide, by decide⟩ dX7_widest_19 (fun v H locs hp hw => ?_)
        obtain rfl := hp
        refine W.eq (g2 := F0 m 22 ls [vN (sumM (K b) (w b)), vN (sumM (K i) (w i))]) rfl ?_
        refine k_icmple (tgt := 29) hm dX7_widest_22 (by decide) (by omega) (fun c_5 => ?_) (fun c_5 => ?_)
        · refine k_iload_n hm hl 1 rfl dX7_widest_29 ?_
          refine k_istore_n hm hl [(1, vN (b)), (0, .ref (D 0)), (2, vN (i))] (by decide) rfl dX7_widest_30 (fun ls hl => ?_)
          refine k_iincN hm hl 2 1 rfl [(2, vN (i + 1)), (1, vN (b)), (0, .ref (D 0))] (by decide) rfl dX7_widest_31 (fun ls hl => ?_)
          refine k_goto (tgt := 4) hm dX7_widest_34 (by decide) ?_
          exact ih_4  b (i + 1) (by first | assumption | omega) (by
                              refine ⟨by omega, fun r q => ?_, fun r q => ?_⟩
                              · rcases Nat.lt_or_ge r i with q2 | q2
                                · have q3 := hb.2.1 r q2
                                  dsimp only at q3 ⊢
                                  omega
                                · rw [show r = i by omega]
                                  dsimp only
                                  omega
                              · have q3 := hb.2.2 r q
                                exact q3) _ _ _ (by omega) hw (lv_sub hl [2, 1, 0] rfl)
        · refine k_iload_n hm hl 2 rfl dX7_widest_25 ?_
          refine k_goto (tgt := 30) hm dX7_widest_26 (by decide) ?_
          refine k_istore_n hm hl [(1, vN (i)), (0, .ref (D 0)), (2, vN (i))] (by decide) rfl dX7_widest_30 (fun ls hl => ?_)
          refine k_iincN hm hl 2 1 rfl [(2, vN (i + 1)), (1, vN (i)), (0, .ref (D 0))] (by decide) rfl dX7_widest_31 (fun ls hl => ?_)
          refine k_goto (tgt := 4) hm dX7_widest_34 (by decide) ?_
          exact ih_4  i (i + 1) (by first | assumption | omega) (by
                              refine ⟨by omega, fun r q => ?_, fun r q => ?_⟩
                              · rcases Nat.lt_or_ge r i with q2 | q2
                                · have q3 := hb.2.1 r q2
                                  dsimp only at q3 ⊢
                                  omega
                                · rw [show r = i by omega]
                                  exact Nat.le_refl _
                              · have q3 := hb.2.1 r (by omega)
                                dsimp only at q3 ⊢
                                omega) _ _ _ (by omega) hw (lv_sub hl [2, 1, 0] rfl)
  exact loop_4 (R - 1 + 1) 0 1 (by first | assumption | omega) (by
                              refine ⟨by omega, fun r q => ?_, fun r q => absurd q (by omega)⟩
                              have q0 : r = 0 := by omega
                              subst q0
                              exact Nat.le_refl _) _ _ _ (Nat.lt_succ_self _) hw (lv_sub hl [2, 1, 0] rfl)
set_option maxHeartbeats 4000000 in
set_option maxRecDepth 100000 in
theorem c_m_valueOf_0 (l : Launch) (G : kG) (D : Nat → Nat) (sa : Nat → Int64) (pa : Nat → Int64) (pn : Nat) (tx : Nat → Nat) (tn : Nat) (rf : Nat) (ro : Nat → Nat) (wk : Nat) (mb : Nat → Nat) (so : Nat) (kd : Nat → Nat) (nu : Nat → Nat) (it : Nat) (ti : Nat) (rd : Nat) (ad : Nat → Int64) (R : Nat) (sp : Bool) (K : Nat → Nat → Nat) (w : Nat → Nat) (y : Nat → Nat) (hmo : MOk sa R sp K w y) : kCM l yX7_valueOf wsX7_valueOf 5 118 0 0 G [.ref (D 0), vN (0)] (wMod G D sa pa pn tx tn rf ro wk mb so kd nu it ti rd ad) (fun vv uu => ∃ (ro2 : Nat → Nat), ∃ (wk2 : Nat), ∃ (mb2 : Nat → Nat), vv = some (vZ (val K w y R sp 0)) ∧ uu = wMod G D sa pa pn tx tn rf ro2 wk2 mb2 so kd nu it ti rd ad) := by
  refine kCM.of (cc := cX7_valueOf) (maxL := 2) (ret := (some .int)) (by decide) rfl (Nat.le_of_ble_eq_true rfl) ?_
  intro p e s m args below meth c A ls Qz hQ hin hm hw hl
  have hl : lv_has ls 2 [(0, .ref (D 0)), (1, vN (0))] := hl
  have i7 : ∀ w ∈ wsX70, w ∈ wsX7_valueOf := by decide +kernel
  have hb01 := bI_01 sp
  refine k_iload_n hm hl 1 rfl dX7_valueOf_0 ?_
  refine k_tsw (x := 0) (tgt := 44) hm dX7_valueOf_1 (by decide) (by decide) (by decide) rfl (by decide) ?_
  refine k_aload_n hm hl 0 rfl dX7_valueOf_44 ?_
  refine k_callVr (n := 0) (As := []) (rest := []) hm hw hl (c_m_rounds l G D sa pa pn tx tn rf ro wk mb so kd nu it ti rd ad R sp K w y (by first | assumption | omega)) gX7_valueOf_X7_rounds rfl (by decide +kernel) ⟨by decide, by decide⟩ (ci := 7) rfl 0 rfl [0, 1, 2, 3, 4, 5, 6, 7, 8] (by decide) rfl rfl rfl (by simp [Value.category]) ⟨by decide, by decide⟩ dX7_valueOf_45 (fun v H locs hp hw => ?_)
  obtain rfl := hp
  refine W.eq (g2 := F0 m 48 ls [vN (R)]) rfl ?_
  exact k_iret (post := _) hm hQ rfl rfl hw (⟨ro, wk, mb, rfl, rfl⟩) (by omega) (by omega) dX7_valueOf_48
set_option maxHeartbeats 4000000 in
set_option maxRecDepth 100000 in
theorem c_m_valueOf_1 (l : Launch) (G : kG) (D : Nat → Nat) (sa : Nat → Int64) (pa : Nat → Int64) (pn : Nat) (tx : Nat → Nat) (tn : Nat) (rf : Nat) (ro : Nat → Nat) (wk : Nat) (mb : Nat → Nat) (so : Nat) (kd : Nat → Nat) (nu : Nat → Nat) (it : Nat) (ti : Nat) (rd : Nat) (ad : Nat → Int64) (R : Nat) (sp : Bool) (K : Nat → Nat → Nat) (w : Nat → Nat) (y : Nat → Nat) (hmo : MOk sa R sp K w y) : kCM l yX7_valueOf wsX7_valueOf 5 118 0 0 G [.ref (D 0), vN (1)] (wMod G D sa pa pn tx tn rf ro wk mb so kd nu it ti rd ad) (fun vv uu => ∃ (ro2 : Nat → Nat), ∃ (wk2 : Nat), ∃ (mb2 : Nat → Nat), vv = some (vZ (val K w y R sp 1)) ∧ uu = wMod G D sa pa pn tx tn rf ro2 wk2 mb2 so kd nu it ti rd ad) := by
  refine kCM.of (cc := cX7_valueOf) (maxL := 2) (ret := (some .int)) (by decide) rfl (Nat.le_of_ble_eq_true rfl) ?_
  intro p e s m args below meth c A ls Qz hQ hin hm hw hl
  have hl : lv_has ls 2 [(0, .ref (D 0)), (1, vN (1))] := hl
  have i7 : ∀ w ∈ wsX70, w ∈ wsX7_valueOf := by decide +kernel
  have hb01 := bI_01 sp
  refine k_iload_n hm hl 1 rfl dX7_valueOf_0 ?_
  refine k_tsw (x := 1) (tgt := 49) hm dX7_valueOf_1 (by decide) (by decide) (by decide) rfl (by decide) ?_
  refine k_aload_n hm hl 0 rfl dX7_valueOf_49 ?_
  refine k_callVr (n := 0) (As := []) (rest := []) hm hw hl (c_m_last l G D sa pa pn tx tn rf ro wk mb so kd nu it ti rd ad R sp K w y (by first | assumption | omega)) gX7_valueOf_X7_last rfl (by decide +kernel) ⟨by decide, by decide⟩ (ci := 7) rfl 0 rfl [0, 1, 2, 3, 4, 5, 6, 7, 8] (by decide) rfl rfl rfl (by simp [Value.category]) ⟨by decide, by decide⟩ dX7_valueOf_50 (fun v H locs hp hw => ?_)
  obtain rfl := hp
  refine W.eq (g2 := F0 m 53 ls [vN (sumM (K (R - 1)) (w (R - 1)))]) rfl ?_
  exact k_iret (post := _) hm hQ rfl rfl hw (⟨ro, wk, mb, rfl, rfl⟩) (by omega) (by omega) dX7_valueOf_53
set_option maxHeartbeats 4000000 in
set_option maxRecDepth 100000 in
theorem c_m_valueOf_2 (l : Launch) (G : kG) (D : Nat → Nat) (sa : Nat → Int64) (pa : Nat → Int64) (pn : Nat) (tx : Nat → Nat) (tn : Nat) (rf : Nat) (ro : Nat → Nat) (wk : Nat) (mb : Nat → Nat) (so : Nat) (kd : Nat → Nat) (nu : Nat → Nat) (it : Nat) (ti : Nat) (rd : Nat) (ad : Nat → Int64) (R : Nat) (sp : Bool) (K : Nat → Nat → Nat) (w : Nat → Nat) (y : Nat → Nat) (hmo : MOk sa R sp K w y) : kCM l yX7_valueOf wsX7_valueOf 5 118 0 0 G [.ref (D 0), vN (2)] (wMod G D sa pa pn tx tn rf ro wk mb so kd nu it ti rd ad) (fun vv uu => ∃ (ro2 : Nat → Nat), ∃ (wk2 : Nat), ∃ (mb2 : Nat → Nat), vv = some (vZ (val K w y R sp 2)) ∧ uu = wMod G D sa pa pn tx tn rf ro2 wk2 mb2 so kd nu it ti rd ad) := by
  refine kCM.of (cc := cX7_valueOf) (maxL := 2) (ret := (some .int)) (by decide) rfl (Nat.le_of_ble_eq_true rfl) ?_
  intro p e s m args below meth c A ls Qz hQ hin hm hw hl
  have hl : lv_has ls 2 [(0, .ref (D 0)), (1, vN (2))] := hl
  have i7 : ∀ w ∈ wsX70, w ∈ wsX7_valueOf := by decide +kernel
  have hb01 := bI_01 sp
  refine k_iload_n hm hl 1 rfl dX7_valueOf_0 ?_
  refine k_tsw (x := 2) (tgt := 54) hm dX7_valueOf_1 (by decide) (by decide) (by decide) rfl (by decide) ?_
  refine k_aload_n hm hl 0 rfl dX7_valueOf_54 ?_
  refine k_iconstN hm 0 dX7_valueOf_55 ?_
  refine k_callV (n := 1) (As := [vN (0)]) (rest := []) (wr := []) hm hw hl (c_m_sumOf_0 l G D sa pa pn tx tn rf ro wk mb so kd nu it ti rd ad R sp K w y (by first | assumption | omega)) gX7_valueOf_X7_sumOf rfl (by decide +kernel) ⟨by decide, by decide⟩ (ci := 7) rfl 0 rfl [0, 1, 2, 3, 4, 5, 6, 7, 8] [] (by decide) rfl rfl (by decide) (by decide) rfl rfl (by simp [Value.category]) ⟨by decide, by decide⟩ dX7_valueOf_56 (fun v w1 H locs hp hw => ?_)
  obtain ⟨ro2_2, wk2_3, mb2_4, rfl, rfl⟩ := hp
  have hw := hw.sub (ws' := wMod G D sa pa pn tx tn rf ro2_2 wk2_3 mb2_4 so kd nu it ti rd ad) [0, 1, 2, 3, 4, 5, 6, 7, 8] (by decide) rfl
  refine W.eq (g2 := F0 m 59 ls [vN (sumR K w y 0 R)]) rfl ?_
  exact k_iret (post := _) hm hQ rfl rfl hw (⟨_, _, _, rfl, rfl⟩) (by omega) (by omega) dX7_valueOf_59
set_option maxHeartbeats 4000000 in
set_option maxRecDepth 100000 in
theorem c_m_valueOf_3 (l : Launch) (G : kG) (D : Nat → Nat) (sa : Nat → Int64) (pa : Nat → Int64) (pn : Nat) (tx : Nat → Nat) (tn : Nat) (rf : Nat) (ro : Nat → Nat) (wk : Nat) (mb : Nat → Nat) (so : Nat) (kd : Nat → Nat) (nu : Nat → Nat) (it : Nat) (ti : Nat) (rd : Nat) (ad : Nat → Int64) (R : Nat) (sp : Bool) (K : Nat → Nat → Nat) (w : Nat → Nat) (y : Nat → Nat) (hmo : MOk sa R sp K w y) : kCM l yX7_valueOf wsX7_valueOf 5 118 0 0 G [.ref (D 0), vN (3)] (wMod G D sa pa pn tx tn rf ro wk mb so kd nu it ti rd ad) (fun vv uu => ∃ (ro2 : Nat → Nat), ∃ (wk2 : Nat), ∃ (mb2 : Nat → Nat), vv = some (vZ (val K w y R sp 3)) ∧ uu = wMod G D sa pa pn tx tn rf ro2 wk2 mb2 so kd nu it ti rd ad) := by
  refine kCM.of (cc := cX7_valueOf) (maxL := 2) (ret := (some .int)) (by decide) rfl (Nat.le_of_ble_eq_true rfl) ?_
  intro p e s m args below meth c A ls Qz hQ hin hm hw hl
  have hl : lv_has ls 2 [(0, .ref (D 0)), (1, vN (3))] := hl
  have i7 : ∀ w ∈ wsX70, w ∈ wsX7_valueOf := by decide +kernel
  have hb01 := bI_01 sp
  refine k_iload_n hm hl 1 rfl dX7_valueOf_0 ?_
  refine k_tsw (x := 3) (tgt := 60) hm dX7_valueOf_1 (by decide) (by decide) (by decide) rfl (by decide) ?_
  refine k_aload_n hm hl 0 rfl dX7_valueOf_60 ?_
  refine k_bipushN hm 7 dX7_valueOf_61 rfl ?_
  refine k_callV (n := 1) (As := [vN (7)]) (rest := []) (wr := []) hm hw hl (c_m_sumOf_7 l G D sa pa pn tx tn rf ro wk mb so kd nu it ti rd ad R sp K w y (by first | assumption | omega)) gX7_valueOf_X7_sumOf rfl (by decide +kernel) ⟨by decide, by decide⟩ (ci := 7) rfl 0 rfl [0, 1, 2, 3, 4, 5, 6, 7, 8] [] (by decide) rfl rfl (by decide) (by decide) rfl rfl (by simp [Value.category]) ⟨by decide, by decide⟩ dX7_valueOf_63 (fun v w1 H locs hp hw => ?_)
  obtain ⟨ro2_2, wk2_3, mb2_4, rfl, rfl⟩ := hp
  have hw := hw.sub (ws' := wMod G D sa pa pn tx tn rf ro2_2 wk2_3 mb2_4 so kd nu it ti rd ad) [0, 1, 2, 3, 4, 5, 6, 7, 8] (by decide) rfl
  refine W.eq (g2 := F0 m 66 ls [vN (sumR K w y 7 R)]) rfl ?_
  exact k_iret (post := _) hm hQ rfl rfl hw (⟨_, _, _, rfl, rfl⟩) (by omega) (by omega) dX7_valueOf_66
set_option maxHeartbeats 4000000 in
set_option maxRecDepth 100000 in
theorem c_m_valueOf_4 (l : Launch) (G : kG) (D : Nat → Nat) (sa : Nat → Int64) (pa : Nat → Int64) (pn : Nat) (tx : Nat → Nat) (tn : Nat) (rf : Nat) (ro : Nat → Nat) (wk : Nat) (mb : Nat → Nat) (so : Nat) (kd : Nat → Nat) (nu : Nat → Nat) (it : Nat) (ti : Nat) (rd : Nat) (ad : Nat → Int64) (R : Nat) (sp : Bool) (K : Nat → Nat → Nat) (w : Nat → Nat) (y : Nat → Nat) (hmo : MOk sa R sp K w y) : kCM l yX7_valueOf wsX7_valueOf 5 118 0 0 G [.ref (D 0), vN (4)] (wMod G D sa pa pn tx tn rf ro wk mb so kd nu it ti rd ad) (fun vv uu => ∃ (ro2 : Nat → Nat), ∃ (wk2 : Nat), ∃ (mb2 : Nat → Nat), vv = some (vZ (val K w y R sp 4)) ∧ uu = wMod G D sa pa pn tx tn rf ro2 wk2 mb2 so kd nu it ti rd ad) := by
  refine kCM.of (cc := cX7_valueOf) (maxL := 2) (ret := (some .int)) (by decide) rfl (Nat.le_of_ble_eq_true rfl) ?_
  intro p e s m args below meth c A ls Qz hQ hin hm hw hl
  have hl : lv_has ls 2 [(0, .ref (D 0)), (1, vN (4))] := hl
  have i7 : ∀ w ∈ wsX70, w ∈ wsX7_valueOf := by decide +kernel
  have hb01 := bI_01 sp
  refine k_iload_n hm hl 1 rfl dX7_valueOf_0 ?_
  refine k_tsw (x := 4) (tgt := 67) hm dX7_valueOf_1 (by decide) (by decide) (by decide) rfl (by decide) ?_
  refine k_aload_n hm hl 0 rfl dX7_valueOf_67 ?_
  refine k_iconstN hm 5 dX7_valueOf_68 ?_
  refine k_callV (n := 1) (As := [vN (5)]) (rest := []) (wr := []) hm hw hl (c_m_sumOf_5 l G D sa pa pn tx tn rf ro wk mb so kd nu it ti rd ad R sp K w y (by first | assumption | omega)) gX7_valueOf_X7_sumOf rfl (by decide +kernel) ⟨by decide, by decide⟩ (ci := 7) rfl 0 rfl [0, 1, 2, 3, 4, 5, 6, 7, 8] [] (by decide) rfl rfl (by decide) (by decide) rfl rfl (by simp [Value.category]) ⟨by decide, by decide⟩ dX7_valueOf_69 (fun v w1 H locs hp hw => ?_)
  obtain ⟨ro2_2, wk2_3, mb2_4, rfl, rfl⟩ := hp
  have hw := hw.sub (ws' := wMod G D sa pa pn tx tn rf ro2_2 wk2_3 mb2_4 so kd nu it ti rd ad) [0, 1, 2, 3, 4, 5, 6, 7, 8] (by decide) rfl
  refine W.eq (g2 := F0 m 72 ls [vN (sumR K w y 5 R)]) rfl ?_
  exact k_iret (post := _) hm hQ rfl rfl hw (⟨_, _, _, rfl, rfl⟩) (by omega) (by omega) dX7_valueOf_72
set_option maxHeartbeats 4000000 in
set_option maxRecDepth 100000 in
theorem c_m_valueOf_5 (l : Launch) (G : kG) (D : Nat → Nat) (sa : Nat → Int64) (pa : Nat → Int64) (pn : Nat) (tx : Nat → Nat) (tn : Nat) (rf : Nat) (ro : Nat → Nat) (wk : Nat) (mb : Nat → Nat) (so : Nat) (kd : Nat → Nat) (nu : Nat → Nat) (it : Nat) (ti : Nat) (rd : Nat) (ad : Nat → Int64) (R : Nat) (sp : Bool) (K : Nat → Nat → Nat) (w : Nat → Nat) (y : Nat → Nat) (hmo : MOk sa R sp K w y) : kCM l yX7_valueOf wsX7_valueOf 5 118 0 0 G [.ref (D 0), vN (5)] (wMod G D sa pa pn tx tn rf ro wk mb so kd nu it ti rd ad) (fun vv uu => ∃ (ro2 : Nat → Nat), ∃ (wk2 : Nat), ∃ (mb2 : Nat → Nat), vv = some (vZ (val K w y R sp 5)) ∧ uu = wMod G D sa pa pn tx tn rf ro2 wk2 mb2 so kd nu it ti rd ad) := by
  refine kCM.of (cc := cX7_valueOf) (maxL := 2) (ret := (some .int)) (by decide) rfl (Nat.le_of_ble_eq_true rfl) ?_
  intro p e s m args below meth c A ls Qz hQ hin hm hw hl
  have hl : lv_has ls 2 [(0, .ref (D 0)), (1, vN (5))] := hl
  have i7 : ∀ w ∈ wsX70, w ∈ wsX7_valueOf := by decide +kernel
  have hb01 := bI_01 sp
  refine k_iload_n hm hl 1 rfl dX7_valueOf_0 ?_
  refine k_tsw (x := 5) (tgt := 73) hm dX7_valueOf_1 (by decide) (by decide) (by decide) rfl (by decide) ?_
  refine k_aload_n hm hl 0 rfl dX7_valueOf_73 ?_
  refine k_bipushN hm 6 dX7_valueOf_74 rfl ?_
  refine k_callV (n := 1) (As := [vN (6)]) (rest := []) (wr := []) hm hw hl (c_m_sumOf_6 l G D sa pa pn tx tn rf ro wk mb so kd nu it ti rd ad R sp K w y (by first | assumption | omega)) gX7_valueOf_X7_sumOf rfl (by decide +kernel) ⟨by decide, by decide⟩ (ci := 7) rfl 0 rfl [0, 1, 2, 3, 4, 5, 6, 7, 8] [] (by decide) rfl rfl (by decide) (by decide) rfl rfl (by simp [Value.category]) ⟨by decide, by decide⟩ dX7_valueOf_76 (fun v w1 H locs hp hw => ?_)
  obtain ⟨ro2_2, wk2_3, mb2_4, rfl, rfl⟩ := hp
  have hw := hw.sub (ws' := wMod G D sa pa pn tx tn rf ro2_2 wk2_3 mb2_4 so kd nu it ti rd ad) [0, 1, 2, 3, 4, 5, 6, 7, 8] (by decide) rfl
  refine W.eq (g2 := F0 m 79 ls [vN (sumR K w y 6 R)]) rfl ?_
  exact k_iret (post := _) hm hQ rfl rfl hw (⟨_, _, _, rfl, rfl⟩) (by omega) (by omega) dX7_valueOf_79
set_option maxHeartbeats 4000000 in
set_option maxRecDepth 100000 in
theorem c_m_valueOf_6 (l : Launch) (G : kG) (D : Nat → Nat) (sa : Nat → Int64) (pa : Nat → Int64) (pn : Nat) (tx : Nat → Nat) (tn : Nat) (rf : Nat) (ro : Nat → Nat) (wk : Nat) (mb : Nat → Nat) (so : Nat) (kd : Nat → Nat) (nu : Nat → Nat) (it : Nat) (ti : Nat) (rd : Nat) (ad : Nat → Int64) (R : Nat) (sp : Bool) (K : Nat → Nat → Nat) (w : Nat → Nat) (y : Nat → Nat) (hmo : MOk sa R sp K w y) : kCM l yX7_valueOf wsX7_valueOf 5 118 0 0 G [.ref (D 0), vN (6)] (wMod G D sa pa pn tx tn rf ro wk mb so kd nu it ti rd ad) (fun vv uu => ∃ (ro2 : Nat → Nat), ∃ (wk2 : Nat), ∃ (mb2 : Nat → Nat), vv = some (vZ (val K w y R sp 6)) ∧ uu = wMod G D sa pa pn tx tn rf ro2 wk2 mb2 so kd nu it ti rd ad) := by
  refine kCM.of (cc := cX7_valueOf) (maxL := 2) (ret := (some .int)) (by decide) rfl (Nat.le_of_ble_eq_true rfl) ?_
  intro p e s m args below meth c A ls Qz hQ hin hm hw hl
  have hl : lv_has ls 2 [(0, .ref (D 0)), (1, vN (6))] := hl
  have i7 : ∀ w ∈ wsX70, w ∈ wsX7_valueOf := by decide +kernel
  have hb01 := bI_01 sp
  refine k_iload_n hm hl 1 rfl dX7_valueOf_0 ?_
  refine k_tsw (x := 6) (tgt := 80) hm dX7_valueOf_1 (by decide) (by decide) (by decide) rfl (by decide) ?_
  refine k_aload_n hm hl 0 rfl dX7_valueOf_80 ?_
  refine k_callVr (n := 0) (As := []) (rest := []) hm hw hl (c_m_widest l G D sa pa pn tx tn rf ro wk mb so kd nu it ti rd ad R sp K w y (by first | assumption | omega)) gX7_valueOf_X7_widest rfl (by decide +kernel) ⟨by decide, by decide⟩ (ci := 7) rfl 0 rfl [0, 1, 2, 3, 4, 5, 6, 7, 8] (by decide) rfl rfl rfl (by simp [Value.category]) ⟨by decide, by decide⟩ dX7_valueOf_81 (fun v H locs hp hw => ?_)
  obtain ⟨b_2, rfl, hb_3⟩ := hp
  refine W.eq (g2 := F0 m 84 ls [vN (b_2)]) rfl ?_
  exact k_iret (post := _) hm hQ rfl rfl hw (⟨ro, wk, mb, by rw [wdF_of hb_3]; rfl, rfl⟩) (by omega) (by omega) dX7_valueOf_84
set_option maxHeartbeats 4000000 in
set_option maxRecDepth 100000 in
theorem c_m_valueOf_7 (l : Launch) (G : kG) (D : Nat → Nat) (sa : Nat → Int64) (pa : Nat → Int64) (pn : Nat) (tx : Nat → Nat) (tn : Nat) (rf : Nat) (ro : Nat → Nat) (wk : Nat) (mb : Nat → Nat) (so : Nat) (kd : Nat → Nat) (nu : Nat → Nat) (it : Nat) (ti : Nat) (rd : Nat) (ad : Nat → Int64) (R : Nat) (sp : Bool) (K : Nat → Nat → Nat) (w : Nat → Nat) (y : Nat → Nat) (hmo : MOk sa R sp K w y) : kCM l yX7_valueOf wsX7_valueOf 5 118 0 0 G [.ref (D 0), vN (7)] (wMod G D sa pa pn tx tn rf ro wk mb so kd nu it ti rd ad) (fun vv uu => ∃ (ro2 : Nat → Nat), ∃ (wk2 : Nat), ∃ (mb2 : Nat → Nat), vv = some (vZ (val K w y R sp 7)) ∧ uu = wMod G D sa pa pn tx tn rf ro2 wk2 mb2 so kd nu it ti rd ad) := by
  refine kCM.of (cc := cX7_valueOf) (maxL := 2) (ret := (some .int)) (by decide) rfl (Nat.le_of_ble_eq_true rfl) ?_
  intro p e s m args below meth c A ls Qz hQ hin hm hw hl
  have hl : lv_has ls 2 [(0, .ref (D 0)), (1, vN (7))] := hl
  have i7 : ∀ w ∈ wsX70, w ∈ wsX7_valueOf := by decide +kernel
  have hb01 := bI_01 sp
  refine k_iload_n hm hl 1 rfl dX7_valueOf_0 ?_
  refine k_tsd (x := 7) (tgt := 85) hm dX7_valueOf_1 (by decide) (by decide) (by decide) ?_
  refine k_aload_n hm hl 0 rfl dX7_valueOf_85 ?_
  refine k_get (T := TX7) hm hw 0 0 i7 rfl rfl (by decide) (by decide +kernel) rfl dX7_valueOf_86 ?_
  refine k_iconstN hm 1 dX7_valueOf_89 ?_
  refine k_lald hm hw 1 rfl (by omega) dX7_valueOf_90 ?_
  rw [show sa 1 = lI (bI sp) from hmo.2.2.1]
  refine k_l2i hm dX7_valueOf_91 ?_
  exact k_iret (post := _) hm hQ rfl rfl hw (⟨ro, wk, mb, rfl, rfl⟩) (by omega) (by omega) dX7_valueOf_92
set_option maxHeartbeats 4000000 in
set_option maxRecDepth 100000 in
theorem c_m_valueOf (l : Launch) (G : kG) (D : Nat → Nat) (sa : Nat → Int64) (pa : Nat → Int64) (pn : Nat) (tx : Nat → Nat) (tn : Nat) (rf : Nat) (ro : Nat → Nat) (wk : Nat) (mb : Nat → Nat) (so : Nat) (kd : Nat → Nat) (nu : Nat → Nat) (it : Nat) (ti : Nat) (rd : Nat) (ad : Nat → Int64) (R : Nat) (sp : Bool) (K : Nat → Nat → Nat) (w : Nat → Nat) (y : Nat → Nat) (x : Nat) (hmo : MOk sa R sp K w y) (hx : x ≤ 7) : kCM l yX7_valueOf wsX7_valueOf 5 118 0 0 G [.ref (D 0), vN (x)] (wMod G D sa pa pn tx tn rf ro wk mb so kd nu it ti rd ad) (fun vv uu => ∃ (ro2 : Nat → Nat), ∃ (wk2 : Nat), ∃ (mb2 : Nat → Nat), vv = some (vZ (val K w y R sp x)) ∧ uu = wMod G D sa pa pn tx tn rf ro2 wk2 mb2 so kd nu it ti rd ad) := by
  rcases (show x = 0 ∨ x = 1 ∨ x = 2 ∨ x = 3 ∨ x = 4 ∨ x = 5 ∨ x = 6 ∨ x = 7 by omega) with rfl | rfl | rfl | rfl | rfl | rfl | rfl | rfl
  · exact c_m_valueOf_0 l G D sa pa pn tx tn rf ro wk mb so kd nu it ti rd ad R sp K w y hmo
  · exact c_m_valueOf_1 l G D sa pa pn tx tn rf ro wk mb so kd nu it ti rd ad R sp K w y hmo
  · exact c_m_valueOf_2 l G D sa pa pn tx tn rf ro wk mb so kd nu it ti rd ad R sp K w y hmo
  · exact c_m_valueOf_3 l G D sa pa pn tx tn rf ro wk mb so kd nu it ti rd ad R sp K w y hmo
  · exact c_m_valueOf_4 l G D sa pa pn tx tn rf ro wk mb so kd nu it ti rd ad R sp K w y hmo
  · exact c_m_valueOf_5 l G D sa pa pn tx tn rf ro wk mb so kd nu it ti rd ad R sp K w y hmo
  · exact c_m_valueOf_6 l G D sa pa pn tx tn rf ro wk mb so kd nu it ti rd ad R sp K w y hmo
  · exact c_m_valueOf_7 l G D sa pa pn tx tn rf ro wk mb so kd nu it ti rd ad R sp K w y hmo
set_option maxHeartbeats 4000000 in
set_option maxRecDepth 100000 in
theorem c_m_value_ok (l : Launch) (G : kG) (D : Nat → Nat) (sa : Nat → Int64) (pa : Nat → Int64) (pn : Nat) (tx : Nat → Nat) (tn : Nat) (rf : Nat) (ro : Nat → Nat) (wk : Nat) (mb : Nat → Nat) (so : Nat) (kd : Nat → Nat) (nu : Nat → Nat) (it : Nat) (ti : Nat) (rd : Nat) (ad : Nat → Int64) (R : Nat) (sp : Bool) (K : Nat → Nat → Nat) (w : Nat → Nat) (y : Nat → Nat) (x : Nat) (hmo : MOk sa R sp K w y) (hx : x ≤ 7) : kCM l yX7_value wsX7_value 6 139 0 0 G [.ref (D 0), vN (x)] (wMod G D sa pa pn tx tn rf ro wk mb so kd nu it ti rd ad) (fun vv uu => ∃ (ro2 : Nat → Nat), ∃ (wk2 : Nat), ∃ (mb2 : Nat → Nat), vv = some (vZ (val K w y R sp x)) ∧ uu = wMod G D sa pa pn tx tn 0 ro2 wk2 mb2 so kd nu it ti rd ad) := by
  refine kCM.of (cc := cX7_value) (maxL := 2) (ret := (some .int)) (by decide) rfl (Nat.le_of_ble_eq_true rfl) ?_
  intro p e s m args below meth c A ls Qz hQ hin hm hw hl
  have hl : lv_has ls 2 [(0, .ref (D 0)), (1, vN (x))] := hl
  refine k_aload_n hm hl 0 rfl dX7_value_0 ?_
  refine k_iload_n hm hl 1 rfl dX7_value_1 ?_
  refine k_iconstN hm 0 dX7_value_2 ?_
  refine k_bipushN hm 7 dX7_value_3 rfl ?_
  refine k_callSr (n := 3) (As := [vN (x), vN (0), vN (7)]) (rest := [.ref (D 0)]) hm hw hl (c_m_in l G ((x : Nat) : Int) ((0 : Nat) : Int) ((7 : Nat) : Int) (by first | assumption | omega)) gX7_value_X7_in rfl (by decide +kernel) ⟨by decide, by decide⟩ [] (by decide) rfl rfl rfl (by simp [Value.category]) ⟨by decide, by decide⟩ dX7_value_5 (fun v H locs hp hw => ?_)
  obtain rfl := hp
  refine W.eq (g2 := F0 m 8 ls [vB (decide (((0 : Nat) : Int) ≤ ((x : Nat) : Int) ∧ ((x : Nat) : Int) ≤ ((7 : Nat) : Int))), .ref (D 0)]) rfl ?_
  refine k_ifeqB (tgt := 15) hm dX7_value_8 (by decide) (fun c_2 => absurd (of_decide_eq_false c_2) (by omega)) (fun c_2 => ?_)
  refine k_iconstN hm 0 dX7_value_11 ?_
  refine k_goto (tgt := 16) hm dX7_value_12 (by decide) ?_
  refine k_callV (n := 1) (As := [vN (0)]) (rest := []) (wr := []) hm hw hl (c_m_throwsAt l G D sa pa pn tx tn rf ro wk mb so kd nu it ti rd ad 0 (by first | assumption | omega)) gX7_value_X7_throwsAt rfl (by decide +kernel) ⟨by decide, by decide⟩ (ci := 7) rfl 0 rfl [0, 1, 2, 3, 4, 5, 6, 7, 8] [] (by decide) rfl rfl (by decide) (by decide) rfl rfl (by simp [Value.category]) ⟨by decide, by decide⟩ dX7_value_16 (fun v w1 H locs hp hw => ?_)
  obtain ⟨rfl, rfl⟩ := hp
  have hw := hw.sub (ws' := wMod G D sa pa pn tx tn 0 ro wk mb so kd nu it ti rd ad) [0, 1, 2, 3, 4, 5, 6, 7, 8] (by decide) rfl
  refine W.eq (g2 := F0 m 19 ls [vB (decide (0 < 0))]) rfl ?_
  refine k_ifeqB (tgt := 26) hm dX7_value_19 (by decide) (fun c_4 => ?_) (fun c_4 => absurd (of_decide_eq_true c_4) (by omega))
  refine k_aload_n hm hl 0 rfl dX7_value_26 ?_
  refine k_iload_n hm hl 1 rfl dX7_value_27 ?_
  refine k_callV (n := 1) (As := [vN (x)]) (rest := []) (wr := []) hm hw hl (c_m_valueOf l G D sa pa pn tx tn 0 ro wk mb so kd nu it ti rd ad R sp K w y x (by first | assumption | omega) (by first | assumption | omega)) gX7_value_X7_valueOf rfl (by decide +kernel) ⟨by decide, by decide⟩ (ci := 7) rfl 0 rfl [0, 1, 2, 3, 4, 5, 6, 7, 8] [] (by decide) rfl rfl (by decide) (by decide) rfl rfl (by simp [Value.category]) ⟨by decide, by decide⟩ dX7_value_28 (fun v w1 H locs hp hw => ?_)
  obtain ⟨ro2_6, wk2_7, mb2_8, rfl, rfl⟩ := hp
  have hw := hw.sub (ws' := wMod G D sa pa pn tx tn 0 ro2_6 wk2_7 mb2_8 so kd nu it ti rd ad) [0, 1, 2, 3, 4, 5, 6, 7, 8] (by decide) rfl
  refine W.eq (g2 := F0 m 31 ls [vZ (val K w y R sp x)]) rfl ?_
  exact k_iret (post := _) hm hQ rfl rfl hw (⟨_, _, _, rfl, rfl⟩) (by omega) (by omega) dX7_value_31
set_option maxHeartbeats 4000000 in
set_option maxRecDepth 100000 in
theorem c_m_value_x (l : Launch) (G : kG) (D : Nat → Nat) (sa : Nat → Int64) (pa : Nat → Int64) (pn : Nat) (tx : Nat → Nat) (tn : Nat) (rf : Nat) (ro : Nat → Nat) (wk : Nat) (mb : Nat → Nat) (so : Nat) (kd : Nat → Nat) (nu : Nat → Nat) (it : Nat) (ti : Nat) (rd : Nat) (ad : Nat → Int64) (z : Int) (hzz : -2147483648 ≤ z ∧ z < 2147483648) (hx : ¬ (0 ≤ z ∧ z ≤ 7)) : kCM l yX7_value wsX7_value 6 139 0 0 G [.ref (D 0), vZ (z)] (wMod G D sa pa pn tx tn rf ro wk mb so kd nu it ti rd ad) (fun vv uu => vv = some (vN (0)) ∧ uu = wMod G D sa pa pn tx tn 1 ro wk mb so kd nu it ti rd ad) := by
  refine kCM.of (cc := cX7_value) (maxL := 2) (ret := (some .int)) (by decide) rfl (Nat.le_of_ble_eq_true rfl) ?_
  intro p e s m args below meth c A ls Qz hQ hin hm hw hl
  have hl : lv_has ls 2 [(0, .ref (D 0)), (1, vZ (z))] := hl
  refine k_aload_n hm hl 0 rfl dX7_value_0 ?_
  refine k_iload_n hm hl 1 rfl dX7_value_1 ?_
  refine k_iconstN hm 0 dX7_value_2 ?_
  refine k_bipushN hm 7 dX7_value_3 rfl ?_
  refine k_callSr (n := 3) (As := [vZ (z), vN (0), vN (7)]) (rest := [.ref (D 0)]) hm hw hl (c_m_in l G z ((0 : Nat) : Int) ((7 : Nat) : Int) (by first | assumption | omega)) gX7_value_X7_in rfl (by decide +kernel) ⟨by decide, by decide⟩ [] (by decide) rfl rfl rfl (by simp [Value.category]) ⟨by decide, by decide⟩ dX7_value_5 (fun v H locs hp hw => ?_)
  obtain rfl := hp
  refine W.eq (g2 := F0 m 8 ls [vB (decide (((0 : Nat) : Int) ≤ z ∧ z ≤ ((7 : Nat) : Int))), .ref (D 0)]) rfl ?_
  refine k_ifeqB (tgt := 15) hm dX7_value_8 (by decide) (fun c_2 => ?_) (fun c_2 => absurd (of_decide_eq_true c_2) (by omega))
  refine k_iconstN hm 1 dX7_value_15 ?_
  refine k_callV (n := 1) (As := [vN (1)]) (rest := []) (wr := []) hm hw hl (c_m_throwsAt l G D sa pa pn tx tn rf ro wk mb so kd nu it ti rd ad 1 (by first | assumption | omega)) gX7_value_X7_throwsAt rfl (by decide +kernel) ⟨by decide, by decide⟩ (ci := 7) rfl 0 rfl [0, 1, 2, 3, 4, 5, 6, 7, 8] [] (by decide) rfl rfl (by decide) (by decide) rfl rfl (by simp [Value.category]) ⟨by decide, by decide⟩ dX7_value_16 (fun v w1 H locs hp hw => ?_)
  obtain ⟨rfl, rfl⟩ := hp
  have hw := hw.sub (ws' := wMod G D sa pa pn tx tn 1 ro wk mb so kd nu it ti rd ad) [0, 1, 2, 3, 4, 5, 6, 7, 8] (by decide) rfl
  refine W.eq (g2 := F0 m 19 ls [vB (decide (0 < 1))]) rfl ?_
  refine k_ifeqB (tgt := 26) hm dX7_value_19 (by decide) (fun c_4 => absurd (of_decide_eq_false c_4) (by omega)) (fun c_4 => ?_)
  refine k_iconstN hm 0 dX7_value_22 ?_
  refine k_goto (tgt := 31) hm dX7_value_23 (by decide) ?_
  exact k_iret (post := _) hm hQ rfl rfl hw (⟨rfl, rfl⟩) (by omega) (by omega) dX7_value_31
set_option maxHeartbeats 4000000 in
set_option maxRecDepth 100000 in
theorem c_m_stacks_x (l : Launch) (G : kG) (D : Nat → Nat) (sa : Nat → Int64) (pa : Nat → Int64) (pn : Nat) (tx : Nat → Nat) (tn : Nat) (rf : Nat) (ro : Nat → Nat) (wk : Nat) (mb : Nat → Nat) (so : Nat) (kd : Nat → Nat) (nu : Nat → Nat) (it : Nat) (ti : Nat) (rd : Nat) (ad : Nat → Int64) (z : Int) (x : Int) (hzz : -2147483648 ≤ z ∧ z < 2147483648) (hzx : -2147483648 ≤ x ∧ x < 2147483648) (hx : ¬ ((3 ≤ z ∧ z ≤ 120) ∧ 0 ≤ x ∧ x < 120)) : kCM l yX7_stacks wsX7_stacks 3 65 0 0 G [.ref (D 0), vZ (z), vZ (x)] (wMod G D sa pa pn tx tn rf ro wk mb so kd nu it ti rd ad) (fun vv uu => vv = some (vN (0)) ∧ uu = wMod G D sa pa pn tx tn 1 ro wk mb so kd nu it ti rd ad) := by
  refine kCM.of (cc := cX7_stacks) (maxL := 4) (ret := (some .int)) (by decide) rfl (Nat.le_of_ble_eq_true rfl) ?_
  intro p e s m args below meth c A ls Qz hQ hin hm hw hl
  have hl : lv_has ls 4 [(0, .ref (D 0)), (1, vZ (z)), (2, vZ (x))] := hl
  refine k_aload_n hm hl 0 rfl dX7_stacks_0 ?_
  refine k_iload_n hm hl 1 rfl dX7_stacks_1 ?_
  refine k_iconstN hm 3 dX7_stacks_2 ?_
  refine k_bipushN hm 120 dX7_stacks_3 rfl ?_
  refine k_callSr (n := 3) (As := [vZ (z), vN (3), vN (120)]) (rest := [.ref (D 0)]) hm hw hl (c_m_in l G z ((3 : Nat) : Int) ((120 : Nat) : Int) (by first | assumption | omega)) gX7_stacks_X7_in rfl (by decide +kernel) ⟨by decide, by decide⟩ [] (by decide) rfl rfl rfl (by simp [Value.category]) ⟨by decide, by decide⟩ dX7_stacks_5 (fun v H locs hp hw => ?_)
  obtain rfl := hp
  refine W.eq (g2 := F0 m 8 ls [vB (decide (((3 : Nat) : Int) ≤ z ∧ z ≤ ((120 : Nat) : Int))), .ref (D 0)]) rfl ?_
  refine k_ifeqB (tgt := 25) hm dX7_stacks_8 (by decide) (fun c_2 => ?_) (fun c_2 => ?_)
  · have c_2d := of_decide_eq_false c_2
    refine k_iconstN hm 1 dX7_stacks_25 ?_
    refine k_callV (n := 1) (As := [vN (1)]) (rest := []) (wr := []) hm hw hl (c_m_throwsAt l G D sa pa pn tx tn rf ro wk mb so kd nu it ti rd ad 1 (by first | assumption | omega)) gX7_stacks_X7_throwsAt rfl (by decide +kernel) ⟨by decide, by decide⟩ (ci := 7) rfl 0 rfl [0, 1, 2, 3, 4, 5, 6, 7, 8] [] (by decide) rfl rfl (by decide) (by decide) rfl rfl (by simp [Value.category]) ⟨by decide, by decide⟩ dX7_stacks_26 (fun v w1 H locs hp hw => ?_)
    obtain ⟨rfl, rfl⟩ := hp
    have hw := hw.sub (ws' := wMod G D sa pa pn tx tn 1 ro wk mb so kd nu it ti rd ad) [0, 1, 2, 3, 4, 5, 6, 7, 8] (by decide) rfl
    refine W.eq (g2 := F0 m 29 ls [vB (decide (0 < 1))]) rfl ?_
    refine k_ifeqB (tgt := 34) hm dX7_stacks_29 (by decide) (fun c_4 => absurd (of_decide_eq_false c_4) (by omega)) (fun c_4 => ?_)
    refine k_iconstN hm 0 dX7_stacks_32 ?_
    exact k_iret (post := _) hm hQ rfl rfl hw (⟨rfl, rfl⟩) (by omega) (by omega) dX7_stacks_33
  · have c_2d := of_decide_eq_true c_2
    refine k_iload_n hm hl 2 rfl dX7_stacks_11 ?_
    refine k_iconstN hm 0 dX7_stacks_12 ?_
    refine k_bipushN hm 119 dX7_stacks_13 rfl ?_
    refine k_callSr (n := 3) (As := [vZ (x), vN (0), vN (119)]) (rest := [.ref (D 0)]) hm hw hl (c_m_in l G x ((0 : Nat) : Int) ((119 : Nat) : Int) (by first | assumption | omega)) gX7_stacks_X7_in rfl (by decide +kernel) ⟨by decide, by decide⟩ [] (by decide) rfl rfl rfl (by simp [Value.category]) ⟨by decide, by decide⟩ dX7_stacks_15 (fun v H locs hp hw => ?_)
    obtain rfl := hp
    refine W.eq (g2 := F0 m 18 ls [vB (decide (((0 : Nat) : Int) ≤ x ∧ x ≤ ((119 : Nat) : Int))), .ref (D 0)]) rfl ?_
    refine k_ifeqB (tgt := 25) hm dX7_stacks_18 (by decide) (fun c_6 => ?_) (fun c_6 => absurd (of_decide_eq_true c_6) (by omega))
    refine k_iconstN hm 1 dX7_stacks_25 ?_
    refine k_callV (n := 1) (As := [vN (1)]) (rest := []) (wr := []) hm hw hl (c_m_throwsAt l G D sa pa pn tx tn rf ro wk mb so kd nu it ti rd ad 1 (by first | assumption | omega)) gX7_stacks_X7_throwsAt rfl (by decide +kernel) ⟨by decide, by decide⟩ (ci := 7) rfl 0 rfl [0, 1, 2, 3, 4, 5, 6, 7, 8] [] (by decide) rfl rfl (by decide) (by decide) rfl rfl (by simp [Value.category]) ⟨by decide, by decide⟩ dX7_stacks_26 (fun v w1 H locs hp hw => ?_)
    obtain ⟨rfl, rfl⟩ := hp
    have hw := hw.sub (ws' := wMod G D sa pa pn tx tn 1 ro wk mb so kd nu it ti rd ad) [0, 1, 2, 3, 4, 5, 6, 7, 8] (by decide) rfl
    refine W.eq (g2 := F0 m 29 ls [vB (decide (0 < 1))]) rfl ?_
    refine k_ifeqB (tgt := 34) hm dX7_stacks_29 (by decide) (fun c_8 => absurd (of_decide_eq_false c_8) (by omega)) (fun c_8 => ?_)
    refine k_iconstN hm 0 dX7_stacks_32 ?_
    exact k_iret (post := _) hm hQ rfl rfl hw (⟨rfl, rfl⟩) (by omega) (by omega) dX7_stacks_33
set_option maxHeartbeats 4000000 in
set_option maxRecDepth 100000 in
theorem c_m_stacks_no (l : Launch) (G : kG) (D : Nat → Nat) (sa : Nat → Int64) (pa : Nat → Int64) (pn : Nat) (tx : Nat → Nat) (tn : Nat) (rf : Nat) (ro : Nat → Nat) (wk : Nat) (mb : Nat → Nat) (so : Nat) (kd : Nat → Nat) (nu : Nat → Nat) (it : Nat) (ti : Nat) (rd : Nat) (ad : Nat → Int64) (R : Nat) (sp : Bool) (K : Nat → Nat → Nat) (w : Nat → Nat) (y : Nat → Nat) (t : Nat) (x : Nat) (hmo : MOk sa R sp K w y) (ht : 3 ≤ t ∧ t ≤ 120) (hx : x < 120) (hpo : ¬ isPo (sumM (K (R - 1)) (w (R - 1))) t) : kCM l yX7_stacks wsX7_stacks 3 65 0 0 G [.ref (D 0), vN (t), vN (x)] (wMod G D sa pa pn tx tn rf ro wk mb so kd nu it ti rd ad) (fun vv uu => vv = some (vZ (-1)) ∧ uu = wMod G D sa pa pn tx tn 0 ro wk mb so kd nu it ti rd ad) := by
  refine kCM.of (cc := cX7_stacks) (maxL := 4) (ret := (some .int)) (by decide) rfl (Nat.le_of_ble_eq_true rfl) ?_
  intro p e s m args below meth c A ls Qz hQ hin hm hw hl
  have hl : lv_has ls 4 [(0, .ref (D 0)), (1, vN (t)), (2, vN (x))] := hl
  have hR := hmo.1.1
  have hll := PVd_last hmo.1
  refine k_aload_n hm hl 0 rfl dX7_stacks_0 ?_
  refine k_iload_n hm hl 1 rfl dX7_stacks_1 ?_
  refine k_iconstN hm 3 dX7_stacks_2 ?_
  refine k_bipushN hm 120 dX7_stacks_3 rfl ?_
  refine k_callSr (n := 3) (As := [vN (t), vN (3), vN (120)]) (rest := [.ref (D 0)]) hm hw hl (c_m_in l G ((t : Nat) : Int) ((3 : Nat) : Int) ((120 : Nat) : Int) (by first | assumption | omega)) gX7_stacks_X7_in rfl (by decide +kernel) ⟨by decide, by decide⟩ [] (by decide) rfl rfl rfl (by simp [Value.category]) ⟨by decide, by decide⟩ dX7_stacks_5 (fun v H locs hp hw => ?_)
  obtain rfl := hp
  refine W.eq (g2 := F0 m 8 ls [vB (decide (((3 : Nat) : Int) ≤ ((t : Nat) : Int) ∧ ((t : Nat) : Int) ≤ ((120 : Nat) : Int))), .ref (D 0)]) rfl ?_
  refine k_ifeqB (tgt := 25) hm dX7_stacks_8 (by decide) (fun c_2 => absurd (of_decide_eq_false c_2) (by omega)) (fun c_2 => ?_)
  refine k_iload_n hm hl 2 rfl dX7_stacks_11 ?_
  refine k_iconstN hm 0 dX7_stacks_12 ?_
  refine k_bipushN hm 119 dX7_stacks_13 rfl ?_
  refine k_callSr (n := 3) (As := [vN (x), vN (0), vN (119)]) (rest := [.ref (D 0)]) hm hw hl (c_m_in l G ((x : Nat) : Int) ((0 : Nat) : Int) ((119 : Nat) : Int) (by first | assumption | omega)) gX7_stacks_X7_in rfl (by decide +kernel) ⟨by decide, by decide⟩ [] (by decide) rfl rfl rfl (by simp [Value.category]) ⟨by decide, by decide⟩ dX7_stacks_15 (fun v H locs hp hw => ?_)
  obtain rfl := hp
  refine W.eq (g2 := F0 m 18 ls [vB (decide (((0 : Nat) : Int) ≤ ((x : Nat) : Int) ∧ ((x : Nat) : Int) ≤ ((119 : Nat) : Int))), .ref (D 0)]) rfl ?_
  refine k_ifeqB (tgt := 25) hm dX7_stacks_18 (by decide) (fun c_4 => absurd (of_decide_eq_false c_4) (by omega)) (fun c_4 => ?_)
  refine k_iconstN hm 0 dX7_stacks_21 ?_
  refine k_goto (tgt := 26) hm dX7_stacks_22 (by decide) ?_
  refine k_callV (n := 1) (As := [vN (0)]) (rest := []) (wr := []) hm hw hl (c_m_throwsAt l G D sa pa pn tx tn rf ro wk mb so kd nu it ti rd ad 0 (by first | assumption | omega)) gX7_stacks_X7_throwsAt rfl (by decide +kernel) ⟨by decide, by decide⟩ (ci := 7) rfl 0 rfl [0, 1, 2, 3, 4, 5, 6, 7, 8] [] (by decide) rfl rfl (by decide) (by decide) rfl rfl (by simp [Value.category]) ⟨by decide, by decide⟩ dX7_stacks_26 (fun v w1 H locs hp hw => ?_)
  obtain ⟨rfl, rfl⟩ := hp
  have hw := hw.sub (ws' := wMod G D sa pa pn tx tn 0 ro wk mb so kd nu it ti rd ad) [0, 1, 2, 3, 4, 5, 6, 7, 8] (by decide) rfl
  refine W.eq (g2 := F0 m 29 ls [vB (decide (0 < 0))]) rfl ?_
  refine k_ifeqB (tgt := 34) hm dX7_stacks_29 (by decide) (fun c_6 => ?_) (fun c_6 => absurd (of_decide_eq_true c_6) (by omega))
  refine k_aload_n hm hl 0 rfl dX7_stacks_34 ?_
  refine k_callVr (n := 0) (As := []) (rest := []) hm hw hl (c_m_last l G D sa pa pn tx tn 0 ro wk mb so kd nu it ti rd ad R sp K w y (by first | assumption | omega)) gX7_stacks_X7_last rfl (by decide +kernel) ⟨by decide, by decide⟩ (ci := 7) rfl 0 rfl [0, 1, 2, 3, 4, 5, 6, 7, 8] (by decide) rfl rfl rfl (by simp [Value.category]) ⟨by decide, by decide⟩ dX7_stacks_35 (fun v H locs hp hw => ?_)
  obtain rfl := hp
  refine W.eq (g2 := F0 m 38 ls [vN (sumM (K (R - 1)) (w (R - 1)))]) rfl ?_
  refine k_istore_n hm hl [(3, vN (sumM (K (R - 1)) (w (R - 1)))), (0, .ref (D 0)), (1, vN (t)), (2, vN (x))] (by decide) rfl dX7_stacks_38 (fun ls hl => ?_)
  refine k_iload_n hm hl 2 rfl dX7_stacks_39 ?_
  refine k_iload_n hm hl 0 rfl dX7_stacks_40 ?_
  refine k_callSr (n := 2) (As := [vN (t), vN (sumM (K (R - 1)) (w (R - 1)))]) (rest := []) hm hw hl (c_m_isPossible l G t (sumM (K (R - 1)) (w (R - 1))) (by first | assumption | omega)) gX7_stacks_X7_isPossible rfl (by decide +kernel) ⟨by decide, by decide⟩ [] (by decide) rfl rfl rfl (by simp [Value.category]) ⟨by decide, by decide⟩ dX7_stacks_41 (fun v H locs hp hw => ?_)
  obtain ⟨b_9, rfl, hb_10⟩ := hp
  refine W.eq (g2 := F0 m 44 ls [vB (b_9)]) rfl ?_
  have hbp := hb_10
  refine k_rwV (y := vB (false)) (by rw [show b_9 = false from by cases hq : b_9 with | false => rfl | true => exact absurd (hbp.mp hq) hpo]) ?_
  refine k_ifneB (tgt := 49) hm dX7_stacks_44 (by decide) (fun c_11 => absurd c_11 (by decide)) (fun _ => ?_)
  refine k_iconst (n := -1) hm dX7_stacks_47 ?_
  exact k_iret (post := _) hm hQ rfl rfl hw (⟨rfl, rfl⟩) (by omega) (by omega) dX7_stacks_48
set_option maxHeartbeats 4000000 in
set_option maxRecDepth 100000 in
theorem c_m_stacks_ok (l : Launch) (G : kG) (D : Nat → Nat) (sa : Nat → Int64) (pa : Nat → Int64) (pn : Nat) (tx : Nat → Nat) (tn : Nat) (rf : Nat) (ro : Nat → Nat) (wk : Nat) (mb : Nat → Nat) (so : Nat) (kd : Nat → Nat) (nu : Nat → Nat) (it : Nat) (ti : Nat) (rd : Nat) (ad : Nat → Int64) (R : Nat) (sp : Bool) (K : Nat → Nat → Nat) (w : Nat → Nat) (y : Nat → Nat) (t : Nat) (x : Nat) (hmo : MOk sa R sp K w y) (ht : 3 ≤ t ∧ t ≤ 120) (hx : x < 120) (hpo : isPo (sumM (K (R - 1)) (w (R - 1))) t) : kCM l yX7_stacks wsX7_stacks 3 65 0 0 G [.ref (D 0), vN (t), vN (x)] (wMod G D sa pa pn tx tn rf ro wk mb so kd nu it ti rd ad) (fun vv uu => ∃ (ro2 : Nat → Nat), ∃ (wk2 : Nat), ∃ (mb2 : Nat → Nat), vv = some (vN (stkC (K (R - 1)) (w (R - 1)) (sumM (K (R - 1)) (w (R - 1))) t x)) ∧ uu = wMod G D sa pa pn tx tn 0 ro2 wk2 mb2 so kd nu it ti rd ad) := by
  refine kCM.of (cc := cX7_stacks) (maxL := 4) (ret := (some .int)) (by decide) rfl (Nat.le_of_ble_eq_true rfl) ?_
  intro p e s m args below meth c A ls Qz hQ hin hm hw hl
  have hl : lv_has ls 4 [(0, .ref (D 0)), (1, vN (t)), (2, vN (x))] := hl
  have hR := hmo.1.1
  have hll := PVd_last hmo.1
  have hk0 := hmo.1.2.1 (R - 1) (by omega)
  have hpm : 3 ≤ pm (sumM (K (R - 1)) (w (R - 1))) t ∧ pm (sumM (K (R - 1)) (w (R - 1))) t ≤ 120 := by unfold pm; split <;> omega
  have hrg := spR_ok (x := x) (show 3 ≤ (sumM (K (R - 1)) (w (R - 1))) ∧ (sumM (K (R - 1)) (w (R - 1))) ≤ 120 ∧ 3 ≤ t ∧ t ≤ 120 by omega) hpo
  refine k_aload_n hm hl 0 rfl dX7_stacks_0 ?_
  refine k_iload_n hm hl 1 rfl dX7_stacks_1 ?_
  refine k_iconstN hm 3 dX7_stacks_2 ?_
  refine k_bipushN hm 120 dX7_stacks_3 rfl ?_
  refine k_callSr (n := 3) (As := [vN (t), vN (3), vN (120)]) (rest := [.ref (D 0)]) hm hw hl (c_m_in l G ((t : Nat) : Int) ((3 : Nat) : Int) ((120 : Nat) : Int) (by first | assumption | omega)) gX7_stacks_X7_in rfl (by decide +kernel) ⟨by decide, by decide⟩ [] (by decide) rfl rfl rfl (by simp [Value.category]) ⟨by decide, by decide⟩ dX7_stacks_5 (fun v H locs hp hw => ?_)
  obtain rfl := hp
  refine W.eq (g2 := F0 m 8 ls [vB (decide (((3 : Nat) : Int) ≤ ((t : Nat) : Int) ∧ ((t : Nat) : Int) ≤ ((120 : Nat) : Int))), .ref (D 0)]) rfl ?_
  refine k_ifeqB (tgt := 25) hm dX7_stacks_8 (by decide) (fun c_2 => absurd (of_decide_eq_false c_2) (by omega)) (fun c_2 => ?_)
  refine k_iload_n hm hl 2 rfl dX7_stacks_11 ?_
  refine k_iconstN hm 0 dX7_stacks_12 ?_
  refine k_bipushN hm 119 dX7_stacks_13 rfl ?_
  refine k_callSr (n := 3) (As := [vN (x), vN (0), vN (119)]) (rest := [.ref (D 0)]) hm hw hl (c_m_in l G ((x : Nat) : Int) ((0 : Nat) : Int) ((119 : Nat) : Int) (by first | assumption | omega)) gX7_stacks_X7_in rfl (by decide +kernel) ⟨by decide, by decide⟩ [] (by decide) rfl rfl rfl (by simp [Value.category]) ⟨by decide, by decide⟩ dX7_stacks_15 (fun v H locs hp hw => ?_)
  obtain rfl := hp
  refine W.eq (g2 := F0 m 18 ls [vB (decide (((0 : Nat) : Int) ≤ ((x : Nat) : Int) ∧ ((x : Nat) : Int) ≤ ((119 : Nat) : Int))), .ref (D 0)]) rfl ?_
  refine k_ifeqB (tgt := 25) hm dX7_stacks_18 (by decide) (fun c_4 => absurd (of_decide_eq_false c_4) (by omega)) (fun c_4 => ?_)
  refine k_iconstN hm 0 dX7_stacks_21 ?_
  refine k_goto (tgt := 26) hm dX7_stacks_22 (by decide) ?_
  refine k_callV (n := 1) (As := [vN (0)]) (rest := []) (wr := []) hm hw hl (c_m_throwsAt l G D sa pa pn tx tn rf ro wk mb so kd nu it ti rd ad 0 (by first | assumption | omega)) gX7_stacks_X7_throwsAt rfl (by decide +kernel) ⟨by decide, by decide⟩ (ci := 7) rfl 0 rfl [0, 1, 2, 3, 4, 5, 6, 7, 8] [] (by decide) rfl rfl (by decide) (by decide) rfl rfl (by simp [Value.category]) ⟨by decide, by decide⟩ dX7_stacks_26 (fun v w1 H locs hp hw => ?_)
  obtain ⟨rfl, rfl⟩ := hp
  have hw := hw.sub (ws' := wMod G D sa pa pn tx tn 0 ro wk mb so kd nu it ti rd ad) [0, 1, 2, 3, 4, 5, 6, 7, 8] (by decide) rfl
  refine W.eq (g2 := F0 m 29 ls [vB (decide (0 < 0))]) rfl ?_
  refine k_ifeqB (tgt := 34) hm dX7_stacks_29 (by decide) (fun c_6 => ?_) (fun c_6 => absurd (of_decide_eq_true c_6) (by omega))
  refine k_aload_n hm hl 0 rfl dX7_stacks_34 ?_
  refine k_callVr (n := 0) (As := []) (rest := []) hm hw hl (c_m_last l G D sa pa pn tx tn 0 ro wk mb so kd nu it ti rd ad R sp K w y (by first | assumption | omega)) gX7_stacks_X7_last rfl (by decide +kernel) ⟨by decide, by decide⟩ (ci := 7) rfl 0 rfl [0, 1, 2, 3, 4, 5, 6, 7, 8] (by decide) rfl rfl rfl (by simp [Value.category]) ⟨by decide, by decide⟩ dX7_stacks_35 (fun v H locs hp hw => ?_)
  obtain rfl := hp
  refine W.eq (g2 := F0 m 38 ls [vN (sumM (K (R - 1)) (w (R - 1)))]) rfl ?_
  refine k_istore_n hm hl [(3, vN (sumM (K (R - 1)) (w (R - 1)))), (0, .ref (D 0)), (1, vN (t)), (2, vN (x))] (by decide) rfl dX7_stacks_38 (fun ls hl => ?_)
  refine k_iload_n hm hl 2 rfl dX7_stacks_39 ?_
  refine k_iload_n hm hl 0 rfl dX7_stacks_40 ?_
  refine k_callSr (n := 2) (As := [vN (t), vN (sumM (K (R - 1)) (w (R - 1)))]) (rest := []) hm hw hl (c_m_isPossible l G t (sumM (K (R - 1)) (w (R - 1))) (by first | assumption | omega)) gX7_stacks_X7_isPossible rfl (by decide +kernel) ⟨by decide, by decide⟩ [] (by decide) rfl rfl rfl (by simp [Value.category]) ⟨by decide, by decide⟩ dX7_stacks_41 (fun v H locs hp hw => ?_)
  obtain ⟨b_9, rfl, hb_10⟩ := hp
  refine W.eq (g2 := F0 m 44 ls [vB (b_9)]) rfl ?_
  have hbp := hb_10
  refine k_rwV (y := vB (true)) (by rw [hbp.mpr hpo]) ?_
  refine k_ifneB (tgt := 49) hm dX7_stacks_44 (by decide) (fun _ => ?_) (fun c_11 => absurd c_11 (by decide))
  refine k_aload_n hm hl 1 rfl dX7_stacks_49 ?_
  refine k_aload_n hm hl 1 rfl dX7_stacks_50 ?_
  refine k_callVr (n := 0) (As := []) (rest := [.ref (D 0)]) hm hw hl (c_m_rounds l G D sa pa pn tx tn 0 ro wk mb so kd nu it ti rd ad R sp K w y (by first | assumption | omega)) gX7_stacks_X7_rounds rfl (by decide +kernel) ⟨by decide, by decide⟩ (ci := 7) rfl 0 rfl [0, 1, 2, 3, 4, 5, 6, 7, 8] (by decide) rfl rfl rfl (by simp [Value.category]) ⟨by decide, by decide⟩ dX7_stacks_51 (fun v H locs hp hw => ?_)
  obtain rfl := hp
  refine W.eq (g2 := F0 m 54 ls [vN (R), .ref (D 0)]) rfl ?_
  refine k_iconstN hm 1 dX7_stacks_54 ?_
  refine k_isubN hm (by omega) dX7_stacks_55 ?_
  refine k_callV (n := 1) (As := [vN (R - 1)]) (rest := []) (wr := []) hm hw hl (c_m_laysMade l G D sa pa pn tx tn 0 ro wk mb so kd nu it ti rd ad R sp K w y (R - 1) (by first | assumption | omega) (by first | assumption | omega)) gX7_stacks_X7_laysMade rfl (by decide +kernel) ⟨by decide, by decide⟩ (ci := 7) rfl 0 rfl [0, 1, 2, 3, 4, 5, 6, 7, 8] [] (by decide) rfl rfl (by decide) (by decide) rfl rfl (by simp [Value.category]) ⟨by decide, by decide⟩ dX7_stacks_56 (fun v w1 H locs hp hw => ?_)
  obtain ⟨mb2_14, rfl, rfl, hmk_15⟩ := hp
  have hw := hw.sub (ws' := wMod G D sa pa pn tx tn 0 ro wk mb2_14 so kd nu it ti rd ad) [0, 1, 2, 3, 4, 5, 6, 7, 8] (by decide) rfl
  refine W.eq (g2 := F0 m 59 ls []) rfl ?_
  have hmk := hmk_15
  refine k_aload_n hm hl 1 rfl dX7_stacks_59 ?_
  refine k_iload_n hm hl 2 rfl dX7_stacks_60 ?_
  refine k_iload_n hm hl 0 rfl dX7_stacks_61 ?_
  refine k_iload_n hm hl 3 rfl dX7_stacks_62 ?_
  refine k_iload_n hm hl 2 rfl dX7_stacks_63 ?_
  refine k_iload_n hm hl 0 rfl dX7_stacks_64 ?_
  refine k_icmplt (tgt := 72) hm dX7_stacks_65 (by decide) (by omega) (fun c_16 => ?_) (fun c_16 => ?_)
  · refine k_iload_n hm hl 2 rfl dX7_stacks_72 ?_
    refine k_rwV (y := vN (pm (sumM (K (R - 1)) (w (R - 1))) t)) (by unfold pm; rw [if_neg (by omega)]) ?_
    have hml := Nat.mod_lt x (show 0 < pm (sumM (K (R - 1)) (w (R - 1))) t by omega)
    refine k_iremN hm (by omega) dX7_stacks_73 ?_
    refine k_callV (n := 3) (As := [vN (t), vN (sumM (K (R - 1)) (w (R - 1))), vN (x % (pm (sumM (K (R - 1)) (w (R - 1))) t))]) (rest := []) (wr := []) hm hw hl (c_m_spreads l G D sa pa pn tx tn 0 ro wk mb2_14 so kd nu it ti rd ad t (sumM (K (R - 1)) (w (R - 1))) (x % (pm (sumM (K (R - 1)) (w (R - 1))) t)) (by first | assumption | omega)) gX7_stacks_X7_spreads rfl (by decide +kernel) ⟨by decide, by decide⟩ (ci := 7) rfl 0 rfl [0, 1, 2, 3, 4, 5, 6, 7, 8] [] (by decide) rfl rfl (by decide) (by decide) rfl rfl (by simp [Value.category]) ⟨by decide, by decide⟩ dX7_stacks_74 (fun v w1 H locs hp hw => ?_)
    obtain ⟨ro2_18, rfl, rfl, hro_19⟩ := hp
    have hw := hw.sub (ws' := wMod G D sa pa pn tx tn 0 ro2_18 (pm (sumM (K (R - 1)) (w (R - 1))) t) mb2_14 so kd nu it ti rd ad) [0, 1, 2, 3, 4, 5, 6, 7, 8] (by decide) rfl
    refine W.eq (g2 := F0 m 77 ls []) rfl ?_
    have hro : ∀ i, i < pm (sumM (K (R - 1)) (w (R - 1))) t → ro2_18 i = spR (sumM (K (R - 1)) (w (R - 1))) t x i := fun i q => by rw [hro_19 i q]; unfold spR; rw [Nat.add_mod_mod]
    refine k_aload_n hm hl 1 rfl dX7_stacks_77 ?_
    have hUx : sumU ro2_18 (pm (sumM (K (R - 1)) (w (R - 1))) t) = sumU (spR (sumM (K (R - 1)) (w (R - 1))) t x) (pm (sumM (K (R - 1)) (w (R - 1))) t) := sumU_ext (fun j hj => hro j hj)
    refine k_callVr (n := 0) (As := []) (rest := []) hm hw hl (c_m_stacked l G D sa pa pn tx tn 0 ro2_18 (pm (sumM (K (R - 1)) (w (R - 1))) t) mb2_14 so kd nu it ti rd ad (by omega) (fun i q => by rw [hro i q]; exact hrg.1 i q) (by rw [hUx, hrg.2.1]; omega) (fun z q => by rw [hUx, hrg.2.1] at q; exact mkOk_le hmo.1 (show R - 1 < R by omega) hmk z q)) gX7_stacks_X7_stacked rfl (by decide +kernel) ⟨by decide, by decide⟩ (ci := 7) rfl 0 rfl [0, 1, 2, 3, 4, 5, 6, 7, 8] (by decide) rfl rfl rfl (by simp [Value.category]) ⟨by decide, by decide⟩ dX7_stacks_78 (fun v H locs hp hw => ?_)
    obtain rfl := hp
    refine W.eq (g2 := F0 m 81 ls [vN (nstk mb2_14 ro2_18 (pm (sumM (K (R - 1)) (w (R - 1))) t))]) rfl ?_
    refine k_rwV (y := vN (stkC (K (R - 1)) (w (R - 1)) (sumM (K (R - 1)) (w (R - 1))) t x)) (congrArg vN (by unfold stkC; rw [← nstk_mk hmk (by rw [hrg.2.1]; exact Nat.le_refl _)]; exact nstk_ext (fun i q => hro i q) (fun _ _ => rfl))) ?_
    exact k_iret (post := _) hm hQ rfl rfl hw (⟨_, _, _, rfl, rfl⟩) (by omega) (by omega) dX7_stacks_81
  · refine k_iload_n hm hl 0 rfl dX7_stacks_68 ?_
    refine k_goto (tgt := 73) hm dX7_stacks_69 (by decide) ?_
    refine k_rwV (y := vN (pm (sumM (K (R - 1)) (w (R - 1))) t)) (by unfold pm; rw [if_pos (by omega)]) ?_
    have hml := Nat.mod_lt x (show 0 < pm (sumM (K (R - 1)) (w (R - 1))) t by omega)
    refine k_iremN hm (by omega) dX7_stacks_73 ?_
    refine k_callV (n := 3) (As := [vN (t), vN (sumM (K (R - 1)) (w (R - 1))), vN (x % (pm (sumM (K (R - 1)) (w (R - 1))) t))]) (rest := []) (wr := []) hm hw hl (c_m_spreads l G D sa pa pn tx tn 0 ro wk mb2_14 so kd nu it ti rd ad t (sumM (K (R - 1)) (w (R - 1))) (x % (pm (sumM (K (R - 1)) (w (R - 1))) t)) (by first | assumption | omega)) gX7_stacks_X7_spreads rfl (by decide +kernel) ⟨by decide, by decide⟩ (ci := 7) rfl 0 rfl [0, 1, 2, 3, 4, 5, 6, 7, 8] [] (by decide) rfl rfl (by decide) (by decide) rfl rfl (by simp [Value.category]) ⟨by decide, by decide⟩ dX7_stacks_74 (fun v w1 H locs hp hw => ?_)
    obtain ⟨ro2_22, rfl, rfl, hro_23⟩ := hp
    have hw := hw.sub (ws' := wMod G D sa pa pn tx tn 0 ro2_22 (pm (sumM (K (R - 1)) (w (R - 1))) t) mb2_14 so kd nu it ti rd ad) [0, 1, 2, 3, 4, 5, 6, 7, 8] (by decide) rfl
    refine W.eq (g2 := F0 m 77 ls []) rfl ?_
    have hro : ∀ i, i < pm (sumM (K (R - 1)) (w (R - 1))) t → ro2_22 i = spR (sumM (K (R - 1)) (w (R - 1))) t x i := fun i q => by rw [hro_23 i q]; unfold spR; rw [Nat.add_mod_mod]
    refine k_aload_n hm hl 1 rfl dX7_stacks_77 ?_
    have hUx : sumU ro2_22 (pm (sumM (K (R - 1)) (w (R - 1))) t) = sumU (spR (sumM (K (R - 1)) (w (R - 1))) t x) (pm (sumM (K (R - 1)) (w (R - 1))) t) := sumU_ext (fun j hj => hro j hj)
    refine k_callVr (n := 0) (As := []) (rest := []) hm hw hl (c_m_stacked l G D sa pa pn tx tn 0 ro2_22 (pm (sumM (K (R - 1)) (w (R - 1))) t) mb2_14 so kd nu it ti rd ad (by omega) (fun i q => by rw [hro i q]; exact hrg.1 i q) (by rw [hUx, hrg.2.1]; omega) (fun z q => by rw [hUx, hrg.2.1] at q; exact mkOk_le hmo.1 (show R - 1 < R by omega) hmk z q)) gX7_stacks_X7_stacked rfl (by decide +kernel) ⟨by decide, by decide⟩ (ci := 7) rfl 0 rfl [0, 1, 2, 3, 4, 5, 6, 7, 8] (by decide) rfl rfl rfl (by simp [Value.category]) ⟨by decide, by decide⟩ dX7_stacks_78 (fun v H locs hp hw => ?_)
    obtain rfl := hp
    refine W.eq (g2 := F0 m 81 ls [vN (nstk mb2_14 ro2_22 (pm (sumM (K (R - 1)) (w (R - 1))) t))]) rfl ?_
    refine k_rwV (y := vN (stkC (K (R - 1)) (w (R - 1)) (sumM (K (R - 1)) (w (R - 1))) t x)) (congrArg vN (by unfold stkC; rw [← nstk_mk hmk (by rw [hrg.2.1]; exact Nat.le_refl _)]; exact nstk_ext (fun i q => hro i q) (fun _ _ => rfl))) ?_
    exact k_iret (post := _) hm hQ rfl rfl hw (⟨_, _, _, rfl, rfl⟩) (by omega) (by omega) dX7_stacks_81
theorem nt_up {t x k : Nat} (h : x < t) : ((x : Nat) : Int) + (if ((t - x : Nat) : Int) < (if ((k : Nat) : Int) < ((x : Nat) : Int) then ((k : Nat) : Int) else ((x : Nat) : Int)) then ((t - x : Nat) : Int) else (if ((k : Nat) : Int) < ((x : Nat) : Int) then ((k : Nat) : Int) else ((x : Nat) : Int))) = ((ntF t x k : Nat) : Int) := by
  have e1 : ∀ a b, Nat.min a b = min a b := fun _ _ => rfl
  unfold ntF
  rw [if_pos h, e1, e1]
  split <;> split <;> omega
theorem nt_dn {t x k : Nat} (h : t < x) : ((x : Nat) : Int) + (-(if ((x - t : Nat) : Int) < (if ((k : Nat) : Int) < ((x / 2 : Nat) : Int) then ((k : Nat) : Int) else ((x / 2 : Nat) : Int)) then ((x - t : Nat) : Int) else (if ((k : Nat) : Int) < ((x / 2 : Nat) : Int) then ((k : Nat) : Int) else ((x / 2 : Nat) : Int)))) = ((ntF t x k : Nat) : Int) := by
  have e1 : ∀ a b, Nat.min a b = min a b := fun _ _ => rfl
  have e2 : ∀ a b, Nat.max a b = max a b := fun _ _ => rfl
  unfold ntF
  rw [if_neg (show ¬ x < t by omega), e1, e2]
  split <;> split <;> omega
theorem isNs_nx {D : Nat → Nat → Nat} {i b : Nat} (h : isNs D (100 * (i / 20) + (1 + i % 20 + 1)) b) : isNs D (100 * ((i + 1) / 20) + (i + 1) % 20 + 1) b := by
  obtain ⟨s2, z2, a1, a2, a3, a4, a5, a6⟩ := h
  exact ⟨s2, z2, a1, a2, a3, a4, by omega, fun s3 z3 b1 b2 b3 b4 => a6 s3 z3 b1 b2 b3 (by omega)⟩
set_option maxHeartbeats 4000000 in
set_option maxRecDepth 100000 in
theorem c_m_roundsTo_x (l : Launch) (G : kG) (D : Nat → Nat) (sa : Nat → Int64) (pa : Nat → Int64) (pn : Nat) (tx : Nat → Nat) (tn : Nat) (rf : Nat) (ro : Nat → Nat) (wk : Nat) (mb : Nat → Nat) (so : Nat) (kd : Nat → Nat) (nu : Nat → Nat) (it : Nat) (ti : Nat) (rd : Nat) (ad : Nat → Int64) (z : Int) (x : Int) (hzz : -2147483648 ≤ z ∧ z < 2147483648) (hzx : -2147483648 ≤ x ∧ x < 2147483648) (hx : ¬ ((3 ≤ z ∧ z ≤ 120) ∧ 1 ≤ x ∧ x ≤ 60)) : kCM l yX7_roundsTo wsX7_roundsTo 3 65 0 0 G [.ref (D 0), vZ (z), vZ (x)] (wMod G D sa pa pn tx tn rf ro wk mb so kd nu it ti rd ad) (fun vv uu => vv = some (vN (0)) ∧ uu = wMod G D sa pa pn tx tn 1 ro wk mb so kd nu it ti rd ad) := by
  refine kCM.of (cc := cX7_roundsTo) (maxL := 5) (ret := (some .int)) (by decide) rfl (Nat.le_of_ble_eq_true rfl) ?_
  intro p e s m args below meth c A ls Qz hQ hin hm hw hl
  have hl : lv_has ls 5 [(0, .ref (D 0)), (1, vZ (z)), (2, vZ (x))] := hl
  refine k_aload_n hm hl 0 rfl dX7_roundsTo_0 ?_
  refine k_iload_n hm hl 1 rfl dX7_roundsTo_1 ?_
  refine k_iconstN hm 3 dX7_roundsTo_2 ?_
  refine k_bipushN hm 120 dX7_roundsTo_3 rfl ?_
  refine k_callSr (n := 3) (As := [vZ (z), vN (3), vN (120)]) (rest := [.ref (D 0)]) hm hw hl (c_m_in l G z ((3 : Nat) : Int) ((120 : Nat) : Int) (by first | assumption | omega)) gX7_roundsTo_X7_in rfl (by decide +kernel) ⟨by decide, by decide⟩ [] (by decide) rfl rfl rfl (by simp [Value.category]) ⟨by decide, by decide⟩ dX7_roundsTo_5 (fun v H locs hp hw => ?_)
  obtain rfl := hp
  refine W.eq (g2 := F0 m 8 ls [vB (decide (((3 : Nat) : Int) ≤ z ∧ z ≤ ((120 : Nat) : Int))), .ref (D 0)]) rfl ?_
  refine k_ifeqB (tgt := 25) hm dX7_roundsTo_8 (by decide) (fun c_2 => ?_) (fun c_2 => ?_)
  · have c_2d := of_decide_eq_false c_2
    refine k_iconstN hm 1 dX7_roundsTo_25 ?_
    refine k_callV (n := 1) (As := [vN (1)]) (rest := []) (wr := []) hm hw hl (c_m_throwsAt l G D sa pa pn tx tn rf ro wk mb so kd nu it ti rd ad 1 (by first | assumption | omega)) gX7_roundsTo_X7_throwsAt rfl (by decide +kernel) ⟨by decide, by decide⟩ (ci := 7) rfl 0 rfl [0, 1, 2, 3, 4, 5, 6, 7, 8] [] (by decide) rfl rfl (by decide) (by decide) rfl rfl (by simp [Value.category]) ⟨by decide, by decide⟩ dX7_roundsTo_26 (fun v w1 H locs hp hw => ?_)
    obtain ⟨rfl, rfl⟩ := hp
    have hw := hw.sub (ws' := wMod G D sa pa pn tx tn 1 ro wk mb so kd nu it ti rd ad) [0, 1, 2, 3, 4, 5, 6, 7, 8] (by decide) rfl
    refine W.eq (g2 := F0 m 29 ls [vB (decide (0 < 1))]) rfl ?_
    refine k_ifeqB (tgt := 34) hm dX7_roundsTo_29 (by decide) (fun c_4 => absurd (of_decide_eq_false c_4) (by omega)) (fun c_4 => ?_)
    refine k_iconstN hm 0 dX7_roundsTo_32 ?_
    exact k_iret (post := _) hm hQ rfl rfl hw (⟨rfl, rfl⟩) (by omega) (by omega) dX7_roundsTo_33
  · have c_2d := of_decide_eq_true c_2
    refine k_iload_n hm hl 2 rfl dX7_roundsTo_11 ?_
    refine k_iconstN hm 1 dX7_roundsTo_12 ?_
    refine k_bipushN hm 60 dX7_roundsTo_13 rfl ?_
    refine k_callSr (n := 3) (As := [vZ (x), vN (1), vN (60)]) (rest := [.ref (D 0)]) hm hw hl (c_m_in l G x ((1 : Nat) : Int) ((60 : Nat) : Int) (by first | assumption | omega)) gX7_roundsTo_X7_in rfl (by decide +kernel) ⟨by decide, by decide⟩ [] (by decide) rfl rfl rfl (by simp [Value.category]) ⟨by decide, by decide⟩ dX7_roundsTo_15 (fun v H locs hp hw => ?_)
    obtain rfl := hp
    refine W.eq (g2 := F0 m 18 ls [vB (decide (((1 : Nat) : Int) ≤ x ∧ x ≤ ((60 : Nat) : Int))), .ref (D 0)]) rfl ?_
    refine k_ifeqB (tgt := 25) hm dX7_roundsTo_18 (by decide) (fun c_6 => ?_) (fun c_6 => absurd (of_decide_eq_true c_6) (by omega))
    refine k_iconstN hm 1 dX7_roundsTo_25 ?_
    refine k_callV (n := 1) (As := [vN (1)]) (rest := []) (wr := []) hm hw hl (c_m_throwsAt l G D sa pa pn tx tn rf ro wk mb so kd nu it ti rd ad 1 (by first | assumption | omega)) gX7_roundsTo_X7_throwsAt rfl (by decide +kernel) ⟨by decide, by decide⟩ (ci := 7) rfl 0 rfl [0, 1, 2, 3, 4, 5, 6, 7, 8] [] (by decide) rfl rfl (by decide) (by decide) rfl rfl (by simp [Value.category]) ⟨by decide, by decide⟩ dX7_roundsTo_26 (fun v w1 H locs hp hw => ?_)
    obtain ⟨rfl, rfl⟩ := hp
    have hw := hw.sub (ws' := wMod G D sa pa pn tx tn 1 ro wk mb so kd nu it ti rd ad) [0, 1, 2, 3, 4, 5, 6, 7, 8] (by decide) rfl
    refine W.eq (g2 := F0 m 29 ls [vB (decide (0 < 1))]) rfl ?_
    refine k_ifeqB (tgt := 34) hm dX7_roundsTo_29 (by decide) (fun c_8 => absurd (of_decide_eq_false c_8) (by omega)) (fun c_8 => ?_)
    refine k_iconstN hm 0 dX7_roundsTo_32 ?_
    exact k_iret (post := _) hm hQ rfl rfl hw (⟨rfl, rfl⟩) (by omega) (by omega) dX7_roundsTo_33
set_option maxHeartbeats 4000000 in
set_option maxRecDepth 100000 in
theorem c_m_roundsTo_ok (l : Launch) (G : kG) (D : Nat → Nat) (sa : Nat → Int64) (pa : Nat → Int64) (pn : Nat) (tx : Nat → Nat) (tn : Nat) (rf : Nat) (ro : Nat → Nat) (wk : Nat) (mb : Nat → Nat) (so : Nat) (kd : Nat → Nat) (nu : Nat → Nat) (it : Nat) (ti : Nat) (rd : Nat) (ad : Nat → Int64) (R : Nat) (sp : Bool) (K : Nat → Nat → Nat) (w : Nat → Nat) (y : Nat → Nat) (t : Nat) (k : Nat) (hmo : MOk sa R sp K w y) (hs : 3 ≤ t ∧ t ≤ 120 ∧ 1 ≤ k ∧ k ≤ 60) : kCM l yX7_roundsTo wsX7_roundsTo 3 65 0 0 G [.ref (D 0), vN (t), vN (k)] (wMod G D sa pa pn tx tn rf ro wk mb so kd nu it ti rd ad) (fun vv uu => ∃ (n : Nat), vv = some (vN (n)) ∧ uu = wMod G D sa pa pn tx tn 0 ro wk mb so kd nu it ti rd ad ∧ (isRt t k (sumM (K (R - 1)) (w (R - 1))) n)) := by
  refine kCM.of (cc := cX7_roundsTo) (maxL := 5) (ret := (some .int)) (by decide) rfl (Nat.le_of_ble_eq_true rfl) ?_
  intro p e s m args below meth c A ls Qz hQ hin hm hw hl
  have hl : lv_has ls 5 [(0, .ref (D 0)), (1, vN (t)), (2, vN (k))] := hl
  have hR := hmo.1.1
  have hll := PVd_last hmo.1
  refine k_aload_n hm hl 0 rfl dX7_roundsTo_0 ?_
  refine k_iload_n hm hl 1 rfl dX7_roundsTo_1 ?_
  refine k_iconstN hm 3 dX7_roundsTo_2 ?_
  refine k_bipushN hm 120 dX7_roundsTo_3 rfl ?_
  refine k_callSr (n := 3) (As := [vN (t), vN (3), vN (120)]) (rest := [.ref (D 0)]) hm hw hl (c_m_in l G ((t : Nat) : Int) ((3 : Nat) : Int) ((120 : Nat) : Int) (by first | assumption | omega)) gX7_roundsTo_X7_in rfl (by decide +kernel) ⟨by decide, by decide⟩ [] (by decide) rfl rfl rfl (by simp [Value.category]) ⟨by decide, by decide⟩ dX7_roundsTo_5 (fun v H locs hp hw => ?_)
  obtain rfl := hp
  refine W.eq (g2 := F0 m 8 ls [vB (decide (((3 : Nat) : Int) ≤ ((t : Nat) : Int) ∧ ((t : Nat) : Int) ≤ ((120 : Nat) : Int))), .ref (D 0)]) rfl ?_
  refine k_ifeqB (tgt := 25) hm dX7_roundsTo_8 (by decide) (fun c_2 => absurd (of_decide_eq_false c_2) (by omega)) (fun c_2 => ?_)
  refine k_iload_n hm hl 2 rfl dX7_roundsTo_11 ?_
  refine k_iconstN hm 1 dX7_roundsTo_12 ?_
  refine k_bipushN hm 60 dX7_roundsTo_13 rfl ?_
  refine k_callSr (n := 3) (As := [vN (k), vN (1), vN (60)]) (rest := [.ref (D 0)]) hm hw hl (c_m_in l G ((k : Nat) : Int) ((1 : Nat) : Int) ((60 : Nat) : Int) (by first | assumption | omega)) gX7_roundsTo_X7_in rfl (by decide +kernel) ⟨by decide, by decide⟩ [] (by decide) rfl rfl rfl (by simp [Value.category]) ⟨by decide, by decide⟩ dX7_roundsTo_15 (fun v H locs hp hw => ?_)
  obtain rfl := hp
  refine W.eq (g2 := F0 m 18 ls [vB (decide (((1 : Nat) : Int) ≤ ((k : Nat) : Int) ∧ ((k : Nat) : Int) ≤ ((60 : Nat) : Int))), .ref (D 0)]) rfl ?_
  refine k_ifeqB (tgt := 25) hm dX7_roundsTo_18 (by decide) (fun c_4 => absurd (of_decide_eq_false c_4) (by omega)) (fun c_4 => ?_)
  refine k_iconstN hm 0 dX7_roundsTo_21 ?_
  refine k_goto (tgt := 26) hm dX7_roundsTo_22 (by decide) ?_
  refine k_callV (n := 1) (As := [vN (0)]) (rest := []) (wr := []) hm hw hl (c_m_throwsAt l G D sa pa pn tx tn rf ro wk mb so kd nu it ti rd ad 0 (by first | assumption | omega)) gX7_roundsTo_X7_throwsAt rfl (by decide +kernel) ⟨by decide, by decide⟩ (ci := 7) rfl 0 rfl [0, 1, 2, 3, 4, 5, 6, 7, 8] [] (by decide) rfl rfl (by decide) (by decide) rfl rfl (by simp [Value.category]) ⟨by decide, by decide⟩ dX7_roundsTo_26 (fun v w1 H locs hp hw => ?_)
  obtain ⟨rfl, rfl⟩ := hp
  have hw := hw.sub (ws' := wMod G D sa pa pn tx tn 0 ro wk mb so kd nu it ti rd ad) [0, 1, 2, 3, 4, 5, 6, 7, 8] (by decide) rfl
  refine W.eq (g2 := F0 m 29 ls [vB (decide (0 < 0))]) rfl ?_
  refine k_ifeqB (tgt := 34) hm dX7_roundsTo_29 (by decide) (fun c_6 => ?_) (fun c_6 => absurd (of_decide_eq_true c_6) (by omega))
  refine k_aload_n hm hl 0 rfl dX7_roundsTo_34 ?_
  refine k_callVr (n := 0) (As := []) (rest := []) hm hw hl (c_m_last l G D sa pa pn tx tn 0 ro wk mb so kd nu it ti rd ad R sp K w y (by first | assumption | omega)) gX7_roundsTo_X7_last rfl (by decide +kernel) ⟨by decide, by decide⟩ (ci := 7) rfl 0 rfl [0, 1, 2, 3, 4, 5, 6, 7, 8] (by decide) rfl rfl rfl (by simp [Value.category]) ⟨by decide, by decide⟩ dX7_roundsTo_35 (fun v H locs hp hw => ?_)
  obtain rfl := hp
  refine W.eq (g2 := F0 m 38 ls [vN (sumM (K (R - 1)) (w (R - 1)))]) rfl ?_
  refine k_istore_n hm hl [(3, vN (sumM (K (R - 1)) (w (R - 1)))), (0, .ref (D 0)), (1, vN (t)), (2, vN (k))] (by decide) rfl dX7_roundsTo_38 (fun ls hl => ?_)
  refine k_iconstN hm 0 dX7_roundsTo_39 ?_
  refine k_istore hm hl [(4, vN (0)), (3, vN (sumM (K (R - 1)) (w (R - 1)))), (0, .ref (D 0)), (1, vN (t)), (2, vN (k))] (by decide) rfl dX7_roundsTo_40 (fun ls hl => ?_)
  have loop_42 : ∀ (fu : Nat) (q : Nat) (n : Nat) (hq : q = itr t k (sumM (K (R - 1)) (w (R - 1))) n) (hq2 : 3 ≤ q ∧ q ≤ 120 ∧ Int.natAbs ((q : Int) - t) + n ≤ 120) (hne : ∀ j, j < n → itr t k (sumM (K (R - 1)) (w (R - 1))) j ≠ t) (H : Heap) (locs : List Loc) (ls : Array Slot), 121 - n < fu → kW G A s (wMod G D sa pa pn tx tn 0 ro wk mb so kd nu it ti rd ad) H locs → lv_has ls 5 [(0, .ref (D 0)), (1, vN (t)), (2, vN (k)), (3, vN (q)), (4, vN (n))] → W p l e { frames := 3, cells := 0, slots := 0, locals := 65 } s m args below meth c H locs 0 0 Qz (F0 m 42 ls []) := by
    intro fu
    induction fu with
    | zero => intro q n hq hq2 hne H locs ls hfu; exact absurd hfu (Nat.not_lt_zero _)
    | succ fu ih_42 =>
      intro q n hq hq2 hne H locs ls hfu hw hl
      refine k_iload_n hm hl 3 rfl dX7_roundsTo_42 ?_
      refine k_iload_n hm hl 1 rfl dX7_roundsTo_43 ?_
      refine k_icmpeq (tgt := 89) hm dX7_roundsTo_44 (by decide) (by omega) (fun c_8 => ?_) (fun c_8 => ?_)
      · refine k_iload hm hl 4 rfl dX7_roundsTo_89 ?_
        exact k_iret (post := _) hm hQ rfl rfl hw (⟨n, rfl, rfl, by rw [← hq]; omega, hne⟩) (by omega) (by omega) dX7_roundsTo_91
      · have hst := ntF_step (t := t) (x := q) (k := k) (by omega) (by omega) (by omega) (by omega)
        refine k_iload_n hm hl 3 rfl dX7_roundsTo_47 ?_
        refine k_iload_n hm hl 1 rfl dX7_roundsTo_48 ?_
        refine k_iload_n hm hl 3 rfl dX7_roundsTo_49 ?_
        refine k_icmple (tgt := 67) hm dX7_roundsTo_50 (by decide) (by omega) (fun c_9 => ?_) (fun c_9 => ?_)
        · refine k_iload_n hm hl 3 rfl dX7_roundsTo_67 ?_
          refine k_iload_n hm hl 1 rfl dX7_roundsTo_68 ?_
          refine k_isubN hm (by omega) dX7_roundsTo_69 ?_
          refine k_iload_n hm hl 2 rfl dX7_roundsTo_70 ?_
          refine k_iload_n hm hl 3 rfl dX7_roundsTo_71 ?_
          refine k_iconstN hm 2 dX7_roundsTo_72 ?_
          refine k_idivN hm (by omega) dX7_roundsTo_73 ?_
          refine k_callSr (n := 2) (As := [vN (k), vN (q / 2)]) (rest := [vN (q - t), vN (q)]) hm hw hl (c_m_least l G ((k : Nat) : Int) ((q / 2 : Nat) : Int) (by first | assumption | omega)) gX7_roundsTo_X7_least rfl (by decide +kernel) ⟨by decide, by decide⟩ [] (by decide) rfl rfl rfl (by simp [Value.category]) ⟨by decide, by decide⟩ dX7_roundsTo_74 (fun v H locs hp hw => ?_)
          obtain rfl := hp
          refine W.eq (g2 := F0 m 77 ls [vZ ((if ((k : Nat) : Int) < ((q / 2 : Nat) : Int) then ((k : Nat) : Int) else ((q / 2 : Nat) : Int))), vN (q - t), vN (q)]) rfl ?_
          refine k_callSr (n := 2) (As := [vN (q - t), vZ ((if ((k : Nat) : Int) < ((q / 2 : Nat) : Int) then ((k : Nat) : Int) else ((q / 2 : Nat) : Int)))]) (rest := [vN (q)]) hm hw hl (c_m_least l G ((q - t : Nat) : Int) (if ((k : Nat) : Int) < ((q / 2 : Nat) : Int) then ((k : Nat) : Int) else ((q / 2 : Nat) : Int)) (by first | assumption | omega)) gX7_roundsTo_X7_least rfl (by decide +kernel) ⟨by decide, by decide⟩ [] (by decide) rfl rfl rfl (by simp [Value.category]) ⟨by decide, by decide⟩ dX7_roundsTo_77 (fun v H locs hp hw => ?_)
          obtain rfl := hp
          refine W.eq (g2 := F0 m 80 ls [vZ ((if ((q - t : Nat) : Int) < (if ((k : Nat) : Int) < ((q / 2 : Nat) : Int) then ((k : Nat) : Int) else ((q / 2 : Nat) : Int)) then ((q - t : Nat) : Int) else (if ((k : Nat) : Int) < ((q / 2 : Nat) : Int) then ((k : Nat) : Int) else ((q / 2 : Nat) : Int)))), vN (q)]) rfl ?_
          refine k_ineg hm dX7_roundsTo_80 ?_
          refine k_iadd hm dX7_roundsTo_81 ?_
          refine k_rwV (y := vN (ntF t q k)) (congrArg vZ (nt_dn (by omega))) ?_
          refine k_istore_n hm hl [(3, vN (ntF t q k)), (0, .ref (D 0)), (1, vN (t)), (2, vN (k)), (4, vN (n))] (by decide) rfl dX7_roundsTo_82 (fun ls hl => ?_)
          refine k_iincN hm hl 4 1 rfl [(4, vN (n + 1)), (3, vN (ntF t q k)), (0, .ref (D 0)), (1, vN (t)), (2, vN (k))] (by decide) rfl dX7_roundsTo_83 (fun ls hl => ?_)
          refine k_goto (tgt := 42) hm dX7_roundsTo_86 (by decide) ?_
          exact ih_42  (ntF t q k) (n + 1) (by simp only [itr]; rw [hq]) (by omega) (fun j z => by rcases Nat.lt_or_ge j n with y1 | y1; exact hne j y1; rw [show j = n by omega, ← hq]; omega) _ _ _ (by omega) hw (lv_sub hl [2, 3, 4, 1, 0] rfl)
        · refine k_iload_n hm hl 1 rfl dX7_roundsTo_53 ?_
          refine k_iload_n hm hl 3 rfl dX7_roundsTo_54 ?_
          refine k_isubN hm (by omega) dX7_roundsTo_55 ?_
          refine k_iload_n hm hl 2 rfl dX7_roundsTo_56 ?_
          refine k_iload_n hm hl 3 rfl dX7_roundsTo_57 ?_
          refine k_callSr (n := 2) (As := [vN (k), vN (q)]) (rest := [vN (t - q), vN (q)]) hm hw hl (c_m_least l G ((k : Nat) : Int) ((q : Nat) : Int) (by first | assumption | omega)) gX7_roundsTo_X7_least rfl (by decide +kernel) ⟨by decide, by decide⟩ [] (by decide) rfl rfl rfl (by simp [Value.category]) ⟨by decide, by decide⟩ dX7_roundsTo_58 (fun v H locs hp hw => ?_)
          obtain rfl := hp
          refine W.eq (g2 := F0 m 61 ls [vZ ((if ((k : Nat) : Int) < ((q : Nat) : Int) then ((k : Nat) : Int) else ((q : Nat) : Int))), vN (t - q), vN (q)]) rfl ?_
          refine k_callSr (n := 2) (As := [vN (t - q), vZ ((if ((k : Nat) : Int) < ((q : Nat) : Int) then ((k : Nat) : Int) else ((q : Nat) : Int)))]) (rest := [vN (q)]) hm hw hl (c_m_least l G ((t - q : Nat) : Int) (if ((k : Nat) : Int) < ((q : Nat) : Int) then ((k : Nat) : Int) else ((q : Nat) : Int)) (by first | assumption | omega)) gX7_roundsTo_X7_least rfl (by decide +kernel) ⟨by decide, by decide⟩ [] (by decide) rfl rfl rfl (by simp [Value.category]) ⟨by decide, by decide⟩ dX7_roundsTo_61 (fun v H locs hp hw => ?_)
          obtain rfl := hp
          refine W.eq (g2 := F0 m 64 ls [vZ ((if ((t - q : Nat) : Int) < (if ((k : Nat) : Int) < ((q : Nat) : Int) then ((k : Nat) : Int) else ((q : Nat) : Int)) then ((t - q : Nat) : Int) else (if ((k : Nat) : Int) < ((q : Nat) : Int) then ((k : Nat) : Int) else ((q : Nat) : Int)))), vN (q)]) rfl ?_
          refine k_goto (tgt := 81) hm dX7_roundsTo_64 (by decide) ?_
          refine k_iadd hm dX7_roundsTo_81 ?_
          refine k_rwV (y := vN (ntF t q k)) (congrArg vZ (nt_up (by omega))) ?_
          refine k_istore_n hm hl [(3, vN (ntF t q k)), (0, .ref (D 0)), (1, vN (t)), (2, vN (k)), (4, vN (n))] (by decide) rfl dX7_roundsTo_82 (fun ls hl => ?_)
          refine k_iincN hm hl 4 1 rfl [(4, vN (n + 1)), (3, vN (ntF t q k)), (0, .ref (D 0)), (1, vN (t)), (2, vN (k))] (by decide) rfl dX7_roundsTo_83 (fun ls hl => ?_)
          refine k_goto (tgt := 42) hm dX7_roundsTo_86 (by decide) ?_
          exact ih_42  (ntF t q k) (n + 1) (by simp only [itr]; rw [hq]) (by omega) (fun j z => by rcases Nat.lt_or_ge j n with y1 | y1; exact hne j y1; rw [show j = n by omega, ← hq]; omega) _ _ _ (by omega) hw (lv_sub hl [2, 3, 4, 1, 0] rfl)
  exact loop_42 (121 - 0 + 1) (sumM (K (R - 1)) (w (R - 1))) 0 rfl (by omega) (fun j q => absurd q (by omega)) _ _ _ (Nat.lt_succ_self _) hw (lv_sub hl [2, 3, 4, 1, 0] rfl)
set_option maxHeartbeats 4000000 in
set_option maxRecDepth 100000 in
theorem c_m_nearestShape (l : Launch) (G : kG) (D : Nat → Nat) (sa : Nat → Int64) (pa : Nat → Int64) (pn : Nat) (tx : Nat → Nat) (tn : Nat) (rf : Nat) (ro : Nat → Nat) (wk : Nat) (mb : Nat → Nat) (so : Nat) (kd : Nat → Nat) (nu : Nat → Nat) (it : Nat) (ti : Nat) (rd : Nat) (ad : Nat → Int64) (R : Nat) (sp : Bool) (K : Nat → Nat → Nat) (w : Nat → Nat) (y : Nat → Nat) (hmo : MOk sa R sp K w y) : kCM l yX7_nearestShape wsX7_nearestShape 2 47 0 0 G [.ref (D 0)] (wMod G D sa pa pn tx tn rf ro wk mb so kd nu it ti rd ad) (fun vv uu => ∃ (b : Nat), vv = some (vN (b)) ∧ uu = wMod G D sa pa pn tx tn 0 ro wk mb so kd nu it ti rd ad ∧ (isNs (fun s z => difF (sumM (K 0) (w 0)) s z (fun r => sumM (K r) (w r)) R) 500 b)) := by
  refine kCM.of (cc := cX7_nearestShape) (maxL := 9) (ret := (some .int)) (by decide) rfl (Nat.le_of_ble_eq_true rfl) ?_
  intro p e s m args below meth c A ls Qz hQ hin hm hw hl
  have hl : lv_has ls 9 [(0, .ref (D 0))] := hl
  have i7 : ∀ w ∈ wsX70, w ∈ wsX7_nearestShape := by decide +kernel
  have hR := hmo.1.1
  have h0 := tot0_rng hmo.1
  refine k_aload_n hm hl 0 rfl dX7_nearestShape_0 ?_
  refine k_iconstN hm 0 dX7_nearestShape_1 ?_
  refine k_put (T := TX7) hm hw 0 5 (wMod G D sa pa pn tx tn 0 ro wk mb so kd nu it ti rd ad) i7 tyX7 tyX7_ok nmX7 rfl rfl (by decide) (by decide +kernel) rfl (tyX7_ok 5 (by decide)) rfl rfl (Nat.le_of_ble_eq_true rfl) rfl dX7_nearestShape_2 (fun H locs hw => ?_)
  refine k_iconst (n := -1) hm dX7_nearestShape_5 ?_
  refine k_istore_n hm hl [(1, vZ (-1)), (0, .ref (D 0))] (by decide) rfl dX7_nearestShape_6 (fun ls hl => ?_)
  refine k_iconstN hm 0 dX7_nearestShape_7 ?_
  refine k_istore_n hm hl [(2, vN (0)), (1, vZ (-1)), (0, .ref (D 0))] (by decide) rfl dX7_nearestShape_8 (fun ls hl => ?_)
  refine k_iconstN hm 0 dX7_nearestShape_9 ?_
  refine k_istore_n hm hl [(3, vN (0)), (2, vN (0)), (1, vZ (-1)), (0, .ref (D 0))] (by decide) rfl dX7_nearestShape_10 (fun ls hl => ?_)
  have loop_11 : ∀ (fu : Nat) (best : Int) (least : Nat) (i : Nat) (hi : i ≤ 100) (hns : (best = -1 ∧ least = 0 ∧ i = 0) ∨ (∃ b : Nat, best = (b : Int) ∧ isNs (fun s z => difF (sumM (K 0) (w 0)) s z (fun r => sumM (K r) (w r)) R) (100 * (i / 20) + i % 20 + 1) b ∧ ∃ s1 z1, s1 < 5 ∧ 1 ≤ z1 ∧ z1 ≤ 20 ∧ b = 100 * s1 + z1 ∧ least = difF (sumM (K 0) (w 0)) s1 z1 (fun r => sumM (K r) (w r)) R)) (H : Heap) (locs : List Loc) (ls : Array Slot), 100 - i < fu → kW G A s (wMod G D sa pa pn tx tn 0 ro wk mb so kd nu it ti rd ad) H locs → lv_has ls 9 [(0, .ref (D 0)), (1, vZ (best)), (2, vN (least)), (3, vN (i))] → W p l e { frames := 2, cells := 0, slots := 0, locals := 47 } s m args below meth c H locs 0 0 Qz (F0 m 11 ls []) := by
    intro fu
    induction fu with
    | zero => intro best least i hi hns H locs ls hfu; exact absurd hfu (Nat.not_lt_zero _)
    | succ fu ih_11 =>
      intro best least i hi hns H locs ls hfu hw hl
      refine k_iload_n hm hl 3 rfl dX7_nearestShape_11 ?_
      refine k_bipushN hm 100 dX7_nearestShape_12 rfl ?_
      refine k_icmpge (tgt := 143) hm dX7_nearestShape_14 (by decide) (by omega) (fun c_1 => ?_) (fun c_1 => ?_)
      · obtain ⟨b, rfl, hb⟩ : ∃ b : Nat, best = (b : Int) ∧ isNs (fun s z => difF (sumM (K 0) (w 0)) s z (fun r => sumM (K r) (w r)) R) 500 b := hns.elim (fun z => by omega) (fun ⟨b, q1, q2, q3⟩ => ⟨b, q1, isNs_end (by rw [show i = 100 by omega] at q2; exact q2)⟩)
        refine k_iload_n hm hl 1 rfl dX7_nearestShape_143 ?_
        exact k_iret (post := _) hm hQ rfl rfl hw (⟨b, rfl, rfl, hb⟩) (by omega) (by omega) dX7_nearestShape_144
      · refine k_iload_n hm hl 3 rfl dX7_nearestShape_17 ?_
        refine k_bipushN hm 20 dX7_nearestShape_18 rfl ?_
        refine k_idivN hm (by omega) dX7_nearestShape_20 ?_
        refine k_nmN (fun sh_2 esh_2 => ?_)
        refine k_istore hm hl [(4, vN (sh_2)), (0, .ref (D 0)), (1, vZ (best)), (2, vN (least)), (3, vN (i))] (by decide) rfl dX7_nearestShape_21 (fun ls hl => ?_)
        refine k_iconstN hm 1 dX7_nearestShape_23 ?_
        refine k_iload_n hm hl 4 rfl dX7_nearestShape_24 ?_
        refine k_bipushN hm 20 dX7_nearestShape_25 rfl ?_
        refine k_iremN hm (by omega) dX7_nearestShape_27 ?_
        refine k_iaddN hm dX7_nearestShape_28 ?_
        refine k_nmN (fun sz_3 esz_3 => ?_)
        have hbl : -1 ≤ best ∧ best ≤ 1000 ∧ least ≤ 120 * R := hns.elim (fun z => by omega) (fun ⟨b, q1, q2, s1, z1, q3, q4, q5, q6, q7⟩ => ⟨by omega, by omega, by rw [q7]; exact difF_le h0 (fun i hi => (hmo.1.2.1 i hi).2.1.2)⟩)
        refine k_istore hm hl [(5, vN (sz_3)), (4, vN (sh_2)), (0, .ref (D 0)), (1, vZ (best)), (2, vN (least)), (3, vN (i))] (by decide) rfl dX7_nearestShape_29 (fun ls hl => ?_)
        refine k_iconstN hm 0 dX7_nearestShape_31 ?_
        refine k_istore hm hl [(6, vN (0)), (5, vN (sz_3)), (4, vN (sh_2)), (0, .ref (D 0)), (1, vZ (best)), (2, vN (least)), (3, vN (i))] (by decide) rfl dX7_nearestShape_32 (fun ls hl => ?_)
        refine k_iconstN hm 0 dX7_nearestShape_34 ?_
        refine k_istore hm hl [(7, vN (0)), (6, vN (0)), (5, vN (sz_3)), (4, vN (sh_2)), (0, .ref (D 0)), (1, vZ (best)), (2, vN (least)), (3, vN (i))] (by decide) rfl dX7_nearestShape_35 (fun ls hl => ?_)
        have loop_37 : ∀ (fu : Nat) (t : Nat) (r : Nat) (hr : r ≤ R) (ht : t = difF (sumM (K 0) (w 0)) sh_2 sz_3 (fun r => sumM (K r) (w r)) r) (H : Heap) (locs : List Loc) (ls : Array Slot), R - r < fu → kW G A s (wMod G D sa pa pn tx tn 0 ro wk mb so kd nu it ti rd ad) H locs → lv_has ls 9 [(0, .ref (D 0)), (1, vZ (best)), (2, vN (least)), (3, vN (i)), (4, vN (sh_2)), (5, vN (sz_3)), (6, vN (t)), (7, vN (r))] → W p l e { frames := 2, cells := 0, slots := 0, locals := 47 } s m args below meth c H locs 0 0 Qz (F0 m 37 ls []) := by
          intro fu
          induction fu with
          | zero => intro t r hr ht H locs ls hfu; exact absurd hfu (Nat.not_lt_zero _)
          | succ fu ih_37 =>
            intro t r hr ht H locs ls hfu hw hl
            refine k_iload hm hl 7 rfl dX7_nearestShape_37 ?_
            refine k_aload_n hm hl 0 rfl dX7_nearestShape_39 ?_
            refine k_callVr (n := 0) (As := []) (rest := [vN (r)]) hm hw hl (c_m_rounds l G D sa pa pn tx tn 0 ro wk mb so kd nu it ti rd ad R sp K w y (by first | assumption | omega)) gX7_nearestShape_X7_rounds rfl (by decide +kernel) ⟨by decide, by decide⟩ (ci := 7) rfl 0 rfl [0, 1, 2, 3, 4, 5, 6, 7, 8] (by decide) rfl rfl rfl (by simp [Value.category]) ⟨by decide, by decide⟩ dX7_nearestShape_40 (fun v H locs hp hw => ?_)
            obtain rfl := hp
            refine W.eq (g2 := F0 m 43 ls [vN (R), vN (r)]) rfl ?_
            refine k_icmpge (tgt := 89) hm dX7_nearestShape_43 (by decide) (by omega) (fun c_5 => ?_) (fun c_5 => ?_)
            · have hdl := difF_le (sh := sh_2) (sz := sz_3) (t := (fun r => sumM (K r) (w r))) (n := r) h0 (fun i hi => (hmo.1.2.1 i (by omega)).2.1.2)
              refine k_iload_n hm hl 1 rfl dX7_nearestShape_89 ?_
              refine k_iconst (n := -1) hm dX7_nearestShape_90 ?_
              refine k_icmpeq (tgt := 100) hm dX7_nearestShape_91 (by decide) (by omega) (fun c_6 => ?_) (fun c_6 => ?_)
              · refine k_iconstN hm 1 dX7_nearestShape_100 ?_
                refine k_goto (tgt := 105) hm dX7_nearestShape_101 (by decide) ?_
                refine k_istore hm hl [(7, vN (1)), (0, .ref (D 0)), (1, vZ (best)), (2, vN (least)), (3, vN (i)), (4, vN (sh_2)), (5, vN (sz_3)), (6, vN (t))] (by decide) rfl dX7_nearestShape_105 (fun ls hl => ?_)
                refine k_iload hm hl 0 rfl dX7_nearestShape_107 ?_
                refine k_ifeq (tgt := 123) hm dX7_nearestShape_109 (by decide) (by omega) (fun c_7 => absurd c_7 (by omega)) (fun c_7 => ?_)
                refine k_bipushN hm 100 dX7_nearestShape_112 rfl ?_
                refine k_iload hm hl 5 rfl dX7_nearestShape_114 ?_
                refine k_imulN hm dX7_nearestShape_116 ?_
                refine k_iload hm hl 6 rfl dX7_nearestShape_117 ?_
                refine k_iaddN hm dX7_nearestShape_119 ?_
                refine k_goto (tgt := 124) hm dX7_nearestShape_120 (by decide) ?_
                refine k_istore_n hm hl [(1, vN ((100 * sh_2) + sz_3)), (7, vN (1)), (0, .ref (D 0)), (2, vN (least)), (3, vN (i)), (4, vN (sh_2)), (5, vN (sz_3)), (6, vN (t))] (by decide) rfl dX7_nearestShape_124 (fun ls hl => ?_)
                refine k_iload hm hl 1 rfl dX7_nearestShape_125 ?_
                refine k_ifeq (tgt := 135) hm dX7_nearestShape_127 (by decide) (by omega) (fun c_8 => absurd c_8 (by omega)) (fun c_8 => ?_)
                refine k_iload hm hl 7 rfl dX7_nearestShape_130 ?_
                refine k_goto (tgt := 136) hm dX7_nearestShape_132 (by decide) ?_
                refine k_istore_n hm hl [(2, vN (t)), (1, vN ((100 * sh_2) + sz_3)), (7, vN (1)), (0, .ref (D 0)), (3, vN (i)), (4, vN (sh_2)), (5, vN (sz_3)), (6, vN (t))] (by decide) rfl dX7_nearestShape_136 (fun ls hl => ?_)
                refine k_iincN hm hl 4 1 rfl [(3, vN (i + 1)), (2, vN (t)), (1, vN ((100 * sh_2) + sz_3)), (7, vN (1)), (0, .ref (D 0)), (4, vN (sh_2)), (5, vN (sz_3)), (6, vN (t))] (by decide) rfl dX7_nearestShape_137 (fun ls hl => ?_)
                refine k_goto (tgt := 11) hm dX7_nearestShape_140 (by decide) ?_
                exact ih_11  (((100 * sh_2) + sz_3 : Nat) : Int) t (i + 1) (by first | assumption | omega) (by
                              rcases hns with ⟨q1, q2, q3⟩ | ⟨b, q1, q2, s1, z1, q3, q4, q5, q6, q7⟩
                              · have e1 : sh_2 = 0 := by omega
                                have e2 : sz_3 = 1 := by omega
                                refine Or.inr ⟨_, rfl, isNs_nx ?_, sh_2, sz_3, by omega, by omega, by omega, rfl, by rw [ht, show r = R by omega]⟩
                                rw [e1, e2, q3]; exact isNs_0
                              · refine Or.inr ⟨_, rfl, isNs_nx ?_, sh_2, sz_3, by omega, by omega, by omega, rfl, by rw [ht, show r = R by omega]⟩
                                rw [← esh_2, ← esz_3]
                                refine isNs_new (by rw [show 100 * sh_2 + sz_3 = 100 * (i / 20) + i % 20 + 1 by omega]; exact q2) q6 ⟨q4, q5⟩ (by omega) ?_
                                show difF (sumM (K 0) (w 0)) sh_2 sz_3 (fun r => sumM (K r) (w r)) R < difF (sumM (K 0) (w 0)) s1 z1 (fun r => sumM (K r) (w r)) R
                                rw [← q7, show R = r by omega, ← ht]; omega) _ _ _ (by omega) hw (lv_sub hl [4, 2, 1, 0] rfl)
              · refine k_iload hm hl 6 rfl dX7_nearestShape_94 ?_
                refine k_iload_n hm hl 2 rfl dX7_nearestShape_96 ?_
                refine k_icmpge (tgt := 104) hm dX7_nearestShape_97 (by decide) (by omega) (fun c_9 => ?_) (fun c_9 => ?_)
                · refine k_iconstN hm 0 dX7_nearestShape_104 ?_
                  refine k_istore hm hl [(7, vN (0)), (0, .ref (D 0)), (1, vZ (best)), (2, vN (least)), (3, vN (i)), (4, vN (sh_2)), (5, vN (sz_3)), (6, vN (t))] (by decide) rfl dX7_nearestShape_105 (fun ls hl => ?_)
                  refine k_iload hm hl 0 rfl dX7_nearestShape_107 ?_
                  refine k_ifeq (tgt := 123) hm dX7_nearestShape_109 (by decide) (by omega) (fun c_10 => ?_) (fun c_10 => absurd c_10 (by omega))
                  refine k_iload_n hm hl 2 rfl dX7_nearestShape_123 ?_
                  refine k_istore_n hm hl [(1, vZ (best)), (7, vN (0)), (0, .ref (D 0)), (2, vN (least)), (3, vN (i)), (4, vN (sh_2)), (5, vN (sz_3)), (6, vN (t))] (by decide) rfl dX7_nearestShape_124 (fun ls hl => ?_)
                  refine k_iload hm hl 1 rfl dX7_nearestShape_125 ?_
                  refine k_ifeq (tgt := 135) hm dX7_nearestShape_127 (by decide) (by omega) (fun c_11 => ?_) (fun c_11 => absurd c_11 (by omega))
                  refine k_iload_n hm hl 3 rfl dX7_nearestShape_135 ?_
                  refine k_istore_n hm hl [(2, vN (least)), (1, vZ (best)), (7, vN (0)), (0, .ref (D 0)), (3, vN (i)), (4, vN (sh_2)), (5, vN (sz_3)), (6, vN (t))] (by decide) rfl dX7_nearestShape_136 (fun ls hl => ?_)
                  refine k_iincN hm hl 4 1 rfl [(3, vN (i + 1)), (2, vN (least)), (1, vZ (best)), (7, vN (0)), (0, .ref (D 0)), (4, vN (sh_2)), (5, vN (sz_3)), (6, vN (t))] (by decide) rfl dX7_nearestShape_137 (fun ls hl => ?_)
                  refine k_goto (tgt := 11) hm dX7_nearestShape_140 (by decide) ?_
                  exact ih_11  best least (i + 1) (by first | assumption | omega) (by
                              rcases hns with ⟨q1, q2, q3⟩ | ⟨b, q1, q2, s1, z1, q3, q4, q5, q6, q7⟩
                              · omega
                              · refine Or.inr ⟨b, q1, isNs_nx ?_, s1, z1, q3, q4, q5, q6, q7⟩
                                rw [← esh_2, ← esz_3]
                                refine isNs_keep (by rw [show 100 * sh_2 + sz_3 = 100 * (i / 20) + i % 20 + 1 by omega]; exact q2) q6 ⟨q4, q5⟩ (by omega) ?_
                                show difF (sumM (K 0) (w 0)) s1 z1 (fun r => sumM (K r) (w r)) R ≤ difF (sumM (K 0) (w 0)) sh_2 sz_3 (fun r => sumM (K r) (w r)) R
                                rw [← q7, show R = r by omega, ← ht]; omega) _ _ _ (by omega) hw (lv_sub hl [4, 2, 1, 0] rfl)
                · refine k_iconstN hm 1 dX7_nearestShape_100 ?_
                  refine k_goto (tgt := 105) hm dX7_nearestShape_101 (by decide) ?_
                  refine k_istore hm hl [(7, vN (1)), (0, .ref (D 0)), (1, vZ (best)), (2, vN (least)), (3, vN (i)), (4, vN (sh_2)), (5, vN (sz_3)), (6, vN (t))] (by decide) rfl dX7_nearestShape_105 (fun ls hl => ?_)
                  refine k_iload hm hl 0 rfl dX7_nearestShape_107 ?_
                  refine k_ifeq (tgt := 123) hm dX7_nearestShape_109 (by decide) (by omega) (fun c_12 => absurd c_12 (by omega)) (fun c_12 => ?_)
                  refine k_bipushN hm 100 dX7_nearestShape_112 rfl ?_
                  refine k_iload hm hl 5 rfl dX7_nearestShape_114 ?_
                  refine k_imulN hm dX7_nearestShape_116 ?_
                  refine k_iload hm hl 6 rfl dX7_nearestShape_117 ?_
                  refine k_iaddN hm dX7_nearestShape_119 ?_
                  refine k_goto (tgt := 124) hm dX7_nearestShape_120 (by decide) ?_
                  refine k_istore_n hm hl [(1, vN ((100 * sh_2) + sz_3)), (7, vN (1)), (0, .ref (D 0)), (2, vN (least)), (3, vN (i)), (4, vN (sh_2)), (5, vN (sz_3)), (6, vN (t))] (by decide) rfl dX7_nearestShape_124 (fun ls hl => ?_)
                  refine k_iload hm hl 1 rfl dX7_nearestShape_125 ?_
                  refine k_ifeq (tgt := 135) hm dX7_nearestShape_127 (by decide) (by omega) (fun c_13 => absurd c_13 (by omega)) (fun c_13 => ?_)
                  refine k_iload hm hl 7 rfl dX7_nearestShape_130 ?_
                  refine k_goto (tgt := 136) hm dX7_nearestShape_132 (by decide) ?_
                  refine k_istore_n hm hl [(2, vN (t)), (1, vN ((100 * sh_2) + sz_3)), (7, vN (1)), (0, .ref (D 0)), (3, vN (i)), (4, vN (sh_2)), (5, vN (sz_3)), (6, vN (t))] (by decide) rfl dX7_nearestShape_136 (fun ls hl => ?_)
                  refine k_iincN hm hl 4 1 rfl [(3, vN (i + 1)), (2, vN (t)), (1, vN ((100 * sh_2) + sz_3)), (7, vN (1)), (0, .ref (D 0)), (4, vN (sh_2)), (5, vN (sz_3)), (6, vN (t))] (by decide) rfl dX7_nearestShape_137 (fun ls hl => ?_)
                  refine k_goto (tgt := 11) hm dX7_nearestShape_140 (by decide) ?_
                  exact ih_11  (((100 * sh_2) + sz_3 : Nat) : Int) t (i + 1) (by first | assumption | omega) (by
                              rcases hns with ⟨q1, q2, q3⟩ | ⟨b, q1, q2, s1, z1, q3, q4, q5, q6, q7⟩
                              · have e1 : sh_2 = 0 := by omega
                                have e2 : sz_3 = 1 := by omega
                                refine Or.inr ⟨_, rfl, isNs_nx ?_, sh_2, sz_3, by omega, by omega, by omega, rfl, by rw [ht, show r = R by omega]⟩
                                rw [e1, e2, q3]; exact isNs_0
                              · refine Or.inr ⟨_, rfl, isNs_nx ?_, sh_2, sz_3, by omega, by omega, by omega, rfl, by rw [ht, show r = R by omega]⟩
                                rw [← esh_2, ← esz_3]
                                refine isNs_new (by rw [show 100 * sh_2 + sz_3 = 100 * (i / 20) + i % 20 + 1 by omega]; exact q2) q6 ⟨q4, q5⟩ (by omega) ?_
                                show difF (sumM (K 0) (w 0)) sh_2 sz_3 (fun r => sumM (K r) (w r)) R < difF (sumM (K 0) (w 0)) s1 z1 (fun r => sumM (K r) (w r)) R
                                rw [← q7, show R = r by omega, ← ht]; omega) _ _ _ (by omega) hw (lv_sub hl [4, 2, 1, 0] rfl)
            · have hb := hmo.1.2.1 r (by omega)
              have hg := goalF_rng (sh := sh_2) (sz := sz_3) (r := r) h0
              have hdl := difF_le (sh := sh_2) (sz := sz_3) (t := (fun r => sumM (K r) (w r))) (n := r) h0 (fun i hi => (hmo.1.2.1 i (by omega)).2.1.2)
              refine k_aload_n hm hl 0 rfl dX7_nearestShape_46 ?_
              refine k_iload hm hl 7 rfl dX7_nearestShape_47 ?_
              refine k_callVr (n := 1) (As := [vN (r)]) (rest := []) hm hw hl (c_m_totalOf l G D sa pa pn tx tn 0 ro wk mb so kd nu it ti rd ad R sp K w y r (by first | assumption | omega) (by first | assumption | omega)) gX7_nearestShape_X7_totalOf rfl (by decide +kernel) ⟨by decide, by decide⟩ (ci := 7) rfl 0 rfl [0, 1, 2, 3, 4, 5, 6, 7, 8] (by decide) rfl rfl rfl (by simp [Value.category]) ⟨by decide, by decide⟩ dX7_nearestShape_49 (fun v H locs hp hw => ?_)
              obtain rfl := hp
              refine W.eq (g2 := F0 m 52 ls [vN (sumM (K r) (w r))]) rfl ?_
              refine k_aload_n hm hl 0 rfl dX7_nearestShape_52 ?_
              refine k_iload hm hl 4 rfl dX7_nearestShape_53 ?_
              refine k_iload hm hl 5 rfl dX7_nearestShape_55 ?_
              refine k_iload hm hl 7 rfl dX7_nearestShape_57 ?_
              refine k_callVr (n := 3) (As := [vN (sh_2), vN (sz_3), vN (r)]) (rest := [vN (sumM (K r) (w r))]) hm hw hl (c_m_goalOf l G D sa pa pn tx tn 0 ro wk mb so kd nu it ti rd ad R sp K w y sh_2 sz_3 r (by first | assumption | omega) (by first | assumption | omega) (by first | assumption | omega)) gX7_nearestShape_X7_goalOf rfl (by decide +kernel) ⟨by decide, by decide⟩ (ci := 7) rfl 0 rfl [0, 1, 2, 3, 4, 5, 6, 7, 8] (by decide) rfl rfl rfl (by simp [Value.category]) ⟨by decide, by decide⟩ dX7_nearestShape_59 (fun v H locs hp hw => ?_)
              obtain rfl := hp
              refine W.eq (g2 := F0 m 62 ls [vN (goalF (sumM (K 0) (w 0)) sh_2 sz_3 r), vN (sumM (K r) (w r))]) rfl ?_
              refine k_isub hm dX7_nearestShape_62 ?_
              refine k_istore hm hl [(8, vZ (((sumM (K r) (w r) : Nat) : Int) - ((goalF (sumM (K 0) (w 0)) sh_2 sz_3 r : Nat) : Int))), (0, .ref (D 0)), (1, vZ (best)), (2, vN (least)), (3, vN (i)), (4, vN (sh_2)), (5, vN (sz_3)), (6, vN (t)), (7, vN (r))] (by decide) rfl dX7_nearestShape_63 (fun ls hl => ?_)
              refine k_iload hm hl 7 rfl dX7_nearestShape_65 ?_
              refine k_iload hm hl 0 rfl dX7_nearestShape_67 ?_
              refine k_ifge (tgt := 78) hm dX7_nearestShape_69 (by decide) (by omega) (fun c_16 => ?_) (fun c_16 => ?_)
              · refine k_iload hm hl 0 rfl dX7_nearestShape_78 ?_
                refine k_iadd hm dX7_nearestShape_80 ?_
                refine k_rwV (y := vN (difF (sumM (K 0) (w 0)) sh_2 sz_3 (fun r => sumM (K r) (w r)) (r + 1))) (congrArg vZ (by simp only [difF]; rw [ht]; omega)) ?_
                refine k_istore hm hl [(6, vN (difF (sumM (K 0) (w 0)) sh_2 sz_3 (fun r => sumM (K r) (w r)) (r + 1))), (8, vZ (((sumM (K r) (w r) : Nat) : Int) - ((goalF (sumM (K 0) (w 0)) sh_2 sz_3 r : Nat) : Int))), (0, .ref (D 0)), (1, vZ (best)), (2, vN (least)), (3, vN (i)), (4, vN (sh_2)), (5, vN (sz_3)), (7, vN (r))] (by decide) rfl dX7_nearestShape_81 (fun ls hl => ?_)
                refine k_iincN hm hl 8 1 rfl [(7, vN (r + 1)), (6, vN (difF (sumM (K 0) (w 0)) sh_2 sz_3 (fun r => sumM (K r) (w r)) (r + 1))), (8, vZ (((sumM (K r) (w r) : Nat) : Int) - ((goalF (sumM (K 0) (w 0)) sh_2 sz_3 r : Nat) : Int))), (0, .ref (D 0)), (1, vZ (best)), (2, vN (least)), (3, vN (i)), (4, vN (sh_2)), (5, vN (sz_3))] (by decide) rfl dX7_nearestShape_83 (fun ls hl => ?_)
                refine k_goto (tgt := 37) hm dX7_nearestShape_86 (by decide) ?_
                exact ih_37  (difF (sumM (K 0) (w 0)) sh_2 sz_3 (fun r => sumM (K r) (w r)) (r + 1)) (r + 1) (by first | assumption | omega) rfl _ _ _ (by omega) hw (lv_sub hl [3, 4, 5, 6, 7, 8, 1, 0] rfl)
              · refine k_iload hm hl 0 rfl dX7_nearestShape_72 ?_
                refine k_ineg hm dX7_nearestShape_74 ?_
                refine k_goto (tgt := 80) hm dX7_nearestShape_75 (by decide) ?_
                refine k_iadd hm dX7_nearestShape_80 ?_
                refine k_rwV (y := vN (difF (sumM (K 0) (w 0)) sh_2 sz_3 (fun r => sumM (K r) (w r)) (r + 1))) (congrArg vZ (by simp only [difF]; rw [ht]; omega)) ?_
                refine k_istore hm hl [(6, vN (difF (sumM (K 0) (w 0)) sh_2 sz_3 (fun r => sumM (K r) (w r)) (r + 1))), (8, vZ (((sumM (K r) (w r) : Nat) : Int) - ((goalF (sumM (K 0) (w 0)) sh_2 sz_3 r : Nat) : Int))), (0, .ref (D 0)), (1, vZ (best)), (2, vN (least)), (3, vN (i)), (4, vN (sh_2)), (5, vN (sz_3)), (7, vN (r))] (by decide) rfl dX7_nearestShape_81 (fun ls hl => ?_)
                refine k_iincN hm hl 8 1 rfl [(7, vN (r + 1)), (6, vN (difF (sumM (K 0) (w 0)) sh_2 sz_3 (fun r => sumM (K r) (w r)) (r + 1))), (8, vZ (((sumM (K r) (w r) : Nat) : Int) - ((goalF (sumM (K 0) (w 0)) sh_2 sz_3 r : Nat) : Int))), (0, .ref (D 0)), (1, vZ (best)), (2, vN (least)), (3, vN (i)), (4, vN (sh_2)), (5, vN (sz_3))] (by decide) rfl dX7_nearestShape_83 (fun ls hl => ?_)
                refine k_goto (tgt := 37) hm dX7_nearestShape_86 (by decide) ?_
                exact ih_37  (difF (sumM (K 0) (w 0)) sh_2 sz_3 (fun r => sumM (K r) (w r)) (r + 1)) (r + 1) (by first | assumption | omega) rfl _ _ _ (by omega) hw (lv_sub hl [3, 4, 5, 6, 7, 8, 1, 0] rfl)
        exact loop_37 (R - 0 + 1) 0 0 (by first | assumption | omega) rfl _ _ _ (Nat.lt_succ_self _) hw (lv_sub hl [4, 5, 6, 7, 3, 2, 1, 0] rfl)
  exact loop_11 (100 - 0 + 1) (-1) 0 0 (by first | assumption | omega) (Or.inl ⟨rfl, rfl, rfl⟩) _ _ _ (Nat.lt_succ_self _) hw (lv_sub hl [3, 2, 1, 0] rfl)
set_option maxHeartbeats 4000000 in
set_option maxRecDepth 100000 in
theorem c_m_evenness_ok (l : Launch) (G : kG) (D : Nat → Nat) (sa : Nat → Int64) (pa : Nat → Int64) (pn : Nat) (tx : Nat → Nat) (tn : Nat) (rf : Nat) (ro : Nat → Nat) (wk : Nat) (mb : Nat → Nat) (so : Nat) (kd : Nat → Nat) (nu : Nat → Nat) (it : Nat) (ti : Nat) (rd : Nat) (ad : Nat → Int64) (R : Nat) (sp : Bool) (K : Nat → Nat → Nat) (w : Nat → Nat) (y : Nat → Nat) (r : Nat) (hmo : MOk sa R sp K w y) (hr : r < R) : kCM l yX7_evenness wsX7_evenness 3 73 0 0 G [.ref (D 0), vN (r)] (wMod G D sa pa pn tx tn rf ro wk mb so kd nu it ti rd ad) (fun vv uu => vv = some (.double (evF (dsF (K r) (w r) false) (dsF (K r) (w r) true))) ∧ uu = wMod G D sa pa pn tx tn 0 ro wk mb so kd nu it ti rd ad) := by
  refine kCM.of (cc := cX7_evenness) (maxL := 3) (ret := (some .double)) (by decide) rfl (Nat.le_of_ble_eq_true rfl) ?_
  intro p e s m args below meth c A ls Qz hQ hin hm hw hl
  have hl : lv_has ls 3 [(0, .ref (D 0)), (1, vN (r))] := hl
  have hR := hmo.1.1
  have hb := hmo.1.2.1 r hr
  have hd1 := dsF_le (K r) (w r) true
  have hd3 := dsF_le (K r) (w r) false
  refine k_aload_n hm hl 0 rfl dX7_evenness_0 ?_
  refine k_aload_n hm hl 0 rfl dX7_evenness_1 ?_
  refine k_iload_n hm hl 1 rfl dX7_evenness_2 ?_
  refine k_callVr (n := 1) (As := [vN (r)]) (rest := [.ref (D 0)]) hm hw hl (c_m_isRound l G D sa pa pn tx tn rf ro wk mb so kd nu it ti rd ad R sp K w y ((r : Nat) : Int) (by first | assumption | omega) (by first | assumption | omega)) gX7_evenness_X7_isRound rfl (by decide +kernel) ⟨by decide, by decide⟩ (ci := 7) rfl 0 rfl [0, 1, 2, 3, 4, 5, 6, 7, 8] (by decide) rfl rfl rfl (by simp [Value.category]) ⟨by decide, by decide⟩ dX7_evenness_3 (fun v H locs hp hw => ?_)
  obtain rfl := hp
  refine W.eq (g2 := F0 m 6 ls [vB (decide (0 ≤ ((r : Nat) : Int) ∧ ((r : Nat) : Int) < (R : Int))), .ref (D 0)]) rfl ?_
  refine k_ifeqB (tgt := 13) hm dX7_evenness_6 (by decide) (fun c_2 => absurd (of_decide_eq_false c_2) (by omega)) (fun c_2 => ?_)
  refine k_iconstN hm 0 dX7_evenness_9 ?_
  refine k_goto (tgt := 14) hm dX7_evenness_10 (by decide) ?_
  refine k_callV (n := 1) (As := [vN (0)]) (rest := []) (wr := []) hm hw hl (c_m_throwsAt l G D sa pa pn tx tn rf ro wk mb so kd nu it ti rd ad 0 (by first | assumption | omega)) gX7_evenness_X7_throwsAt rfl (by decide +kernel) ⟨by decide, by decide⟩ (ci := 7) rfl 0 rfl [0, 1, 2, 3, 4, 5, 6, 7, 8] [] (by decide) rfl rfl (by decide) (by decide) rfl rfl (by simp [Value.category]) ⟨by decide, by decide⟩ dX7_evenness_14 (fun v w1 H locs hp hw => ?_)
  obtain ⟨rfl, rfl⟩ := hp
  have hw := hw.sub (ws' := wMod G D sa pa pn tx tn 0 ro wk mb so kd nu it ti rd ad) [0, 1, 2, 3, 4, 5, 6, 7, 8] (by decide) rfl
  refine W.eq (g2 := F0 m 17 ls [vB (decide (0 < 0))]) rfl ?_
  refine k_ifeqB (tgt := 22) hm dX7_evenness_17 (by decide) (fun c_4 => ?_) (fun c_4 => absurd (of_decide_eq_true c_4) (by omega))
  refine k_aload_n hm hl 0 rfl dX7_evenness_22 ?_
  refine k_iload_n hm hl 1 rfl dX7_evenness_23 ?_
  refine k_iconstN hm 1 dX7_evenness_24 ?_
  refine k_callVr (n := 2) (As := [vN (r), vN (1)]) (rest := []) hm hw hl (c_m_distance l G D sa pa pn tx tn 0 ro wk mb so kd nu it ti rd ad R sp K w y r true (by first | assumption | omega) (by first | assumption | omega)) gX7_evenness_X7_distance rfl (by decide +kernel) ⟨by decide, by decide⟩ (ci := 7) rfl 0 rfl [0, 1, 2, 3, 4, 5, 6, 7, 8] (by decide) rfl rfl rfl (by simp [Value.category]) ⟨by decide, by decide⟩ dX7_evenness_25 (fun v H locs hp hw => ?_)
  obtain rfl := hp
  refine W.eq (g2 := F0 m 28 ls [vN (dsF (K r) (w r) true)]) rfl ?_
  refine k_istore_n hm hl [(2, vN (dsF (K r) (w r) true)), (0, .ref (D 0)), (1, vN (r))] (by decide) rfl dX7_evenness_28 (fun ls hl => ?_)
  refine k_iload_n hm hl 0 rfl dX7_evenness_29 ?_
  refine k_ifne (tgt := 37) hm dX7_evenness_30 (by decide) (by omega) (fun c_6 => ?_) (fun c_6 => ?_)
  · refine k_aload_n hm hl 1 rfl dX7_evenness_37 ?_
    refine k_iload_n hm hl 2 rfl dX7_evenness_38 ?_
    refine k_iconstN hm 0 dX7_evenness_39 ?_
    refine k_callVr (n := 2) (As := [vN (r), vN (0)]) (rest := []) hm hw hl (c_m_distance l G D sa pa pn tx tn 0 ro wk mb so kd nu it ti rd ad R sp K w y r false (by first | assumption | omega) (by first | assumption | omega)) gX7_evenness_X7_distance rfl (by decide +kernel) ⟨by decide, by decide⟩ (ci := 7) rfl 0 rfl [0, 1, 2, 3, 4, 5, 6, 7, 8] (by decide) rfl rfl rfl (by simp [Value.category]) ⟨by decide, by decide⟩ dX7_evenness_40 (fun v H locs hp hw => ?_)
    obtain rfl := hp
    refine W.eq (g2 := F0 m 43 ls [vN (dsF (K r) (w r) false)]) rfl ?_
    refine lv_i2d hm.1 hm.2.1 dX7_evenness_43 ?_
    refine k_iload_n hm hl 0 rfl dX7_evenness_44 ?_
    refine lv_i2d hm.1 hm.2.1 dX7_evenness_45 ?_
    refine lv_ddiv hm.1 hm.2.1 dX7_evenness_46 (ev_n (by omega) (by omega)) ?_
    exact k_dret hm hQ rfl hw (⟨by unfold evF; rw [if_neg (by omega)], rfl⟩) (by omega) (by omega) dX7_evenness_47
  · refine lv_dconst0 hm.1 hm.2.1 dX7_evenness_33 ?_
    refine k_goto (tgt := 47) hm dX7_evenness_34 (by decide) ?_
    exact k_dret hm hQ rfl hw (⟨by unfold evF; rw [if_pos (by omega)], rfl⟩) (by omega) (by omega) dX7_evenness_47
set_option maxHeartbeats 4000000 in
set_option maxRecDepth 100000 in
theorem c_m_evenness_x (l : Launch) (G : kG) (D : Nat → Nat) (sa : Nat → Int64) (pa : Nat → Int64) (pn : Nat) (tx : Nat → Nat) (tn : Nat) (rf : Nat) (ro : Nat → Nat) (wk : Nat) (mb : Nat → Nat) (so : Nat) (kd : Nat → Nat) (nu : Nat → Nat) (it : Nat) (ti : Nat) (rd : Nat) (ad : Nat → Int64) (R : Nat) (sp : Bool) (K : Nat → Nat → Nat) (w : Nat → Nat) (y : Nat → Nat) (z : Int) (hmo : MOk sa R sp K w y) (hzz : -2147483648 ≤ z ∧ z < 2147483648) (hx : ¬ (0 ≤ z ∧ z < (R : Int))) : kCM l yX7_evenness wsX7_evenness 3 73 0 0 G [.ref (D 0), vZ (z)] (wMod G D sa pa pn tx tn rf ro wk mb so kd nu it ti rd ad) (fun vv uu => vv = some (.double (FP.dconst0)) ∧ uu = wMod G D sa pa pn tx tn 1 ro wk mb so kd nu it ti rd ad) := by
  refine kCM.of (cc := cX7_evenness) (maxL := 3) (ret := (some .double)) (by decide) rfl (Nat.le_of_ble_eq_true rfl) ?_
  intro p e s m args below meth c A ls Qz hQ hin hm hw hl
  have hl : lv_has ls 3 [(0, .ref (D 0)), (1, vZ (z))] := hl
  have hR := hmo.1.1
  refine k_aload_n hm hl 0 rfl dX7_evenness_0 ?_
  refine k_aload_n hm hl 0 rfl dX7_evenness_1 ?_
  refine k_iload_n hm hl 1 rfl dX7_evenness_2 ?_
  refine k_callVr (n := 1) (As := [vZ (z)]) (rest := [.ref (D 0)]) hm hw hl (c_m_isRound l G D sa pa pn tx tn rf ro wk mb so kd nu it ti rd ad R sp K w y z (by first | assumption | omega) (by first | assumption | omega)) gX7_evenness_X7_isRound rfl (by decide +kernel) ⟨by decide, by decide⟩ (ci := 7) rfl 0 rfl [0, 1, 2, 3, 4, 5, 6, 7, 8] (by decide) rfl rfl rfl (by simp [Value.category]) ⟨by decide, by decide⟩ dX7_evenness_3 (fun v H locs hp hw => ?_)
  obtain rfl := hp
  refine W.eq (g2 := F0 m 6 ls [vB (decide (0 ≤ z ∧ z < (R : Int))), .ref (D 0)]) rfl ?_
  refine k_ifeqB (tgt := 13) hm dX7_evenness_6 (by decide) (fun c_2 => ?_) (fun c_2 => absurd (of_decide_eq_true c_2) (by omega))
  refine k_iconstN hm 1 dX7_evenness_13 ?_
  refine k_callV (n := 1) (As := [vN (1)]) (rest := []) (wr := []) hm hw hl (c_m_throwsAt l G D sa pa pn tx tn rf ro wk mb so kd nu it ti rd ad 1 (by first | assumption | omega)) gX7_evenness_X7_throwsAt rfl (by decide +kernel) ⟨by decide, by decide⟩ (ci := 7) rfl 0 rfl [0, 1, 2, 3, 4, 5, 6, 7, 8] [] (by decide) rfl rfl (by decide) (by decide) rfl rfl (by simp [Value.category]) ⟨by decide, by decide⟩ dX7_evenness_14 (fun v w1 H locs hp hw => ?_)
  obtain ⟨rfl, rfl⟩ := hp
  have hw := hw.sub (ws' := wMod G D sa pa pn tx tn 1 ro wk mb so kd nu it ti rd ad) [0, 1, 2, 3, 4, 5, 6, 7, 8] (by decide) rfl
  refine W.eq (g2 := F0 m 17 ls [vB (decide (0 < 1))]) rfl ?_
  refine k_ifeqB (tgt := 22) hm dX7_evenness_17 (by decide) (fun c_4 => absurd (of_decide_eq_false c_4) (by omega)) (fun c_4 => ?_)
  refine lv_dconst0 hm.1 hm.2.1 dX7_evenness_20 ?_
  exact k_dret hm hQ rfl hw (⟨rfl, rfl⟩) (by omega) (by omega) dX7_evenness_21
set_option maxHeartbeats 4000000 in
set_option maxRecDepth 100000 in
theorem c_m_append_ok (l : Launch) (G : kG) (D : Nat → Nat) (sa : Nat → Int64) (pa : Nat → Int64) (pn : Nat) (tx : Nat → Nat) (tn : Nat) (rf : Nat) (ro : Nat → Nat) (wk : Nat) (mb : Nat → Nat) (so : Nat) (kd : Nat → Nat) (nu : Nat → Nat) (it : Nat) (ti : Nat) (rd : Nat) (ad : Nat → Int64) (x : Nat) (hx : x ≤ 127) (hn : tn < 120) : kCM l yX7_append wsX7_append 1 22 0 0 G [.ref (D 0), vN (x)] (wMod G D sa pa pn tx tn rf ro wk mb so kd nu it ti rd ad) (fun vv uu => vv = some (vN (tn + 1)) ∧ uu = wMod G D sa pa pn (nU tx tn x) (tn + 1) 0 ro wk mb so kd nu it ti rd ad) := by
  refine kCM.of (cc := cX7_append) (maxL := 2) (ret := (some .int)) (by decide) rfl (Nat.le_of_ble_eq_true rfl) ?_
  intro p e s m args below meth c A ls Qz hQ hin hm hw hl
  have hl : lv_has ls 2 [(0, .ref (D 0)), (1, vN (x))] := hl
  have i7 : ∀ w ∈ wsX70, w ∈ wsX7_append := by decide +kernel
  refine k_aload_n hm hl 0 rfl dX7_append_0 ?_
  refine k_iload_n hm hl 1 rfl dX7_append_1 ?_
  refine k_iconstN hm 0 dX7_append_2 ?_
  refine k_bipushN hm 127 dX7_append_3 rfl ?_
  refine k_callSr (n := 3) (As := [vN (x), vN (0), vN (127)]) (rest := [.ref (D 0)]) hm hw hl (c_m_in l G ((x : Nat) : Int) ((0 : Nat) : Int) ((127 : Nat) : Int) (by first | assumption | omega)) gX7_append_X7_in rfl (by decide +kernel) ⟨by decide, by decide⟩ [] (by decide) rfl rfl rfl (by simp [Value.category]) ⟨by decide, by decide⟩ dX7_append_5 (fun v H locs hp hw => ?_)
  obtain rfl := hp
  refine W.eq (g2 := F0 m 8 ls [vB (decide (((0 : Nat) : Int) ≤ ((x : Nat) : Int) ∧ ((x : Nat) : Int) ≤ ((127 : Nat) : Int))), .ref (D 0)]) rfl ?_
  refine k_ifneB (tgt := 15) hm dX7_append_8 (by decide) (fun c_2 => ?_) (fun c_2 => absurd (of_decide_eq_false c_2) (by omega))
  refine k_aload_n hm hl 0 rfl dX7_append_15 ?_
  refine k_get (T := TX7) hm hw 0 4 i7 rfl rfl (by decide) (by decide +kernel) rfl dX7_append_16 ?_
  refine k_bipushN hm 120 dX7_append_19 rfl ?_
  refine k_icmpne (tgt := 28) hm dX7_append_21 (by decide) (by omega) (fun c_3 => ?_) (fun c_3 => absurd c_3 (by omega))
  refine k_iconstN hm 0 dX7_append_28 ?_
  refine k_callV (n := 1) (As := [vN (0)]) (rest := []) (wr := []) hm hw hl (c_m_throwsAt l G D sa pa pn tx tn rf ro wk mb so kd nu it ti rd ad 0 (by first | assumption | omega)) gX7_append_X7_throwsAt rfl (by decide +kernel) ⟨by decide, by decide⟩ (ci := 7) rfl 0 rfl [0, 1, 2, 3, 4, 5, 6, 7, 8] [] (by decide) rfl rfl (by decide) (by decide) rfl rfl (by simp [Value.category]) ⟨by decide, by decide⟩ dX7_append_29 (fun v w1 H locs hp hw => ?_)
  obtain ⟨rfl, rfl⟩ := hp
  have hw := hw.sub (ws' := wMod G D sa pa pn tx tn 0 ro wk mb so kd nu it ti rd ad) [0, 1, 2, 3, 4, 5, 6, 7, 8] (by decide) rfl
  refine W.eq (g2 := F0 m 32 ls [vB (decide (0 < 0))]) rfl ?_
  refine k_ifeqB (tgt := 37) hm dX7_append_32 (by decide) (fun c_5 => ?_) (fun c_5 => absurd (of_decide_eq_true c_5) (by omega))
  refine k_aload_n hm hl 0 rfl dX7_append_37 ?_
  refine k_get (T := TX7) hm hw 0 3 i7 rfl rfl (by decide) (by decide +kernel) rfl dX7_append_38 ?_
  refine k_aload_n hm hl 0 rfl dX7_append_41 ?_
  refine k_get (T := TX7) hm hw 0 4 i7 rfl rfl (by decide) (by decide +kernel) rfl dX7_append_42 ?_
  refine k_iload_n hm hl 1 rfl dX7_append_45 ?_
  refine k_iastN hm hw 3 (wMod G D sa pa pn (nU tx tn x) tn 0 ro wk mb so kd nu it ti rd ad) rfl (by omega) rfl dX7_append_46 (fun H locs hw => ?_)
  refine k_aload_n hm hl 0 rfl dX7_append_47 ?_
  refine k_dup hm dX7_append_48 rfl ?_
  refine k_get (T := TX7) hm hw 0 4 i7 rfl rfl (by decide) (by decide +kernel) rfl dX7_append_49 ?_
  refine k_iconstN hm 1 dX7_append_52 ?_
  refine k_iaddN hm dX7_append_53 ?_
  refine k_put (T := TX7) hm hw 0 4 (wMod G D sa pa pn (nU tx tn x) (tn + 1) 0 ro wk mb so kd nu it ti rd ad) i7 tyX7 tyX7_ok nmX7 rfl rfl (by decide) (by decide +kernel) rfl (tyX7_ok 4 (by decide)) rfl rfl (Nat.le_of_ble_eq_true rfl) rfl dX7_append_54 (fun H locs hw => ?_)
  refine k_aload_n hm hl 0 rfl dX7_append_57 ?_
  refine k_get (T := TX7) hm hw 0 4 i7 rfl rfl (by decide) (by decide +kernel) rfl dX7_append_58 ?_
  exact k_iret (post := _) hm hQ rfl rfl hw (⟨rfl, rfl⟩) (by omega) (by omega) dX7_append_61
set_option maxHeartbeats 4000000 in
set_option maxRecDepth 100000 in
theorem c_m_append_x1 (l : Launch) (G : kG) (D : Nat → Nat) (sa : Nat → Int64) (pa : Nat → Int64) (pn : Nat) (tx : Nat → Nat) (tn : Nat) (rf : Nat) (ro : Nat → Nat) (wk : Nat) (mb : Nat → Nat) (so : Nat) (kd : Nat → Nat) (nu : Nat → Nat) (it : Nat) (ti : Nat) (rd : Nat) (ad : Nat → Int64) (z : Int) (hzz : -2147483648 ≤ z ∧ z < 2147483648) (hx : ¬ (0 ≤ z ∧ z ≤ 127)) : kCM l yX7_append wsX7_append 1 22 0 0 G [.ref (D 0), vZ (z)] (wMod G D sa pa pn tx tn rf ro wk mb so kd nu it ti rd ad) (fun vv uu => vv = some (vN (0)) ∧ uu = wMod G D sa pa pn tx tn 1 ro wk mb so kd nu it ti rd ad) := by
  refine kCM.of (cc := cX7_append) (maxL := 2) (ret := (some .int)) (by decide) rfl (Nat.le_of_ble_eq_true rfl) ?_
  intro p e s m args below meth c A ls Qz hQ hin hm hw hl
  have hl : lv_has ls 2 [(0, .ref (D 0)), (1, vZ (z))] := hl
  have i7 : ∀ w ∈ wsX70, w ∈ wsX7_append := by decide +kernel
  refine k_aload_n hm hl 0 rfl dX7_append_0 ?_
  refine k_iload_n hm hl 1 rfl dX7_append_1 ?_
  refine k_iconstN hm 0 dX7_append_2 ?_
  refine k_bipushN hm 127 dX7_append_3 rfl ?_
  refine k_callSr (n := 3) (As := [vZ (z), vN (0), vN (127)]) (rest := [.ref (D 0)]) hm hw hl (c_m_in l G z ((0 : Nat) : Int) ((127 : Nat) : Int) (by first | assumption | omega)) gX7_append_X7_in rfl (by decide +kernel) ⟨by decide, by decide⟩ [] (by decide) rfl rfl rfl (by simp [Value.category]) ⟨by decide, by decide⟩ dX7_append_5 (fun v H locs hp hw => ?_)
  obtain rfl := hp
  refine W.eq (g2 := F0 m 8 ls [vB (decide (((0 : Nat) : Int) ≤ z ∧ z ≤ ((127 : Nat) : Int))), .ref (D 0)]) rfl ?_
  refine k_ifneB (tgt := 15) hm dX7_append_8 (by decide) (fun c_2 => absurd (of_decide_eq_true c_2) (by omega)) (fun c_2 => ?_)
  refine k_iconstN hm 1 dX7_append_11 ?_
  refine k_goto (tgt := 29) hm dX7_append_12 (by decide) ?_
  refine k_callV (n := 1) (As := [vN (1)]) (rest := []) (wr := []) hm hw hl (c_m_throwsAt l G D sa pa pn tx tn rf ro wk mb so kd nu it ti rd ad 1 (by first | assumption | omega)) gX7_append_X7_throwsAt rfl (by decide +kernel) ⟨by decide, by decide⟩ (ci := 7) rfl 0 rfl [0, 1, 2, 3, 4, 5, 6, 7, 8] [] (by decide) rfl rfl (by decide) (by decide) rfl rfl (by simp [Value.category]) ⟨by decide, by decide⟩ dX7_append_29 (fun v w1 H locs hp hw => ?_)
  obtain ⟨rfl, rfl⟩ := hp
  have hw := hw.sub (ws' := wMod G D sa pa pn tx tn 1 ro wk mb so kd nu it ti rd ad) [0, 1, 2, 3, 4, 5, 6, 7, 8] (by decide) rfl
  refine W.eq (g2 := F0 m 32 ls [vB (decide (0 < 1))]) rfl ?_
  refine k_ifeqB (tgt := 37) hm dX7_append_32 (by decide) (fun c_4 => absurd (of_decide_eq_false c_4) (by omega)) (fun c_4 => ?_)
  refine k_iconstN hm 0 dX7_append_35 ?_
  exact k_iret (post := _) hm hQ rfl rfl hw (⟨rfl, rfl⟩) (by omega) (by omega) dX7_append_36
set_option maxHeartbeats 4000000 in
set_option maxRecDepth 100000 in
theorem c_m_append_x2 (l : Launch) (G : kG) (D : Nat → Nat) (sa : Nat → Int64) (pa : Nat → Int64) (pn : Nat) (tx : Nat → Nat) (tn : Nat) (rf : Nat) (ro : Nat → Nat) (wk : Nat) (mb : Nat → Nat) (so : Nat) (kd : Nat → Nat) (nu : Nat → Nat) (it : Nat) (ti : Nat) (rd : Nat) (ad : Nat → Int64) (x : Nat) (hx : x ≤ 127) (hn : tn = 120) : kCM l yX7_append wsX7_append 1 22 0 0 G [.ref (D 0), vN (x)] (wMod G D sa pa pn tx tn rf ro wk mb so kd nu it ti rd ad) (fun vv uu => vv = some (vN (0)) ∧ uu = wMod G D sa pa pn tx tn 2 ro wk mb so kd nu it ti rd ad) := by
  refine kCM.of (cc := cX7_append) (maxL := 2) (ret := (some .int)) (by decide) rfl (Nat.le_of_ble_eq_true rfl) ?_
  intro p e s m args below meth c A ls Qz hQ hin hm hw hl
  have hl : lv_has ls 2 [(0, .ref (D 0)), (1, vN (x))] := hl
  have i7 : ∀ w ∈ wsX70, w ∈ wsX7_append := by decide +kernel
  refine k_aload_n hm hl 0 rfl dX7_append_0 ?_
  refine k_iload_n hm hl 1 rfl dX7_append_1 ?_
  refine k_iconstN hm 0 dX7_append_2 ?_
  refine k_bipushN hm 127 dX7_append_3 rfl ?_
  refine k_callSr (n := 3) (As := [vN (x), vN (0), vN (127)]) (rest := [.ref (D 0)]) hm hw hl (c_m_in l G ((x : Nat) : Int) ((0 : Nat) : Int) ((127 : Nat) : Int) (by first | assumption | omega)) gX7_append_X7_in rfl (by decide +kernel) ⟨by decide, by decide⟩ [] (by decide) rfl rfl rfl (by simp [Value.category]) ⟨by decide, by decide⟩ dX7_append_5 (fun v H locs hp hw => ?_)
  obtain rfl := hp
  refine W.eq (g2 := F0 m 8 ls [vB (decide (((0 : Nat) : Int) ≤ ((x : Nat) : Int) ∧ ((x : Nat) : Int) ≤ ((127 : Nat) : Int))), .ref (D 0)]) rfl ?_
  refine k_ifneB (tgt := 15) hm dX7_append_8 (by decide) (fun c_2 => ?_) (fun c_2 => absurd (of_decide_eq_false c_2) (by omega))
  refine k_aload_n hm hl 0 rfl dX7_append_15 ?_
  refine k_get (T := TX7) hm hw 0 4 i7 rfl rfl (by decide) (by decide +kernel) rfl dX7_append_16 ?_
  refine k_bipushN hm 120 dX7_append_19 rfl ?_
  refine k_icmpne (tgt := 28) hm dX7_append_21 (by decide) (by omega) (fun c_3 => absurd c_3 (by omega)) (fun c_3 => ?_)
  refine k_iconstN hm 2 dX7_append_24 ?_
  refine k_goto (tgt := 29) hm dX7_append_25 (by decide) ?_
  refine k_callV (n := 1) (As := [vN (2)]) (rest := []) (wr := []) hm hw hl (c_m_throwsAt l G D sa pa pn tx tn rf ro wk mb so kd nu it ti rd ad 2 (by first | assumption | omega)) gX7_append_X7_throwsAt rfl (by decide +kernel) ⟨by decide, by decide⟩ (ci := 7) rfl 0 rfl [0, 1, 2, 3, 4, 5, 6, 7, 8] [] (by decide) rfl rfl (by decide) (by decide) rfl rfl (by simp [Value.category]) ⟨by decide, by decide⟩ dX7_append_29 (fun v w1 H locs hp hw => ?_)
  obtain ⟨rfl, rfl⟩ := hp
  have hw := hw.sub (ws' := wMod G D sa pa pn tx tn 2 ro wk mb so kd nu it ti rd ad) [0, 1, 2, 3, 4, 5, 6, 7, 8] (by decide) rfl
  refine W.eq (g2 := F0 m 32 ls [vB (decide (0 < 2))]) rfl ?_
  refine k_ifeqB (tgt := 37) hm dX7_append_32 (by decide) (fun c_5 => absurd (of_decide_eq_false c_5) (by omega)) (fun c_5 => ?_)
  refine k_iconstN hm 0 dX7_append_35 ?_
  exact k_iret (post := _) hm hQ rfl rfl hw (⟨rfl, rfl⟩) (by omega) (by omega) dX7_append_36
set_option maxHeartbeats 4000000 in
set_option maxRecDepth 100000 in
theorem c_m_clearText (l : Launch) (G : kG) (D : Nat → Nat) (sa : Nat → Int64) (pa : Nat → Int64) (pn : Nat) (tx : Nat → Nat) (tn : Nat) (rf : Nat) (ro : Nat → Nat) (wk : Nat) (mb : Nat → Nat) (so : Nat) (kd : Nat → Nat) (nu : Nat → Nat) (it : Nat) (ti : Nat) (rd : Nat) (ad : Nat → Int64)  : kCM l yX7_clearText wsX7_clearText 0 0 0 0 G [.ref (D 0)] (wMod G D sa pa pn tx tn rf ro wk mb so kd nu it ti rd ad) (fun vv uu => vv = some (vN (tn)) ∧ uu = wMod G D sa pa pn tx 0 0 ro wk mb so kd nu it ti rd ad) := by
  refine kCM.of (cc := cX7_clearText) (maxL := 2) (ret := (some .int)) (by decide) rfl (Nat.le_of_ble_eq_true rfl) ?_
  intro p e s m args below meth c A ls Qz hQ hin hm hw hl
  have hl : lv_has ls 2 [(0, .ref (D 0))] := hl
  have i7 : ∀ w ∈ wsX70, w ∈ wsX7_clearText := by decide +kernel
  refine k_aload_n hm hl 0 rfl dX7_clearText_0 ?_
  refine k_iconstN hm 0 dX7_clearText_1 ?_
  refine k_put (T := TX7) hm hw 0 5 (wMod G D sa pa pn tx tn 0 ro wk mb so kd nu it ti rd ad) i7 tyX7 tyX7_ok nmX7 rfl rfl (by decide) (by decide +kernel) rfl (tyX7_ok 5 (by decide)) rfl rfl (Nat.le_of_ble_eq_true rfl) rfl dX7_clearText_2 (fun H locs hw => ?_)
  refine k_aload_n hm hl 0 rfl dX7_clearText_5 ?_
  refine k_get (T := TX7) hm hw 0 4 i7 rfl rfl (by decide) (by decide +kernel) rfl dX7_clearText_6 ?_
  refine k_istore_n hm hl [(1, vN (tn)), (0, .ref (D 0))] (by decide) rfl dX7_clearText_9 (fun ls hl => ?_)
  refine k_aload_n hm hl 1 rfl dX7_clearText_10 ?_
  refine k_iconstN hm 0 dX7_clearText_11 ?_
  refine k_put (T := TX7) hm hw 0 4 (wMod G D sa pa pn tx 0 0 ro wk mb so kd nu it ti rd ad) i7 tyX7 tyX7_ok nmX7 rfl rfl (by decide) (by decide +kernel) rfl (tyX7_ok 4 (by decide)) rfl rfl (Nat.le_of_ble_eq_true rfl) rfl dX7_clearText_12 (fun H locs hw => ?_)
  refine k_iload_n hm hl 0 rfl dX7_clearText_15 ?_
  exact k_iret (post := _) hm hQ rfl rfl hw (⟨rfl, rfl⟩) (by omega) (by omega) dX7_clearText_16
set_option maxHeartbeats 4000000 in
set_option maxRecDepth 100000 in
theorem c_m_undo_x (l : Launch) (G : kG) (D : Nat → Nat) (sa : Nat → Int64) (pa : Nat → Int64) (pn : Nat) (tx : Nat → Nat) (tn : Nat) (rf : Nat) (ro : Nat → Nat) (wk : Nat) (mb : Nat → Nat) (so : Nat) (kd : Nat → Nat) (nu : Nat → Nat) (it : Nat) (ti : Nat) (rd : Nat) (ad : Nat → Int64) (h0 : pn = 0) : kCM l yX7_undo wsX7_undo 1 21 0 0 G [.ref (D 0)] (wMod G D sa pa pn tx tn rf ro wk mb so kd nu it ti rd ad) (fun vv uu => vv = some (vN (0)) ∧ uu = wMod G D sa pa pn tx tn 1 ro wk mb so kd nu it ti rd ad) := by
  refine kCM.of (cc := cX7_undo) (maxL := 2) (ret := (some .int)) (by decide) rfl (Nat.le_of_ble_eq_true rfl) ?_
  intro p e s m args below meth c A ls Qz hQ hin hm hw hl
  have hl : lv_has ls 2 [(0, .ref (D 0))] := hl
  have i7 : ∀ w ∈ wsX70, w ∈ wsX7_undo := by decide +kernel
  refine k_aload_n hm hl 0 rfl dX7_undo_0 ?_
  refine k_aload_n hm hl 0 rfl dX7_undo_1 ?_
  refine k_get (T := TX7) hm hw 0 2 i7 rfl rfl (by decide) (by decide +kernel) rfl dX7_undo_2 ?_
  refine k_ifne (tgt := 12) hm dX7_undo_5 (by decide) (by omega) (fun c_1 => absurd c_1 (by omega)) (fun c_1 => ?_)
  refine k_iconstN hm 1 dX7_undo_8 ?_
  refine k_goto (tgt := 13) hm dX7_undo_9 (by decide) ?_
  refine k_callV (n := 1) (As := [vN (1)]) (rest := []) (wr := []) hm hw hl (c_m_throwsAt l G D sa pa pn tx tn rf ro wk mb so kd nu it ti rd ad 1 (by first | assumption | omega)) gX7_undo_X7_throwsAt rfl (by decide +kernel) ⟨by decide, by decide⟩ (ci := 7) rfl 0 rfl [0, 1, 2, 3, 4, 5, 6, 7, 8] [] (by decide) rfl rfl (by decide) (by decide) rfl rfl (by simp [Value.category]) ⟨by decide, by decide⟩ dX7_undo_13 (fun v w1 H locs hp hw => ?_)
  obtain ⟨rfl, rfl⟩ := hp
  have hw := hw.sub (ws' := wMod G D sa pa pn tx tn 1 ro wk mb so kd nu it ti rd ad) [0, 1, 2, 3, 4, 5, 6, 7, 8] (by decide) rfl
  refine W.eq (g2 := F0 m 16 ls [vB (decide (0 < 1))]) rfl ?_
  refine k_ifeqB (tgt := 21) hm dX7_undo_16 (by decide) (fun c_3 => absurd (of_decide_eq_false c_3) (by omega)) (fun c_3 => ?_)
  refine k_iconstN hm 0 dX7_undo_19 ?_
  exact k_iret (post := _) hm hQ rfl rfl hw (⟨rfl, rfl⟩) (by omega) (by omega) dX7_undo_20
set_option maxHeartbeats 4000000 in
set_option maxRecDepth 100000 in
theorem c_m_undo_ok (l : Launch) (G : kG) (D : Nat → Nat) (sa : Nat → Int64) (pa : Nat → Int64) (pn : Nat) (tx : Nat → Nat) (tn : Nat) (rf : Nat) (ro : Nat → Nat) (wk : Nat) (mb : Nat → Nat) (so : Nat) (kd : Nat → Nat) (nu : Nat → Nat) (it : Nat) (ti : Nat) (rd : Nat) (ad : Nat → Int64) (sv : Nat → PSt) (hpa : PaOk pa pn sv) (h0 : 0 < pn) : kCM l yX7_undo wsX7_undo 1 21 0 0 G [.ref (D 0)] (wMod G D sa pa pn tx tn rf ro wk mb so kd nu it ti rd ad) (fun vv uu => ∃ (sa2 : Nat → Int64), vv = some (vN (pn - 1)) ∧ uu = wMod G D sa2 pa (pn - 1) tx tn 0 ro wk mb so kd nu it ti rd ad ∧ (MOk sa2 (sv 0).1 (sv 0).2.1 (sv 0).2.2.1 (sv 0).2.2.2.1 (sv 0).2.2.2.2) ∧ (PaOk pa (pn - 1) (svPop sv))) := by
  refine kCM.of (cc := cX7_undo) (maxL := 2) (ret := (some .int)) (by decide) rfl (Nat.le_of_ble_eq_true rfl) ?_
  intro p e s m args below meth c A ls Qz hQ hin hm hw hl
  have hl : lv_has ls 2 [(0, .ref (D 0))] := hl
  have i7 : ∀ w ∈ wsX70, w ∈ wsX7_undo := by decide +kernel
  have hpn := hpa.1
  refine k_aload_n hm hl 0 rfl dX7_undo_0 ?_
  refine k_aload_n hm hl 0 rfl dX7_undo_1 ?_
  refine k_get (T := TX7) hm hw 0 2 i7 rfl rfl (by decide) (by decide +kernel) rfl dX7_undo_2 ?_
  refine k_ifne (tgt := 12) hm dX7_undo_5 (by decide) (by omega) (fun c_1 => ?_) (fun c_1 => absurd c_1 (by omega))
  refine k_iconstN hm 0 dX7_undo_12 ?_
  refine k_callV (n := 1) (As := [vN (0)]) (rest := []) (wr := []) hm hw hl (c_m_throwsAt l G D sa pa pn tx tn rf ro wk mb so kd nu it ti rd ad 0 (by first | assumption | omega)) gX7_undo_X7_throwsAt rfl (by decide +kernel) ⟨by decide, by decide⟩ (ci := 7) rfl 0 rfl [0, 1, 2, 3, 4, 5, 6, 7, 8] [] (by decide) rfl rfl (by decide) (by decide) rfl rfl (by simp [Value.category]) ⟨by decide, by decide⟩ dX7_undo_13 (fun v w1 H locs hp hw => ?_)
  obtain ⟨rfl, rfl⟩ := hp
  have hw := hw.sub (ws' := wMod G D sa pa pn tx tn 0 ro wk mb so kd nu it ti rd ad) [0, 1, 2, 3, 4, 5, 6, 7, 8] (by decide) rfl
  refine W.eq (g2 := F0 m 16 ls [vB (decide (0 < 0))]) rfl ?_
  refine k_ifeqB (tgt := 21) hm dX7_undo_16 (by decide) (fun c_3 => ?_) (fun c_3 => absurd (of_decide_eq_true c_3) (by omega))
  refine k_aload_n hm hl 0 rfl dX7_undo_21 ?_
  refine k_dup hm dX7_undo_22 rfl ?_
  refine k_get (T := TX7) hm hw 0 2 i7 rfl rfl (by decide) (by decide +kernel) rfl dX7_undo_23 ?_
  refine k_iconstN hm 1 dX7_undo_26 ?_
  refine k_isubN hm (by omega) dX7_undo_27 ?_
  refine k_put (T := TX7) hm hw 0 2 (wMod G D sa pa (pn - 1) tx tn 0 ro wk mb so kd nu it ti rd ad) i7 tyX7 tyX7_ok nmX7 rfl rfl (by decide) (by decide +kernel) rfl (tyX7_ok 2 (by decide)) rfl rfl (Nat.le_of_ble_eq_true rfl) rfl dX7_undo_28 (fun H locs hw => ?_)
  refine k_iconstN hm 0 dX7_undo_31 ?_
  refine k_istore_n hm hl [(1, vN (0)), (0, .ref (D 0))] (by decide) rfl dX7_undo_32 (fun ls hl => ?_)
  have loop_33 : ∀ (fu : Nat) (k : Nat) (g : Nat → Int64) (hk : k ≤ 205) (hz : ∀ j, j < k → g j = pa (205 * (pn - 1) + j)) (H : Heap) (locs : List Loc) (ls : Array Slot), 205 - k < fu → kW G A s (wMod G D g pa (pn - 1) tx tn 0 ro wk mb so kd nu it ti rd ad) H locs → lv_has ls 2 [(0, .ref (D 0)), (1, vN (k))] → W p l e { frames := 1, cells := 0, slots := 0, locals := 21 } s m args below meth c H locs 0 0 Qz (F0 m 33 ls []) := by
    intro fu
    induction fu with
    | zero => intro k g hk hz H locs ls hfu; exact absurd hfu (Nat.not_lt_zero _)
    | succ fu ih_33 =>
      intro k g hk hz H locs ls hfu hw hl
      refine k_iload_n hm hl 1 rfl dX7_undo_33 ?_
      refine k_sipushN hm 205 dX7_undo_34 rfl ?_
      refine k_icmpge (tgt := 67) hm dX7_undo_37 (by decide) (by omega) (fun c_4 => ?_) (fun c_4 => ?_)
      · refine k_aload_n hm hl 0 rfl dX7_undo_67 ?_
        refine k_get (T := TX7) hm hw 0 2 i7 rfl rfl (by decide) (by decide +kernel) rfl dX7_undo_68 ?_
        exact k_iret (post := _) hm hQ rfl rfl hw (⟨g, rfl, rfl, MOk_ext (hpa.2 0 h0) (fun k q => by rw [hz k (by omega)]; rfl), PaOk_pop hpa⟩) (by omega) (by omega) dX7_undo_71
      · refine k_aload_n hm hl 0 rfl dX7_undo_40 ?_
        refine k_get (T := TX7) hm hw 0 0 i7 rfl rfl (by decide) (by decide +kernel) rfl dX7_undo_41 ?_
        refine k_iload_n hm hl 1 rfl dX7_undo_44 ?_
        refine k_aload_n hm hl 0 rfl dX7_undo_45 ?_
        refine k_get (T := TX7) hm hw 0 1 i7 rfl rfl (by decide) (by decide +kernel) rfl dX7_undo_46 ?_
        refine k_sipushN hm 205 dX7_undo_49 rfl ?_
        refine k_aload_n hm hl 0 rfl dX7_undo_52 ?_
        refine k_get (T := TX7) hm hw 0 2 i7 rfl rfl (by decide) (by decide +kernel) rfl dX7_undo_53 ?_
        refine k_imulN hm dX7_undo_56 ?_
        refine k_iload_n hm hl 1 rfl dX7_undo_57 ?_
        refine k_iaddN hm dX7_undo_58 ?_
        refine k_lald hm hw 2 rfl (by omega) dX7_undo_59 ?_
        refine k_last hm hw 1 (wMod G D (vp_updL g k (pa ((205 * (pn - 1)) + k))) pa (pn - 1) tx tn 0 ro wk mb so kd nu it ti rd ad) rfl (by omega) rfl dX7_undo_60 (fun H locs hw => ?_)
        refine k_iincN hm hl 1 1 rfl [(1, vN (k + 1)), (0, .ref (D 0))] (by decide) rfl dX7_undo_61 (fun ls hl => ?_)
        refine k_goto (tgt := 33) hm dX7_undo_64 (by decide) ?_
        exact ih_33  (k + 1) (vp_updL g k (pa ((205 * (pn - 1)) + k))) (by first | assumption | omega) (fun j q => by rcases Nat.lt_or_ge j k with z2 | z2; rw [updL_n (by omega)]; exact hz j z2; rw [show j = k by omega, updL_s]) _ _ _ (by omega) hw (lv_sub hl [1, 0] rfl)
  exact loop_33 (205 - 0 + 1) 0 sa (by first | assumption | omega) (fun j q => absurd q (by omega)) _ _ _ (Nat.lt_succ_self _) hw (lv_sub hl [1, 0] rfl)
set_option maxHeartbeats 4000000 in
set_option maxRecDepth 100000 in
theorem c_m_digest (l : Launch) (G : kG) (D : Nat → Nat) (sa : Nat → Int64) (pa : Nat → Int64) (pn : Nat) (tx : Nat → Nat) (tn : Nat) (rf : Nat) (ro : Nat → Nat) (wk : Nat) (mb : Nat → Nat) (so : Nat) (kd : Nat → Nat) (nu : Nat → Nat) (it : Nat) (ti : Nat) (rd : Nat) (ad : Nat → Int64) (R : Nat) (sp : Bool) (K : Nat → Nat → Nat) (w : Nat → Nat) (y : Nat → Nat) (hmo : MOk sa R sp K w y) (htn : tn ≤ 120) (hpn : pn ≤ 4) : kCM l yX7_digest wsX7_digest 6 139 0 0 G [.ref (D 0)] (wMod G D sa pa pn tx tn rf ro wk mb so kd nu it ti rd ad) (fun vv uu => ∃ (ro2 : Nat → Nat), ∃ (wk2 : Nat), ∃ (mb2 : Nat → Nat), vv = some (.long (lI (dgst K w y R sp tn pn))) ∧ uu = wMod G D sa pa pn tx tn 0 ro2 wk2 mb2 so kd nu it ti rd ad) := by
  refine kCM.of (cc := cX7_digest) (maxL := 5) (ret := (some .long)) (by decide) rfl (Nat.le_of_ble_eq_true rfl) ?_
  intro p e s m args below meth c A ls Qz hQ hin hm hw hl
  have hl : lv_has ls 5 [(0, .ref (D 0))] := hl
  have i7 : ∀ w ∈ wsX70, w ∈ wsX7_digest := by decide +kernel
  have hR := hmo.1.1
  refine k_aload_n hm hl 0 rfl dX7_digest_0 ?_
  refine k_iconstN hm 0 dX7_digest_1 ?_
  refine k_put (T := TX7) hm hw 0 5 (wMod G D sa pa pn tx tn 0 ro wk mb so kd nu it ti rd ad) i7 tyX7 tyX7_ok nmX7 rfl rfl (by decide) (by decide +kernel) rfl (tyX7_ok 5 (by decide)) rfl rfl (Nat.le_of_ble_eq_true rfl) rfl dX7_digest_2 (fun H locs hw => ?_)
  refine lv_ldc2 hm.1 hm.2.1 (own := RX7) hm.2.2.2.1 (hm.2.2.2.2.1 (.constantLong RX7 215 (lI 112747)) (by decide +kernel)) dX7_digest_5 ?_
  refine k_aload_n hm hl 0 rfl dX7_digest_8 ?_
  refine k_get (T := TX7) hm hw 0 4 i7 rfl rfl (by decide) (by decide +kernel) rfl dX7_digest_9 ?_
  refine k_i2l hm dX7_digest_12 (by omega) ?_
  refine k_ladd hm dX7_digest_13 ?_
  refine k_lstore_n hm hl [(1, .long (lI (112747 + ((tn : Nat) : Int)))), (0, .ref (D 0))] (by decide) rfl dX7_digest_14 (fun ls hl => ?_)
  refine k_iconstN hm 0 dX7_digest_15 ?_
  refine k_istore_n hm hl [(3, vN (0)), (1, .long (lI (112747 + ((tn : Nat) : Int)))), (0, .ref (D 0))] (by decide) rfl dX7_digest_16 (fun ls hl => ?_)
  have loop_17 : ∀ (fu : Nat) (z1 : Int) (i : Nat) (ro1 : Nat → Nat) (wk1 : Nat) (mb1 : Nat → Nat) (hi : i ≤ 8) (hz : z1 = dg1 K w y R sp i (31 * 3637 + (tn : Int))) (H : Heap) (locs : List Loc) (ls : Array Slot), 8 - i < fu → kW G A s (wMod G D sa pa pn tx tn 0 ro1 wk1 mb1 so kd nu it ti rd ad) H locs → lv_has ls 5 [(0, .ref (D 0)), (1, .long (lI z1)), (3, vN (i))] → W p l e { frames := 6, cells := 0, slots := 0, locals := 139 } s m args below meth c H locs 0 0 Qz (F0 m 17 ls []) := by
    intro fu
    induction fu with
    | zero => intro z1 i ro1 wk1 mb1 hi hz H locs ls hfu; exact absurd hfu (Nat.not_lt_zero _)
    | succ fu ih_17 =>
      intro z1 i ro1 wk1 mb1 hi hz H locs ls hfu hw hl
      refine k_iload_n hm hl 2 rfl dX7_digest_17 ?_
      refine k_bipushN hm 8 dX7_digest_18 rfl ?_
      refine k_icmpge (tgt := 42) hm dX7_digest_20 (by decide) (by omega) (fun c_1 => ?_) (fun c_1 => ?_)
      · refine k_iconstN hm 0 dX7_digest_42 ?_
        refine k_istore_n hm hl [(3, vN (0)), (0, .ref (D 0)), (1, .long (lI z1))] (by decide) rfl dX7_digest_43 (fun ls hl => ?_)
        have loop_44 : ∀ (fu : Nat) (z2 : Int) (j : Nat) (hj : j ≤ 3) (hz2 : z2 = dg2 y j z1) (H : Heap) (locs : List Loc) (ls : Array Slot), 3 - j < fu → kW G A s (wMod G D sa pa pn tx tn 0 ro1 wk1 mb1 so kd nu it ti rd ad) H locs → lv_has ls 5 [(0, .ref (D 0)), (1, .long (lI z2)), (3, vN (j))] → W p l e { frames := 6, cells := 0, slots := 0, locals := 139 } s m args below meth c H locs 0 0 Qz (F0 m 44 ls []) := by
          intro fu
          induction fu with
          | zero => intro z2 j hj hz2 H locs ls hfu; exact absurd hfu (Nat.not_lt_zero _)
          | succ fu ih_44 =>
            intro z2 j hj hz2 H locs ls hfu hw hl
            refine k_iload_n hm hl 2 rfl dX7_digest_44 ?_
            refine k_iconstN hm 3 dX7_digest_45 ?_
            refine k_icmpge (tgt := 70) hm dX7_digest_46 (by decide) (by omega) (fun c_2 => ?_) (fun c_2 => ?_)
            · refine k_iconstN hm 0 dX7_digest_70 ?_
              refine k_istore_n hm hl [(3, vN (0)), (0, .ref (D 0)), (1, .long (lI z2))] (by decide) rfl dX7_digest_71 (fun ls hl => ?_)
              have loop_72 : ∀ (fu : Nat) (z3 : Int) (q : Nat) (ro3 : Nat → Nat) (wk3 : Nat) (mb3 : Nat → Nat) (hq : q ≤ R) (hz3 : z3 = dg3 K w y q z2) (H : Heap) (locs : List Loc) (ls : Array Slot), R - q < fu → kW G A s (wMod G D sa pa pn tx tn 0 ro3 wk3 mb3 so kd nu it ti rd ad) H locs → lv_has ls 5 [(0, .ref (D 0)), (1, .long (lI z3)), (3, vN (q))] → W p l e { frames := 6, cells := 0, slots := 0, locals := 139 } s m args below meth c H locs 0 0 Qz (F0 m 72 ls []) := by
                intro fu
                induction fu with
                | zero => intro z3 q ro3 wk3 mb3 hq hz3 H locs ls hfu; exact absurd hfu (Nat.not_lt_zero _)
                | succ fu ih_72 =>
                  intro z3 q ro3 wk3 mb3 hq hz3 H locs ls hfu hw hl
                  refine k_iload_n hm hl 2 rfl dX7_digest_72 ?_
                  refine k_aload_n hm hl 0 rfl dX7_digest_73 ?_
                  refine k_callVr (n := 0) (As := []) (rest := [vN (q)]) hm hw hl (c_m_rounds l G D sa pa pn tx tn 0 ro3 wk3 mb3 so kd nu it ti rd ad R sp K w y (by first | assumption | omega)) gX7_digest_X7_rounds rfl (by decide +kernel) ⟨by decide, by decide⟩ (ci := 7) rfl 0 rfl [0, 1, 2, 3, 4, 5, 6, 7, 8] (by decide) rfl rfl rfl (by simp [Value.category]) ⟨by decide, by decide⟩ dX7_digest_74 (fun v H locs hp hw => ?_)
                  obtain rfl := hp
                  refine W.eq (g2 := F0 m 77 ls [vN (R), vN (q)]) rfl ?_
                  refine k_icmpge (tgt := 151) hm dX7_digest_77 (by decide) (by omega) (fun c_4 => ?_) (fun c_4 => ?_)
                  · refine lv_ldc2 hm.1 hm.2.1 (own := RX7) hm.2.2.2.1 (hm.2.2.2.2.1 (.constantLong RX7 217 (lI 31)) (by decide +kernel)) dX7_digest_151 ?_
                    refine k_lload_n hm hl 1 rfl dX7_digest_154 ?_
                    refine k_lmul hm dX7_digest_155 ?_
                    refine k_aload_n hm hl 0 rfl dX7_digest_156 ?_
                    refine k_get (T := TX7) hm hw 0 2 i7 rfl rfl (by decide) (by decide +kernel) rfl dX7_digest_157 ?_
                    refine k_i2l hm dX7_digest_160 (by omega) ?_
                    refine k_ladd hm dX7_digest_161 ?_
                    exact k_lret hm hQ rfl hw (⟨_, _, _, by unfold dgst; rw [hz3, hz2, hz, show i = 8 by omega, show j = 3 by omega, show q = R by omega], rfl⟩) (by omega) (by omega) dX7_digest_162
                  · refine k_iconstN hm 0 dX7_digest_80 ?_
                    refine k_istore hm hl [(4, vN (0)), (0, .ref (D 0)), (1, .long (lI z3)), (3, vN (q))] (by decide) rfl dX7_digest_81 (fun ls hl => ?_)
                    have loop_83 : ∀ (fu : Nat) (z4 : Int) (i4 : Nat) (ro4 : Nat → Nat) (wk4 : Nat) (mb4 : Nat → Nat) (hi4 : i4 ≤ 11) (hz4 : z4 = mxR K w y q i4 z3) (H : Heap) (locs : List Loc) (ls : Array Slot), 11 - i4 < fu → kW G A s (wMod G D sa pa pn tx tn 0 ro4 wk4 mb4 so kd nu it ti rd ad) H locs → lv_has ls 5 [(0, .ref (D 0)), (1, .long (lI z4)), (3, vN (q)), (4, vN (i4))] → W p l e { frames := 6, cells := 0, slots := 0, locals := 139 } s m args below meth c H locs 0 0 Qz (F0 m 83 ls []) := by
                      intro fu
                      induction fu with
                      | zero => intro z4 i4 ro4 wk4 mb4 hi4 hz4 H locs ls hfu; exact absurd hfu (Nat.not_lt_zero _)
                      | succ fu ih_83 =>
                        intro z4 i4 ro4 wk4 mb4 hi4 hz4 H locs ls hfu hw hl
                        refine k_iload hm hl 3 rfl dX7_digest_83 ?_
                        refine k_bipushN hm 11 dX7_digest_85 rfl ?_
                        refine k_icmpge (tgt := 111) hm dX7_digest_87 (by decide) (by omega) (fun c_5 => ?_) (fun c_5 => ?_)
                        · have hb := hmo.1.2.1 q (by omega)
                          refine k_iconstN hm 0 dX7_digest_111 ?_
                          refine k_istore hm hl [(4, vN (0)), (0, .ref (D 0)), (1, .long (lI z4)), (3, vN (q))] (by decide) rfl dX7_digest_112 (fun ls hl => ?_)
                          have loop_114 : ∀ (fu : Nat) (z5 : Int) (j5 : Nat) (hj5 : j5 ≤ w q) (hz5 : z5 = mxK (K q) j5 z4) (H : Heap) (locs : List Loc) (ls : Array Slot), w q - j5 < fu → kW G A s (wMod G D sa pa pn tx tn 0 ro4 wk4 mb4 so kd nu it ti rd ad) H locs → lv_has ls 5 [(0, .ref (D 0)), (1, .long (lI z5)), (3, vN (q)), (4, vN (j5))] → W p l e { frames := 6, cells := 0, slots := 0, locals := 139 } s m args below meth c H locs 0 0 Qz (F0 m 114 ls []) := by
                            intro fu
                            induction fu with
                            | zero => intro z5 j5 hj5 hz5 H locs ls hfu; exact absurd hfu (Nat.not_lt_zero _)
                            | succ fu ih_114 =>
                              intro z5 j5 hj5 hz5 H locs ls hfu hw hl
                              refine k_iload hm hl 3 rfl dX7_digest_114 ?_
                              refine k_aload_n hm hl 0 rfl dX7_digest_116 ?_
                              refine k_iload_n hm hl 2 rfl dX7_digest_117 ?_
                              refine k_callVr (n := 1) (As := [vN (q)]) (rest := [vN (j5)]) hm hw hl (c_m_worksOf l G D sa pa pn tx tn 0 ro4 wk4 mb4 so kd nu it ti rd ad R sp K w y q (by first | assumption | omega) (by first | assumption | omega)) gX7_digest_X7_worksOf rfl (by decide +kernel) ⟨by decide, by decide⟩ (ci := 7) rfl 0 rfl [0, 1, 2, 3, 4, 5, 6, 7, 8] (by decide) rfl rfl rfl (by simp [Value.category]) ⟨by decide, by decide⟩ dX7_digest_118 (fun v H locs hp hw => ?_)
                              obtain rfl := hp
                              refine W.eq (g2 := F0 m 121 ls [vN (w q), vN (j5)]) rfl ?_
                              refine k_icmpge (tgt := 145) hm dX7_digest_121 (by decide) (by omega) (fun c_7 => ?_) (fun c_7 => ?_)
                              · refine k_iincN hm hl 2 1 rfl [(3, vN (q + 1)), (0, .ref (D 0)), (1, .long (lI z5)), (4, vN (j5))] (by decide) rfl dX7_digest_145 (fun ls hl => ?_)
                                refine k_goto (tgt := 72) hm dX7_digest_148 (by decide) ?_
                                exact ih_72  z5 (q + 1) ro4 wk4 mb4 (by first | assumption | omega) (by simp only [dg3, mxRow]; rw [hz5, hz4, hz3, show i4 = 11 by omega, show j5 = w q by omega]) _ _ _ (by omega) hw (lv_sub hl [1, 2, 0] rfl)
                              · have hk := hb.2.2 j5 (by omega)
                                refine lv_ldc2 hm.1 hm.2.1 (own := RX7) hm.2.2.2.1 (hm.2.2.2.2.1 (.constantLong RX7 217 (lI 31)) (by decide +kernel)) dX7_digest_124 ?_
                                refine k_lload_n hm hl 1 rfl dX7_digest_127 ?_
                                refine k_lmul hm dX7_digest_128 ?_
                                refine k_aload_n hm hl 0 rfl dX7_digest_129 ?_
                                refine k_iload_n hm hl 2 rfl dX7_digest_130 ?_
                                refine k_iload hm hl 3 rfl dX7_digest_131 ?_
                                refine k_callVr (n := 2) (As := [vN (q), vN (j5)]) (rest := [.long (lI (31 * z5))]) hm hw hl (c_m_kindOf l G D sa pa pn tx tn 0 ro4 wk4 mb4 so kd nu it ti rd ad R sp K w y q j5 (by first | assumption | omega) (by first | assumption | omega) (by first | assumption | omega)) gX7_digest_X7_kindOf rfl (by decide +kernel) ⟨by decide, by decide⟩ (ci := 7) rfl 0 rfl [0, 1, 2, 3, 4, 5, 6, 7, 8] (by decide) rfl rfl rfl (by simp [Value.category]) ⟨by decide, by decide⟩ dX7_digest_133 (fun v H locs hp hw => ?_)
                                obtain rfl := hp
                                refine W.eq (g2 := F0 m 136 ls [vN (K q j5), .long (lI (31 * z5))]) rfl ?_
                                refine k_i2l hm dX7_digest_136 (by omega) ?_
                                refine k_ladd hm dX7_digest_137 ?_
                                refine k_lstore_n hm hl [(1, .long (lI ((31 * z5) + ((K q j5 : Nat) : Int)))), (0, .ref (D 0)), (3, vN (q)), (4, vN (j5))] (by decide) rfl dX7_digest_138 (fun ls hl => ?_)
                                refine k_iincN hm hl 3 1 rfl [(4, vN (j5 + 1)), (1, .long (lI ((31 * z5) + ((K q j5 : Nat) : Int)))), (0, .ref (D 0)), (3, vN (q))] (by decide) rfl dX7_digest_139 (fun ls hl => ?_)
                                refine k_goto (tgt := 114) hm dX7_digest_142 (by decide) ?_
                                exact ih_114  ((31 * z5) + ((K q j5 : Nat) : Int)) (j5 + 1) (by first | assumption | omega) (by simp only [mxK]; rw [hz5]) _ _ _ (by omega) hw (lv_sub hl [2, 1, 3, 0] rfl)
                          exact loop_114 (w q - 0 + 1) z4 0 (by first | assumption | omega) rfl _ _ _ (Nat.lt_succ_self _) hw (lv_sub hl [1, 2, 3, 0] rfl)
                        · have hrv := rv_rng hmo.1 (show q < R by omega) i4
                          refine lv_ldc2 hm.1 hm.2.1 (own := RX7) hm.2.2.2.1 (hm.2.2.2.2.1 (.constantLong RX7 217 (lI 31)) (by decide +kernel)) dX7_digest_90 ?_
                          refine k_lload_n hm hl 1 rfl dX7_digest_93 ?_
                          refine k_lmul hm dX7_digest_94 ?_
                          refine k_aload_n hm hl 0 rfl dX7_digest_95 ?_
                          refine k_iload_n hm hl 2 rfl dX7_digest_96 ?_
                          refine k_iload hm hl 3 rfl dX7_digest_97 ?_
                          refine k_callV (n := 2) (As := [vN (q), vN (i4)]) (rest := [.long (lI (31 * z4))]) (wr := []) hm hw hl (c_m_roundOf l G D sa pa pn tx tn 0 ro4 wk4 mb4 so kd nu it ti rd ad R sp K w y q i4 (by first | assumption | omega) (by first | assumption | omega) (by first | assumption | omega)) gX7_digest_X7_roundOf rfl (by decide +kernel) ⟨by decide, by decide⟩ (ci := 7) rfl 0 rfl [0, 1, 2, 3, 4, 5, 6, 7, 8] [] (by decide) rfl rfl (by decide) (by decide) rfl rfl (by simp [Value.category]) ⟨by decide, by decide⟩ dX7_digest_99 (fun v w1 H locs hp hw => ?_)
                          obtain ⟨ro2_10, wk2_11, mb2_12, rfl, rfl⟩ := hp
                          have hw := hw.sub (ws' := wMod G D sa pa pn tx tn 0 ro2_10 wk2_11 mb2_12 so kd nu it ti rd ad) [0, 1, 2, 3, 4, 5, 6, 7, 8] (by decide) rfl
                          refine W.eq (g2 := F0 m 102 ls [vZ (rv K w y q i4), .long (lI (31 * z4))]) rfl ?_
                          refine k_i2l hm dX7_digest_102 (by omega) ?_
                          refine k_ladd hm dX7_digest_103 ?_
                          refine k_lstore_n hm hl [(1, .long (lI ((31 * z4) + (rv K w y q i4)))), (0, .ref (D 0)), (3, vN (q)), (4, vN (i4))] (by decide) rfl dX7_digest_104 (fun ls hl => ?_)
                          refine k_iincN hm hl 3 1 rfl [(4, vN (i4 + 1)), (1, .long (lI ((31 * z4) + (rv K w y q i4)))), (0, .ref (D 0)), (3, vN (q))] (by decide) rfl dX7_digest_105 (fun ls hl => ?_)
                          refine k_goto (tgt := 83) hm dX7_digest_108 (by decide) ?_
                          exact ih_83  ((31 * z4) + (rv K w y q i4)) (i4 + 1) ro2_10 wk2_11 mb2_12 (by first | assumption | omega) (by simp only [mxR]; rw [hz4]) _ _ _ (by omega) hw (lv_sub hl [2, 1, 3, 0] rfl)
                    exact loop_83 (11 - 0 + 1) z3 0 ro3 wk3 mb3 (by first | assumption | omega) rfl _ _ _ (Nat.lt_succ_self _) hw (lv_sub hl [1, 2, 3, 0] rfl)
              exact loop_72 (R - 0 + 1) z2 0 ro1 wk1 mb1 (by first | assumption | omega) rfl _ _ _ (Nat.lt_succ_self _) hw (lv_sub hl [1, 2, 0] rfl)
            · refine lv_ldc2 hm.1 hm.2.1 (own := RX7) hm.2.2.2.1 (hm.2.2.2.2.1 (.constantLong RX7 217 (lI 31)) (by decide +kernel)) dX7_digest_49 ?_
              refine k_lload_n hm hl 1 rfl dX7_digest_52 ?_
              refine k_lmul hm dX7_digest_53 ?_
              refine k_aload_n hm hl 0 rfl dX7_digest_54 ?_
              refine k_get (T := TX7) hm hw 0 0 i7 rfl rfl (by decide) (by decide +kernel) rfl dX7_digest_55 ?_
              refine k_iconstN hm 2 dX7_digest_58 ?_
              refine k_iload_n hm hl 2 rfl dX7_digest_59 ?_
              refine k_iaddN hm dX7_digest_60 ?_
              refine k_lald hm hw 1 rfl (by omega) dX7_digest_61 ?_
              rw [show sa (2 + j) = lI (y j : Int) from hmo.2.2.2.1 j (by omega)]
              refine k_ladd hm dX7_digest_62 ?_
              refine k_lstore_n hm hl [(1, .long (lI ((31 * z2) + (y j : Int)))), (0, .ref (D 0)), (3, vN (j))] (by decide) rfl dX7_digest_63 (fun ls hl => ?_)
              refine k_iincN hm hl 2 1 rfl [(3, vN (j + 1)), (1, .long (lI ((31 * z2) + (y j : Int)))), (0, .ref (D 0))] (by decide) rfl dX7_digest_64 (fun ls hl => ?_)
              refine k_goto (tgt := 44) hm dX7_digest_67 (by decide) ?_
              exact ih_44  ((31 * z2) + (y j : Int)) (j + 1) (by first | assumption | omega) (by simp only [dg2]; rw [hz2]) _ _ _ (by omega) hw (lv_sub hl [2, 1, 0] rfl)
        exact loop_44 (3 - 0 + 1) z1 0 (by first | assumption | omega) rfl _ _ _ (Nat.lt_succ_self _) hw (lv_sub hl [1, 2, 0] rfl)
      · have hvr := val_rng hmo.1 sp i
        refine lv_ldc2 hm.1 hm.2.1 (own := RX7) hm.2.2.2.1 (hm.2.2.2.2.1 (.constantLong RX7 217 (lI 31)) (by decide +kernel)) dX7_digest_23 ?_
        refine k_lload_n hm hl 1 rfl dX7_digest_26 ?_
        refine k_lmul hm dX7_digest_27 ?_
        refine k_aload_n hm hl 0 rfl dX7_digest_28 ?_
        refine k_iload_n hm hl 2 rfl dX7_digest_29 ?_
        refine k_callV (n := 1) (As := [vN (i)]) (rest := [.long (lI (31 * z1))]) (wr := []) hm hw hl (c_m_valueOf l G D sa pa pn tx tn 0 ro1 wk1 mb1 so kd nu it ti rd ad R sp K w y i (by first | assumption | omega) (by first | assumption | omega)) gX7_digest_X7_valueOf rfl (by decide +kernel) ⟨by decide, by decide⟩ (ci := 7) rfl 0 rfl [0, 1, 2, 3, 4, 5, 6, 7, 8] [] (by decide) rfl rfl (by decide) (by decide) rfl rfl (by simp [Value.category]) ⟨by decide, by decide⟩ dX7_digest_30 (fun v w1 H locs hp hw => ?_)
        obtain ⟨ro2_14, wk2_15, mb2_16, rfl, rfl⟩ := hp
        have hw := hw.sub (ws' := wMod G D sa pa pn tx tn 0 ro2_14 wk2_15 mb2_16 so kd nu it ti rd ad) [0, 1, 2, 3, 4, 5, 6, 7, 8] (by decide) rfl
        refine W.eq (g2 := F0 m 33 ls [vZ (val K w y R sp i), .long (lI (31 * z1))]) rfl ?_
        refine k_i2l hm dX7_digest_33 (by omega) ?_
        refine k_ladd hm dX7_digest_34 ?_
        refine k_lstore_n hm hl [(1, .long (lI ((31 * z1) + (val K w y R sp i)))), (0, .ref (D 0)), (3, vN (i))] (by decide) rfl dX7_digest_35 (fun ls hl => ?_)
        refine k_iincN hm hl 2 1 rfl [(3, vN (i + 1)), (1, .long (lI ((31 * z1) + (val K w y R sp i)))), (0, .ref (D 0))] (by decide) rfl dX7_digest_36 (fun ls hl => ?_)
        refine k_goto (tgt := 17) hm dX7_digest_39 (by decide) ?_
        exact ih_17  ((31 * z1) + (val K w y R sp i)) (i + 1) ro2_14 wk2_15 mb2_16 (by first | assumption | omega) (by simp only [dg1]; rw [hz]) _ _ _ (by omega) hw (lv_sub hl [2, 1, 0] rfl)
  exact loop_17 (8 - 0 + 1) (112747 + ((tn : Nat) : Int)) 0 ro wk mb (by first | assumption | omega) (by simp only [dg1]; omega) _ _ _ (Nat.lt_succ_self _) hw (lv_sub hl [2, 1, 0] rfl)
