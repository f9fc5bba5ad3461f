theorem sumM_mn {k : Nat → Nat} {a : Nat} : ∀ {b : Nat}, a ≤ b → sumM k a ≤ sumM k b
  | 0, h => by rw [show a = 0 by omega]; exact Nat.le_refl _
  | b + 1, h => by
    rcases Nat.lt_or_ge b a with q | q
    · rw [show a = b + 1 by omega]; exact Nat.le_refl _
    · have := sumM_mn (k := k) q
      simp only [sumM]; omega
theorem sumU_mn {k : Nat → Nat} {a : Nat} : ∀ {b : Nat}, a ≤ b → sumU k a ≤ sumU k b
  | 0, h => by rw [show a = 0 by omega]; exact Nat.le_refl _
  | b + 1, h => by
    rcases Nat.lt_or_ge b a with q | q
    · rw [show a = b + 1 by omega]; exact Nat.le_refl _
    · have := sumU_mn (k := k) q
      simp only [sumU]; omega
set_option maxHeartbeats 4000000 in
set_option maxRecDepth 100000 in
theorem c_m_totalOf (l : Launch) (G : kG) (D : Nat → Nat) (sa : Nat → Int64) (pa : Nat → Int64) (pn : Nat) (tx : Nat → Nat) (tn : Nat) (rf : Nat) (ro : Nat → Nat) (wk : Nat) (mb : Nat → Nat) (so : Nat) (kd : Nat → Nat) (nu : Nat → Nat) (it : Nat) (ti : Nat) (rd : Nat) (ad : Nat → Int64) (R : Nat) (sp : Bool) (K : Nat → Nat → Nat) (w : Nat → Nat) (y : Nat → Nat) (r : Nat) (hmo : MOk sa R sp K w y) (hr : r < R) : kCR l yX7_totalOf wsX7_totalOf 1 22 G [.ref (D 0), vN (r)] (wMod G D sa pa pn tx tn rf ro wk mb so kd nu it ti rd ad) (fun vv => vv = some (vN (sumM (K r) (w r)))) := by
  refine kCM.of (cc := cX7_totalOf) (maxL := 4) (ret := (some .int)) (by decide) rfl (Nat.le_of_ble_eq_true rfl) ?_
  intro p e s m args below meth c A ls Qz hQ hin hm hw hl
  have hl : lv_has ls 4 [(0, .ref (D 0)), (1, vN (r))] := hl
  have hR := hmo.1.1
  have hb := hmo.1.2.1 r hr
  refine k_iconstN hm 0 dX7_totalOf_0 ?_
  refine k_istore_n hm hl [(2, vN (0)), (0, .ref (D 0)), (1, vN (r))] (by decide) rfl dX7_totalOf_1 (fun ls hl => ?_)
  refine k_iconstN hm 0 dX7_totalOf_2 ?_
  refine k_istore_n hm hl [(3, vN (0)), (2, vN (0)), (0, .ref (D 0)), (1, vN (r))] (by decide) rfl dX7_totalOf_3 (fun ls hl => ?_)
  have loop_4 : ∀ (fu : Nat) (sm : Nat) (i : Nat) (hi : i ≤ w r) (hs : sm = sumM (K r) i) (H : Heap) (locs : List Loc) (ls : Array Slot), w r - i < fu → kW G A s (wMod G D sa pa pn tx tn rf ro wk mb so kd nu it ti rd ad) H locs → lv_has ls 4 [(0, .ref (D 0)), (1, vN (r)), (2, vN (sm)), (3, vN (i))] → W p l e { frames := 1, cells := 0, slots := 0, locals := 22 } s m args below meth c H locs 0 0 Qz (F0 m 4 ls []) := by
    intro fu
    induction fu with
    | zero => intro sm i hi hs H locs ls hfu; exact absurd hfu (Nat.not_lt_zero _)
    | succ fu ih_4 =>
      intro sm i hi hs H locs ls hfu hw hl
      refine k_iload_n hm hl 3 rfl dX7_totalOf_4 ?_
      refine k_aload_n hm hl 0 rfl dX7_totalOf_5 ?_
      refine k_iload_n hm hl 1 rfl dX7_totalOf_6 ?_
      refine k_callVr (n := 1) (As := [vN (r)]) (rest := [vN (i)]) hm hw hl (c_m_worksOf l G D sa pa pn tx tn rf ro wk mb so kd nu it ti rd ad R sp K w y r (by first | assumption | omega) (by first | assumption | omega)) gX7_totalOf_X7_worksOf rfl (by decide +kernel) ⟨by decide, by decide⟩ (ci := 7) rfl 0 rfl [0, 1, 2, 3, 4, 5, 6, 7, 8] (by decide) rfl rfl rfl (by simp [Value.category]) ⟨by decide, by decide⟩ dX7_totalOf_7 (fun v H locs hp hw => ?_)
      obtain rfl := hp
      refine W.eq (g2 := F0 m 10 ls [vN (w r), vN (i)]) rfl ?_
      refine k_icmpge (tgt := 37) hm dX7_totalOf_10 (by decide) (by omega) (fun c_2 => ?_) (fun c_2 => ?_)
      · refine k_iload_n hm hl 2 rfl dX7_totalOf_37 ?_
        exact k_iret (post := _) hm hQ rfl rfl hw (⟨by rw [hs, show i = w r by omega], rfl⟩) (by omega) (by omega) dX7_totalOf_38
      · have hk := hb.2.2 i (by omega)
        refine k_iload_n hm hl 2 rfl dX7_totalOf_13 ?_
        refine k_aload_n hm hl 0 rfl dX7_totalOf_14 ?_
        refine k_iload_n hm hl 1 rfl dX7_totalOf_15 ?_
        refine k_iload_n hm hl 3 rfl dX7_totalOf_16 ?_
        refine k_callVr (n := 2) (As := [vN (r), vN (i)]) (rest := [vN (sm)]) hm hw hl (c_m_kindOf l G D sa pa pn tx tn rf ro wk mb so kd nu it ti rd ad R sp K w y r i (by first | assumption | omega) (by first | assumption | omega) (by first | assumption | omega)) gX7_totalOf_X7_kindOf rfl (by decide +kernel) ⟨by decide, by decide⟩ (ci := 7) rfl 0 rfl [0, 1, 2, 3, 4, 5, 6, 7, 8] (by decide) rfl rfl rfl (by simp [Value.category]) ⟨by decide, by decide⟩ dX7_totalOf_17 (fun v H locs hp hw => ?_)
        obtain rfl := hp
        refine W.eq (g2 := F0 m 20 ls [vN (K r i), vN (sm)]) rfl ?_
        refine k_iconstN hm 1 dX7_totalOf_20 ?_
        refine k_icmpne (tgt := 28) hm dX7_totalOf_21 (by decide) (by omega) (fun c_4 => ?_) (fun c_4 => ?_)
        · refine k_iconstN hm 1 dX7_totalOf_28 ?_
          refine k_iaddN hm dX7_totalOf_29 ?_
          refine k_istore_n hm hl [(2, vN (sm + 1)), (0, .ref (D 0)), (1, vN (r)), (3, vN (i))] (by decide) rfl dX7_totalOf_30 (fun ls hl => ?_)
          refine k_iincN hm hl 3 1 rfl [(3, vN (i + 1)), (2, vN (sm + 1)), (0, .ref (D 0)), (1, vN (r))] (by decide) rfl dX7_totalOf_31 (fun ls hl => ?_)
          refine k_goto (tgt := 4) hm dX7_totalOf_34 (by decide) ?_
          exact ih_4  (sm + 1) (i + 1) (by first | assumption | omega) (by simp only [sumM, mdB]; rw [hs, if_neg (by omega)]) _ _ _ (by omega) hw (lv_sub hl [2, 3, 1, 0] rfl)
        · refine k_iconstN hm 2 dX7_totalOf_24 ?_
          refine k_goto (tgt := 29) hm dX7_totalOf_25 (by decide) ?_
          refine k_iaddN hm dX7_totalOf_29 ?_
          refine k_istore_n hm hl [(2, vN (sm + 2)), (0, .ref (D 0)), (1, vN (r)), (3, vN (i))] (by decide) rfl dX7_totalOf_30 (fun ls hl => ?_)
          refine k_iincN hm hl 3 1 rfl [(3, vN (i + 1)), (2, vN (sm + 2)), (0, .ref (D 0)), (1, vN (r))] (by decide) rfl dX7_totalOf_31 (fun ls hl => ?_)
          refine k_goto (tgt := 4) hm dX7_totalOf_34 (by decide) ?_
          exact ih_4  (sm + 2) (i + 1) (by first | assumption | omega) (by simp only [sumM, mdB]; rw [hs, if_pos (by omega)]) _ _ _ (by omega) hw (lv_sub hl [2, 3, 1, 0] rfl)
  exact loop_4 (w r - 0 + 1) 0 0 (by first | assumption | omega) rfl _ _ _ (Nat.lt_succ_self _) hw (lv_sub hl [2, 3, 1, 0] rfl)
set_option maxHeartbeats 4000000 in
set_option maxRecDepth 100000 in
theorem c_m_last (l : Launch) (G : kG) (D : Nat → Nat) (sa : Nat → Int64) (pa : Nat → Int64) (pn : Nat) (tx : Nat → Nat) (tn : Nat) (rf : Nat) (ro : Nat → Nat) (wk : Nat) (mb : Nat → Nat) (so : Nat) (kd : Nat → Nat) (nu : Nat → Nat) (it : Nat) (ti : Nat) (rd : Nat) (ad : Nat → Int64) (R : Nat) (sp : Bool) (K : Nat → Nat → Nat) (w : Nat → Nat) (y : Nat → Nat) (hmo : MOk sa R sp K w y) : kCR l yX7_last wsX7_last 2 45 G [.ref (D 0)] (wMod G D sa pa pn tx tn rf ro wk mb so kd nu it ti rd ad) (fun vv => vv = some (vN (sumM (K (R - 1)) (w (R - 1))))) := by
  refine kCM.of (cc := cX7_last) (maxL := 1) (ret := (some .int)) (by decide) rfl (Nat.le_of_ble_eq_true rfl) ?_
  intro p e s m args below meth c A ls Qz hQ hin hm hw hl
  have hl : lv_has ls 1 [(0, .ref (D 0))] := hl
  have hR := hmo.1.1
  refine k_aload_n hm hl 0 rfl dX7_last_0 ?_
  refine k_aload_n hm hl 0 rfl dX7_last_1 ?_
  refine k_callVr (n := 0) (As := []) (rest := [.ref (D 0)]) hm hw hl (c_m_rounds l G D sa pa pn tx tn rf ro wk mb so kd nu it ti rd ad R sp K w y (by first | assumption | omega)) gX7_last_X7_rounds rfl (by decide +kernel) ⟨by decide, by decide⟩ (ci := 7) rfl 0 rfl [0, 1, 2, 3, 4, 5, 6, 7, 8] (by decide) rfl rfl rfl (by simp [Value.category]) ⟨by decide, by decide⟩ dX7_last_2 (fun v H locs hp hw => ?_)
  obtain rfl := hp
  refine W.eq (g2 := F0 m 5 ls [vN (R), .ref (D 0)]) rfl ?_
  refine k_iconstN hm 1 dX7_last_5 ?_
  refine k_isubN hm (by omega) dX7_last_6 ?_
  refine k_callVr (n := 1) (As := [vN (R - 1)]) (rest := []) hm hw hl (c_m_totalOf l G D sa pa pn tx tn rf ro wk mb so kd nu it ti rd ad R sp K w y (R - 1) (by first | assumption | omega) (by first | assumption | omega)) gX7_last_X7_totalOf rfl (by decide +kernel) ⟨by decide, by decide⟩ (ci := 7) rfl 0 rfl [0, 1, 2, 3, 4, 5, 6, 7, 8] (by decide) rfl rfl rfl (by simp [Value.category]) ⟨by decide, by decide⟩ dX7_last_7 (fun v H locs hp hw => ?_)
  obtain rfl := hp
  refine W.eq (g2 := F0 m 10 ls [vN (sumM (K (R - 1)) (w (R - 1)))]) rfl ?_
  exact k_iret (post := _) hm hQ rfl rfl hw (⟨rfl, rfl⟩) (by omega) (by omega) dX7_last_10
set_option maxHeartbeats 4000000 in
set_option maxRecDepth 100000 in
theorem c_m_laysMade (l : Launch) (G : kG) (D : Nat → Nat) (sa : Nat → Int64) (pa : Nat → Int64) (pn : Nat) (tx : Nat → Nat) (tn : Nat) (rf : Nat) (ro : Nat → Nat) (wk : Nat) (mb : Nat → Nat) (so : Nat) (kd : Nat → Nat) (nu : Nat → Nat) (it : Nat) (ti : Nat) (rd : Nat) (ad : Nat → Int64) (R : Nat) (sp : Bool) (K : Nat → Nat → Nat) (w : Nat → Nat) (y : Nat → Nat) (r : Nat) (hmo : MOk sa R sp K w y) (hr : r < R) : kCM l yX7_laysMade wsX7_laysMade 1 22 0 0 G [.ref (D 0), vN (r)] (wMod G D sa pa pn tx tn rf ro wk mb so kd nu it ti rd ad) (fun vv uu => ∃ (mb2 : Nat → Nat), vv = none ∧ uu = wMod G D sa pa pn tx tn rf ro wk mb2 so kd nu it ti rd ad ∧ (mkOk mb2 (K r) (w r))) := by
  refine kCM.of (cc := cX7_laysMade) (maxL := 6) (ret := none) (by decide) rfl (Nat.le_of_ble_eq_true rfl) ?_
  intro p e s m args below meth c A ls Qz hQ hin hm hw hl
  have hl : lv_has ls 6 [(0, .ref (D 0)), (1, vN (r))] := hl
  have i7 : ∀ w ∈ wsX70, w ∈ wsX7_laysMade := by decide +kernel
  have hR := hmo.1.1
  have hb := hmo.1.2.1 r hr
  refine k_iconstN hm 0 dX7_laysMade_0 ?_
  refine k_istore_n hm hl [(2, vN (0)), (0, .ref (D 0)), (1, vN (r))] (by decide) rfl dX7_laysMade_1 (fun ls hl => ?_)
  refine k_iconstN hm 0 dX7_laysMade_2 ?_
  refine k_istore_n hm hl [(3, vN (0)), (2, vN (0)), (0, .ref (D 0)), (1, vN (r))] (by decide) rfl dX7_laysMade_3 (fun ls hl => ?_)
  have loop_4 : ∀ (fu : Nat) (x : Nat) (i : Nat) (g : Nat → Nat) (hi : i ≤ w r) (hx : x = sumM (K r) i) (hg : mkOk g (K r) i) (H : Heap) (locs : List Loc) (ls : Array Slot), w r - i < fu → kW G A s (wMod G D sa pa pn tx tn rf ro wk g so kd nu it ti rd ad) H locs → lv_has ls 6 [(0, .ref (D 0)), (1, vN (r)), (2, vN (x)), (3, vN (i))] → W p l e { frames := 1, cells := 0, slots := 0, locals := 22 } s m args below meth c H locs 0 0 Qz (F0 m 4 ls []) := by
    intro fu
    induction fu with
    | zero => intro x i g hi hx hg H locs ls hfu; exact absurd hfu (Nat.not_lt_zero _)
    | succ fu ih_4 =>
      intro x i g hi hx hg H locs ls hfu hw hl
      refine k_iload_n hm hl 3 rfl dX7_laysMade_4 ?_
      refine k_aload_n hm hl 0 rfl dX7_laysMade_5 ?_
      refine k_iload_n hm hl 1 rfl dX7_laysMade_6 ?_
      refine k_callVr (n := 1) (As := [vN (r)]) (rest := [vN (i)]) hm hw hl (c_m_worksOf l G D sa pa pn tx tn rf ro wk g so kd nu it ti rd ad R sp K w y r (by first | assumption | omega) (by first | assumption | omega)) gX7_laysMade_X7_worksOf rfl (by decide +kernel) ⟨by decide, by decide⟩ (ci := 7) rfl 0 rfl [0, 1, 2, 3, 4, 5, 6, 7, 8] (by decide) rfl rfl rfl (by simp [Value.category]) ⟨by decide, by decide⟩ dX7_laysMade_7 (fun v H locs hp hw => ?_)
      obtain rfl := hp
      refine W.eq (g2 := F0 m 10 ls [vN (w r), vN (i)]) rfl ?_
      refine k_icmpge (tgt := 62) hm dX7_laysMade_10 (by decide) (by omega) (fun c_2 => ?_) (fun c_2 => ?_)
      · exact k_vret hm hQ rfl hw (⟨g, rfl, rfl, by rw [show w r = i by omega]; exact hg⟩) (by omega) (by omega) dX7_laysMade_62
      · have hk := hb.2.2 i (by omega)
        have hs1 := sumM_mn (k := K r) (show i + 1 ≤ w r by omega)
        simp only [sumM, mdB] at hs1
        refine k_aload_n hm hl 0 rfl dX7_laysMade_13 ?_
        refine k_iload_n hm hl 1 rfl dX7_laysMade_14 ?_
        refine k_iload_n hm hl 3 rfl dX7_laysMade_15 ?_
        refine k_callVr (n := 2) (As := [vN (r), vN (i)]) (rest := []) hm hw hl (c_m_kindOf l G D sa pa pn tx tn rf ro wk g so kd nu it ti rd ad R sp K w y r i (by first | assumption | omega) (by first | assumption | omega) (by first | assumption | omega)) gX7_laysMade_X7_kindOf rfl (by decide +kernel) ⟨by decide, by decide⟩ (ci := 7) rfl 0 rfl [0, 1, 2, 3, 4, 5, 6, 7, 8] (by decide) rfl rfl rfl (by simp [Value.category]) ⟨by decide, by decide⟩ dX7_laysMade_16 (fun v H locs hp hw => ?_)
        obtain rfl := hp
        refine W.eq (g2 := F0 m 19 ls [vN (K r i)]) rfl ?_
        refine k_istore hm hl [(4, vN (K r i)), (0, .ref (D 0)), (1, vN (r)), (2, vN (x)), (3, vN (i))] (by decide) rfl dX7_laysMade_19 (fun ls hl => ?_)
        refine k_iload hm hl 0 rfl dX7_laysMade_21 ?_
        refine k_iconstN hm 1 dX7_laysMade_23 ?_
        refine k_icmpne (tgt := 31) hm dX7_laysMade_24 (by decide) (by omega) (fun c_4 => ?_) (fun c_4 => ?_)
        · rw [if_neg (by omega)] at hs1
          refine k_iconstN hm 1 dX7_laysMade_31 ?_
          refine k_istore hm hl [(5, vN (1)), (4, vN (K r i)), (0, .ref (D 0)), (1, vN (r)), (2, vN (x)), (3, vN (i))] (by decide) rfl dX7_laysMade_32 (fun ls hl => ?_)
          refine k_iload hm hl 0 rfl dX7_laysMade_34 ?_
          refine k_ifle (tgt := 56) hm dX7_laysMade_36 (by decide) (by omega) (fun c_5 => absurd c_5 (by omega)) (fun c_5 => ?_)
          refine k_aload_n hm hl 2 rfl dX7_laysMade_39 ?_
          refine k_get (T := TX7) hm hw 0 8 i7 rfl rfl (by decide) (by decide +kernel) rfl dX7_laysMade_40 ?_
          refine k_iload_n hm hl 4 rfl dX7_laysMade_43 ?_
          refine k_iload hm hl 1 rfl dX7_laysMade_44 ?_
          refine k_iastN hm hw 5 (wMod G D sa pa pn tx tn rf ro wk (nU g x (K r i)) so kd nu it ti rd ad) rfl (by omega) rfl dX7_laysMade_46 (fun H locs hw => ?_)
          refine k_iincN hm hl 4 1 rfl [(2, vN (x + 1)), (5, vN (1)), (4, vN (K r i)), (0, .ref (D 0)), (1, vN (r)), (3, vN (i))] (by decide) rfl dX7_laysMade_47 (fun ls hl => ?_)
          refine k_idecN hm hl 1 1 (by omega) rfl [(5, vN (1 - 1)), (2, vN (x + 1)), (4, vN (K r i)), (0, .ref (D 0)), (1, vN (r)), (3, vN (i))] (by decide) rfl dX7_laysMade_50 (fun ls hl => ?_)
          refine k_goto (tgt := 34) hm dX7_laysMade_53 (by decide) ?_
          refine k_iload hm hl 0 rfl dX7_laysMade_34 ?_
          refine k_ifle (tgt := 56) hm dX7_laysMade_36 (by decide) (by omega) (fun c_6 => ?_) (fun c_6 => absurd c_6 (by omega))
          refine k_iincN hm hl 5 1 rfl [(3, vN (i + 1)), (5, vN (1 - 1)), (2, vN (x + 1)), (4, vN (K r i)), (0, .ref (D 0)), (1, vN (r))] (by decide) rfl dX7_laysMade_56 (fun ls hl => ?_)
          refine k_goto (tgt := 4) hm dX7_laysMade_59 (by decide) ?_
          exact ih_4  (x + 1) (i + 1) (nU g x (K r i)) (by first | assumption | omega) (by simp only [sumM, mdB]; rw [if_neg (by omega)]; omega) (by have z := mk_step hx hg; rw [if_neg (by omega)] at z; exact z) _ _ _ (by omega) hw (lv_sub hl [4, 5, 2, 0] rfl)
        · rw [if_pos (by omega)] at hs1
          refine k_iconstN hm 2 dX7_laysMade_27 ?_
          refine k_goto (tgt := 32) hm dX7_laysMade_28 (by decide) ?_
          refine k_istore hm hl [(5, vN (2)), (4, vN (K r i)), (0, .ref (D 0)), (1, vN (r)), (2, vN (x)), (3, vN (i))] (by decide) rfl dX7_laysMade_32 (fun ls hl => ?_)
          refine k_iload hm hl 0 rfl dX7_laysMade_34 ?_
          refine k_ifle (tgt := 56) hm dX7_laysMade_36 (by decide) (by omega) (fun c_7 => absurd c_7 (by omega)) (fun c_7 => ?_)
          refine k_aload_n hm hl 2 rfl dX7_laysMade_39 ?_
          refine k_get (T := TX7) hm hw 0 8 i7 rfl rfl (by decide) (by decide +kernel) rfl dX7_laysMade_40 ?_
          refine k_iload_n hm hl 4 rfl dX7_laysMade_43 ?_
          refine k_iload hm hl 1 rfl dX7_laysMade_44 ?_
          refine k_iastN hm hw 5 (wMod G D sa pa pn tx tn rf ro wk (nU g x (K r i)) so kd nu it ti rd ad) rfl (by omega) rfl dX7_laysMade_46 (fun H locs hw => ?_)
          refine k_iincN hm hl 4 1 rfl [(2, vN (x + 1)), (5, vN (2)), (4, vN (K r i)), (0, .ref (D 0)), (1, vN (r)), (3, vN (i))] (by decide) rfl dX7_laysMade_47 (fun ls hl => ?_)
          refine k_idecN hm hl 1 1 (by omega) rfl [(5, vN (2 - 1)), (2, vN (x + 1)), (4, vN (K r i)), (0, .ref (D 0)), (1, vN (r)), (3, vN (i))] (by decide) rfl dX7_laysMade_50 (fun ls hl => ?_)
          refine k_goto (tgt := 34) hm dX7_laysMade_53 (by decide) ?_
          refine k_iload hm hl 0 rfl dX7_laysMade_34 ?_
          refine k_ifle (tgt := 56) hm dX7_laysMade_36 (by decide) (by omega) (fun c_8 => absurd c_8 (by omega)) (fun c_8 => ?_)
          refine k_aload_n hm hl 3 rfl dX7_laysMade_39 ?_
          refine k_get (T := TX7) hm hw 0 8 i7 rfl rfl (by decide) (by decide +kernel) rfl dX7_laysMade_40 ?_
          refine k_iload_n hm hl 1 rfl dX7_laysMade_43 ?_
          refine k_iload hm hl 2 rfl dX7_laysMade_44 ?_
          refine k_iastN hm hw 5 (wMod G D sa pa pn tx tn rf ro wk (nU (nU g x (K r i)) (x + 1) (K r i)) so kd nu it ti rd ad) rfl (by omega) rfl dX7_laysMade_46 (fun H locs hw => ?_)
          refine k_iincN hm hl 1 1 rfl [(2, vN ((x + 1) + 1)), (5, vN (2 - 1)), (4, vN (K r i)), (0, .ref (D 0)), (1, vN (r)), (3, vN (i))] (by decide) rfl dX7_laysMade_47 (fun ls hl => ?_)
          refine k_idecN hm hl 1 1 (by omega) rfl [(5, vN ((2 - 1) - 1)), (2, vN ((x + 1) + 1)), (4, vN (K r i)), (0, .ref (D 0)), (1, vN (r)), (3, vN (i))] (by decide) rfl dX7_laysMade_50 (fun ls hl => ?_)
          refine k_goto (tgt := 34) hm dX7_laysMade_53 (by decide) ?_
          refine k_iload hm hl 0 rfl dX7_laysMade_34 ?_
          refine k_ifle (tgt := 56) hm dX7_laysMade_36 (by decide) (by omega) (fun c_9 => ?_) (fun c_9 => absurd c_9 (by omega))
          refine k_iincN hm hl 5 1 rfl [(3, vN (i + 1)), (5, vN ((2 - 1) - 1)), (2, vN ((x + 1) + 1)), (4, vN (K r i)), (0, .ref (D 0)), (1, vN (r))] (by decide) rfl dX7_laysMade_56 (fun ls hl => ?_)
          refine k_goto (tgt := 4) hm dX7_laysMade_59 (by decide) ?_
          exact ih_4  ((x + 1) + 1) (i + 1) (nU (nU g x (K r i)) (x + 1) (K r i)) (by first | assumption | omega) (by simp only [sumM, mdB]; rw [if_pos (by omega)]; omega) (by have z := mk_step hx hg; rw [if_pos (by omega)] at z; exact z) _ _ _ (by omega) hw (lv_sub hl [4, 5, 2, 0] rfl)
  exact loop_4 (w r - 0 + 1) 0 0 mb (by first | assumption | omega) rfl (fun i q => absurd q (by omega)) _ _ _ (Nat.lt_succ_self _) hw (lv_sub hl [2, 3, 1, 0] rfl)
set_option maxHeartbeats 4000000 in
set_option maxRecDepth 100000 in
theorem c_m_takesRow (l : Launch) (G : kG) (D : Nat → Nat) (sa : Nat → Int64) (pa : Nat → Int64) (pn : Nat) (tx : Nat → Nat) (tn : Nat) (rf : Nat) (ro : Nat → Nat) (wk : Nat) (mb : Nat → Nat) (so : Nat) (kd : Nat → Nat) (nu : Nat → Nat) (it : Nat) (ti : Nat) (rd : Nat) (ad : Nat → Int64) (R : Nat) (sp : Bool) (K : Nat → Nat → Nat) (w : Nat → Nat) (y : Nat → Nat) (r : Nat) (hmo : MOk sa R sp K w y) (hr : r < R) : kCM l yX7_takesRow wsX7_takesRow 1 22 0 0 G [.ref (D 0), vN (r)] (wMod G D sa pa pn tx tn rf ro wk mb so kd nu it ti rd ad) (fun vv uu => ∃ (ro2 : Nat → Nat), vv = none ∧ uu = wMod G D sa pa pn tx tn rf ro2 (w r) mb so kd nu it ti rd ad ∧ (∀ i, i < w r → ro2 i = K r i)) := by
  refine kCM.of (cc := cX7_takesRow) (maxL := 3) (ret := none) (by decide) rfl (Nat.le_of_ble_eq_true rfl) ?_
  intro p e s m args below meth c A ls Qz hQ hin hm hw hl
  have hl : lv_has ls 3 [(0, .ref (D 0)), (1, vN (r))] := hl
  have i7 : ∀ w ∈ wsX70, w ∈ wsX7_takesRow := by decide +kernel
  have hR := hmo.1.1
  have hb := hmo.1.2.1 r hr
  refine k_aload_n hm hl 0 rfl dX7_takesRow_0 ?_
  refine k_aload_n hm hl 0 rfl dX7_takesRow_1 ?_
  refine k_iload_n hm hl 1 rfl dX7_takesRow_2 ?_
  refine k_callVr (n := 1) (As := [vN (r)]) (rest := [.ref (D 0)]) hm hw hl (c_m_worksOf l G D sa pa pn tx tn rf ro wk mb so kd nu it ti rd ad R sp K w y r (by first | assumption | omega) (by first | assumption | omega)) gX7_takesRow_X7_worksOf rfl (by decide +kernel) ⟨by decide, by decide⟩ (ci := 7) rfl 0 rfl [0, 1, 2, 3, 4, 5, 6, 7, 8] (by decide) rfl rfl rfl (by simp [Value.category]) ⟨by decide, by decide⟩ dX7_takesRow_3 (fun v H locs hp hw => ?_)
  obtain rfl := hp
  refine W.eq (g2 := F0 m 6 ls [vN (w r), .ref (D 0)]) rfl ?_
  refine k_put (T := TX7) hm hw 0 7 (wMod G D sa pa pn tx tn rf ro (w r) mb so kd nu it ti rd ad) i7 tyX7 tyX7_ok nmX7 rfl rfl (by decide) (by decide +kernel) rfl (tyX7_ok 7 (by decide)) rfl rfl (Nat.le_of_ble_eq_true rfl) rfl dX7_takesRow_6 (fun H locs hw => ?_)
  refine k_iconstN hm 0 dX7_takesRow_9 ?_
  refine k_istore_n hm hl [(2, vN (0)), (0, .ref (D 0)), (1, vN (r))] (by decide) rfl dX7_takesRow_10 (fun ls hl => ?_)
  have loop_11 : ∀ (fu : Nat) (i : Nat) (g : Nat → Nat) (hi : i ≤ w r) (hg : ∀ j, j < i → g j = K r j) (H : Heap) (locs : List Loc) (ls : Array Slot), w r - i < fu → kW G A s (wMod G D sa pa pn tx tn rf g (w r) mb so kd nu it ti rd ad) H locs → lv_has ls 3 [(0, .ref (D 0)), (1, vN (r)), (2, vN (i))] → W p l e { frames := 1, cells := 0, slots := 0, locals := 22 } s m args below meth c H locs 0 0 Qz (F0 m 11 ls []) := by
    intro fu
    induction fu with
    | zero => intro i g hi hg H locs ls hfu; exact absurd hfu (Nat.not_lt_zero _)
    | succ fu ih_11 =>
      intro i g hi hg H locs ls hfu hw hl
      refine k_iload_n hm hl 2 rfl dX7_takesRow_11 ?_
      refine k_aload_n hm hl 0 rfl dX7_takesRow_12 ?_
      refine k_get (T := TX7) hm hw 0 7 i7 rfl rfl (by decide) (by decide +kernel) rfl dX7_takesRow_13 ?_
      refine k_icmpge (tgt := 37) hm dX7_takesRow_16 (by decide) (by omega) (fun c_2 => ?_) (fun c_2 => ?_)
      · exact k_vret hm hQ rfl hw (⟨g, rfl, rfl, fun j q => hg j (by omega)⟩) (by omega) (by omega) dX7_takesRow_37
      · refine k_aload_n hm hl 0 rfl dX7_takesRow_19 ?_
        refine k_get (T := TX7) hm hw 0 6 i7 rfl rfl (by decide) (by decide +kernel) rfl dX7_takesRow_20 ?_
        refine k_iload_n hm hl 2 rfl dX7_takesRow_23 ?_
        refine k_aload_n hm hl 0 rfl dX7_takesRow_24 ?_
        refine k_iload_n hm hl 1 rfl dX7_takesRow_25 ?_
        refine k_iload_n hm hl 2 rfl dX7_takesRow_26 ?_
        refine k_callVr (n := 2) (As := [vN (r), vN (i)]) (rest := [vN (i), .ref (D 4)]) hm hw hl (c_m_kindOf l G D sa pa pn tx tn rf g (w r) mb so kd nu it ti rd ad R sp K w y r i (by first | assumption | omega) (by first | assumption | omega) (by first | assumption | omega)) gX7_takesRow_X7_kindOf rfl (by decide +kernel) ⟨by decide, by decide⟩ (ci := 7) rfl 0 rfl [0, 1, 2, 3, 4, 5, 6, 7, 8] (by decide) rfl rfl rfl (by simp [Value.category]) ⟨by decide, by decide⟩ dX7_takesRow_27 (fun v H locs hp hw => ?_)
        obtain rfl := hp
        refine W.eq (g2 := F0 m 30 ls [vN (K r i), vN (i), .ref (D 4)]) rfl ?_
        refine k_iastN hm hw 4 (wMod G D sa pa pn tx tn rf (nU g i (K r i)) (w r) mb so kd nu it ti rd ad) rfl (by omega) rfl dX7_takesRow_30 (fun H locs hw => ?_)
        refine k_iincN hm hl 2 1 rfl [(2, vN (i + 1)), (0, .ref (D 0)), (1, vN (r))] (by decide) rfl dX7_takesRow_31 (fun ls hl => ?_)
        refine k_goto (tgt := 11) hm dX7_takesRow_34 (by decide) ?_
        exact ih_11  (i + 1) (nU g i (K r i)) (by first | assumption | omega) (fun j q => by rcases Nat.lt_or_ge j i with z | z; rw [nU_n (by omega)]; exact hg j z; rw [show j = i by omega, nU_s]) _ _ _ (by omega) hw (lv_sub hl [1, 2, 0] rfl)
  exact loop_11 (w r - 0 + 1) 0 ro (by first | assumption | omega) (fun i q => absurd q (by omega)) _ _ _ (Nat.lt_succ_self _) hw (lv_sub hl [1, 2, 0] rfl)
set_option maxHeartbeats 4000000 in
set_option maxRecDepth 100000 in
theorem c_m_stacked (l : Launch) (G : kG) (D : Nat → Nat) (sa : Nat → Int64) (pa : Nat → Int64) (pn : Nat) (tx : Nat → Nat) (tn : Nat) (rf : Nat) (ro : Nat → Nat) (wk : Nat) (mb : Nat → Nat) (so : Nat) (kd : Nat → Nat) (nu : Nat → Nat) (it : Nat) (ti : Nat) (rd : Nat) (ad : Nat → Int64) (hwk : wk ≤ 120) (hro : ∀ i, i < wk → ro i ≤ 2) (hU : sumU ro wk ≤ 120) (hmb : ∀ x, x < sumU ro wk → mb x ≤ 2) : kCR l yX7_stacked wsX7_stacked 0 0 G [.ref (D 0)] (wMod G D sa pa pn tx tn rf ro wk mb so kd nu it ti rd ad) (fun vv => vv = some (vN (nstk mb ro wk))) := by
  refine kCM.of (cc := cX7_stacked) (maxL := 6) (ret := (some .int)) (by decide) rfl (Nat.le_of_ble_eq_true rfl) ?_
  intro p e s m args below meth c A ls Qz hQ hin hm hw hl
  have hl : lv_has ls 6 [(0, .ref (D 0))] := hl
  have i7 : ∀ w ∈ wsX70, w ∈ wsX7_stacked := by decide +kernel
  refine k_iconstN hm 0 dX7_stacked_0 ?_
  refine k_istore_n hm hl [(1, vN (0)), (0, .ref (D 0))] (by decide) rfl dX7_stacked_1 (fun ls hl => ?_)
  refine k_iconstN hm 0 dX7_stacked_2 ?_
  refine k_istore_n hm hl [(2, vN (0)), (1, vN (0)), (0, .ref (D 0))] (by decide) rfl dX7_stacked_3 (fun ls hl => ?_)
  refine k_iconstN hm 0 dX7_stacked_4 ?_
  refine k_istore_n hm hl [(3, vN (0)), (2, vN (0)), (1, vN (0)), (0, .ref (D 0))] (by decide) rfl dX7_stacked_5 (fun ls hl => ?_)
  have loop_6 : ∀ (fu : Nat) (n : Nat) (x : Nat) (i : Nat) (hi : i ≤ wk) (hx : x = sumU ro i) (hn : n = nstk mb ro i) (H : Heap) (locs : List Loc) (ls : Array Slot), wk - i < fu → kW G A s (wMod G D sa pa pn tx tn rf ro wk mb so kd nu it ti rd ad) H locs → lv_has ls 6 [(0, .ref (D 0)), (1, vN (n)), (2, vN (x)), (3, vN (i))] → W p l e { frames := 0, cells := 0, slots := 0, locals := 0 } s m args below meth c H locs 0 0 Qz (F0 m 6 ls []) := by
    intro fu
    induction fu with
    | zero => intro n x i hi hx hn H locs ls hfu; exact absurd hfu (Nat.not_lt_zero _)
    | succ fu ih_6 =>
      intro n x i hi hx hn H locs ls hfu hw hl
      refine k_iload_n hm hl 3 rfl dX7_stacked_6 ?_
      refine k_aload_n hm hl 0 rfl dX7_stacked_7 ?_
      refine k_get (T := TX7) hm hw 0 7 i7 rfl rfl (by decide) (by decide +kernel) rfl dX7_stacked_8 ?_
      refine k_icmpge (tgt := 116) hm dX7_stacked_11 (by decide) (by omega) (fun c_1 => ?_) (fun c_1 => ?_)
      · refine k_iload_n hm hl 1 rfl dX7_stacked_116 ?_
        exact k_iret (post := _) hm hQ rfl rfl hw (⟨by rw [hn, show i = wk by omega], rfl⟩) (by omega) (by omega) dX7_stacked_117
      · have hk := hro i (by omega)
        have hs1 := sumU_mn (k := ro) (show i + 1 ≤ wk by omega)
        have hs2 : sumU ro (i + 1) = sumU ro i + usB (ro i) := rfl
        have hu1 := usB_le (ro i)
        have hm1 := hmb x (by omega)
        have hnl := nstk_le mb ro i
        refine k_aload_n hm hl 0 rfl dX7_stacked_14 ?_
        refine k_get (T := TX7) hm hw 0 8 i7 rfl rfl (by decide) (by decide +kernel) rfl dX7_stacked_15 ?_
        refine k_iload_n hm hl 2 rfl dX7_stacked_18 ?_
        refine k_ialdN hm hw 5 rfl (by omega) dX7_stacked_19 ?_
        refine k_aload_n hm hl 0 rfl dX7_stacked_20 ?_
        refine k_get (T := TX7) hm hw 0 6 i7 rfl rfl (by decide) (by decide +kernel) rfl dX7_stacked_21 ?_
        refine k_iload_n hm hl 3 rfl dX7_stacked_24 ?_
        refine k_ialdN hm hw 4 rfl (by omega) dX7_stacked_25 ?_
        refine k_icmpne (tgt := 33) hm dX7_stacked_26 (by decide) (by omega) (fun c_2 => ?_) (fun c_2 => ?_)
        · refine k_iconstN hm 0 dX7_stacked_33 ?_
          refine k_istore hm hl [(4, vN (0)), (0, .ref (D 0)), (1, vN (n)), (2, vN (x)), (3, vN (i))] (by decide) rfl dX7_stacked_34 (fun ls hl => ?_)
          refine k_aload_n hm hl 1 rfl dX7_stacked_36 ?_
          refine k_get (T := TX7) hm hw 0 6 i7 rfl rfl (by decide) (by decide +kernel) rfl dX7_stacked_37 ?_
          refine k_iload_n hm hl 4 rfl dX7_stacked_40 ?_
          refine k_ialdN hm hw 4 rfl (by omega) dX7_stacked_41 ?_
          refine k_iconstN hm 2 dX7_stacked_42 ?_
          refine k_icmpne (tgt := 62) hm dX7_stacked_43 (by decide) (by omega) (fun c_3 => ?_) (fun c_3 => ?_)
          · refine k_iconstN hm 0 dX7_stacked_62 ?_
            refine k_istore hm hl [(5, vN (0)), (4, vN (0)), (0, .ref (D 0)), (1, vN (n)), (2, vN (x)), (3, vN (i))] (by decide) rfl dX7_stacked_63 (fun ls hl => ?_)
            refine k_iload_n hm hl 3 rfl dX7_stacked_65 ?_
            refine k_aload_n hm hl 2 rfl dX7_stacked_66 ?_
            refine k_get (T := TX7) hm hw 0 6 i7 rfl rfl (by decide) (by decide +kernel) rfl dX7_stacked_67 ?_
            refine k_iload_n hm hl 5 rfl dX7_stacked_70 ?_
            refine k_ialdN hm hw 4 rfl (by omega) dX7_stacked_71 ?_
            refine k_ifeq (tgt := 89) hm dX7_stacked_72 (by decide) (by omega) (fun c_4 => ?_) (fun c_4 => ?_)
            · refine k_iconstN hm 0 dX7_stacked_89 ?_
              refine k_iaddN hm dX7_stacked_90 ?_
              refine k_istore_n hm hl [(1, vN (n + 0)), (5, vN (0)), (4, vN (0)), (0, .ref (D 0)), (2, vN (x)), (3, vN (i))] (by decide) rfl dX7_stacked_91 (fun ls hl => ?_)
              refine k_iload_n hm hl 4 rfl dX7_stacked_92 ?_
              refine k_aload_n hm hl 3 rfl dX7_stacked_93 ?_
              refine k_get (T := TX7) hm hw 0 6 i7 rfl rfl (by decide) (by decide +kernel) rfl dX7_stacked_94 ?_
              refine k_iload_n hm hl 5 rfl dX7_stacked_97 ?_
              refine k_ialdN hm hw 4 rfl (by omega) dX7_stacked_98 ?_
              refine k_iconstN hm 2 dX7_stacked_99 ?_
              refine k_icmpne (tgt := 107) hm dX7_stacked_100 (by decide) (by omega) (fun c_5 => ?_) (fun c_5 => ?_)
              · refine k_iconstN hm 1 dX7_stacked_107 ?_
                refine k_iaddN hm dX7_stacked_108 ?_
                refine k_istore_n hm hl [(2, vN (x + 1)), (1, vN (n + 0)), (5, vN (0)), (4, vN (0)), (0, .ref (D 0)), (3, vN (i))] (by decide) rfl dX7_stacked_109 (fun ls hl => ?_)
                refine k_iincN hm hl 5 1 rfl [(3, vN (i + 1)), (2, vN (x + 1)), (1, vN (n + 0)), (5, vN (0)), (4, vN (0)), (0, .ref (D 0))] (by decide) rfl dX7_stacked_110 (fun ls hl => ?_)
                refine k_goto (tgt := 6) hm dX7_stacked_113 (by decide) ?_
                exact ih_6  (n + 0) (x + 1) (i + 1) (by first | assumption | omega) (by first | (exfalso; omega) | (simp only [sumU, usB]; first | rw [if_pos (by omega)]; omega | rw [if_neg (by omega)]; omega)) (by first | (exfalso; omega) | (simp only [nstk]; rw [← hx, hn]; first | rw [if_pos (by omega)] | rw [if_neg (by omega)])) _ _ _ (by omega) hw (lv_sub hl [5, 2, 1, 0] rfl)
              · refine k_iconstN hm 2 dX7_stacked_103 ?_
                refine k_goto (tgt := 108) hm dX7_stacked_104 (by decide) ?_
                refine k_iaddN hm dX7_stacked_108 ?_
                refine k_istore_n hm hl [(2, vN (x + 2)), (1, vN (n + 0)), (5, vN (0)), (4, vN (0)), (0, .ref (D 0)), (3, vN (i))] (by decide) rfl dX7_stacked_109 (fun ls hl => ?_)
                refine k_iincN hm hl 5 1 rfl [(3, vN (i + 1)), (2, vN (x + 2)), (1, vN (n + 0)), (5, vN (0)), (4, vN (0)), (0, .ref (D 0))] (by decide) rfl dX7_stacked_110 (fun ls hl => ?_)
                refine k_goto (tgt := 6) hm dX7_stacked_113 (by decide) ?_
                exact ih_6  (n + 0) (x + 2) (i + 1) (by first | assumption | omega) (by first | (exfalso; omega) | (simp only [sumU, usB]; first | rw [if_pos (by omega)]; omega | rw [if_neg (by omega)]; omega)) (by first | (exfalso; omega) | (simp only [nstk]; rw [← hx, hn]; first | rw [if_pos (by omega)] | rw [if_neg (by omega)])) _ _ _ (by omega) hw (lv_sub hl [5, 2, 1, 0] rfl)
            · refine k_iload hm hl 1 rfl dX7_stacked_75 ?_
              refine k_ifne (tgt := 85) hm dX7_stacked_77 (by decide) (by omega) (fun c_6 => absurd c_6 (by omega)) (fun c_6 => ?_)
              refine k_iload hm hl 0 rfl dX7_stacked_80 ?_
              refine k_ifeq (tgt := 89) hm dX7_stacked_82 (by decide) (by omega) (fun c_7 => ?_) (fun c_7 => absurd c_7 (by omega))
              refine k_iconstN hm 0 dX7_stacked_89 ?_
              refine k_iaddN hm dX7_stacked_90 ?_
              refine k_istore_n hm hl [(1, vN (n + 0)), (5, vN (0)), (4, vN (0)), (0, .ref (D 0)), (2, vN (x)), (3, vN (i))] (by decide) rfl dX7_stacked_91 (fun ls hl => ?_)
              refine k_iload_n hm hl 4 rfl dX7_stacked_92 ?_
              refine k_aload_n hm hl 3 rfl dX7_stacked_93 ?_
              refine k_get (T := TX7) hm hw 0 6 i7 rfl rfl (by decide) (by decide +kernel) rfl dX7_stacked_94 ?_
              refine k_iload_n hm hl 5 rfl dX7_stacked_97 ?_
              refine k_ialdN hm hw 4 rfl (by omega) dX7_stacked_98 ?_
              refine k_iconstN hm 2 dX7_stacked_99 ?_
              refine k_icmpne (tgt := 107) hm dX7_stacked_100 (by decide) (by omega) (fun c_8 => ?_) (fun c_8 => ?_)
              · refine k_iconstN hm 1 dX7_stacked_107 ?_
                refine k_iaddN hm dX7_stacked_108 ?_
                refine k_istore_n hm hl [(2, vN (x + 1)), (1, vN (n + 0)), (5, vN (0)), (4, vN (0)), (0, .ref (D 0)), (3, vN (i))] (by decide) rfl dX7_stacked_109 (fun ls hl => ?_)
                refine k_iincN hm hl 5 1 rfl [(3, vN (i + 1)), (2, vN (x + 1)), (1, vN (n + 0)), (5, vN (0)), (4, vN (0)), (0, .ref (D 0))] (by decide) rfl dX7_stacked_110 (fun ls hl => ?_)
                refine k_goto (tgt := 6) hm dX7_stacked_113 (by decide) ?_
                exact ih_6  (n + 0) (x + 1) (i + 1) (by first | assumption | omega) (by first | (exfalso; omega) | (simp only [sumU, usB]; first | rw [if_pos (by omega)]; omega | rw [if_neg (by omega)]; omega)) (by first | (exfalso; omega) | (simp only [nstk]; rw [← hx, hn]; first | rw [if_pos (by omega)] | rw [if_neg (by omega)])) _ _ _ (by omega) hw (lv_sub hl [5, 2, 1, 0] rfl)
              · refine k_iconstN hm 2 dX7_stacked_103 ?_
                refine k_goto (tgt := 108) hm dX7_stacked_104 (by decide) ?_
                refine k_iaddN hm dX7_stacked_108 ?_
                refine k_istore_n hm hl [(2, vN (x + 2)), (1, vN (n + 0)), (5, vN (0)), (4, vN (0)), (0, .ref (D 0)), (3, vN (i))] (by decide) rfl dX7_stacked_109 (fun ls hl => ?_)
                refine k_iincN hm hl 5 1 rfl [(3, vN (i + 1)), (2, vN (x + 2)), (1, vN (n + 0)), (5, vN (0)), (4, vN (0)), (0, .ref (D 0))] (by decide) rfl dX7_stacked_110 (fun ls hl => ?_)
                refine k_goto (tgt := 6) hm dX7_stacked_113 (by decide) ?_
                exact ih_6  (n + 0) (x + 2) (i + 1) (by first | assumption | omega) (by first | (exfalso; omega) | (simp only [sumU, usB]; first | rw [if_pos (by omega)]; omega | rw [if_neg (by omega)]; omega)) (by first | (exfalso; omega) | (simp only [nstk]; rw [← hx, hn]; first | rw [if_pos (by omega)] | rw [if_neg (by omega)])) _ _ _ (by omega) hw (lv_sub hl [5, 2, 1, 0] rfl)
          · have hu2 : usB (ro i) = 2 := by unfold usB; rw [if_pos (by omega)]
            have hm2 := hmb (x + 1) (by omega)
            refine k_aload_n hm hl 1 rfl dX7_stacked_46 ?_
            refine k_get (T := TX7) hm hw 0 8 i7 rfl rfl (by decide) (by decide +kernel) rfl dX7_stacked_47 ?_
            refine k_iload_n hm hl 3 rfl dX7_stacked_50 ?_
            refine k_iconstN hm 1 dX7_stacked_51 ?_
            refine k_iaddN hm dX7_stacked_52 ?_
            refine k_ialdN hm hw 5 rfl (by omega) dX7_stacked_53 ?_
            refine k_iconstN hm 2 dX7_stacked_54 ?_
            refine k_icmpne (tgt := 62) hm dX7_stacked_55 (by decide) (by omega) (fun c_9 => ?_) (fun c_9 => ?_)
            · refine k_iconstN hm 0 dX7_stacked_62 ?_
              refine k_istore hm hl [(5, vN (0)), (4, vN (0)), (0, .ref (D 0)), (1, vN (n)), (2, vN (x)), (3, vN (i))] (by decide) rfl dX7_stacked_63 (fun ls hl => ?_)
              refine k_iload_n hm hl 3 rfl dX7_stacked_65 ?_
              refine k_aload_n hm hl 2 rfl dX7_stacked_66 ?_
              refine k_get (T := TX7) hm hw 0 6 i7 rfl rfl (by decide) (by decide +kernel) rfl dX7_stacked_67 ?_
              refine k_iload_n hm hl 5 rfl dX7_stacked_70 ?_
              refine k_ialdN hm hw 4 rfl (by omega) dX7_stacked_71 ?_
              refine k_ifeq (tgt := 89) hm dX7_stacked_72 (by decide) (by omega) (fun c_10 => ?_) (fun c_10 => ?_)
              · refine k_iconstN hm 0 dX7_stacked_89 ?_
                refine k_iaddN hm dX7_stacked_90 ?_
                refine k_istore_n hm hl [(1, vN (n + 0)), (5, vN (0)), (4, vN (0)), (0, .ref (D 0)), (2, vN (x)), (3, vN (i))] (by decide) rfl dX7_stacked_91 (fun ls hl => ?_)
                refine k_iload_n hm hl 4 rfl dX7_stacked_92 ?_
                refine k_aload_n hm hl 3 rfl dX7_stacked_93 ?_
                refine k_get (T := TX7) hm hw 0 6 i7 rfl rfl (by decide) (by decide +kernel) rfl dX7_stacked_94 ?_
                refine k_iload_n hm hl 5 rfl dX7_stacked_97 ?_
                refine k_ialdN hm hw 4 rfl (by omega) dX7_stacked_98 ?_
                refine k_iconstN hm 2 dX7_stacked_99 ?_
                refine k_icmpne (tgt := 107) hm dX7_stacked_100 (by decide) (by omega) (fun c_11 => ?_) (fun c_11 => ?_)
                · refine k_iconstN hm 1 dX7_stacked_107 ?_
                  refine k_iaddN hm dX7_stacked_108 ?_
                  refine k_istore_n hm hl [(2, vN (x + 1)), (1, vN (n + 0)), (5, vN (0)), (4, vN (0)), (0, .ref (D 0)), (3, vN (i))] (by decide) rfl dX7_stacked_109 (fun ls hl => ?_)
                  refine k_iincN hm hl 5 1 rfl [(3, vN (i + 1)), (2, vN (x + 1)), (1, vN (n + 0)), (5, vN (0)), (4, vN (0)), (0, .ref (D 0))] (by decide) rfl dX7_stacked_110 (fun ls hl => ?_)
                  refine k_goto (tgt := 6) hm dX7_stacked_113 (by decide) ?_
                  exact ih_6  (n + 0) (x + 1) (i + 1) (by first | assumption | omega) (by first | (exfalso; omega) | (simp only [sumU, usB]; first | rw [if_pos (by omega)]; omega | rw [if_neg (by omega)]; omega)) (by first | (exfalso; omega) | (simp only [nstk]; rw [← hx, hn]; first | rw [if_pos (by omega)] | rw [if_neg (by omega)])) _ _ _ (by omega) hw (lv_sub hl [5, 2, 1, 0] rfl)
                · refine k_iconstN hm 2 dX7_stacked_103 ?_
                  refine k_goto (tgt := 108) hm dX7_stacked_104 (by decide) ?_
                  refine k_iaddN hm dX7_stacked_108 ?_
                  refine k_istore_n hm hl [(2, vN (x + 2)), (1, vN (n + 0)), (5, vN (0)), (4, vN (0)), (0, .ref (D 0)), (3, vN (i))] (by decide) rfl dX7_stacked_109 (fun ls hl => ?_)
                  refine k_iincN hm hl 5 1 rfl [(3, vN (i + 1)), (2, vN (x + 2)), (1, vN (n + 0)), (5, vN (0)), (4, vN (0)), (0, .ref (D 0))] (by decide) rfl dX7_stacked_110 (fun ls hl => ?_)
                  refine k_goto (tgt := 6) hm dX7_stacked_113 (by decide) ?_
                  exact ih_6  (n + 0) (x + 2) (i + 1) (by first | assumption | omega) (by first | (exfalso; omega) | (simp only [sumU, usB]; first | rw [if_pos (by omega)]; omega | rw [if_neg (by omega)]; omega)) (by first | (exfalso; omega) | (simp only [nstk]; rw [← hx, hn]; first | rw [if_pos (by omega)] | rw [if_neg (by omega)])) _ _ _ (by omega) hw (lv_sub hl [5, 2, 1, 0] rfl)
              · refine k_iload hm hl 1 rfl dX7_stacked_75 ?_
                refine k_ifne (tgt := 85) hm dX7_stacked_77 (by decide) (by omega) (fun c_12 => absurd c_12 (by omega)) (fun c_12 => ?_)
                refine k_iload hm hl 0 rfl dX7_stacked_80 ?_
                refine k_ifeq (tgt := 89) hm dX7_stacked_82 (by decide) (by omega) (fun c_13 => ?_) (fun c_13 => absurd c_13 (by omega))
                refine k_iconstN hm 0 dX7_stacked_89 ?_
                refine k_iaddN hm dX7_stacked_90 ?_
                refine k_istore_n hm hl [(1, vN (n + 0)), (5, vN (0)), (4, vN (0)), (0, .ref (D 0)), (2, vN (x)), (3, vN (i))] (by decide) rfl dX7_stacked_91 (fun ls hl => ?_)
                refine k_iload_n hm hl 4 rfl dX7_stacked_92 ?_
                refine k_aload_n hm hl 3 rfl dX7_stacked_93 ?_
                refine k_get (T := TX7) hm hw 0 6 i7 rfl rfl (by decide) (by decide +kernel) rfl dX7_stacked_94 ?_
                refine k_iload_n hm hl 5 rfl dX7_stacked_97 ?_
                refine k_ialdN hm hw 4 rfl (by omega) dX7_stacked_98 ?_
                refine k_iconstN hm 2 dX7_stacked_99 ?_
                refine k_icmpne (tgt := 107) hm dX7_stacked_100 (by decide) (by omega) (fun c_14 => ?_) (fun c_14 => ?_)
                · refine k_iconstN hm 1 dX7_stacked_107 ?_
                  refine k_iaddN hm dX7_stacked_108 ?_
                  refine k_istore_n hm hl [(2, vN (x + 1)), (1, vN (n + 0)), (5, vN (0)), (4, vN (0)), (0, .ref (D 0)), (3, vN (i))] (by decide) rfl dX7_stacked_109 (fun ls hl => ?_)
                  refine k_iincN hm hl 5 1 rfl [(3, vN (i + 1)), (2, vN (x + 1)), (1, vN (n + 0)), (5, vN (0)), (4, vN (0)), (0, .ref (D 0))] (by decide) rfl dX7_stacked_110 (fun ls hl => ?_)
                  refine k_goto (tgt := 6) hm dX7_stacked_113 (by decide) ?_
                  exact ih_6  (n + 0) (x + 1) (i + 1) (by first | assumption | omega) (by first | (exfalso; omega) | (simp only [sumU, usB]; first | rw [if_pos (by omega)]; omega | rw [if_neg (by omega)]; omega)) (by first | (exfalso; omega) | (simp only [nstk]; rw [← hx, hn]; first | rw [if_pos (by omega)] | rw [if_neg (by omega)])) _ _ _ (by omega) hw (lv_sub hl [5, 2, 1, 0] rfl)
                · refine k_iconstN hm 2 dX7_stacked_103 ?_
                  refine k_goto (tgt := 108) hm dX7_stacked_104 (by decide) ?_
                  refine k_iaddN hm dX7_stacked_108 ?_
                  refine k_istore_n hm hl [(2, vN (x + 2)), (1, vN (n + 0)), (5, vN (0)), (4, vN (0)), (0, .ref (D 0)), (3, vN (i))] (by decide) rfl dX7_stacked_109 (fun ls hl => ?_)
                  refine k_iincN hm hl 5 1 rfl [(3, vN (i + 1)), (2, vN (x + 2)), (1, vN (n + 0)), (5, vN (0)), (4, vN (0)), (0, .ref (D 0))] (by decide) rfl dX7_stacked_110 (fun ls hl => ?_)
                  refine k_goto (tgt := 6) hm dX7_stacked_113 (by decide) ?_
                  exact ih_6  (n + 0) (x + 2) (i + 1) (by first | assumption | omega) (by first | (exfalso; omega) | (simp only [sumU, usB]; first | rw [if_pos (by omega)]; omega | rw [if_neg (by omega)]; omega)) (by first | (exfalso; omega) | (simp only [nstk]; rw [← hx, hn]; first | rw [if_pos (by omega)] | rw [if_neg (by omega)])) _ _ _ (by omega) hw (lv_sub hl [5, 2, 1, 0] rfl)
            · refine k_iconstN hm 1 dX7_stacked_58 ?_
              refine k_goto (tgt := 63) hm dX7_stacked_59 (by decide) ?_
              refine k_istore hm hl [(5, vN (1)), (4, vN (0)), (0, .ref (D 0)), (1, vN (n)), (2, vN (x)), (3, vN (i))] (by decide) rfl dX7_stacked_63 (fun ls hl => ?_)
              refine k_iload_n hm hl 3 rfl dX7_stacked_65 ?_
              refine k_aload_n hm hl 2 rfl dX7_stacked_66 ?_
              refine k_get (T := TX7) hm hw 0 6 i7 rfl rfl (by decide) (by decide +kernel) rfl dX7_stacked_67 ?_
              refine k_iload_n hm hl 5 rfl dX7_stacked_70 ?_
              refine k_ialdN hm hw 4 rfl (by omega) dX7_stacked_71 ?_
              refine k_ifeq (tgt := 89) hm dX7_stacked_72 (by decide) (by omega) (fun c_15 => ?_) (fun c_15 => ?_)
              · refine k_iconstN hm 0 dX7_stacked_89 ?_
                refine k_iaddN hm dX7_stacked_90 ?_
                refine k_istore_n hm hl [(1, vN (n + 0)), (5, vN (1)), (4, vN (0)), (0, .ref (D 0)), (2, vN (x)), (3, vN (i))] (by decide) rfl dX7_stacked_91 (fun ls hl => ?_)
                refine k_iload_n hm hl 4 rfl dX7_stacked_92 ?_
                refine k_aload_n hm hl 3 rfl dX7_stacked_93 ?_
                refine k_get (T := TX7) hm hw 0 6 i7 rfl rfl (by decide) (by decide +kernel) rfl dX7_stacked_94 ?_
                refine k_iload_n hm hl 5 rfl dX7_stacked_97 ?_
                refine k_ialdN hm hw 4 rfl (by omega) dX7_stacked_98 ?_
                refine k_iconstN hm 2 dX7_stacked_99 ?_
                refine k_icmpne (tgt := 107) hm dX7_stacked_100 (by decide) (by omega) (fun c_16 => ?_) (fun c_16 => ?_)
                · refine k_iconstN hm 1 dX7_stacked_107 ?_
                  refine k_iaddN hm dX7_stacked_108 ?_
                  refine k_istore_n hm hl [(2, vN (x + 1)), (1, vN (n + 0)), (5, vN (1)), (4, vN (0)), (0, .ref (D 0)), (3, vN (i))] (by decide) rfl dX7_stacked_109 (fun ls hl => ?_)
                  refine k_iincN hm hl 5 1 rfl [(3, vN (i + 1)), (2, vN (x + 1)), (1, vN (n + 0)), (5, vN (1)), (4, vN (0)), (0, .ref (D 0))] (by decide) rfl dX7_stacked_110 (fun ls hl => ?_)
                  refine k_goto (tgt := 6) hm dX7_stacked_113 (by decide) ?_
                  exact ih_6  (n + 0) (x + 1) (i + 1) (by first | assumption | omega) (by first | (exfalso; omega) | (simp only [sumU, usB]; first | rw [if_pos (by omega)]; omega | rw [if_neg (by omega)]; omega)) (by first | (exfalso; omega) | (simp only [nstk]; rw [← hx, hn]; first | rw [if_pos (by omega)] | rw [if_neg (by omega)])) _ _ _ (by omega) hw (lv_sub hl [5, 2, 1, 0] rfl)
                · refine k_iconstN hm 2 dX7_stacked_103 ?_
                  refine k_goto (tgt := 108) hm dX7_stacked_104 (by decide) ?_
                  refine k_iaddN hm dX7_stacked_108 ?_
                  refine k_istore_n hm hl [(2, vN (x + 2)), (1, vN (n + 0)), (5, vN (1)), (4, vN (0)), (0, .ref (D 0)), (3, vN (i))] (by decide) rfl dX7_stacked_109 (fun ls hl => ?_)
                  refine k_iincN hm hl 5 1 rfl [(3, vN (i + 1)), (2, vN (x + 2)), (1, vN (n + 0)), (5, vN (1)), (4, vN (0)), (0, .ref (D 0))] (by decide) rfl dX7_stacked_110 (fun ls hl => ?_)
                  refine k_goto (tgt := 6) hm dX7_stacked_113 (by decide) ?_
                  exact ih_6  (n + 0) (x + 2) (i + 1) (by first | assumption | omega) (by first | (exfalso; omega) | (simp only [sumU, usB]; first | rw [if_pos (by omega)]; omega | rw [if_neg (by omega)]; omega)) (by first | (exfalso; omega) | (simp only [nstk]; rw [← hx, hn]; first | rw [if_pos (by omega)] | rw [if_neg (by omega)])) _ _ _ (by omega) hw (lv_sub hl [5, 2, 1, 0] rfl)
              · refine k_iload hm hl 1 rfl dX7_stacked_75 ?_
                refine k_ifne (tgt := 85) hm dX7_stacked_77 (by decide) (by omega) (fun c_17 => absurd c_17 (by omega)) (fun c_17 => ?_)
                refine k_iload hm hl 0 rfl dX7_stacked_80 ?_
                refine k_ifeq (tgt := 89) hm dX7_stacked_82 (by decide) (by omega) (fun c_18 => absurd c_18 (by omega)) (fun c_18 => ?_)
                refine k_iconstN hm 1 dX7_stacked_85 ?_
                refine k_goto (tgt := 90) hm dX7_stacked_86 (by decide) ?_
                refine k_iaddN hm dX7_stacked_90 ?_
                refine k_istore_n hm hl [(1, vN (n + 1)), (5, vN (1)), (4, vN (0)), (0, .ref (D 0)), (2, vN (x)), (3, vN (i))] (by decide) rfl dX7_stacked_91 (fun ls hl => ?_)
                refine k_iload_n hm hl 4 rfl dX7_stacked_92 ?_
                refine k_aload_n hm hl 3 rfl dX7_stacked_93 ?_
                refine k_get (T := TX7) hm hw 0 6 i7 rfl rfl (by decide) (by decide +kernel) rfl dX7_stacked_94 ?_
                refine k_iload_n hm hl 5 rfl dX7_stacked_97 ?_
                refine k_ialdN hm hw 4 rfl (by omega) dX7_stacked_98 ?_
                refine k_iconstN hm 2 dX7_stacked_99 ?_
                refine k_icmpne (tgt := 107) hm dX7_stacked_100 (by decide) (by omega) (fun c_19 => ?_) (fun c_19 => ?_)
                · refine k_iconstN hm 1 dX7_stacked_107 ?_
                  refine k_iaddN hm dX7_stacked_108 ?_
                  refine k_istore_n hm hl [(2, vN (x + 1)), (1, vN (n + 1)), (5, vN (1)), (4, vN (0)), (0, .ref (D 0)), (3, vN (i))] (by decide) rfl dX7_stacked_109 (fun ls hl => ?_)
                  refine k_iincN hm hl 5 1 rfl [(3, vN (i + 1)), (2, vN (x + 1)), (1, vN (n + 1)), (5, vN (1)), (4, vN (0)), (0, .ref (D 0))] (by decide) rfl dX7_stacked_110 (fun ls hl => ?_)
                  refine k_goto (tgt := 6) hm dX7_stacked_113 (by decide) ?_
                  exact ih_6  (n + 1) (x + 1) (i + 1) (by first | assumption | omega) (by first | (exfalso; omega) | (simp only [sumU, usB]; first | rw [if_pos (by omega)]; omega | rw [if_neg (by omega)]; omega)) (by first | (exfalso; omega) | (simp only [nstk]; rw [← hx, hn]; first | rw [if_pos (by omega)] | rw [if_neg (by omega)])) _ _ _ (by omega) hw (lv_sub hl [5, 2, 1, 0] rfl)
                · refine k_iconstN hm 2 dX7_stacked_103 ?_
                  refine k_goto (tgt := 108) hm dX7_stacked_104 (by decide) ?_
                  refine k_iaddN hm dX7_stacked_108 ?_
                  refine k_istore_n hm hl [(2, vN (x + 2)), (1, vN (n + 1)), (5, vN (1)), (4, vN (0)), (0, .ref (D 0)), (3, vN (i))] (by decide) rfl dX7_stacked_109 (fun ls hl => ?_)
                  refine k_iincN hm hl 5 1 rfl [(3, vN (i + 1)), (2, vN (x + 2)), (1, vN (n + 1)), (5, vN (1)), (4, vN (0)), (0, .ref (D 0))] (by decide) rfl dX7_stacked_110 (fun ls hl => ?_)
                  refine k_goto (tgt := 6) hm dX7_stacked_113 (by decide) ?_
                  exact ih_6  (n + 1) (x + 2) (i + 1) (by first | assumption | omega) (by first | (exfalso; omega) | (simp only [sumU, usB]; first | rw [if_pos (by omega)]; omega | rw [if_neg (by omega)]; omega)) (by first | (exfalso; omega) | (simp only [nstk]; rw [← hx, hn]; first | rw [if_pos (by omega)] | rw [if_neg (by omega)])) _ _ _ (by omega) hw (lv_sub hl [5, 2, 1, 0] rfl)
        · refine k_iconstN hm 1 dX7_stacked_29 ?_
          refine k_goto (tgt := 34) hm dX7_stacked_30 (by decide) ?_
          refine k_istore hm hl [(4, vN (1)), (0, .ref (D 0)), (1, vN (n)), (2, vN (x)), (3, vN (i))] (by decide) rfl dX7_stacked_34 (fun ls hl => ?_)
          refine k_aload_n hm hl 1 rfl dX7_stacked_36 ?_
          refine k_get (T := TX7) hm hw 0 6 i7 rfl rfl (by decide) (by decide +kernel) rfl dX7_stacked_37 ?_
          refine k_iload_n hm hl 4 rfl dX7_stacked_40 ?_
          refine k_ialdN hm hw 4 rfl (by omega) dX7_stacked_41 ?_
          refine k_iconstN hm 2 dX7_stacked_42 ?_
          refine k_icmpne (tgt := 62) hm dX7_stacked_43 (by decide) (by omega) (fun c_20 => ?_) (fun c_20 => ?_)
          · refine k_iconstN hm 0 dX7_stacked_62 ?_
            refine k_istore hm hl [(5, vN (0)), (4, vN (1)), (0, .ref (D 0)), (1, vN (n)), (2, vN (x)), (3, vN (i))] (by decide) rfl dX7_stacked_63 (fun ls hl => ?_)
            refine k_iload_n hm hl 3 rfl dX7_stacked_65 ?_
            refine k_aload_n hm hl 2 rfl dX7_stacked_66 ?_
            refine k_get (T := TX7) hm hw 0 6 i7 rfl rfl (by decide) (by decide +kernel) rfl dX7_stacked_67 ?_
            refine k_iload_n hm hl 5 rfl dX7_stacked_70 ?_
            refine k_ialdN hm hw 4 rfl (by omega) dX7_stacked_71 ?_
            refine k_ifeq (tgt := 89) hm dX7_stacked_72 (by decide) (by omega) (fun c_21 => ?_) (fun c_21 => ?_)
            · refine k_iconstN hm 0 dX7_stacked_89 ?_
              refine k_iaddN hm dX7_stacked_90 ?_
              refine k_istore_n hm hl [(1, vN (n + 0)), (5, vN (0)), (4, vN (1)), (0, .ref (D 0)), (2, vN (x)), (3, vN (i))] (by decide) rfl dX7_stacked_91 (fun ls hl => ?_)
              refine k_iload_n hm hl 4 rfl dX7_stacked_92 ?_
              refine k_aload_n hm hl 3 rfl dX7_stacked_93 ?_
              refine k_get (T := TX7) hm hw 0 6 i7 rfl rfl (by decide) (by decide +kernel) rfl dX7_stacked_94 ?_
              refine k_iload_n hm hl 5 rfl dX7_stacked_97 ?_
              refine k_ialdN hm hw 4 rfl (by omega) dX7_stacked_98 ?_
              refine k_iconstN hm 2 dX7_stacked_99 ?_
              refine k_icmpne (tgt := 107) hm dX7_stacked_100 (by decide) (by omega) (fun c_22 => ?_) (fun c_22 => ?_)
              · refine k_iconstN hm 1 dX7_stacked_107 ?_
                refine k_iaddN hm dX7_stacked_108 ?_
                refine k_istore_n hm hl [(2, vN (x + 1)), (1, vN (n + 0)), (5, vN (0)), (4, vN (1)), (0, .ref (D 0)), (3, vN (i))] (by decide) rfl dX7_stacked_109 (fun ls hl => ?_)
                refine k_iincN hm hl 5 1 rfl [(3, vN (i + 1)), (2, vN (x + 1)), (1, vN (n + 0)), (5, vN (0)), (4, vN (1)), (0, .ref (D 0))] (by decide) rfl dX7_stacked_110 (fun ls hl => ?_)
                refine k_goto (tgt := 6) hm dX7_stacked_113 (by decide) ?_
                exact ih_6  (n + 0) (x + 1) (i + 1) (by first | assumption | omega) (by first | (exfalso; omega) | (simp only [sumU, usB]; first | rw [if_pos (by omega)]; omega | rw [if_neg (by omega)]; omega)) (by first | (exfalso; omega) | (simp only [nstk]; rw [← hx, hn]; first | rw [if_pos (by omega)] | rw [if_neg (by omega)])) _ _ _ (by omega) hw (lv_sub hl [5, 2, 1, 0] rfl)
              · refine k_iconstN hm 2 dX7_stacked_103 ?_
                refine k_goto (tgt := 108) hm dX7_stacked_104 (by decide) ?_
                refine k_iaddN hm dX7_stacked_108 ?_
                refine k_istore_n hm hl [(2, vN (x + 2)), (1, vN (n + 0)), (5, vN (0)), (4, vN (1)), (0, .ref (D 0)), (3, vN (i))] (by decide) rfl dX7_stacked_109 (fun ls hl => ?_)
                refine k_iincN hm hl 5 1 rfl [(3, vN (i + 1)), (2, vN (x + 2)), (1, vN (n + 0)), (5, vN (0)), (4, vN (1)), (0, .ref (D 0))] (by decide) rfl dX7_stacked_110 (fun ls hl => ?_)
                refine k_goto (tgt := 6) hm dX7_stacked_113 (by decide) ?_
                exact ih_6  (n + 0) (x + 2) (i + 1) (by first | assumption | omega) (by first | (exfalso; omega) | (simp only [sumU, usB]; first | rw [if_pos (by omega)]; omega | rw [if_neg (by omega)]; omega)) (by first | (exfalso; omega) | (simp only [nstk]; rw [← hx, hn]; first | rw [if_pos (by omega)] | rw [if_neg (by omega)])) _ _ _ (by omega) hw (lv_sub hl [5, 2, 1, 0] rfl)
            · refine k_iload hm hl 1 rfl dX7_stacked_75 ?_
              refine k_ifne (tgt := 85) hm dX7_stacked_77 (by decide) (by omega) (fun c_23 => ?_) (fun c_23 => absurd c_23 (by omega))
              refine k_iconstN hm 1 dX7_stacked_85 ?_
              refine k_goto (tgt := 90) hm dX7_stacked_86 (by decide) ?_
              refine k_iaddN hm dX7_stacked_90 ?_
              refine k_istore_n hm hl [(1, vN (n + 1)), (5, vN (0)), (4, vN (1)), (0, .ref (D 0)), (2, vN (x)), (3, vN (i))] (by decide) rfl dX7_stacked_91 (fun ls hl => ?_)
              refine k_iload_n hm hl 4 rfl dX7_stacked_92 ?_
              refine k_aload_n hm hl 3 rfl dX7_stacked_93 ?_
              refine k_get (T := TX7) hm hw 0 6 i7 rfl rfl (by decide) (by decide +kernel) rfl dX7_stacked_94 ?_
              refine k_iload_n hm hl 5 rfl dX7_stacked_97 ?_
              refine k_ialdN hm hw 4 rfl (by omega) dX7_stacked_98 ?_
              refine k_iconstN hm 2 dX7_stacked_99 ?_
              refine k_icmpne (tgt := 107) hm dX7_stacked_100 (by decide) (by omega) (fun c_24 => ?_) (fun c_24 => ?_)
              · refine k_iconstN hm 1 dX7_stacked_107 ?_
                refine k_iaddN hm dX7_stacked_108 ?_
                refine k_istore_n hm hl [(2, vN (x + 1)), (1, vN (n + 1)), (5, vN (0)), (4, vN (1)), (0, .ref (D 0)), (3, vN (i))] (by decide) rfl dX7_stacked_109 (fun ls hl => ?_)
                refine k_iincN hm hl 5 1 rfl [(3, vN (i + 1)), (2, vN (x + 1)), (1, vN (n + 1)), (5, vN (0)), (4, vN (1)), (0, .ref (D 0))] (by decide) rfl dX7_stacked_110 (fun ls hl => ?_)
                refine k_goto (tgt := 6) hm dX7_stacked_113 (by decide) ?_
                exact ih_6  (n + 1) (x + 1) (i + 1) (by first | assumption | omega) (by first | (exfalso; omega) | (simp only [sumU, usB]; first | rw [if_pos (by omega)]; omega | rw [if_neg (by omega)]; omega)) (by first | (exfalso; omega) | (simp only [nstk]; rw [← hx, hn]; first | rw [if_pos (by omega)] | rw [if_neg (by omega)])) _ _ _ (by omega) hw (lv_sub hl [5, 2, 1, 0] rfl)
              · refine k_iconstN hm 2 dX7_stacked_103 ?_
                refine k_goto (tgt := 108) hm dX7_stacked_104 (by decide) ?_
                refine k_iaddN hm dX7_stacked_108 ?_
                refine k_istore_n hm hl [(2, vN (x + 2)), (1, vN (n + 1)), (5, vN (0)), (4, vN (1)), (0, .ref (D 0)), (3, vN (i))] (by decide) rfl dX7_stacked_109 (fun ls hl => ?_)
                refine k_iincN hm hl 5 1 rfl [(3, vN (i + 1)), (2, vN (x + 2)), (1, vN (n + 1)), (5, vN (0)), (4, vN (1)), (0, .ref (D 0))] (by decide) rfl dX7_stacked_110 (fun ls hl => ?_)
                refine k_goto (tgt := 6) hm dX7_stacked_113 (by decide) ?_
                exact ih_6  (n + 1) (x + 2) (i + 1) (by first | assumption | omega) (by first | (exfalso; omega) | (simp only [sumU, usB]; first | rw [if_pos (by omega)]; omega | rw [if_neg (by omega)]; omega)) (by first | (exfalso; omega) | (simp only [nstk]; rw [← hx, hn]; first | rw [if_pos (by omega)] | rw [if_neg (by omega)])) _ _ _ (by omega) hw (lv_sub hl [5, 2, 1, 0] rfl)
          · have hu2 : usB (ro i) = 2 := by unfold usB; rw [if_pos (by omega)]
            have hm2 := hmb (x + 1) (by omega)
            refine k_aload_n hm hl 1 rfl dX7_stacked_46 ?_
            refine k_get (T := TX7) hm hw 0 8 i7 rfl rfl (by decide) (by decide +kernel) rfl dX7_stacked_47 ?_
            refine k_iload_n hm hl 3 rfl dX7_stacked_50 ?_
            refine k_iconstN hm 1 dX7_stacked_51 ?_
            refine k_iaddN hm dX7_stacked_52 ?_
            refine k_ialdN hm hw 5 rfl (by omega) dX7_stacked_53 ?_
            refine k_iconstN hm 2 dX7_stacked_54 ?_
            refine k_icmpne (tgt := 62) hm dX7_stacked_55 (by decide) (by omega) (fun c_25 => ?_) (fun c_25 => ?_)
            · refine k_iconstN hm 0 dX7_stacked_62 ?_
              refine k_istore hm hl [(5, vN (0)), (4, vN (1)), (0, .ref (D 0)), (1, vN (n)), (2, vN (x)), (3, vN (i))] (by decide) rfl dX7_stacked_63 (fun ls hl => ?_)
              refine k_iload_n hm hl 3 rfl dX7_stacked_65 ?_
              refine k_aload_n hm hl 2 rfl dX7_stacked_66 ?_
              refine k_get (T := TX7) hm hw 0 6 i7 rfl rfl (by decide) (by decide +kernel) rfl dX7_stacked_67 ?_
              refine k_iload_n hm hl 5 rfl dX7_stacked_70 ?_
              refine k_ialdN hm hw 4 rfl (by omega) dX7_stacked_71 ?_
              refine k_ifeq (tgt := 89) hm dX7_stacked_72 (by decide) (by omega) (fun c_26 => ?_) (fun c_26 => ?_)
              · refine k_iconstN hm 0 dX7_stacked_89 ?_
                refine k_iaddN hm dX7_stacked_90 ?_
                refine k_istore_n hm hl [(1, vN (n + 0)), (5, vN (0)), (4, vN (1)), (0, .ref (D 0)), (2, vN (x)), (3, vN (i))] (by decide) rfl dX7_stacked_91 (fun ls hl => ?_)
                refine k_iload_n hm hl 4 rfl dX7_stacked_92 ?_
                refine k_aload_n hm hl 3 rfl dX7_stacked_93 ?_
                refine k_get (T := TX7) hm hw 0 6 i7 rfl rfl (by decide) (by decide +kernel) rfl dX7_stacked_94 ?_
                refine k_iload_n hm hl 5 rfl dX7_stacked_97 ?_
                refine k_ialdN hm hw 4 rfl (by omega) dX7_stacked_98 ?_
                refine k_iconstN hm 2 dX7_stacked_99 ?_
                refine k_icmpne (tgt := 107) hm dX7_stacked_100 (by decide) (by omega) (fun c_27 => ?_) (fun c_27 => ?_)
                · refine k_iconstN hm 1 dX7_stacked_107 ?_
                  refine k_iaddN hm dX7_stacked_108 ?_
                  refine k_istore_n hm hl [(2, vN (x + 1)), (1, vN (n + 0)), (5, vN (0)), (4, vN (1)), (0, .ref (D 0)), (3, vN (i))] (by decide) rfl dX7_stacked_109 (fun ls hl => ?_)
                  refine k_iincN hm hl 5 1 rfl [(3, vN (i + 1)), (2, vN (x + 1)), (1, vN (n + 0)), (5, vN (0)), (4, vN (1)), (0, .ref (D 0))] (by decide) rfl dX7_stacked_110 (fun ls hl => ?_)
                  refine k_goto (tgt := 6) hm dX7_stacked_113 (by decide) ?_
                  exact ih_6  (n + 0) (x + 1) (i + 1) (by first | assumption | omega) (by first | (exfalso; omega) | (simp only [sumU, usB]; first | rw [if_pos (by omega)]; omega | rw [if_neg (by omega)]; omega)) (by first | (exfalso; omega) | (simp only [nstk]; rw [← hx, hn]; first | rw [if_pos (by omega)] | rw [if_neg (by omega)])) _ _ _ (by omega) hw (lv_sub hl [5, 2, 1, 0] rfl)
                · refine k_iconstN hm 2 dX7_stacked_103 ?_
                  refine k_goto (tgt := 108) hm dX7_stacked_104 (by decide) ?_
                  refine k_iaddN hm dX7_stacked_108 ?_
                  refine k_istore_n hm hl [(2, vN (x + 2)), (1, vN (n + 0)), (5, vN (0)), (4, vN (1)), (0, .ref (D 0)), (3, vN (i))] (by decide) rfl dX7_stacked_109 (fun ls hl => ?_)
                  refine k_iincN hm hl 5 1 rfl [(3, vN (i + 1)), (2, vN (x + 2)), (1, vN (n + 0)), (5, vN (0)), (4, vN (1)), (0, .ref (D 0))] (by decide) rfl dX7_stacked_110 (fun ls hl => ?_)
                  refine k_goto (tgt := 6) hm dX7_stacked_113 (by decide) ?_
                  exact ih_6  (n + 0) (x + 2) (i + 1) (by first | assumption | omega) (by first | (exfalso; omega) | (simp only [sumU, usB]; first | rw [if_pos (by omega)]; omega | rw [if_neg (by omega)]; omega)) (by first | (exfalso; omega) | (simp only [nstk]; rw [← hx, hn]; first | rw [if_pos (by omega)] | rw [if_neg (by omega)])) _ _ _ (by omega) hw (lv_sub hl [5, 2, 1, 0] rfl)
              · refine k_iload hm hl 1 rfl dX7_stacked_75 ?_
                refine k_ifne (tgt := 85) hm dX7_stacked_77 (by decide) (by omega) (fun c_28 => ?_) (fun c_28 => absurd c_28 (by omega))
                refine k_iconstN hm 1 dX7_stacked_85 ?_
                refine k_goto (tgt := 90) hm dX7_stacked_86 (by decide) ?_
                refine k_iaddN hm dX7_stacked_90 ?_
                refine k_istore_n hm hl [(1, vN (n + 1)), (5, vN (0)), (4, vN (1)), (0, .ref (D 0)), (2, vN (x)), (3, vN (i))] (by decide) rfl dX7_stacked_91 (fun ls hl => ?_)
                refine k_iload_n hm hl 4 rfl dX7_stacked_92 ?_
                refine k_aload_n hm hl 3 rfl dX7_stacked_93 ?_
                refine k_get (T := TX7) hm hw 0 6 i7 rfl rfl (by decide) (by decide +kernel) rfl dX7_stacked_94 ?_
                refine k_iload_n hm hl 5 rfl dX7_stacked_97 ?_
                refine k_ialdN hm hw 4 rfl (by omega) dX7_stacked_98 ?_
                refine k_iconstN hm 2 dX7_stacked_99 ?_
                refine k_icmpne (tgt := 107) hm dX7_stacked_100 (by decide) (by omega) (fun c_29 => ?_) (fun c_29 => ?_)
                · refine k_iconstN hm 1 dX7_stacked_107 ?_
                  refine k_iaddN hm dX7_stacked_108 ?_
                  refine k_istore_n hm hl [(2, vN (x + 1)), (1, vN (n + 1)), (5, vN (0)), (4, vN (1)), (0, .ref (D 0)), (3, vN (i))] (by decide) rfl dX7_stacked_109 (fun ls hl => ?_)
                  refine k_iincN hm hl 5 1 rfl [(3, vN (i + 1)), (2, vN (x + 1)), (1, vN (n + 1)), (5, vN (0)), (4, vN (1)), (0, .ref (D 0))] (by decide) rfl dX7_stacked_110 (fun ls hl => ?_)
                  refine k_goto (tgt := 6) hm dX7_stacked_113 (by decide) ?_
                  exact ih_6  (n + 1) (x + 1) (i + 1) (by first | assumption | omega) (by first | (exfalso; omega) | (simp only [sumU, usB]; first | rw [if_pos (by omega)]; omega | rw [if_neg (by omega)]; omega)) (by first | (exfalso; omega) | (simp only [nstk]; rw [← hx, hn]; first | rw [if_pos (by omega)] | rw [if_neg (by omega)])) _ _ _ (by omega) hw (lv_sub hl [5, 2, 1, 0] rfl)
                · refine k_iconstN hm 2 dX7_stacked_103 ?_
                  refine k_goto (tgt := 108) hm dX7_stacked_104 (by decide) ?_
                  refine k_iaddN hm dX7_stacked_108 ?_
                  refine k_istore_n hm hl [(2, vN (x + 2)), (1, vN (n + 1)), (5, vN (0)), (4, vN (1)), (0, .ref (D 0)), (3, vN (i))] (by decide) rfl dX7_stacked_109 (fun ls hl => ?_)
                  refine k_iincN hm hl 5 1 rfl [(3, vN (i + 1)), (2, vN (x + 2)), (1, vN (n + 1)), (5, vN (0)), (4, vN (1)), (0, .ref (D 0))] (by decide) rfl dX7_stacked_110 (fun ls hl => ?_)
                  refine k_goto (tgt := 6) hm dX7_stacked_113 (by decide) ?_
                  exact ih_6  (n + 1) (x + 2) (i + 1) (by first | assumption | omega) (by first | (exfalso; omega) | (simp only [sumU, usB]; first | rw [if_pos (by omega)]; omega | rw [if_neg (by omega)]; omega)) (by first | (exfalso; omega) | (simp only [nstk]; rw [← hx, hn]; first | rw [if_pos (by omega)] | rw [if_neg (by omega)])) _ _ _ (by omega) hw (lv_sub hl [5, 2, 1, 0] rfl)
            · refine k_iconstN hm 1 dX7_stacked_58 ?_
              refine k_goto (tgt := 63) hm dX7_stacked_59 (by decide) ?_
              refine k_istore hm hl [(5, vN (1)), (4, vN (1)), (0, .ref (D 0)), (1, vN (n)), (2, vN (x)), (3, vN (i))] (by decide) rfl dX7_stacked_63 (fun ls hl => ?_)
              refine k_iload_n hm hl 3 rfl dX7_stacked_65 ?_
              refine k_aload_n hm hl 2 rfl dX7_stacked_66 ?_
              refine k_get (T := TX7) hm hw 0 6 i7 rfl rfl (by decide) (by decide +kernel) rfl dX7_stacked_67 ?_
              refine k_iload_n hm hl 5 rfl dX7_stacked_70 ?_
              refine k_ialdN hm hw 4 rfl (by omega) dX7_stacked_71 ?_
              refine k_ifeq (tgt := 89) hm dX7_stacked_72 (by decide) (by omega) (fun c_30 => ?_) (fun c_30 => ?_)
              · refine k_iconstN hm 0 dX7_stacked_89 ?_
                refine k_iaddN hm dX7_stacked_90 ?_
                refine k_istore_n hm hl [(1, vN (n + 0)), (5, vN (1)), (4, vN (1)), (0, .ref (D 0)), (2, vN (x)), (3, vN (i))] (by decide) rfl dX7_stacked_91 (fun ls hl => ?_)
                refine k_iload_n hm hl 4 rfl dX7_stacked_92 ?_
                refine k_aload_n hm hl 3 rfl dX7_stacked_93 ?_
                refine k_get (T := TX7) hm hw 0 6 i7 rfl rfl (by decide) (by decide +kernel) rfl dX7_stacked_94 ?_
                refine k_iload_n hm hl 5 rfl dX7_stacked_97 ?_
                refine k_ialdN hm hw 4 rfl (by omega) dX7_stacked_98 ?_
                refine k_iconstN hm 2 dX7_stacked_99 ?_
                refine k_icmpne (tgt := 107) hm dX7_stacked_100 (by decide) (by omega) (fun c_31 => ?_) (fun c_31 => ?_)
                · refine k_iconstN hm 1 dX7_stacked_107 ?_
                  refine k_iaddN hm dX7_stacked_108 ?_
                  refine k_istore_n hm hl [(2, vN (x + 1)), (1, vN (n + 0)), (5, vN (1)), (4, vN (1)), (0, .ref (D 0)), (3, vN (i))] (by decide) rfl dX7_stacked_109 (fun ls hl => ?_)
                  refine k_iincN hm hl 5 1 rfl [(3, vN (i + 1)), (2, vN (x + 1)), (1, vN (n + 0)), (5, vN (1)), (4, vN (1)), (0, .ref (D 0))] (by decide) rfl dX7_stacked_110 (fun ls hl => ?_)
                  refine k_goto (tgt := 6) hm dX7_stacked_113 (by decide) ?_
                  exact ih_6  (n + 0) (x + 1) (i + 1) (by first | assumption | omega) (by first | (exfalso; omega) | (simp only [sumU, usB]; first | rw [if_pos (by omega)]; omega | rw [if_neg (by omega)]; omega)) (by first | (exfalso; omega) | (simp only [nstk]; rw [← hx, hn]; first | rw [if_pos (by omega)] | rw [if_neg (by omega)])) _ _ _ (by omega) hw (lv_sub hl [5, 2, 1, 0] rfl)
                · refine k_iconstN hm 2 dX7_stacked_103 ?_
                  refine k_goto (tgt := 108) hm dX7_stacked_104 (by decide) ?_
                  refine k_iaddN hm dX7_stacked_108 ?_
                  refine k_istore_n hm hl [(2, vN (x + 2)), (1, vN (n + 0)), (5, vN (1)), (4, vN (1)), (0, .ref (D 0)), (3, vN (i))] (by decide) rfl dX7_stacked_109 (fun ls hl => ?_)
                  refine k_iincN hm hl 5 1 rfl [(3, vN (i + 1)), (2, vN (x + 2)), (1, vN (n + 0)), (5, vN (1)), (4, vN (1)), (0, .ref (D 0))] (by decide) rfl dX7_stacked_110 (fun ls hl => ?_)
                  refine k_goto (tgt := 6) hm dX7_stacked_113 (by decide) ?_
                  exact ih_6  (n + 0) (x + 2) (i + 1) (by first | assumption | omega) (by first | (exfalso; omega) | (simp only [sumU, usB]; first | rw [if_pos (by omega)]; omega | rw [if_neg (by omega)]; omega)) (by first | (exfalso; omega) | (simp only [nstk]; rw [← hx, hn]; first | rw [if_pos (by omega)] | rw [if_neg (by omega)])) _ _ _ (by omega) hw (lv_sub hl [5, 2, 1, 0] rfl)
              · refine k_iload hm hl 1 rfl dX7_stacked_75 ?_
                refine k_ifne (tgt := 85) hm dX7_stacked_77 (by decide) (by omega) (fun c_32 => ?_) (fun c_32 => absurd c_32 (by omega))
                refine k_iconstN hm 1 dX7_stacked_85 ?_
                refine k_goto (tgt := 90) hm dX7_stacked_86 (by decide) ?_
                refine k_iaddN hm dX7_stacked_90 ?_
                refine k_istore_n hm hl [(1, vN (n + 1)), (5, vN (1)), (4, vN (1)), (0, .ref (D 0)), (2, vN (x)), (3, vN (i))] (by decide) rfl dX7_stacked_91 (fun ls hl => ?_)
                refine k_iload_n hm hl 4 rfl dX7_stacked_92 ?_
                refine k_aload_n hm hl 3 rfl dX7_stacked_93 ?_
                refine k_get (T := TX7) hm hw 0 6 i7 rfl rfl (by decide) (by decide +kernel) rfl dX7_stacked_94 ?_
                refine k_iload_n hm hl 5 rfl dX7_stacked_97 ?_
                refine k_ialdN hm hw 4 rfl (by omega) dX7_stacked_98 ?_
                refine k_iconstN hm 2 dX7_stacked_99 ?_
                refine k_icmpne (tgt := 107) hm dX7_stacked_100 (by decide) (by omega) (fun c_33 => ?_) (fun c_33 => ?_)
                · refine k_iconstN hm 1 dX7_stacked_107 ?_
                  refine k_iaddN hm dX7_stacked_108 ?_
                  refine k_istore_n hm hl [(2, vN (x + 1)), (1, vN (n + 1)), (5, vN (1)), (4, vN (1)), (0, .ref (D 0)), (3, vN (i))] (by decide) rfl dX7_stacked_109 (fun ls hl => ?_)
                  refine k_iincN hm hl 5 1 rfl [(3, vN (i + 1)), (2, vN (x + 1)), (1, vN (n + 1)), (5, vN (1)), (4, vN (1)), (0, .ref (D 0))] (by decide) rfl dX7_stacked_110 (fun ls hl => ?_)
                  refine k_goto (tgt := 6) hm dX7_stacked_113 (by decide) ?_
                  exact ih_6  (n + 1) (x + 1) (i + 1) (by first | assumption | omega) (by first | (exfalso; omega) | (simp only [sumU, usB]; first | rw [if_pos (by omega)]; omega | rw [if_neg (by omega)]; omega)) (by first | (exfalso; omega) | (simp only [nstk]; rw [← hx, hn]; first | rw [if_pos (by omega)] | rw [if_neg (by omega)])) _ _ _ (by omega) hw (lv_sub hl [5, 2, 1, 0] rfl)
                · refine k_iconstN hm 2 dX7_stacked_103 ?_
                  refine k_goto (tgt := 108) hm dX7_stacked_104 (by decide) ?_
                  refine k_iaddN hm dX7_stacked_108 ?_
                  refine k_istore_n hm hl [(2, vN (x + 2)), (1, vN (n + 1)), (5, vN (1)), (4, vN (1)), (0, .ref (D 0)), (3, vN (i))] (by decide) rfl dX7_stacked_109 (fun ls hl => ?_)
                  refine k_iincN hm hl 5 1 rfl [(3, vN (i + 1)), (2, vN (x + 2)), (1, vN (n + 1)), (5, vN (1)), (4, vN (1)), (0, .ref (D 0))] (by decide) rfl dX7_stacked_110 (fun ls hl => ?_)
                  refine k_goto (tgt := 6) hm dX7_stacked_113 (by decide) ?_
                  exact ih_6  (n + 1) (x + 2) (i + 1) (by first | assumption | omega) (by first | (exfalso; omega) | (simp only [sumU, usB]; first | rw [if_pos (by omega)]; omega | rw [if_neg (by omega)]; omega)) (by first | (exfalso; omega) | (simp only [nstk]; rw [← hx, hn]; first | rw [if_pos (by omega)] | rw [if_neg (by omega)])) _ _ _ (by omega) hw (lv_sub hl [5, 2, 1, 0] rfl)
  exact loop_6 (wk - 0 + 1) 0 0 0 (by first | assumption | omega) rfl rfl _ _ _ (Nat.lt_succ_self _) hw (lv_sub hl [3, 2, 1, 0] rfl)
