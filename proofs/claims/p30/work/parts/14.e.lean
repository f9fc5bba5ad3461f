set_option maxHeartbeats 4000000 in
set_option maxRecDepth 100000 in
theorem c_bestShift (l : Launch) (G : kG) (M : Nat → Nat) (mf : Nat → Nat) (L : Nat → Nat) (f : Nat → Nat) (wk : Nat) (sd : Nat) (kd : Nat) (cc : Nat → Nat) (h : 1 ≤ wk ∧ wk ≤ 120) (hf : ∀ i, i < wk → f i ≤ 2) (hU : ∀ x, sumU (fun i => f ((i + x) % wk)) wk ≤ 120) (hmf : ∀ z x, x < sumU (fun i => f ((i + z) % wk)) wk → mf x ≤ 2) (hcc : ∀ x, cc x = nstk mf (fun i => f ((i + x) % wk)) wk) : kCR l yX1_bestShift wsX1_bestShift 2 51 G [.ref (M 0), .ref (L 0)] (wMk G M mf ++ wPlan G L f wk sd kd) (fun vv => ∃ (b : Nat), vv = some (vN (b)) ∧ (isBst cc wk b)) := by
  refine kCM.of (cc := cX1_bestShift) (maxL := 6) (ret := (some .int)) (by decide) rfl (Nat.le_of_ble_eq_true rfl) ?_
  intro p e s m args below meth c A ls Qz hQ hin hm hw hl
  have hl : lv_has ls 6 [(0, .ref (M 0)), (1, .ref (L 0))] := hl
  have i5 : ∀ w ∈ wsX50, w ∈ wsX1_bestShift := by decide +kernel
  refine k_iconstN hm 0 dX1_bestShift_0 ?_
  refine k_istore_n hm hl [(2, vN (0)), (0, .ref (M 0)), (1, .ref (L 0))] (by decide) rfl dX1_bestShift_1 (fun ls hl => ?_)
  refine k_aload_n hm hl 1 rfl dX1_bestShift_2 ?_
  refine k_aload_n hm hl 2 rfl dX1_bestShift_3 ?_
  refine k_get (T := TX5) hm hw 3 0 i5 rfl rfl (by decide) (by decide +kernel) rfl dX1_bestShift_4 ?_
  refine k_iconstN hm 0 dX1_bestShift_7 ?_
  refine k_aload_n hm hl 2 rfl dX1_bestShift_8 ?_
  refine k_get (T := TX5) hm hw 3 1 i5 rfl rfl (by decide) (by decide +kernel) rfl dX1_bestShift_9 ?_
  refine k_iconstN hm 0 dX1_bestShift_12 ?_
  refine k_callVr (n := 4) (As := [.ref (L 1), vN (0), vN (wk), vN (0)]) (rest := []) hm hw hl (c_stackedIn l G M mf (L 1) (L 2) 120 f 0 wk 0 (fun i => f ((i + 0) % wk)) (by first | assumption | omega) (by
                              intro i hi
                              have q := Nat.mod_lt (i + 0) (show 0 < wk by omega)
                              rw [Nat.zero_add]
                              exact ⟨rfl, hf _ q⟩) (hU _) (hmf _)) gX1_bestShift_X1_stackedIn rfl (by decide +kernel) ⟨by decide, by decide⟩ (ci := 1) rfl 0 rfl [0, 1, 2, 4, 5] (by decide) rfl rfl rfl (by simp [Value.category]) ⟨by decide, by decide⟩ dX1_bestShift_13 (fun v H locs hp hw => ?_)
  obtain rfl := hp
  refine W.eq (g2 := F0 m 16 ls [vN (nstk mf (fun i => f ((i + 0) % wk)) wk)]) rfl ?_
  have hle0 : nstk mf (fun i => f ((i + 0) % wk)) wk ≤ wk := nstk_le _ _ _
  refine k_istore_n hm hl [(3, vN (nstk mf (fun i => f ((i + 0) % wk)) wk)), (2, vN (0)), (0, .ref (M 0)), (1, .ref (L 0))] (by decide) rfl dX1_bestShift_16 (fun ls hl => ?_)
  refine k_iconstN hm 1 dX1_bestShift_17 ?_
  refine k_istore hm hl [(4, vN (1)), (3, vN (nstk mf (fun i => f ((i + 0) % wk)) wk)), (2, vN (0)), (0, .ref (M 0)), (1, .ref (L 0))] (by decide) rfl dX1_bestShift_18 (fun ls hl => ?_)
  have loop_20 : ∀ (fu : Nat) (b : Nat) (u : Nat) (x : Nat) (hx : 1 ≤ x ∧ x ≤ wk) (hu : u = cc b) (hb : isBst cc x b) (H : Heap) (locs : List Loc) (ls : Array Slot), wk - x < fu → kW G A s (wMk G M mf ++ wPlan G L f wk sd kd) H locs → lv_has ls 6 [(0, .ref (M 0)), (1, .ref (L 0)), (2, vN (b)), (3, vN (u)), (4, vN (x))] → W p l e { frames := 2, cells := 0, slots := 0, locals := 51 } s m args below meth c H locs 0 0 Qz (F0 m 20 ls []) := by
    intro fu
    induction fu with
    | zero => intro b u x hx hu hb H locs ls hfu; exact absurd hfu (Nat.not_lt_zero _)
    | succ fu ih_20 =>
      intro b u x hx hu hb H locs ls hfu hw hl
      have hle1 : cc b ≤ wk := by rw [hcc]; exact nstk_le _ _ _
      refine k_iload hm hl 4 rfl dX1_bestShift_20 ?_
      refine k_aload_n hm hl 1 rfl dX1_bestShift_22 ?_
      refine k_get (T := TX5) hm hw 3 1 i5 rfl rfl (by decide) (by decide +kernel) rfl dX1_bestShift_23 ?_
      refine k_icmpge (tgt := 68) hm dX1_bestShift_26 (by decide) (by omega) (fun c_2 => ?_) (fun c_2 => ?_)
      · refine k_iload_n hm hl 2 rfl dX1_bestShift_68 ?_
        exact k_iret (post := _) hm hQ rfl rfl hw (⟨⟨b, rfl, (by
                              rw [show wk = x by omega]
                              exact hb)⟩, rfl⟩) (by omega) (by omega) dX1_bestShift_69
      · refine k_iload_n hm hl 3 rfl dX1_bestShift_29 ?_
        refine k_ifle (tgt := 68) hm dX1_bestShift_30 (by decide) (by omega) (fun c_3 => ?_) (fun c_3 => ?_)
        · refine k_iload_n hm hl 2 rfl dX1_bestShift_68 ?_
          exact k_iret (post := _) hm hQ rfl rfl hw (⟨⟨b, rfl, (by
                              have hb1 := hb.1
                              refine ⟨by omega, fun y q => by omega, hb.2.2⟩)⟩, rfl⟩) (by omega) (by omega) dX1_bestShift_69
        · refine k_aload_n hm hl 0 rfl dX1_bestShift_33 ?_
          refine k_aload_n hm hl 1 rfl dX1_bestShift_34 ?_
          refine k_get (T := TX5) hm hw 3 0 i5 rfl rfl (by decide) (by decide +kernel) rfl dX1_bestShift_35 ?_
          refine k_iconstN hm 0 dX1_bestShift_38 ?_
          refine k_aload_n hm hl 1 rfl dX1_bestShift_39 ?_
          refine k_get (T := TX5) hm hw 3 1 i5 rfl rfl (by decide) (by decide +kernel) rfl dX1_bestShift_40 ?_
          refine k_iload hm hl 4 rfl dX1_bestShift_43 ?_
          refine k_callVr (n := 4) (As := [.ref (L 1), vN (0), vN (wk), vN (x)]) (rest := []) hm hw hl (c_stackedIn l G M mf (L 1) (L 2) 120 f 0 wk x (fun i => f ((i + x) % wk)) (by first | assumption | omega) (by
                              intro i hi
                              have q := Nat.mod_lt (i + x) (show 0 < wk by omega)
                              rw [Nat.zero_add]
                              exact ⟨rfl, hf _ q⟩) (hU _) (hmf _)) gX1_bestShift_X1_stackedIn rfl (by decide +kernel) ⟨by decide, by decide⟩ (ci := 1) rfl 0 rfl [0, 1, 2, 4, 5] (by decide) rfl rfl rfl (by simp [Value.category]) ⟨by decide, by decide⟩ dX1_bestShift_45 (fun v H locs hp hw => ?_)
          obtain rfl := hp
          refine W.eq (g2 := F0 m 48 ls [vN (nstk mf (fun i => f ((i + x) % wk)) wk)]) rfl ?_
          have hle := nstk_le mf (fun i => f ((i + x) % wk)) wk
          refine k_istore hm hl [(5, vN (nstk mf (fun i => f ((i + x) % wk)) wk)), (0, .ref (M 0)), (1, .ref (L 0)), (2, vN (b)), (3, vN (u)), (4, vN (x))] (by decide) rfl dX1_bestShift_48 (fun ls hl => ?_)
          refine k_iload hm hl 0 rfl dX1_bestShift_50 ?_
          refine k_iload_n hm hl 4 rfl dX1_bestShift_52 ?_
          refine k_icmpge (tgt := 62) hm dX1_bestShift_53 (by decide) (by omega) (fun c_5 => ?_) (fun c_5 => ?_)
          · refine k_iincN hm hl 5 1 rfl [(4, vN (x + 1)), (5, vN (nstk mf (fun i => f ((i + x) % wk)) wk)), (0, .ref (M 0)), (1, .ref (L 0)), (2, vN (b)), (3, vN (u))] (by decide) rfl dX1_bestShift_62 (fun ls hl => ?_)
            refine k_goto (tgt := 20) hm dX1_bestShift_65 (by decide) ?_
            exact ih_20  b u (x + 1) (by first | assumption | omega) (by first | assumption | omega) (by
                              have hb1 := hb.1
                              refine ⟨by omega, fun y q => ?_, hb.2.2⟩
                              by_cases q2 : y = x
                              · rw [q2, hcc x]; omega
                              · exact hb.2.1 y (by omega)) _ _ _ (by omega) hw (lv_sub hl [2, 3, 4, 5, 0] rfl)
          · refine k_iload hm hl 0 rfl dX1_bestShift_56 ?_
            refine k_istore_n hm hl [(3, vN (nstk mf (fun i => f ((i + x) % wk)) wk)), (5, vN (nstk mf (fun i => f ((i + x) % wk)) wk)), (0, .ref (M 0)), (1, .ref (L 0)), (2, vN (b)), (4, vN (x))] (by decide) rfl dX1_bestShift_58 (fun ls hl => ?_)
            refine k_iload hm hl 5 rfl dX1_bestShift_59 ?_
            refine k_istore_n hm hl [(2, vN (x)), (3, vN (nstk mf (fun i => f ((i + x) % wk)) wk)), (5, vN (nstk mf (fun i => f ((i + x) % wk)) wk)), (0, .ref (M 0)), (1, .ref (L 0)), (4, vN (x))] (by decide) rfl dX1_bestShift_61 (fun ls hl => ?_)
            refine k_iincN hm hl 5 1 rfl [(4, vN (x + 1)), (2, vN (x)), (3, vN (nstk mf (fun i => f ((i + x) % wk)) wk)), (5, vN (nstk mf (fun i => f ((i + x) % wk)) wk)), (0, .ref (M 0)), (1, .ref (L 0))] (by decide) rfl dX1_bestShift_62 (fun ls hl => ?_)
            refine k_goto (tgt := 20) hm dX1_bestShift_65 (by decide) ?_
            exact ih_20  x (nstk mf (fun i => f ((i + x) % wk)) wk) (x + 1) (by first | assumption | omega) (by rw [hcc]) (by
                              have hb1 := hb.1
                              refine ⟨by omega, fun y q => ?_, fun y q => ?_⟩
                              · by_cases q2 : y = x
                                · rw [q2]; exact Nat.le_refl _
                                · have := hb.2.1 y (by omega); rw [hcc x]; omega
                              · have := hb.2.1 y (by omega); rw [hcc x]; omega) _ _ _ (by omega) hw (lv_sub hl [4, 5, 1, 2, 0] rfl)
  exact loop_20 (wk - 1 + 1) 0 (nstk mf (fun i => f ((i + 0) % wk)) wk) 1 (by first | assumption | omega) (by rw [hcc]) (by
                              refine ⟨by omega, fun y q => ?_, fun y q => absurd q (by omega)⟩
                              rw [show y = 0 by omega]
                              exact Nat.le_refl _) _ _ _ (Nat.lt_succ_self _) hw (lv_sub hl [3, 4, 2, 1, 0] rfl)
def wMain (G : kG) (o : Nat) (P : Nat → Nat) (h : Nat) (T L M : Nat → Nat) : va_W := [(o, .inr (6, [.ref (P 0), .ref h, .ref (T 0), .ref (L 0), .ref (M 0)]))]
/-- a round that is being built behind the others -/
def OpR (gk gw gt : Nat → Nat) (R : Nat) (K : Nat → Nat → Nat) (w row : Nat → Nat) (i : Nat) : Prop :=
  (∀ r, r < R → gw r = w r ∧ gt r = sumM (K r) (w r) ∧ ∀ j, j < w r → gk (r * 120 + j) = K r j) ∧ gw R = i ∧ gt R = sumM row i ∧ ∀ j, j < i → gk (R * 120 + j) = row j
theorem OpR_0 {gk gw gt gy y w row : Nat → Nat} {R : Nat} {K : Nat → Nat → Nat} (h : POk gk gw gt gy R K w y) : OpR gk (nU gw R 0) (nU gt R 0) R K w row 0 :=
  ⟨fun r hr => ⟨by rw [nU_n (by omega)]; exact (h.2.1 r hr).1, by rw [nU_n (by omega)]; exact (h.2.1 r hr).2.1, (h.2.1 r hr).2.2⟩, nU_s, nU_s, fun j hj => absurd hj (by omega)⟩
theorem OpR_add {gk gw gt w row : Nat → Nat} {R i k : Nat} {K : Nat → Nat → Nat} (h : OpR gk gw gt R K w row i) (hw : ∀ r, r < R → w r ≤ 120) (hk : k = row i) : OpR (nU gk (R * 120 + gw R) k) (nU gw R (gw R + 1)) (nU gt R (gt R + mdB k)) R K w row (i + 1) := by
  obtain ⟨h1, h2, h3, h4⟩ := h
  refine ⟨fun r hr => ⟨by rw [nU_n (by omega)]; exact (h1 r hr).1, by rw [nU_n (by omega)]; exact (h1 r hr).2.1, fun j hj => ?_⟩, by rw [nU_s, h2], by rw [nU_s, h3, hk]; rfl, fun j hj => ?_⟩
  · have hwr := hw r hr
    have hm : (r + 1) * 120 ≤ R * 120 := Nat.mul_le_mul_right 120 hr
    rw [nU_n (by omega)]; exact (h1 r hr).2.2 j hj
  · rw [h2]
    by_cases q : j = i
    · rw [q, nU_s, hk]
    · rw [nU_n (by omega)]; exact h4 j (by omega)
theorem OpR_end {gk gw gt gy y w row : Nat → Nat} {R m : Nat} {K : Nat → Nat → Nat} (hv : PVd R K w y) (hR : R < 40) (hy : ∀ k, k < 3 → gy k = y k) (h : OpR gk gw gt R K w row m) (h1 : 1 ≤ m ∧ m ≤ 120) (h2 : ∀ i, i < m → row i ≤ 2) (h3 : 3 ≤ sumM row m ∧ sumM row m ≤ 120) (h4 : sumU row m = sumM (K (R - 1)) (w (R - 1))) : POk gk gw gt gy (R + 1) (fup K R row) (fup w R m) y := by
  obtain ⟨v1, v2, v3, v4, v5⟩ := hv
  refine ⟨⟨by omega, fun r hr => ?_, fun r hr => ?_, v4, ?_⟩, fun r hr => ?_, hy⟩
  · by_cases q : r = R
    · subst q; simp only [fup_s]; exact ⟨h1, h3, h2⟩
    · simp only [fup_n q]; exact v2 r (by omega)
  · by_cases q : r + 1 = R
    · have q2 : r = R - 1 := by omega
      rw [q]; simp only [fup_s]; rw [fup_n (by omega), fup_n (by omega), h4, q2]
    · rw [fup_n q, fup_n q, fup_n (by omega), fup_n (by omega)]; exact v3 r (by omega)
  · rw [fup_n (by omega), fup_n (by omega)]; exact v5
  · by_cases q : r = R
    · subst q; simp only [fup_s]; exact ⟨h.2.1, h.2.2.1, h.2.2.2⟩
    · simp only [fup_n q]; exact h.1 r (by omega)
set_option maxHeartbeats 4000000 in
set_option maxRecDepth 100000 in
theorem c_addRow (l : Launch) (G : kG) (o : Nat) (h : Nat) (T : Nat → Nat) (L : Nat → Nat) (M : Nat → Nat) (P : Nat → Nat) (gk : Nat → Nat) (gw : Nat → Nat) (gt : Nat → Nat) (gy : Nat → Nat) (R : Nat) (sp : Bool) (f : Nat → Nat) (wk : Nat) (sd : Nat) (kd : Nat) (K : Nat → Nat → Nat) (w : Nat → Nat) (y : Nat → Nat) (x : Nat) (row : Nat → Nat) (hok : POk gk gw gt gy R K w y) (hR40 : R < 40) (hwk : 1 ≤ wk ∧ wk ≤ 120) (hsh : x < 120) (hr2 : ∀ i, i < wk → row i = f ((i + x) % wk) ∧ row i ≤ 2) (hrM : 3 ≤ sumM row wk ∧ sumM row wk ≤ 120) (hrU : sumU row wk = sumM (K (R - 1)) (w (R - 1))) : kCM l yX6_addRow wsX6_addRow 2 44 0 0 G [.ref (o), vN (x)] (wMain G o P h T L M ++ (wPiece G P gk gw gt gy R sp ++ wPlan G L f wk sd kd)) (fun vv uu => ∃ (gk2 : Nat → Nat), ∃ (gw2 : Nat → Nat), ∃ (gt2 : Nat → Nat), vv = none ∧ uu = wMain G o P h T L M ++ (wPiece G P gk2 gw2 gt2 gy (R + 1) sp ++ wPlan G L f wk sd kd) ∧ (POk gk2 gw2 gt2 gy (R + 1) (fup K R row) (fup w R wk) y)) := by
  refine kCM.of (cc := cX6_addRow) (maxL := 4) (ret := none) (by decide) rfl (Nat.le_of_ble_eq_true rfl) ?_
  intro p e s m args below meth c A ls Qz hQ hin hm hw hl
  have hl : lv_has ls 4 [(0, .ref (o)), (1, vN (x))] := hl
  have i5 : ∀ w ∈ wsX50, w ∈ wsX6_addRow := by decide +kernel
  have i6 : ∀ w ∈ wsX60, w ∈ wsX6_addRow := by decide +kernel
  refine k_aload_n hm hl 0 rfl dX6_addRow_0 ?_
  refine k_get (T := TX6) hm hw 0 3 i6 rfl rfl (by decide) (by decide +kernel) rfl dX6_addRow_1 ?_
  refine k_get (T := TX5) hm hw 10 1 i5 rfl rfl (by decide) (by decide +kernel) rfl dX6_addRow_4 ?_
  refine k_istore_n hm hl [(2, vN (wk)), (0, .ref (o)), (1, vN (x))] (by decide) rfl dX6_addRow_7 (fun ls hl => ?_)
  refine k_aload_n hm hl 1 rfl dX6_addRow_8 ?_
  refine k_get (T := TX6) hm hw 0 0 i6 rfl rfl (by decide) (by decide +kernel) rfl dX6_addRow_9 ?_
  refine k_callV (n := 0) (As := []) (rest := []) (wr := [(o, .inr (6, [.ref (P 0), .ref (h), .ref (T 0), .ref (L 0), .ref (M 0)])), (L 0, .inr (5, [.ref (L 1), vN (wk), vN (sd), vN (kd)])), (L 1, .inr (2, [.ref (L 2)])), (L 2, .inl (G.2 0, 120, .inl (nF f)))]) hm hw hl (c_openRound l G P gk gw gt gy R sp (by first | assumption | omega)) gX6_addRow_X4_openRound rfl (by decide +kernel) ⟨by decide, by decide⟩ (ci := 4) rfl 1 rfl [1, 2, 3, 4, 5, 6, 7, 8, 9] [0, 10, 11, 12] (by decide) rfl rfl (by decide) (by decide) rfl rfl (by simp [Value.category]) ⟨by decide, by decide⟩ dX6_addRow_12 (fun v w1 H locs hp hw => ?_)
  obtain ⟨rfl, rfl⟩ := hp
  have hw := hw.sub (ws' := wMain G o P h T L M ++ (wPiece G P gk (nU gw R 0) (nU gt R 0) gy R sp ++ wPlan G L f wk sd kd)) [0, 4, 5, 6, 7, 8, 9, 10, 11, 12, 1, 2, 3] (by decide) rfl
  refine W.eq (g2 := F0 m 15 ls []) rfl ?_
  refine k_iconstN hm 0 dX6_addRow_15 ?_
  refine k_istore_n hm hl [(3, vN (0)), (2, vN (wk)), (0, .ref (o)), (1, vN (x))] (by decide) rfl dX6_addRow_16 (fun ls hl => ?_)
  have loop_17 : ∀ (fu : Nat) (i : Nat) (gk1 : Nat → Nat) (gw1 : Nat → Nat) (gt1 : Nat → Nat) (hi : i ≤ wk) (hop : OpR gk1 gw1 gt1 R K w row i) (H : Heap) (locs : List Loc) (ls : Array Slot), wk - i < fu → kW G A s (wMain G o P h T L M ++ (wPiece G P gk1 gw1 gt1 gy R sp ++ wPlan G L f wk sd kd)) H locs → lv_has ls 4 [(0, .ref (o)), (1, vN (x)), (2, vN (wk)), (3, vN (i))] → W p l e { frames := 2, cells := 0, slots := 0, locals := 44 } s m args below meth c H locs 0 0 Qz (F0 m 17 ls []) := by
    intro fu
    induction fu with
    | zero => intro i gk1 gw1 gt1 hi hop H locs ls hfu; exact absurd hfu (Nat.not_lt_zero _)
    | succ fu ih_17 =>
      intro i gk1 gw1 gt1 hi hop H locs ls hfu hw hl
      refine k_iload_n hm hl 3 rfl dX6_addRow_17 ?_
      refine k_iload_n hm hl 2 rfl dX6_addRow_18 ?_
      refine k_icmpge (tgt := 50) hm dX6_addRow_19 (by decide) (by omega) (fun c_2 => ?_) (fun c_2 => ?_)
      · refine k_aload_n hm hl 0 rfl dX6_addRow_50 ?_
        refine k_get (T := TX6) hm hw 0 0 i6 rfl rfl (by decide) (by decide +kernel) rfl dX6_addRow_51 ?_
        refine k_callV (n := 0) (As := []) (rest := []) (wr := [(o, .inr (6, [.ref (P 0), .ref (h), .ref (T 0), .ref (L 0), .ref (M 0)])), (L 0, .inr (5, [.ref (L 1), vN (wk), vN (sd), vN (kd)])), (L 1, .inr (2, [.ref (L 2)])), (L 2, .inl (G.2 0, 120, .inl (nF f)))]) hm hw hl (c_closeRound l G P gk1 gw1 gt1 gy R sp) gX6_addRow_X4_closeRound rfl (by decide +kernel) ⟨by decide, by decide⟩ (ci := 4) rfl 1 rfl [1, 2, 3, 4, 5, 6, 7, 8, 9] [0, 10, 11, 12] (by decide) rfl rfl (by decide) (by decide) rfl rfl (by simp [Value.category]) ⟨by decide, by decide⟩ dX6_addRow_54 (fun v w1 H locs hp hw => ?_)
        obtain ⟨rfl, rfl⟩ := hp
        have hw := hw.sub (ws' := wMain G o P h T L M ++ (wPiece G P gk1 gw1 gt1 gy (R + 1) sp ++ wPlan G L f wk sd kd)) [0, 4, 5, 6, 7, 8, 9, 10, 11, 12, 1, 2, 3] (by decide) rfl
        refine W.eq (g2 := F0 m 57 ls []) rfl ?_
        exact k_vret hm hQ rfl hw (⟨gk1, gw1, gt1, rfl, rfl, OpR_end hok.1 hR40 hok.2.2 (by rw [show wk = i by omega]; exact hop) hwk (fun j q => (hr2 j q).2) hrM hrU⟩) (by omega) (by omega) dX6_addRow_57
      · have q1 := Nat.mod_lt (i + x) (show 0 < wk by omega)
        have q2 := hr2 i (by omega)
        have q3 := hop.2.1
        refine k_aload_n hm hl 0 rfl dX6_addRow_22 ?_
        refine k_get (T := TX6) hm hw 0 0 i6 rfl rfl (by decide) (by decide +kernel) rfl dX6_addRow_23 ?_
        refine k_aload_n hm hl 0 rfl dX6_addRow_26 ?_
        refine k_get (T := TX6) hm hw 0 3 i6 rfl rfl (by decide) (by decide +kernel) rfl dX6_addRow_27 ?_
        refine k_get (T := TX5) hm hw 10 0 i5 rfl rfl (by decide) (by decide +kernel) rfl dX6_addRow_30 ?_
        refine k_iload_n hm hl 3 rfl dX6_addRow_33 ?_
        refine k_iload_n hm hl 1 rfl dX6_addRow_34 ?_
        refine k_iaddN hm dX6_addRow_35 ?_
        refine k_iload_n hm hl 2 rfl dX6_addRow_36 ?_
        refine k_iremN hm (by omega) dX6_addRow_37 ?_
        refine k_callVr (n := 1) (As := [vN ((i + x) % wk)]) (rest := [.ref (P 0)]) hm hw hl (c_Num_at l G (L 1) (L 2) 120 f ((i + x) % wk) (by first | assumption | omega)) gX6_addRow_X2_at rfl (by decide +kernel) ⟨by decide, by decide⟩ (ci := 2) rfl 11 rfl [11, 12] (by decide) rfl rfl rfl (by simp [Value.category]) ⟨by decide, by decide⟩ dX6_addRow_38 (fun v H locs hp hw => ?_)
        obtain rfl := hp
        refine W.eq (g2 := F0 m 41 ls [vN (f ((i + x) % wk)), .ref (P 0)]) rfl ?_
        refine k_callV (n := 1) (As := [vN (f ((i + x) % wk))]) (rest := []) (wr := [(o, .inr (6, [.ref (P 0), .ref (h), .ref (T 0), .ref (L 0), .ref (M 0)])), (L 0, .inr (5, [.ref (L 1), vN (wk), vN (sd), vN (kd)])), (L 1, .inr (2, [.ref (L 2)])), (L 2, .inl (G.2 0, 120, .inl (nF f)))]) hm hw hl (c_addWork l G P gk1 gw1 gt1 gy R sp (f ((i + x) % wk)) (by first | assumption | omega) (by first | assumption | omega) (by first | assumption | omega)) gX6_addRow_X4_addWork rfl (by decide +kernel) ⟨by decide, by decide⟩ (ci := 4) rfl 1 rfl [1, 2, 3, 4, 5, 6, 7, 8, 9] [0, 10, 11, 12] (by decide) rfl rfl (by decide) (by decide) rfl rfl (by simp [Value.category]) ⟨by decide, by decide⟩ dX6_addRow_41 (fun v w1 H locs hp hw => ?_)
        obtain ⟨rfl, rfl⟩ := hp
        have hw := hw.sub (ws' := wMain G o P h T L M ++ (wPiece G P (nU gk1 (R * 120 + gw1 R) (f ((i + x) % wk))) (nU gw1 R (gw1 R + 1)) (nU gt1 R (gt1 R + mdB (f ((i + x) % wk)))) gy R sp ++ wPlan G L f wk sd kd)) [0, 4, 5, 6, 7, 8, 9, 10, 11, 12, 1, 2, 3] (by decide) rfl
        refine W.eq (g2 := F0 m 44 ls []) rfl ?_
        refine k_iincN hm hl 3 1 rfl [(3, vN (i + 1)), (0, .ref (o)), (1, vN (x)), (2, vN (wk))] (by decide) rfl dX6_addRow_44 (fun ls hl => ?_)
        refine k_goto (tgt := 17) hm dX6_addRow_47 (by decide) ?_
        exact ih_17  (i + 1) (nU gk1 (R * 120 + gw1 R) (f ((i + x) % wk))) (nU gw1 R (gw1 R + 1)) (nU gt1 R (gt1 R + mdB (f ((i + x) % wk)))) (by first | assumption | omega) (OpR_add hop (fun r q => (hok.1.2.1 r q).1.2) (hr2 i (by omega)).1.symm) _ _ _ (by omega) hw (lv_sub hl [1, 2, 3, 0] rfl)
  exact loop_17 (wk - 0 + 1) 0 gk (nU gw R 0) (nU gt R 0) (by first | assumption | omega) (OpR_0 hok) _ _ _ (Nat.lt_succ_self _) hw (lv_sub hl [2, 3, 1, 0] rfl)
theorem mkOk_le {mf : Nat → Nat} {R : Nat} {K : Nat → Nat → Nat} {w y : Nat → Nat} (hv : PVd R K w y) {r : Nat} (hr : r < R) (h : mkOk mf (K r) (w r)) : ∀ x, x < sumM (K r) (w r) → mf x ≤ 2 := fun x hx => by
  obtain ⟨i, h1, h2⟩ := mk_ex hx
  rw [h i h1 x h2.1 h2.2]; exact (hv.2.1 r hr).2.2 i h1
