theorem cnt_le2 (k : Nat → Nat) (x n : Nat) : cnt k x n ≤ n := cnt_le k x n
theorem rvN_le {R : Nat} {K : Nat → Nat → Nat} {w y : Nat → Nat} (hv : PVd R K w y) {r : Nat} (hr : r < R) (x : Nat) : rvN K w y r x ≤ 7200 := by
  obtain ⟨h1, h2, h3⟩ := hv.2.1 r hr
  have hy := yrn_le (y := y) (k := K r) (fun k hk => (hv.2.2.2.1 k hk).2) (n := w r) h3
  have a1 := cnt_le (K r) 0 (w r)
  have a2 := cnt_le (K r) 1 (w r)
  have a3 := cnt_le (K r) 2 (w r)
  have a4 := dsF_le (K r) (w r) true
  have a5 := dsF_le (K r) (w r) false
  have a6 := miN_le (K r) (w r)
  have a7 := nstk_le (mkF (K (r - 1)) (w (r - 1))) (K r) (w r)
  match x with
  | 0 => simp only [rvN]; omega
  | 1 => simp only [rvN]; omega
  | 2 => simp only [rvN]; omega
  | 3 => simp only [rvN]; omega
  | 4 => simp only [rvN]; omega
  | 5 => simp only [rvN, stkP]; split <;> omega
  | 6 => simp only [rvN]; omega
  | 7 => simp only [rvN]; omega
  | 8 => simp only [rvN]; omega
  | 9 => simp only [rvN]; omega
  | n + 10 => simp only [rvN]; omega
theorem rv_rng {R : Nat} {K : Nat → Nat → Nat} {w y : Nat → Nat} (hv : PVd R K w y) {r : Nat} (hr : r < R) (x : Nat) : -1000000 ≤ rv K w y r x ∧ rv K w y r x ≤ 1000000 := by
  have h1 := rvN_le hv hr x
  have h2 := (hv.2.1 r hr).2.1
  have h3 := tot0_rng hv
  have h4 := hv.1
  unfold rv
  split
  · have h5 : sumM (K 0) (w 0) * (r + 1) ≤ 12 * 41 := Nat.mul_le_mul h3.2 (by omega)
    have h6 : ((sumM (K 0) (w 0) * (r + 1) : Nat) : Int) = (sumM (K 0) (w 0) : Int) * ((r + 1 : Nat) : Int) := by rw [Int.natCast_mul]
    rw [← h6]; omega
  · omega
theorem sumR_le {R : Nat} {K : Nat → Nat → Nat} {w y : Nat → Nat} (hv : PVd R K w y) (x : Nat) : ∀ {n : Nat}, n ≤ R → sumR K w y x n ≤ 7200 * n
  | 0, _ => Nat.le_refl 0
  | n + 1, h => by
    have h1 := sumR_le hv x (n := n) (by omega)
    have h2 := rvN_le hv (show n < R by omega) x
    simp only [sumR]; omega
noncomputable def val (K : Nat → Nat → Nat) (w y : Nat → Nat) (R : Nat) (sp : Bool) : Nat → Int
  | 0 => (R : Int)
  | 1 => (sumM (K (R - 1)) (w (R - 1)) : Int)
  | 2 => (sumR K w y 0 R : Int)
  | 3 => (sumR K w y 7 R : Int)
  | 4 => (sumR K w y 5 R : Int)
  | 5 => (sumR K w y 6 R : Int)
  | 6 => (wdF (fun r => sumM (K r) (w r)) R : Int)
  | _ => bI sp
theorem wd_ex (t : Nat → Nat) : ∀ R, 1 ≤ R → ∃ b, isWd t R b
  | 0, h => absurd h (by omega)
  | 1, _ => ⟨0, by omega, fun r q => by rw [show r = 0 by omega]; exact Nat.le_refl _, fun r q => absurd q (by omega)⟩
  | R + 2, _ => by
    obtain ⟨b, h1, h2, h3⟩ := wd_ex t (R + 1) (by omega)
    by_cases c : t b < t (R + 1)
    · exact ⟨R + 1, by omega, fun r q => by rcases Nat.lt_or_ge r (R + 1) with z | z; have := h2 r z; omega; rw [show r = R + 1 by omega]; exact Nat.le_refl _, fun r q => by have := h2 r q; omega⟩
    · exact ⟨b, by omega, fun r q => by rcases Nat.lt_or_ge r (R + 1) with z | z; exact h2 r z; rw [show r = R + 1 by omega]; omega, h3⟩
theorem wdF_lt (t : Nat → Nat) {R : Nat} (h : 1 ≤ R) : wdF t R < R := by
  obtain ⟨b, hb⟩ := wd_ex t R h
  rw [← wdF_of hb]; exact hb.1
theorem val_rng {R : Nat} {K : Nat → Nat → Nat} {w y : Nat → Nat} (hv : PVd R K w y) (sp : Bool) (x : Nat) : -1000000 ≤ val K w y R sp x ∧ val K w y R sp x ≤ 1000000 := by
  have h1 := hv.1
  have h2 := PVd_last hv
  have s0 := sumR_le hv 0 (Nat.le_refl R)
  have s7 := sumR_le hv 7 (Nat.le_refl R)
  have s5 := sumR_le hv 5 (Nat.le_refl R)
  have s6 := sumR_le hv 6 (Nat.le_refl R)
  have hw := wdF_lt (fun r => sumM (K r) (w r)) h1.1
  have hb := bI_01 sp
  match x with
  | 0 => simp only [val]; omega
  | 1 => simp only [val]; omega
  | 2 => simp only [val]; omega
  | 3 => simp only [val]; omega
  | 4 => simp only [val]; omega
  | 5 => simp only [val]; omega
  | 6 => simp only [val]; omega
  | n + 7 => simp only [val]; omega
def isPar (K : Nat → Nat → Nat) (r x : Nat) (v : Int) : Prop := (r = 0 ∧ v = -1) ∨ (r ≠ 0 ∧ ∃ i, isMk (K r) x i ∧ v = (sumU (K r) i : Int))
def isChi (K : Nat → Nat → Nat) (R r x : Nat) (v : Int) : Prop := (r + 1 = R ∧ v = -1) ∨ (r + 1 ≠ R ∧ ∃ i, isUs (K (r + 1)) x i ∧ v = (sumM (K (r + 1)) i : Int))
theorem isPar_u {K : Nat → Nat → Nat} {r x : Nat} {a b : Int} (h : isPar K r x a) (h2 : isPar K r x b) : a = b := by
  rcases h with ⟨p1, p2⟩ | ⟨p1, i, p2, p3⟩ <;> rcases h2 with ⟨q1, q2⟩ | ⟨q1, j, q2, q3⟩
  · rw [p2, q2]
  · exact absurd p1 q1
  · exact absurd q1 p1
  · rw [p3, q3, isMk_u p2 q2]
theorem isChi_u {K : Nat → Nat → Nat} {R r x : Nat} {a b : Int} (h : isChi K R r x a) (h2 : isChi K R r x b) : a = b := by
  rcases h with ⟨p1, p2⟩ | ⟨p1, i, p2, p3⟩ <;> rcases h2 with ⟨q1, q2⟩ | ⟨q1, j, q2, q3⟩
  · rw [p2, q2]
  · exact absurd p1 q1
  · exact absurd q1 p1
  · rw [p3, q3, isUs_u p2 q2]
def rtP (K : Nat → Nat → Nat) : Nat → Nat → Nat → Prop | 0, x, z => z = x | r + 1, x, z => ∃ i, isMk (K (r + 1)) x i ∧ rtP K r (sumU (K (r + 1)) i) z
theorem rtP_u {K : Nat → Nat → Nat} : ∀ {r x a b : Nat}, rtP K r x a → rtP K r x b → a = b
  | 0, _, _, _, h, h2 => by simp only [rtP] at h h2; omega
  | r + 1, x, a, b, h, h2 => by
    obtain ⟨i, p1, p2⟩ := h
    obtain ⟨j, q1, q2⟩ := h2
    rw [isMk_u q1 p1] at q2
    exact rtP_u p2 q2
theorem par_lt {R : Nat} {K : Nat → Nat → Nat} {w y : Nat → Nat} (hv : PVd R K w y) {r i : Nat} (hr : r < R) (h0 : 0 < r) (hi : i < w r) : sumU (K r) i < sumM (K (r - 1)) (w (r - 1)) := by
  have q := hv.2.2.1 (r - 1) (by omega)
  rw [show r - 1 + 1 = r by omega] at q
  rw [← q]; exact sumU_lt _ hi
set_option maxHeartbeats 4000000 in
set_option maxRecDepth 100000 in
theorem c_work_ok (l : Launch) (G : kG) (o : Nat) (h : Nat) (T : Nat → Nat) (L : Nat → Nat) (M : Nat → Nat) (P : Nat → Nat) (gk : Nat → Nat) (gw : Nat → Nat) (gt : Nat → Nat) (gy : Nat → Nat) (R : Nat) (sp : Bool) (K : Nat → Nat → Nat) (w : Nat → Nat) (y : Nat → Nat) (r : Nat) (x : Nat) (hok : POk gk gw gt gy R K w y) (hr : r < R) (hx : x < w r) : kCR l yX6_work wsX6_work 2 43 G [.ref (o), vN (r), vN (x)] (wMain G o P h T L M ++ wPiece G P gk gw gt gy R sp) (fun vv => vv = some (vN (K r x))) := by
  refine kCM.of (cc := cX6_work) (maxL := 3) (ret := (some .int)) (by decide) rfl (Nat.le_of_ble_eq_true rfl) ?_
  intro p e s m args below meth c A ls Qz hQ hin hm hw hl
  have hl : lv_has ls 3 [(0, .ref (o)), (1, vN (r)), (2, vN (x))] := hl
  have i4 : ∀ w ∈ wsX40, w ∈ wsX6_work := by decide +kernel
  have i6 : ∀ w ∈ wsX60, w ∈ wsX6_work := by decide +kernel
  have hk := hok.2.1 r hr
  have hb := hok.1.2.1 r hr
  have hR := hok.1.1
  refine k_iload_n hm hl 1 rfl dX6_work_0 ?_
  refine k_aload_n hm hl 0 rfl dX6_work_1 ?_
  refine k_get (T := TX6) hm hw 0 0 i6 rfl rfl (by decide) (by decide +kernel) rfl dX6_work_2 ?_
  refine k_get (T := TX4) hm hw 1 4 i4 rfl rfl (by decide) (by decide +kernel) rfl dX6_work_5 ?_
  refine k_callSr (n := 2) (As := [vN (r), vN (R)]) (rest := []) hm hw hl (c_checkIndex_ok l G r R (by first | assumption | omega)) gX6_work_X6_checkIndex rfl (by decide +kernel) ⟨by decide, by decide⟩ [] (by decide) rfl rfl rfl (by simp [Value.category]) ⟨by decide, by decide⟩ dX6_work_8 (fun v H locs hp hw => ?_)
  obtain rfl := hp
  refine W.eq (g2 := F0 m 11 ls []) rfl ?_
  refine k_iload_n hm hl 2 rfl dX6_work_11 ?_
  refine k_aload_n hm hl 0 rfl dX6_work_12 ?_
  refine k_get (T := TX6) hm hw 0 0 i6 rfl rfl (by decide) (by decide +kernel) rfl dX6_work_13 ?_
  refine k_get (T := TX4) hm hw 1 1 i4 rfl rfl (by decide) (by decide +kernel) rfl dX6_work_16 ?_
  refine k_iload_n hm hl 1 rfl dX6_work_19 ?_
  refine k_callVr (n := 1) (As := [vN (r)]) (rest := [vN (x)]) hm hw hl (c_Num_at l G (P 3) (P 4) 40 gw r (by first | assumption | omega)) gX6_work_X2_at rfl (by decide +kernel) ⟨by decide, by decide⟩ (ci := 2) rfl 4 rfl [4, 5] (by decide) rfl rfl rfl (by simp [Value.category]) ⟨by decide, by decide⟩ dX6_work_20 (fun v H locs hp hw => ?_)
  obtain rfl := hp
  refine W.eq (g2 := F0 m 23 ls [vN (gw r), vN (x)]) rfl ?_
  refine k_rwV (y := vN (w r)) (by rw [hk.1]) ?_
  refine k_callSr (n := 2) (As := [vN (x), vN (w r)]) (rest := []) hm hw hl (c_checkIndex_ok l G x (w r) (by first | assumption | omega)) gX6_work_X6_checkIndex rfl (by decide +kernel) ⟨by decide, by decide⟩ [] (by decide) rfl rfl rfl (by simp [Value.category]) ⟨by decide, by decide⟩ dX6_work_23 (fun v H locs hp hw => ?_)
  obtain rfl := hp
  refine W.eq (g2 := F0 m 26 ls []) rfl ?_
  refine k_aload_n hm hl 0 rfl dX6_work_26 ?_
  refine k_get (T := TX6) hm hw 0 0 i6 rfl rfl (by decide) (by decide +kernel) rfl dX6_work_27 ?_
  refine k_iload_n hm hl 1 rfl dX6_work_30 ?_
  refine k_iload_n hm hl 2 rfl dX6_work_31 ?_
  refine k_callVr (n := 2) (As := [vN (r), vN (x)]) (rest := []) hm hw hl (c_kindOf l G P gk gw gt gy R sp K w y r x (by first | assumption | omega) (by first | assumption | omega) (by first | assumption | omega)) gX6_work_X4_kindOf rfl (by decide +kernel) ⟨by decide, by decide⟩ (ci := 4) rfl 1 rfl [1, 2, 3, 4, 5, 6, 7, 8, 9] (by decide) rfl rfl rfl (by simp [Value.category]) ⟨by decide, by decide⟩ dX6_work_32 (fun v H locs hp hw => ?_)
  obtain rfl := hp
  refine W.eq (g2 := F0 m 35 ls [vN (K r x)]) rfl ?_
  exact k_iret (post := _) hm hQ rfl rfl hw (⟨rfl, rfl⟩) (by omega) (by omega) dX6_work_35
set_option maxHeartbeats 4000000 in
set_option maxRecDepth 100000 in
theorem c_round_ok (l : Launch) (G : kG) (o : Nat) (h : Nat) (T : Nat → Nat) (L : Nat → Nat) (M : Nat → Nat) (mf : Nat → Nat) (P : Nat → Nat) (gk : Nat → Nat) (gw : Nat → Nat) (gt : Nat → Nat) (gy : Nat → Nat) (R : Nat) (sp : Bool) (K : Nat → Nat → Nat) (w : Nat → Nat) (y : Nat → Nat) (r : Nat) (x : Nat) (hok : POk gk gw gt gy R K w y) (hr : r < R) (hx : x ≤ 10) : kCM l yX6_round wsX6_round 4 94 0 0 G [.ref (o), vN (r), vN (x)] (wMain G o P h T L M ++ (wPiece G P gk gw gt gy R sp ++ wMk G M mf)) (fun vv uu => ∃ (mf2 : Nat → Nat), vv = some (vZ (rv K w y r x)) ∧ uu = wMain G o P h T L M ++ (wPiece G P gk gw gt gy R sp ++ wMk G M mf2)) := by
  refine kCM.of (cc := cX6_round) (maxL := 3) (ret := (some .int)) (by decide) rfl (Nat.le_of_ble_eq_true rfl) ?_
  intro p e s m args below meth c A ls Qz hQ hin hm hw hl
  have hl : lv_has ls 3 [(0, .ref (o)), (1, vN (r)), (2, vN (x))] := hl
  have i4 : ∀ w ∈ wsX40, w ∈ wsX6_round := by decide +kernel
  have i6 : ∀ w ∈ wsX60, w ∈ wsX6_round := by decide +kernel
  have hk := hok.2.1 r hr
  have hb := hok.1.2.1 r hr
  have hR := hok.1.1
  refine k_iload_n hm hl 1 rfl dX6_round_0 ?_
  refine k_aload_n hm hl 0 rfl dX6_round_1 ?_
  refine k_get (T := TX6) hm hw 0 0 i6 rfl rfl (by decide) (by decide +kernel) rfl dX6_round_2 ?_
  refine k_get (T := TX4) hm hw 1 4 i4 rfl rfl (by decide) (by decide +kernel) rfl dX6_round_5 ?_
  refine k_callSr (n := 2) (As := [vN (r), vN (R)]) (rest := []) hm hw hl (c_checkIndex_ok l G r R (by first | assumption | omega)) gX6_round_X6_checkIndex rfl (by decide +kernel) ⟨by decide, by decide⟩ [] (by decide) rfl rfl rfl (by simp [Value.category]) ⟨by decide, by decide⟩ dX6_round_8 (fun v H locs hp hw => ?_)
  obtain rfl := hp
  refine W.eq (g2 := F0 m 11 ls []) rfl ?_
  refine k_iload_n hm hl 2 rfl dX6_round_11 ?_
  refine k_iflt (tgt := 25) hm dX6_round_12 (by decide) (by omega) (fun c_2 => absurd c_2 (by omega)) (fun c_2 => ?_)
  refine k_iload_n hm hl 2 rfl dX6_round_15 ?_
  refine k_bipushN hm 10 dX6_round_16 rfl ?_
  refine k_icmpgt (tgt := 25) hm dX6_round_18 (by decide) (by omega) (fun c_3 => absurd c_3 (by omega)) (fun c_3 => ?_)
  refine k_iconstN hm 1 dX6_round_21 ?_
  refine k_goto (tgt := 26) hm dX6_round_22 (by decide) ?_
  refine k_callSr (n := 1) (As := [vN (1)]) (rest := []) hm hw hl (c_checkArgument_ok l G ) gX6_round_X6_checkArgument rfl (by decide +kernel) ⟨by decide, by decide⟩ [] (by decide) rfl rfl rfl (by simp [Value.category]) ⟨by decide, by decide⟩ dX6_round_26 (fun v H locs hp hw => ?_)
  obtain rfl := hp
  refine W.eq (g2 := F0 m 29 ls []) rfl ?_
  refine k_aload_n hm hl 0 rfl dX6_round_29 ?_
  refine k_iload_n hm hl 1 rfl dX6_round_30 ?_
  refine k_iload_n hm hl 2 rfl dX6_round_31 ?_
  refine k_callV (n := 2) (As := [vN (r), vN (x)]) (rest := []) (wr := []) hm hw hl (c_ofRound l G o h T L M mf P gk gw gt gy R sp K w y r x (by first | assumption | omega) (by first | assumption | omega) (by first | assumption | omega)) gX6_round_X6_ofRound rfl (by decide +kernel) ⟨by decide, by decide⟩ (ci := 6) rfl 0 rfl [0, 1, 2, 3, 4, 5, 6, 7, 8, 9, 10, 11, 12] [] (by decide) rfl rfl (by decide) (by decide) rfl rfl (by simp [Value.category]) ⟨by decide, by decide⟩ dX6_round_32 (fun v w1 H locs hp hw => ?_)
  obtain ⟨mf2_6, rfl, rfl⟩ := hp
  have hw := hw.sub (ws' := wMain G o P h T L M ++ (wPiece G P gk gw gt gy R sp ++ wMk G M mf2_6)) [0, 1, 2, 3, 4, 5, 6, 7, 8, 9, 10, 11, 12] (by decide) rfl
  refine W.eq (g2 := F0 m 35 ls [vZ (rv K w y r x)]) rfl ?_
  exact k_iret (post := _) hm hQ rfl rfl hw (⟨_, rfl, rfl⟩) (by omega) (by omega) dX6_round_35
set_option maxHeartbeats 4000000 in
set_option maxRecDepth 100000 in
theorem c_value_0 (l : Launch) (G : kG) (o : Nat) (h : Nat) (T : Nat → Nat) (L : Nat → Nat) (M : Nat → Nat) (mf : Nat → Nat) (P : Nat → Nat) (gk : Nat → Nat) (gw : Nat → Nat) (gt : Nat → Nat) (gy : Nat → Nat) (R : Nat) (sp : Bool) (K : Nat → Nat → Nat) (w : Nat → Nat) (y : Nat → Nat) (hok : POk gk gw gt gy R K w y) : kCM l yX6_value wsX6_value 5 117 0 0 G [.ref (o), vN (0)] (wMain G o P h T L M ++ (wPiece G P gk gw gt gy R sp ++ wMk G M mf)) (fun vv uu => ∃ (mf2 : Nat → Nat), vv = some (vZ (val K w y R sp 0)) ∧ uu = wMain G o P h T L M ++ (wPiece G P gk gw gt gy R sp ++ wMk G M mf2)) := by
  refine kCM.of (cc := cX6_value) (maxL := 2) (ret := (some .int)) (by decide) rfl (Nat.le_of_ble_eq_true rfl) ?_
  intro p e s m args below meth c A ls Qz hQ hin hm hw hl
  have hl : lv_has ls 2 [(0, .ref (o)), (1, vN (0))] := hl
  have i4 : ∀ w ∈ wsX40, w ∈ wsX6_value := by decide +kernel
  have i6 : ∀ w ∈ wsX60, w ∈ wsX6_value := by decide +kernel
  refine k_iload_n hm hl 1 rfl dX6_value_0 ?_
  refine k_iflt (tgt := 14) hm dX6_value_1 (by decide) (by omega) (fun c_1 => absurd c_1 (by omega)) (fun c_1 => ?_)
  refine k_iload_n hm hl 1 rfl dX6_value_4 ?_
  refine k_bipushN hm 7 dX6_value_5 rfl ?_
  refine k_icmpgt (tgt := 14) hm dX6_value_7 (by decide) (by omega) (fun c_2 => absurd c_2 (by omega)) (fun c_2 => ?_)
  refine k_iconstN hm 1 dX6_value_10 ?_
  refine k_goto (tgt := 15) hm dX6_value_11 (by decide) ?_
  refine k_callSr (n := 1) (As := [vN (1)]) (rest := []) hm hw hl (c_checkArgument_ok l G ) gX6_value_X6_checkArgument rfl (by decide +kernel) ⟨by decide, by decide⟩ [] (by decide) rfl rfl rfl (by simp [Value.category]) ⟨by decide, by decide⟩ dX6_value_15 (fun v H locs hp hw => ?_)
  obtain rfl := hp
  refine W.eq (g2 := F0 m 18 ls []) rfl ?_
  refine k_iload_n hm hl 1 rfl dX6_value_18 ?_
  refine k_tsw (x := 0) (tgt := 60) hm dX6_value_19 (by decide) (by decide) (by decide) rfl (by decide) ?_
  refine k_aload_n hm hl 0 rfl dX6_value_60 ?_
  refine k_get (T := TX6) hm hw 0 0 i6 rfl rfl (by decide) (by decide +kernel) rfl dX6_value_61 ?_
  refine k_get (T := TX4) hm hw 1 4 i4 rfl rfl (by decide) (by decide +kernel) rfl dX6_value_64 ?_
  exact k_iret (post := _) hm hQ rfl rfl hw (⟨mf, rfl, rfl⟩) (by omega) (by omega) dX6_value_67
set_option maxHeartbeats 4000000 in
set_option maxRecDepth 100000 in
theorem c_value_1 (l : Launch) (G : kG) (o : Nat) (h : Nat) (T : Nat → Nat) (L : Nat → Nat) (M : Nat → Nat) (mf : Nat → Nat) (P : Nat → Nat) (gk : Nat → Nat) (gw : Nat → Nat) (gt : Nat → Nat) (gy : Nat → Nat) (R : Nat) (sp : Bool) (K : Nat → Nat → Nat) (w : Nat → Nat) (y : Nat → Nat) (hok : POk gk gw gt gy R K w y) : kCM l yX6_value wsX6_value 5 117 0 0 G [.ref (o), vN (1)] (wMain G o P h T L M ++ (wPiece G P gk gw gt gy R sp ++ wMk G M mf)) (fun vv uu => ∃ (mf2 : Nat → Nat), vv = some (vZ (val K w y R sp 1)) ∧ uu = wMain G o P h T L M ++ (wPiece G P gk gw gt gy R sp ++ wMk G M mf2)) := by
  refine kCM.of (cc := cX6_value) (maxL := 2) (ret := (some .int)) (by decide) rfl (Nat.le_of_ble_eq_true rfl) ?_
  intro p e s m args below meth c A ls Qz hQ hin hm hw hl
  have hl : lv_has ls 2 [(0, .ref (o)), (1, vN (1))] := hl
  have i4 : ∀ w ∈ wsX40, w ∈ wsX6_value := by decide +kernel
  have i6 : ∀ w ∈ wsX60, w ∈ wsX6_value := by decide +kernel
  refine k_iload_n hm hl 1 rfl dX6_value_0 ?_
  refine k_iflt (tgt := 14) hm dX6_value_1 (by decide) (by omega) (fun c_1 => absurd c_1 (by omega)) (fun c_1 => ?_)
  refine k_iload_n hm hl 1 rfl dX6_value_4 ?_
  refine k_bipushN hm 7 dX6_value_5 rfl ?_
  refine k_icmpgt (tgt := 14) hm dX6_value_7 (by decide) (by omega) (fun c_2 => absurd c_2 (by omega)) (fun c_2 => ?_)
  refine k_iconstN hm 1 dX6_value_10 ?_
  refine k_goto (tgt := 15) hm dX6_value_11 (by decide) ?_
  refine k_callSr (n := 1) (As := [vN (1)]) (rest := []) hm hw hl (c_checkArgument_ok l G ) gX6_value_X6_checkArgument rfl (by decide +kernel) ⟨by decide, by decide⟩ [] (by decide) rfl rfl rfl (by simp [Value.category]) ⟨by decide, by decide⟩ dX6_value_15 (fun v H locs hp hw => ?_)
  obtain rfl := hp
  refine W.eq (g2 := F0 m 18 ls []) rfl ?_
  refine k_iload_n hm hl 1 rfl dX6_value_18 ?_
  refine k_tsw (x := 1) (tgt := 68) hm dX6_value_19 (by decide) (by decide) (by decide) rfl (by decide) ?_
  refine k_aload_n hm hl 0 rfl dX6_value_68 ?_
  refine k_get (T := TX6) hm hw 0 0 i6 rfl rfl (by decide) (by decide +kernel) rfl dX6_value_69 ?_
  refine k_callVr (n := 0) (As := []) (rest := []) hm hw hl (c_lastTotal l G P gk gw gt gy R sp K w y (by first | assumption | omega)) gX6_value_X4_lastTotal rfl (by decide +kernel) ⟨by decide, by decide⟩ (ci := 4) rfl 1 rfl [1, 2, 3, 4, 5, 6, 7, 8, 9] (by decide) rfl rfl rfl (by simp [Value.category]) ⟨by decide, by decide⟩ dX6_value_72 (fun v H locs hp hw => ?_)
  obtain rfl := hp
  refine W.eq (g2 := F0 m 75 ls [vN (sumM (K (R - 1)) (w (R - 1)))]) rfl ?_
  exact k_iret (post := _) hm hQ rfl rfl hw (⟨mf, rfl, rfl⟩) (by omega) (by omega) dX6_value_75
set_option maxHeartbeats 4000000 in
set_option maxRecDepth 100000 in
theorem c_value_2 (l : Launch) (G : kG) (o : Nat) (h : Nat) (T : Nat → Nat) (L : Nat → Nat) (M : Nat → Nat) (mf : Nat → Nat) (P : Nat → Nat) (gk : Nat → Nat) (gw : Nat → Nat) (gt : Nat → Nat) (gy : Nat → Nat) (R : Nat) (sp : Bool) (K : Nat → Nat → Nat) (w : Nat → Nat) (y : Nat → Nat) (hok : POk gk gw gt gy R K w y) : kCM l yX6_value wsX6_value 5 117 0 0 G [.ref (o), vN (2)] (wMain G o P h T L M ++ (wPiece G P gk gw gt gy R sp ++ wMk G M mf)) (fun vv uu => ∃ (mf2 : Nat → Nat), vv = some (vZ (val K w y R sp 2)) ∧ uu = wMain G o P h T L M ++ (wPiece G P gk gw gt gy R sp ++ wMk G M mf2)) := by
  refine kCM.of (cc := cX6_value) (maxL := 2) (ret := (some .int)) (by decide) rfl (Nat.le_of_ble_eq_true rfl) ?_
  intro p e s m args below meth c A ls Qz hQ hin hm hw hl
  have hl : lv_has ls 2 [(0, .ref (o)), (1, vN (2))] := hl
  have i4 : ∀ w ∈ wsX40, w ∈ wsX6_value := by decide +kernel
  have i6 : ∀ w ∈ wsX60, w ∈ wsX6_value := by decide +kernel
  refine k_iload_n hm hl 1 rfl dX6_value_0 ?_
  refine k_iflt (tgt := 14) hm dX6_value_1 (by decide) (by omega) (fun c_1 => absurd c_1 (by omega)) (fun c_1 => ?_)
  refine k_iload_n hm hl 1 rfl dX6_value_4 ?_
  refine k_bipushN hm 7 dX6_value_5 rfl ?_
  refine k_icmpgt (tgt := 14) hm dX6_value_7 (by decide) (by omega) (fun c_2 => absurd c_2 (by omega)) (fun c_2 => ?_)
  refine k_iconstN hm 1 dX6_value_10 ?_
  refine k_goto (tgt := 15) hm dX6_value_11 (by decide) ?_
  refine k_callSr (n := 1) (As := [vN (1)]) (rest := []) hm hw hl (c_checkArgument_ok l G ) gX6_value_X6_checkArgument rfl (by decide +kernel) ⟨by decide, by decide⟩ [] (by decide) rfl rfl rfl (by simp [Value.category]) ⟨by decide, by decide⟩ dX6_value_15 (fun v H locs hp hw => ?_)
  obtain rfl := hp
  refine W.eq (g2 := F0 m 18 ls []) rfl ?_
  refine k_iload_n hm hl 1 rfl dX6_value_18 ?_
  refine k_tsw (x := 2) (tgt := 76) hm dX6_value_19 (by decide) (by decide) (by decide) rfl (by decide) ?_
  refine k_aload_n hm hl 0 rfl dX6_value_76 ?_
  refine k_iconstN hm 0 dX6_value_77 ?_
  refine k_callV (n := 1) (As := [vN (0)]) (rest := []) (wr := []) hm hw hl (c_sumOver_0 l G o h T L M mf P gk gw gt gy R sp K w y (by first | assumption | omega)) gX6_value_X6_sumOverRounds rfl (by decide +kernel) ⟨by decide, by decide⟩ (ci := 6) rfl 0 rfl [0, 1, 2, 3, 4, 5, 6, 7, 8, 9, 10, 11, 12] [] (by decide) rfl rfl (by decide) (by decide) rfl rfl (by simp [Value.category]) ⟨by decide, by decide⟩ dX6_value_78 (fun v w1 H locs hp hw => ?_)
  obtain ⟨mf2_5, rfl, rfl⟩ := hp
  have hw := hw.sub (ws' := wMain G o P h T L M ++ (wPiece G P gk gw gt gy R sp ++ wMk G M mf2_5)) [0, 1, 2, 3, 4, 5, 6, 7, 8, 9, 10, 11, 12] (by decide) rfl
  refine W.eq (g2 := F0 m 81 ls [vN (sumR K w y 0 R)]) rfl ?_
  exact k_iret (post := _) hm hQ rfl rfl hw (⟨_, rfl, rfl⟩) (by omega) (by omega) dX6_value_81
set_option maxHeartbeats 4000000 in
set_option maxRecDepth 100000 in
theorem c_value_3 (l : Launch) (G : kG) (o : Nat) (h : Nat) (T : Nat → Nat) (L : Nat → Nat) (M : Nat → Nat) (mf : Nat → Nat) (P : Nat → Nat) (gk : Nat → Nat) (gw : Nat → Nat) (gt : Nat → Nat) (gy : Nat → Nat) (R : Nat) (sp : Bool) (K : Nat → Nat → Nat) (w : Nat → Nat) (y : Nat → Nat) (hok : POk gk gw gt gy R K w y) : kCM l yX6_value wsX6_value 5 117 0 0 G [.ref (o), vN (3)] (wMain G o P h T L M ++ (wPiece G P gk gw gt gy R sp ++ wMk G M mf)) (fun vv uu => ∃ (mf2 : Nat → Nat), vv = some (vZ (val K w y R sp 3)) ∧ uu = wMain G o P h T L M ++ (wPiece G P gk gw gt gy R sp ++ wMk G M mf2)) := by
  refine kCM.of (cc := cX6_value) (maxL := 2) (ret := (some .int)) (by decide) rfl (Nat.le_of_ble_eq_true rfl) ?_
  intro p e s m args below meth c A ls Qz hQ hin hm hw hl
  have hl : lv_has ls 2 [(0, .ref (o)), (1, vN (3))] := hl
  have i4 : ∀ w ∈ wsX40, w ∈ wsX6_value := by decide +kernel
  have i6 : ∀ w ∈ wsX60, w ∈ wsX6_value := by decide +kernel
  refine k_iload_n hm hl 1 rfl dX6_value_0 ?_
  refine k_iflt (tgt := 14) hm dX6_value_1 (by decide) (by omega) (fun c_1 => absurd c_1 (by omega)) (fun c_1 => ?_)
  refine k_iload_n hm hl 1 rfl dX6_value_4 ?_
  refine k_bipushN hm 7 dX6_value_5 rfl ?_
  refine k_icmpgt (tgt := 14) hm dX6_value_7 (by decide) (by omega) (fun c_2 => absurd c_2 (by omega)) (fun c_2 => ?_)
  refine k_iconstN hm 1 dX6_value_10 ?_
  refine k_goto (tgt := 15) hm dX6_value_11 (by decide) ?_
  refine k_callSr (n := 1) (As := [vN (1)]) (rest := []) hm hw hl (c_checkArgument_ok l G ) gX6_value_X6_checkArgument rfl (by decide +kernel) ⟨by decide, by decide⟩ [] (by decide) rfl rfl rfl (by simp [Value.category]) ⟨by decide, by decide⟩ dX6_value_15 (fun v H locs hp hw => ?_)
  obtain rfl := hp
  refine W.eq (g2 := F0 m 18 ls []) rfl ?_
  refine k_iload_n hm hl 1 rfl dX6_value_18 ?_
  refine k_tsw (x := 3) (tgt := 82) hm dX6_value_19 (by decide) (by decide) (by decide) rfl (by decide) ?_
  refine k_aload_n hm hl 0 rfl dX6_value_82 ?_
  refine k_bipushN hm 7 dX6_value_83 rfl ?_
  refine k_callV (n := 1) (As := [vN (7)]) (rest := []) (wr := []) hm hw hl (c_sumOver_7 l G o h T L M mf P gk gw gt gy R sp K w y (by first | assumption | omega)) gX6_value_X6_sumOverRounds rfl (by decide +kernel) ⟨by decide, by decide⟩ (ci := 6) rfl 0 rfl [0, 1, 2, 3, 4, 5, 6, 7, 8, 9, 10, 11, 12] [] (by decide) rfl rfl (by decide) (by decide) rfl rfl (by simp [Value.category]) ⟨by decide, by decide⟩ dX6_value_85 (fun v w1 H locs hp hw => ?_)
  obtain ⟨mf2_5, rfl, rfl⟩ := hp
  have hw := hw.sub (ws' := wMain G o P h T L M ++ (wPiece G P gk gw gt gy R sp ++ wMk G M mf2_5)) [0, 1, 2, 3, 4, 5, 6, 7, 8, 9, 10, 11, 12] (by decide) rfl
  refine W.eq (g2 := F0 m 88 ls [vN (sumR K w y 7 R)]) rfl ?_
  exact k_iret (post := _) hm hQ rfl rfl hw (⟨_, rfl, rfl⟩) (by omega) (by omega) dX6_value_88
set_option maxHeartbeats 4000000 in
set_option maxRecDepth 100000 in
theorem c_value_4 (l : Launch) (G : kG) (o : Nat) (h : Nat) (T : Nat → Nat) (L : Nat → Nat) (M : Nat → Nat) (mf : Nat → Nat) (P : Nat → Nat) (gk : Nat → Nat) (gw : Nat → Nat) (gt : Nat → Nat) (gy : Nat → Nat) (R : Nat) (sp : Bool) (K : Nat → Nat → Nat) (w : Nat → Nat) (y : Nat → Nat) (hok : POk gk gw gt gy R K w y) : kCM l yX6_value wsX6_value 5 117 0 0 G [.ref (o), vN (4)] (wMain G o P h T L M ++ (wPiece G P gk gw gt gy R sp ++ wMk G M mf)) (fun vv uu => ∃ (mf2 : Nat → Nat), vv = some (vZ (val K w y R sp 4)) ∧ uu = wMain G o P h T L M ++ (wPiece G P gk gw gt gy R sp ++ wMk G M mf2)) := by
  refine kCM.of (cc := cX6_value) (maxL := 2) (ret := (some .int)) (by decide) rfl (Nat.le_of_ble_eq_true rfl) ?_
  intro p e s m args below meth c A ls Qz hQ hin hm hw hl
  have hl : lv_has ls 2 [(0, .ref (o)), (1, vN (4))] := hl
  have i4 : ∀ w ∈ wsX40, w ∈ wsX6_value := by decide +kernel
  have i6 : ∀ w ∈ wsX60, w ∈ wsX6_value := by decide +kernel
  refine k_iload_n hm hl 1 rfl dX6_value_0 ?_
  refine k_iflt (tgt := 14) hm dX6_value_1 (by decide) (by omega) (fun c_1 => absurd c_1 (by omega)) (fun c_1 => ?_)
  refine k_iload_n hm hl 1 rfl dX6_value_4 ?_
  refine k_bipushN hm 7 dX6_value_5 rfl ?_
  refine k_icmpgt (tgt := 14) hm dX6_value_7 (by decide) (by omega) (fun c_2 => absurd c_2 (by omega)) (fun c_2 => ?_)
  refine k_iconstN hm 1 dX6_value_10 ?_
  refine k_goto (tgt := 15) hm dX6_value_11 (by decide) ?_
  refine k_callSr (n := 1) (As := [vN (1)]) (rest := []) hm hw hl (c_checkArgument_ok l G ) gX6_value_X6_checkArgument rfl (by decide +kernel) ⟨by decide, by decide⟩ [] (by decide) rfl rfl rfl (by simp [Value.category]) ⟨by decide, by decide⟩ dX6_value_15 (fun v H locs hp hw => ?_)
  obtain rfl := hp
  refine W.eq (g2 := F0 m 18 ls []) rfl ?_
  refine k_iload_n hm hl 1 rfl dX6_value_18 ?_
  refine k_tsw (x := 4) (tgt := 89) hm dX6_value_19 (by decide) (by decide) (by decide) rfl (by decide) ?_
  refine k_aload_n hm hl 0 rfl dX6_value_89 ?_
  refine k_iconstN hm 5 dX6_value_90 ?_
  refine k_callV (n := 1) (As := [vN (5)]) (rest := []) (wr := []) hm hw hl (c_sumOver_5 l G o h T L M mf P gk gw gt gy R sp K w y (by first | assumption | omega)) gX6_value_X6_sumOverRounds rfl (by decide +kernel) ⟨by decide, by decide⟩ (ci := 6) rfl 0 rfl [0, 1, 2, 3, 4, 5, 6, 7, 8, 9, 10, 11, 12] [] (by decide) rfl rfl (by decide) (by decide) rfl rfl (by simp [Value.category]) ⟨by decide, by decide⟩ dX6_value_91 (fun v w1 H locs hp hw => ?_)
  obtain ⟨mf2_5, rfl, rfl⟩ := hp
  have hw := hw.sub (ws' := wMain G o P h T L M ++ (wPiece G P gk gw gt gy R sp ++ wMk G M mf2_5)) [0, 1, 2, 3, 4, 5, 6, 7, 8, 9, 10, 11, 12] (by decide) rfl
  refine W.eq (g2 := F0 m 94 ls [vN (sumR K w y 5 R)]) rfl ?_
  exact k_iret (post := _) hm hQ rfl rfl hw (⟨_, rfl, rfl⟩) (by omega) (by omega) dX6_value_94
set_option maxHeartbeats 4000000 in
set_option maxRecDepth 100000 in
theorem c_value_5 (l : Launch) (G : kG) (o : Nat) (h : Nat) (T : Nat → Nat) (L : Nat → Nat) (M : Nat → Nat) (mf : Nat → Nat) (P : Nat → Nat) (gk : Nat → Nat) (gw : Nat → Nat) (gt : Nat → Nat) (gy : Nat → Nat) (R : Nat) (sp : Bool) (K : Nat → Nat → Nat) (w : Nat → Nat) (y : Nat → Nat) (hok : POk gk gw gt gy R K w y) : kCM l yX6_value wsX6_value 5 117 0 0 G [.ref (o), vN (5)] (wMain G o P h T L M ++ (wPiece G P gk gw gt gy R sp ++ wMk G M mf)) (fun vv uu => ∃ (mf2 : Nat → Nat), vv = some (vZ (val K w y R sp 5)) ∧ uu = wMain G o P h T L M ++ (wPiece G P gk gw gt gy R sp ++ wMk G M mf2)) := by
  refine kCM.of (cc := cX6_value) (maxL := 2) (ret := (some .int)) (by decide) rfl (Nat.le_of_ble_eq_true rfl) ?_
  intro p e s m args below meth c A ls Qz hQ hin hm hw hl
  have hl : lv_has ls 2 [(0, .ref (o)), (1, vN (5))] := hl
  have i4 : ∀ w ∈ wsX40, w ∈ wsX6_value := by decide +kernel
  have i6 : ∀ w ∈ wsX60, w ∈ wsX6_value := by decide +kernel
  refine k_iload_n hm hl 1 rfl dX6_value_0 ?_
  refine k_iflt (tgt := 14) hm dX6_value_1 (by decide) (by omega) (fun c_1 => absurd c_1 (by omega)) (fun c_1 => ?_)
  refine k_iload_n hm hl 1 rfl dX6_value_4 ?_
  refine k_bipushN hm 7 dX6_value_5 rfl ?_
  refine k_icmpgt (tgt := 14) hm dX6_value_7 (by decide) (by omega) (fun c_2 => absurd c_2 (by omega)) (fun c_2 => ?_)
  refine k_iconstN hm 1 dX6_value_10 ?_
  refine k_goto (tgt := 15) hm dX6_value_11 (by decide) ?_
  refine k_callSr (n := 1) (As := [vN (1)]) (rest := []) hm hw hl (c_checkArgument_ok l G ) gX6_value_X6_checkArgument rfl (by decide +kernel) ⟨by decide, by decide⟩ [] (by decide) rfl rfl rfl (by simp [Value.category]) ⟨by decide, by decide⟩ dX6_value_15 (fun v H locs hp hw => ?_)
  obtain rfl := hp
  refine W.eq (g2 := F0 m 18 ls []) rfl ?_
  refine k_iload_n hm hl 1 rfl dX6_value_18 ?_
  refine k_tsw (x := 5) (tgt := 95) hm dX6_value_19 (by decide) (by decide) (by decide) rfl (by decide) ?_
  refine k_aload_n hm hl 0 rfl dX6_value_95 ?_
  refine k_bipushN hm 6 dX6_value_96 rfl ?_
  refine k_callV (n := 1) (As := [vN (6)]) (rest := []) (wr := []) hm hw hl (c_sumOver_6 l G o h T L M mf P gk gw gt gy R sp K w y (by first | assumption | omega)) gX6_value_X6_sumOverRounds rfl (by decide +kernel) ⟨by decide, by decide⟩ (ci := 6) rfl 0 rfl [0, 1, 2, 3, 4, 5, 6, 7, 8, 9, 10, 11, 12] [] (by decide) rfl rfl (by decide) (by decide) rfl rfl (by simp [Value.category]) ⟨by decide, by decide⟩ dX6_value_98 (fun v w1 H locs hp hw => ?_)
  obtain ⟨mf2_5, rfl, rfl⟩ := hp
  have hw := hw.sub (ws' := wMain G o P h T L M ++ (wPiece G P gk gw gt gy R sp ++ wMk G M mf2_5)) [0, 1, 2, 3, 4, 5, 6, 7, 8, 9, 10, 11, 12] (by decide) rfl
  refine W.eq (g2 := F0 m 101 ls [vN (sumR K w y 6 R)]) rfl ?_
  exact k_iret (post := _) hm hQ rfl rfl hw (⟨_, rfl, rfl⟩) (by omega) (by omega) dX6_value_101
set_option maxHeartbeats 4000000 in
set_option maxRecDepth 100000 in
theorem c_value_6 (l : Launch) (G : kG) (o : Nat) (h : Nat) (T : Nat → Nat) (L : Nat → Nat) (M : Nat → Nat) (mf : Nat → Nat) (P : Nat → Nat) (gk : Nat → Nat) (gw : Nat → Nat) (gt : Nat → Nat) (gy : Nat → Nat) (R : Nat) (sp : Bool) (K : Nat → Nat → Nat) (w : Nat → Nat) (y : Nat → Nat) (hok : POk gk gw gt gy R K w y) : kCM l yX6_value wsX6_value 5 117 0 0 G [.ref (o), vN (6)] (wMain G o P h T L M ++ (wPiece G P gk gw gt gy R sp ++ wMk G M mf)) (fun vv uu => ∃ (mf2 : Nat → Nat), vv = some (vZ (val K w y R sp 6)) ∧ uu = wMain G o P h T L M ++ (wPiece G P gk gw gt gy R sp ++ wMk G M mf2)) := by
  refine kCM.of (cc := cX6_value) (maxL := 2) (ret := (some .int)) (by decide) rfl (Nat.le_of_ble_eq_true rfl) ?_
  intro p e s m args below meth c A ls Qz hQ hin hm hw hl
  have hl : lv_has ls 2 [(0, .ref (o)), (1, vN (6))] := hl
  have i4 : ∀ w ∈ wsX40, w ∈ wsX6_value := by decide +kernel
  have i6 : ∀ w ∈ wsX60, w ∈ wsX6_value := by decide +kernel
  refine k_iload_n hm hl 1 rfl dX6_value_0 ?_
  refine k_iflt (tgt := 14) hm dX6_value_1 (by decide) (by omega) (fun c_1 => absurd c_1 (by omega)) (fun c_1 => ?_)
  refine k_iload_n hm hl 1 rfl dX6_value_4 ?_
  refine k_bipushN hm 7 dX6_value_5 rfl ?_
  refine k_icmpgt (tgt := 14) hm dX6_value_7 (by decide) (by omega) (fun c_2 => absurd c_2 (by omega)) (fun c_2 => ?_)
  refine k_iconstN hm 1 dX6_value_10 ?_
  refine k_goto (tgt := 15) hm dX6_value_11 (by decide) ?_
  refine k_callSr (n := 1) (As := [vN (1)]) (rest := []) hm hw hl (c_checkArgument_ok l G ) gX6_value_X6_checkArgument rfl (by decide +kernel) ⟨by decide, by decide⟩ [] (by decide) rfl rfl rfl (by simp [Value.category]) ⟨by decide, by decide⟩ dX6_value_15 (fun v H locs hp hw => ?_)
  obtain rfl := hp
  refine W.eq (g2 := F0 m 18 ls []) rfl ?_
  refine k_iload_n hm hl 1 rfl dX6_value_18 ?_
  refine k_tsw (x := 6) (tgt := 102) hm dX6_value_19 (by decide) (by decide) (by decide) rfl (by decide) ?_
  refine k_aload_n hm hl 0 rfl dX6_value_102 ?_
  refine k_get (T := TX6) hm hw 0 0 i6 rfl rfl (by decide) (by decide +kernel) rfl dX6_value_103 ?_
  refine k_callVr (n := 0) (As := []) (rest := []) hm hw hl (c_widest l G P gk gw gt gy R sp K w y (by first | assumption | omega)) gX6_value_X4_widest rfl (by decide +kernel) ⟨by decide, by decide⟩ (ci := 4) rfl 1 rfl [1, 2, 3, 4, 5, 6, 7, 8, 9] (by decide) rfl rfl rfl (by simp [Value.category]) ⟨by decide, by decide⟩ dX6_value_106 (fun v H locs hp hw => ?_)
  obtain ⟨b_5, rfl, hb_6⟩ := hp
  refine W.eq (g2 := F0 m 109 ls [vN (b_5)]) rfl ?_
  have hfx := hb_6
  exact k_iret (post := _) hm hQ rfl rfl hw (⟨mf, by rw [wdF_of hfx]; rfl, rfl⟩) (by omega) (by omega) dX6_value_109
set_option maxHeartbeats 4000000 in
set_option maxRecDepth 100000 in
theorem c_value_7 (l : Launch) (G : kG) (o : Nat) (h : Nat) (T : Nat → Nat) (L : Nat → Nat) (M : Nat → Nat) (mf : Nat → Nat) (P : Nat → Nat) (gk : Nat → Nat) (gw : Nat → Nat) (gt : Nat → Nat) (gy : Nat → Nat) (R : Nat) (sp : Bool) (K : Nat → Nat → Nat) (w : Nat → Nat) (y : Nat → Nat) (hok : POk gk gw gt gy R K w y) : kCM l yX6_value wsX6_value 5 117 0 0 G [.ref (o), vN (7)] (wMain G o P h T L M ++ (wPiece G P gk gw gt gy R sp ++ wMk G M mf)) (fun vv uu => ∃ (mf2 : Nat → Nat), vv = some (vZ (val K w y R sp 7)) ∧ uu = wMain G o P h T L M ++ (wPiece G P gk gw gt gy R sp ++ wMk G M mf2)) := by
  refine kCM.of (cc := cX6_value) (maxL := 2) (ret := (some .int)) (by decide) rfl (Nat.le_of_ble_eq_true rfl) ?_
  intro p e s m args below meth c A ls Qz hQ hin hm hw hl
  have hl : lv_has ls 2 [(0, .ref (o)), (1, vN (7))] := hl
  have i4 : ∀ w ∈ wsX40, w ∈ wsX6_value := by decide +kernel
  have i6 : ∀ w ∈ wsX60, w ∈ wsX6_value := by decide +kernel
  refine k_iload_n hm hl 1 rfl dX6_value_0 ?_
  refine k_iflt (tgt := 14) hm dX6_value_1 (by decide) (by omega) (fun c_1 => absurd c_1 (by omega)) (fun c_1 => ?_)
  refine k_iload_n hm hl 1 rfl dX6_value_4 ?_
  refine k_bipushN hm 7 dX6_value_5 rfl ?_
  refine k_icmpgt (tgt := 14) hm dX6_value_7 (by decide) (by omega) (fun c_2 => absurd c_2 (by omega)) (fun c_2 => ?_)
  refine k_iconstN hm 1 dX6_value_10 ?_
  refine k_goto (tgt := 15) hm dX6_value_11 (by decide) ?_
  refine k_callSr (n := 1) (As := [vN (1)]) (rest := []) hm hw hl (c_checkArgument_ok l G ) gX6_value_X6_checkArgument rfl (by decide +kernel) ⟨by decide, by decide⟩ [] (by decide) rfl rfl rfl (by simp [Value.category]) ⟨by decide, by decide⟩ dX6_value_15 (fun v H locs hp hw => ?_)
  obtain rfl := hp
  refine W.eq (g2 := F0 m 18 ls []) rfl ?_
  refine k_iload_n hm hl 1 rfl dX6_value_18 ?_
  refine k_tsd (x := 7) (tgt := 110) hm dX6_value_19 (by decide) (by decide) (by decide) ?_
  refine k_aload_n hm hl 0 rfl dX6_value_110 ?_
  refine k_get (T := TX6) hm hw 0 0 i6 rfl rfl (by decide) (by decide +kernel) rfl dX6_value_111 ?_
  refine k_get (T := TX4) hm hw 1 5 i4 rfl rfl (by decide) (by decide +kernel) rfl dX6_value_114 ?_
  refine k_ifeqB (tgt := 124) hm dX6_value_117 (by decide) (fun c_4 => ?_) (fun c_4 => ?_)
  · refine k_iconstN hm 0 dX6_value_124 ?_
    exact k_iret (post := _) hm hQ rfl rfl hw (⟨mf, by rw [show val K w y R sp 7 = bI sp from rfl, c_4]; rfl, rfl⟩) (by omega) (by omega) dX6_value_125
  · refine k_iconstN hm 1 dX6_value_120 ?_
    refine k_goto (tgt := 125) hm dX6_value_121 (by decide) ?_
    exact k_iret (post := _) hm hQ rfl rfl hw (⟨mf, by rw [show val K w y R sp 7 = bI sp from rfl, c_4]; rfl, rfl⟩) (by omega) (by omega) dX6_value_125
set_option maxHeartbeats 4000000 in
set_option maxRecDepth 100000 in
theorem c_value_ok (l : Launch) (G : kG) (o : Nat) (h : Nat) (T : Nat → Nat) (L : Nat → Nat) (M : Nat → Nat) (mf : Nat → Nat) (P : Nat → Nat) (gk : Nat → Nat) (gw : Nat → Nat) (gt : Nat → Nat) (gy : Nat → Nat) (R : Nat) (sp : Bool) (K : Nat → Nat → Nat) (w : Nat → Nat) (y : Nat → Nat) (x : Nat) (hok : POk gk gw gt gy R K w y) (hx : x ≤ 7) : kCM l yX6_value wsX6_value 5 117 0 0 G [.ref (o), vN (x)] (wMain G o P h T L M ++ (wPiece G P gk gw gt gy R sp ++ wMk G M mf)) (fun vv uu => ∃ (mf2 : Nat → Nat), vv = some (vZ (val K w y R sp x)) ∧ uu = wMain G o P h T L M ++ (wPiece G P gk gw gt gy R sp ++ wMk G M mf2)) := by
  rcases (show x = 0 ∨ x = 1 ∨ x = 2 ∨ x = 3 ∨ x = 4 ∨ x = 5 ∨ x = 6 ∨ x = 7 by omega) with rfl | rfl | rfl | rfl | rfl | rfl | rfl | rfl
  · exact c_value_0 l G o h T L M mf P gk gw gt gy R sp K w y hok
  · exact c_value_1 l G o h T L M mf P gk gw gt gy R sp K w y hok
  · exact c_value_2 l G o h T L M mf P gk gw gt gy R sp K w y hok
  · exact c_value_3 l G o h T L M mf P gk gw gt gy R sp K w y hok
  · exact c_value_4 l G o h T L M mf P gk gw gt gy R sp K w y hok
  · exact c_value_5 l G o h T L M mf P gk gw gt gy R sp K w y hok
  · exact c_value_6 l G o h T L M mf P gk gw gt gy R sp K w y hok
  · exact c_value_7 l G o h T L M mf P gk gw gt gy R sp K w y hok
noncomputable def mxR (K : Nat → Nat → Nat) (w y : Nat → Nat) (r : Nat) : Nat → Int → Int | 0, h => h | n + 1, h => 31 * mxR K w y r n h + rv K w y r n
def mxK (k : Nat → Nat) : Nat → Int → Int | 0, h => h | n + 1, h => 31 * mxK k n h + (k n : Int)
noncomputable def mxRow (K : Nat → Nat → Nat) (w y : Nat → Nat) (r : Nat) (h : Int) : Int := mxK (K r) (w r) (mxR K w y r 11 h)
