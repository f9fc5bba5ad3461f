noncomputable def kkF (tx : Nat → Nat) (n p j : Nat) : Nat := (ikF tx n p j).toNat
theorem told_k {tx : Nat → Nat} {n p j : Nat} (h : itOk tx n (ipF tx n p j)) : ikF tx n p j = ((kkF tx n p j : Nat) : Int) ∧ kkF tx n p j ≤ 2 ∧ icF tx n p j ≤ 999 ∧ 1 ≤ icF tx n p j := by
  have h1 : ikF tx n p j ≠ -1 := h.1
  have h2 : -1 ≤ ikF tx n p j ∧ ikF tx n p j ≤ 2 := kdB_rng _
  have h3 : 1 ≤ icF tx n p j := h.2.2.2.1
  have h4 : icF tx n p j ≤ 999 := nV_le (by decide)
  unfold kkF
  omega
theorem mS_mK {tx : Nat → Nat} {n p : Nat} : ∀ {m : Nat}, (∀ j, j < m → itOk tx n (ipF tx n p j)) → mS tx n p m = mK (kkF tx n p) (icF tx n p) m ∧ uS tx n p m = uK (kkF tx n p) (icF tx n p) m
  | 0, _ => ⟨rfl, rfl⟩
  | m + 1, h => by
    have h1 := mS_mK (m := m) (fun j q => h j (by omega))
    have h2 := told_k (h m (by omega))
    have e1 : mdZ (ikF tx n p m) = mdB (kkF tx n p m) := by
      unfold mdZ mdB
      by_cases q : ikF tx n p m = 1
      · rw [if_pos q, if_pos (by omega)]
      · rw [if_neg q, if_neg (by omega)]
    have e2 : usZ (ikF tx n p m) = usB (kkF tx n p m) := by
      unfold usZ usB
      by_cases q : ikF tx n p m = 2
      · rw [if_pos q, if_pos (by omega)]
      · rw [if_neg q, if_neg (by omega)]
    simp only [mS, uS, mK, uK]
    rw [h1.1, h1.2, e1, e2]
    exact ⟨rfl, rfl⟩
theorem cS_mK {kk cc : Nat → Nat} : ∀ m, cS cc m ≤ mK kk cc m
  | 0 => Nat.le_refl _
  | m + 1 => by
    have h := cS_mK (kk := kk) (cc := cc) m
    have h2 : cc m * 1 ≤ cc m * mdB (kk m) := Nat.mul_le_mul_left _ (mdB_le _).1
    simp only [cS, mK]; omega
/-- the round that is told from p: its row, its width -/
noncomputable def rwT (tx : Nat → Nat) (n p m : Nat) : Nat → Nat := tR (kkF tx n p) (icF tx n p) m
noncomputable def wdT (tx : Nat → Nat) (n p m t : Nat) : Nat := t * cS (icF tx n p) m
def cyS (tx : Nat → Nat) (n : Nat) : Nat → Nat → Nat → (Nat → Nat → Nat) → (Nat → Nat) → (Nat → Nat → Nat) → (Nat → Nat) → Prop
  | 0, _, _, K, w, K2, w2 => K2 = K ∧ w2 = w
  | k + 1, p, R, K, w, K2, w2 => ∃ m t q, rdOk tx n p m t q ∧ cyS tx n k q (R + 1) (fup K R (rwT tx n p m)) (fup w R (wdT tx n p m t)) K2 w2
theorem cyS_u {tx : Nat → Nat} {n : Nat} : ∀ {k p R : Nat} {K : Nat → Nat → Nat} {w : Nat → Nat} {K2 K3 : Nat → Nat → Nat} {w2 w3 : Nat → Nat}, cyS tx n k p R K w K2 w2 → cyS tx n k p R K w K3 w3 → K2 = K3 ∧ w2 = w3
  | 0, _, _, _, _, _, _, _, _, h, g => by
    obtain ⟨a, b⟩ := h
    obtain ⟨c, d⟩ := g
    exact ⟨by rw [a, c], by rw [b, d]⟩
  | k + 1, _, _, _, _, _, _, _, _, h, g => by
    obtain ⟨m, t, q, h1, h2⟩ := h
    obtain ⟨m2, t2, q2, g1, g2⟩ := g
    obtain ⟨e1, e2, e3⟩ := rdOk_u h1 g1
    subst e1; subst e2; subst e3
    exact cyS_u h2 g2
theorem ftS_r {tx : Nat → Nat} {n k p tot c : Nat} (h : ftS tx n k p tot (c + 1)) : ∃ m t q, rdOk tx n p m t q := by
  cases k with
  | zero => exact absurd (show c + 1 = 0 from h) (by omega)
  | succ k =>
    rcases h with ⟨_, h⟩ | ⟨_, m, t, q, h, _⟩
    · omega
    · exact ⟨m, t, q, h⟩
theorem ftS_s {tx : Nat → Nat} {n k p tot c m t q : Nat} (h : ftS tx n k p tot (c + 1)) (hr : rdOk tx n p m t q) : ∃ k2, k = k2 + 1 ∧ p < n ∧ (uS tx n p m * t = tot ∧ 3 ≤ mS tx n p m * t ∧ mS tx n p m * t ≤ 120) ∧ ftS tx n k2 q (mS tx n p m * t) c := by
  cases k with
  | zero => exact absurd (show c + 1 = 0 from h) (by omega)
  | succ k =>
    rcases h with ⟨_, h⟩ | ⟨h1, m2, t2, q2, h2, ⟨_, h⟩ | ⟨h3, c2, h4, h5⟩⟩
    · omega
    · omega
    · obtain ⟨e1, e2, e3⟩ := rdOk_u hr h2
      subst e1; subst e2; subst e3
      exact ⟨k, rfl, h1, h3, by rw [show c = c2 by omega]; exact h5⟩
theorem told_fit {tx : Nat → Nat} {n p m t q : Nat} (hr : rdOk tx n p m t q) (h : 3 ≤ mS tx n p m * t ∧ mS tx n p m * t ≤ 120) (ht : 1 ≤ t) : (1 ≤ t * cS (icF tx n p) m ∧ t * cS (icF tx n p) m ≤ 120) ∧ (3 ≤ t * mK (kkF tx n p) (icF tx n p) m ∧ t * mK (kkF tx n p) (icF tx n p) m ≤ 120) ∧ t * uK (kkF tx n p) (icF tx n p) m = uS tx n p m * t ∧ t * mK (kkF tx n p) (icF tx n p) m = mS tx n p m * t := by
  have e := mS_mK hr.2.1
  have a := cS_mK (kk := kkF tx n p) (cc := icF tx n p) m
  have b : t * cS (icF tx n p) m ≤ t * mK (kkF tx n p) (icF tx n p) m := Nat.mul_le_mul_left _ a
  have c0 : cS (icF tx n p) 1 ≤ cS (icF tx n p) m := cS_mono hr.1
  have c1 := (told_k (hr.2.1 0 hr.1)).2.2.2
  have c2 : cS (icF tx n p) 1 = 0 + icF tx n p 0 := rfl
  have c3 : 1 * 1 ≤ t * cS (icF tx n p) m := Nat.mul_le_mul ht (by omega)
  have e1 : t * mK (kkF tx n p) (icF tx n p) m = mS tx n p m * t := by rw [e.1, Nat.mul_comm]
  have e2 : t * uK (kkF tx n p) (icF tx n p) m = uS tx n p m * t := by rw [e.2, Nat.mul_comm]
  refine ⟨⟨by omega, by omega⟩, ⟨by omega, by omega⟩, e2, e1⟩
set_option maxHeartbeats 4000000 in
set_option maxRecDepth 100000 in
theorem c_judged_er (l : Launch) (G : kG) (o : Nat) (P : Nat → Nat) (h : Nat) (L : Nat → Nat) (M : Nat → Nat) (T : Nat → Nat) (tb : Nat → Nat) (tk : Nat → Int) (tc : Nat → Nat) (tn : Nat) (ti : Nat) (tt : Nat) (tu : Nat) (tm : Nat) (tp : Nat) (te : Int) (z : Int) (htn : tn ≤ 120) (htb : ∀ i, i < tn → tb i ≤ 127) (hsy : synR tb tn 120 0 z) (hz : 0 ≤ z ∧ z ≤ 1000) : kCM l yX6_judged wsX6_judged 6 131 0 0 G [.ref (o)] (wMain G o P h T L M ++ wPat G T tb tk tc tn ti tt tu tm tp te) (fun vv uu => ∃ (tk2 : Nat → Int), ∃ (tc2 : Nat → Nat), ∃ (ti2 : Nat), ∃ (tt2 : Nat), ∃ (tu2 : Nat), ∃ (tm2 : Nat), ∃ (tp2 : Nat), ∃ (te2 : Int), vv = some (vZ (-10 - z)) ∧ uu = wMain G o P h T L M ++ wPat G T tb tk2 tc2 tn ti2 tt2 tu2 tm2 tp2 te2) := by
  refine kCM.of (cc := cX6_judged) (maxL := 2) (ret := (some .int)) (by decide) rfl (Nat.le_of_ble_eq_true rfl) ?_
  intro p e s m args below meth c A ls Qz hQ hin hm hw hl
  have hl : lv_has ls 2 [(0, .ref (o))] := hl
  have i6 : ∀ w ∈ wsX60, w ∈ wsX6_judged := by decide +kernel
  refine k_aload_n hm hl 0 rfl dX6_judged_0 ?_
  refine k_get (T := TX6) hm hw 0 2 i6 rfl rfl (by decide) (by decide +kernel) rfl dX6_judged_1 ?_
  refine k_callV (n := 0) (As := []) (rest := []) (wr := [(o, .inr (6, [.ref (P 0), .ref (h), .ref (T 0), .ref (L 0), .ref (M 0)]))]) hm hw hl (c_syntaxError l G T tb tk tc tn ti tt tu tm tp te (by first | assumption | omega) (by first | assumption | omega)) gX6_judged_X3_syntaxError rfl (by decide +kernel) ⟨by decide, by decide⟩ (ci := 3) rfl 1 rfl [1, 2, 3, 4, 5, 6, 7] [0] (by decide) rfl rfl (by decide) (by decide) rfl rfl (by simp [Value.category]) ⟨by decide, by decide⟩ dX6_judged_4 (fun v w1 H locs hp hw => ?_)
  obtain ⟨tk2_2, tc2_3, ti2_4, tt2_5, tu2_6, tm2_7, tp2_8, z_9, rfl, rfl, hs_10, hz_11⟩ := hp
  have hw := hw.sub (ws' := wMain G o P h T L M ++ wPat G T tb tk2_2 tc2_3 tn ti2_4 tt2_5 tu2_6 tm2_7 tp2_8 z_9) [0, 1, 2, 3, 4, 5, 6, 7] (by decide) rfl
  refine W.eq (g2 := F0 m 7 ls [vZ (z_9)]) rfl ?_
  have hs9 := hs_10
  refine k_rwV (y := vZ (z)) (by rw [synR_u hs9 hsy]) ?_
  have he9 := synR_u hs9 hsy
  refine k_istore_n hm hl [(1, vZ (z)), (0, .ref (o))] (by decide) rfl dX6_judged_7 (fun ls hl => ?_)
  refine k_iload_n hm hl 0 rfl dX6_judged_8 ?_
  refine k_iconst (n := -1) hm dX6_judged_9 ?_
  refine k_icmpne (tgt := 20) hm dX6_judged_10 (by decide) (by omega) (fun c_12 => ?_) (fun c_12 => absurd c_12 (by omega))
  refine k_bipush (n := -10) hm dX6_judged_20 rfl ?_
  refine k_iload_n hm hl 0 rfl dX6_judged_22 ?_
  refine k_isub hm dX6_judged_23 ?_
  exact k_iret (post := _) hm hQ rfl rfl hw (⟨_, _, _, _, _, _, _, _, rfl, rfl⟩) (by omega) (by omega) dX6_judged_24
set_option maxHeartbeats 4000000 in
set_option maxRecDepth 100000 in
theorem c_carryOut_er (l : Launch) (G : kG) (o : Nat) (P : Nat → Nat) (h : Nat) (L : Nat → Nat) (M : Nat → Nat) (T : Nat → Nat) (tb : Nat → Nat) (tk : Nat → Int) (tc : Nat → Nat) (tn : Nat) (ti : Nat) (tt : Nat) (tu : Nat) (tm : Nat) (tp : Nat) (te : Int) (z : Int) (htn : tn ≤ 120) (htb : ∀ i, i < tn → tb i ≤ 127) (hsy : synR tb tn 120 0 z) (hz : 0 ≤ z ∧ z ≤ 1000) : kCM l yX6_carryOut wsX6_carryOut 6 131 0 0 G [.ref (o)] (wMain G o P h T L M ++ wPat G T tb tk tc tn ti tt tu tm tp te) (fun vv uu => ∃ (tk2 : Nat → Int), ∃ (tc2 : Nat → Nat), ∃ (ti2 : Nat), ∃ (tt2 : Nat), ∃ (tu2 : Nat), ∃ (tm2 : Nat), ∃ (tp2 : Nat), ∃ (te2 : Int), vv = some (vZ (-10 - z)) ∧ uu = wMain G o P h T L M ++ wPat G T tb tk2 tc2 tn ti2 tt2 tu2 tm2 tp2 te2) := by
  refine kCM.of (cc := cX6_carryOut) (maxL := 4) (ret := (some .int)) (by decide) rfl (Nat.le_of_ble_eq_true rfl) ?_
  intro p e s m args below meth c A ls Qz hQ hin hm hw hl
  have hl : lv_has ls 4 [(0, .ref (o))] := hl
  have i6 : ∀ w ∈ wsX60, w ∈ wsX6_carryOut := by decide +kernel
  refine k_aload_n hm hl 0 rfl dX6_carryOut_0 ?_
  refine k_get (T := TX6) hm hw 0 2 i6 rfl rfl (by decide) (by decide +kernel) rfl dX6_carryOut_1 ?_
  refine k_callV (n := 0) (As := []) (rest := []) (wr := [(o, .inr (6, [.ref (P 0), .ref (h), .ref (T 0), .ref (L 0), .ref (M 0)]))]) hm hw hl (c_syntaxError l G T tb tk tc tn ti tt tu tm tp te (by first | assumption | omega) (by first | assumption | omega)) gX6_carryOut_X3_syntaxError rfl (by decide +kernel) ⟨by decide, by decide⟩ (ci := 3) rfl 1 rfl [1, 2, 3, 4, 5, 6, 7] [0] (by decide) rfl rfl (by decide) (by decide) rfl rfl (by simp [Value.category]) ⟨by decide, by decide⟩ dX6_carryOut_4 (fun v w1 H locs hp hw => ?_)
  obtain ⟨tk2_2, tc2_3, ti2_4, tt2_5, tu2_6, tm2_7, tp2_8, z_9, rfl, rfl, hs_10, hz_11⟩ := hp
  have hw := hw.sub (ws' := wMain G o P h T L M ++ wPat G T tb tk2_2 tc2_3 tn ti2_4 tt2_5 tu2_6 tm2_7 tp2_8 z_9) [0, 1, 2, 3, 4, 5, 6, 7] (by decide) rfl
  refine W.eq (g2 := F0 m 7 ls [vZ (z_9)]) rfl ?_
  have hs9 := hs_10
  refine k_rwV (y := vZ (z)) (by rw [synR_u hs9 hsy]) ?_
  have he9 := synR_u hs9 hsy
  refine k_istore_n hm hl [(1, vZ (z)), (0, .ref (o))] (by decide) rfl dX6_carryOut_7 (fun ls hl => ?_)
  refine k_iload_n hm hl 0 rfl dX6_carryOut_8 ?_
  refine k_iconst (n := -1) hm dX6_carryOut_9 ?_
  refine k_icmpeq (tgt := 18) hm dX6_carryOut_10 (by decide) (by omega) (fun c_12 => absurd c_12 (by omega)) (fun c_12 => ?_)
  refine k_bipush (n := -10) hm dX6_carryOut_13 rfl ?_
  refine k_iload_n hm hl 0 rfl dX6_carryOut_15 ?_
  refine k_isub hm dX6_carryOut_16 ?_
  exact k_iret (post := _) hm hQ rfl rfl hw (⟨_, _, _, _, _, _, _, _, rfl, rfl⟩) (by omega) (by omega) dX6_carryOut_17
set_option maxHeartbeats 4000000 in
set_option maxRecDepth 100000 in
theorem c_judged_ok (l : Launch) (G : kG) (o : Nat) (h : Nat) (T : Nat → Nat) (L : Nat → Nat) (M : Nat → Nat) (P : Nat → Nat) (gk : Nat → Nat) (gw : Nat → Nat) (gt : Nat → Nat) (gy : Nat → Nat) (R : Nat) (sp : Bool) (K : Nat → Nat → Nat) (w : Nat → Nat) (y : Nat → Nat) (tb : Nat → Nat) (tk : Nat → Int) (tc : Nat → Nat) (tn : Nat) (ti : Nat) (tt : Nat) (tu : Nat) (tm : Nat) (tp : Nat) (te : Int) (hok : POk gk gw gt gy R K w y) (htn : tn ≤ 120) (htb : ∀ i, i < tn → tb i ≤ 127) (hsy : synR tb tn 120 0 (-1)) : kCM l yX6_judged wsX6_judged 6 131 0 0 G [.ref (o)] (wMain G o P h T L M ++ (wPiece G P gk gw gt gy R sp ++ wPat G T tb tk tc tn ti tt tu tm tp te)) (fun vv uu => ∃ (tk2 : Nat → Int), ∃ (tc2 : Nat → Nat), ∃ (ti2 : Nat), ∃ (tt2 : Nat), ∃ (tu2 : Nat), ∃ (tm2 : Nat), ∃ (tp2 : Nat), ∃ (q : Nat), vv = some (vN (q)) ∧ uu = wMain G o P h T L M ++ (wPiece G P gk gw gt gy R sp ++ wPat G T tb tk2 tc2 tn ti2 tt2 tu2 tm2 tp2 (-1)) ∧ (ftS tb tn (40 - R) 0 (sumM (K (R - 1)) (w (R - 1))) q)) := by
  refine kCM.of (cc := cX6_judged) (maxL := 2) (ret := (some .int)) (by decide) rfl (Nat.le_of_ble_eq_true rfl) ?_
  intro p e s m args below meth c A ls Qz hQ hin hm hw hl
  have hl : lv_has ls 2 [(0, .ref (o))] := hl
  have i6 : ∀ w ∈ wsX60, w ∈ wsX6_judged := by decide +kernel
  refine k_aload_n hm hl 0 rfl dX6_judged_0 ?_
  refine k_get (T := TX6) hm hw 0 2 i6 rfl rfl (by decide) (by decide +kernel) rfl dX6_judged_1 ?_
  refine k_callV (n := 0) (As := []) (rest := []) (wr := [(o, .inr (6, [.ref (P 0), .ref (h), .ref (T 0), .ref (L 0), .ref (M 0)])), (P 0, .inr (4, [.ref (P 1), .ref (P 3), .ref (P 5), .ref (P 7), vN (R), vB (sp)])), (P 1, .inr (2, [.ref (P 2)])), (P 2, .inl (G.2 0, 4800, .inl (nF gk))), (P 3, .inr (2, [.ref (P 4)])), (P 4, .inl (G.2 0, 40, .inl (nF gw))), (P 5, .inr (2, [.ref (P 6)])), (P 6, .inl (G.2 0, 40, .inl (nF gt))), (P 7, .inr (2, [.ref (P 8)])), (P 8, .inl (G.2 0, 3, .inl (nF gy)))]) hm hw hl (c_syntaxError l G T tb tk tc tn ti tt tu tm tp te (by first | assumption | omega) (by first | assumption | omega)) gX6_judged_X3_syntaxError rfl (by decide +kernel) ⟨by decide, by decide⟩ (ci := 3) rfl 10 rfl [10, 11, 12, 13, 14, 15, 16] [0, 1, 2, 3, 4, 5, 6, 7, 8, 9] (by decide) rfl rfl (by decide) (by decide) rfl rfl (by simp [Value.category]) ⟨by decide, by decide⟩ dX6_judged_4 (fun v w1 H locs hp hw => ?_)
  obtain ⟨tk2_2, tc2_3, ti2_4, tt2_5, tu2_6, tm2_7, tp2_8, z_9, rfl, rfl, hs_10, hz_11⟩ := hp
  have hw := hw.sub (ws' := wMain G o P h T L M ++ (wPiece G P gk gw gt gy R sp ++ wPat G T tb tk2_2 tc2_3 tn ti2_4 tt2_5 tu2_6 tm2_7 tp2_8 z_9)) [0, 1, 2, 3, 4, 5, 6, 7, 8, 9, 10, 11, 12, 13, 14, 15, 16] (by decide) rfl
  refine W.eq (g2 := F0 m 7 ls [vZ (z_9)]) rfl ?_
  have hs9 := hs_10
  refine k_rwV (y := vZ (-1)) (by rw [synR_u hs9 hsy]) ?_
  have he9 := synR_u hs9 hsy
  subst he9
  refine k_istore_n hm hl [(1, vZ (-1)), (0, .ref (o))] (by decide) rfl dX6_judged_7 (fun ls hl => ?_)
  refine k_iload_n hm hl 0 rfl dX6_judged_8 ?_
  refine k_iconst (n := -1) hm dX6_judged_9 ?_
  refine k_icmpne (tgt := 20) hm dX6_judged_10 (by decide) (by omega) (fun c_12 => absurd c_12 (by omega)) (fun c_12 => ?_)
  refine k_aload_n hm hl 1 rfl dX6_judged_13 ?_
  refine k_callV (n := 0) (As := []) (rest := []) (wr := []) hm hw hl (c_fittingRounds l G o h T L M P gk gw gt gy R sp K w y tb tk2_2 tc2_3 tn ti2_4 tt2_5 tu2_6 tm2_7 tp2_8 (-1) (by first | assumption | omega) (by first | assumption | omega) (by first | assumption | omega) (by first | assumption | omega)) gX6_judged_X6_fittingRounds rfl (by decide +kernel) ⟨by decide, by decide⟩ (ci := 6) rfl 0 rfl [0, 1, 2, 3, 4, 5, 6, 7, 8, 9, 10, 11, 12, 13, 14, 15, 16] [] (by decide) rfl rfl (by decide) (by decide) rfl rfl (by simp [Value.category]) ⟨by decide, by decide⟩ dX6_judged_14 (fun v w1 H locs hp hw => ?_)
  obtain ⟨tk2_14, tc2_15, ti2_16, tt2_17, tu2_18, tm2_19, tp2_20, q_21, rfl, rfl, hq_22⟩ := hp
  have hw := hw.sub (ws' := wMain G o P h T L M ++ (wPiece G P gk gw gt gy R sp ++ wPat G T tb tk2_14 tc2_15 tn ti2_16 tt2_17 tu2_18 tm2_19 tp2_20 (-1))) [0, 1, 2, 3, 4, 5, 6, 7, 8, 9, 10, 11, 12, 13, 14, 15, 16] (by decide) rfl
  refine W.eq (g2 := F0 m 17 ls [vN (q_21)]) rfl ?_
  refine k_goto (tgt := 24) hm dX6_judged_17 (by decide) ?_
  exact k_iret (post := _) hm hQ rfl rfl hw (⟨_, _, _, _, _, _, _, _, rfl, rfl, hq_22⟩) (by omega) (by omega) dX6_judged_24
set_option maxHeartbeats 4000000 in
set_option maxRecDepth 100000 in
theorem c_carryOut_ok (l : Launch) (G : kG) (o : Nat) (T : Nat → Nat) (L : Nat → Nat) (M : Nat → Nat) (P : Nat → Nat) (gk : Nat → Nat) (gw : Nat → Nat) (gt : Nat → Nat) (gy : Nat → Nat) (R : Nat) (sp : Bool) (h : Nat) (hs : Nat) (Q : Nat → Nat → Nat) (ak : Nat → Nat → Nat) (aw : Nat → Nat → Nat) (au : Nat → Nat → Nat) (ay : Nat → Nat → Nat) (aR : Nat → Nat) (aS : Nat → Bool) (nx : Nat) (sz : Nat) (K : Nat → Nat → Nat) (w : Nat → Nat) (y : Nat → Nat) (sv : Nat → PSt) (tb : Nat → Nat) (tk : Nat → Int) (tc : Nat → Nat) (tn : Nat) (ti : Nat) (tt : Nat) (tu : Nat) (tm : Nat) (tp : Nat) (te : Int) (hok : POk gk gw gt gy R K w y) (hho : HOk ak aw au ay aR aS nx sz sv) (htn : tn ≤ 120) (htb : ∀ i, i < tn → tb i ≤ 127) (hsy : synR tb tn 120 0 (-1)) : kCM l yX6_carryOut wsX6_carryOut 6 131 0 0 G [.ref (o)] (wMain G o P h T L M ++ (wPiece G P gk gw gt gy R sp ++ (wHist G h hs Q ak aw au ay aR aS nx sz ++ wPat G T tb tk tc tn ti tt tu tm tp te))) (fun vv uu => ∃ (tk2 : Nat → Int), ∃ (tc2 : Nat → Nat), ∃ (ti2 : Nat), ∃ (tt2 : Nat), ∃ (tu2 : Nat), ∃ (tm2 : Nat), ∃ (tp2 : Nat), ∃ (q : Nat), ∃ (K2 : Nat → Nat → Nat), ∃ (w2 : Nat → Nat), ∃ (gk2 : Nat → Nat), ∃ (gw2 : Nat → Nat), ∃ (gt2 : Nat → Nat), ∃ (ak2 : Nat → Nat → Nat), ∃ (aw2 : Nat → Nat → Nat), ∃ (au2 : Nat → Nat → Nat), ∃ (ay2 : Nat → Nat → Nat), ∃ (aR2 : Nat → Nat), ∃ (aS2 : Nat → Bool), vv = some (vN (q)) ∧ uu = wMain G o P h T L M ++ (wPiece G P gk2 gw2 gt2 gy (R + q) sp ++ (wHist G h hs Q ak2 aw2 au2 ay2 aR2 aS2 ((nx + 1) % 4) (Nat.min (sz + 1) 4) ++ wPat G T tb tk2 tc2 tn ti2 tt2 tu2 tm2 tp2 (-1))) ∧ (ftS tb tn (40 - R) 0 (sumM (K (R - 1)) (w (R - 1))) q) ∧ (cyS tb tn q 0 R K w K2 w2) ∧ (POk gk2 gw2 gt2 gy (R + q) K2 w2 y) ∧ (HOk ak2 aw2 au2 ay2 aR2 aS2 ((nx + 1) % 4) (Nat.min (sz + 1) 4) (svPush (R, sp, K, w, y) sv))) := by
  refine kCM.of (cc := cX6_carryOut) (maxL := 4) (ret := (some .int)) (by decide) rfl (Nat.le_of_ble_eq_true rfl) ?_
  intro p e s m args below meth c A ls Qz hQ hin hm hw hl
  have hl : lv_has ls 4 [(0, .ref (o))] := hl
  have i6 : ∀ w ∈ wsX60, w ∈ wsX6_carryOut := by decide +kernel
  have hR := hok.1.1
  refine k_aload_n hm hl 0 rfl dX6_carryOut_0 ?_
  refine k_get (T := TX6) hm hw 0 2 i6 rfl rfl (by decide) (by decide +kernel) rfl dX6_carryOut_1 ?_
  refine k_callV (n := 0) (As := []) (rest := []) (wr := [(o, .inr (6, [.ref (P 0), .ref (h), .ref (T 0), .ref (L 0), .ref (M 0)])), (P 0, .inr (4, [.ref (P 1), .ref (P 3), .ref (P 5), .ref (P 7), vN (R), vB (sp)])), (P 1, .inr (2, [.ref (P 2)])), (P 2, .inl (G.2 0, 4800, .inl (nF gk))), (P 3, .inr (2, [.ref (P 4)])), (P 4, .inl (G.2 0, 40, .inl (nF gw))), (P 5, .inr (2, [.ref (P 6)])), (P 6, .inl (G.2 0, 40, .inl (nF gt))), (P 7, .inr (2, [.ref (P 8)])), (P 8, .inl (G.2 0, 3, .inl (nF gy))), (h, .inr (0, [.ref (hs), vN (nx), vN (sz)])), (hs, .inl (G.2 2, 4, .inr (.inr (.inr (.inr (fun j => some (Q j 0))))))), ((Q 0) 0, .inr (4, [.ref ((Q 0) 1), .ref ((Q 0) 3), .ref ((Q 0) 5), .ref ((Q 0) 7), vN (aR 0), vB (aS 0)])), ((Q 0) 1, .inr (2, [.ref ((Q 0) 2)])), ((Q 0) 2, .inl (G.2 0, 4800, .inl (nF (ak 0)))), ((Q 0) 3, .inr (2, [.ref ((Q 0) 4)])), ((Q 0) 4, .inl (G.2 0, 40, .inl (nF (aw 0)))), ((Q 0) 5, .inr (2, [.ref ((Q 0) 6)])), ((Q 0) 6, .inl (G.2 0, 40, .inl (nF (au 0)))), ((Q 0) 7, .inr (2, [.ref ((Q 0) 8)])), ((Q 0) 8, .inl (G.2 0, 3, .inl (nF (ay 0)))), ((Q 1) 0, .inr (4, [.ref ((Q 1) 1), .ref ((Q 1) 3), .ref ((Q 1) 5), .ref ((Q 1) 7), vN (aR 1), vB (aS 1)])), ((Q 1) 1, .inr (2, [.ref ((Q 1) 2)])), ((Q 1) 2, .inl (G.2 0, 4800, .inl (nF (ak 1)))), ((Q 1) 3, .inr (2, [.ref ((Q 1) 4)])), ((Q 1) 4, .inl (G.2 0, 40, .inl (nF (aw 1)))), ((Q 1) 5, .inr (2, [.ref ((Q 1) 6)])), ((Q 1) 6, .inl (G.2 0, 40, .inl (nF (au 1)))), ((Q 1) 7, .inr (2, [.ref ((Q 1) 8)])), ((Q 1) 8, .inl (G.2 0, 3, .inl (nF (ay 1)))), ((Q 2) 0, .inr (4, [.ref ((Q 2) 1), .ref ((Q 2) 3), .ref ((Q 2) 5), .ref ((Q 2) 7), vN (aR 2), vB (aS 2)])), ((Q 2) 1, .inr (2, [.ref ((Q 2) 2)])), ((Q 2) 2, .inl (G.2 0, 4800, .inl (nF (ak 2)))), ((Q 2) 3, .inr (2, [.ref ((Q 2) 4)])), ((Q 2) 4, .inl (G.2 0, 40, .inl (nF (aw 2)))), ((Q 2) 5, .inr (2, [.ref ((Q 2) 6)])), ((Q 2) 6, .inl (G.2 0, 40, .inl (nF (au 2)))), ((Q 2) 7, .inr (2, [.ref ((Q 2) 8)])), ((Q 2) 8, .inl (G.2 0, 3, .inl (nF (ay 2)))), ((Q 3) 0, .inr (4, [.ref ((Q 3) 1), .ref ((Q 3) 3), .ref ((Q 3) 5), .ref ((Q 3) 7), vN (aR 3), vB (aS 3)])), ((Q 3) 1, .inr (2, [.ref ((Q 3) 2)])), ((Q 3) 2, .inl (G.2 0, 4800, .inl (nF (ak 3)))), ((Q 3) 3, .inr (2, [.ref ((Q 3) 4)])), ((Q 3) 4, .inl (G.2 0, 40, .inl (nF (aw 3)))), ((Q 3) 5, .inr (2, [.ref ((Q 3) 6)])), ((Q 3) 6, .inl (G.2 0, 40, .inl (nF (au 3)))), ((Q 3) 7, .inr (2, [.ref ((Q 3) 8)])), ((Q 3) 8, .inl (G.2 0, 3, .inl (nF (ay 3))))]) hm hw hl (c_syntaxError l G T tb tk tc tn ti tt tu tm tp te (by first | assumption | omega) (by first | assumption | omega)) gX6_carryOut_X3_syntaxError rfl (by decide +kernel) ⟨by decide, by decide⟩ (ci := 3) rfl 48 rfl [48, 49, 50, 51, 52, 53, 54] [0, 1, 2, 3, 4, 5, 6, 7, 8, 9, 10, 11, 12, 13, 14, 15, 16, 17, 18, 19, 20, 21, 22, 23, 24, 25, 26, 27, 28, 29, 30, 31, 32, 33, 34, 35, 36, 37, 38, 39, 40, 41, 42, 43, 44, 45, 46, 47] (by decide) rfl rfl (by decide) (by decide) rfl rfl (by simp [Value.category]) ⟨by decide, by decide⟩ dX6_carryOut_4 (fun v w1 H locs hp hw => ?_)
  obtain ⟨tk2_2, tc2_3, ti2_4, tt2_5, tu2_6, tm2_7, tp2_8, z_9, rfl, rfl, hs_10, hz_11⟩ := hp
  have hw := hw.sub (ws' := wMain G o P h T L M ++ (wPiece G P gk gw gt gy R sp ++ (wHist G h hs Q ak aw au ay aR aS nx sz ++ wPat G T tb tk2_2 tc2_3 tn ti2_4 tt2_5 tu2_6 tm2_7 tp2_8 z_9))) [0, 1, 2, 3, 4, 5, 6, 7, 8, 9, 10, 11, 12, 13, 14, 15, 16, 17, 18, 19, 20, 21, 22, 23, 24, 25, 26, 27, 28, 29, 30, 31, 32, 33, 34, 35, 36, 37, 38, 39, 40, 41, 42, 43, 44, 45, 46, 47, 48, 49, 50, 51, 52, 53, 54] (by decide) rfl
  refine W.eq (g2 := F0 m 7 ls [vZ (z_9)]) rfl ?_
  have hs9 := hs_10
  refine k_rwV (y := vZ (-1)) (by rw [synR_u hs9 hsy]) ?_
  have he9 := synR_u hs9 hsy
  subst he9
  refine k_istore_n hm hl [(1, vZ (-1)), (0, .ref (o))] (by decide) rfl dX6_carryOut_7 (fun ls hl => ?_)
  refine k_iload_n hm hl 0 rfl dX6_carryOut_8 ?_
  refine k_iconst (n := -1) hm dX6_carryOut_9 ?_
  refine k_icmpeq (tgt := 18) hm dX6_carryOut_10 (by decide) (by omega) (fun c_12 => ?_) (fun c_12 => absurd c_12 (by omega))
  refine k_aload_n hm hl 1 rfl dX6_carryOut_18 ?_
  refine k_get (T := TX6) hm hw 0 1 i6 rfl rfl (by decide) (by decide +kernel) rfl dX6_carryOut_19 ?_
  refine k_aload_n hm hl 1 rfl dX6_carryOut_22 ?_
  refine k_get (T := TX6) hm hw 0 0 i6 rfl rfl (by decide) (by decide +kernel) rfl dX6_carryOut_23 ?_
  refine k_callV (n := 1) (As := [.ref (P 0)]) (rest := []) (wr := [(o, .inr (6, [.ref (P 0), .ref (h), .ref (T 0), .ref (L 0), .ref (M 0)])), (T 0, .inr (3, [.ref (T 1), .ref (T 3), .ref (T 5), vN (tn), vN (ti2_4), vN (tt2_5), vN (tu2_6), vN (tm2_7), vN (tp2_8), vZ (-1)])), (T 1, .inr (2, [.ref (T 2)])), (T 2, .inl (G.2 0, 120, .inl (nF tb))), (T 3, .inr (2, [.ref (T 4)])), (T 4, .inl (G.2 0, 60, .inl (iF tk2_2))), (T 5, .inr (2, [.ref (T 6)])), (T 6, .inl (G.2 0, 60, .inl (nF tc2_3)))]) hm hw hl (c_keep l G h hs Q ak aw au ay aR aS nx sz P gk gw gt gy R sp K w y sv (by first | assumption | omega) (by first | assumption | omega)) gX6_carryOut_X0_keep rfl (by decide +kernel) ⟨by decide, by decide⟩ (ci := 0) rfl 10 rfl [10, 11, 12, 13, 14, 15, 16, 17, 18, 19, 20, 21, 22, 23, 24, 25, 26, 27, 28, 29, 30, 31, 32, 33, 34, 35, 36, 37, 38, 39, 40, 41, 42, 43, 44, 45, 46, 47, 1, 2, 3, 4, 5, 6, 7, 8, 9] [0, 48, 49, 50, 51, 52, 53, 54] (by decide) rfl rfl (by decide) (by decide) rfl rfl (by simp [Value.category]) ⟨by decide, by decide⟩ dX6_carryOut_26 (fun v w1 H locs hp hw => ?_)
  obtain ⟨ak2_14, aw2_15, au2_16, ay2_17, aR2_18, aS2_19, rfl, rfl, hho2_20⟩ := hp
  have hw := hw.sub (ws' := wMain G o P h T L M ++ (wPiece G P gk gw gt gy R sp ++ (wHist G h hs Q ak2_14 aw2_15 au2_16 ay2_17 aR2_18 aS2_19 ((nx + 1) % 4) (Nat.min (sz + 1) 4) ++ wPat G T tb tk2_2 tc2_3 tn ti2_4 tt2_5 tu2_6 tm2_7 tp2_8 (-1)))) [0, 46, 47, 48, 49, 50, 51, 52, 53, 54, 8, 9, 10, 11, 12, 13, 14, 15, 16, 17, 18, 19, 20, 21, 22, 23, 24, 25, 26, 27, 28, 29, 30, 31, 32, 33, 34, 35, 36, 37, 38, 39, 40, 41, 42, 43, 44, 45, 1, 2, 3, 4, 5, 6, 7] (by decide) rfl
  refine W.eq (g2 := F0 m 29 ls []) rfl ?_
  have hho2 := hho2_20
  refine k_aload_n hm hl 1 rfl dX6_carryOut_29 ?_
  refine k_callV (n := 0) (As := []) (rest := []) (wr := [(h, .inr (0, [.ref (hs), vN ((nx + 1) % 4), vN (Nat.min (sz + 1) 4)])), (hs, .inl (G.2 2, 4, .inr (.inr (.inr (.inr (fun j => some (Q j 0))))))), ((Q 0) 0, .inr (4, [.ref ((Q 0) 1), .ref ((Q 0) 3), .ref ((Q 0) 5), .ref ((Q 0) 7), vN (aR2_18 0), vB (aS2_19 0)])), ((Q 0) 1, .inr (2, [.ref ((Q 0) 2)])), ((Q 0) 2, .inl (G.2 0, 4800, .inl (nF (ak2_14 0)))), ((Q 0) 3, .inr (2, [.ref ((Q 0) 4)])), ((Q 0) 4, .inl (G.2 0, 40, .inl (nF (aw2_15 0)))), ((Q 0) 5, .inr (2, [.ref ((Q 0) 6)])), ((Q 0) 6, .inl (G.2 0, 40, .inl (nF (au2_16 0)))), ((Q 0) 7, .inr (2, [.ref ((Q 0) 8)])), ((Q 0) 8, .inl (G.2 0, 3, .inl (nF (ay2_17 0)))), ((Q 1) 0, .inr (4, [.ref ((Q 1) 1), .ref ((Q 1) 3), .ref ((Q 1) 5), .ref ((Q 1) 7), vN (aR2_18 1), vB (aS2_19 1)])), ((Q 1) 1, .inr (2, [.ref ((Q 1) 2)])), ((Q 1) 2, .inl (G.2 0, 4800, .inl (nF (ak2_14 1)))), ((Q 1) 3, .inr (2, [.ref ((Q 1) 4)])), ((Q 1) 4, .inl (G.2 0, 40, .inl (nF (aw2_15 1)))), ((Q 1) 5, .inr (2, [.ref ((Q 1) 6)])), ((Q 1) 6, .inl (G.2 0, 40, .inl (nF (au2_16 1)))), ((Q 1) 7, .inr (2, [.ref ((Q 1) 8)])), ((Q 1) 8, .inl (G.2 0, 3, .inl (nF (ay2_17 1)))), ((Q 2) 0, .inr (4, [.ref ((Q 2) 1), .ref ((Q 2) 3), .ref ((Q 2) 5), .ref ((Q 2) 7), vN (aR2_18 2), vB (aS2_19 2)])), ((Q 2) 1, .inr (2, [.ref ((Q 2) 2)])), ((Q 2) 2, .inl (G.2 0, 4800, .inl (nF (ak2_14 2)))), ((Q 2) 3, .inr (2, [.ref ((Q 2) 4)])), ((Q 2) 4, .inl (G.2 0, 40, .inl (nF (aw2_15 2)))), ((Q 2) 5, .inr (2, [.ref ((Q 2) 6)])), ((Q 2) 6, .inl (G.2 0, 40, .inl (nF (au2_16 2)))), ((Q 2) 7, .inr (2, [.ref ((Q 2) 8)])), ((Q 2) 8, .inl (G.2 0, 3, .inl (nF (ay2_17 2)))), ((Q 3) 0, .inr (4, [.ref ((Q 3) 1), .ref ((Q 3) 3), .ref ((Q 3) 5), .ref ((Q 3) 7), vN (aR2_18 3), vB (aS2_19 3)])), ((Q 3) 1, .inr (2, [.ref ((Q 3) 2)])), ((Q 3) 2, .inl (G.2 0, 4800, .inl (nF (ak2_14 3)))), ((Q 3) 3, .inr (2, [.ref ((Q 3) 4)])), ((Q 3) 4, .inl (G.2 0, 40, .inl (nF (aw2_15 3)))), ((Q 3) 5, .inr (2, [.ref ((Q 3) 6)])), ((Q 3) 6, .inl (G.2 0, 40, .inl (nF (au2_16 3)))), ((Q 3) 7, .inr (2, [.ref ((Q 3) 8)])), ((Q 3) 8, .inl (G.2 0, 3, .inl (nF (ay2_17 3))))]) hm hw hl (c_fittingRounds l G o h T L M P gk gw gt gy R sp K w y tb tk2_2 tc2_3 tn ti2_4 tt2_5 tu2_6 tm2_7 tp2_8 (-1) (by first | assumption | omega) (by first | assumption | omega) (by first | assumption | omega) (by first | assumption | omega)) gX6_carryOut_X6_fittingRounds rfl (by decide +kernel) ⟨by decide, by decide⟩ (ci := 6) rfl 0 rfl [0, 1, 2, 3, 4, 5, 6, 7, 8, 9, 48, 49, 50, 51, 52, 53, 54] [10, 11, 12, 13, 14, 15, 16, 17, 18, 19, 20, 21, 22, 23, 24, 25, 26, 27, 28, 29, 30, 31, 32, 33, 34, 35, 36, 37, 38, 39, 40, 41, 42, 43, 44, 45, 46, 47] (by decide) rfl rfl (by decide) (by decide) rfl rfl (by simp [Value.category]) ⟨by decide, by decide⟩ dX6_carryOut_30 (fun v w1 H locs hp hw => ?_)
  obtain ⟨tk2_22, tc2_23, ti2_24, tt2_25, tu2_26, tm2_27, tp2_28, q_29, rfl, rfl, hq_30⟩ := hp
  have hw := hw.sub (ws' := wMain G o P h T L M ++ (wPiece G P gk gw gt gy R sp ++ (wHist G h hs Q ak2_14 aw2_15 au2_16 ay2_17 aR2_18 aS2_19 ((nx + 1) % 4) (Nat.min (sz + 1) 4) ++ wPat G T tb tk2_22 tc2_23 tn ti2_24 tt2_25 tu2_26 tm2_27 tp2_28 (-1)))) [38, 39, 40, 41, 42, 43, 44, 45, 46, 47, 0, 1, 2, 3, 4, 5, 6, 7, 8, 9, 10, 11, 12, 13, 14, 15, 16, 17, 18, 19, 20, 21, 22, 23, 24, 25, 26, 27, 28, 29, 30, 31, 32, 33, 34, 35, 36, 37, 48, 49, 50, 51, 52, 53, 54] (by decide) rfl
  refine W.eq (g2 := F0 m 33 ls [vN (q_29)]) rfl ?_
  have hq9 := hq_30
  have hq7 := ftS_le hq9
  refine k_istore_n hm hl [(2, vN (q_29)), (1, vZ (-1)), (0, .ref (o))] (by decide) rfl dX6_carryOut_33 (fun ls hl => ?_)
  refine k_aload_n hm hl 2 rfl dX6_carryOut_34 ?_
  refine k_get (T := TX6) hm hw 0 2 i6 rfl rfl (by decide) (by decide +kernel) rfl dX6_carryOut_35 ?_
  refine k_callV (n := 0) (As := []) (rest := []) (wr := [(o, .inr (6, [.ref (P 0), .ref (h), .ref (T 0), .ref (L 0), .ref (M 0)])), (P 0, .inr (4, [.ref (P 1), .ref (P 3), .ref (P 5), .ref (P 7), vN (R), vB (sp)])), (P 1, .inr (2, [.ref (P 2)])), (P 2, .inl (G.2 0, 4800, .inl (nF gk))), (P 3, .inr (2, [.ref (P 4)])), (P 4, .inl (G.2 0, 40, .inl (nF gw))), (P 5, .inr (2, [.ref (P 6)])), (P 6, .inl (G.2 0, 40, .inl (nF gt))), (P 7, .inr (2, [.ref (P 8)])), (P 8, .inl (G.2 0, 3, .inl (nF gy))), (h, .inr (0, [.ref (hs), vN ((nx + 1) % 4), vN (Nat.min (sz + 1) 4)])), (hs, .inl (G.2 2, 4, .inr (.inr (.inr (.inr (fun j => some (Q j 0))))))), ((Q 0) 0, .inr (4, [.ref ((Q 0) 1), .ref ((Q 0) 3), .ref ((Q 0) 5), .ref ((Q 0) 7), vN (aR2_18 0), vB (aS2_19 0)])), ((Q 0) 1, .inr (2, [.ref ((Q 0) 2)])), ((Q 0) 2, .inl (G.2 0, 4800, .inl (nF (ak2_14 0)))), ((Q 0) 3, .inr (2, [.ref ((Q 0) 4)])), ((Q 0) 4, .inl (G.2 0, 40, .inl (nF (aw2_15 0)))), ((Q 0) 5, .inr (2, [.ref ((Q 0) 6)])), ((Q 0) 6, .inl (G.2 0, 40, .inl (nF (au2_16 0)))), ((Q 0) 7, .inr (2, [.ref ((Q 0) 8)])), ((Q 0) 8, .inl (G.2 0, 3, .inl (nF (ay2_17 0)))), ((Q 1) 0, .inr (4, [.ref ((Q 1) 1), .ref ((Q 1) 3), .ref ((Q 1) 5), .ref ((Q 1) 7), vN (aR2_18 1), vB (aS2_19 1)])), ((Q 1) 1, .inr (2, [.ref ((Q 1) 2)])), ((Q 1) 2, .inl (G.2 0, 4800, .inl (nF (ak2_14 1)))), ((Q 1) 3, .inr (2, [.ref ((Q 1) 4)])), ((Q 1) 4, .inl (G.2 0, 40, .inl (nF (aw2_15 1)))), ((Q 1) 5, .inr (2, [.ref ((Q 1) 6)])), ((Q 1) 6, .inl (G.2 0, 40, .inl (nF (au2_16 1)))), ((Q 1) 7, .inr (2, [.ref ((Q 1) 8)])), ((Q 1) 8, .inl (G.2 0, 3, .inl (nF (ay2_17 1)))), ((Q 2) 0, .inr (4, [.ref ((Q 2) 1), .ref ((Q 2) 3), .ref ((Q 2) 5), .ref ((Q 2) 7), vN (aR2_18 2), vB (aS2_19 2)])), ((Q 2) 1, .inr (2, [.ref ((Q 2) 2)])), ((Q 2) 2, .inl (G.2 0, 4800, .inl (nF (ak2_14 2)))), ((Q 2) 3, .inr (2, [.ref ((Q 2) 4)])), ((Q 2) 4, .inl (G.2 0, 40, .inl (nF (aw2_15 2)))), ((Q 2) 5, .inr (2, [.ref ((Q 2) 6)])), ((Q 2) 6, .inl (G.2 0, 40, .inl (nF (au2_16 2)))), ((Q 2) 7, .inr (2, [.ref ((Q 2) 8)])), ((Q 2) 8, .inl (G.2 0, 3, .inl (nF (ay2_17 2)))), ((Q 3) 0, .inr (4, [.ref ((Q 3) 1), .ref ((Q 3) 3), .ref ((Q 3) 5), .ref ((Q 3) 7), vN (aR2_18 3), vB (aS2_19 3)])), ((Q 3) 1, .inr (2, [.ref ((Q 3) 2)])), ((Q 3) 2, .inl (G.2 0, 4800, .inl (nF (ak2_14 3)))), ((Q 3) 3, .inr (2, [.ref ((Q 3) 4)])), ((Q 3) 4, .inl (G.2 0, 40, .inl (nF (aw2_15 3)))), ((Q 3) 5, .inr (2, [.ref ((Q 3) 6)])), ((Q 3) 6, .inl (G.2 0, 40, .inl (nF (au2_16 3)))), ((Q 3) 7, .inr (2, [.ref ((Q 3) 8)])), ((Q 3) 8, .inl (G.2 0, 3, .inl (nF (ay2_17 3))))]) hm hw hl (c_rewind l G T tb tk2_22 tc2_23 tn ti2_24 tt2_25 tu2_26 tm2_27 tp2_28 (-1)) gX6_carryOut_X3_rewind rfl (by decide +kernel) ⟨by decide, by decide⟩ (ci := 3) rfl 48 rfl [48, 49, 50, 51, 52, 53, 54] [0, 1, 2, 3, 4, 5, 6, 7, 8, 9, 10, 11, 12, 13, 14, 15, 16, 17, 18, 19, 20, 21, 22, 23, 24, 25, 26, 27, 28, 29, 30, 31, 32, 33, 34, 35, 36, 37, 38, 39, 40, 41, 42, 43, 44, 45, 46, 47] (by decide) rfl rfl (by decide) (by decide) rfl rfl (by simp [Value.category]) ⟨by decide, by decide⟩ dX6_carryOut_38 (fun v w1 H locs hp hw => ?_)
  obtain ⟨rfl, rfl⟩ := hp
  have hw := hw.sub (ws' := wMain G o P h T L M ++ (wPiece G P gk gw gt gy R sp ++ (wHist G h hs Q ak2_14 aw2_15 au2_16 ay2_17 aR2_18 aS2_19 ((nx + 1) % 4) (Nat.min (sz + 1) 4) ++ wPat G T tb tk2_22 tc2_23 tn ti2_24 tt2_25 tu2_26 tm2_27 0 (-1)))) [0, 1, 2, 3, 4, 5, 6, 7, 8, 9, 10, 11, 12, 13, 14, 15, 16, 17, 18, 19, 20, 21, 22, 23, 24, 25, 26, 27, 28, 29, 30, 31, 32, 33, 34, 35, 36, 37, 38, 39, 40, 41, 42, 43, 44, 45, 46, 47, 48, 49, 50, 51, 52, 53, 54] (by decide) rfl
  refine W.eq (g2 := F0 m 41 ls []) rfl ?_
  refine k_iconstN hm 0 dX6_carryOut_41 ?_
  refine k_istore_n hm hl [(3, vN (0)), (2, vN (q_29)), (1, vZ (-1)), (0, .ref (o))] (by decide) rfl dX6_carryOut_42 (fun ls hl => ?_)
  have loop_43 : ∀ (fu : Nat) (i : Nat) (gk1 : Nat → Nat) (gw1 : Nat → Nat) (gt1 : Nat → Nat) (R1 : Nat) (K1 : Nat → Nat → Nat) (w1 : Nat → Nat) (tk1 : Nat → Int) (tc1 : Nat → Nat) (ti1 : Nat) (tt1 : Nat) (tu1 : Nat) (tm1 : Nat) (p1 : Nat) (hi : i ≤ q_29 ∧ p1 ≤ tn) (hR1 : R1 = R + i) (hok1 : POk gk1 gw1 gt1 gy R1 K1 w1 y) (hft : ftS tb tn (40 - R1) p1 (sumM (K1 (R1 - 1)) (w1 (R1 - 1))) (q_29 - i)) (hcc : ∀ K2 w2, cyS tb tn (q_29 - i) p1 R1 K1 w1 K2 w2 → cyS tb tn q_29 0 R K w K2 w2) (H : Heap) (locs : List Loc) (ls : Array Slot), q_29 - i < fu → kW G A s (wMain G o P h T L M ++ (wPiece G P gk1 gw1 gt1 gy R1 sp ++ (wHist G h hs Q ak2_14 aw2_15 au2_16 ay2_17 aR2_18 aS2_19 ((nx + 1) % 4) (Nat.min (sz + 1) 4) ++ wPat G T tb tk1 tc1 tn ti1 tt1 tu1 tm1 p1 (-1)))) H locs → lv_has ls 4 [(0, .ref (o)), (2, vN (q_29)), (3, vN (i))] → W p l e { frames := 6, cells := 0, slots := 0, locals := 131 } s m args below meth c H locs 0 0 Qz (F0 m 43 ls []) := by
    intro fu
    induction fu with
    | zero => intro i gk1 gw1 gt1 R1 K1 w1 tk1 tc1 ti1 tt1 tu1 tm1 p1 hi hR1 hok1 hft hcc H locs ls hfu; exact absurd hfu (Nat.not_lt_zero _)
    | succ fu ih_43 =>
      intro i gk1 gw1 gt1 R1 K1 w1 tk1 tc1 ti1 tt1 tu1 tm1 p1 hi hR1 hok1 hft hcc H locs ls hfu hw hl
      refine k_iload_n hm hl 2 rfl dX6_carryOut_43 ?_
      refine k_iload_n hm hl 1 rfl dX6_carryOut_44 ?_
      refine k_icmpge (tgt := 65) hm dX6_carryOut_45 (by decide) (by omega) (fun c_32 => ?_) (fun c_32 => ?_)
      · refine k_iload_n hm hl 1 rfl dX6_carryOut_65 ?_
        exact k_iret (post := _) hm hQ rfl rfl hw (⟨_, _, _, _, _, _, _, q_29, K1, w1, _, _, _, _, _, _, _, _, _, rfl, by rw [show R + q_29 = R1 by omega], hq9, hcc K1 w1 (by rw [show q_29 - i = 0 by omega]; exact ⟨rfl, rfl⟩), by rw [show R + q_29 = R1 by omega]; exact hok1, hho2⟩) (by omega) (by omega) dX6_carryOut_66
      · refine k_aload_n hm hl 0 rfl dX6_carryOut_48 ?_
        refine k_get (T := TX6) hm hw 0 2 i6 rfl rfl (by decide) (by decide +kernel) rfl dX6_carryOut_49 ?_
        refine k_callV (n := 0) (As := []) (rest := []) (wr := [(o, .inr (6, [.ref (P 0), .ref (h), .ref (T 0), .ref (L 0), .ref (M 0)])), (P 0, .inr (4, [.ref (P 1), .ref (P 3), .ref (P 5), .ref (P 7), vN (R1), vB (sp)])), (P 1, .inr (2, [.ref (P 2)])), (P 2, .inl (G.2 0, 4800, .inl (nF gk1))), (P 3, .inr (2, [.ref (P 4)])), (P 4, .inl (G.2 0, 40, .inl (nF gw1))), (P 5, .inr (2, [.ref (P 6)])), (P 6, .inl (G.2 0, 40, .inl (nF gt1))), (P 7, .inr (2, [.ref (P 8)])), (P 8, .inl (G.2 0, 3, .inl (nF gy))), (h, .inr (0, [.ref (hs), vN ((nx + 1) % 4), vN (Nat.min (sz + 1) 4)])), (hs, .inl (G.2 2, 4, .inr (.inr (.inr (.inr (fun j => some (Q j 0))))))), ((Q 0) 0, .inr (4, [.ref ((Q 0) 1), .ref ((Q 0) 3), .ref ((Q 0) 5), .ref ((Q 0) 7), vN (aR2_18 0), vB (aS2_19 0)])), ((Q 0) 1, .inr (2, [.ref ((Q 0) 2)])), ((Q 0) 2, .inl (G.2 0, 4800, .inl (nF (ak2_14 0)))), ((Q 0) 3, .inr (2, [.ref ((Q 0) 4)])), ((Q 0) 4, .inl (G.2 0, 40, .inl (nF (aw2_15 0)))), ((Q 0) 5, .inr (2, [.ref ((Q 0) 6)])), ((Q 0) 6, .inl (G.2 0, 40, .inl (nF (au2_16 0)))), ((Q 0) 7, .inr (2, [.ref ((Q 0) 8)])), ((Q 0) 8, .inl (G.2 0, 3, .inl (nF (ay2_17 0)))), ((Q 1) 0, .inr (4, [.ref ((Q 1) 1), .ref ((Q 1) 3), .ref ((Q 1) 5), .ref ((Q 1) 7), vN (aR2_18 1), vB (aS2_19 1)])), ((Q 1) 1, .inr (2, [.ref ((Q 1) 2)])), ((Q 1) 2, .inl (G.2 0, 4800, .inl (nF (ak2_14 1)))), ((Q 1) 3, .inr (2, [.ref ((Q 1) 4)])), ((Q 1) 4, .inl (G.2 0, 40, .inl (nF (aw2_15 1)))), ((Q 1) 5, .inr (2, [.ref ((Q 1) 6)])), ((Q 1) 6, .inl (G.2 0, 40, .inl (nF (au2_16 1)))), ((Q 1) 7, .inr (2, [.ref ((Q 1) 8)])), ((Q 1) 8, .inl (G.2 0, 3, .inl (nF (ay2_17 1)))), ((Q 2) 0, .inr (4, [.ref ((Q 2) 1), .ref ((Q 2) 3), .ref ((Q 2) 5), .ref ((Q 2) 7), vN (aR2_18 2), vB (aS2_19 2)])), ((Q 2) 1, .inr (2, [.ref ((Q 2) 2)])), ((Q 2) 2, .inl (G.2 0, 4800, .inl (nF (ak2_14 2)))), ((Q 2) 3, .inr (2, [.ref ((Q 2) 4)])), ((Q 2) 4, .inl (G.2 0, 40, .inl (nF (aw2_15 2)))), ((Q 2) 5, .inr (2, [.ref ((Q 2) 6)])), ((Q 2) 6, .inl (G.2 0, 40, .inl (nF (au2_16 2)))), ((Q 2) 7, .inr (2, [.ref ((Q 2) 8)])), ((Q 2) 8, .inl (G.2 0, 3, .inl (nF (ay2_17 2)))), ((Q 3) 0, .inr (4, [.ref ((Q 3) 1), .ref ((Q 3) 3), .ref ((Q 3) 5), .ref ((Q 3) 7), vN (aR2_18 3), vB (aS2_19 3)])), ((Q 3) 1, .inr (2, [.ref ((Q 3) 2)])), ((Q 3) 2, .inl (G.2 0, 4800, .inl (nF (ak2_14 3)))), ((Q 3) 3, .inr (2, [.ref ((Q 3) 4)])), ((Q 3) 4, .inl (G.2 0, 40, .inl (nF (aw2_15 3)))), ((Q 3) 5, .inr (2, [.ref ((Q 3) 6)])), ((Q 3) 6, .inl (G.2 0, 40, .inl (nF (au2_16 3)))), ((Q 3) 7, .inr (2, [.ref ((Q 3) 8)])), ((Q 3) 8, .inl (G.2 0, 3, .inl (nF (ay2_17 3))))]) hm hw hl (c_readRound l G T tb tk1 tc1 tn ti1 tt1 tu1 tm1 p1 te (by first | assumption | omega) (by first | assumption | omega) (by first | assumption | omega)) gX6_carryOut_X3_readRound rfl (by decide +kernel) ⟨by decide, by decide⟩ (ci := 3) rfl 48 rfl [48, 49, 50, 51, 52, 53, 54] [0, 1, 2, 3, 4, 5, 6, 7, 8, 9, 10, 11, 12, 13, 14, 15, 16, 17, 18, 19, 20, 21, 22, 23, 24, 25, 26, 27, 28, 29, 30, 31, 32, 33, 34, 35, 36, 37, 38, 39, 40, 41, 42, 43, 44, 45, 46, 47] (by decide) rfl rfl (by decide) (by decide) rfl rfl (by simp [Value.category]) ⟨by decide, by decide⟩ dX6_carryOut_52 (fun v w1 H locs hp hw => ?_)
        obtain ⟨tk2_34, tc2_35, m2_36, t2_37, tu2_38, tm2_39, tp2_40, z2_41, rfl, rfl, hz_42⟩ := hp
        have hw := hw.sub (ws' := wMain G o P h T L M ++ (wPiece G P gk1 gw1 gt1 gy R1 sp ++ (wHist G h hs Q ak2_14 aw2_15 au2_16 ay2_17 aR2_18 aS2_19 ((nx + 1) % 4) (Nat.min (sz + 1) 4) ++ wPat G T tb tk2_34 tc2_35 tn m2_36 t2_37 tu2_38 tm2_39 tp2_40 z2_41))) [0, 1, 2, 3, 4, 5, 6, 7, 8, 9, 10, 11, 12, 13, 14, 15, 16, 17, 18, 19, 20, 21, 22, 23, 24, 25, 26, 27, 28, 29, 30, 31, 32, 33, 34, 35, 36, 37, 38, 39, 40, 41, 42, 43, 44, 45, 46, 47, 48, 49, 50, 51, 52, 53, 54] (by decide) rfl
        refine W.eq (g2 := F0 m 55 ls []) rfl ?_
        have hz9 := hz_42
        have hft8 : ftS tb tn (40 - R1) p1 (sumM (K1 (R1 - 1)) (w1 (R1 - 1))) (q_29 - i - 1 + 1) := by rw [show q_29 - i - 1 + 1 = q_29 - i by omega]; exact hft
        obtain ⟨m9, t9, q9, hrd⟩ := ftS_r hft8
        obtain ⟨e1, e2, e3, e4, e5, e6⟩ := hz9.resolve_right (fun z => rdOk_Er hrd z.1)
        obtain ⟨k2, hk2, hp9, hcd, hft9⟩ := ftS_s hft8 e2
        subst e1
        have hq8 := (rdOk_q (by omega) e2).resolve_right (by omega)
        have hfi := told_fit e2 hcd.2 hq8.2.2.1
        refine k_aload_n hm hl 0 rfl dX6_carryOut_55 ?_
        refine k_callV (n := 0) (As := []) (rest := []) (wr := [(h, .inr (0, [.ref (hs), vN ((nx + 1) % 4), vN (Nat.min (sz + 1) 4)])), (hs, .inl (G.2 2, 4, .inr (.inr (.inr (.inr (fun j => some (Q j 0))))))), ((Q 0) 0, .inr (4, [.ref ((Q 0) 1), .ref ((Q 0) 3), .ref ((Q 0) 5), .ref ((Q 0) 7), vN (aR2_18 0), vB (aS2_19 0)])), ((Q 0) 1, .inr (2, [.ref ((Q 0) 2)])), ((Q 0) 2, .inl (G.2 0, 4800, .inl (nF (ak2_14 0)))), ((Q 0) 3, .inr (2, [.ref ((Q 0) 4)])), ((Q 0) 4, .inl (G.2 0, 40, .inl (nF (aw2_15 0)))), ((Q 0) 5, .inr (2, [.ref ((Q 0) 6)])), ((Q 0) 6, .inl (G.2 0, 40, .inl (nF (au2_16 0)))), ((Q 0) 7, .inr (2, [.ref ((Q 0) 8)])), ((Q 0) 8, .inl (G.2 0, 3, .inl (nF (ay2_17 0)))), ((Q 1) 0, .inr (4, [.ref ((Q 1) 1), .ref ((Q 1) 3), .ref ((Q 1) 5), .ref ((Q 1) 7), vN (aR2_18 1), vB (aS2_19 1)])), ((Q 1) 1, .inr (2, [.ref ((Q 1) 2)])), ((Q 1) 2, .inl (G.2 0, 4800, .inl (nF (ak2_14 1)))), ((Q 1) 3, .inr (2, [.ref ((Q 1) 4)])), ((Q 1) 4, .inl (G.2 0, 40, .inl (nF (aw2_15 1)))), ((Q 1) 5, .inr (2, [.ref ((Q 1) 6)])), ((Q 1) 6, .inl (G.2 0, 40, .inl (nF (au2_16 1)))), ((Q 1) 7, .inr (2, [.ref ((Q 1) 8)])), ((Q 1) 8, .inl (G.2 0, 3, .inl (nF (ay2_17 1)))), ((Q 2) 0, .inr (4, [.ref ((Q 2) 1), .ref ((Q 2) 3), .ref ((Q 2) 5), .ref ((Q 2) 7), vN (aR2_18 2), vB (aS2_19 2)])), ((Q 2) 1, .inr (2, [.ref ((Q 2) 2)])), ((Q 2) 2, .inl (G.2 0, 4800, .inl (nF (ak2_14 2)))), ((Q 2) 3, .inr (2, [.ref ((Q 2) 4)])), ((Q 2) 4, .inl (G.2 0, 40, .inl (nF (aw2_15 2)))), ((Q 2) 5, .inr (2, [.ref ((Q 2) 6)])), ((Q 2) 6, .inl (G.2 0, 40, .inl (nF (au2_16 2)))), ((Q 2) 7, .inr (2, [.ref ((Q 2) 8)])), ((Q 2) 8, .inl (G.2 0, 3, .inl (nF (ay2_17 2)))), ((Q 3) 0, .inr (4, [.ref ((Q 3) 1), .ref ((Q 3) 3), .ref ((Q 3) 5), .ref ((Q 3) 7), vN (aR2_18 3), vB (aS2_19 3)])), ((Q 3) 1, .inr (2, [.ref ((Q 3) 2)])), ((Q 3) 2, .inl (G.2 0, 4800, .inl (nF (ak2_14 3)))), ((Q 3) 3, .inr (2, [.ref ((Q 3) 4)])), ((Q 3) 4, .inl (G.2 0, 40, .inl (nF (aw2_15 3)))), ((Q 3) 5, .inr (2, [.ref ((Q 3) 6)])), ((Q 3) 6, .inl (G.2 0, 40, .inl (nF (au2_16 3)))), ((Q 3) 7, .inr (2, [.ref ((Q 3) 8)])), ((Q 3) 8, .inl (G.2 0, 3, .inl (nF (ay2_17 3))))]) hm hw hl (c_addTold l G o h T L M P gk1 gw1 gt1 gy R1 sp K1 w1 y tb tk2_34 tc2_35 tn m2_36 t2_37 tu2_38 tm2_39 tp2_40 (-1) (kkF tb tn p1) (icF tb tn p1) (by first | assumption | omega) (by omega) ⟨e2.1, hq8.2.2.2.2, hq8.2.2.1, hq8.2.2.2.1⟩ (fun j q => ⟨by rw [(e6 j q).1]; exact (told_k (e2.2.1 j q)).1, (told_k (e2.2.1 j q)).2.1, (e6 j q).2, (told_k (e2.2.1 j q)).2.2.1⟩) hfi.1 hfi.2.1 (by rw [hfi.2.2.1]; exact hcd.1)) gX6_carryOut_X6_addTold rfl (by decide +kernel) ⟨by decide, by decide⟩ (ci := 6) rfl 0 rfl [0, 1, 2, 3, 4, 5, 6, 7, 8, 9, 48, 49, 50, 51, 52, 53, 54] [10, 11, 12, 13, 14, 15, 16, 17, 18, 19, 20, 21, 22, 23, 24, 25, 26, 27, 28, 29, 30, 31, 32, 33, 34, 35, 36, 37, 38, 39, 40, 41, 42, 43, 44, 45, 46, 47] (by decide) rfl rfl (by decide) (by decide) rfl rfl (by simp [Value.category]) ⟨by decide, by decide⟩ dX6_carryOut_56 (fun v w1 H locs hp hw => ?_)
        obtain ⟨gk2_44, gw2_45, gt2_46, rfl, rfl, hok2_47⟩ := hp
        have hw := hw.sub (ws' := wMain G o P h T L M ++ (wPiece G P gk2_44 gw2_45 gt2_46 gy (R1 + 1) sp ++ (wHist G h hs Q ak2_14 aw2_15 au2_16 ay2_17 aR2_18 aS2_19 ((nx + 1) % 4) (Nat.min (sz + 1) 4) ++ wPat G T tb tk2_34 tc2_35 tn m2_36 t2_37 tu2_38 tm2_39 tp2_40 (-1)))) [38, 39, 40, 41, 42, 43, 44, 45, 46, 47, 0, 1, 2, 3, 4, 5, 6, 7, 8, 9, 10, 11, 12, 13, 14, 15, 16, 17, 18, 19, 20, 21, 22, 23, 24, 25, 26, 27, 28, 29, 30, 31, 32, 33, 34, 35, 36, 37, 48, 49, 50, 51, 52, 53, 54] (by decide) rfl
        refine W.eq (g2 := F0 m 59 ls []) rfl ?_
        have hok9 := hok2_47
        refine k_iincN hm hl 2 1 rfl [(3, vN (i + 1)), (0, .ref (o)), (2, vN (q_29))] (by decide) rfl dX6_carryOut_59 (fun ls hl => ?_)
        refine k_goto (tgt := 43) hm dX6_carryOut_62 (by decide) ?_
        exact ih_43  (i + 1) gk2_44 gw2_45 gt2_46 (R1 + 1) (fup K1 R1 (rwT tb tn p1 m2_36)) (fup w1 R1 (wdT tb tn p1 m2_36 t2_37)) tk2_34 tc2_35 m2_36 t2_37 tu2_38 tm2_39 tp2_40 (by first | assumption | omega) (by omega) hok9 (by
                              rw [show R1 + 1 - 1 = R1 by omega, fup_s, fup_s, show 40 - (R1 + 1) = k2 by omega, show q_29 - (i + 1) = q_29 - i - 1 by omega]
                              unfold rwT wdT
                              rw [(tR_C _).1, hfi.2.2.2]
                              exact hft9) (by
                              intro K2 w2 z
                              exact hcc K2 w2 (by
                                rw [show q_29 - i = (q_29 - (i + 1)) + 1 by omega]
                                exact ⟨_, _, _, e2, z⟩)) _ _ _ (by omega) hw (lv_sub hl [1, 2, 0] rfl)
  exact loop_43 (q_29 - 0 + 1) 0 gk gw gt R K w tk2_22 tc2_23 ti2_24 tt2_25 tu2_26 tm2_27 0 (by first | assumption | omega) rfl hok hq9 (fun K2 w2 z => z) _ _ _ (Nat.lt_succ_self _) hw (lv_sub hl [3, 1, 0] rfl)
