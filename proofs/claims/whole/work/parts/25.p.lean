/-! a told round: the list of its items, over and over -/
def cS (cc : Nat → Nat) : Nat → Nat | 0 => 0 | b + 1 => cS cc b + cc b
def mK (kk cc : Nat → Nat) : Nat → Nat | 0 => 0 | b + 1 => mK kk cc b + cc b * mdB (kk b)
def uK (kk cc : Nat → Nat) : Nat → Nat | 0 => 0 | b + 1 => uK kk cc b + cc b * usB (kk b)
def atI (cc : Nat → Nat) : Nat → Nat → Nat | 0, _ => 0 | m + 1, x => if cS cc m ≤ x then m else atI cc m x
def tR (kk cc : Nat → Nat) (m : Nat) : Nat → Nat := fun i => kk (atI cc m (i % cS cc m))
theorem cS_mono {cc : Nat → Nat} {a : Nat} : ∀ {b : Nat}, a ≤ b → cS cc a ≤ cS cc b
  | 0, h => by rw [show a = 0 by omega]; exact Nat.le_refl _
  | b + 1, h => by
    rcases Nat.lt_or_ge b a with q | q
    · rw [show a = b + 1 by omega]; exact Nat.le_refl _
    · have := cS_mono (cc := cc) q
      simp only [cS]; omega
theorem atI_at {cc : Nat → Nat} {b x : Nat} : ∀ {m : Nat}, b < m → cS cc b ≤ x → x < cS cc (b + 1) → atI cc m x = b
  | 0, h, _, _ => absurd h (by omega)
  | m + 1, h, h1, h2 => by
    unfold atI
    by_cases q : b = m
    · rw [if_pos (by rw [← q]; exact h1), q]
    · have := cS_mono (cc := cc) (show b + 1 ≤ m by omega)
      rw [if_neg (by omega)]
      exact atI_at (by omega) h1 h2
theorem tR_at {kk cc : Nat → Nat} {m a b c : Nat} (hb : b < m) (hc : c < cc b) : tR kk cc m (a * cS cc m + cS cc b + c) = kk b := by
  have h := cS_mono (cc := cc) (show b + 1 ≤ m by omega)
  have e : cS cc (b + 1) = cS cc b + cc b := rfl
  unfold tR
  rw [Nat.add_assoc, Nat.add_comm, Nat.add_mul_mod_self_right, Nat.mod_eq_of_lt (by omega), atI_at hb (by omega) (by omega)]
theorem tR_A {kk cc : Nat → Nat} {m a b : Nat} (hb : b < m) : ∀ {c : Nat}, c ≤ cc b → sumM (tR kk cc m) (a * cS cc m + cS cc b + c) = sumM (tR kk cc m) (a * cS cc m + cS cc b) + c * mdB (kk b) ∧ sumU (tR kk cc m) (a * cS cc m + cS cc b + c) = sumU (tR kk cc m) (a * cS cc m + cS cc b) + c * usB (kk b)
  | 0, _ => by simp
  | c + 1, h => by
    have h1 := tR_A (kk := kk) (cc := cc) (a := a) hb (c := c) (by omega)
    have e := tR_at (kk := kk) (cc := cc) (a := a) hb (c := c) (by omega)
    rw [← Nat.add_assoc]
    simp only [sumM, sumU]
    rw [h1.1, h1.2, e, Nat.add_mul, Nat.add_mul]
    omega
theorem tR_B {kk cc : Nat → Nat} {m a : Nat} : ∀ {b : Nat}, b ≤ m → sumM (tR kk cc m) (a * cS cc m + cS cc b) = sumM (tR kk cc m) (a * cS cc m) + mK kk cc b ∧ sumU (tR kk cc m) (a * cS cc m + cS cc b) = sumU (tR kk cc m) (a * cS cc m) + uK kk cc b
  | 0, _ => by simp [cS, mK, uK]
  | b + 1, h => by
    have h1 := tR_B (kk := kk) (cc := cc) (m := m) (a := a) (b := b) (by omega)
    have h2 := tR_A (kk := kk) (cc := cc) (a := a) (show b < m by omega) (Nat.le_refl (cc b))
    simp only [cS, mK, uK]
    rw [← Nat.add_assoc, h2.1, h2.2, h1.1, h1.2]
    omega
theorem tR_C {kk cc : Nat → Nat} {m : Nat} : ∀ a, sumM (tR kk cc m) (a * cS cc m) = a * mK kk cc m ∧ sumU (tR kk cc m) (a * cS cc m) = a * uK kk cc m
  | 0 => by simp [sumM, sumU]
  | a + 1 => by
    have h1 := tR_C (kk := kk) (cc := cc) (m := m) a
    have h2 := tR_B (kk := kk) (cc := cc) (a := a) (Nat.le_refl m)
    rw [Nat.add_mul, Nat.one_mul, h2.1, h2.2, h1.1, h1.2, Nat.add_mul, Nat.add_mul]
    omega
theorem idx_lt {cc : Nat → Nat} {m t a b c : Nat} (ha : a < t) (hb : b < m) (hc : c < cc b) : a * cS cc m + cS cc b + c < t * cS cc m := by
  have h := cS_mono (cc := cc) (show b + 1 ≤ m by omega)
  have e : cS cc (b + 1) = cS cc b + cc b := rfl
  have h2 : (a + 1) * cS cc m ≤ t * cS cc m := Nat.mul_le_mul_right _ ha
  rw [Nat.add_mul] at h2
  omega
theorem tR_le {kk cc : Nat → Nat} {m : Nat} (hm : 1 ≤ m) (hk : ∀ j, j < m → kk j ≤ 2) (i : Nat) : tR kk cc m i ≤ 2 := by
  have h : ∀ {m x : Nat}, 1 ≤ m → atI cc m x < m := by
    intro m
    induction m with
    | zero => intro x h; omega
    | succ m ih =>
      intro x _
      unfold atI
      split
      · omega
      · by_cases q : m = 0
        · subst q; simp [atI]
        · have := ih (x := x) (by omega); omega
  exact hk _ (h hm)
set_option maxHeartbeats 4000000 in
set_option maxRecDepth 100000 in
theorem c_addTold (l : Launch) (G : kG) (o : Nat) (h : Nat) (T : Nat → Nat) (L : Nat → Nat) (M : Nat → Nat) (P : Nat → Nat) (gk : Nat → Nat) (gw : Nat → Nat) (gt : Nat → Nat) (gy : Nat → Nat) (R : Nat) (sp : Bool) (K : Nat → Nat → Nat) (w : Nat → Nat) (y : Nat → Nat) (tb : Nat → Nat) (tk : Nat → Int) (tc : Nat → Nat) (tn : Nat) (ti : Nat) (tt : Nat) (tu : Nat) (tm : Nat) (tp : Nat) (te : Int) (kk : Nat → Nat) (cc : Nat → Nat) (hok : POk gk gw gt gy R K w y) (hR40 : R < 40) (hmt : 1 ≤ ti ∧ ti ≤ 60 ∧ 1 ≤ tt ∧ tt ≤ 60) (hkc : ∀ j, j < ti → tk j = ((kk j : Nat) : Int) ∧ kk j ≤ 2 ∧ tc j = cc j ∧ cc j ≤ 999) (hT : 1 ≤ tt * cS cc ti ∧ tt * cS cc ti ≤ 120) (hM : 3 ≤ tt * mK kk cc ti ∧ tt * mK kk cc ti ≤ 120) (hU : tt * uK kk cc ti = sumM (K (R - 1)) (w (R - 1))) : kCM l yX6_addTold wsX6_addTold 2 44 0 0 G [.ref (o)] (wMain G o P h T L M ++ (wPiece G P gk gw gt gy R sp ++ wPat G T tb tk tc tn ti tt tu tm tp te)) (fun vv uu => ∃ (gk2 : Nat → Nat), ∃ (gw2 : Nat → Nat), ∃ (gt2 : Nat → Nat), vv = none ∧ uu = wMain G o P h T L M ++ (wPiece G P gk2 gw2 gt2 gy (R + 1) sp ++ wPat G T tb tk tc tn ti tt tu tm tp te) ∧ (POk gk2 gw2 gt2 gy (R + 1) (fup K R (tR kk cc ti)) (fup w R (tt * cS cc ti)) y)) := by
  refine kCM.of (cc := cX6_addTold) (maxL := 6) (ret := none) (by decide) rfl (Nat.le_of_ble_eq_true rfl) ?_
  intro p e s m args below meth c A ls Qz hQ hin hm hw hl
  have hl : lv_has ls 6 [(0, .ref (o))] := hl
  have i3 : ∀ w ∈ wsX30, w ∈ wsX6_addTold := by decide +kernel
  have i6 : ∀ w ∈ wsX60, w ∈ wsX6_addTold := by decide +kernel
  have hR := hok.1.1
  refine k_aload_n hm hl 0 rfl dX6_addTold_0 ?_
  refine k_get (T := TX6) hm hw 0 0 i6 rfl rfl (by decide) (by decide +kernel) rfl dX6_addTold_1 ?_
  refine k_callV (n := 0) (As := []) (rest := []) (wr := [(o, .inr (6, [.ref (P 0), .ref (h), .ref (T 0), .ref (L 0), .ref (M 0)])), (T 0, .inr (3, [.ref (T 1), .ref (T 3), .ref (T 5), vN (tn), vN (ti), vN (tt), vN (tu), vN (tm), vN (tp), vZ (te)])), (T 1, .inr (2, [.ref (T 2)])), (T 2, .inl (G.2 0, 120, .inl (nF tb))), (T 3, .inr (2, [.ref (T 4)])), (T 4, .inl (G.2 0, 60, .inl (iF tk))), (T 5, .inr (2, [.ref (T 6)])), (T 6, .inl (G.2 0, 60, .inl (nF tc)))]) hm hw hl (c_openRound l G P gk gw gt gy R sp (by first | assumption | omega)) gX6_addTold_X4_openRound rfl (by decide +kernel) ⟨by decide, by decide⟩ (ci := 4) rfl 1 rfl [1, 2, 3, 4, 5, 6, 7, 8, 9] [0, 10, 11, 12, 13, 14, 15, 16] (by decide) rfl rfl (by decide) (by decide) rfl rfl (by simp [Value.category]) ⟨by decide, by decide⟩ dX6_addTold_4 (fun v w1 H locs hp hw => ?_)
  obtain ⟨rfl, rfl⟩ := hp
  have hw := hw.sub (ws' := wMain G o P h T L M ++ (wPiece G P gk (nU gw R 0) (nU gt R 0) gy R sp ++ wPat G T tb tk tc tn ti tt tu tm tp te)) [0, 8, 9, 10, 11, 12, 13, 14, 15, 16, 1, 2, 3, 4, 5, 6, 7] (by decide) rfl
  refine W.eq (g2 := F0 m 7 ls []) rfl ?_
  refine k_iconstN hm 0 dX6_addTold_7 ?_
  refine k_istore_n hm hl [(1, vN (0)), (0, .ref (o))] (by decide) rfl dX6_addTold_8 (fun ls hl => ?_)
  have loop_9 : ∀ (fu : Nat) (a : Nat) (gk_a : Nat → Nat) (gw_a : Nat → Nat) (gt_a : Nat → Nat) (ha : a ≤ tt) (hop_a : OpR gk_a gw_a gt_a R K w (tR kk cc ti) (a * cS cc ti)) (H : Heap) (locs : List Loc) (ls : Array Slot), tt - a < fu → kW G A s (wMain G o P h T L M ++ (wPiece G P gk_a gw_a gt_a gy R sp ++ wPat G T tb tk tc tn ti tt tu tm tp te)) H locs → lv_has ls 6 [(0, .ref (o)), (1, vN (a))] → W p l e { frames := 2, cells := 0, slots := 0, locals := 44 } s m args below meth c H locs 0 0 Qz (F0 m 9 ls []) := by
    intro fu
    induction fu with
    | zero => intro a gk_a gw_a gt_a ha hop_a H locs ls hfu; exact absurd hfu (Nat.not_lt_zero _)
    | succ fu ih_9 =>
      intro a gk_a gw_a gt_a ha hop_a H locs ls hfu hw hl
      refine k_iload_n hm hl 1 rfl dX6_addTold_9 ?_
      refine k_aload_n hm hl 0 rfl dX6_addTold_10 ?_
      refine k_get (T := TX6) hm hw 0 2 i6 rfl rfl (by decide) (by decide +kernel) rfl dX6_addTold_11 ?_
      refine k_get (T := TX3) hm hw 10 5 i3 rfl rfl (by decide) (by decide +kernel) rfl dX6_addTold_14 ?_
      refine k_icmpge (tgt := 94) hm dX6_addTold_17 (by decide) (by omega) (fun c_2 => ?_) (fun c_2 => ?_)
      · refine k_aload_n hm hl 0 rfl dX6_addTold_94 ?_
        refine k_get (T := TX6) hm hw 0 0 i6 rfl rfl (by decide) (by decide +kernel) rfl dX6_addTold_95 ?_
        refine k_callV (n := 0) (As := []) (rest := []) (wr := [(o, .inr (6, [.ref (P 0), .ref (h), .ref (T 0), .ref (L 0), .ref (M 0)])), (T 0, .inr (3, [.ref (T 1), .ref (T 3), .ref (T 5), vN (tn), vN (ti), vN (tt), vN (tu), vN (tm), vN (tp), vZ (te)])), (T 1, .inr (2, [.ref (T 2)])), (T 2, .inl (G.2 0, 120, .inl (nF tb))), (T 3, .inr (2, [.ref (T 4)])), (T 4, .inl (G.2 0, 60, .inl (iF tk))), (T 5, .inr (2, [.ref (T 6)])), (T 6, .inl (G.2 0, 60, .inl (nF tc)))]) hm hw hl (c_closeRound l G P gk_a gw_a gt_a gy R sp) gX6_addTold_X4_closeRound rfl (by decide +kernel) ⟨by decide, by decide⟩ (ci := 4) rfl 1 rfl [1, 2, 3, 4, 5, 6, 7, 8, 9] [0, 10, 11, 12, 13, 14, 15, 16] (by decide) rfl rfl (by decide) (by decide) rfl rfl (by simp [Value.category]) ⟨by decide, by decide⟩ dX6_addTold_98 (fun v w1 H locs hp hw => ?_)
        obtain ⟨rfl, rfl⟩ := hp
        have hw := hw.sub (ws' := wMain G o P h T L M ++ (wPiece G P gk_a gw_a gt_a gy (R + 1) sp ++ wPat G T tb tk tc tn ti tt tu tm tp te)) [0, 8, 9, 10, 11, 12, 13, 14, 15, 16, 1, 2, 3, 4, 5, 6, 7] (by decide) rfl
        refine W.eq (g2 := F0 m 101 ls []) rfl ?_
        exact k_vret hm hQ rfl hw (⟨_, _, _, rfl, rfl, OpR_end hok.1 hR40 hok.2.2 (by rw [show tt = a by omega]; exact hop_a) hT (fun i _ => tR_le hmt.1 (fun j q => (hkc j q).2.1) i) (by rw [(tR_C _).1]; exact hM) (by rw [(tR_C _).2]; exact hU)⟩) (by omega) (by omega) dX6_addTold_101
      · refine k_iconstN hm 0 dX6_addTold_20 ?_
        refine k_istore_n hm hl [(2, vN (0)), (0, .ref (o)), (1, vN (a))] (by decide) rfl dX6_addTold_21 (fun ls hl => ?_)
        have loop_22 : ∀ (fu : Nat) (b : Nat) (gk_b : Nat → Nat) (gw_b : Nat → Nat) (gt_b : Nat → Nat) (hb : b ≤ ti) (hop_b : OpR gk_b gw_b gt_b R K w (tR kk cc ti) (a * cS cc ti + cS cc b)) (H : Heap) (locs : List Loc) (ls : Array Slot), ti - b < fu → kW G A s (wMain G o P h T L M ++ (wPiece G P gk_b gw_b gt_b gy R sp ++ wPat G T tb tk tc tn ti tt tu tm tp te)) H locs → lv_has ls 6 [(0, .ref (o)), (1, vN (a)), (2, vN (b))] → W p l e { frames := 2, cells := 0, slots := 0, locals := 44 } s m args below meth c H locs 0 0 Qz (F0 m 22 ls []) := by
          intro fu
          induction fu with
          | zero => intro b gk_b gw_b gt_b hb hop_b H locs ls hfu; exact absurd hfu (Nat.not_lt_zero _)
          | succ fu ih_22 =>
            intro b gk_b gw_b gt_b hb hop_b H locs ls hfu hw hl
            refine k_iload_n hm hl 2 rfl dX6_addTold_22 ?_
            refine k_aload_n hm hl 0 rfl dX6_addTold_23 ?_
            refine k_get (T := TX6) hm hw 0 2 i6 rfl rfl (by decide) (by decide +kernel) rfl dX6_addTold_24 ?_
            refine k_get (T := TX3) hm hw 10 4 i3 rfl rfl (by decide) (by decide +kernel) rfl dX6_addTold_27 ?_
            refine k_icmpge (tgt := 88) hm dX6_addTold_30 (by decide) (by omega) (fun c_4 => ?_) (fun c_4 => ?_)
            · refine k_iincN hm hl 1 1 rfl [(1, vN (a + 1)), (0, .ref (o)), (2, vN (b))] (by decide) rfl dX6_addTold_88 (fun ls hl => ?_)
              refine k_goto (tgt := 9) hm dX6_addTold_91 (by decide) ?_
              exact ih_9  (a + 1) gk_b gw_b gt_b (by first | assumption | omega) (by rw [Nat.add_mul, Nat.one_mul]; rw [show b = ti by omega] at hop_b; exact hop_b) _ _ _ (by omega) hw (lv_sub hl [1, 0] rfl)
            · have hkb := hkc b (by omega)
              refine k_aload_n hm hl 0 rfl dX6_addTold_33 ?_
              refine k_get (T := TX6) hm hw 0 2 i6 rfl rfl (by decide) (by decide +kernel) rfl dX6_addTold_34 ?_
              refine k_get (T := TX3) hm hw 10 1 i3 rfl rfl (by decide) (by decide +kernel) rfl dX6_addTold_37 ?_
              refine k_iload_n hm hl 2 rfl dX6_addTold_40 ?_
              refine k_callVr (n := 1) (As := [vN (b)]) (rest := []) hm hw hl (c_Num_atZ l G (T 3) (T 4) 60 tk b (by first | assumption | omega)) gX6_addTold_X2_at rfl (by decide +kernel) ⟨by decide, by decide⟩ (ci := 2) rfl 13 rfl [13, 14] (by decide) rfl rfl rfl (by simp [Value.category]) ⟨by decide, by decide⟩ dX6_addTold_41 (fun v H locs hp hw => ?_)
              obtain rfl := hp
              refine W.eq (g2 := F0 m 44 ls [vZ (tk b)]) rfl ?_
              refine k_rwV (y := vN (kk b)) (by rw [hkb.1]) ?_
              refine k_istore_n hm hl [(3, vN (kk b)), (0, .ref (o)), (1, vN (a)), (2, vN (b))] (by decide) rfl dX6_addTold_44 (fun ls hl => ?_)
              refine k_aload_n hm hl 1 rfl dX6_addTold_45 ?_
              refine k_get (T := TX6) hm hw 0 2 i6 rfl rfl (by decide) (by decide +kernel) rfl dX6_addTold_46 ?_
              refine k_get (T := TX3) hm hw 10 2 i3 rfl rfl (by decide) (by decide +kernel) rfl dX6_addTold_49 ?_
              refine k_iload_n hm hl 3 rfl dX6_addTold_52 ?_
              refine k_callVr (n := 1) (As := [vN (b)]) (rest := []) hm hw hl (c_Num_at l G (T 5) (T 6) 60 tc b (by first | assumption | omega)) gX6_addTold_X2_at rfl (by decide +kernel) ⟨by decide, by decide⟩ (ci := 2) rfl 15 rfl [15, 16] (by decide) rfl rfl rfl (by simp [Value.category]) ⟨by decide, by decide⟩ dX6_addTold_53 (fun v H locs hp hw => ?_)
              obtain rfl := hp
              refine W.eq (g2 := F0 m 56 ls [vN (tc b)]) rfl ?_
              refine k_rwV (y := vN (cc b)) (by rw [hkb.2.2.1]) ?_
              refine k_istore hm hl [(4, vN (cc b)), (3, vN (kk b)), (0, .ref (o)), (1, vN (a)), (2, vN (b))] (by decide) rfl dX6_addTold_56 (fun ls hl => ?_)
              refine k_iconstN hm 0 dX6_addTold_58 ?_
              refine k_istore hm hl [(5, vN (0)), (4, vN (cc b)), (3, vN (kk b)), (0, .ref (o)), (1, vN (a)), (2, vN (b))] (by decide) rfl dX6_addTold_59 (fun ls hl => ?_)
              have loop_61 : ∀ (fu : Nat) (i : Nat) (gk_i : Nat → Nat) (gw_i : Nat → Nat) (gt_i : Nat → Nat) (hi : i ≤ cc b) (hop_i : OpR gk_i gw_i gt_i R K w (tR kk cc ti) (a * cS cc ti + cS cc b + i)) (H : Heap) (locs : List Loc) (ls : Array Slot), cc b - i < fu → kW G A s (wMain G o P h T L M ++ (wPiece G P gk_i gw_i gt_i gy R sp ++ wPat G T tb tk tc tn ti tt tu tm tp te)) H locs → lv_has ls 6 [(0, .ref (o)), (1, vN (a)), (2, vN (b)), (3, vN (kk b)), (4, vN (cc b)), (5, vN (i))] → W p l e { frames := 2, cells := 0, slots := 0, locals := 44 } s m args below meth c H locs 0 0 Qz (F0 m 61 ls []) := by
                intro fu
                induction fu with
                | zero => intro i gk_i gw_i gt_i hi hop_i H locs ls hfu; exact absurd hfu (Nat.not_lt_zero _)
                | succ fu ih_61 =>
                  intro i gk_i gw_i gt_i hi hop_i H locs ls hfu hw hl
                  refine k_iload hm hl 5 rfl dX6_addTold_61 ?_
                  refine k_iload hm hl 4 rfl dX6_addTold_63 ?_
                  refine k_icmpge (tgt := 82) hm dX6_addTold_65 (by decide) (by omega) (fun c_7 => ?_) (fun c_7 => ?_)
                  · refine k_iincN hm hl 2 1 rfl [(2, vN (b + 1)), (0, .ref (o)), (1, vN (a)), (3, vN (kk b)), (4, vN (cc b)), (5, vN (i))] (by decide) rfl dX6_addTold_82 (fun ls hl => ?_)
                    refine k_goto (tgt := 22) hm dX6_addTold_85 (by decide) ?_
                    exact ih_22  (b + 1) gk_i gw_i gt_i (by first | assumption | omega) (by rw [show cS cc (b + 1) = cS cc b + cc b from rfl, ← Nat.add_assoc, show cc b = i by omega]; exact hop_i) _ _ _ (by omega) hw (lv_sub hl [1, 2, 0] rfl)
                  · refine k_aload_n hm hl 0 rfl dX6_addTold_68 ?_
                    refine k_get (T := TX6) hm hw 0 0 i6 rfl rfl (by decide) (by decide +kernel) rfl dX6_addTold_69 ?_
                    have hix := idx_lt (cc := cc) (show a < tt by omega) (show b < ti by omega) (show i < cc b by omega)
                    have hgw := hop_i.2.1
                    refine k_iload_n hm hl 3 rfl dX6_addTold_72 ?_
                    refine k_callV (n := 1) (As := [vN (kk b)]) (rest := []) (wr := [(o, .inr (6, [.ref (P 0), .ref (h), .ref (T 0), .ref (L 0), .ref (M 0)])), (T 0, .inr (3, [.ref (T 1), .ref (T 3), .ref (T 5), vN (tn), vN (ti), vN (tt), vN (tu), vN (tm), vN (tp), vZ (te)])), (T 1, .inr (2, [.ref (T 2)])), (T 2, .inl (G.2 0, 120, .inl (nF tb))), (T 3, .inr (2, [.ref (T 4)])), (T 4, .inl (G.2 0, 60, .inl (iF tk))), (T 5, .inr (2, [.ref (T 6)])), (T 6, .inl (G.2 0, 60, .inl (nF tc)))]) hm hw hl (c_addWork l G P gk_i gw_i gt_i gy R sp (kk b) (by first | assumption | omega) (by first | assumption | omega) (by first | assumption | omega)) gX6_addTold_X4_addWork rfl (by decide +kernel) ⟨by decide, by decide⟩ (ci := 4) rfl 1 rfl [1, 2, 3, 4, 5, 6, 7, 8, 9] [0, 10, 11, 12, 13, 14, 15, 16] (by decide) rfl rfl (by decide) (by decide) rfl rfl (by simp [Value.category]) ⟨by decide, by decide⟩ dX6_addTold_73 (fun v w1 H locs hp hw => ?_)
                    obtain ⟨rfl, rfl⟩ := hp
                    have hw := hw.sub (ws' := wMain G o P h T L M ++ (wPiece G P (nU gk_i (R * 120 + gw_i R) (kk b)) (nU gw_i R (gw_i R + 1)) (nU gt_i R (gt_i R + mdB (kk b))) gy R sp ++ wPat G T tb tk tc tn ti tt tu tm tp te)) [0, 8, 9, 10, 11, 12, 13, 14, 15, 16, 1, 2, 3, 4, 5, 6, 7] (by decide) rfl
                    refine W.eq (g2 := F0 m 76 ls []) rfl ?_
                    refine k_iincN hm hl 5 1 rfl [(5, vN (i + 1)), (0, .ref (o)), (1, vN (a)), (2, vN (b)), (3, vN (kk b)), (4, vN (cc b))] (by decide) rfl dX6_addTold_76 (fun ls hl => ?_)
                    refine k_goto (tgt := 61) hm dX6_addTold_79 (by decide) ?_
                    exact ih_61  (i + 1) (nU gk_i (R * 120 + gw_i R) (kk b)) (nU gw_i R (gw_i R + 1)) (nU gt_i R (gt_i R + mdB (kk b))) (by first | assumption | omega) (by rw [← Nat.add_assoc]; exact OpR_add hop_i (fun r q => (hok.1.2.1 r q).1.2) (tR_at (by omega) (by omega)).symm) _ _ _ (by omega) hw (lv_sub hl [1, 2, 3, 4, 5, 0] rfl)
              exact loop_61 (cc b - 0 + 1) 0 gk_b gw_b gt_b (by first | assumption | omega) (by exact hop_b) _ _ _ (Nat.lt_succ_self _) hw (lv_sub hl [3, 4, 5, 2, 1, 0] rfl)
        exact loop_22 (ti - 0 + 1) 0 gk_a gw_a gt_a (by first | assumption | omega) (by exact hop_a) _ _ _ (Nat.lt_succ_self _) hw (lv_sub hl [1, 2, 0] rfl)
  exact loop_9 (tt - 0 + 1) 0 gk (nU gw R 0) (nU gt R 0) (by first | assumption | omega) (by rw [Nat.zero_mul]; exact OpR_0 hok) _ _ _ (Nat.lt_succ_self _) hw (lv_sub hl [1, 0] rfl)
