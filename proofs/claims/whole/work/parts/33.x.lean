theorem MOk_add {sa sb : Nat → Int64} {R m : Nat} {sp : Bool} {K : Nat → Nat → Nat} {w y row : Nat → Nat} (h : MOk sa R sp K w y) (hR : R < 40) (h1 : 1 ≤ m ∧ m ≤ 120) (h2 : ∀ i, i < m → row i ≤ 2) (h3 : 3 ≤ sumM row m ∧ sumM row m ≤ 120) (h4 : sumU row m = sumM (K (R - 1)) (w (R - 1)))
    (b0 : sb 0 = lI ((R + 1 : Nat) : Int)) (b1 : sb (5 + R) = lI (m : Int)) (b2 : ∀ i, i < m → fd (sb (45 + 4 * R + i / 32)) (i % 32) = lI (row i : Int)) (b3 : ∀ q, q ≠ 0 → q ≠ 5 + R → q < 45 + 4 * R → sb q = sa q) : MOk sb (R + 1) sp (fup K R row) (fup w R m) y := by
  obtain ⟨⟨v1, v2, v3, v4, v5⟩, a0, a1, a2, a3⟩ := h
  refine ⟨⟨by omega, fun r hr => ?_, fun r hr => ?_, v4, ?_⟩, b0, ?_, fun k hk => ?_, fun r hr => ?_⟩
  · by_cases q : r = R
    · subst q; simp only [fup_s]; exact ⟨h1, h3, h2⟩
    · simp only [fup_n q]; exact v2 r (by omega)
  · by_cases q : r + 1 = R
    · have q2 : r = R - 1 := by omega
      rw [q]; simp only [fup_s]; rw [fup_n (by omega), fup_n (by omega), h4, q2]
    · rw [fup_n q, fup_n q, fup_n (by omega), fup_n (by omega)]; exact v3 r (by omega)
  · rw [fup_n (by omega), fup_n (by omega)]; exact v5
  · rw [b3 1 (by omega) (by omega) (by omega)]; exact a1
  · rw [b3 (2 + k) (by omega) (by omega) (by omega)]; exact a2 k hk
  · by_cases q : r = R
    · subst q; simp only [fup_s]; exact ⟨b1, b2⟩
    · simp only [fup_n q]
      have hw := (v2 r (by omega)).1.2
      have z := a3 r (by omega)
      refine ⟨by rw [b3 (5 + r) (by omega) (by omega) (by omega)]; exact z.1, fun i hi => ?_⟩
      rw [b3 (45 + 4 * r + i / 32) (by omega) (by omega) (by omega)]; exact z.2 i hi
theorem updL_s {f : Nat → Int64} {k : Nat} {x : Int64} : vp_updL f k x k = x := if_pos rfl
theorem updL_n {f : Nat → Int64} {k j : Nat} {x : Int64} (h : j ≠ k) : vp_updL f k x j = f j := if_neg h
theorem lI_0 : lI 0 = 0 := by decide
set_option maxHeartbeats 4000000 in
set_option maxRecDepth 100000 in
theorem c_m_adds (l : Launch) (G : kG) (D : Nat → Nat) (sa : Nat → Int64) (pa : Nat → Int64) (pn : Nat) (tx : Nat → Nat) (tn : Nat) (rf : Nat) (ro : Nat → Nat) (wk : Nat) (mb : Nat → Nat) (so : Nat) (kd : Nat → Nat) (nu : Nat → Nat) (it : Nat) (ti : Nat) (rd : Nat) (ad : Nat → Int64) (R : Nat) (sp : Bool) (K : Nat → Nat → Nat) (w : Nat → Nat) (y : Nat → Nat) (row : Nat → Nat) (hmo : MOk sa R sp K w y) (hR40 : R < 40) (h1 : 1 ≤ wk ∧ wk ≤ 120) (hrow : ∀ i, i < wk → ro i = row i ∧ row i ≤ 2) (h3 : 3 ≤ sumM row wk ∧ sumM row wk ≤ 120) (h4 : sumU row wk = sumM (K (R - 1)) (w (R - 1))) : kCM l yX7_adds wsX7_adds 1 20 0 0 G [.ref (D 0)] (wMod G D sa pa pn tx tn rf ro wk mb so kd nu it ti rd ad) (fun vv uu => ∃ (sa2 : Nat → Int64), vv = none ∧ uu = wMod G D sa2 pa pn tx tn rf ro wk mb so kd nu it ti rd ad ∧ (MOk sa2 (R + 1) sp (fup K R row) (fup w R wk) y)) := by
  refine kCM.of (cc := cX7_adds) (maxL := 3) (ret := none) (by decide) rfl (Nat.le_of_ble_eq_true rfl) ?_
  intro p e s m args below meth c A ls Qz hQ hin hm hw hl
  have hl : lv_has ls 3 [(0, .ref (D 0))] := hl
  have i7 : ∀ w ∈ wsX70, w ∈ wsX7_adds := by decide +kernel
  have hR := hmo.1.1
  refine k_aload_n hm hl 0 rfl dX7_adds_0 ?_
  refine k_callVr (n := 0) (As := []) (rest := []) hm hw hl (c_m_rounds l G D sa pa pn tx tn rf ro wk mb so kd nu it ti rd ad R sp K w y (by first | assumption | omega)) gX7_adds_X7_rounds rfl (by decide +kernel) ⟨by decide, by decide⟩ (ci := 7) rfl 0 rfl [0, 1, 2, 3, 4, 5, 6, 7, 8] (by decide) rfl rfl rfl (by simp [Value.category]) ⟨by decide, by decide⟩ dX7_adds_1 (fun v H locs hp hw => ?_)
  obtain rfl := hp
  refine W.eq (g2 := F0 m 4 ls [vN (R)]) rfl ?_
  refine k_istore_n hm hl [(1, vN (R)), (0, .ref (D 0))] (by decide) rfl dX7_adds_4 (fun ls hl => ?_)
  refine k_iconstN hm 0 dX7_adds_5 ?_
  refine k_istore_n hm hl [(2, vN (0)), (1, vN (R)), (0, .ref (D 0))] (by decide) rfl dX7_adds_6 (fun ls hl => ?_)
  have loop_7 : ∀ (fu : Nat) (k : Nat) (g : Nat → Int64) (hk : k ≤ 4) (hz : ∀ j, j < k → g (45 + 4 * R + j) = 0) (hq : ∀ q, q < 45 + 4 * R → g q = sa q) (H : Heap) (locs : List Loc) (ls : Array Slot), 4 - k < fu → kW G A s (wMod G D g pa pn tx tn rf ro wk mb so kd nu it ti rd ad) H locs → lv_has ls 3 [(0, .ref (D 0)), (1, vN (R)), (2, vN (k))] → W p l e { frames := 1, cells := 0, slots := 0, locals := 20 } s m args below meth c H locs 0 0 Qz (F0 m 7 ls []) := by
    intro fu
    induction fu with
    | zero => intro k g hk hz hq H locs ls hfu; exact absurd hfu (Nat.not_lt_zero _)
    | succ fu ih_7 =>
      intro k g hk hz hq H locs ls hfu hw hl
      refine k_iload_n hm hl 2 rfl dX7_adds_7 ?_
      refine k_iconstN hm 4 dX7_adds_8 ?_
      refine k_icmpge (tgt := 32) hm dX7_adds_9 (by decide) (by omega) (fun c_2 => ?_) (fun c_2 => ?_)
      · refine k_iconstN hm 0 dX7_adds_32 ?_
        refine k_istore_n hm hl [(2, vN (0)), (0, .ref (D 0)), (1, vN (R))] (by decide) rfl dX7_adds_33 (fun ls hl => ?_)
        have loop_34 : ∀ (fu : Nat) (i : Nat) (g2 : Nat → Int64) (hi : i ≤ wk) (ha : ∀ j, j < i → fd (g2 (45 + 4 * R + j / 32)) (j % 32) = lI (row j : Int)) (hb : ∀ j, i ≤ j → j < 128 → fd (g2 (45 + 4 * R + j / 32)) (j % 32) = 0) (hq2 : ∀ q, q < 45 + 4 * R → g2 q = sa q) (H : Heap) (locs : List Loc) (ls : Array Slot), wk - i < fu → kW G A s (wMod G D g2 pa pn tx tn rf ro wk mb so kd nu it ti rd ad) H locs → lv_has ls 3 [(0, .ref (D 0)), (1, vN (R)), (2, vN (i))] → W p l e { frames := 1, cells := 0, slots := 0, locals := 20 } s m args below meth c H locs 0 0 Qz (F0 m 34 ls []) := by
          intro fu
          induction fu with
          | zero => intro i g2 hi ha hb hq2 H locs ls hfu; exact absurd hfu (Nat.not_lt_zero _)
          | succ fu ih_34 =>
            intro i g2 hi ha hb hq2 H locs ls hfu hw hl
            refine k_iload_n hm hl 2 rfl dX7_adds_34 ?_
            refine k_aload_n hm hl 0 rfl dX7_adds_35 ?_
            refine k_get (T := TX7) hm hw 0 7 i7 rfl rfl (by decide) (by decide +kernel) rfl dX7_adds_36 ?_
            refine k_icmpge (tgt := 81) hm dX7_adds_39 (by decide) (by omega) (fun c_3 => ?_) (fun c_3 => ?_)
            · refine k_aload_n hm hl 0 rfl dX7_adds_81 ?_
              refine k_get (T := TX7) hm hw 0 0 i7 rfl rfl (by decide) (by decide +kernel) rfl dX7_adds_82 ?_
              refine k_iconstN hm 5 dX7_adds_85 ?_
              refine k_iload_n hm hl 1 rfl dX7_adds_86 ?_
              refine k_iaddN hm dX7_adds_87 ?_
              refine k_aload_n hm hl 0 rfl dX7_adds_88 ?_
              refine k_get (T := TX7) hm hw 0 7 i7 rfl rfl (by decide) (by decide +kernel) rfl dX7_adds_89 ?_
              refine k_i2l hm dX7_adds_92 (by omega) ?_
              refine k_last hm hw 1 (wMod G D (vp_updL g2 (5 + R) (lI ((wk : Nat) : Int))) pa pn tx tn rf ro wk mb so kd nu it ti rd ad) rfl (by omega) rfl dX7_adds_93 (fun H locs hw => ?_)
              refine k_aload_n hm hl 0 rfl dX7_adds_94 ?_
              refine k_get (T := TX7) hm hw 0 0 i7 rfl rfl (by decide) (by decide +kernel) rfl dX7_adds_95 ?_
              refine k_iconstN hm 0 dX7_adds_98 ?_
              refine lv_dup2_11 hm.1 hm.2.1 dX7_adds_99 rfl rfl ?_
              refine k_lald hm hw 1 rfl (by omega) dX7_adds_100 ?_
              rw [show (vp_updL g2 (5 + R) (lI ((wk : Nat) : Int))) 0 = lI (R : Int) from by rw [updL_n (by omega), hq2 0 (by omega)]; exact hmo.2.1]
              refine k_lconst (n := 1) hm dX7_adds_101 ?_
              refine k_ladd hm dX7_adds_102 ?_
              refine k_last hm hw 1 (wMod G D (vp_updL (vp_updL g2 (5 + R) (lI ((wk : Nat) : Int))) 0 (lI (((R : Nat) : Int) + 1))) pa pn tx tn rf ro wk mb so kd nu it ti rd ad) rfl (by omega) rfl dX7_adds_103 (fun H locs hw => ?_)
              exact k_vret hm hQ rfl hw (⟨_, rfl, rfl, MOk_add hmo hR40 h1 (fun i q => (hrow i q).2) h3 h4 (by rw [updL_s]; rfl) (by rw [updL_n (by omega), updL_s]) (fun j q => by rw [updL_n (by omega), updL_n (by omega)]; exact ha j (by omega)) (fun q z1 z2 z3 => by rw [updL_n z1, updL_n z2]; exact hq2 q z3)⟩) (by omega) (by omega) dX7_adds_104
            · have hr := hrow i (by omega)
              refine k_aload_n hm hl 0 rfl dX7_adds_42 ?_
              refine k_get (T := TX7) hm hw 0 0 i7 rfl rfl (by decide) (by decide +kernel) rfl dX7_adds_43 ?_
              refine k_bipushN hm 45 dX7_adds_46 rfl ?_
              refine k_iconstN hm 4 dX7_adds_48 ?_
              refine k_iload_n hm hl 1 rfl dX7_adds_49 ?_
              refine k_imulN hm dX7_adds_50 ?_
              refine k_iaddN hm dX7_adds_51 ?_
              refine k_iload_n hm hl 2 rfl dX7_adds_52 ?_
              refine k_bipushN hm 32 dX7_adds_53 rfl ?_
              refine k_idivN hm (by omega) dX7_adds_55 ?_
              refine k_iaddN hm dX7_adds_56 ?_
              refine lv_dup2_11 hm.1 hm.2.1 dX7_adds_57 rfl rfl ?_
              refine k_lald hm hw 1 rfl (by omega) dX7_adds_58 ?_
              refine k_aload_n hm hl 0 rfl dX7_adds_59 ?_
              refine k_get (T := TX7) hm hw 0 6 i7 rfl rfl (by decide) (by decide +kernel) rfl dX7_adds_60 ?_
              refine k_iload_n hm hl 2 rfl dX7_adds_63 ?_
              refine k_ialdN hm hw 4 rfl (by omega) dX7_adds_64 ?_
              refine k_rwV (y := vN (row i)) (by rw [hr.1]) ?_
              refine k_i2l hm dX7_adds_65 (by omega) ?_
              refine k_iconstN hm 2 dX7_adds_66 ?_
              refine k_iload_n hm hl 2 rfl dX7_adds_67 ?_
              refine k_bipushN hm 32 dX7_adds_68 rfl ?_
              refine k_iremN hm (by omega) dX7_adds_70 ?_
              refine k_imulN hm dX7_adds_71 ?_
              refine k_lshl (n := 2 * (i % 32)) hm (by omega) dX7_adds_72 ?_
              refine lv_lor hm.1 hm.2.1 dX7_adds_73 ?_
              refine k_last hm hw 1 (wMod G D (vp_updL g2 ((45 + (4 * R)) + (i / 32)) ((g2 ((45 + (4 * R)) + (i / 32))) ||| ((lI ((row i : Nat) : Int)) <<< lI ((2 * (i % 32) : Nat) : Int)))) pa pn tx tn rf ro wk mb so kd nu it ti rd ad) rfl (by omega) rfl dX7_adds_74 (fun H locs hw => ?_)
              refine k_iincN hm hl 2 1 rfl [(2, vN (i + 1)), (0, .ref (D 0)), (1, vN (R))] (by decide) rfl dX7_adds_75 (fun ls hl => ?_)
              refine k_goto (tgt := 34) hm dX7_adds_78 (by decide) ?_
              exact ih_34  (i + 1) (vp_updL g2 ((45 + (4 * R)) + (i / 32)) ((g2 ((45 + (4 * R)) + (i / 32))) ||| ((lI ((row i : Nat) : Int)) <<< lI ((2 * (i % 32) : Nat) : Int)))) (by first | assumption | omega) (by
                              intro j q
                              have hst := fun j2 (h2 : j2 < 32) => fd_set (a := g2 (45 + 4 * R + i / 32)) (x := row i) (i := i % 32) (j := j2) (by omega) (by omega) h2 (hb i (Nat.le_refl _) (by omega))
                              by_cases e : j / 32 = i / 32
                              · rw [e, updL_s, hst (j % 32) (by omega)]
                                by_cases e2 : j % 32 = i % 32
                                · rw [if_pos e2, show j = i by omega]
                                · rw [if_neg e2, ← e]; exact ha j (by omega)
                              · rw [updL_n (by omega)]; exact ha j (by omega)) (by
                              intro j q1 q2
                              have hst := fun j2 (h2 : j2 < 32) => fd_set (a := g2 (45 + 4 * R + i / 32)) (x := row i) (i := i % 32) (j := j2) (by omega) (by omega) h2 (hb i (Nat.le_refl _) (by omega))
                              by_cases e : j / 32 = i / 32
                              · rw [e, updL_s, hst (j % 32) (by omega), if_neg (by omega), ← e]; exact hb j (by omega) q2
                              · rw [updL_n (by omega)]; exact hb j (by omega) q2) (fun q z => by rw [updL_n (by omega)]; exact hq2 q z) _ _ _ (by omega) hw (lv_sub hl [1, 2, 0] rfl)
        exact loop_34 (wk - 0 + 1) 0 g (by first | assumption | omega) (fun j q => absurd q (by omega)) (fun j _ q => by rw [hz (j / 32) (by omega)]; exact fd_0 (by omega)) hq _ _ _ (Nat.lt_succ_self _) hw (lv_sub hl [1, 2, 0] rfl)
      · refine k_aload_n hm hl 0 rfl dX7_adds_12 ?_
        refine k_get (T := TX7) hm hw 0 0 i7 rfl rfl (by decide) (by decide +kernel) rfl dX7_adds_13 ?_
        refine k_bipushN hm 45 dX7_adds_16 rfl ?_
        refine k_iconstN hm 4 dX7_adds_18 ?_
        refine k_iload_n hm hl 1 rfl dX7_adds_19 ?_
        refine k_imulN hm dX7_adds_20 ?_
        refine k_iaddN hm dX7_adds_21 ?_
        refine k_iload_n hm hl 2 rfl dX7_adds_22 ?_
        refine k_iaddN hm dX7_adds_23 ?_
        refine k_lconst (n := 0) hm dX7_adds_24 ?_
        refine k_last hm hw 1 (wMod G D (vp_updL g ((45 + (4 * R)) + k) (lI 0)) pa pn tx tn rf ro wk mb so kd nu it ti rd ad) rfl (by omega) rfl dX7_adds_25 (fun H locs hw => ?_)
        refine k_iincN hm hl 2 1 rfl [(2, vN (k + 1)), (0, .ref (D 0)), (1, vN (R))] (by decide) rfl dX7_adds_26 (fun ls hl => ?_)
        refine k_goto (tgt := 7) hm dX7_adds_29 (by decide) ?_
        exact ih_7  (k + 1) (vp_updL g ((45 + (4 * R)) + k) (lI 0)) (by first | assumption | omega) (fun j q => by rcases Nat.lt_or_ge j k with z | z; rw [updL_n (by omega)]; exact hz j z; rw [show j = k by omega, updL_s]; exact lI_0) (fun q z => by rw [updL_n (by omega)]; exact hq q z) _ _ _ (by omega) hw (lv_sub hl [1, 2, 0] rfl)
  exact loop_7 (4 - 0 + 1) 0 sa (by first | assumption | omega) (fun j q => absurd q (by omega)) (fun _ _ => rfl) _ _ _ (Nat.lt_succ_self _) hw (lv_sub hl [2, 1, 0] rfl)
