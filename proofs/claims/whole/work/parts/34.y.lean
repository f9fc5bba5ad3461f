theorem PVd_ring {y : Nat → Nat} {n : Nat} (hn : 3 ≤ n ∧ n ≤ 12) (hy : ∀ k, k < 3 → 1 ≤ y k ∧ y k ≤ 60) : PVd 1 (fun _ _ => 0) (fun _ => n) y :=
  (POk_ring (gk := fun _ => 0) (gw := fun _ => n) (gt := fun _ => n) (gy := y) hn (fun k hk => ⟨rfl, hy k hk⟩) rfl rfl (fun _ _ => rfl)).1
theorem MOk_ext {sa sb : Nat → Int64} {R : Nat} {sp : Bool} {K : Nat → Nat → Nat} {w y : Nat → Nat} (h : MOk sa R sp K w y) (e : ∀ k, k < 205 → sb k = sa k) : MOk sb R sp K w y := by
  obtain ⟨hv, a0, a1, a2, a3⟩ := h
  have hR := hv.1
  refine ⟨hv, by rw [e 0 (by omega)]; exact a0, by rw [e 1 (by omega)]; exact a1, fun k hk => by rw [e (2 + k) (by omega)]; exact a2 k hk, fun r hr => ⟨by rw [e (5 + r) (by omega)]; exact (a3 r hr).1, fun i hi => ?_⟩⟩
  have := (hv.2.1 r hr).1
  rw [e (45 + 4 * r + i / 32) (by omega)]; exact (a3 r hr).2 i hi
theorem PaOk_push {sa pa pb : Nat → Int64} {R n m : Nat} {sp : Bool} {K : Nat → Nat → Nat} {w y : Nat → Nat} {sv : Nat → PSt} (h : PaOk pa n sv) (hs : MOk sa R sp K w y) (hm : m ≤ 4 ∧ 1 ≤ m ∧ m ≤ n + 1) (e0 : ∀ k, k < 205 → pb (205 * (m - 1) + k) = sa k) (e1 : ∀ i k, 1 ≤ i → i < m → k < 205 → pb (205 * (m - 1 - i) + k) = pa (205 * (n - i) + k)) : PaOk pb m (svPush (R, sp, K, w, y) sv) := by
  refine ⟨hm.1, fun i hi => ?_⟩
  by_cases q : i = 0
  · subst q
    exact MOk_ext hs (fun k hk => e0 k hk)
  · have z := h.2 (i - 1) (by omega)
    unfold svPush
    rw [if_neg q]
    exact MOk_ext z (fun k hk => by rw [show n - 1 - (i - 1) = n - i by omega]; exact e1 i k (by omega) hi hk)
theorem PaOk_pop {pa : Nat → Int64} {n : Nat} {sv : Nat → PSt} (h : PaOk pa n sv) : PaOk pa (n - 1) (svPop sv) :=
  ⟨by have := h.1; omega, fun i hi => by have z := h.2 (i + 1) (by omega); unfold svPop; rw [show n - 1 - 1 - i = n - 1 - (i + 1) by omega]; exact z⟩
set_option maxHeartbeats 4000000 in
set_option maxRecDepth 100000 in
theorem c_m_laysFirst (l : Launch) (G : kG) (D : Nat → Nat) (sa : Nat → Int64) (pa : Nat → Int64) (pn : Nat) (tx : Nat → Nat) (tn : Nat) (rf : Nat) (ro : Nat → Nat) (wk : Nat) (mb : Nat → Nat) (so : Nat) (kd : Nat → Nat) (nu : Nat → Nat) (it : Nat) (ti : Nat) (rd : Nat) (ad : Nat → Int64) (sp : Bool) (y : Nat → Nat) (n : Nat) (hn : 3 ≤ n ∧ n ≤ 12) (h1 : sa 1 = lI (bI sp)) (h2 : ∀ k, k < 3 → sa (2 + k) = lI (y k : Int) ∧ 1 ≤ y k ∧ y k ≤ 60) : kCM l yX7_laysFirst wsX7_laysFirst 0 0 0 0 G [.ref (D 0), vN (n)] (wMod G D sa pa pn tx tn rf ro wk mb so kd nu it ti rd ad) (fun vv uu => ∃ (sa2 : Nat → Int64), vv = none ∧ uu = wMod G D sa2 pa pn tx tn rf ro wk mb so kd nu it ti rd ad ∧ (MOk sa2 1 sp (fun _ _ => 0) (fun _ => n) y)) := by
  refine kCM.of (cc := cX7_laysFirst) (maxL := 3) (ret := none) (by decide) rfl (Nat.le_of_ble_eq_true rfl) ?_
  intro p e s m args below meth c A ls Qz hQ hin hm hw hl
  have hl : lv_has ls 3 [(0, .ref (D 0)), (1, vN (n))] := hl
  have i7 : ∀ w ∈ wsX70, w ∈ wsX7_laysFirst := by decide +kernel
  refine k_iconstN hm 5 dX7_laysFirst_0 ?_
  refine k_istore_n hm hl [(2, vN (5)), (0, .ref (D 0)), (1, vN (n))] (by decide) rfl dX7_laysFirst_1 (fun ls hl => ?_)
  have loop_2 : ∀ (fu : Nat) (k : Nat) (g : Nat → Int64) (hk : 5 ≤ k ∧ k ≤ 205) (hz : ∀ j, 5 ≤ j → j < k → g j = 0) (hq : ∀ q, q < 5 → g q = sa q) (H : Heap) (locs : List Loc) (ls : Array Slot), 205 - k < fu → kW G A s (wMod G D g pa pn tx tn rf ro wk mb so kd nu it ti rd ad) H locs → lv_has ls 3 [(0, .ref (D 0)), (1, vN (n)), (2, vN (k))] → W p l e { frames := 0, cells := 0, slots := 0, locals := 0 } s m args below meth c H locs 0 0 Qz (F0 m 2 ls []) := by
    intro fu
    induction fu with
    | zero => intro k g hk hz hq H locs ls hfu; exact absurd hfu (Nat.not_lt_zero _)
    | succ fu ih_2 =>
      intro k g hk hz hq H locs ls hfu hw hl
      refine k_iload_n hm hl 2 rfl dX7_laysFirst_2 ?_
      refine k_sipushN hm 205 dX7_laysFirst_3 rfl ?_
      refine k_icmpge (tgt := 22) hm dX7_laysFirst_6 (by decide) (by omega) (fun c_1 => ?_) (fun c_1 => ?_)
      · have hz2 : ∀ j, 5 ≤ j → j < 205 → g j = 0 := fun j a b => hz j a (by omega)
        refine k_aload_n hm hl 0 rfl dX7_laysFirst_22 ?_
        refine k_get (T := TX7) hm hw 0 0 i7 rfl rfl (by decide) (by decide +kernel) rfl dX7_laysFirst_23 ?_
        refine k_iconstN hm 0 dX7_laysFirst_26 ?_
        refine k_lconst (n := 1) hm dX7_laysFirst_27 ?_
        refine k_last hm hw 1 (wMod G D (vp_updL g 0 (lI 1)) pa pn tx tn rf ro wk mb so kd nu it ti rd ad) rfl (by omega) rfl dX7_laysFirst_28 (fun H locs hw => ?_)
        refine k_aload_n hm hl 0 rfl dX7_laysFirst_29 ?_
        refine k_get (T := TX7) hm hw 0 0 i7 rfl rfl (by decide) (by decide +kernel) rfl dX7_laysFirst_30 ?_
        refine k_iconstN hm 5 dX7_laysFirst_33 ?_
        refine k_iload_n hm hl 1 rfl dX7_laysFirst_34 ?_
        refine k_i2l hm dX7_laysFirst_35 (by omega) ?_
        refine k_last hm hw 1 (wMod G D (vp_updL (vp_updL g 0 (lI 1)) 5 (lI ((n : Nat) : Int))) pa pn tx tn rf ro wk mb so kd nu it ti rd ad) rfl (by omega) rfl dX7_laysFirst_36 (fun H locs hw => ?_)
        exact k_vret hm hQ rfl hw (⟨_, rfl, rfl, (by
                              refine ⟨PVd_ring hn (fun k hk => (h2 k hk).2), by rw [updL_n (by omega), updL_s]; rfl, by rw [updL_n (by omega), updL_n (by omega), hq 1 (by omega)]; exact h1, fun k hk => by rw [updL_n (by omega), updL_n (by omega), hq (2 + k) (by omega)]; exact (h2 k hk).1, fun r hr => ?_⟩
                              have e : r = 0 := by omega
                              subst e
                              refine ⟨by rw [updL_s], fun i hi => ?_⟩
                              dsimp only at hi
                              rw [updL_n (by omega), updL_n (by omega), hz2 (45 + 4 * 0 + i / 32) (by omega) (by omega), fd_0 (by omega)]
                              exact lI_0.symm)⟩) (by omega) (by omega) dX7_laysFirst_37
      · refine k_aload_n hm hl 0 rfl dX7_laysFirst_9 ?_
        refine k_get (T := TX7) hm hw 0 0 i7 rfl rfl (by decide) (by decide +kernel) rfl dX7_laysFirst_10 ?_
        refine k_iload_n hm hl 2 rfl dX7_laysFirst_13 ?_
        refine k_lconst (n := 0) hm dX7_laysFirst_14 ?_
        refine k_last hm hw 1 (wMod G D (vp_updL g k (lI 0)) pa pn tx tn rf ro wk mb so kd nu it ti rd ad) rfl (by omega) rfl dX7_laysFirst_15 (fun H locs hw => ?_)
        refine k_iincN hm hl 2 1 rfl [(2, vN (k + 1)), (0, .ref (D 0)), (1, vN (n))] (by decide) rfl dX7_laysFirst_16 (fun ls hl => ?_)
        refine k_goto (tgt := 2) hm dX7_laysFirst_19 (by decide) ?_
        exact ih_2  (k + 1) (vp_updL g k (lI 0)) (by first | assumption | omega) (fun j z q => by rcases Nat.lt_or_ge j k with z2 | z2; rw [updL_n (by omega)]; exact hz j z z2; rw [show j = k by omega, updL_s]; exact lI_0) (fun q z => by rw [updL_n (by omega)]; exact hq q z) _ _ _ (by omega) hw (lv_sub hl [1, 2, 0] rfl)
  exact loop_2 (205 - 5 + 1) 5 sa (by first | assumption | omega) (fun j z q => absurd q (by omega)) (fun _ _ => rfl) _ _ _ (Nat.lt_succ_self _) hw (lv_sub hl [1, 2, 0] rfl)
set_option maxHeartbeats 4000000 in
set_option maxRecDepth 100000 in
theorem c_m_saves (l : Launch) (G : kG) (D : Nat → Nat) (sa : Nat → Int64) (pa : Nat → Int64) (pn : Nat) (tx : Nat → Nat) (tn : Nat) (rf : Nat) (ro : Nat → Nat) (wk : Nat) (mb : Nat → Nat) (so : Nat) (kd : Nat → Nat) (nu : Nat → Nat) (it : Nat) (ti : Nat) (rd : Nat) (ad : Nat → Int64) (R : Nat) (sp : Bool) (K : Nat → Nat → Nat) (w : Nat → Nat) (y : Nat → Nat) (sv : Nat → PSt) (hmo : MOk sa R sp K w y) (hpa : PaOk pa pn sv) : kCM l yX7_saves wsX7_saves 0 0 0 0 G [.ref (D 0)] (wMod G D sa pa pn tx tn rf ro wk mb so kd nu it ti rd ad) (fun vv uu => ∃ (pa2 : Nat → Int64), vv = none ∧ uu = wMod G D sa pa2 (Nat.min (pn + 1) 4) tx tn rf ro wk mb so kd nu it ti rd ad ∧ (PaOk pa2 (Nat.min (pn + 1) 4) (svPush (R, sp, K, w, y) sv))) := by
  refine kCM.of (cc := cX7_saves) (maxL := 2) (ret := none) (by decide) rfl (Nat.le_of_ble_eq_true rfl) ?_
  intro p e s m args below meth c A ls Qz hQ hin hm hw hl
  have hl : lv_has ls 2 [(0, .ref (D 0))] := hl
  have i7 : ∀ w ∈ wsX70, w ∈ wsX7_saves := by decide +kernel
  have hpn := hpa.1
  refine k_aload_n hm hl 0 rfl dX7_saves_0 ?_
  refine k_get (T := TX7) hm hw 0 2 i7 rfl rfl (by decide) (by decide +kernel) rfl dX7_saves_1 ?_
  refine k_iconstN hm 4 dX7_saves_4 ?_
  refine k_icmpne (tgt := 49) hm dX7_saves_5 (by decide) (by omega) (fun c_1 => ?_) (fun c_1 => ?_)
  · refine k_iconstN hm 0 dX7_saves_49 ?_
    refine k_istore_n hm hl [(1, vN (0)), (0, .ref (D 0))] (by decide) rfl dX7_saves_50 (fun ls hl => ?_)
    have loop_51 : ∀ (fu : Nat) (k2 : Nat) (g2 : Nat → Int64) (hk2 : k2 ≤ 205) (hz2 : ∀ j, j < k2 → g2 (205 * pn + j) = sa j) (hq2 : ∀ j, j < 205 * pn → g2 j = pa j) (H : Heap) (locs : List Loc) (ls : Array Slot), 205 - k2 < fu → kW G A s (wMod G D sa g2 pn tx tn rf ro wk mb so kd nu it ti rd ad) H locs → lv_has ls 2 [(0, .ref (D 0)), (1, vN (k2))] → W p l e { frames := 0, cells := 0, slots := 0, locals := 0 } s m args below meth c H locs 0 0 Qz (F0 m 51 ls []) := by
      intro fu
      induction fu with
      | zero => intro k2 g2 hk2 hz2 hq2 H locs ls hfu; exact absurd hfu (Nat.not_lt_zero _)
      | succ fu ih_51 =>
        intro k2 g2 hk2 hz2 hq2 H locs ls hfu hw hl
        refine k_iload_n hm hl 1 rfl dX7_saves_51 ?_
        refine k_sipushN hm 205 dX7_saves_52 rfl ?_
        refine k_icmpge (tgt := 85) hm dX7_saves_55 (by decide) (by omega) (fun c_2 => ?_) (fun c_2 => ?_)
        · refine k_aload_n hm hl 0 rfl dX7_saves_85 ?_
          refine k_dup hm dX7_saves_86 rfl ?_
          refine k_get (T := TX7) hm hw 0 2 i7 rfl rfl (by decide) (by decide +kernel) rfl dX7_saves_87 ?_
          refine k_iconstN hm 1 dX7_saves_90 ?_
          refine k_iaddN hm dX7_saves_91 ?_
          refine k_put (T := TX7) hm hw 0 2 (wMod G D sa g2 (pn + 1) tx tn rf ro wk mb so kd nu it ti rd ad) i7 tyX7 tyX7_ok nmX7 rfl rfl (by decide) (by decide +kernel) rfl (tyX7_ok 2 (by decide)) rfl rfl (Nat.le_of_ble_eq_true rfl) rfl dX7_saves_92 (fun H locs hw => ?_)
          exact k_vret hm hQ rfl hw (⟨g2, rfl, by rw [show Nat.min (pn + 1) 4 = pn + 1 from Nat.min_eq_left (by omega)], by rw [show Nat.min (pn + 1) 4 = pn + 1 from Nat.min_eq_left (by omega)]; exact PaOk_push hpa hmo (by omega) (fun k hk => hz2 k (by omega)) (fun i k h1 h2 h3 => by rw [hq2 _ (by omega)]; rfl)⟩) (by omega) (by omega) dX7_saves_95
        · refine k_aload_n hm hl 0 rfl dX7_saves_58 ?_
          refine k_get (T := TX7) hm hw 0 1 i7 rfl rfl (by decide) (by decide +kernel) rfl dX7_saves_59 ?_
          refine k_sipushN hm 205 dX7_saves_62 rfl ?_
          refine k_aload_n hm hl 0 rfl dX7_saves_65 ?_
          refine k_get (T := TX7) hm hw 0 2 i7 rfl rfl (by decide) (by decide +kernel) rfl dX7_saves_66 ?_
          refine k_imulN hm dX7_saves_69 ?_
          refine k_iload_n hm hl 1 rfl dX7_saves_70 ?_
          refine k_iaddN hm dX7_saves_71 ?_
          refine k_aload_n hm hl 0 rfl dX7_saves_72 ?_
          refine k_get (T := TX7) hm hw 0 0 i7 rfl rfl (by decide) (by decide +kernel) rfl dX7_saves_73 ?_
          refine k_iload_n hm hl 1 rfl dX7_saves_76 ?_
          refine k_lald hm hw 1 rfl (by omega) dX7_saves_77 ?_
          refine k_last hm hw 2 (wMod G D sa (vp_updL g2 ((205 * pn) + k2) (sa k2)) pn tx tn rf ro wk mb so kd nu it ti rd ad) rfl (by omega) rfl dX7_saves_78 (fun H locs hw => ?_)
          refine k_iincN hm hl 1 1 rfl [(1, vN (k2 + 1)), (0, .ref (D 0))] (by decide) rfl dX7_saves_79 (fun ls hl => ?_)
          refine k_goto (tgt := 51) hm dX7_saves_82 (by decide) ?_
          exact ih_51  (k2 + 1) (vp_updL g2 ((205 * pn) + k2) (sa k2)) (by first | assumption | omega) (fun j q => by rcases Nat.lt_or_ge j k2 with z2 | z2; rw [updL_n (by omega)]; exact hz2 j z2; rw [show j = k2 by omega, updL_s]) (fun j q => by rw [updL_n (by omega)]; exact hq2 j q) _ _ _ (by omega) hw (lv_sub hl [1, 0] rfl)
    exact loop_51 (205 - 0 + 1) 0 pa (by first | assumption | omega) (fun j q => absurd q (by omega)) (fun _ _ => rfl) _ _ _ (Nat.lt_succ_self _) hw (lv_sub hl [1, 0] rfl)
  · refine k_iconstN hm 0 dX7_saves_8 ?_
    refine k_istore_n hm hl [(1, vN (0)), (0, .ref (D 0))] (by decide) rfl dX7_saves_9 (fun ls hl => ?_)
    have loop_10 : ∀ (fu : Nat) (k : Nat) (g : Nat → Int64) (hk : k ≤ 615) (hz : ∀ j, j < k → g j = pa (j + 205)) (hq : ∀ j, k ≤ j → g j = pa j) (H : Heap) (locs : List Loc) (ls : Array Slot), 615 - k < fu → kW G A s (wMod G D sa g pn tx tn rf ro wk mb so kd nu it ti rd ad) H locs → lv_has ls 2 [(0, .ref (D 0)), (1, vN (k))] → W p l e { frames := 0, cells := 0, slots := 0, locals := 0 } s m args below meth c H locs 0 0 Qz (F0 m 10 ls []) := by
      intro fu
      induction fu with
      | zero => intro k g hk hz hq H locs ls hfu; exact absurd hfu (Nat.not_lt_zero _)
      | succ fu ih_10 =>
        intro k g hk hz hq H locs ls hfu hw hl
        refine k_iload_n hm hl 1 rfl dX7_saves_10 ?_
        refine k_sipushN hm 615 dX7_saves_11 rfl ?_
        refine k_icmpge (tgt := 39) hm dX7_saves_14 (by decide) (by omega) (fun c_3 => ?_) (fun c_3 => ?_)
        · refine k_aload_n hm hl 0 rfl dX7_saves_39 ?_
          refine k_dup hm dX7_saves_40 rfl ?_
          refine k_get (T := TX7) hm hw 0 2 i7 rfl rfl (by decide) (by decide +kernel) rfl dX7_saves_41 ?_
          refine k_iconstN hm 1 dX7_saves_44 ?_
          refine k_isubN hm (by omega) dX7_saves_45 ?_
          refine k_put (T := TX7) hm hw 0 2 (wMod G D sa g (pn - 1) tx tn rf ro wk mb so kd nu it ti rd ad) i7 tyX7 tyX7_ok nmX7 rfl rfl (by decide) (by decide +kernel) rfl (tyX7_ok 2 (by decide)) rfl rfl (Nat.le_of_ble_eq_true rfl) rfl dX7_saves_46 (fun H locs hw => ?_)
          have hw : kW G A s (wMod G D sa g 3 tx tn rf ro wk mb so kd nu it ti rd ad) H locs := by have z := hw; rw [show pn - 1 = 3 by omega] at z; exact z
          refine k_iconstN hm 0 dX7_saves_49 ?_
          refine k_istore_n hm hl [(1, vN (0)), (0, .ref (D 0))] (by decide) rfl dX7_saves_50 (fun ls hl => ?_)
          have loop_51 : ∀ (fu : Nat) (k2 : Nat) (g2 : Nat → Int64) (hk2 : k2 ≤ 205) (hz2 : ∀ j, j < k2 → g2 (205 * 3 + j) = sa j) (hq2 : ∀ j, j < 205 * 3 → g2 j = g j) (H : Heap) (locs : List Loc) (ls : Array Slot), 205 - k2 < fu → kW G A s (wMod G D sa g2 3 tx tn rf ro wk mb so kd nu it ti rd ad) H locs → lv_has ls 2 [(0, .ref (D 0)), (1, vN (k2))] → W p l e { frames := 0, cells := 0, slots := 0, locals := 0 } s m args below meth c H locs 0 0 Qz (F0 m 51 ls []) := by
            intro fu
            induction fu with
            | zero => intro k2 g2 hk2 hz2 hq2 H locs ls hfu; exact absurd hfu (Nat.not_lt_zero _)
            | succ fu ih_51 =>
              intro k2 g2 hk2 hz2 hq2 H locs ls hfu hw hl
              refine k_iload_n hm hl 1 rfl dX7_saves_51 ?_
              refine k_sipushN hm 205 dX7_saves_52 rfl ?_
              refine k_icmpge (tgt := 85) hm dX7_saves_55 (by decide) (by omega) (fun c_4 => ?_) (fun c_4 => ?_)
              · refine k_aload_n hm hl 0 rfl dX7_saves_85 ?_
                refine k_dup hm dX7_saves_86 rfl ?_
                refine k_get (T := TX7) hm hw 0 2 i7 rfl rfl (by decide) (by decide +kernel) rfl dX7_saves_87 ?_
                refine k_iconstN hm 1 dX7_saves_90 ?_
                refine k_iaddN hm dX7_saves_91 ?_
                refine k_put (T := TX7) hm hw 0 2 (wMod G D sa g2 (3 + 1) tx tn rf ro wk mb so kd nu it ti rd ad) i7 tyX7 tyX7_ok nmX7 rfl rfl (by decide) (by decide +kernel) rfl (tyX7_ok 2 (by decide)) rfl rfl (Nat.le_of_ble_eq_true rfl) rfl dX7_saves_92 (fun H locs hw => ?_)
                exact k_vret hm hQ rfl hw (⟨g2, rfl, by rw [show Nat.min (pn + 1) 4 = 3 + 1 by rw [show pn = 4 by omega]; rfl], by rw [show Nat.min (pn + 1) 4 = 4 by rw [show pn = 4 by omega]; rfl]; exact PaOk_push hpa hmo (by omega) (fun k hk => hz2 k (by omega)) (fun i k h1 h2 h3 => by rw [hq2 _ (by omega), hz _ (by omega), show 205 * (4 - 1 - i) + k + 205 = 205 * (pn - i) + k by omega])⟩) (by omega) (by omega) dX7_saves_95
              · refine k_aload_n hm hl 0 rfl dX7_saves_58 ?_
                refine k_get (T := TX7) hm hw 0 1 i7 rfl rfl (by decide) (by decide +kernel) rfl dX7_saves_59 ?_
                refine k_sipushN hm 205 dX7_saves_62 rfl ?_
                refine k_aload_n hm hl 0 rfl dX7_saves_65 ?_
                refine k_get (T := TX7) hm hw 0 2 i7 rfl rfl (by decide) (by decide +kernel) rfl dX7_saves_66 ?_
                refine k_imulN hm dX7_saves_69 ?_
                refine k_iload_n hm hl 1 rfl dX7_saves_70 ?_
                refine k_iaddN hm dX7_saves_71 ?_
                refine k_aload_n hm hl 0 rfl dX7_saves_72 ?_
                refine k_get (T := TX7) hm hw 0 0 i7 rfl rfl (by decide) (by decide +kernel) rfl dX7_saves_73 ?_
                refine k_iload_n hm hl 1 rfl dX7_saves_76 ?_
                refine k_lald hm hw 1 rfl (by omega) dX7_saves_77 ?_
                refine k_last hm hw 2 (wMod G D sa (vp_updL g2 ((205 * 3) + k2) (sa k2)) 3 tx tn rf ro wk mb so kd nu it ti rd ad) rfl (by omega) rfl dX7_saves_78 (fun H locs hw => ?_)
                refine k_iincN hm hl 1 1 rfl [(1, vN (k2 + 1)), (0, .ref (D 0))] (by decide) rfl dX7_saves_79 (fun ls hl => ?_)
                refine k_goto (tgt := 51) hm dX7_saves_82 (by decide) ?_
                exact ih_51  (k2 + 1) (vp_updL g2 ((205 * 3) + k2) (sa k2)) (by first | assumption | omega) (fun j q => by rcases Nat.lt_or_ge j k2 with z2 | z2; rw [updL_n (by omega)]; exact hz2 j z2; rw [show j = k2 by omega, updL_s]) (fun j q => by rw [updL_n (by omega)]; exact hq2 j q) _ _ _ (by omega) hw (lv_sub hl [1, 0] rfl)
          exact loop_51 (205 - 0 + 1) 0 g (by first | assumption | omega) (fun j q => absurd q (by omega)) (fun _ _ => rfl) _ _ _ (Nat.lt_succ_self _) hw (lv_sub hl [1, 0] rfl)
        · refine k_aload_n hm hl 0 rfl dX7_saves_17 ?_
          refine k_get (T := TX7) hm hw 0 1 i7 rfl rfl (by decide) (by decide +kernel) rfl dX7_saves_18 ?_
          refine k_iload_n hm hl 1 rfl dX7_saves_21 ?_
          refine k_aload_n hm hl 0 rfl dX7_saves_22 ?_
          refine k_get (T := TX7) hm hw 0 1 i7 rfl rfl (by decide) (by decide +kernel) rfl dX7_saves_23 ?_
          refine k_iload_n hm hl 1 rfl dX7_saves_26 ?_
          refine k_sipushN hm 205 dX7_saves_27 rfl ?_
          refine k_iaddN hm dX7_saves_30 ?_
          refine k_lald hm hw 2 rfl (by omega) dX7_saves_31 ?_
          refine k_last hm hw 2 (wMod G D sa (vp_updL g k (g (k + 205))) pn tx tn rf ro wk mb so kd nu it ti rd ad) rfl (by omega) rfl dX7_saves_32 (fun H locs hw => ?_)
          refine k_iincN hm hl 1 1 rfl [(1, vN (k + 1)), (0, .ref (D 0))] (by decide) rfl dX7_saves_33 (fun ls hl => ?_)
          refine k_goto (tgt := 10) hm dX7_saves_36 (by decide) ?_
          exact ih_10  (k + 1) (vp_updL g k (g (k + 205))) (by first | assumption | omega) (fun j q => by rcases Nat.lt_or_ge j k with z2 | z2; rw [updL_n (by omega)]; exact hz j z2; rw [show j = k by omega, updL_s]; exact hq (k + 205) (by omega)) (fun j q => by rw [updL_n (by omega)]; exact hq j (by omega)) _ _ _ (by omega) hw (lv_sub hl [1, 0] rfl)
    exact loop_10 (615 - 0 + 1) 0 pa (by first | assumption | omega) (fun j q => absurd q (by omega)) (fun _ _ => rfl) _ _ _ (Nat.lt_succ_self _) hw (lv_sub hl [1, 0] rfl)
