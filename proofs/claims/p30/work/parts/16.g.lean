set_option maxHeartbeats 4000000 in
set_option maxRecDepth 100000 in
theorem c_further (l : Launch) (G : kG) (x : Nat) (k : Nat) (g : Bool) (h : x ≤ 1000 ∧ k ≤ 1000) : kCR l yX4_further wsX4_further 1 21 G [vN (x), vN (k), vB (g)] ([]) (fun vv => vv = some (vN (fur x k g))) := by
  refine kCM.of (cc := cX4_further) (maxL := 3) (ret := (some .int)) (by decide) rfl (Nat.le_of_ble_eq_true rfl) ?_
  intro p e s m args below meth c A ls Qz hQ hin hm hw hl
  have hl : lv_has ls 3 [(0, vN (x)), (1, vN (k)), (2, vB (g))] := hl
  refine k_iload_n hm hl 0 rfl dX4_further_0 ?_
  refine k_ifne (tgt := 6) hm dX4_further_1 (by decide) (by omega) (fun c_1 => ?_) (fun c_1 => ?_)
  · refine k_iload_n hm hl 2 rfl dX4_further_6 ?_
    refine k_ifeqB (tgt := 18) hm dX4_further_7 (by decide) (fun c_2 => ?_) (fun c_2 => ?_)
    · refine k_iload_n hm hl 0 rfl dX4_further_18 ?_
      refine k_iload_n hm hl 1 rfl dX4_further_19 ?_
      refine k_mminN hm hl (by decide +kernel) (by decide +kernel) (by decide +kernel) (by decide +kernel) (by decide) (by simp [Value.category]) (by decide) (by decide) (by omega) dX4_further_20 ?_
      exact k_iret (post := _) hm hQ rfl rfl hw (⟨by unfold fur; rw [if_neg (by omega), if_neg (by rw [c_2]; decide)], rfl⟩) (by omega) (by omega) dX4_further_23
    · refine k_iload_n hm hl 0 rfl dX4_further_10 ?_
      refine k_iload_n hm hl 1 rfl dX4_further_11 ?_
      refine k_mmaxN hm hl (by decide +kernel) (by decide +kernel) (by decide +kernel) (by decide +kernel) (by decide) (by simp [Value.category]) (by decide) (by decide) (by omega) dX4_further_12 ?_
      refine k_goto (tgt := 23) hm dX4_further_15 (by decide) ?_
      exact k_iret (post := _) hm hQ rfl rfl hw (⟨by unfold fur; rw [if_neg (by omega), if_pos c_2], rfl⟩) (by omega) (by omega) dX4_further_23
  · refine k_iload_n hm hl 1 rfl dX4_further_4 ?_
    exact k_iret (post := _) hm hQ rfl rfl hw (⟨by unfold fur; rw [if_pos (by omega)], rfl⟩) (by omega) (by omega) dX4_further_5
set_option maxHeartbeats 4000000 in
set_option maxRecDepth 100000 in
theorem c_distance (l : Launch) (G : kG) (P : Nat → Nat) (gk : Nat → Nat) (gw : Nat → Nat) (gt : Nat → Nat) (gy : Nat → Nat) (R : Nat) (sp : Bool) (K : Nat → Nat → Nat) (w : Nat → Nat) (y : Nat → Nat) (r : Nat) (g : Bool) (hok : POk gk gw gt gy R K w y) (hr : r < R) : kCR l yX4_distance wsX4_distance 2 43 G [.ref (P 0), vN (r), vB (g)] (wPiece G P gk gw gt gy R sp) (fun vv => ∃ (d : Nat), vv = some (vN (d)) ∧ (isDs (K r) (w r) g d) ∧ (d ≤ 120)) := by
  refine kCM.of (cc := cX4_distance) (maxL := 8) (ret := (some .int)) (by decide) rfl (Nat.le_of_ble_eq_true rfl) ?_
  intro p e s m args below meth c A ls Qz hQ hin hm hw hl
  have hl : lv_has ls 8 [(0, .ref (P 0)), (1, vN (r)), (2, vB (g))] := hl
  have i4 : ∀ w ∈ wsX40, w ∈ wsX4_distance := by decide +kernel
  have hk := hok.2.1 r hr
  have hb := hok.1.2.1 r hr
  have hR := hok.1.1
  refine k_aload_n hm hl 0 rfl dX4_distance_0 ?_
  refine k_get (T := TX4) hm hw 0 1 i4 rfl rfl (by decide) (by decide +kernel) rfl dX4_distance_1 ?_
  refine k_iload_n hm hl 1 rfl dX4_distance_4 ?_
  refine k_callVr (n := 1) (As := [vN (r)]) (rest := []) hm hw hl (c_Num_at l G (P 3) (P 4) 40 gw r (by first | assumption | omega)) gX4_distance_X2_at rfl (by decide +kernel) ⟨by decide, by decide⟩ (ci := 2) rfl 3 rfl [3, 4] (by decide) rfl rfl rfl (by simp [Value.category]) ⟨by decide, by decide⟩ dX4_distance_5 (fun v H locs hp hw => ?_)
  obtain rfl := hp
  refine W.eq (g2 := F0 m 8 ls [vN (gw r)]) rfl ?_
  refine k_rwV (y := vN (w r)) (by rw [hk.1]) ?_
  refine k_istore_n hm hl [(3, vN (w r)), (0, .ref (P 0)), (1, vN (r)), (2, vB (g))] (by decide) rfl dX4_distance_8 (fun ls hl => ?_)
  refine k_iconst (n := -1) hm dX4_distance_9 ?_
  refine k_istore hm hl [(4, vZ (-1)), (3, vN (w r)), (0, .ref (P 0)), (1, vN (r)), (2, vB (g))] (by decide) rfl dX4_distance_10 (fun ls hl => ?_)
  refine k_iconst (n := -1) hm dX4_distance_12 ?_
  refine k_istore hm hl [(5, vZ (-1)), (4, vZ (-1)), (3, vN (w r)), (0, .ref (P 0)), (1, vN (r)), (2, vB (g))] (by decide) rfl dX4_distance_13 (fun ls hl => ?_)
  refine k_iconstN hm 0 dX4_distance_15 ?_
  refine k_istore hm hl [(6, vN (0)), (5, vZ (-1)), (4, vZ (-1)), (3, vN (w r)), (0, .ref (P 0)), (1, vN (r)), (2, vB (g))] (by decide) rfl dX4_distance_16 (fun ls hl => ?_)
  refine k_iconstN hm 0 dX4_distance_18 ?_
  refine k_istore hm hl [(7, vN (0)), (6, vN (0)), (5, vZ (-1)), (4, vZ (-1)), (3, vN (w r)), (0, .ref (P 0)), (1, vN (r)), (2, vB (g))] (by decide) rfl dX4_distance_19 (fun ls hl => ?_)
  have loop_21 : ∀ (fu : Nat) (fi : Int) (la : Int) (ch : Nat) (i : Nat) (hi : i ≤ w r) (hv : dInv (K r) g i fi la ch) (hfr : -1 ≤ fi ∧ fi ≤ 200 ∧ -1 ≤ la ∧ la ≤ 200) (H : Heap) (locs : List Loc) (ls : Array Slot), w r - i < fu → kW G A s (wPiece G P gk gw gt gy R sp) H locs → lv_has ls 8 [(0, .ref (P 0)), (1, vN (r)), (2, vB (g)), (3, vN (w r)), (4, vZ (fi)), (5, vZ (la)), (6, vN (ch)), (7, vN (i))] → W p l e { frames := 2, cells := 0, slots := 0, locals := 43 } s m args below meth c H locs 0 0 Qz (F0 m 21 ls []) := by
    intro fu
    induction fu with
    | zero => intro fi la ch i hi hv hfr H locs ls hfu; exact absurd hfu (Nat.not_lt_zero _)
    | succ fu ih_21 =>
      intro fi la ch i hi hv hfr H locs ls hfu hw hl
      refine k_iload hm hl 7 rfl dX4_distance_21 ?_
      refine k_iload_n hm hl 3 rfl dX4_distance_23 ?_
      refine k_icmpge (tgt := 73) hm dX4_distance_24 (by decide) (by omega) (fun c_2 => ?_) (fun c_2 => ?_)
      · refine k_iload hm hl 4 rfl dX4_distance_73 ?_
        refine k_iload hm hl 5 rfl dX4_distance_75 ?_
        refine k_icmpne (tgt := 84) hm dX4_distance_77 (by decide) (by omega) (fun c_3 => ?_) (fun c_3 => ?_)
        · obtain ⟨a, b, rfl, rfl, hsm⟩ : ∃ a b : Nat, fi = (a : Int) ∧ la = (b : Int) ∧ dSome (K r) g i a b ch := hv.2.elim (fun z => absurd (z.1.trans z.2.1.symm) c_3) (fun z => z)
          have hbi := hsm.2.1
          have hab := hsm.1
          have hch := hv.1
          have hend := (dSome_end hsm).2 (by omega)
          have hwi : w r = i := by omega
          refine k_iload hm hl 6 rfl dX4_distance_84 ?_
          refine k_iload hm hl 4 rfl dX4_distance_86 ?_
          refine k_iload_n hm hl 3 rfl dX4_distance_88 ?_
          refine k_iaddN hm dX4_distance_89 ?_
          refine k_iload hm hl 5 rfl dX4_distance_90 ?_
          refine k_isubN hm (by omega) dX4_distance_92 ?_
          refine k_iload_n hm hl 2 rfl dX4_distance_93 ?_
          refine k_callSr (n := 3) (As := [vN (ch), vN ((a + (w r)) - b), vB (g)]) (rest := []) hm hw hl (c_further l G ch ((a + (w r)) - b) g (by first | assumption | omega)) gX4_distance_X4_further rfl (by decide +kernel) ⟨by decide, by decide⟩ [] (by decide) rfl rfl rfl (by simp [Value.category]) ⟨by decide, by decide⟩ dX4_distance_94 (fun v H locs hp hw => ?_)
          obtain rfl := hp
          refine W.eq (g2 := F0 m 97 ls [vN (fur ch ((a + (w r)) - b) g)]) rfl ?_
          exact k_iret (post := _) hm hQ rfl rfl hw (⟨⟨_, rfl, by rw [hwi]; exact hend, fur_le hch (by omega)⟩, rfl⟩) (by omega) (by omega) dX4_distance_97
        · have hend : isDs (K r) (w r) g 0 := by rw [show w r = i by omega]; exact hv.2.elim (fun z => dNone_end z.2.2.2) (fun ⟨a, b, z1, z2, z3⟩ => (dSome_end z3).1 (by omega))
          refine k_iconstN hm 0 dX4_distance_80 ?_
          refine k_goto (tgt := 97) hm dX4_distance_81 (by decide) ?_
          exact k_iret (post := _) hm hQ rfl rfl hw (⟨⟨0, rfl, hend, by omega⟩, rfl⟩) (by omega) (by omega) dX4_distance_97
      · refine k_aload_n hm hl 0 rfl dX4_distance_27 ?_
        refine k_iload_n hm hl 1 rfl dX4_distance_28 ?_
        refine k_iload hm hl 7 rfl dX4_distance_29 ?_
        refine k_callVr (n := 2) (As := [vN (r), vN (i)]) (rest := []) hm hw hl (c_kindOf l G P gk gw gt gy R sp K w y r i (by first | assumption | omega) (by first | assumption | omega) (by first | assumption | omega)) gX4_distance_X4_kindOf rfl (by decide +kernel) ⟨by decide, by decide⟩ (ci := 4) rfl 0 rfl [0, 1, 2, 3, 4, 5, 6, 7, 8] (by decide) rfl rfl rfl (by simp [Value.category]) ⟨by decide, by decide⟩ dX4_distance_31 (fun v H locs hp hw => ?_)
        obtain rfl := hp
        refine W.eq (g2 := F0 m 34 ls [vN (K r i)]) rfl ?_
        have h2 := hb.2.2 i (by omega)
        refine k_ifeq (tgt := 67) hm dX4_distance_34 (by decide) (by omega) (fun c_6 => ?_) (fun c_6 => ?_)
        · have hc0 : K r i = 0 := by omega
          have hvS : K r i = 0 → ((fi = -1 ∧ la = -1 ∧ ch = 0 ∧ ∀ j, j < i + 1 → K r j = 0) ∨ ∃ a b : Nat, fi = (a : Int) ∧ la = (b : Int) ∧ dSome (K r) g (i + 1) a b ch) := fun q => hv.2.elim (fun z => Or.inl ⟨z.1, z.2.1, z.2.2.1, fun j hj => by rcases Nat.lt_or_ge j i with y1 | y1; exact z.2.2.2 j y1; rw [show j = i by omega]; exact q⟩) (fun ⟨a, b, z1, z2, z3⟩ => Or.inr ⟨a, b, z1, z2, dSome_skip z3 q⟩)
          refine k_iincN hm hl 7 1 rfl [(7, vN (i + 1)), (0, .ref (P 0)), (1, vN (r)), (2, vB (g)), (3, vN (w r)), (4, vZ (fi)), (5, vZ (la)), (6, vN (ch))] (by decide) rfl dX4_distance_67 (fun ls hl => ?_)
          refine k_goto (tgt := 21) hm dX4_distance_70 (by decide) ?_
          exact ih_21  fi la ch (i + 1) (by first | assumption | omega) ⟨hv.1, hvS hc0⟩ (by first | assumption | omega) _ _ _ (by omega) hw (lv_sub hl [1, 2, 3, 4, 5, 6, 7, 0] rfl)
        · refine k_iload hm hl 5 rfl dX4_distance_37 ?_
          refine k_iconst (n := -1) hm dX4_distance_39 ?_
          refine k_icmpne (tgt := 50) hm dX4_distance_40 (by decide) (by omega) (fun c_7 => ?_) (fun c_7 => ?_)
          · have hc0 : ¬ K r i = 0 := by omega
            obtain ⟨a, b, rfl, rfl, hsm⟩ : ∃ a b : Nat, fi = (a : Int) ∧ la = (b : Int) ∧ dSome (K r) g i a b ch := hv.2.elim (fun z => absurd z.2.1 c_7) (fun z => z)
            have hbi := hsm.2.1
            have hch := hv.1
            refine k_iload hm hl 6 rfl dX4_distance_50 ?_
            refine k_iload hm hl 7 rfl dX4_distance_52 ?_
            refine k_iload hm hl 5 rfl dX4_distance_54 ?_
            refine k_isubN hm (by omega) dX4_distance_56 ?_
            refine k_iload_n hm hl 2 rfl dX4_distance_57 ?_
            refine k_callSr (n := 3) (As := [vN (ch), vN (i - b), vB (g)]) (rest := []) hm hw hl (c_further l G ch (i - b) g (by first | assumption | omega)) gX4_distance_X4_further rfl (by decide +kernel) ⟨by decide, by decide⟩ [] (by decide) rfl rfl rfl (by simp [Value.category]) ⟨by decide, by decide⟩ dX4_distance_58 (fun v H locs hp hw => ?_)
            obtain rfl := hp
            refine W.eq (g2 := F0 m 61 ls [vN (fur ch (i - b) g)]) rfl ?_
            refine k_istore hm hl [(6, vN (fur ch (i - b) g)), (0, .ref (P 0)), (1, vN (r)), (2, vB (g)), (3, vN (w r)), (4, vN (a)), (5, vN (b)), (7, vN (i))] (by decide) rfl dX4_distance_61 (fun ls hl => ?_)
            refine k_iload hm hl 7 rfl dX4_distance_63 ?_
            refine k_istore hm hl [(5, vN (i)), (6, vN (fur ch (i - b) g)), (0, .ref (P 0)), (1, vN (r)), (2, vB (g)), (3, vN (w r)), (4, vN (a)), (7, vN (i))] (by decide) rfl dX4_distance_65 (fun ls hl => ?_)
            refine k_iincN hm hl 7 1 rfl [(7, vN (i + 1)), (5, vN (i)), (6, vN (fur ch (i - b) g)), (0, .ref (P 0)), (1, vN (r)), (2, vB (g)), (3, vN (w r)), (4, vN (a))] (by decide) rfl dX4_distance_67 (fun ls hl => ?_)
            refine k_goto (tgt := 21) hm dX4_distance_70 (by decide) ?_
            exact ih_21  ((a : Nat) : Int) ((i : Nat) : Int) (fur ch (i - b) g) (i + 1) (by first | assumption | omega) ⟨fur_le hv.1 (by omega), Or.inr ⟨a, i, rfl, rfl, dSome_add hsm hc0⟩⟩ (by first | assumption | omega) _ _ _ (by omega) hw (lv_sub hl [3, 4, 5, 6, 7, 1, 2, 0] rfl)
          · have hc0 : ¬ K r i = 0 := by omega
            have hno : ∀ j, j < i → K r j = 0 := hv.2.elim (fun z => z.2.2.2) (fun ⟨a, b, z1, z2, z3⟩ => absurd c_7 (by omega))
            have hch0 : ch = 0 := hv.2.elim (fun z => z.2.2.1) (fun ⟨a, b, z1, z2, z3⟩ => absurd c_7 (by omega))
            refine k_iload hm hl 7 rfl dX4_distance_43 ?_
            refine k_istore hm hl [(4, vN (i)), (0, .ref (P 0)), (1, vN (r)), (2, vB (g)), (3, vN (w r)), (5, vZ (la)), (6, vN (ch)), (7, vN (i))] (by decide) rfl dX4_distance_45 (fun ls hl => ?_)
            refine k_goto (tgt := 63) hm dX4_distance_47 (by decide) ?_
            refine k_iload hm hl 7 rfl dX4_distance_63 ?_
            refine k_istore hm hl [(5, vN (i)), (4, vN (i)), (0, .ref (P 0)), (1, vN (r)), (2, vB (g)), (3, vN (w r)), (6, vN (ch)), (7, vN (i))] (by decide) rfl dX4_distance_65 (fun ls hl => ?_)
            refine k_iincN hm hl 7 1 rfl [(7, vN (i + 1)), (5, vN (i)), (4, vN (i)), (0, .ref (P 0)), (1, vN (r)), (2, vB (g)), (3, vN (w r)), (6, vN (ch))] (by decide) rfl dX4_distance_67 (fun ls hl => ?_)
            refine k_goto (tgt := 21) hm dX4_distance_70 (by decide) ?_
            exact ih_21  ((i : Nat) : Int) ((i : Nat) : Int) ch (i + 1) (by first | assumption | omega) ⟨hv.1, Or.inr ⟨i, i, rfl, rfl, by rw [hch0]; exact dSome_0 hc0 hno⟩⟩ (by first | assumption | omega) _ _ _ (by omega) hw (lv_sub hl [3, 4, 5, 6, 2, 1, 7, 0] rfl)
  exact loop_21 (w r - 0 + 1) (-1) (-1) 0 0 (by first | assumption | omega) ⟨by omega, Or.inl ⟨rfl, rfl, rfl, fun j q => absurd q (by omega)⟩⟩ (by omega) _ _ _ (Nat.lt_succ_self _) hw (lv_sub hl [5, 6, 7, 4, 3, 2, 1, 0] rfl)
noncomputable def stkP (K : Nat → Nat → Nat) (w : Nat → Nat) (r : Nat) : Nat := if r = 0 then 0 else nstk (mkF (K (r - 1)) (w (r - 1))) (K r) (w r)
noncomputable def rvN (K : Nat → Nat → Nat) (w y : Nat → Nat) (r : Nat) : Nat → Nat
  | 0 => sumM (K r) (w r)
  | 1 => w r
  | 2 => cnt (K r) 0 (w r)
  | 3 => cnt (K r) 1 (w r)
  | 4 => cnt (K r) 2 (w r)
  | 5 => stkP K w r
  | 6 => miN (K r) (w r)
  | 7 => yrn y (K r) (w r)
  | 8 => dsF (K r) (w r) true
  | 9 => dsF (K r) (w r) false
  | _ => 0
noncomputable def rv (K : Nat → Nat → Nat) (w y : Nat → Nat) (r x : Nat) : Int := if x = 10 then (sumM (K r) (w r) : Int) - (sumM (K 0) (w 0) : Int) * ((r + 1 : Nat) : Int) else (rvN K w y r x : Int)
theorem rv_lt {K : Nat → Nat → Nat} {w y : Nat → Nat} {r x : Nat} (h : x ≠ 10) : rv K w y r x = (rvN K w y r x : Int) := if_neg h
set_option maxHeartbeats 4000000 in
set_option maxRecDepth 100000 in
theorem c_stackedOf (l : Launch) (G : kG) (o : Nat) (h : Nat) (T : Nat → Nat) (L : Nat → Nat) (M : Nat → Nat) (mf : Nat → Nat) (P : Nat → Nat) (gk : Nat → Nat) (gw : Nat → Nat) (gt : Nat → Nat) (gy : Nat → Nat) (R : Nat) (sp : Bool) (K : Nat → Nat → Nat) (w : Nat → Nat) (y : Nat → Nat) (r : Nat) (hok : POk gk gw gt gy R K w y) (hr : r < R) : kCM l yX6_stackedOf wsX6_stackedOf 2 51 0 0 G [.ref (o), vN (r)] (wMain G o P h T L M ++ (wPiece G P gk gw gt gy R sp ++ wMk G M mf)) (fun vv uu => ∃ (mf2 : Nat → Nat), vv = some (vN (stkP K w r)) ∧ uu = wMain G o P h T L M ++ (wPiece G P gk gw gt gy R sp ++ wMk G M mf2)) := by
  refine kCM.of (cc := cX6_stackedOf) (maxL := 2) (ret := (some .int)) (by decide) rfl (Nat.le_of_ble_eq_true rfl) ?_
  intro p e s m args below meth c A ls Qz hQ hin hm hw hl
  have hl : lv_has ls 2 [(0, .ref (o)), (1, vN (r))] := hl
  have i4 : ∀ w ∈ wsX40, w ∈ wsX6_stackedOf := by decide +kernel
  have i6 : ∀ w ∈ wsX60, w ∈ wsX6_stackedOf := by decide +kernel
  have hk := hok.2.1 r hr
  have hb := hok.1.2.1 r hr
  have hR := hok.1.1
  refine k_iload_n hm hl 1 rfl dX6_stackedOf_0 ?_
  refine k_ifne (tgt := 6) hm dX6_stackedOf_1 (by decide) (by omega) (fun c_1 => ?_) (fun c_1 => ?_)
  · have hU : sumU (K r) (w r) = sumM (K (r - 1)) (w (r - 1)) := by have q := hok.1.2.2.1 (r - 1) (by omega); rw [show r - 1 + 1 = r by omega] at q; exact q
    have hl1 := (hok.1.2.1 (r - 1) (by omega)).2.1
    refine k_aload_n hm hl 0 rfl dX6_stackedOf_6 ?_
    refine k_get (T := TX6) hm hw 0 4 i6 rfl rfl (by decide) (by decide +kernel) rfl dX6_stackedOf_7 ?_
    refine k_aload_n hm hl 0 rfl dX6_stackedOf_10 ?_
    refine k_get (T := TX6) hm hw 0 0 i6 rfl rfl (by decide) (by decide +kernel) rfl dX6_stackedOf_11 ?_
    refine k_iload_n hm hl 1 rfl dX6_stackedOf_14 ?_
    refine k_iconstN hm 1 dX6_stackedOf_15 ?_
    refine k_isubN hm (by omega) dX6_stackedOf_16 ?_
    refine k_callV (n := 2) (As := [.ref (P 0), vN (r - 1)]) (rest := []) (wr := [(o, .inr (6, [.ref (P 0), .ref (h), .ref (T 0), .ref (L 0), .ref (M 0)]))]) hm hw hl (c_load l G M mf P gk gw gt gy R sp K w y (r - 1) (by first | assumption | omega) (by first | assumption | omega)) gX6_stackedOf_X1_load rfl (by decide +kernel) ⟨by decide, by decide⟩ (ci := 1) rfl 10 rfl [10, 11, 12, 1, 2, 3, 4, 5, 6, 7, 8, 9] [0] (by decide) rfl rfl (by decide) (by decide) rfl rfl (by simp [Value.category]) ⟨by decide, by decide⟩ dX6_stackedOf_17 (fun v w1 H locs hp hw => ?_)
    obtain ⟨mf2_3, rfl, rfl, hmk_4⟩ := hp
    have hw := hw.sub (ws' := wMain G o P h T L M ++ (wPiece G P gk gw gt gy R sp ++ wMk G M mf2_3)) [0, 4, 5, 6, 7, 8, 9, 10, 11, 12, 1, 2, 3] (by decide) rfl
    refine W.eq (g2 := F0 m 20 ls []) rfl ?_
    have hmk := hmk_4
    refine k_aload_n hm hl 0 rfl dX6_stackedOf_20 ?_
    refine k_get (T := TX6) hm hw 0 4 i6 rfl rfl (by decide) (by decide +kernel) rfl dX6_stackedOf_21 ?_
    refine k_aload_n hm hl 0 rfl dX6_stackedOf_24 ?_
    refine k_get (T := TX6) hm hw 0 0 i6 rfl rfl (by decide) (by decide +kernel) rfl dX6_stackedOf_25 ?_
    refine k_get (T := TX4) hm hw 1 0 i4 rfl rfl (by decide) (by decide +kernel) rfl dX6_stackedOf_28 ?_
    refine k_iload_n hm hl 1 rfl dX6_stackedOf_31 ?_
    refine k_bipushN hm 120 dX6_stackedOf_32 rfl ?_
    refine k_imulN hm dX6_stackedOf_34 ?_
    refine k_aload_n hm hl 0 rfl dX6_stackedOf_35 ?_
    refine k_get (T := TX6) hm hw 0 0 i6 rfl rfl (by decide) (by decide +kernel) rfl dX6_stackedOf_36 ?_
    refine k_get (T := TX4) hm hw 1 1 i4 rfl rfl (by decide) (by decide +kernel) rfl dX6_stackedOf_39 ?_
    refine k_iload_n hm hl 1 rfl dX6_stackedOf_42 ?_
    refine k_callVr (n := 1) (As := [vN (r)]) (rest := [vN (r * 120), .ref (P 1), .ref (M 0)]) hm hw hl (c_Num_at l G (P 3) (P 4) 40 gw r (by first | assumption | omega)) gX6_stackedOf_X2_at rfl (by decide +kernel) ⟨by decide, by decide⟩ (ci := 2) rfl 4 rfl [4, 5] (by decide) rfl rfl rfl (by simp [Value.category]) ⟨by decide, by decide⟩ dX6_stackedOf_43 (fun v H locs hp hw => ?_)
    obtain rfl := hp
    refine W.eq (g2 := F0 m 46 ls [vN (gw r), vN (r * 120), .ref (P 1), .ref (M 0)]) rfl ?_
    refine k_rwV (y := vN (w r)) (by rw [hk.1]) ?_
    refine k_iconstN hm 0 dX6_stackedOf_46 ?_
    refine k_callVr (n := 4) (As := [.ref (P 1), vN (r * 120), vN (w r), vN (0)]) (rest := []) hm hw hl (c_stackedIn l G M mf2_3 (P 1) (P 2) 4800 gk (r * 120) (w r) 0 (K r) (by omega) (by
                              intro i q
                              rw [Nat.add_zero, Nat.mod_eq_of_lt q]
                              exact ⟨hk.2.2 i q, hb.2.2 i q⟩) (by omega) (fun x q => mkOk_le hok.1 (show r - 1 < R by omega) hmk x (by rw [← hU]; exact q))) gX6_stackedOf_X1_stackedIn rfl (by decide +kernel) ⟨by decide, by decide⟩ (ci := 1) rfl 10 rfl [10, 11, 12, 2, 3] (by decide) rfl rfl rfl (by simp [Value.category]) ⟨by decide, by decide⟩ dX6_stackedOf_47 (fun v H locs hp hw => ?_)
    obtain rfl := hp
    refine W.eq (g2 := F0 m 50 ls [vN (nstk mf2_3 (K r) (w r))]) rfl ?_
    exact k_iret (post := _) hm hQ rfl rfl hw (⟨_, by unfold stkP; rw [if_neg (by omega), nstk_mk hmk (by omega)], rfl⟩) (by omega) (by omega) dX6_stackedOf_50
  · refine k_iconstN hm 0 dX6_stackedOf_4 ?_
    exact k_iret (post := _) hm hQ rfl rfl hw (⟨mf, by unfold stkP; rw [if_pos (by omega)], rfl⟩) (by omega) (by omega) dX6_stackedOf_5
set_option maxHeartbeats 4000000 in
set_option maxRecDepth 100000 in
theorem c_ofRound_0 (l : Launch) (G : kG) (o : Nat) (h : Nat) (T : Nat → Nat) (L : Nat → Nat) (M : Nat → Nat) (mf : Nat → Nat) (P : Nat → Nat) (gk : Nat → Nat) (gw : Nat → Nat) (gt : Nat → Nat) (gy : Nat → Nat) (R : Nat) (sp : Bool) (K : Nat → Nat → Nat) (w : Nat → Nat) (y : Nat → Nat) (r : Nat) (hok : POk gk gw gt gy R K w y) (hr : r < R) : kCM l yX6_ofRound wsX6_ofRound 3 72 0 0 G [.ref (o), vN (r), vN (0)] (wMain G o P h T L M ++ (wPiece G P gk gw gt gy R sp ++ wMk G M mf)) (fun vv uu => ∃ (mf2 : Nat → Nat), vv = some (vN (rvN K w y r 0)) ∧ uu = wMain G o P h T L M ++ (wPiece G P gk gw gt gy R sp ++ wMk G M mf2)) := by
  refine kCM.of (cc := cX6_ofRound) (maxL := 3) (ret := (some .int)) (by decide) rfl (Nat.le_of_ble_eq_true rfl) ?_
  intro p e s m args below meth c A ls Qz hQ hin hm hw hl
  have hl : lv_has ls 3 [(0, .ref (o)), (1, vN (r)), (2, vN (0))] := hl
  have i4 : ∀ w ∈ wsX40, w ∈ wsX6_ofRound := by decide +kernel
  have i6 : ∀ w ∈ wsX60, w ∈ wsX6_ofRound := by decide +kernel
  have hk := hok.2.1 r hr
  have hb := hok.1.2.1 r hr
  have hR := hok.1.1
  have hk0 := hok.2.1 0 (by omega)
  refine k_iload_n hm hl 2 rfl dX6_ofRound_0 ?_
  refine k_tsw (x := 0) (tgt := 56) hm dX6_ofRound_1 (by decide) (by decide) (by decide) rfl (by decide) ?_
  refine k_aload_n hm hl 0 rfl dX6_ofRound_56 ?_
  refine k_get (T := TX6) hm hw 0 0 i6 rfl rfl (by decide) (by decide +kernel) rfl dX6_ofRound_57 ?_
  refine k_get (T := TX4) hm hw 1 2 i4 rfl rfl (by decide) (by decide +kernel) rfl dX6_ofRound_60 ?_
  refine k_iload_n hm hl 1 rfl dX6_ofRound_63 ?_
  refine k_callVr (n := 1) (As := [vN (r)]) (rest := []) hm hw hl (c_Num_at l G (P 5) (P 6) 40 gt r (by first | assumption | omega)) gX6_ofRound_X2_at rfl (by decide +kernel) ⟨by decide, by decide⟩ (ci := 2) rfl 6 rfl [6, 7] (by decide) rfl rfl rfl (by simp [Value.category]) ⟨by decide, by decide⟩ dX6_ofRound_64 (fun v H locs hp hw => ?_)
  obtain rfl := hp
  refine W.eq (g2 := F0 m 67 ls [vN (gt r)]) rfl ?_
  exact k_iret (post := _) hm hQ rfl rfl hw (⟨mf, by rw [hk.2.1]; rfl, rfl⟩) (by omega) (by omega) dX6_ofRound_67
set_option maxHeartbeats 4000000 in
set_option maxRecDepth 100000 in
theorem c_ofRound_1 (l : Launch) (G : kG) (o : Nat) (h : Nat) (T : Nat → Nat) (L : Nat → Nat) (M : Nat → Nat) (mf : Nat → Nat) (P : Nat → Nat) (gk : Nat → Nat) (gw : Nat → Nat) (gt : Nat → Nat) (gy : Nat → Nat) (R : Nat) (sp : Bool) (K : Nat → Nat → Nat) (w : Nat → Nat) (y : Nat → Nat) (r : Nat) (hok : POk gk gw gt gy R K w y) (hr : r < R) : kCM l yX6_ofRound wsX6_ofRound 3 72 0 0 G [.ref (o), vN (r), vN (1)] (wMain G o P h T L M ++ (wPiece G P gk gw gt gy R sp ++ wMk G M mf)) (fun vv uu => ∃ (mf2 : Nat → Nat), vv = some (vN (rvN K w y r 1)) ∧ uu = wMain G o P h T L M ++ (wPiece G P gk gw gt gy R sp ++ wMk G M mf2)) := by
  refine kCM.of (cc := cX6_ofRound) (maxL := 3) (ret := (some .int)) (by decide) rfl (Nat.le_of_ble_eq_true rfl) ?_
  intro p e s m args below meth c A ls Qz hQ hin hm hw hl
  have hl : lv_has ls 3 [(0, .ref (o)), (1, vN (r)), (2, vN (1))] := hl
  have i4 : ∀ w ∈ wsX40, w ∈ wsX6_ofRound := by decide +kernel
  have i6 : ∀ w ∈ wsX60, w ∈ wsX6_ofRound := by decide +kernel
  have hk := hok.2.1 r hr
  have hb := hok.1.2.1 r hr
  have hR := hok.1.1
  have hk0 := hok.2.1 0 (by omega)
  refine k_iload_n hm hl 2 rfl dX6_ofRound_0 ?_
  refine k_tsw (x := 1) (tgt := 68) hm dX6_ofRound_1 (by decide) (by decide) (by decide) rfl (by decide) ?_
  refine k_aload_n hm hl 0 rfl dX6_ofRound_68 ?_
  refine k_get (T := TX6) hm hw 0 0 i6 rfl rfl (by decide) (by decide +kernel) rfl dX6_ofRound_69 ?_
  refine k_get (T := TX4) hm hw 1 1 i4 rfl rfl (by decide) (by decide +kernel) rfl dX6_ofRound_72 ?_
  refine k_iload_n hm hl 1 rfl dX6_ofRound_75 ?_
  refine k_callVr (n := 1) (As := [vN (r)]) (rest := []) hm hw hl (c_Num_at l G (P 3) (P 4) 40 gw r (by first | assumption | omega)) gX6_ofRound_X2_at rfl (by decide +kernel) ⟨by decide, by decide⟩ (ci := 2) rfl 4 rfl [4, 5] (by decide) rfl rfl rfl (by simp [Value.category]) ⟨by decide, by decide⟩ dX6_ofRound_76 (fun v H locs hp hw => ?_)
  obtain rfl := hp
  refine W.eq (g2 := F0 m 79 ls [vN (gw r)]) rfl ?_
  exact k_iret (post := _) hm hQ rfl rfl hw (⟨mf, by rw [hk.1]; rfl, rfl⟩) (by omega) (by omega) dX6_ofRound_79
set_option maxHeartbeats 4000000 in
set_option maxRecDepth 100000 in
theorem c_ofRound_2 (l : Launch) (G : kG) (o : Nat) (h : Nat) (T : Nat → Nat) (L : Nat → Nat) (M : Nat → Nat) (mf : Nat → Nat) (P : Nat → Nat) (gk : Nat → Nat) (gw : Nat → Nat) (gt : Nat → Nat) (gy : Nat → Nat) (R : Nat) (sp : Bool) (K : Nat → Nat → Nat) (w : Nat → Nat) (y : Nat → Nat) (r : Nat) (hok : POk gk gw gt gy R K w y) (hr : r < R) : kCM l yX6_ofRound wsX6_ofRound 3 72 0 0 G [.ref (o), vN (r), vN (2)] (wMain G o P h T L M ++ (wPiece G P gk gw gt gy R sp ++ wMk G M mf)) (fun vv uu => ∃ (mf2 : Nat → Nat), vv = some (vN (rvN K w y r 2)) ∧ uu = wMain G o P h T L M ++ (wPiece G P gk gw gt gy R sp ++ wMk G M mf2)) := by
  refine kCM.of (cc := cX6_ofRound) (maxL := 3) (ret := (some .int)) (by decide) rfl (Nat.le_of_ble_eq_true rfl) ?_
  intro p e s m args below meth c A ls Qz hQ hin hm hw hl
  have hl : lv_has ls 3 [(0, .ref (o)), (1, vN (r)), (2, vN (2))] := hl
  have i4 : ∀ w ∈ wsX40, w ∈ wsX6_ofRound := by decide +kernel
  have i6 : ∀ w ∈ wsX60, w ∈ wsX6_ofRound := by decide +kernel
  have hk := hok.2.1 r hr
  have hb := hok.1.2.1 r hr
  have hR := hok.1.1
  have hk0 := hok.2.1 0 (by omega)
  refine k_iload_n hm hl 2 rfl dX6_ofRound_0 ?_
  refine k_tsw (x := 2) (tgt := 80) hm dX6_ofRound_1 (by decide) (by decide) (by decide) rfl (by decide) ?_
  refine k_aload_n hm hl 0 rfl dX6_ofRound_80 ?_
  refine k_get (T := TX6) hm hw 0 0 i6 rfl rfl (by decide) (by decide +kernel) rfl dX6_ofRound_81 ?_
  refine k_iload_n hm hl 1 rfl dX6_ofRound_84 ?_
  refine k_iconstN hm 0 dX6_ofRound_85 ?_
  refine k_callVr (n := 2) (As := [vN (r), vN (0)]) (rest := []) hm hw hl (c_countOf l G P gk gw gt gy R sp K w y r 0 (by first | assumption | omega) (by first | assumption | omega) (by first | assumption | omega)) gX6_ofRound_X4_countOf rfl (by decide +kernel) ⟨by decide, by decide⟩ (ci := 4) rfl 1 rfl [1, 2, 3, 4, 5, 6, 7, 8, 9] (by decide) rfl rfl rfl (by simp [Value.category]) ⟨by decide, by decide⟩ dX6_ofRound_86 (fun v H locs hp hw => ?_)
  obtain rfl := hp
  refine W.eq (g2 := F0 m 89 ls [vN (cnt (K r) 0 (w r))]) rfl ?_
  exact k_iret (post := _) hm hQ rfl rfl hw (⟨mf, rfl, rfl⟩) (by omega) (by omega) dX6_ofRound_89
set_option maxHeartbeats 4000000 in
set_option maxRecDepth 100000 in
theorem c_ofRound_3 (l : Launch) (G : kG) (o : Nat) (h : Nat) (T : Nat → Nat) (L : Nat → Nat) (M : Nat → Nat) (mf : Nat → Nat) (P : Nat → Nat) (gk : Nat → Nat) (gw : Nat → Nat) (gt : Nat → Nat) (gy : Nat → Nat) (R : Nat) (sp : Bool) (K : Nat → Nat → Nat) (w : Nat → Nat) (y : Nat → Nat) (r : Nat) (hok : POk gk gw gt gy R K w y) (hr : r < R) : kCM l yX6_ofRound wsX6_ofRound 3 72 0 0 G [.ref (o), vN (r), vN (3)] (wMain G o P h T L M ++ (wPiece G P gk gw gt gy R sp ++ wMk G M mf)) (fun vv uu => ∃ (mf2 : Nat → Nat), vv = some (vN (rvN K w y r 3)) ∧ uu = wMain G o P h T L M ++ (wPiece G P gk gw gt gy R sp ++ wMk G M mf2)) := by
  refine kCM.of (cc := cX6_ofRound) (maxL := 3) (ret := (some .int)) (by decide) rfl (Nat.le_of_ble_eq_true rfl) ?_
  intro p e s m args below meth c A ls Qz hQ hin hm hw hl
  have hl : lv_has ls 3 [(0, .ref (o)), (1, vN (r)), (2, vN (3))] := hl
  have i4 : ∀ w ∈ wsX40, w ∈ wsX6_ofRound := by decide +kernel
  have i6 : ∀ w ∈ wsX60, w ∈ wsX6_ofRound := by decide +kernel
  have hk := hok.2.1 r hr
  have hb := hok.1.2.1 r hr
  have hR := hok.1.1
  have hk0 := hok.2.1 0 (by omega)
  refine k_iload_n hm hl 2 rfl dX6_ofRound_0 ?_
  refine k_tsw (x := 3) (tgt := 90) hm dX6_ofRound_1 (by decide) (by decide) (by decide) rfl (by decide) ?_
  refine k_aload_n hm hl 0 rfl dX6_ofRound_90 ?_
  refine k_get (T := TX6) hm hw 0 0 i6 rfl rfl (by decide) (by decide +kernel) rfl dX6_ofRound_91 ?_
  refine k_iload_n hm hl 1 rfl dX6_ofRound_94 ?_
  refine k_iconstN hm 1 dX6_ofRound_95 ?_
  refine k_callVr (n := 2) (As := [vN (r), vN (1)]) (rest := []) hm hw hl (c_countOf l G P gk gw gt gy R sp K w y r 1 (by first | assumption | omega) (by first | assumption | omega) (by first | assumption | omega)) gX6_ofRound_X4_countOf rfl (by decide +kernel) ⟨by decide, by decide⟩ (ci := 4) rfl 1 rfl [1, 2, 3, 4, 5, 6, 7, 8, 9] (by decide) rfl rfl rfl (by simp [Value.category]) ⟨by decide, by decide⟩ dX6_ofRound_96 (fun v H locs hp hw => ?_)
  obtain rfl := hp
  refine W.eq (g2 := F0 m 99 ls [vN (cnt (K r) 1 (w r))]) rfl ?_
  exact k_iret (post := _) hm hQ rfl rfl hw (⟨mf, rfl, rfl⟩) (by omega) (by omega) dX6_ofRound_99
set_option maxHeartbeats 4000000 in
set_option maxRecDepth 100000 in
theorem c_ofRound_4 (l : Launch) (G : kG) (o : Nat) (h : Nat) (T : Nat → Nat) (L : Nat → Nat) (M : Nat → Nat) (mf : Nat → Nat) (P : Nat → Nat) (gk : Nat → Nat) (gw : Nat → Nat) (gt : Nat → Nat) (gy : Nat → Nat) (R : Nat) (sp : Bool) (K : Nat → Nat → Nat) (w : Nat → Nat) (y : Nat → Nat) (r : Nat) (hok : POk gk gw gt gy R K w y) (hr : r < R) : kCM l yX6_ofRound wsX6_ofRound 3 72 0 0 G [.ref (o), vN (r), vN (4)] (wMain G o P h T L M ++ (wPiece G P gk gw gt gy R sp ++ wMk G M mf)) (fun vv uu => ∃ (mf2 : Nat → Nat), vv = some (vN (rvN K w y r 4)) ∧ uu = wMain G o P h T L M ++ (wPiece G P gk gw gt gy R sp ++ wMk G M mf2)) := by
  refine kCM.of (cc := cX6_ofRound) (maxL := 3) (ret := (some .int)) (by decide) rfl (Nat.le_of_ble_eq_true rfl) ?_
  intro p e s m args below meth c A ls Qz hQ hin hm hw hl
  have hl : lv_has ls 3 [(0, .ref (o)), (1, vN (r)), (2, vN (4))] := hl
  have i4 : ∀ w ∈ wsX40, w ∈ wsX6_ofRound := by decide +kernel
  have i6 : ∀ w ∈ wsX60, w ∈ wsX6_ofRound := by decide +kernel
  have hk := hok.2.1 r hr
  have hb := hok.1.2.1 r hr
  have hR := hok.1.1
  have hk0 := hok.2.1 0 (by omega)
  refine k_iload_n hm hl 2 rfl dX6_ofRound_0 ?_
  refine k_tsw (x := 4) (tgt := 100) hm dX6_ofRound_1 (by decide) (by decide) (by decide) rfl (by decide) ?_
  refine k_aload_n hm hl 0 rfl dX6_ofRound_100 ?_
  refine k_get (T := TX6) hm hw 0 0 i6 rfl rfl (by decide) (by decide +kernel) rfl dX6_ofRound_101 ?_
  refine k_iload_n hm hl 1 rfl dX6_ofRound_104 ?_
  refine k_iconstN hm 2 dX6_ofRound_105 ?_
  refine k_callVr (n := 2) (As := [vN (r), vN (2)]) (rest := []) hm hw hl (c_countOf l G P gk gw gt gy R sp K w y r 2 (by first | assumption | omega) (by first | assumption | omega) (by first | assumption | omega)) gX6_ofRound_X4_countOf rfl (by decide +kernel) ⟨by decide, by decide⟩ (ci := 4) rfl 1 rfl [1, 2, 3, 4, 5, 6, 7, 8, 9] (by decide) rfl rfl rfl (by simp [Value.category]) ⟨by decide, by decide⟩ dX6_ofRound_106 (fun v H locs hp hw => ?_)
  obtain rfl := hp
  refine W.eq (g2 := F0 m 109 ls [vN (cnt (K r) 2 (w r))]) rfl ?_
  exact k_iret (post := _) hm hQ rfl rfl hw (⟨mf, rfl, rfl⟩) (by omega) (by omega) dX6_ofRound_109
set_option maxHeartbeats 4000000 in
set_option maxRecDepth 100000 in
theorem c_ofRound_5 (l : Launch) (G : kG) (o : Nat) (h : Nat) (T : Nat → Nat) (L : Nat → Nat) (M : Nat → Nat) (mf : Nat → Nat) (P : Nat → Nat) (gk : Nat → Nat) (gw : Nat → Nat) (gt : Nat → Nat) (gy : Nat → Nat) (R : Nat) (sp : Bool) (K : Nat → Nat → Nat) (w : Nat → Nat) (y : Nat → Nat) (r : Nat) (hok : POk gk gw gt gy R K w y) (hr : r < R) : kCM l yX6_ofRound wsX6_ofRound 3 72 0 0 G [.ref (o), vN (r), vN (5)] (wMain G o P h T L M ++ (wPiece G P gk gw gt gy R sp ++ wMk G M mf)) (fun vv uu => ∃ (mf2 : Nat → Nat), vv = some (vN (rvN K w y r 5)) ∧ uu = wMain G o P h T L M ++ (wPiece G P gk gw gt gy R sp ++ wMk G M mf2)) := by
  refine kCM.of (cc := cX6_ofRound) (maxL := 3) (ret := (some .int)) (by decide) rfl (Nat.le_of_ble_eq_true rfl) ?_
  intro p e s m args below meth c A ls Qz hQ hin hm hw hl
  have hl : lv_has ls 3 [(0, .ref (o)), (1, vN (r)), (2, vN (5))] := hl
  have i4 : ∀ w ∈ wsX40, w ∈ wsX6_ofRound := by decide +kernel
  have i6 : ∀ w ∈ wsX60, w ∈ wsX6_ofRound := by decide +kernel
  have hk := hok.2.1 r hr
  have hb := hok.1.2.1 r hr
  have hR := hok.1.1
  have hk0 := hok.2.1 0 (by omega)
  refine k_iload_n hm hl 2 rfl dX6_ofRound_0 ?_
  refine k_tsw (x := 5) (tgt := 110) hm dX6_ofRound_1 (by decide) (by decide) (by decide) rfl (by decide) ?_
  refine k_aload_n hm hl 0 rfl dX6_ofRound_110 ?_
  refine k_iload_n hm hl 1 rfl dX6_ofRound_111 ?_
  refine k_callV (n := 1) (As := [vN (r)]) (rest := []) (wr := []) hm hw hl (c_stackedOf l G o h T L M mf P gk gw gt gy R sp K w y r (by first | assumption | omega) (by first | assumption | omega)) gX6_ofRound_X6_stackedOf rfl (by decide +kernel) ⟨by decide, by decide⟩ (ci := 6) rfl 0 rfl [0, 1, 2, 3, 4, 5, 6, 7, 8, 9, 10, 11, 12] [] (by decide) rfl rfl (by decide) (by decide) rfl rfl (by simp [Value.category]) ⟨by decide, by decide⟩ dX6_ofRound_112 (fun v w1 H locs hp hw => ?_)
  obtain ⟨mf2_2, rfl, rfl⟩ := hp
  have hw := hw.sub (ws' := wMain G o P h T L M ++ (wPiece G P gk gw gt gy R sp ++ wMk G M mf2_2)) [0, 1, 2, 3, 4, 5, 6, 7, 8, 9, 10, 11, 12] (by decide) rfl
  refine W.eq (g2 := F0 m 115 ls [vN (stkP K w r)]) rfl ?_
  exact k_iret (post := _) hm hQ rfl rfl hw (⟨_, rfl, rfl⟩) (by omega) (by omega) dX6_ofRound_115
set_option maxHeartbeats 4000000 in
set_option maxRecDepth 100000 in
theorem c_ofRound_6 (l : Launch) (G : kG) (o : Nat) (h : Nat) (T : Nat → Nat) (L : Nat → Nat) (M : Nat → Nat) (mf : Nat → Nat) (P : Nat → Nat) (gk : Nat → Nat) (gw : Nat → Nat) (gt : Nat → Nat) (gy : Nat → Nat) (R : Nat) (sp : Bool) (K : Nat → Nat → Nat) (w : Nat → Nat) (y : Nat → Nat) (r : Nat) (hok : POk gk gw gt gy R K w y) (hr : r < R) : kCM l yX6_ofRound wsX6_ofRound 3 72 0 0 G [.ref (o), vN (r), vN (6)] (wMain G o P h T L M ++ (wPiece G P gk gw gt gy R sp ++ wMk G M mf)) (fun vv uu => ∃ (mf2 : Nat → Nat), vv = some (vN (rvN K w y r 6)) ∧ uu = wMain G o P h T L M ++ (wPiece G P gk gw gt gy R sp ++ wMk G M mf2)) := by
  refine kCM.of (cc := cX6_ofRound) (maxL := 3) (ret := (some .int)) (by decide) rfl (Nat.le_of_ble_eq_true rfl) ?_
  intro p e s m args below meth c A ls Qz hQ hin hm hw hl
  have hl : lv_has ls 3 [(0, .ref (o)), (1, vN (r)), (2, vN (6))] := hl
  have i4 : ∀ w ∈ wsX40, w ∈ wsX6_ofRound := by decide +kernel
  have i6 : ∀ w ∈ wsX60, w ∈ wsX6_ofRound := by decide +kernel
  have hk := hok.2.1 r hr
  have hb := hok.1.2.1 r hr
  have hR := hok.1.1
  have hk0 := hok.2.1 0 (by omega)
  refine k_iload_n hm hl 2 rfl dX6_ofRound_0 ?_
  refine k_tsw (x := 6) (tgt := 116) hm dX6_ofRound_1 (by decide) (by decide) (by decide) rfl (by decide) ?_
  refine k_aload_n hm hl 0 rfl dX6_ofRound_116 ?_
  refine k_get (T := TX6) hm hw 0 0 i6 rfl rfl (by decide) (by decide +kernel) rfl dX6_ofRound_117 ?_
  refine k_iload_n hm hl 1 rfl dX6_ofRound_120 ?_
  refine k_callVr (n := 1) (As := [vN (r)]) (rest := []) hm hw hl (c_isMirrored l G P gk gw gt gy R sp K w y r (by first | assumption | omega) (by first | assumption | omega)) gX6_ofRound_X4_isMirrored rfl (by decide +kernel) ⟨by decide, by decide⟩ (ci := 4) rfl 1 rfl [1, 2, 3, 4, 5, 6, 7, 8, 9] (by decide) rfl rfl rfl (by simp [Value.category]) ⟨by decide, by decide⟩ dX6_ofRound_121 (fun v H locs hp hw => ?_)
  obtain ⟨b_2, rfl, hb_3⟩ := hp
  refine W.eq (g2 := F0 m 124 ls [vB (b_2)]) rfl ?_
  have hfx := hb_3
  refine k_ifeqB (tgt := 131) hm dX6_ofRound_124 (by decide) (fun c_4 => ?_) (fun c_4 => ?_)
  · refine k_iconstN hm 0 dX6_ofRound_131 ?_
    exact k_iret (post := _) hm hQ rfl rfl hw (⟨mf, by show _ = some (vN (miN (K r) (w r))); rw [miN_of hfx, if_neg (by rw [c_4]; decide)], rfl⟩) (by omega) (by omega) dX6_ofRound_132
  · refine k_iconstN hm 1 dX6_ofRound_127 ?_
    refine k_goto (tgt := 132) hm dX6_ofRound_128 (by decide) ?_
    exact k_iret (post := _) hm hQ rfl rfl hw (⟨mf, by show _ = some (vN (miN (K r) (w r))); rw [miN_of hfx, if_pos c_4], rfl⟩) (by omega) (by omega) dX6_ofRound_132
set_option maxHeartbeats 4000000 in
set_option maxRecDepth 100000 in
theorem c_ofRound_7 (l : Launch) (G : kG) (o : Nat) (h : Nat) (T : Nat → Nat) (L : Nat → Nat) (M : Nat → Nat) (mf : Nat → Nat) (P : Nat → Nat) (gk : Nat → Nat) (gw : Nat → Nat) (gt : Nat → Nat) (gy : Nat → Nat) (R : Nat) (sp : Bool) (K : Nat → Nat → Nat) (w : Nat → Nat) (y : Nat → Nat) (r : Nat) (hok : POk gk gw gt gy R K w y) (hr : r < R) : kCM l yX6_ofRound wsX6_ofRound 3 72 0 0 G [.ref (o), vN (r), vN (7)] (wMain G o P h T L M ++ (wPiece G P gk gw gt gy R sp ++ wMk G M mf)) (fun vv uu => ∃ (mf2 : Nat → Nat), vv = some (vN (rvN K w y r 7)) ∧ uu = wMain G o P h T L M ++ (wPiece G P gk gw gt gy R sp ++ wMk G M mf2)) := by
  refine kCM.of (cc := cX6_ofRound) (maxL := 3) (ret := (some .int)) (by decide) rfl (Nat.le_of_ble_eq_true rfl) ?_
  intro p e s m args below meth c A ls Qz hQ hin hm hw hl
  have hl : lv_has ls 3 [(0, .ref (o)), (1, vN (r)), (2, vN (7))] := hl
  have i4 : ∀ w ∈ wsX40, w ∈ wsX6_ofRound := by decide +kernel
  have i6 : ∀ w ∈ wsX60, w ∈ wsX6_ofRound := by decide +kernel
  have hk := hok.2.1 r hr
  have hb := hok.1.2.1 r hr
  have hR := hok.1.1
  have hk0 := hok.2.1 0 (by omega)
  refine k_iload_n hm hl 2 rfl dX6_ofRound_0 ?_
  refine k_tsw (x := 7) (tgt := 133) hm dX6_ofRound_1 (by decide) (by decide) (by decide) rfl (by decide) ?_
  refine k_aload_n hm hl 0 rfl dX6_ofRound_133 ?_
  refine k_get (T := TX6) hm hw 0 0 i6 rfl rfl (by decide) (by decide +kernel) rfl dX6_ofRound_134 ?_
  refine k_iload_n hm hl 1 rfl dX6_ofRound_137 ?_
  refine k_callVr (n := 1) (As := [vN (r)]) (rest := []) hm hw hl (c_yarnOf l G P gk gw gt gy R sp K w y r (by first | assumption | omega) (by first | assumption | omega)) gX6_ofRound_X4_yarnOf rfl (by decide +kernel) ⟨by decide, by decide⟩ (ci := 4) rfl 1 rfl [1, 2, 3, 4, 5, 6, 7, 8, 9] (by decide) rfl rfl rfl (by simp [Value.category]) ⟨by decide, by decide⟩ dX6_ofRound_138 (fun v H locs hp hw => ?_)
  obtain rfl := hp
  refine W.eq (g2 := F0 m 141 ls [vN (yrn y (K r) (w r))]) rfl ?_
  exact k_iret (post := _) hm hQ rfl rfl hw (⟨mf, rfl, rfl⟩) (by omega) (by omega) dX6_ofRound_141
set_option maxHeartbeats 4000000 in
set_option maxRecDepth 100000 in
theorem c_ofRound_8 (l : Launch) (G : kG) (o : Nat) (h : Nat) (T : Nat → Nat) (L : Nat → Nat) (M : Nat → Nat) (mf : Nat → Nat) (P : Nat → Nat) (gk : Nat → Nat) (gw : Nat → Nat) (gt : Nat → Nat) (gy : Nat → Nat) (R : Nat) (sp : Bool) (K : Nat → Nat → Nat) (w : Nat → Nat) (y : Nat → Nat) (r : Nat) (hok : POk gk gw gt gy R K w y) (hr : r < R) : kCM l yX6_ofRound wsX6_ofRound 3 72 0 0 G [.ref (o), vN (r), vN (8)] (wMain G o P h T L M ++ (wPiece G P gk gw gt gy R sp ++ wMk G M mf)) (fun vv uu => ∃ (mf2 : Nat → Nat), vv = some (vN (rvN K w y r 8)) ∧ uu = wMain G o P h T L M ++ (wPiece G P gk gw gt gy R sp ++ wMk G M mf2)) := by
  refine kCM.of (cc := cX6_ofRound) (maxL := 3) (ret := (some .int)) (by decide) rfl (Nat.le_of_ble_eq_true rfl) ?_
  intro p e s m args below meth c A ls Qz hQ hin hm hw hl
  have hl : lv_has ls 3 [(0, .ref (o)), (1, vN (r)), (2, vN (8))] := hl
  have i4 : ∀ w ∈ wsX40, w ∈ wsX6_ofRound := by decide +kernel
  have i6 : ∀ w ∈ wsX60, w ∈ wsX6_ofRound := by decide +kernel
  have hk := hok.2.1 r hr
  have hb := hok.1.2.1 r hr
  have hR := hok.1.1
  have hk0 := hok.2.1 0 (by omega)
  refine k_iload_n hm hl 2 rfl dX6_ofRound_0 ?_
  refine k_tsw (x := 8) (tgt := 142) hm dX6_ofRound_1 (by decide) (by decide) (by decide) rfl (by decide) ?_
  refine k_aload_n hm hl 0 rfl dX6_ofRound_142 ?_
  refine k_get (T := TX6) hm hw 0 0 i6 rfl rfl (by decide) (by decide +kernel) rfl dX6_ofRound_143 ?_
  refine k_iload_n hm hl 1 rfl dX6_ofRound_146 ?_
  refine k_iconstN hm 1 dX6_ofRound_147 ?_
  refine k_callVr (n := 2) (As := [vN (r), vN (1)]) (rest := []) hm hw hl (c_distance l G P gk gw gt gy R sp K w y r true (by first | assumption | omega) (by first | assumption | omega)) gX6_ofRound_X4_distance rfl (by decide +kernel) ⟨by decide, by decide⟩ (ci := 4) rfl 1 rfl [1, 2, 3, 4, 5, 6, 7, 8, 9] (by decide) rfl rfl rfl (by simp [Value.category]) ⟨by decide, by decide⟩ dX6_ofRound_148 (fun v H locs hp hw => ?_)
  obtain ⟨d_2, rfl, hd_3, hd2_4⟩ := hp
  refine W.eq (g2 := F0 m 151 ls [vN (d_2)]) rfl ?_
  have hfx := hd_3
  exact k_iret (post := _) hm hQ rfl rfl hw (⟨mf, by rw [dsF_of hfx]; rfl, rfl⟩) (by omega) (by omega) dX6_ofRound_151
set_option maxHeartbeats 4000000 in
set_option maxRecDepth 100000 in
theorem c_ofRound_9 (l : Launch) (G : kG) (o : Nat) (h : Nat) (T : Nat → Nat) (L : Nat → Nat) (M : Nat → Nat) (mf : Nat → Nat) (P : Nat → Nat) (gk : Nat → Nat) (gw : Nat → Nat) (gt : Nat → Nat) (gy : Nat → Nat) (R : Nat) (sp : Bool) (K : Nat → Nat → Nat) (w : Nat → Nat) (y : Nat → Nat) (r : Nat) (hok : POk gk gw gt gy R K w y) (hr : r < R) : kCM l yX6_ofRound wsX6_ofRound 3 72 0 0 G [.ref (o), vN (r), vN (9)] (wMain G o P h T L M ++ (wPiece G P gk gw gt gy R sp ++ wMk G M mf)) (fun vv uu => ∃ (mf2 : Nat → Nat), vv = some (vN (rvN K w y r 9)) ∧ uu = wMain G o P h T L M ++ (wPiece G P gk gw gt gy R sp ++ wMk G M mf2)) := by
  refine kCM.of (cc := cX6_ofRound) (maxL := 3) (ret := (some .int)) (by decide) rfl (Nat.le_of_ble_eq_true rfl) ?_
  intro p e s m args below meth c A ls Qz hQ hin hm hw hl
  have hl : lv_has ls 3 [(0, .ref (o)), (1, vN (r)), (2, vN (9))] := hl
  have i4 : ∀ w ∈ wsX40, w ∈ wsX6_ofRound := by decide +kernel
  have i6 : ∀ w ∈ wsX60, w ∈ wsX6_ofRound := by decide +kernel
  have hk := hok.2.1 r hr
  have hb := hok.1.2.1 r hr
  have hR := hok.1.1
  have hk0 := hok.2.1 0 (by omega)
  refine k_iload_n hm hl 2 rfl dX6_ofRound_0 ?_
  refine k_tsw (x := 9) (tgt := 152) hm dX6_ofRound_1 (by decide) (by decide) (by decide) rfl (by decide) ?_
  refine k_aload_n hm hl 0 rfl dX6_ofRound_152 ?_
  refine k_get (T := TX6) hm hw 0 0 i6 rfl rfl (by decide) (by decide +kernel) rfl dX6_ofRound_153 ?_
  refine k_iload_n hm hl 1 rfl dX6_ofRound_156 ?_
  refine k_iconstN hm 0 dX6_ofRound_157 ?_
  refine k_callVr (n := 2) (As := [vN (r), vN (0)]) (rest := []) hm hw hl (c_distance l G P gk gw gt gy R sp K w y r false (by first | assumption | omega) (by first | assumption | omega)) gX6_ofRound_X4_distance rfl (by decide +kernel) ⟨by decide, by decide⟩ (ci := 4) rfl 1 rfl [1, 2, 3, 4, 5, 6, 7, 8, 9] (by decide) rfl rfl rfl (by simp [Value.category]) ⟨by decide, by decide⟩ dX6_ofRound_158 (fun v H locs hp hw => ?_)
  obtain ⟨d_2, rfl, hd_3, hd2_4⟩ := hp
  refine W.eq (g2 := F0 m 161 ls [vN (d_2)]) rfl ?_
  have hfx := hd_3
  exact k_iret (post := _) hm hQ rfl rfl hw (⟨mf, by rw [dsF_of hfx]; rfl, rfl⟩) (by omega) (by omega) dX6_ofRound_161
set_option maxHeartbeats 4000000 in
set_option maxRecDepth 100000 in
theorem c_ofRound_10 (l : Launch) (G : kG) (o : Nat) (h : Nat) (T : Nat → Nat) (L : Nat → Nat) (M : Nat → Nat) (mf : Nat → Nat) (P : Nat → Nat) (gk : Nat → Nat) (gw : Nat → Nat) (gt : Nat → Nat) (gy : Nat → Nat) (R : Nat) (sp : Bool) (K : Nat → Nat → Nat) (w : Nat → Nat) (y : Nat → Nat) (r : Nat) (hok : POk gk gw gt gy R K w y) (hr : r < R) : kCM l yX6_ofRound wsX6_ofRound 3 72 0 0 G [.ref (o), vN (r), vN (10)] (wMain G o P h T L M ++ (wPiece G P gk gw gt gy R sp ++ wMk G M mf)) (fun vv uu => ∃ (mf2 : Nat → Nat), vv = some (vZ (rv K w y r 10)) ∧ uu = wMain G o P h T L M ++ (wPiece G P gk gw gt gy R sp ++ wMk G M mf2)) := by
  refine kCM.of (cc := cX6_ofRound) (maxL := 3) (ret := (some .int)) (by decide) rfl (Nat.le_of_ble_eq_true rfl) ?_
  intro p e s m args below meth c A ls Qz hQ hin hm hw hl
  have hl : lv_has ls 3 [(0, .ref (o)), (1, vN (r)), (2, vN (10))] := hl
  have i4 : ∀ w ∈ wsX40, w ∈ wsX6_ofRound := by decide +kernel
  have i6 : ∀ w ∈ wsX60, w ∈ wsX6_ofRound := by decide +kernel
  have hk := hok.2.1 r hr
  have hb := hok.1.2.1 r hr
  have hR := hok.1.1
  have hk0 := hok.2.1 0 (by omega)
  refine k_iload_n hm hl 2 rfl dX6_ofRound_0 ?_
  refine k_tsd (x := 10) (tgt := 162) hm dX6_ofRound_1 (by decide) (by decide) (by decide) ?_
  refine k_aload_n hm hl 0 rfl dX6_ofRound_162 ?_
  refine k_get (T := TX6) hm hw 0 0 i6 rfl rfl (by decide) (by decide +kernel) rfl dX6_ofRound_163 ?_
  refine k_get (T := TX4) hm hw 1 2 i4 rfl rfl (by decide) (by decide +kernel) rfl dX6_ofRound_166 ?_
  refine k_iload_n hm hl 1 rfl dX6_ofRound_169 ?_
  refine k_callVr (n := 1) (As := [vN (r)]) (rest := []) hm hw hl (c_Num_at l G (P 5) (P 6) 40 gt r (by first | assumption | omega)) gX6_ofRound_X2_at rfl (by decide +kernel) ⟨by decide, by decide⟩ (ci := 2) rfl 6 rfl [6, 7] (by decide) rfl rfl rfl (by simp [Value.category]) ⟨by decide, by decide⟩ dX6_ofRound_170 (fun v H locs hp hw => ?_)
  obtain rfl := hp
  refine W.eq (g2 := F0 m 173 ls [vN (gt r)]) rfl ?_
  refine k_aload_n hm hl 0 rfl dX6_ofRound_173 ?_
  refine k_get (T := TX6) hm hw 0 0 i6 rfl rfl (by decide) (by decide +kernel) rfl dX6_ofRound_174 ?_
  refine k_get (T := TX4) hm hw 1 2 i4 rfl rfl (by decide) (by decide +kernel) rfl dX6_ofRound_177 ?_
  refine k_iconstN hm 0 dX6_ofRound_180 ?_
  refine k_callVr (n := 1) (As := [vN (0)]) (rest := [vN (gt r)]) hm hw hl (c_Num_at l G (P 5) (P 6) 40 gt 0 (by first | assumption | omega)) gX6_ofRound_X2_at rfl (by decide +kernel) ⟨by decide, by decide⟩ (ci := 2) rfl 6 rfl [6, 7] (by decide) rfl rfl rfl (by simp [Value.category]) ⟨by decide, by decide⟩ dX6_ofRound_181 (fun v H locs hp hw => ?_)
  obtain rfl := hp
  refine W.eq (g2 := F0 m 184 ls [vN (gt 0), vN (gt r)]) rfl ?_
  refine k_iload_n hm hl 1 rfl dX6_ofRound_184 ?_
  refine k_iconstN hm 1 dX6_ofRound_185 ?_
  refine k_iaddN hm dX6_ofRound_186 ?_
  refine k_imulN hm dX6_ofRound_187 ?_
  refine k_isub hm dX6_ofRound_188 ?_
  exact k_iret (post := _) hm hQ rfl rfl hw (⟨mf, by rw [hk.2.1, hk0.2.1]; rfl, rfl⟩) (by omega) (by omega) dX6_ofRound_189
set_option maxHeartbeats 4000000 in
set_option maxRecDepth 100000 in
theorem c_ofRound (l : Launch) (G : kG) (o : Nat) (h : Nat) (T : Nat → Nat) (L : Nat → Nat) (M : Nat → Nat) (mf : Nat → Nat) (P : Nat → Nat) (gk : Nat → Nat) (gw : Nat → Nat) (gt : Nat → Nat) (gy : Nat → Nat) (R : Nat) (sp : Bool) (K : Nat → Nat → Nat) (w : Nat → Nat) (y : Nat → Nat) (r : Nat) (x : Nat) (hok : POk gk gw gt gy R K w y) (hr : r < R) (hx : x ≤ 10) : kCM l yX6_ofRound wsX6_ofRound 3 72 0 0 G [.ref (o), vN (r), vN (x)] (wMain G o P h T L M ++ (wPiece G P gk gw gt gy R sp ++ wMk G M mf)) (fun vv uu => ∃ (mf2 : Nat → Nat), vv = some (vZ (rv K w y r x)) ∧ uu = wMain G o P h T L M ++ (wPiece G P gk gw gt gy R sp ++ wMk G M mf2)) := by
  rcases (show x = 0 ∨ x = 1 ∨ x = 2 ∨ x = 3 ∨ x = 4 ∨ x = 5 ∨ x = 6 ∨ x = 7 ∨ x = 8 ∨ x = 9 ∨ x = 10 by omega) with rfl | rfl | rfl | rfl | rfl | rfl | rfl | rfl | rfl | rfl | rfl
  · refine (c_ofRound_0 l G o h T L M mf P gk gw gt gy R sp K w y r hok hr).post ?_
    rintro v u ⟨mf2, rfl, rfl⟩
    exact ⟨mf2, by rw [rv_lt (by decide)], rfl⟩
  · refine (c_ofRound_1 l G o h T L M mf P gk gw gt gy R sp K w y r hok hr).post ?_
    rintro v u ⟨mf2, rfl, rfl⟩
    exact ⟨mf2, by rw [rv_lt (by decide)], rfl⟩
  · refine (c_ofRound_2 l G o h T L M mf P gk gw gt gy R sp K w y r hok hr).post ?_
    rintro v u ⟨mf2, rfl, rfl⟩
    exact ⟨mf2, by rw [rv_lt (by decide)], rfl⟩
  · refine (c_ofRound_3 l G o h T L M mf P gk gw gt gy R sp K w y r hok hr).post ?_
    rintro v u ⟨mf2, rfl, rfl⟩
    exact ⟨mf2, by rw [rv_lt (by decide)], rfl⟩
  · refine (c_ofRound_4 l G o h T L M mf P gk gw gt gy R sp K w y r hok hr).post ?_
    rintro v u ⟨mf2, rfl, rfl⟩
    exact ⟨mf2, by rw [rv_lt (by decide)], rfl⟩
  · refine (c_ofRound_5 l G o h T L M mf P gk gw gt gy R sp K w y r hok hr).post ?_
    rintro v u ⟨mf2, rfl, rfl⟩
    exact ⟨mf2, by rw [rv_lt (by decide)], rfl⟩
  · refine (c_ofRound_6 l G o h T L M mf P gk gw gt gy R sp K w y r hok hr).post ?_
    rintro v u ⟨mf2, rfl, rfl⟩
    exact ⟨mf2, by rw [rv_lt (by decide)], rfl⟩
  · refine (c_ofRound_7 l G o h T L M mf P gk gw gt gy R sp K w y r hok hr).post ?_
    rintro v u ⟨mf2, rfl, rfl⟩
    exact ⟨mf2, by rw [rv_lt (by decide)], rfl⟩
  · refine (c_ofRound_8 l G o h T L M mf P gk gw gt gy R sp K w y r hok hr).post ?_
    rintro v u ⟨mf2, rfl, rfl⟩
    exact ⟨mf2, by rw [rv_lt (by decide)], rfl⟩
  · refine (c_ofRound_9 l G o h T L M mf P gk gw gt gy R sp K w y r hok hr).post ?_
    rintro v u ⟨mf2, rfl, rfl⟩
    exact ⟨mf2, by rw [rv_lt (by decide)], rfl⟩
  · refine (c_ofRound_10 l G o h T L M mf P gk gw gt gy R sp K w y r hok hr).post ?_
    rintro v u ⟨mf2, rfl, rfl⟩
    exact ⟨mf2, rfl, rfl⟩
noncomputable def sumR (K : Nat → Nat → Nat) (w y : Nat → Nat) (x : Nat) : Nat → Nat | 0 => 0 | n + 1 => sumR K w y x n + rvN K w y n x
set_option maxHeartbeats 4000000 in
set_option maxRecDepth 100000 in
theorem c_sumOver_0 (l : Launch) (G : kG) (o : Nat) (h : Nat) (T : Nat → Nat) (L : Nat → Nat) (M : Nat → Nat) (mf : Nat → Nat) (P : Nat → Nat) (gk : Nat → Nat) (gw : Nat → Nat) (gt : Nat → Nat) (gy : Nat → Nat) (R : Nat) (sp : Bool) (K : Nat → Nat → Nat) (w : Nat → Nat) (y : Nat → Nat) (hok : POk gk gw gt gy R K w y) : kCM l yX6_sumOverRounds wsX6_sumOverRounds 4 94 0 0 G [.ref (o), vN (0)] (wMain G o P h T L M ++ (wPiece G P gk gw gt gy R sp ++ wMk G M mf)) (fun vv uu => ∃ (mf2 : Nat → Nat), vv = some (vN (sumR K w y 0 R)) ∧ uu = wMain G o P h T L M ++ (wPiece G P gk gw gt gy R sp ++ wMk G M mf2)) := by
  refine kCM.of (cc := cX6_sumOverRounds) (maxL := 4) (ret := (some .int)) (by decide) rfl (Nat.le_of_ble_eq_true rfl) ?_
  intro p e s m args below meth c A ls Qz hQ hin hm hw hl
  have hl : lv_has ls 4 [(0, .ref (o)), (1, vN (0))] := hl
  have i4 : ∀ w ∈ wsX40, w ∈ wsX6_sumOverRounds := by decide +kernel
  have i6 : ∀ w ∈ wsX60, w ∈ wsX6_sumOverRounds := by decide +kernel
  have hR := hok.1.1
  refine k_iconstN hm 0 dX6_sumOverRounds_0 ?_
  refine k_istore_n hm hl [(2, vN (0)), (0, .ref (o)), (1, vN (0))] (by decide) rfl dX6_sumOverRounds_1 (fun ls hl => ?_)
  refine k_iconstN hm 0 dX6_sumOverRounds_2 ?_
  refine k_istore_n hm hl [(3, vN (0)), (2, vN (0)), (0, .ref (o)), (1, vN (0))] (by decide) rfl dX6_sumOverRounds_3 (fun ls hl => ?_)
  have loop_4 : ∀ (fu : Nat) (t : Nat) (i : Nat) (mg : Nat → Nat) (hi : i ≤ R) (ht : t = sumR K w y 0 i) (H : Heap) (locs : List Loc) (ls : Array Slot), R - i < fu → kW G A s (wMain G o P h T L M ++ (wPiece G P gk gw gt gy R sp ++ wMk G M mg)) H locs → lv_has ls 4 [(0, .ref (o)), (1, vN (0)), (2, vN (t)), (3, vN (i))] → W p l e { frames := 4, cells := 0, slots := 0, locals := 94 } s m args below meth c H locs 0 0 Qz (F0 m 4 ls []) := by
    intro fu
    induction fu with
    | zero => intro t i mg hi ht H locs ls hfu; exact absurd hfu (Nat.not_lt_zero _)
    | succ fu ih_4 =>
      intro t i mg hi ht H locs ls hfu hw hl
      refine k_iload_n hm hl 3 rfl dX6_sumOverRounds_4 ?_
      refine k_aload_n hm hl 0 rfl dX6_sumOverRounds_5 ?_
      refine k_get (T := TX6) hm hw 0 0 i6 rfl rfl (by decide) (by decide +kernel) rfl dX6_sumOverRounds_6 ?_
      refine k_get (T := TX4) hm hw 1 4 i4 rfl rfl (by decide) (by decide +kernel) rfl dX6_sumOverRounds_9 ?_
      refine k_icmpge (tgt := 30) hm dX6_sumOverRounds_12 (by decide) (by omega) (fun c_1 => ?_) (fun c_1 => ?_)
      · refine k_iload_n hm hl 2 rfl dX6_sumOverRounds_30 ?_
        exact k_iret (post := _) hm hQ rfl rfl hw (⟨mg, by rw [ht, show i = R by omega], rfl⟩) (by omega) (by omega) dX6_sumOverRounds_31
      · refine k_iload_n hm hl 2 rfl dX6_sumOverRounds_15 ?_
        refine k_aload_n hm hl 0 rfl dX6_sumOverRounds_16 ?_
        refine k_iload_n hm hl 3 rfl dX6_sumOverRounds_17 ?_
        refine k_iload_n hm hl 1 rfl dX6_sumOverRounds_18 ?_
        refine k_callV (n := 2) (As := [vN (i), vN (0)]) (rest := [vN (t)]) (wr := []) hm hw hl (c_ofRound_0 l G o h T L M mg P gk gw gt gy R sp K w y i (by first | assumption | omega) (by first | assumption | omega)) gX6_sumOverRounds_X6_ofRound rfl (by decide +kernel) ⟨by decide, by decide⟩ (ci := 6) rfl 0 rfl [0, 1, 2, 3, 4, 5, 6, 7, 8, 9, 10, 11, 12] [] (by decide) rfl rfl (by decide) (by decide) rfl rfl (by simp [Value.category]) ⟨by decide, by decide⟩ dX6_sumOverRounds_19 (fun v w1 H locs hp hw => ?_)
        obtain ⟨mf2_3, rfl, rfl⟩ := hp
        have hw := hw.sub (ws' := wMain G o P h T L M ++ (wPiece G P gk gw gt gy R sp ++ wMk G M mf2_3)) [0, 1, 2, 3, 4, 5, 6, 7, 8, 9, 10, 11, 12] (by decide) rfl
        refine W.eq (g2 := F0 m 22 ls [vN (rvN K w y i 0), vN (t)]) rfl ?_
        refine k_iaddN hm dX6_sumOverRounds_22 ?_
        refine k_istore_n hm hl [(2, vN (t + (rvN K w y i 0))), (0, .ref (o)), (1, vN (0)), (3, vN (i))] (by decide) rfl dX6_sumOverRounds_23 (fun ls hl => ?_)
        refine k_iincN hm hl 3 1 rfl [(3, vN (i + 1)), (2, vN (t + (rvN K w y i 0))), (0, .ref (o)), (1, vN (0))] (by decide) rfl dX6_sumOverRounds_24 (fun ls hl => ?_)
        refine k_goto (tgt := 4) hm dX6_sumOverRounds_27 (by decide) ?_
        exact ih_4  (t + (rvN K w y i 0)) (i + 1) mf2_3 (by first | assumption | omega) (by simp only [sumR]; omega) _ _ _ (by omega) hw (lv_sub hl [2, 3, 1, 0] rfl)
  exact loop_4 (R - 0 + 1) 0 0 mf (by first | assumption | omega) rfl _ _ _ (Nat.lt_succ_self _) hw (lv_sub hl [2, 3, 1, 0] rfl)
set_option maxHeartbeats 4000000 in
set_option maxRecDepth 100000 in
theorem c_sumOver_5 (l : Launch) (G : kG) (o : Nat) (h : Nat) (T : Nat → Nat) (L : Nat → Nat) (M : Nat → Nat) (mf : Nat → Nat) (P : Nat → Nat) (gk : Nat → Nat) (gw : Nat → Nat) (gt : Nat → Nat) (gy : Nat → Nat) (R : Nat) (sp : Bool) (K : Nat → Nat → Nat) (w : Nat → Nat) (y : Nat → Nat) (hok : POk gk gw gt gy R K w y) : kCM l yX6_sumOverRounds wsX6_sumOverRounds 4 94 0 0 G [.ref (o), vN (5)] (wMain G o P h T L M ++ (wPiece G P gk gw gt gy R sp ++ wMk G M mf)) (fun vv uu => ∃ (mf2 : Nat → Nat), vv = some (vN (sumR K w y 5 R)) ∧ uu = wMain G o P h T L M ++ (wPiece G P gk gw gt gy R sp ++ wMk G M mf2)) := by
  refine kCM.of (cc := cX6_sumOverRounds) (maxL := 4) (ret := (some .int)) (by decide) rfl (Nat.le_of_ble_eq_true rfl) ?_
  intro p e s m args below meth c A ls Qz hQ hin hm hw hl
  have hl : lv_has ls 4 [(0, .ref (o)), (1, vN (5))] := hl
  have i4 : ∀ w ∈ wsX40, w ∈ wsX6_sumOverRounds := by decide +kernel
  have i6 : ∀ w ∈ wsX60, w ∈ wsX6_sumOverRounds := by decide +kernel
  have hR := hok.1.1
  refine k_iconstN hm 0 dX6_sumOverRounds_0 ?_
  refine k_istore_n hm hl [(2, vN (0)), (0, .ref (o)), (1, vN (5))] (by decide) rfl dX6_sumOverRounds_1 (fun ls hl => ?_)
  refine k_iconstN hm 0 dX6_sumOverRounds_2 ?_
  refine k_istore_n hm hl [(3, vN (0)), (2, vN (0)), (0, .ref (o)), (1, vN (5))] (by decide) rfl dX6_sumOverRounds_3 (fun ls hl => ?_)
  have loop_4 : ∀ (fu : Nat) (t : Nat) (i : Nat) (mg : Nat → Nat) (hi : i ≤ R) (ht : t = sumR K w y 5 i) (H : Heap) (locs : List Loc) (ls : Array Slot), R - i < fu → kW G A s (wMain G o P h T L M ++ (wPiece G P gk gw gt gy R sp ++ wMk G M mg)) H locs → lv_has ls 4 [(0, .ref (o)), (1, vN (5)), (2, vN (t)), (3, vN (i))] → W p l e { frames := 4, cells := 0, slots := 0, locals := 94 } s m args below meth c H locs 0 0 Qz (F0 m 4 ls []) := by
    intro fu
    induction fu with
    | zero => intro t i mg hi ht H locs ls hfu; exact absurd hfu (Nat.not_lt_zero _)
    | succ fu ih_4 =>
      intro t i mg hi ht H locs ls hfu hw hl
      refine k_iload_n hm hl 3 rfl dX6_sumOverRounds_4 ?_
      refine k_aload_n hm hl 0 rfl dX6_sumOverRounds_5 ?_
      refine k_get (T := TX6) hm hw 0 0 i6 rfl rfl (by decide) (by decide +kernel) rfl dX6_sumOverRounds_6 ?_
      refine k_get (T := TX4) hm hw 1 4 i4 rfl rfl (by decide) (by decide +kernel) rfl dX6_sumOverRounds_9 ?_
      refine k_icmpge (tgt := 30) hm dX6_sumOverRounds_12 (by decide) (by omega) (fun c_1 => ?_) (fun c_1 => ?_)
      · refine k_iload_n hm hl 2 rfl dX6_sumOverRounds_30 ?_
        exact k_iret (post := _) hm hQ rfl rfl hw (⟨mg, by rw [ht, show i = R by omega], rfl⟩) (by omega) (by omega) dX6_sumOverRounds_31
      · refine k_iload_n hm hl 2 rfl dX6_sumOverRounds_15 ?_
        refine k_aload_n hm hl 0 rfl dX6_sumOverRounds_16 ?_
        refine k_iload_n hm hl 3 rfl dX6_sumOverRounds_17 ?_
        refine k_iload_n hm hl 1 rfl dX6_sumOverRounds_18 ?_
        refine k_callV (n := 2) (As := [vN (i), vN (5)]) (rest := [vN (t)]) (wr := []) hm hw hl (c_ofRound_5 l G o h T L M mg P gk gw gt gy R sp K w y i (by first | assumption | omega) (by first | assumption | omega)) gX6_sumOverRounds_X6_ofRound rfl (by decide +kernel) ⟨by decide, by decide⟩ (ci := 6) rfl 0 rfl [0, 1, 2, 3, 4, 5, 6, 7, 8, 9, 10, 11, 12] [] (by decide) rfl rfl (by decide) (by decide) rfl rfl (by simp [Value.category]) ⟨by decide, by decide⟩ dX6_sumOverRounds_19 (fun v w1 H locs hp hw => ?_)
        obtain ⟨mf2_3, rfl, rfl⟩ := hp
        have hw := hw.sub (ws' := wMain G o P h T L M ++ (wPiece G P gk gw gt gy R sp ++ wMk G M mf2_3)) [0, 1, 2, 3, 4, 5, 6, 7, 8, 9, 10, 11, 12] (by decide) rfl
        refine W.eq (g2 := F0 m 22 ls [vN (rvN K w y i 5), vN (t)]) rfl ?_
        refine k_iaddN hm dX6_sumOverRounds_22 ?_
        refine k_istore_n hm hl [(2, vN (t + (rvN K w y i 5))), (0, .ref (o)), (1, vN (5)), (3, vN (i))] (by decide) rfl dX6_sumOverRounds_23 (fun ls hl => ?_)
        refine k_iincN hm hl 3 1 rfl [(3, vN (i + 1)), (2, vN (t + (rvN K w y i 5))), (0, .ref (o)), (1, vN (5))] (by decide) rfl dX6_sumOverRounds_24 (fun ls hl => ?_)
        refine k_goto (tgt := 4) hm dX6_sumOverRounds_27 (by decide) ?_
        exact ih_4  (t + (rvN K w y i 5)) (i + 1) mf2_3 (by first | assumption | omega) (by simp only [sumR]; omega) _ _ _ (by omega) hw (lv_sub hl [2, 3, 1, 0] rfl)
  exact loop_4 (R - 0 + 1) 0 0 mf (by first | assumption | omega) rfl _ _ _ (Nat.lt_succ_self _) hw (lv_sub hl [2, 3, 1, 0] rfl)
set_option maxHeartbeats 4000000 in
set_option maxRecDepth 100000 in
theorem c_sumOver_6 (l : Launch) (G : kG) (o : Nat) (h : Nat) (T : Nat → Nat) (L : Nat → Nat) (M : Nat → Nat) (mf : Nat → Nat) (P : Nat → Nat) (gk : Nat → Nat) (gw : Nat → Nat) (gt : Nat → Nat) (gy : Nat → Nat) (R : Nat) (sp : Bool) (K : Nat → Nat → Nat) (w : Nat → Nat) (y : Nat → Nat) (hok : POk gk gw gt gy R K w y) : kCM l yX6_sumOverRounds wsX6_sumOverRounds 4 94 0 0 G [.ref (o), vN (6)] (wMain G o P h T L M ++ (wPiece G P gk gw gt gy R sp ++ wMk G M mf)) (fun vv uu => ∃ (mf2 : Nat → Nat), vv = some (vN (sumR K w y 6 R)) ∧ uu = wMain G o P h T L M ++ (wPiece G P gk gw gt gy R sp ++ wMk G M mf2)) := by
  refine kCM.of (cc := cX6_sumOverRounds) (maxL := 4) (ret := (some .int)) (by decide) rfl (Nat.le_of_ble_eq_true rfl) ?_
  intro p e s m args below meth c A ls Qz hQ hin hm hw hl
  have hl : lv_has ls 4 [(0, .ref (o)), (1, vN (6))] := hl
  have i4 : ∀ w ∈ wsX40, w ∈ wsX6_sumOverRounds := by decide +kernel
  have i6 : ∀ w ∈ wsX60, w ∈ wsX6_sumOverRounds := by decide +kernel
  have hR := hok.1.1
  refine k_iconstN hm 0 dX6_sumOverRounds_0 ?_
  refine k_istore_n hm hl [(2, vN (0)), (0, .ref (o)), (1, vN (6))] (by decide) rfl dX6_sumOverRounds_1 (fun ls hl => ?_)
  refine k_iconstN hm 0 dX6_sumOverRounds_2 ?_
  refine k_istore_n hm hl [(3, vN (0)), (2, vN (0)), (0, .ref (o)), (1, vN (6))] (by decide) rfl dX6_sumOverRounds_3 (fun ls hl => ?_)
  have loop_4 : ∀ (fu : Nat) (t : Nat) (i : Nat) (mg : Nat → Nat) (hi : i ≤ R) (ht : t = sumR K w y 6 i) (H : Heap) (locs : List Loc) (ls : Array Slot), R - i < fu → kW G A s (wMain G o P h T L M ++ (wPiece G P gk gw gt gy R sp ++ wMk G M mg)) H locs → lv_has ls 4 [(0, .ref (o)), (1, vN (6)), (2, vN (t)), (3, vN (i))] → W p l e { frames := 4, cells := 0, slots := 0, locals := 94 } s m args below meth c H locs 0 0 Qz (F0 m 4 ls []) := by
    intro fu
    induction fu with
    | zero => intro t i mg hi ht H locs ls hfu; exact absurd hfu (Nat.not_lt_zero _)
    | succ fu ih_4 =>
      intro t i mg hi ht H locs ls hfu hw hl
      refine k_iload_n hm hl 3 rfl dX6_sumOverRounds_4 ?_
      refine k_aload_n hm hl 0 rfl dX6_sumOverRounds_5 ?_
      refine k_get (T := TX6) hm hw 0 0 i6 rfl rfl (by decide) (by decide +kernel) rfl dX6_sumOverRounds_6 ?_
      refine k_get (T := TX4) hm hw 1 4 i4 rfl rfl (by decide) (by decide +kernel) rfl dX6_sumOverRounds_9 ?_
      refine k_icmpge (tgt := 30) hm dX6_sumOverRounds_12 (by decide) (by omega) (fun c_1 => ?_) (fun c_1 => ?_)
      · refine k_iload_n hm hl 2 rfl dX6_sumOverRounds_30 ?_
        exact k_iret (post := _) hm hQ rfl rfl hw (⟨mg, by rw [ht, show i = R by omega], rfl⟩) (by omega) (by omega) dX6_sumOverRounds_31
      · refine k_iload_n hm hl 2 rfl dX6_sumOverRounds_15 ?_
        refine k_aload_n hm hl 0 rfl dX6_sumOverRounds_16 ?_
        refine k_iload_n hm hl 3 rfl dX6_sumOverRounds_17 ?_
        refine k_iload_n hm hl 1 rfl dX6_sumOverRounds_18 ?_
        refine k_callV (n := 2) (As := [vN (i), vN (6)]) (rest := [vN (t)]) (wr := []) hm hw hl (c_ofRound_6 l G o h T L M mg P gk gw gt gy R sp K w y i (by first | assumption | omega) (by first | assumption | omega)) gX6_sumOverRounds_X6_ofRound rfl (by decide +kernel) ⟨by decide, by decide⟩ (ci := 6) rfl 0 rfl [0, 1, 2, 3, 4, 5, 6, 7, 8, 9, 10, 11, 12] [] (by decide) rfl rfl (by decide) (by decide) rfl rfl (by simp [Value.category]) ⟨by decide, by decide⟩ dX6_sumOverRounds_19 (fun v w1 H locs hp hw => ?_)
        obtain ⟨mf2_3, rfl, rfl⟩ := hp
        have hw := hw.sub (ws' := wMain G o P h T L M ++ (wPiece G P gk gw gt gy R sp ++ wMk G M mf2_3)) [0, 1, 2, 3, 4, 5, 6, 7, 8, 9, 10, 11, 12] (by decide) rfl
        refine W.eq (g2 := F0 m 22 ls [vN (rvN K w y i 6), vN (t)]) rfl ?_
        refine k_iaddN hm dX6_sumOverRounds_22 ?_
        refine k_istore_n hm hl [(2, vN (t + (rvN K w y i 6))), (0, .ref (o)), (1, vN (6)), (3, vN (i))] (by decide) rfl dX6_sumOverRounds_23 (fun ls hl => ?_)
        refine k_iincN hm hl 3 1 rfl [(3, vN (i + 1)), (2, vN (t + (rvN K w y i 6))), (0, .ref (o)), (1, vN (6))] (by decide) rfl dX6_sumOverRounds_24 (fun ls hl => ?_)
        refine k_goto (tgt := 4) hm dX6_sumOverRounds_27 (by decide) ?_
        exact ih_4  (t + (rvN K w y i 6)) (i + 1) mf2_3 (by first | assumption | omega) (by simp only [sumR]; omega) _ _ _ (by omega) hw (lv_sub hl [2, 3, 1, 0] rfl)
  exact loop_4 (R - 0 + 1) 0 0 mf (by first | assumption | omega) rfl _ _ _ (Nat.lt_succ_self _) hw (lv_sub hl [2, 3, 1, 0] rfl)
set_option maxHeartbeats 4000000 in
set_option maxRecDepth 100000 in
theorem c_sumOver_7 (l : Launch) (G : kG) (o : Nat) (h : Nat) (T : Nat → Nat) (L : Nat → Nat) (M : Nat → Nat) (mf : Nat → Nat) (P : Nat → Nat) (gk : Nat → Nat) (gw : Nat → Nat) (gt : Nat → Nat) (gy : Nat → Nat) (R : Nat) (sp : Bool) (K : Nat → Nat → Nat) (w : Nat → Nat) (y : Nat → Nat) (hok : POk gk gw gt gy R K w y) : kCM l yX6_sumOverRounds wsX6_sumOverRounds 4 94 0 0 G [.ref (o), vN (7)] (wMain G o P h T L M ++ (wPiece G P gk gw gt gy R sp ++ wMk G M mf)) (fun vv uu => ∃ (mf2 : Nat → Nat), vv = some (vN (sumR K w y 7 R)) ∧ uu = wMain G o P h T L M ++ (wPiece G P gk gw gt gy R sp ++ wMk G M mf2)) := by
  refine kCM.of (cc := cX6_sumOverRounds) (maxL := 4) (ret := (some .int)) (by decide) rfl (Nat.le_of_ble_eq_true rfl) ?_
  intro p e s m args below meth c A ls Qz hQ hin hm hw hl
  have hl : lv_has ls 4 [(0, .ref (o)), (1, vN (7))] := hl
  have i4 : ∀ w ∈ wsX40, w ∈ wsX6_sumOverRounds := by decide +kernel
  have i6 : ∀ w ∈ wsX60, w ∈ wsX6_sumOverRounds := by decide +kernel
  have hR := hok.1.1
  refine k_iconstN hm 0 dX6_sumOverRounds_0 ?_
  refine k_istore_n hm hl [(2, vN (0)), (0, .ref (o)), (1, vN (7))] (by decide) rfl dX6_sumOverRounds_1 (fun ls hl => ?_)
  refine k_iconstN hm 0 dX6_sumOverRounds_2 ?_
  refine k_istore_n hm hl [(3, vN (0)), (2, vN (0)), (0, .ref (o)), (1, vN (7))] (by decide) rfl dX6_sumOverRounds_3 (fun ls hl => ?_)
  have loop_4 : ∀ (fu : Nat) (t : Nat) (i : Nat) (mg : Nat → Nat) (hi : i ≤ R) (ht : t = sumR K w y 7 i) (H : Heap) (locs : List Loc) (ls : Array Slot), R - i < fu → kW G A s (wMain G o P h T L M ++ (wPiece G P gk gw gt gy R sp ++ wMk G M mg)) H locs → lv_has ls 4 [(0, .ref (o)), (1, vN (7)), (2, vN (t)), (3, vN (i))] → W p l e { frames := 4, cells := 0, slots := 0, locals := 94 } s m args below meth c H locs 0 0 Qz (F0 m 4 ls []) := by
    intro fu
    induction fu with
    | zero => intro t i mg hi ht H locs ls hfu; exact absurd hfu (Nat.not_lt_zero _)
    | succ fu ih_4 =>
      intro t i mg hi ht H locs ls hfu hw hl
      refine k_iload_n hm hl 3 rfl dX6_sumOverRounds_4 ?_
      refine k_aload_n hm hl 0 rfl dX6_sumOverRounds_5 ?_
      refine k_get (T := TX6) hm hw 0 0 i6 rfl rfl (by decide) (by decide +kernel) rfl dX6_sumOverRounds_6 ?_
      refine k_get (T := TX4) hm hw 1 4 i4 rfl rfl (by decide) (by decide +kernel) rfl dX6_sumOverRounds_9 ?_
      refine k_icmpge (tgt := 30) hm dX6_sumOverRounds_12 (by decide) (by omega) (fun c_1 => ?_) (fun c_1 => ?_)
      · refine k_iload_n hm hl 2 rfl dX6_sumOverRounds_30 ?_
        exact k_iret (post := _) hm hQ rfl rfl hw (⟨mg, by rw [ht, show i = R by omega], rfl⟩) (by omega) (by omega) dX6_sumOverRounds_31
      · refine k_iload_n hm hl 2 rfl dX6_sumOverRounds_15 ?_
        refine k_aload_n hm hl 0 rfl dX6_sumOverRounds_16 ?_
        refine k_iload_n hm hl 3 rfl dX6_sumOverRounds_17 ?_
        refine k_iload_n hm hl 1 rfl dX6_sumOverRounds_18 ?_
        refine k_callV (n := 2) (As := [vN (i), vN (7)]) (rest := [vN (t)]) (wr := []) hm hw hl (c_ofRound_7 l G o h T L M mg P gk gw gt gy R sp K w y i (by first | assumption | omega) (by first | assumption | omega)) gX6_sumOverRounds_X6_ofRound rfl (by decide +kernel) ⟨by decide, by decide⟩ (ci := 6) rfl 0 rfl [0, 1, 2, 3, 4, 5, 6, 7, 8, 9, 10, 11, 12] [] (by decide) rfl rfl (by decide) (by decide) rfl rfl (by simp [Value.category]) ⟨by decide, by decide⟩ dX6_sumOverRounds_19 (fun v w1 H locs hp hw => ?_)
        obtain ⟨mf2_3, rfl, rfl⟩ := hp
        have hw := hw.sub (ws' := wMain G o P h T L M ++ (wPiece G P gk gw gt gy R sp ++ wMk G M mf2_3)) [0, 1, 2, 3, 4, 5, 6, 7, 8, 9, 10, 11, 12] (by decide) rfl
        refine W.eq (g2 := F0 m 22 ls [vN (rvN K w y i 7), vN (t)]) rfl ?_
        refine k_iaddN hm dX6_sumOverRounds_22 ?_
        refine k_istore_n hm hl [(2, vN (t + (rvN K w y i 7))), (0, .ref (o)), (1, vN (7)), (3, vN (i))] (by decide) rfl dX6_sumOverRounds_23 (fun ls hl => ?_)
        refine k_iincN hm hl 3 1 rfl [(3, vN (i + 1)), (2, vN (t + (rvN K w y i 7))), (0, .ref (o)), (1, vN (7))] (by decide) rfl dX6_sumOverRounds_24 (fun ls hl => ?_)
        refine k_goto (tgt := 4) hm dX6_sumOverRounds_27 (by decide) ?_
        exact ih_4  (t + (rvN K w y i 7)) (i + 1) mf2_3 (by first | assumption | omega) (by simp only [sumR]; omega) _ _ _ (by omega) hw (lv_sub hl [2, 3, 1, 0] rfl)
  exact loop_4 (R - 0 + 1) 0 0 mf (by first | assumption | omega) rfl _ _ _ (Nat.lt_succ_self _) hw (lv_sub hl [2, 3, 1, 0] rfl)
