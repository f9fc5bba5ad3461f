theorem cp_row {g g2 : Nat → Nat} {K : Nat → Nat → Nat} {w : Nat → Nat} {i : Nat} (hg : ∀ r, r < i → ∀ j, j < w r → g (r * 120 + j) = K r j) (h2 : ∀ j, j < w i → g2 (i * 120 + j) = K i j) (hw : ∀ r, r ≤ i → w r ≤ 120) : ∀ r, r < i + 1 → ∀ j, j < w r → cpU g g2 (i * 120) (w i) (r * 120 + j) = K r j := by
  intro r hr j hj
  have hwr := hw r (by omega)
  simp only [cpU]
  by_cases q : r = i
  · subst q
    rw [if_pos (by omega)]
    exact h2 j hj
  · have hlt : r < i := by omega
    have hm : (r + 1) * 120 ≤ i * 120 := Nat.mul_le_mul_right 120 hlt
    rw [if_neg (by omega)]
    exact hg r hlt j hj
theorem POk_cp {gk gw gt gy gk2 gw2 gt2 gy2 y w : Nat → Nat} {K : Nat → Nat → Nat} {R : Nat} (hok : POk gk2 gw2 gt2 gy2 R K w y) (hg : ∀ r, r < R → ∀ j, j < w r → gk (r * 120 + j) = K r j) : POk gk (cpU gw gw2 0 R) (cpU gt gt2 0 R) (cpU gy gy2 0 3) R K w y := by
  refine ⟨hok.1, fun r hr => ⟨?_, ?_, hg r hr⟩, fun k hk => ?_⟩
  · simp only [cpU]; rw [if_pos (by omega)]; exact (hok.2.1 r hr).1
  · simp only [cpU]; rw [if_pos (by omega)]; exact (hok.2.1 r hr).2.1
  · simp only [cpU]; rw [if_pos (by omega)]; exact hok.2.2 k hk
set_option maxHeartbeats 4000000 in
set_option maxRecDepth 100000 in
theorem c_takeOver (l : Launch) (G : kG) (P : Nat → Nat) (gk : Nat → Nat) (gw : Nat → Nat) (gt : Nat → Nat) (gy : Nat → Nat) (R : Nat) (sp : Bool) (O : Nat → Nat) (gk2 : Nat → Nat) (gw2 : Nat → Nat) (gt2 : Nat → Nat) (gy2 : Nat → Nat) (R2 : Nat) (sp2 : Bool) (K : Nat → Nat → Nat) (w : Nat → Nat) (y : Nat → Nat) (hok : POk gk2 gw2 gt2 gy2 R2 K w y) : kCM l yX4_takeOver wsX4_takeOver 2 46 0 0 G [.ref (P 0), .ref (O 0)] (wPiece G P gk gw gt gy R sp ++ wPiece G O gk2 gw2 gt2 gy2 R2 sp2) (fun vv uu => ∃ (gk3 : Nat → Nat), ∃ (gw3 : Nat → Nat), ∃ (gt3 : Nat → Nat), ∃ (gy3 : Nat → Nat), vv = none ∧ uu = wPiece G P gk3 gw3 gt3 gy3 R2 sp2 ++ wPiece G O gk2 gw2 gt2 gy2 R2 sp2 ∧ (POk gk3 gw3 gt3 gy3 R2 K w y)) := by
  refine kCM.of (cc := cX4_takeOver) (maxL := 3) (ret := none) (by decide) rfl (Nat.le_of_ble_eq_true rfl) ?_
  intro p e s m args below meth c A ls Qz hQ hin hm hw hl
  have hl : lv_has ls 3 [(0, .ref (P 0)), (1, .ref (O 0))] := hl
  have i4 : ∀ w ∈ wsX40, w ∈ wsX4_takeOver := by decide +kernel
  have hR := hok.1.1
  refine k_aload_n hm hl 0 rfl dX4_takeOver_0 ?_
  refine k_aload_n hm hl 1 rfl dX4_takeOver_1 ?_
  refine k_get (T := TX4) hm hw 9 4 i4 rfl rfl (by decide) (by decide +kernel) rfl dX4_takeOver_2 ?_
  refine k_put (T := TX4) hm hw 0 4 (wPiece G P gk gw gt gy R2 sp ++ wPiece G O gk2 gw2 gt2 gy2 R2 sp2) i4 tyX4 tyX4_ok nmX4 rfl rfl (by decide) (by decide +kernel) rfl (tyX4_ok 4 (by decide)) rfl rfl (Nat.le_of_ble_eq_true rfl) rfl dX4_takeOver_5 (fun H locs hw => ?_)
  refine k_aload_n hm hl 0 rfl dX4_takeOver_8 ?_
  refine k_aload_n hm hl 1 rfl dX4_takeOver_9 ?_
  refine k_get (T := TX4) hm hw 9 5 i4 rfl rfl (by decide) (by decide +kernel) rfl dX4_takeOver_10 ?_
  refine k_put (T := TX4) hm hw 0 5 (wPiece G P gk gw gt gy R2 sp2 ++ wPiece G O gk2 gw2 gt2 gy2 R2 sp2) i4 tyX4 tyX4_ok nmX4 rfl rfl (by decide) (by decide +kernel) rfl (tyX4_ok 5 (by decide)) (kN_bool _) (kF_bool _) (Nat.le_of_ble_eq_true rfl) rfl dX4_takeOver_13 (fun H locs hw => ?_)
  refine k_aload_n hm hl 0 rfl dX4_takeOver_16 ?_
  refine k_get (T := TX4) hm hw 0 1 i4 rfl rfl (by decide) (by decide +kernel) rfl dX4_takeOver_17 ?_
  refine k_aload_n hm hl 1 rfl dX4_takeOver_20 ?_
  refine k_get (T := TX4) hm hw 9 1 i4 rfl rfl (by decide) (by decide +kernel) rfl dX4_takeOver_21 ?_
  refine k_iconstN hm 0 dX4_takeOver_24 ?_
  refine k_aload_n hm hl 0 rfl dX4_takeOver_25 ?_
  refine k_get (T := TX4) hm hw 0 4 i4 rfl rfl (by decide) (by decide +kernel) rfl dX4_takeOver_26 ?_
  refine k_callV (n := 3) (As := [.ref (O 3), vN (0), vN (R2)]) (rest := []) (wr := [(P 0, .inr (4, [.ref (P 1), .ref (P 3), .ref (P 5), .ref (P 7), vN (R2), vB (sp2)])), (P 1, .inr (2, [.ref (P 2)])), (P 2, .inl (G.2 0, 4800, .inl (nF gk))), (P 5, .inr (2, [.ref (P 6)])), (P 6, .inl (G.2 0, 40, .inl (nF gt))), (P 7, .inr (2, [.ref (P 8)])), (P 8, .inl (G.2 0, 3, .inl (nF gy))), (O 0, .inr (4, [.ref (O 1), .ref (O 3), .ref (O 5), .ref (O 7), vN (R2), vB (sp2)])), (O 1, .inr (2, [.ref (O 2)])), (O 2, .inl (G.2 0, 4800, .inl (nF gk2))), (O 5, .inr (2, [.ref (O 6)])), (O 6, .inl (G.2 0, 40, .inl (nF gt2))), (O 7, .inr (2, [.ref (O 8)])), (O 8, .inl (G.2 0, 3, .inl (nF gy2)))]) hm hw hl (c_Num_take l G (P 3) (P 4) 40 gw (O 3) (O 4) 40 gw2 0 R2 (by first | assumption | omega)) gX4_takeOver_X2_take rfl (by decide +kernel) ⟨by decide, by decide⟩ (ci := 2) rfl 3 rfl [3, 4, 12, 13] [0, 1, 2, 5, 6, 7, 8, 9, 10, 11, 14, 15, 16, 17] (by decide) rfl rfl (by decide) (by decide) rfl rfl (by simp [Value.category]) ⟨by decide, by decide⟩ dX4_takeOver_29 (fun v w1 H locs hp hw => ?_)
  obtain ⟨rfl, rfl⟩ := hp
  have hw := hw.sub (ws' := wPiece G P gk (cpU gw gw2 0 R2) gt gy R2 sp2 ++ wPiece G O gk2 gw2 gt2 gy2 R2 sp2) [0, 1, 2, 14, 15, 3, 4, 5, 6, 7, 8, 9, 16, 17, 10, 11, 12, 13] (by decide) rfl
  refine W.eq (g2 := F0 m 32 ls []) rfl ?_
  refine k_aload_n hm hl 0 rfl dX4_takeOver_32 ?_
  refine k_get (T := TX4) hm hw 0 2 i4 rfl rfl (by decide) (by decide +kernel) rfl dX4_takeOver_33 ?_
  refine k_aload_n hm hl 1 rfl dX4_takeOver_36 ?_
  refine k_get (T := TX4) hm hw 9 2 i4 rfl rfl (by decide) (by decide +kernel) rfl dX4_takeOver_37 ?_
  refine k_iconstN hm 0 dX4_takeOver_40 ?_
  refine k_aload_n hm hl 0 rfl dX4_takeOver_41 ?_
  refine k_get (T := TX4) hm hw 0 4 i4 rfl rfl (by decide) (by decide +kernel) rfl dX4_takeOver_42 ?_
  refine k_callV (n := 3) (As := [.ref (O 5), vN (0), vN (R2)]) (rest := []) (wr := [(P 0, .inr (4, [.ref (P 1), .ref (P 3), .ref (P 5), .ref (P 7), vN (R2), vB (sp2)])), (P 1, .inr (2, [.ref (P 2)])), (P 2, .inl (G.2 0, 4800, .inl (nF gk))), (P 3, .inr (2, [.ref (P 4)])), (P 4, .inl (G.2 0, 40, .inl (nF (cpU gw gw2 0 R2)))), (P 7, .inr (2, [.ref (P 8)])), (P 8, .inl (G.2 0, 3, .inl (nF gy))), (O 0, .inr (4, [.ref (O 1), .ref (O 3), .ref (O 5), .ref (O 7), vN (R2), vB (sp2)])), (O 1, .inr (2, [.ref (O 2)])), (O 2, .inl (G.2 0, 4800, .inl (nF gk2))), (O 3, .inr (2, [.ref (O 4)])), (O 4, .inl (G.2 0, 40, .inl (nF gw2))), (O 7, .inr (2, [.ref (O 8)])), (O 8, .inl (G.2 0, 3, .inl (nF gy2)))]) hm hw hl (c_Num_take l G (P 5) (P 6) 40 gt (O 5) (O 6) 40 gt2 0 R2 (by first | assumption | omega)) gX4_takeOver_X2_take rfl (by decide +kernel) ⟨by decide, by decide⟩ (ci := 2) rfl 5 rfl [5, 6, 14, 15] [0, 1, 2, 3, 4, 7, 8, 9, 10, 11, 12, 13, 16, 17] (by decide) rfl rfl (by decide) (by decide) rfl rfl (by simp [Value.category]) ⟨by decide, by decide⟩ dX4_takeOver_45 (fun v w1 H locs hp hw => ?_)
  obtain ⟨rfl, rfl⟩ := hp
  have hw := hw.sub (ws' := wPiece G P gk (cpU gw gw2 0 R2) (cpU gt gt2 0 R2) gy R2 sp2 ++ wPiece G O gk2 gw2 gt2 gy2 R2 sp2) [0, 1, 2, 3, 4, 14, 15, 5, 6, 7, 8, 9, 10, 11, 16, 17, 12, 13] (by decide) rfl
  refine W.eq (g2 := F0 m 48 ls []) rfl ?_
  refine k_aload_n hm hl 0 rfl dX4_takeOver_48 ?_
  refine k_get (T := TX4) hm hw 0 3 i4 rfl rfl (by decide) (by decide +kernel) rfl dX4_takeOver_49 ?_
  refine k_aload_n hm hl 1 rfl dX4_takeOver_52 ?_
  refine k_get (T := TX4) hm hw 9 3 i4 rfl rfl (by decide) (by decide +kernel) rfl dX4_takeOver_53 ?_
  refine k_iconstN hm 0 dX4_takeOver_56 ?_
  refine k_iconstN hm 3 dX4_takeOver_57 ?_
  refine k_callV (n := 3) (As := [.ref (O 7), vN (0), vN (3)]) (rest := []) (wr := [(P 0, .inr (4, [.ref (P 1), .ref (P 3), .ref (P 5), .ref (P 7), vN (R2), vB (sp2)])), (P 1, .inr (2, [.ref (P 2)])), (P 2, .inl (G.2 0, 4800, .inl (nF gk))), (P 3, .inr (2, [.ref (P 4)])), (P 4, .inl (G.2 0, 40, .inl (nF (cpU gw gw2 0 R2)))), (P 5, .inr (2, [.ref (P 6)])), (P 6, .inl (G.2 0, 40, .inl (nF (cpU gt gt2 0 R2)))), (O 0, .inr (4, [.ref (O 1), .ref (O 3), .ref (O 5), .ref (O 7), vN (R2), vB (sp2)])), (O 1, .inr (2, [.ref (O 2)])), (O 2, .inl (G.2 0, 4800, .inl (nF gk2))), (O 3, .inr (2, [.ref (O 4)])), (O 4, .inl (G.2 0, 40, .inl (nF gw2))), (O 5, .inr (2, [.ref (O 6)])), (O 6, .inl (G.2 0, 40, .inl (nF gt2)))]) hm hw hl (c_Num_take l G (P 7) (P 8) 3 gy (O 7) (O 8) 3 gy2 0 3 (by first | assumption | omega)) gX4_takeOver_X2_take rfl (by decide +kernel) ⟨by decide, by decide⟩ (ci := 2) rfl 7 rfl [7, 8, 16, 17] [0, 1, 2, 3, 4, 5, 6, 9, 10, 11, 12, 13, 14, 15] (by decide) rfl rfl (by decide) (by decide) rfl rfl (by simp [Value.category]) ⟨by decide, by decide⟩ dX4_takeOver_58 (fun v w1 H locs hp hw => ?_)
  obtain ⟨rfl, rfl⟩ := hp
  have hw := hw.sub (ws' := wPiece G P gk (cpU gw gw2 0 R2) (cpU gt gt2 0 R2) (cpU gy gy2 0 3) R2 sp2 ++ wPiece G O gk2 gw2 gt2 gy2 R2 sp2) [0, 1, 2, 3, 4, 5, 6, 14, 15, 7, 8, 9, 10, 11, 12, 13, 16, 17] (by decide) rfl
  refine W.eq (g2 := F0 m 61 ls []) rfl ?_
  refine k_iconstN hm 0 dX4_takeOver_61 ?_
  refine k_istore_n hm hl [(2, vN (0)), (0, .ref (P 0)), (1, .ref (O 0))] (by decide) rfl dX4_takeOver_62 (fun ls hl => ?_)
  have loop_63 : ∀ (fu : Nat) (i : Nat) (g : Nat → Nat) (hi : i ≤ R2) (hg : ∀ r, r < i → ∀ j, j < w r → g (r * 120 + j) = K r j) (H : Heap) (locs : List Loc) (ls : Array Slot), R2 - i < fu → kW G A s (wPiece G P g (cpU gw gw2 0 R2) (cpU gt gt2 0 R2) (cpU gy gy2 0 3) R2 sp2 ++ wPiece G O gk2 gw2 gt2 gy2 R2 sp2) H locs → lv_has ls 3 [(0, .ref (P 0)), (1, .ref (O 0)), (2, vN (i))] → W p l e { frames := 2, cells := 0, slots := 0, locals := 46 } s m args below meth c H locs 0 0 Qz (F0 m 63 ls []) := by
    intro fu
    induction fu with
    | zero => intro i g hi hg H locs ls hfu; exact absurd hfu (Nat.not_lt_zero _)
    | succ fu ih_63 =>
      intro i g hi hg H locs ls hfu hw hl
      refine k_iload_n hm hl 2 rfl dX4_takeOver_63 ?_
      refine k_aload_n hm hl 0 rfl dX4_takeOver_64 ?_
      refine k_get (T := TX4) hm hw 0 4 i4 rfl rfl (by decide) (by decide +kernel) rfl dX4_takeOver_65 ?_
      refine k_icmpge (tgt := 100) hm dX4_takeOver_68 (by decide) (by omega) (fun c_4 => ?_) (fun c_4 => ?_)
      · exact k_vret hm hQ rfl hw (⟨g, _, _, _, rfl, rfl, POk_cp hok (fun r q => hg r (by omega))⟩) (by omega) (by omega) dX4_takeOver_100
      · have hwi := (hok.1.2.1 i (by omega)).1.2
        refine k_aload_n hm hl 0 rfl dX4_takeOver_71 ?_
        refine k_get (T := TX4) hm hw 0 0 i4 rfl rfl (by decide) (by decide +kernel) rfl dX4_takeOver_72 ?_
        refine k_aload_n hm hl 1 rfl dX4_takeOver_75 ?_
        refine k_get (T := TX4) hm hw 9 0 i4 rfl rfl (by decide) (by decide +kernel) rfl dX4_takeOver_76 ?_
        refine k_iload_n hm hl 2 rfl dX4_takeOver_79 ?_
        refine k_bipushN hm 120 dX4_takeOver_80 rfl ?_
        refine k_imulN hm dX4_takeOver_82 ?_
        refine k_aload_n hm hl 0 rfl dX4_takeOver_83 ?_
        refine k_get (T := TX4) hm hw 0 1 i4 rfl rfl (by decide) (by decide +kernel) rfl dX4_takeOver_84 ?_
        refine k_iload_n hm hl 2 rfl dX4_takeOver_87 ?_
        refine k_callVr (n := 1) (As := [vN (i)]) (rest := [vN (i * 120), .ref (O 1), .ref (P 1)]) hm hw hl (c_Num_at l G (P 3) (P 4) 40 (cpU gw gw2 0 R2) i (by first | assumption | omega)) gX4_takeOver_X2_at rfl (by decide +kernel) ⟨by decide, by decide⟩ (ci := 2) rfl 3 rfl [3, 4] (by decide) rfl rfl rfl (by simp [Value.category]) ⟨by decide, by decide⟩ dX4_takeOver_88 (fun v H locs hp hw => ?_)
        obtain rfl := hp
        refine W.eq (g2 := F0 m 91 ls [vN ((cpU gw gw2 0 R2) i), vN (i * 120), .ref (O 1), .ref (P 1)]) rfl ?_
        refine k_rwV (y := vN (w i)) (by
                              have q1 := (hok.2.1 i (by omega)).1
                              simp only [cpU]
                              rw [if_pos (by omega), q1]) ?_
        refine k_callV (n := 3) (As := [.ref (O 1), vN (i * 120), vN (w i)]) (rest := []) (wr := [(P 0, .inr (4, [.ref (P 1), .ref (P 3), .ref (P 5), .ref (P 7), vN (R2), vB (sp2)])), (P 3, .inr (2, [.ref (P 4)])), (P 4, .inl (G.2 0, 40, .inl (nF (cpU gw gw2 0 R2)))), (P 5, .inr (2, [.ref (P 6)])), (P 6, .inl (G.2 0, 40, .inl (nF (cpU gt gt2 0 R2)))), (P 7, .inr (2, [.ref (P 8)])), (P 8, .inl (G.2 0, 3, .inl (nF (cpU gy gy2 0 3)))), (O 0, .inr (4, [.ref (O 1), .ref (O 3), .ref (O 5), .ref (O 7), vN (R2), vB (sp2)])), (O 3, .inr (2, [.ref (O 4)])), (O 4, .inl (G.2 0, 40, .inl (nF gw2))), (O 5, .inr (2, [.ref (O 6)])), (O 6, .inl (G.2 0, 40, .inl (nF gt2))), (O 7, .inr (2, [.ref (O 8)])), (O 8, .inl (G.2 0, 3, .inl (nF gy2)))]) hm hw hl (c_Num_take l G (P 1) (P 2) 4800 g (O 1) (O 2) 4800 gk2 (i * 120) (w i) (by first | assumption | omega)) gX4_takeOver_X2_take rfl (by decide +kernel) ⟨by decide, by decide⟩ (ci := 2) rfl 1 rfl [1, 2, 10, 11] [0, 3, 4, 5, 6, 7, 8, 9, 12, 13, 14, 15, 16, 17] (by decide) rfl rfl (by decide) (by decide) rfl rfl (by simp [Value.category]) ⟨by decide, by decide⟩ dX4_takeOver_91 (fun v w1 H locs hp hw => ?_)
        obtain ⟨rfl, rfl⟩ := hp
        have hw := hw.sub (ws' := wPiece G P (cpU g gk2 (i * 120) (w i)) (cpU gw gw2 0 R2) (cpU gt gt2 0 R2) (cpU gy gy2 0 3) R2 sp2 ++ wPiece G O gk2 gw2 gt2 gy2 R2 sp2) [0, 14, 15, 1, 2, 3, 4, 5, 6, 7, 16, 17, 8, 9, 10, 11, 12, 13] (by decide) rfl
        refine W.eq (g2 := F0 m 94 ls []) rfl ?_
        refine k_iincN hm hl 2 1 rfl [(2, vN (i + 1)), (0, .ref (P 0)), (1, .ref (O 0))] (by decide) rfl dX4_takeOver_94 (fun ls hl => ?_)
        refine k_goto (tgt := 63) hm dX4_takeOver_97 (by decide) ?_
        exact ih_63  (i + 1) (cpU g gk2 (i * 120) (w i)) (by first | assumption | omega) (cp_row hg (hok.2.1 i (by omega)).2.2 (fun r q => (hok.1.2.1 r (by omega)).1.2)) _ _ _ (by omega) hw (lv_sub hl [1, 2, 0] rfl)
  exact loop_63 (R2 - 0 + 1) 0 gk (by first | assumption | omega) (fun r q => absurd q (by omega)) _ _ _ (Nat.lt_succ_self _) hw (lv_sub hl [1, 2, 0] rfl)
def wPlan (G : kG) (P : Nat → Nat) (f : Nat → Nat) (wk sh kd : Nat) : va_W :=
  [(P 0, .inr (5, [.ref (P 1), vN wk, vN sh, vN kd])), (P 1, .inr (2, [.ref (P 2)])), (P 2, .inl (G.2 0, 120, .inl (nF f)))]
set_option maxHeartbeats 4000000 in
set_option maxRecDepth 100000 in
theorem c_measure (l : Launch) (G : kG) (P : Nat → Nat) (f : Nat → Nat) (wk : Nat) (sh : Nat) (kd : Nat) (n : Nat) (t : Nat) (h : 3 ≤ n ∧ n ≤ 120 ∧ 3 ≤ t ∧ t ≤ 120) : kCM l yX5_measure wsX5_measure 0 0 0 0 G [.ref (P 0), vN (n), vN (t)] (wPlan G P f wk sh kd) (fun vv uu => ∃ (b : Bool), vv = some (vB (b)) ∧ uu = wPlan G P f (pm n t) (pd n t) (pk n t) ∧ (b = true ↔ isPo n t)) := by
  refine kCM.of (cc := cX5_measure) (maxL := 3) (ret := (some .boolean)) (by decide) rfl (Nat.le_of_ble_eq_true rfl) ?_
  intro p e s m args below meth c A ls Qz hQ hin hm hw hl
  have hl : lv_has ls 3 [(0, .ref (P 0)), (1, vN (n)), (2, vN (t))] := hl
  have i5 : ∀ w ∈ wsX50, w ∈ wsX5_measure := by decide +kernel
  refine k_iload_n hm hl 2 rfl dX5_measure_0 ?_
  refine k_iload_n hm hl 1 rfl dX5_measure_1 ?_
  refine k_icmplt (tgt := 36) hm dX5_measure_2 (by decide) (by omega) (fun c_1 => ?_) (fun c_1 => ?_)
  · refine k_aload_n hm hl 0 rfl dX5_measure_36 ?_
    refine k_iload_n hm hl 2 rfl dX5_measure_37 ?_
    refine k_put (T := TX5) hm hw 0 1 (wPlan G P f t sh kd) i5 tyX5 tyX5_ok nmX5 rfl rfl (by decide) (by decide +kernel) rfl (tyX5_ok 1 (by decide)) rfl rfl (Nat.le_of_ble_eq_true rfl) rfl dX5_measure_38 (fun H locs hw => ?_)
    refine k_aload_n hm hl 0 rfl dX5_measure_41 ?_
    refine k_iload_n hm hl 1 rfl dX5_measure_42 ?_
    refine k_iload_n hm hl 2 rfl dX5_measure_43 ?_
    refine k_isubN hm (by omega) dX5_measure_44 ?_
    refine k_put (T := TX5) hm hw 0 2 (wPlan G P f t (n - t) kd) i5 tyX5 tyX5_ok nmX5 rfl rfl (by decide) (by decide +kernel) rfl (tyX5_ok 2 (by decide)) rfl rfl (Nat.le_of_ble_eq_true rfl) rfl dX5_measure_45 (fun H locs hw => ?_)
    refine k_aload_n hm hl 0 rfl dX5_measure_48 ?_
    refine k_iconstN hm 2 dX5_measure_49 ?_
    refine k_put (T := TX5) hm hw 0 3 (wPlan G P f t (n - t) 2) i5 tyX5 tyX5_ok nmX5 rfl rfl (by decide) (by decide +kernel) rfl (tyX5_ok 3 (by decide)) rfl rfl (Nat.le_of_ble_eq_true rfl) rfl dX5_measure_50 (fun H locs hw => ?_)
    refine k_iconstN hm 2 dX5_measure_53 ?_
    refine k_aload_n hm hl 0 rfl dX5_measure_54 ?_
    refine k_get (T := TX5) hm hw 0 2 i5 rfl rfl (by decide) (by decide +kernel) rfl dX5_measure_55 ?_
    refine k_imulN hm dX5_measure_58 ?_
    refine k_iload_n hm hl 1 rfl dX5_measure_59 ?_
    refine k_icmpgt (tgt := 67) hm dX5_measure_60 (by decide) (by omega) (fun c_2 => ?_) (fun c_2 => ?_)
    · refine k_iconstN hm 0 dX5_measure_67 ?_
      exact k_iret (post := _) hm hQ rfl (kN_bool false) hw (⟨false, rfl, (by
                              have hc : ¬ n ≤ t := by omega
                              simp only [pm, pd, pk]
                              rw [if_neg hc, if_neg hc, if_neg hc]), (by
                              have hc : ¬ n ≤ t := by omega
                              unfold isPo
                              rw [if_neg hc]
                              exact ⟨fun q => absurd q (by decide), fun q => by omega⟩)⟩) (by omega) (by omega) dX5_measure_68
    · refine k_iconstN hm 1 dX5_measure_63 ?_
      refine k_goto (tgt := 68) hm dX5_measure_64 (by decide) ?_
      exact k_iret (post := _) hm hQ rfl (kN_bool true) hw (⟨true, rfl, (by
                              have hc : ¬ n ≤ t := by omega
                              simp only [pm, pd, pk]
                              rw [if_neg hc, if_neg hc, if_neg hc]), (by
                              have hc : ¬ n ≤ t := by omega
                              unfold isPo
                              rw [if_neg hc]
                              exact ⟨fun _ => by omega, fun _ => rfl⟩)⟩) (by omega) (by omega) dX5_measure_68
  · refine k_aload_n hm hl 0 rfl dX5_measure_5 ?_
    refine k_iload_n hm hl 1 rfl dX5_measure_6 ?_
    refine k_put (T := TX5) hm hw 0 1 (wPlan G P f n sh kd) i5 tyX5 tyX5_ok nmX5 rfl rfl (by decide) (by decide +kernel) rfl (tyX5_ok 1 (by decide)) rfl rfl (Nat.le_of_ble_eq_true rfl) rfl dX5_measure_7 (fun H locs hw => ?_)
    refine k_aload_n hm hl 0 rfl dX5_measure_10 ?_
    refine k_iload_n hm hl 2 rfl dX5_measure_11 ?_
    refine k_iload_n hm hl 1 rfl dX5_measure_12 ?_
    refine k_isubN hm (by omega) dX5_measure_13 ?_
    refine k_put (T := TX5) hm hw 0 2 (wPlan G P f n (t - n) kd) i5 tyX5 tyX5_ok nmX5 rfl rfl (by decide) (by decide +kernel) rfl (tyX5_ok 2 (by decide)) rfl rfl (Nat.le_of_ble_eq_true rfl) rfl dX5_measure_14 (fun H locs hw => ?_)
    refine k_aload_n hm hl 0 rfl dX5_measure_17 ?_
    refine k_iconstN hm 1 dX5_measure_18 ?_
    refine k_put (T := TX5) hm hw 0 3 (wPlan G P f n (t - n) 1) i5 tyX5 tyX5_ok nmX5 rfl rfl (by decide) (by decide +kernel) rfl (tyX5_ok 3 (by decide)) rfl rfl (Nat.le_of_ble_eq_true rfl) rfl dX5_measure_19 (fun H locs hw => ?_)
    refine k_aload_n hm hl 0 rfl dX5_measure_22 ?_
    refine k_get (T := TX5) hm hw 0 2 i5 rfl rfl (by decide) (by decide +kernel) rfl dX5_measure_23 ?_
    refine k_iload_n hm hl 1 rfl dX5_measure_26 ?_
    refine k_icmpgt (tgt := 34) hm dX5_measure_27 (by decide) (by omega) (fun c_3 => ?_) (fun c_3 => ?_)
    · refine k_iconstN hm 0 dX5_measure_34 ?_
      exact k_iret (post := _) hm hQ rfl (kN_bool false) hw (⟨false, rfl, (by
                              have hc : n ≤ t := by omega
                              simp only [pm, pd, pk]
                              rw [if_pos hc, if_pos hc, if_pos hc]), (by
                              have hc : n ≤ t := by omega
                              unfold isPo
                              rw [if_pos hc]
                              exact ⟨fun q => absurd q (by decide), fun q => by omega⟩)⟩) (by omega) (by omega) dX5_measure_35
    · refine k_iconstN hm 1 dX5_measure_30 ?_
      refine k_goto (tgt := 35) hm dX5_measure_31 (by decide) ?_
      exact k_iret (post := _) hm hQ rfl (kN_bool true) hw (⟨true, rfl, (by
                              have hc : n ≤ t := by omega
                              simp only [pm, pd, pk]
                              rw [if_pos hc, if_pos hc, if_pos hc]), (by
                              have hc : n ≤ t := by omega
                              unfold isPo
                              rw [if_pos hc]
                              exact ⟨fun _ => by omega, fun _ => rfl⟩)⟩) (by omega) (by omega) dX5_measure_35
set_option maxHeartbeats 4000000 in
set_option maxRecDepth 100000 in
theorem c_spreadKind (l : Launch) (G : kG) (P : Nat → Nat) (f : Nat → Nat) (wk : Nat) (sh : Nat) (kd : Nat) (i : Nat) (d : Nat) (m1 : Nat) (h : 0 < m1 ∧ m1 ≤ 120 ∧ i < 120 ∧ d ≤ 120) : kCR l yX5_spreadKind wsX5_spreadKind 0 0 G [.ref (P 0), vN (i), vN (d), vN (m1)] (wPlan G P f wk sh kd) (fun vv => vv = some (vN (spk kd d m1 i))) := by
  refine kCM.of (cc := cX5_spreadKind) (maxL := 4) (ret := (some .int)) (by decide) rfl (Nat.le_of_ble_eq_true rfl) ?_
  intro p e s m args below meth c A ls Qz hQ hin hm hw hl
  have hl : lv_has ls 4 [(0, .ref (P 0)), (1, vN (i)), (2, vN (d)), (3, vN (m1))] := hl
  have i5 : ∀ w ∈ wsX50, w ∈ wsX5_spreadKind := by decide +kernel
  have q1 : (i + 1) * d ≤ 120 * 120 := Nat.mul_le_mul (by omega) h.2.2.2
  have q2 : i * d ≤ 120 * 120 := Nat.mul_le_mul (by omega) h.2.2.2
  refine k_iload_n hm hl 3 rfl dX5_spreadKind_0 ?_
  refine k_ifgt (tgt := 6) hm dX5_spreadKind_1 (by decide) (by omega) (fun c_1 => ?_) (fun c_1 => absurd c_1 (by omega))
  refine k_iload_n hm hl 1 rfl dX5_spreadKind_6 ?_
  refine k_iconstN hm 1 dX5_spreadKind_7 ?_
  refine k_iaddN hm dX5_spreadKind_8 ?_
  refine k_iload_n hm hl 2 rfl dX5_spreadKind_9 ?_
  refine k_imulN hm dX5_spreadKind_10 ?_
  refine k_iload_n hm hl 3 rfl dX5_spreadKind_11 ?_
  refine k_idivN hm (by omega) dX5_spreadKind_12 ?_
  refine k_nmN (fun u_2 eu_2 => ?_)
  have qu : u_2 ≤ 14400 := by rw [eu_2]; exact Nat.le_trans (Nat.div_le_self _ _) q1
  have eu := eu_2
  refine k_iload_n hm hl 1 rfl dX5_spreadKind_13 ?_
  refine k_iload_n hm hl 2 rfl dX5_spreadKind_14 ?_
  refine k_imulN hm dX5_spreadKind_15 ?_
  refine k_iload_n hm hl 3 rfl dX5_spreadKind_16 ?_
  refine k_idivN hm (by omega) dX5_spreadKind_17 ?_
  refine k_nmN (fun v_3 ev_3 => ?_)
  have qv : v_3 ≤ 14400 := by rw [ev_3]; exact Nat.le_trans (Nat.div_le_self _ _) q2
  have ev := ev_3
  refine k_icmple (tgt := 28) hm dX5_spreadKind_18 (by decide) (by omega) (fun c_4 => ?_) (fun c_4 => ?_)
  · refine k_iconstN hm 0 dX5_spreadKind_28 ?_
    exact k_iret (post := _) hm hQ rfl rfl hw (⟨by simp only [spk]; rw [← eu, ← ev, if_neg (by omega)], rfl⟩) (by omega) (by omega) dX5_spreadKind_29
  · refine k_aload_n hm hl 0 rfl dX5_spreadKind_21 ?_
    refine k_get (T := TX5) hm hw 0 3 i5 rfl rfl (by decide) (by decide +kernel) rfl dX5_spreadKind_22 ?_
    refine k_goto (tgt := 29) hm dX5_spreadKind_25 (by decide) ?_
    exact k_iret (post := _) hm hQ rfl rfl hw (⟨by simp only [spk]; rw [← eu, ← ev, if_pos (by omega)], rfl⟩) (by omega) (by omega) dX5_spreadKind_29
theorem pm_le {n t : Nat} (h : 3 ≤ n ∧ n ≤ 120 ∧ 3 ≤ t ∧ t ≤ 120) : 3 ≤ pm n t ∧ pm n t ≤ 120 ∧ pd n t ≤ 120 := by
  unfold pm pd; split <;> omega
set_option maxHeartbeats 4000000 in
set_option maxRecDepth 100000 in
theorem c_spread (l : Launch) (G : kG) (P : Nat → Nat) (f : Nat → Nat) (wk : Nat) (sh : Nat) (kd : Nat) (n : Nat) (t : Nat) (h : 3 ≤ n ∧ n ≤ 120 ∧ 3 ≤ t ∧ t ≤ 120) : kCM l yX5_spread wsX5_spread 1 23 0 0 G [.ref (P 0), vN (n), vN (t)] (wPlan G P f wk sh kd) (fun vv uu => ∃ (b : Bool), ∃ (f2 : Nat → Nat), vv = some (vB (b)) ∧ uu = wPlan G P f2 (pm n t) (pd n t) (pk n t) ∧ (b = true ↔ isPo n t) ∧ (isPo n t → ∀ i, i < pm n t → f2 i = spk (pk n t) (pd n t) (pm n t) i)) := by
  refine kCM.of (cc := cX5_spread) (maxL := 4) (ret := (some .boolean)) (by decide) rfl (Nat.le_of_ble_eq_true rfl) ?_
  intro p e s m args below meth c A ls Qz hQ hin hm hw hl
  have hl : lv_has ls 4 [(0, .ref (P 0)), (1, vN (n)), (2, vN (t))] := hl
  have i5 : ∀ w ∈ wsX50, w ∈ wsX5_spread := by decide +kernel
  have hpm := pm_le h
  have hpk := pkx_le n t
  refine k_aload_n hm hl 0 rfl dX5_spread_0 ?_
  refine k_iload_n hm hl 1 rfl dX5_spread_1 ?_
  refine k_iload_n hm hl 2 rfl dX5_spread_2 ?_
  refine k_callV (n := 2) (As := [vN (n), vN (t)]) (rest := []) (wr := []) hm hw hl (c_measure l G P f wk sh kd n t (by first | assumption | omega)) gX5_spread_X5_measure rfl (by decide +kernel) ⟨by decide, by decide⟩ (ci := 5) rfl 0 rfl [0, 1, 2] [] (by decide) rfl rfl (by decide) (by decide) rfl rfl (by simp [Value.category]) ⟨by decide, by decide⟩ dX5_spread_3 (fun v w1 H locs hp hw => ?_)
  obtain ⟨b_2, rfl, rfl, hb_3⟩ := hp
  have hw := hw.sub (ws' := wPlan G P f (pm n t) (pd n t) (pk n t)) [0, 1, 2] (by decide) rfl
  refine W.eq (g2 := F0 m 6 ls [vB (b_2)]) rfl ?_
  have hbm := hb_3
  refine k_ifneB (tgt := 11) hm dX5_spread_6 (by decide) (fun c_4 => ?_) (fun c_4 => ?_)
  · have hbt := c_4
    refine k_iconstN hm 0 dX5_spread_11 ?_
    refine k_istore_n hm hl [(3, vN (0)), (0, .ref (P 0)), (1, vN (n)), (2, vN (t))] (by decide) rfl dX5_spread_12 (fun ls hl => ?_)
    have loop_13 : ∀ (fu : Nat) (i : Nat) (g : Nat → Nat) (hi : i ≤ pm n t) (hg : ∀ j, j < i → g j = spk (pk n t) (pd n t) (pm n t) j) (H : Heap) (locs : List Loc) (ls : Array Slot), pm n t - i < fu → kW G A s (wPlan G P g (pm n t) (pd n t) (pk n t)) H locs → lv_has ls 4 [(0, .ref (P 0)), (1, vN (n)), (2, vN (t)), (3, vN (i))] → W p l e { frames := 1, cells := 0, slots := 0, locals := 23 } s m args below meth c H locs 0 0 Qz (F0 m 13 ls []) := by
      intro fu
      induction fu with
      | zero => intro i g hi hg H locs ls hfu; exact absurd hfu (Nat.not_lt_zero _)
      | succ fu ih_13 =>
        intro i g hi hg H locs ls hfu hw hl
        refine k_iload_n hm hl 3 rfl dX5_spread_13 ?_
        refine k_aload_n hm hl 0 rfl dX5_spread_14 ?_
        refine k_get (T := TX5) hm hw 0 1 i5 rfl rfl (by decide) (by decide +kernel) rfl dX5_spread_15 ?_
        refine k_icmpge (tgt := 48) hm dX5_spread_18 (by decide) (by omega) (fun c_5 => ?_) (fun c_5 => ?_)
        · refine k_iconstN hm 1 dX5_spread_48 ?_
          exact k_iret (post := _) hm hQ rfl (kN_bool true) hw (⟨true, g, rfl, rfl, ⟨fun _ => hbm.mp hbt, fun _ => rfl⟩, fun _ j hj => hg j (by omega)⟩) (by omega) (by omega) dX5_spread_49
        · refine k_aload_n hm hl 0 rfl dX5_spread_21 ?_
          refine k_get (T := TX5) hm hw 0 0 i5 rfl rfl (by decide) (by decide +kernel) rfl dX5_spread_22 ?_
          refine k_iload_n hm hl 3 rfl dX5_spread_25 ?_
          refine k_aload_n hm hl 0 rfl dX5_spread_26 ?_
          refine k_iload_n hm hl 3 rfl dX5_spread_27 ?_
          refine k_aload_n hm hl 0 rfl dX5_spread_28 ?_
          refine k_get (T := TX5) hm hw 0 2 i5 rfl rfl (by decide) (by decide +kernel) rfl dX5_spread_29 ?_
          refine k_aload_n hm hl 0 rfl dX5_spread_32 ?_
          refine k_get (T := TX5) hm hw 0 1 i5 rfl rfl (by decide) (by decide +kernel) rfl dX5_spread_33 ?_
          refine k_callVr (n := 3) (As := [vN (i), vN (pd n t), vN (pm n t)]) (rest := [vN (i), .ref (P 1)]) hm hw hl (c_spreadKind l G P g (pm n t) (pd n t) (pk n t) i (pd n t) (pm n t) (by first | assumption | omega)) gX5_spread_X5_spreadKind rfl (by decide +kernel) ⟨by decide, by decide⟩ (ci := 5) rfl 0 rfl [0, 1, 2] (by decide) rfl rfl rfl (by simp [Value.category]) ⟨by decide, by decide⟩ dX5_spread_36 (fun v H locs hp hw => ?_)
          obtain rfl := hp
          refine W.eq (g2 := F0 m 39 ls [vN (spk (pk n t) (pd n t) (pm n t) i), vN (i), .ref (P 1)]) rfl ?_
          refine k_callV (n := 2) (As := [vN (i), vN (spk (pk n t) (pd n t) (pm n t) i)]) (rest := []) (wr := [(P 0, .inr (5, [.ref (P 1), vN (pm n t), vN (pd n t), vN (pk n t)]))]) hm hw hl (c_Num_put l G (P 1) (P 2) 120 g i (spk (pk n t) (pd n t) (pm n t) i) (by first | assumption | omega)) gX5_spread_X2_put rfl (by decide +kernel) ⟨by decide, by decide⟩ (ci := 2) rfl 1 rfl [1, 2] [0] (by decide) rfl rfl (by decide) (by decide) rfl rfl (by simp [Value.category]) ⟨by decide, by decide⟩ dX5_spread_39 (fun v w1 H locs hp hw => ?_)
          obtain ⟨rfl, rfl⟩ := hp
          have hw := hw.sub (ws' := wPlan G P (nU g i (spk (pk n t) (pd n t) (pm n t) i)) (pm n t) (pd n t) (pk n t)) [0, 1, 2] (by decide) rfl
          refine W.eq (g2 := F0 m 42 ls []) rfl ?_
          refine k_iincN hm hl 3 1 rfl [(3, vN (i + 1)), (0, .ref (P 0)), (1, vN (n)), (2, vN (t))] (by decide) rfl dX5_spread_42 (fun ls hl => ?_)
          refine k_goto (tgt := 13) hm dX5_spread_45 (by decide) ?_
          exact ih_13  (i + 1) (nU g i (spk (pk n t) (pd n t) (pm n t) i)) (by first | assumption | omega) (by
                              intro j q
                              by_cases q2 : j = i
                              · rw [q2, nU_s]
                              · rw [nU_n q2]
                                exact hg j (by omega)) _ _ _ (by omega) hw (lv_sub hl [1, 2, 3, 0] rfl)
    exact loop_13 (pm n t - 0 + 1) 0 f (by first | assumption | omega) (fun j q => absurd q (by omega)) _ _ _ (Nat.lt_succ_self _) hw (lv_sub hl [1, 2, 3, 0] rfl)
  · have hbt := c_4
    refine k_iconstN hm 0 dX5_spread_9 ?_
    exact k_iret (post := _) hm hQ rfl (kN_bool false) hw (⟨false, f, rfl, rfl, ⟨fun q => absurd q (by decide), fun q => by rw [hbm.mpr q] at hbt; cases hbt⟩, fun q => by rw [hbm.mpr q] at hbt; cases hbt⟩) (by omega) (by omega) dX5_spread_10
set_option maxHeartbeats 4000000 in
set_option maxRecDepth 100000 in
theorem c_mirror (l : Launch) (G : kG) (P : Nat → Nat) (f : Nat → Nat) (wk : Nat) (sh : Nat) (kd : Nat) (n : Nat) (t : Nat) (h : 3 ≤ n ∧ n ≤ 120 ∧ 3 ≤ t ∧ t ≤ 120) : kCM l yX5_mirror wsX5_mirror 1 23 0 0 G [.ref (P 0), vN (n), vN (t)] (wPlan G P f wk sh kd) (fun vv uu => ∃ (b : Bool), ∃ (f2 : Nat → Nat), vv = some (vB (b)) ∧ uu = wPlan G P f2 (pm n t) (pd n t) (pk n t) ∧ (b = true ↔ isPo n t ∧ ¬ (pd n t % 2 = 1 ∧ pm n t % 2 = 0)) ∧ (b = true → ∀ i, i < pm n t → f2 i = mik (pk n t) (pd n t) (pm n t) i)) := by
  refine kCM.of (cc := cX5_mirror) (maxL := 8) (ret := (some .boolean)) (by decide) rfl (Nat.le_of_ble_eq_true rfl) ?_
  intro p e s m args below meth c A ls Qz hQ hin hm hw hl
  have hl : lv_has ls 8 [(0, .ref (P 0)), (1, vN (n)), (2, vN (t))] := hl
  have i5 : ∀ w ∈ wsX50, w ∈ wsX5_mirror := by decide +kernel
  have hpm := pm_le h
  have hpk := pkx_le n t
  refine k_aload_n hm hl 0 rfl dX5_mirror_0 ?_
  refine k_iload_n hm hl 1 rfl dX5_mirror_1 ?_
  refine k_iload_n hm hl 2 rfl dX5_mirror_2 ?_
  refine k_callV (n := 2) (As := [vN (n), vN (t)]) (rest := []) (wr := []) hm hw hl (c_measure l G P f wk sh kd n t (by first | assumption | omega)) gX5_mirror_X5_measure rfl (by decide +kernel) ⟨by decide, by decide⟩ (ci := 5) rfl 0 rfl [0, 1, 2] [] (by decide) rfl rfl (by decide) (by decide) rfl rfl (by simp [Value.category]) ⟨by decide, by decide⟩ dX5_mirror_3 (fun v w1 H locs hp hw => ?_)
  obtain ⟨b_2, rfl, rfl, hb_3⟩ := hp
  have hw := hw.sub (ws' := wPlan G P f (pm n t) (pd n t) (pk n t)) [0, 1, 2] (by decide) rfl
  refine W.eq (g2 := F0 m 6 ls [vB (b_2)]) rfl ?_
  have hbm := hb_3
  refine k_ifneB (tgt := 11) hm dX5_mirror_6 (by decide) (fun c_4 => ?_) (fun c_4 => ?_)
  · have hbt := c_4
    refine k_aload_n hm hl 0 rfl dX5_mirror_11 ?_
    refine k_get (T := TX5) hm hw 0 1 i5 rfl rfl (by decide) (by decide +kernel) rfl dX5_mirror_12 ?_
    refine k_iconstN hm 2 dX5_mirror_15 ?_
    refine k_iremN hm (by omega) dX5_mirror_16 ?_
    refine k_iconstN hm 1 dX5_mirror_17 ?_
    refine k_icmpne (tgt := 25) hm dX5_mirror_18 (by decide) (by omega) (fun c_5 => ?_) (fun c_5 => ?_)
    · refine k_iconstN hm 0 dX5_mirror_25 ?_
      refine k_istore_n hm hl [(3, vN (0)), (0, .ref (P 0)), (1, vN (n)), (2, vN (t))] (by decide) rfl dX5_mirror_26 (fun ls hl => ?_)
      refine k_aload_n hm hl 1 rfl dX5_mirror_27 ?_
      refine k_get (T := TX5) hm hw 0 2 i5 rfl rfl (by decide) (by decide +kernel) rfl dX5_mirror_28 ?_
      refine k_iconstN hm 2 dX5_mirror_31 ?_
      refine k_iremN hm (by omega) dX5_mirror_32 ?_
      refine k_iconstN hm 1 dX5_mirror_33 ?_
      refine k_icmpne (tgt := 41) hm dX5_mirror_34 (by decide) (by omega) (fun c_6 => ?_) (fun c_6 => ?_)
      · refine k_iconstN hm 0 dX5_mirror_41 ?_
        refine k_istore hm hl [(4, vN (0)), (3, vN (0)), (0, .ref (P 0)), (1, vN (n)), (2, vN (t))] (by decide) rfl dX5_mirror_42 (fun ls hl => ?_)
        refine k_iload hm hl 0 rfl dX5_mirror_44 ?_
        refine k_ifeq (tgt := 55) hm dX5_mirror_46 (by decide) (by omega) (fun c_7 => ?_) (fun c_7 => absurd c_7 (by omega))
        refine k_aload_n hm hl 2 rfl dX5_mirror_55 ?_
        refine k_get (T := TX5) hm hw 0 1 i5 rfl rfl (by decide) (by decide +kernel) rfl dX5_mirror_56 ?_
        refine k_iconstN hm 2 dX5_mirror_59 ?_
        refine k_idivN hm (by omega) dX5_mirror_60 ?_
        refine k_istore hm hl [(5, vN ((pm n t) / 2)), (4, vN (0)), (3, vN (0)), (0, .ref (P 0)), (1, vN (n)), (2, vN (t))] (by decide) rfl dX5_mirror_61 (fun ls hl => ?_)
        refine k_iconstN hm 0 dX5_mirror_63 ?_
        refine k_istore hm hl [(6, vN (0)), (5, vN ((pm n t) / 2)), (4, vN (0)), (3, vN (0)), (0, .ref (P 0)), (1, vN (n)), (2, vN (t))] (by decide) rfl dX5_mirror_64 (fun ls hl => ?_)
        have loop_66 : ∀ (fu : Nat) (i : Nat) (g : Nat → Nat) (hi : i ≤ pm n t / 2) (hg : ∀ j, (j < i ∨ (pm n t - 1 - i < j ∧ j < pm n t)) → g j = mik (pk n t) (pd n t) (pm n t) j) (H : Heap) (locs : List Loc) (ls : Array Slot), pm n t / 2 - i < fu → kW G A s (wPlan G P g (pm n t) (pd n t) (pk n t)) H locs → lv_has ls 8 [(0, .ref (P 0)), (1, vN (n)), (2, vN (t)), (3, vN (0)), (4, vN (0)), (5, vN (pm n t / 2)), (6, vN (i))] → W p l e { frames := 1, cells := 0, slots := 0, locals := 23 } s m args below meth c H locs 0 0 Qz (F0 m 66 ls []) := by
          intro fu
          induction fu with
          | zero => intro i g hi hg H locs ls hfu; exact absurd hfu (Nat.not_lt_zero _)
          | succ fu ih_66 =>
            intro i g hi hg H locs ls hfu hw hl
            refine k_iload hm hl 6 rfl dX5_mirror_66 ?_
            refine k_iload hm hl 5 rfl dX5_mirror_68 ?_
            refine k_icmpge (tgt := 124) hm dX5_mirror_70 (by decide) (by omega) (fun c_8 => ?_) (fun c_8 => ?_)
            · refine k_iload_n hm hl 3 rfl dX5_mirror_124 ?_
              refine k_ifeq (tgt := 150) hm dX5_mirror_125 (by decide) (by omega) (fun c_9 => ?_) (fun c_9 => absurd c_9 (by omega))
              refine k_iconstN hm 1 dX5_mirror_150 ?_
              exact k_iret (post := _) hm hQ rfl (kN_bool true) hw (⟨true, g, rfl, rfl, ⟨fun _ => ⟨hbm.mp hbt, by omega⟩, fun _ => rfl⟩, (fun _ j hj => hg j (by omega))⟩) (by omega) (by omega) dX5_mirror_151
            · refine k_aload_n hm hl 0 rfl dX5_mirror_73 ?_
              refine k_iload hm hl 6 rfl dX5_mirror_74 ?_
              refine k_aload_n hm hl 0 rfl dX5_mirror_76 ?_
              refine k_get (T := TX5) hm hw 0 2 i5 rfl rfl (by decide) (by decide +kernel) rfl dX5_mirror_77 ?_
              refine k_iconstN hm 2 dX5_mirror_80 ?_
              refine k_idivN hm (by omega) dX5_mirror_81 ?_
              refine k_iload hm hl 5 rfl dX5_mirror_82 ?_
              refine k_callVr (n := 3) (As := [vN (i), vN ((pd n t) / 2), vN (pm n t / 2)]) (rest := []) hm hw hl (c_spreadKind l G P g (pm n t) (pd n t) (pk n t) i ((pd n t) / 2) (pm n t / 2) (by first | assumption | omega)) gX5_mirror_X5_spreadKind rfl (by decide +kernel) ⟨by decide, by decide⟩ (ci := 5) rfl 0 rfl [0, 1, 2] (by decide) rfl rfl rfl (by simp [Value.category]) ⟨by decide, by decide⟩ dX5_mirror_84 (fun v H locs hp hw => ?_)
              obtain rfl := hp
              refine W.eq (g2 := F0 m 87 ls [vN (spk (pk n t) ((pd n t) / 2) (pm n t / 2) i)]) rfl ?_
              refine k_istore hm hl [(7, vN (spk (pk n t) ((pd n t) / 2) (pm n t / 2) i)), (0, .ref (P 0)), (1, vN (n)), (2, vN (t)), (3, vN (0)), (4, vN (0)), (5, vN (pm n t / 2)), (6, vN (i))] (by decide) rfl dX5_mirror_87 (fun ls hl => ?_)
              refine k_aload_n hm hl 1 rfl dX5_mirror_89 ?_
              refine k_get (T := TX5) hm hw 0 0 i5 rfl rfl (by decide) (by decide +kernel) rfl dX5_mirror_90 ?_
              refine k_iload hm hl 7 rfl dX5_mirror_93 ?_
              refine k_iload hm hl 0 rfl dX5_mirror_95 ?_
              refine k_callV (n := 2) (As := [vN (i), vN (spk (pk n t) ((pd n t) / 2) (pm n t / 2) i)]) (rest := []) (wr := [(P 0, .inr (5, [.ref (P 1), vN (pm n t), vN (pd n t), vN (pk n t)]))]) hm hw hl (c_Num_put l G (P 1) (P 2) 120 g i (spk (pk n t) ((pd n t) / 2) (pm n t / 2) i) (by first | assumption | omega)) gX5_mirror_X2_put rfl (by decide +kernel) ⟨by decide, by decide⟩ (ci := 2) rfl 1 rfl [1, 2] [0] (by decide) rfl rfl (by decide) (by decide) rfl rfl (by simp [Value.category]) ⟨by decide, by decide⟩ dX5_mirror_97 (fun v w1 H locs hp hw => ?_)
              obtain ⟨rfl, rfl⟩ := hp
              have hw := hw.sub (ws' := wPlan G P (nU g i (spk (pk n t) ((pd n t) / 2) (pm n t / 2) i)) (pm n t) (pd n t) (pk n t)) [0, 1, 2] (by decide) rfl
              refine W.eq (g2 := F0 m 100 ls []) rfl ?_
              refine k_aload_n hm hl 1 rfl dX5_mirror_100 ?_
              refine k_get (T := TX5) hm hw 0 0 i5 rfl rfl (by decide) (by decide +kernel) rfl dX5_mirror_101 ?_
              refine k_aload_n hm hl 1 rfl dX5_mirror_104 ?_
              refine k_get (T := TX5) hm hw 0 1 i5 rfl rfl (by decide) (by decide +kernel) rfl dX5_mirror_105 ?_
              refine k_iconstN hm 1 dX5_mirror_108 ?_
              refine k_isubN hm (by omega) dX5_mirror_109 ?_
              refine k_iload hm hl 7 rfl dX5_mirror_110 ?_
              refine k_isubN hm (by omega) dX5_mirror_112 ?_
              refine k_iload hm hl 0 rfl dX5_mirror_113 ?_
              refine k_callV (n := 2) (As := [vN (((pm n t) - 1) - i), vN (spk (pk n t) ((pd n t) / 2) (pm n t / 2) i)]) (rest := []) (wr := [(P 0, .inr (5, [.ref (P 1), vN (pm n t), vN (pd n t), vN (pk n t)]))]) hm hw hl (c_Num_put l G (P 1) (P 2) 120 (nU g i (spk (pk n t) ((pd n t) / 2) (pm n t / 2) i)) (((pm n t) - 1) - i) (spk (pk n t) ((pd n t) / 2) (pm n t / 2) i) (by first | assumption | omega)) gX5_mirror_X2_put rfl (by decide +kernel) ⟨by decide, by decide⟩ (ci := 2) rfl 1 rfl [1, 2] [0] (by decide) rfl rfl (by decide) (by decide) rfl rfl (by simp [Value.category]) ⟨by decide, by decide⟩ dX5_mirror_115 (fun v w1 H locs hp hw => ?_)
              obtain ⟨rfl, rfl⟩ := hp
              have hw := hw.sub (ws' := wPlan G P (nU (nU g i (spk (pk n t) ((pd n t) / 2) (pm n t / 2) i)) (((pm n t) - 1) - i) (spk (pk n t) ((pd n t) / 2) (pm n t / 2) i)) (pm n t) (pd n t) (pk n t)) [0, 1, 2] (by decide) rfl
              refine W.eq (g2 := F0 m 118 ls []) rfl ?_
              refine k_iincN hm hl 7 1 rfl [(6, vN (i + 1)), (7, vN (spk (pk n t) ((pd n t) / 2) (pm n t / 2) i)), (0, .ref (P 0)), (1, vN (n)), (2, vN (t)), (3, vN (0)), (4, vN (0)), (5, vN (pm n t / 2))] (by decide) rfl dX5_mirror_118 (fun ls hl => ?_)
              refine k_goto (tgt := 66) hm dX5_mirror_121 (by decide) ?_
              exact ih_66  (i + 1) (nU (nU g i (spk (pk n t) ((pd n t) / 2) (pm n t / 2) i)) (((pm n t) - 1) - i) (spk (pk n t) ((pd n t) / 2) (pm n t / 2) i)) (by first | assumption | omega) (by
                              intro j q
                              by_cases q2 : j = pm n t - 1 - i
                              · rw [q2, nU_s, mik_hi (by omega)]
                              · rw [nU_n q2]
                                by_cases q3 : j = i
                                · rw [q3, nU_s, mik_lo (by omega)]
                                · rw [nU_n q3]
                                  exact hg j (by omega)) _ _ _ (by omega) hw (lv_sub hl [2, 3, 4, 5, 6, 7, 0] rfl)
        exact loop_66 (pm n t / 2 - 0 + 1) 0 f (by first | assumption | omega) (fun j q => absurd q (by omega)) _ _ _ (Nat.lt_succ_self _) hw (lv_sub hl [4, 5, 6, 3, 2, 1, 0] rfl)
      · refine k_iconstN hm 1 dX5_mirror_37 ?_
        refine k_goto (tgt := 42) hm dX5_mirror_38 (by decide) ?_
        refine k_istore hm hl [(4, vN (1)), (3, vN (0)), (0, .ref (P 0)), (1, vN (n)), (2, vN (t))] (by decide) rfl dX5_mirror_42 (fun ls hl => ?_)
        refine k_iload hm hl 0 rfl dX5_mirror_44 ?_
        refine k_ifeq (tgt := 55) hm dX5_mirror_46 (by decide) (by omega) (fun c_13 => absurd c_13 (by omega)) (fun c_13 => ?_)
        refine k_iload_n hm hl 1 rfl dX5_mirror_49 ?_
        refine k_ifne (tgt := 55) hm dX5_mirror_50 (by decide) (by omega) (fun c_14 => absurd c_14 (by omega)) (fun c_14 => ?_)
        refine k_iconstN hm 0 dX5_mirror_53 ?_
        exact k_iret (post := _) hm hQ rfl (kN_bool false) hw (⟨false, f, rfl, rfl, ⟨fun q => absurd q (by decide), fun q => by omega⟩, fun q => absurd q (by decide)⟩) (by omega) (by omega) dX5_mirror_54
    · refine k_iconstN hm 1 dX5_mirror_21 ?_
      refine k_goto (tgt := 26) hm dX5_mirror_22 (by decide) ?_
      refine k_istore_n hm hl [(3, vN (1)), (0, .ref (P 0)), (1, vN (n)), (2, vN (t))] (by decide) rfl dX5_mirror_26 (fun ls hl => ?_)
      refine k_aload_n hm hl 1 rfl dX5_mirror_27 ?_
      refine k_get (T := TX5) hm hw 0 2 i5 rfl rfl (by decide) (by decide +kernel) rfl dX5_mirror_28 ?_
      refine k_iconstN hm 2 dX5_mirror_31 ?_
      refine k_iremN hm (by omega) dX5_mirror_32 ?_
      refine k_iconstN hm 1 dX5_mirror_33 ?_
      refine k_icmpne (tgt := 41) hm dX5_mirror_34 (by decide) (by omega) (fun c_15 => ?_) (fun c_15 => ?_)
      · refine k_iconstN hm 0 dX5_mirror_41 ?_
        refine k_istore hm hl [(4, vN (0)), (3, vN (1)), (0, .ref (P 0)), (1, vN (n)), (2, vN (t))] (by decide) rfl dX5_mirror_42 (fun ls hl => ?_)
        refine k_iload hm hl 0 rfl dX5_mirror_44 ?_
        refine k_ifeq (tgt := 55) hm dX5_mirror_46 (by decide) (by omega) (fun c_16 => ?_) (fun c_16 => absurd c_16 (by omega))
        refine k_aload_n hm hl 2 rfl dX5_mirror_55 ?_
        refine k_get (T := TX5) hm hw 0 1 i5 rfl rfl (by decide) (by decide +kernel) rfl dX5_mirror_56 ?_
        refine k_iconstN hm 2 dX5_mirror_59 ?_
        refine k_idivN hm (by omega) dX5_mirror_60 ?_
        refine k_istore hm hl [(5, vN ((pm n t) / 2)), (4, vN (0)), (3, vN (1)), (0, .ref (P 0)), (1, vN (n)), (2, vN (t))] (by decide) rfl dX5_mirror_61 (fun ls hl => ?_)
        refine k_iconstN hm 0 dX5_mirror_63 ?_
        refine k_istore hm hl [(6, vN (0)), (5, vN ((pm n t) / 2)), (4, vN (0)), (3, vN (1)), (0, .ref (P 0)), (1, vN (n)), (2, vN (t))] (by decide) rfl dX5_mirror_64 (fun ls hl => ?_)
        have loop_66 : ∀ (fu : Nat) (i : Nat) (g : Nat → Nat) (hi : i ≤ pm n t / 2) (hg : ∀ j, (j < i ∨ (pm n t - 1 - i < j ∧ j < pm n t)) → g j = mik (pk n t) (pd n t) (pm n t) j) (H : Heap) (locs : List Loc) (ls : Array Slot), pm n t / 2 - i < fu → kW G A s (wPlan G P g (pm n t) (pd n t) (pk n t)) H locs → lv_has ls 8 [(0, .ref (P 0)), (1, vN (n)), (2, vN (t)), (3, vN (1)), (4, vN (0)), (5, vN (pm n t / 2)), (6, vN (i))] → W p l e { frames := 1, cells := 0, slots := 0, locals := 23 } s m args below meth c H locs 0 0 Qz (F0 m 66 ls []) := by
          intro fu
          induction fu with
          | zero => intro i g hi hg H locs ls hfu; exact absurd hfu (Nat.not_lt_zero _)
          | succ fu ih_66 =>
            intro i g hi hg H locs ls hfu hw hl
            refine k_iload hm hl 6 rfl dX5_mirror_66 ?_
            refine k_iload hm hl 5 rfl dX5_mirror_68 ?_
            refine k_icmpge (tgt := 124) hm dX5_mirror_70 (by decide) (by omega) (fun c_17 => ?_) (fun c_17 => ?_)
            · refine k_iload_n hm hl 3 rfl dX5_mirror_124 ?_
              refine k_ifeq (tgt := 150) hm dX5_mirror_125 (by decide) (by omega) (fun c_18 => absurd c_18 (by omega)) (fun c_18 => ?_)
              refine k_aload_n hm hl 0 rfl dX5_mirror_128 ?_
              refine k_get (T := TX5) hm hw 0 0 i5 rfl rfl (by decide) (by decide +kernel) rfl dX5_mirror_129 ?_
              refine k_iload hm hl 5 rfl dX5_mirror_132 ?_
              refine k_iload hm hl 4 rfl dX5_mirror_134 ?_
              refine k_ifeq (tgt := 146) hm dX5_mirror_136 (by decide) (by omega) (fun c_19 => ?_) (fun c_19 => absurd c_19 (by omega))
              refine k_iconstN hm 0 dX5_mirror_146 ?_
              refine k_callV (n := 2) (As := [vN (pm n t / 2), vN (0)]) (rest := []) (wr := [(P 0, .inr (5, [.ref (P 1), vN (pm n t), vN (pd n t), vN (pk n t)]))]) hm hw hl (c_Num_put l G (P 1) (P 2) 120 g (pm n t / 2) 0 (by first | assumption | omega)) gX5_mirror_X2_put rfl (by decide +kernel) ⟨by decide, by decide⟩ (ci := 2) rfl 1 rfl [1, 2] [0] (by decide) rfl rfl (by decide) (by decide) rfl rfl (by simp [Value.category]) ⟨by decide, by decide⟩ dX5_mirror_147 (fun v w1 H locs hp hw => ?_)
              obtain ⟨rfl, rfl⟩ := hp
              have hw := hw.sub (ws' := wPlan G P (nU g (pm n t / 2) 0) (pm n t) (pd n t) (pk n t)) [0, 1, 2] (by decide) rfl
              refine W.eq (g2 := F0 m 150 ls []) rfl ?_
              refine k_iconstN hm 1 dX5_mirror_150 ?_
              exact k_iret (post := _) hm hQ rfl (kN_bool true) hw (⟨true, (nU g (pm n t / 2) 0), rfl, rfl, ⟨fun _ => ⟨hbm.mp hbt, by omega⟩, fun _ => rfl⟩, (by
                              intro _ j hj
                              by_cases q2 : j = pm n t / 2
                              · rw [q2, nU_s, mik_mid (by omega)]
                                first | rw [if_pos (by omega)] | rw [if_neg (by omega)]
                              · rw [nU_n q2]
                                exact hg j (by omega))⟩) (by omega) (by omega) dX5_mirror_151
            · refine k_aload_n hm hl 0 rfl dX5_mirror_73 ?_
              refine k_iload hm hl 6 rfl dX5_mirror_74 ?_
              refine k_aload_n hm hl 0 rfl dX5_mirror_76 ?_
              refine k_get (T := TX5) hm hw 0 2 i5 rfl rfl (by decide) (by decide +kernel) rfl dX5_mirror_77 ?_
              refine k_iconstN hm 2 dX5_mirror_80 ?_
              refine k_idivN hm (by omega) dX5_mirror_81 ?_
              refine k_iload hm hl 5 rfl dX5_mirror_82 ?_
              refine k_callVr (n := 3) (As := [vN (i), vN ((pd n t) / 2), vN (pm n t / 2)]) (rest := []) hm hw hl (c_spreadKind l G P g (pm n t) (pd n t) (pk n t) i ((pd n t) / 2) (pm n t / 2) (by first | assumption | omega)) gX5_mirror_X5_spreadKind rfl (by decide +kernel) ⟨by decide, by decide⟩ (ci := 5) rfl 0 rfl [0, 1, 2] (by decide) rfl rfl rfl (by simp [Value.category]) ⟨by decide, by decide⟩ dX5_mirror_84 (fun v H locs hp hw => ?_)
              obtain rfl := hp
              refine W.eq (g2 := F0 m 87 ls [vN (spk (pk n t) ((pd n t) / 2) (pm n t / 2) i)]) rfl ?_
              refine k_istore hm hl [(7, vN (spk (pk n t) ((pd n t) / 2) (pm n t / 2) i)), (0, .ref (P 0)), (1, vN (n)), (2, vN (t)), (3, vN (1)), (4, vN (0)), (5, vN (pm n t / 2)), (6, vN (i))] (by decide) rfl dX5_mirror_87 (fun ls hl => ?_)
              refine k_aload_n hm hl 1 rfl dX5_mirror_89 ?_
              refine k_get (T := TX5) hm hw 0 0 i5 rfl rfl (by decide) (by decide +kernel) rfl dX5_mirror_90 ?_
              refine k_iload hm hl 7 rfl dX5_mirror_93 ?_
              refine k_iload hm hl 0 rfl dX5_mirror_95 ?_
              refine k_callV (n := 2) (As := [vN (i), vN (spk (pk n t) ((pd n t) / 2) (pm n t / 2) i)]) (rest := []) (wr := [(P 0, .inr (5, [.ref (P 1), vN (pm n t), vN (pd n t), vN (pk n t)]))]) hm hw hl (c_Num_put l G (P 1) (P 2) 120 g i (spk (pk n t) ((pd n t) / 2) (pm n t / 2) i) (by first | assumption | omega)) gX5_mirror_X2_put rfl (by decide +kernel) ⟨by decide, by decide⟩ (ci := 2) rfl 1 rfl [1, 2] [0] (by decide) rfl rfl (by decide) (by decide) rfl rfl (by simp [Value.category]) ⟨by decide, by decide⟩ dX5_mirror_97 (fun v w1 H locs hp hw => ?_)
              obtain ⟨rfl, rfl⟩ := hp
              have hw := hw.sub (ws' := wPlan G P (nU g i (spk (pk n t) ((pd n t) / 2) (pm n t / 2) i)) (pm n t) (pd n t) (pk n t)) [0, 1, 2] (by decide) rfl
              refine W.eq (g2 := F0 m 100 ls []) rfl ?_
              refine k_aload_n hm hl 1 rfl dX5_mirror_100 ?_
              refine k_get (T := TX5) hm hw 0 0 i5 rfl rfl (by decide) (by decide +kernel) rfl dX5_mirror_101 ?_
              refine k_aload_n hm hl 1 rfl dX5_mirror_104 ?_
              refine k_get (T := TX5) hm hw 0 1 i5 rfl rfl (by decide) (by decide +kernel) rfl dX5_mirror_105 ?_
              refine k_iconstN hm 1 dX5_mirror_108 ?_
              refine k_isubN hm (by omega) dX5_mirror_109 ?_
              refine k_iload hm hl 7 rfl dX5_mirror_110 ?_
              refine k_isubN hm (by omega) dX5_mirror_112 ?_
              refine k_iload hm hl 0 rfl dX5_mirror_113 ?_
              refine k_callV (n := 2) (As := [vN (((pm n t) - 1) - i), vN (spk (pk n t) ((pd n t) / 2) (pm n t / 2) i)]) (rest := []) (wr := [(P 0, .inr (5, [.ref (P 1), vN (pm n t), vN (pd n t), vN (pk n t)]))]) hm hw hl (c_Num_put l G (P 1) (P 2) 120 (nU g i (spk (pk n t) ((pd n t) / 2) (pm n t / 2) i)) (((pm n t) - 1) - i) (spk (pk n t) ((pd n t) / 2) (pm n t / 2) i) (by first | assumption | omega)) gX5_mirror_X2_put rfl (by decide +kernel) ⟨by decide, by decide⟩ (ci := 2) rfl 1 rfl [1, 2] [0] (by decide) rfl rfl (by decide) (by decide) rfl rfl (by simp [Value.category]) ⟨by decide, by decide⟩ dX5_mirror_115 (fun v w1 H locs hp hw => ?_)
              obtain ⟨rfl, rfl⟩ := hp
              have hw := hw.sub (ws' := wPlan G P (nU (nU g i (spk (pk n t) ((pd n t) / 2) (pm n t / 2) i)) (((pm n t) - 1) - i) (spk (pk n t) ((pd n t) / 2) (pm n t / 2) i)) (pm n t) (pd n t) (pk n t)) [0, 1, 2] (by decide) rfl
              refine W.eq (g2 := F0 m 118 ls []) rfl ?_
              refine k_iincN hm hl 7 1 rfl [(6, vN (i + 1)), (7, vN (spk (pk n t) ((pd n t) / 2) (pm n t / 2) i)), (0, .ref (P 0)), (1, vN (n)), (2, vN (t)), (3, vN (1)), (4, vN (0)), (5, vN (pm n t / 2))] (by decide) rfl dX5_mirror_118 (fun ls hl => ?_)
              refine k_goto (tgt := 66) hm dX5_mirror_121 (by decide) ?_
              exact ih_66  (i + 1) (nU (nU g i (spk (pk n t) ((pd n t) / 2) (pm n t / 2) i)) (((pm n t) - 1) - i) (spk (pk n t) ((pd n t) / 2) (pm n t / 2) i)) (by first | assumption | omega) (by
                              intro j q
                              by_cases q2 : j = pm n t - 1 - i
                              · rw [q2, nU_s, mik_hi (by omega)]
                              · rw [nU_n q2]
                                by_cases q3 : j = i
                                · rw [q3, nU_s, mik_lo (by omega)]
                                · rw [nU_n q3]
                                  exact hg j (by omega)) _ _ _ (by omega) hw (lv_sub hl [2, 3, 4, 5, 6, 7, 0] rfl)
        exact loop_66 (pm n t / 2 - 0 + 1) 0 f (by first | assumption | omega) (fun j q => absurd q (by omega)) _ _ _ (Nat.lt_succ_self _) hw (lv_sub hl [4, 5, 6, 3, 2, 1, 0] rfl)
      · refine k_iconstN hm 1 dX5_mirror_37 ?_
        refine k_goto (tgt := 42) hm dX5_mirror_38 (by decide) ?_
        refine k_istore hm hl [(4, vN (1)), (3, vN (1)), (0, .ref (P 0)), (1, vN (n)), (2, vN (t))] (by decide) rfl dX5_mirror_42 (fun ls hl => ?_)
        refine k_iload hm hl 0 rfl dX5_mirror_44 ?_
        refine k_ifeq (tgt := 55) hm dX5_mirror_46 (by decide) (by omega) (fun c_24 => absurd c_24 (by omega)) (fun c_24 => ?_)
        refine k_iload_n hm hl 1 rfl dX5_mirror_49 ?_
        refine k_ifne (tgt := 55) hm dX5_mirror_50 (by decide) (by omega) (fun c_25 => ?_) (fun c_25 => absurd c_25 (by omega))
        refine k_aload_n hm hl 2 rfl dX5_mirror_55 ?_
        refine k_get (T := TX5) hm hw 0 1 i5 rfl rfl (by decide) (by decide +kernel) rfl dX5_mirror_56 ?_
        refine k_iconstN hm 2 dX5_mirror_59 ?_
        refine k_idivN hm (by omega) dX5_mirror_60 ?_
        refine k_istore hm hl [(5, vN ((pm n t) / 2)), (4, vN (1)), (3, vN (1)), (0, .ref (P 0)), (1, vN (n)), (2, vN (t))] (by decide) rfl dX5_mirror_61 (fun ls hl => ?_)
        refine k_iconstN hm 0 dX5_mirror_63 ?_
        refine k_istore hm hl [(6, vN (0)), (5, vN ((pm n t) / 2)), (4, vN (1)), (3, vN (1)), (0, .ref (P 0)), (1, vN (n)), (2, vN (t))] (by decide) rfl dX5_mirror_64 (fun ls hl => ?_)
        have loop_66 : ∀ (fu : Nat) (i : Nat) (g : Nat → Nat) (hi : i ≤ pm n t / 2) (hg : ∀ j, (j < i ∨ (pm n t - 1 - i < j ∧ j < pm n t)) → g j = mik (pk n t) (pd n t) (pm n t) j) (H : Heap) (locs : List Loc) (ls : Array Slot), pm n t / 2 - i < fu → kW G A s (wPlan G P g (pm n t) (pd n t) (pk n t)) H locs → lv_has ls 8 [(0, .ref (P 0)), (1, vN (n)), (2, vN (t)), (3, vN (1)), (4, vN (1)), (5, vN (pm n t / 2)), (6, vN (i))] → W p l e { frames := 1, cells := 0, slots := 0, locals := 23 } s m args below meth c H locs 0 0 Qz (F0 m 66 ls []) := by
          intro fu
          induction fu with
          | zero => intro i g hi hg H locs ls hfu; exact absurd hfu (Nat.not_lt_zero _)
          | succ fu ih_66 =>
            intro i g hi hg H locs ls hfu hw hl
            refine k_iload hm hl 6 rfl dX5_mirror_66 ?_
            refine k_iload hm hl 5 rfl dX5_mirror_68 ?_
            refine k_icmpge (tgt := 124) hm dX5_mirror_70 (by decide) (by omega) (fun c_26 => ?_) (fun c_26 => ?_)
            · refine k_iload_n hm hl 3 rfl dX5_mirror_124 ?_
              refine k_ifeq (tgt := 150) hm dX5_mirror_125 (by decide) (by omega) (fun c_27 => absurd c_27 (by omega)) (fun c_27 => ?_)
              refine k_aload_n hm hl 0 rfl dX5_mirror_128 ?_
              refine k_get (T := TX5) hm hw 0 0 i5 rfl rfl (by decide) (by decide +kernel) rfl dX5_mirror_129 ?_
              refine k_iload hm hl 5 rfl dX5_mirror_132 ?_
              refine k_iload hm hl 4 rfl dX5_mirror_134 ?_
              refine k_ifeq (tgt := 146) hm dX5_mirror_136 (by decide) (by omega) (fun c_28 => absurd c_28 (by omega)) (fun c_28 => ?_)
              refine k_aload_n hm hl 0 rfl dX5_mirror_139 ?_
              refine k_get (T := TX5) hm hw 0 3 i5 rfl rfl (by decide) (by decide +kernel) rfl dX5_mirror_140 ?_
              refine k_goto (tgt := 147) hm dX5_mirror_143 (by decide) ?_
              refine k_callV (n := 2) (As := [vN (pm n t / 2), vN (pk n t)]) (rest := []) (wr := [(P 0, .inr (5, [.ref (P 1), vN (pm n t), vN (pd n t), vN (pk n t)]))]) hm hw hl (c_Num_put l G (P 1) (P 2) 120 g (pm n t / 2) (pk n t) (by first | assumption | omega)) gX5_mirror_X2_put rfl (by decide +kernel) ⟨by decide, by decide⟩ (ci := 2) rfl 1 rfl [1, 2] [0] (by decide) rfl rfl (by decide) (by decide) rfl rfl (by simp [Value.category]) ⟨by decide, by decide⟩ dX5_mirror_147 (fun v w1 H locs hp hw => ?_)
              obtain ⟨rfl, rfl⟩ := hp
              have hw := hw.sub (ws' := wPlan G P (nU g (pm n t / 2) (pk n t)) (pm n t) (pd n t) (pk n t)) [0, 1, 2] (by decide) rfl
              refine W.eq (g2 := F0 m 150 ls []) rfl ?_
              refine k_iconstN hm 1 dX5_mirror_150 ?_
              exact k_iret (post := _) hm hQ rfl (kN_bool true) hw (⟨true, (nU g (pm n t / 2) (pk n t)), rfl, rfl, ⟨fun _ => ⟨hbm.mp hbt, by omega⟩, fun _ => rfl⟩, (by
                              intro _ j hj
                              by_cases q2 : j = pm n t / 2
                              · rw [q2, nU_s, mik_mid (by omega)]
                                first | rw [if_pos (by omega)] | rw [if_neg (by omega)]
                              · rw [nU_n q2]
                                exact hg j (by omega))⟩) (by omega) (by omega) dX5_mirror_151
            · refine k_aload_n hm hl 0 rfl dX5_mirror_73 ?_
              refine k_iload hm hl 6 rfl dX5_mirror_74 ?_
              refine k_aload_n hm hl 0 rfl dX5_mirror_76 ?_
              refine k_get (T := TX5) hm hw 0 2 i5 rfl rfl (by decide) (by decide +kernel) rfl dX5_mirror_77 ?_
              refine k_iconstN hm 2 dX5_mirror_80 ?_
              refine k_idivN hm (by omega) dX5_mirror_81 ?_
              refine k_iload hm hl 5 rfl dX5_mirror_82 ?_
              refine k_callVr (n := 3) (As := [vN (i), vN ((pd n t) / 2), vN (pm n t / 2)]) (rest := []) hm hw hl (c_spreadKind l G P g (pm n t) (pd n t) (pk n t) i ((pd n t) / 2) (pm n t / 2) (by first | assumption | omega)) gX5_mirror_X5_spreadKind rfl (by decide +kernel) ⟨by decide, by decide⟩ (ci := 5) rfl 0 rfl [0, 1, 2] (by decide) rfl rfl rfl (by simp [Value.category]) ⟨by decide, by decide⟩ dX5_mirror_84 (fun v H locs hp hw => ?_)
              obtain rfl := hp
              refine W.eq (g2 := F0 m 87 ls [vN (spk (pk n t) ((pd n t) / 2) (pm n t / 2) i)]) rfl ?_
              refine k_istore hm hl [(7, vN (spk (pk n t) ((pd n t) / 2) (pm n t / 2) i)), (0, .ref (P 0)), (1, vN (n)), (2, vN (t)), (3, vN (1)), (4, vN (1)), (5, vN (pm n t / 2)), (6, vN (i))] (by decide) rfl dX5_mirror_87 (fun ls hl => ?_)
              refine k_aload_n hm hl 1 rfl dX5_mirror_89 ?_
              refine k_get (T := TX5) hm hw 0 0 i5 rfl rfl (by decide) (by decide +kernel) rfl dX5_mirror_90 ?_
              refine k_iload hm hl 7 rfl dX5_mirror_93 ?_
              refine k_iload hm hl 0 rfl dX5_mirror_95 ?_
              refine k_callV (n := 2) (As := [vN (i), vN (spk (pk n t) ((pd n t) / 2) (pm n t / 2) i)]) (rest := []) (wr := [(P 0, .inr (5, [.ref (P 1), vN (pm n t), vN (pd n t), vN (pk n t)]))]) hm hw hl (c_Num_put l G (P 1) (P 2) 120 g i (spk (pk n t) ((pd n t) / 2) (pm n t / 2) i) (by first | assumption | omega)) gX5_mirror_X2_put rfl (by decide +kernel) ⟨by decide, by decide⟩ (ci := 2) rfl 1 rfl [1, 2] [0] (by decide) rfl rfl (by decide) (by decide) rfl rfl (by simp [Value.category]) ⟨by decide, by decide⟩ dX5_mirror_97 (fun v w1 H locs hp hw => ?_)
              obtain ⟨rfl, rfl⟩ := hp
              have hw := hw.sub (ws' := wPlan G P (nU g i (spk (pk n t) ((pd n t) / 2) (pm n t / 2) i)) (pm n t) (pd n t) (pk n t)) [0, 1, 2] (by decide) rfl
              refine W.eq (g2 := F0 m 100 ls []) rfl ?_
              refine k_aload_n hm hl 1 rfl dX5_mirror_100 ?_
              refine k_get (T := TX5) hm hw 0 0 i5 rfl rfl (by decide) (by decide +kernel) rfl dX5_mirror_101 ?_
              refine k_aload_n hm hl 1 rfl dX5_mirror_104 ?_
              refine k_get (T := TX5) hm hw 0 1 i5 rfl rfl (by decide) (by decide +kernel) rfl dX5_mirror_105 ?_
              refine k_iconstN hm 1 dX5_mirror_108 ?_
              refine k_isubN hm (by omega) dX5_mirror_109 ?_
              refine k_iload hm hl 7 rfl dX5_mirror_110 ?_
              refine k_isubN hm (by omega) dX5_mirror_112 ?_
              refine k_iload hm hl 0 rfl dX5_mirror_113 ?_
              refine k_callV (n := 2) (As := [vN (((pm n t) - 1) - i), vN (spk (pk n t) ((pd n t) / 2) (pm n t / 2) i)]) (rest := []) (wr := [(P 0, .inr (5, [.ref (P 1), vN (pm n t), vN (pd n t), vN (pk n t)]))]) hm hw hl (c_Num_put l G (P 1) (P 2) 120 (nU g i (spk (pk n t) ((pd n t) / 2) (pm n t / 2) i)) (((pm n t) - 1) - i) (spk (pk n t) ((pd n t) / 2) (pm n t / 2) i) (by first | assumption | omega)) gX5_mirror_X2_put rfl (by decide +kernel) ⟨by decide, by decide⟩ (ci := 2) rfl 1 rfl [1, 2] [0] (by decide) rfl rfl (by decide) (by decide) rfl rfl (by simp [Value.category]) ⟨by decide, by decide⟩ dX5_mirror_115 (fun v w1 H locs hp hw => ?_)
              obtain ⟨rfl, rfl⟩ := hp
              have hw := hw.sub (ws' := wPlan G P (nU (nU g i (spk (pk n t) ((pd n t) / 2) (pm n t / 2) i)) (((pm n t) - 1) - i) (spk (pk n t) ((pd n t) / 2) (pm n t / 2) i)) (pm n t) (pd n t) (pk n t)) [0, 1, 2] (by decide) rfl
              refine W.eq (g2 := F0 m 118 ls []) rfl ?_
              refine k_iincN hm hl 7 1 rfl [(6, vN (i + 1)), (7, vN (spk (pk n t) ((pd n t) / 2) (pm n t / 2) i)), (0, .ref (P 0)), (1, vN (n)), (2, vN (t)), (3, vN (1)), (4, vN (1)), (5, vN (pm n t / 2))] (by decide) rfl dX5_mirror_118 (fun ls hl => ?_)
              refine k_goto (tgt := 66) hm dX5_mirror_121 (by decide) ?_
              exact ih_66  (i + 1) (nU (nU g i (spk (pk n t) ((pd n t) / 2) (pm n t / 2) i)) (((pm n t) - 1) - i) (spk (pk n t) ((pd n t) / 2) (pm n t / 2) i)) (by first | assumption | omega) (by
                              intro j q
                              by_cases q2 : j = pm n t - 1 - i
                              · rw [q2, nU_s, mik_hi (by omega)]
                              · rw [nU_n q2]
                                by_cases q3 : j = i
                                · rw [q3, nU_s, mik_lo (by omega)]
                                · rw [nU_n q3]
                                  exact hg j (by omega)) _ _ _ (by omega) hw (lv_sub hl [2, 3, 4, 5, 6, 7, 0] rfl)
        exact loop_66 (pm n t / 2 - 0 + 1) 0 f (by first | assumption | omega) (fun j q => absurd q (by omega)) _ _ _ (Nat.lt_succ_self _) hw (lv_sub hl [4, 5, 6, 3, 2, 1, 0] rfl)
  · have hbt := c_4
    refine k_iconstN hm 0 dX5_mirror_9 ?_
    exact k_iret (post := _) hm hQ rfl (kN_bool false) hw (⟨false, f, rfl, rfl, ⟨fun q => absurd q (by decide), fun q => by rw [hbm.mpr q.1] at hbt; cases hbt⟩, fun q => absurd q (by decide)⟩) (by omega) (by omega) dX5_mirror_10
def wMk (G : kG) (M : Nat → Nat) (mf : Nat → Nat) : va_W :=
  [(M 0, .inr (1, [.ref (M 1)])), (M 1, .inr (2, [.ref (M 2)])), (M 2, .inl (G.2 0, 120, .inl (nF mf)))]
theorem mk_step {g k : Nat → Nat} {i x : Nat} (hx : x = sumM k i) (hg : mkOk g k i) : mkOk (if k i = 1 then nU (nU g x (k i)) (x + 1) (k i) else nU g x (k i)) k (i + 1) := by
  intro j hj y h1 h2
  by_cases q : j = i
  · subst q
    simp only [sumM, mdB] at h2
    by_cases c : k j = 1
    · rw [if_pos c] at h2 ⊢
      by_cases e : y = x + 1
      · rw [e, nU_s]
      · rw [nU_n e, show y = x by omega, nU_s]
    · rw [if_neg c] at h2 ⊢
      rw [show y = x by omega, nU_s]
  · have hlt : j < i := by omega
    have hm := sumM_mono k (show j + 1 ≤ i from hlt)
    have hy : y < x := by omega
    split
    · rw [nU_n (by omega), nU_n (by omega)]; exact hg j hlt y h1 h2
    · rw [nU_n (by omega)]; exact hg j hlt y h1 h2
theorem mk_s1 {g k : Nat → Nat} {i x : Nat} (hx : x = sumM k i) (hg : mkOk g k i) (c : k i = 1) : mkOk (nU (nU g x (k i)) (x + 1) (k i)) k (i + 1) := by have := mk_step hx hg; rw [if_pos c] at this; exact this
theorem mk_s0 {g k : Nat → Nat} {i x : Nat} (hx : x = sumM k i) (hg : mkOk g k i) (c : ¬ k i = 1) : mkOk (nU g x (k i)) k (i + 1) := by have := mk_step hx hg; rw [if_neg c] at this; exact this
set_option maxHeartbeats 4000000 in
set_option maxRecDepth 100000 in
theorem c_load (l : Launch) (G : kG) (M : Nat → Nat) (mf : Nat → Nat) (P : Nat → Nat) (gk : Nat → Nat) (gw : Nat → Nat) (gt : Nat → Nat) (gy : Nat → Nat) (R : Nat) (sp : Bool) (K : Nat → Nat → Nat) (w : Nat → Nat) (y : Nat → Nat) (r : Nat) (hok : POk gk gw gt gy R K w y) (hr : r < R) : kCM l yX1_load wsX1_load 1 22 0 0 G [.ref (M 0), .ref (P 0), vN (r)] (wMk G M mf ++ wPiece G P gk gw gt gy R sp) (fun vv uu => ∃ (mf2 : Nat → Nat), vv = none ∧ uu = wMk G M mf2 ++ wPiece G P gk gw gt gy R sp ∧ (mkOk mf2 (K r) (w r))) := by
  refine kCM.of (cc := cX1_load) (maxL := 7) (ret := none) (by decide) rfl (Nat.le_of_ble_eq_true rfl) ?_
  intro p e s m args below meth c A ls Qz hQ hin hm hw hl
  have hl : lv_has ls 7 [(0, .ref (M 0)), (1, .ref (P 0)), (2, vN (r))] := hl
  have i1 : ∀ w ∈ wsX10, w ∈ wsX1_load := by decide +kernel
  have i4 : ∀ w ∈ wsX40, w ∈ wsX1_load := by decide +kernel
  have hk := hok.2.1 r hr
  have hb := hok.1.2.1 r hr
  have hR := hok.1.1
  refine k_aload_n hm hl 1 rfl dX1_load_0 ?_
  refine k_get (T := TX4) hm hw 3 1 i4 rfl rfl (by decide) (by decide +kernel) rfl dX1_load_1 ?_
  refine k_iload_n hm hl 2 rfl dX1_load_4 ?_
  refine k_callVr (n := 1) (As := [vN (r)]) (rest := []) hm hw hl (c_Num_at l G (P 3) (P 4) 40 gw r (by first | assumption | omega)) gX1_load_X2_at rfl (by decide +kernel) ⟨by decide, by decide⟩ (ci := 2) rfl 6 rfl [6, 7] (by decide) rfl rfl rfl (by simp [Value.category]) ⟨by decide, by decide⟩ dX1_load_5 (fun v H locs hp hw => ?_)
  obtain rfl := hp
  refine W.eq (g2 := F0 m 8 ls [vN (gw r)]) rfl ?_
  refine k_rwV (y := vN (w r)) (by rw [hk.1]) ?_
  refine k_istore_n hm hl [(3, vN (w r)), (0, .ref (M 0)), (1, .ref (P 0)), (2, vN (r))] (by decide) rfl dX1_load_8 (fun ls hl => ?_)
  refine k_iconstN hm 0 dX1_load_9 ?_
  refine k_istore hm hl [(4, vN (0)), (3, vN (w r)), (0, .ref (M 0)), (1, .ref (P 0)), (2, vN (r))] (by decide) rfl dX1_load_10 (fun ls hl => ?_)
  refine k_iconstN hm 0 dX1_load_12 ?_
  refine k_istore hm hl [(5, vN (0)), (4, vN (0)), (3, vN (w r)), (0, .ref (M 0)), (1, .ref (P 0)), (2, vN (r))] (by decide) rfl dX1_load_13 (fun ls hl => ?_)
  have loop_15 : ∀ (fu : Nat) (x : Nat) (i : Nat) (g : Nat → Nat) (hi : i ≤ w r) (hx : x = sumM (K r) i) (hg : mkOk g (K r) i) (H : Heap) (locs : List Loc) (ls : Array Slot), w r - i < fu → kW G A s (wMk G M g ++ wPiece G P gk gw gt gy R sp) H locs → lv_has ls 7 [(0, .ref (M 0)), (1, .ref (P 0)), (2, vN (r)), (3, vN (w r)), (4, vN (x)), (5, vN (i))] → W p l e { frames := 1, cells := 0, slots := 0, locals := 22 } s m args below meth c H locs 0 0 Qz (F0 m 15 ls []) := by
    intro fu
    induction fu with
    | zero => intro x i g hi hx hg H locs ls hfu; exact absurd hfu (Nat.not_lt_zero _)
    | succ fu ih_15 =>
      intro x i g hi hx hg H locs ls hfu hw hl
      refine k_iload hm hl 5 rfl dX1_load_15 ?_
      refine k_iload_n hm hl 3 rfl dX1_load_17 ?_
      refine k_icmpge (tgt := 83) hm dX1_load_18 (by decide) (by omega) (fun c_2 => ?_) (fun c_2 => ?_)
      · exact k_vret hm hQ rfl hw (⟨g, rfl, rfl, by rw [show w r = i by omega]; exact hg⟩) (by omega) (by omega) dX1_load_83
      · have h2 := (hok.1.2.1 r (by omega)).2.2 i (by omega)
        have h3 := sumM_mono (K r) (show i + 1 ≤ w r by omega)
        have h4 := mdB_le (K r i)
        have h6 : K r i = 1 → mdB (K r i) = 2 := fun q => by rw [q]; rfl
        simp only [sumM] at h3
        refine k_aload_n hm hl 1 rfl dX1_load_21 ?_
        refine k_get (T := TX4) hm hw 3 0 i4 rfl rfl (by decide) (by decide +kernel) rfl dX1_load_22 ?_
        refine k_iload_n hm hl 2 rfl dX1_load_25 ?_
        refine k_bipushN hm 120 dX1_load_26 rfl ?_
        refine k_imulN hm dX1_load_28 ?_
        refine k_iload hm hl 5 rfl dX1_load_29 ?_
        refine k_iaddN hm dX1_load_31 ?_
        refine k_callVr (n := 1) (As := [vN ((r * 120) + i)]) (rest := []) hm hw hl (c_Num_at l G (P 1) (P 2) 4800 gk ((r * 120) + i) (by first | assumption | omega)) gX1_load_X2_at rfl (by decide +kernel) ⟨by decide, by decide⟩ (ci := 2) rfl 4 rfl [4, 5] (by decide) rfl rfl rfl (by simp [Value.category]) ⟨by decide, by decide⟩ dX1_load_32 (fun v H locs hp hw => ?_)
        obtain rfl := hp
        refine W.eq (g2 := F0 m 35 ls [vN (gk ((r * 120) + i))]) rfl ?_
        refine k_rwV (y := vN (K r i)) (by rw [hk.2.2 i (by omega)]) ?_
        refine k_istore hm hl [(6, vN (K r i)), (0, .ref (M 0)), (1, .ref (P 0)), (2, vN (r)), (3, vN (w r)), (4, vN (x)), (5, vN (i))] (by decide) rfl dX1_load_35 (fun ls hl => ?_)
        refine k_aload_n hm hl 1 rfl dX1_load_37 ?_
        refine k_get (T := TX1) hm hw 0 0 i1 rfl rfl (by decide) (by decide +kernel) rfl dX1_load_38 ?_
        refine k_iload hm hl 5 rfl dX1_load_41 ?_
        refine k_iload hm hl 0 rfl dX1_load_43 ?_
        refine k_callV (n := 2) (As := [vN (x), vN (K r i)]) (rest := []) (wr := [(M 0, .inr (1, [.ref (M 1)])), (P 0, .inr (4, [.ref (P 1), .ref (P 3), .ref (P 5), .ref (P 7), vN (R), vB (sp)])), (P 1, .inr (2, [.ref (P 2)])), (P 2, .inl (G.2 0, 4800, .inl (nF gk))), (P 3, .inr (2, [.ref (P 4)])), (P 4, .inl (G.2 0, 40, .inl (nF gw))), (P 5, .inr (2, [.ref (P 6)])), (P 6, .inl (G.2 0, 40, .inl (nF gt))), (P 7, .inr (2, [.ref (P 8)])), (P 8, .inl (G.2 0, 3, .inl (nF gy)))]) hm hw hl (c_Num_put l G (M 1) (M 2) 120 g x (K r i) (by first | assumption | omega)) gX1_load_X2_put rfl (by decide +kernel) ⟨by decide, by decide⟩ (ci := 2) rfl 1 rfl [1, 2] [0, 3, 4, 5, 6, 7, 8, 9, 10, 11] (by decide) rfl rfl (by decide) (by decide) rfl rfl (by simp [Value.category]) ⟨by decide, by decide⟩ dX1_load_45 (fun v w1 H locs hp hw => ?_)
        obtain ⟨rfl, rfl⟩ := hp
        have hw := hw.sub (ws' := wMk G M (nU g x (K r i)) ++ wPiece G P gk gw gt gy R sp) [0, 10, 11, 1, 2, 3, 4, 5, 6, 7, 8, 9] (by decide) rfl
        refine W.eq (g2 := F0 m 48 ls []) rfl ?_
        refine k_iload hm hl 0 rfl dX1_load_48 ?_
        refine k_iconstN hm 1 dX1_load_50 ?_
        refine k_icmpne (tgt := 67) hm dX1_load_51 (by decide) (by omega) (fun c_5 => ?_) (fun c_5 => ?_)
        · refine k_iload hm hl 5 rfl dX1_load_67 ?_
          refine k_iload hm hl 0 rfl dX1_load_69 ?_
          refine k_callSNr (n := 1) (As := [vN (K r i)]) (rest := [vN (x)]) hm hw hl (c_madeBy l G (K r i) (by first | assumption | omega)) gX1_load_X6_madeBy_n34 (by decide +kernel) (by decide +kernel) 6 rfl rfl (by decide +kernel) ⟨by decide, by decide⟩ [] (by decide) rfl rfl rfl (by simp [Value.category]) ⟨by decide, by decide⟩ dX1_load_71 (fun v H locs hp hw => ?_)
          obtain rfl := hp
          refine W.eq (g2 := F0 m 74 ls [vN (mdB (K r i)), vN (x)]) rfl ?_
          refine k_iaddN hm dX1_load_74 ?_
          refine k_istore hm hl [(4, vN (x + (mdB (K r i)))), (6, vN (K r i)), (0, .ref (M 0)), (1, .ref (P 0)), (2, vN (r)), (3, vN (w r)), (5, vN (i))] (by decide) rfl dX1_load_75 (fun ls hl => ?_)
          refine k_iincN hm hl 6 1 rfl [(5, vN (i + 1)), (4, vN (x + (mdB (K r i)))), (6, vN (K r i)), (0, .ref (M 0)), (1, .ref (P 0)), (2, vN (r)), (3, vN (w r))] (by decide) rfl dX1_load_77 (fun ls hl => ?_)
          refine k_goto (tgt := 15) hm dX1_load_80 (by decide) ?_
          exact ih_15  (x + (mdB (K r i))) (i + 1) (nU g x (K r i)) (by first | assumption | omega) (by simp only [sumM]; omega) (mk_s0 hx hg (by omega)) _ _ _ (by omega) hw (lv_sub hl [3, 4, 5, 6, 1, 0] rfl)
        · refine k_aload_n hm hl 1 rfl dX1_load_54 ?_
          refine k_get (T := TX1) hm hw 0 0 i1 rfl rfl (by decide) (by decide +kernel) rfl dX1_load_55 ?_
          refine k_iload hm hl 5 rfl dX1_load_58 ?_
          refine k_iconstN hm 1 dX1_load_60 ?_
          refine k_iaddN hm dX1_load_61 ?_
          refine k_iload hm hl 0 rfl dX1_load_62 ?_
          refine k_callV (n := 2) (As := [vN (x + 1), vN (K r i)]) (rest := []) (wr := [(M 0, .inr (1, [.ref (M 1)])), (P 0, .inr (4, [.ref (P 1), .ref (P 3), .ref (P 5), .ref (P 7), vN (R), vB (sp)])), (P 1, .inr (2, [.ref (P 2)])), (P 2, .inl (G.2 0, 4800, .inl (nF gk))), (P 3, .inr (2, [.ref (P 4)])), (P 4, .inl (G.2 0, 40, .inl (nF gw))), (P 5, .inr (2, [.ref (P 6)])), (P 6, .inl (G.2 0, 40, .inl (nF gt))), (P 7, .inr (2, [.ref (P 8)])), (P 8, .inl (G.2 0, 3, .inl (nF gy)))]) hm hw hl (c_Num_put l G (M 1) (M 2) 120 (nU g x (K r i)) (x + 1) (K r i) (by first | assumption | omega)) gX1_load_X2_put rfl (by decide +kernel) ⟨by decide, by decide⟩ (ci := 2) rfl 1 rfl [1, 2] [0, 3, 4, 5, 6, 7, 8, 9, 10, 11] (by decide) rfl rfl (by decide) (by decide) rfl rfl (by simp [Value.category]) ⟨by decide, by decide⟩ dX1_load_64 (fun v w1 H locs hp hw => ?_)
          obtain ⟨rfl, rfl⟩ := hp
          have hw := hw.sub (ws' := wMk G M (nU (nU g x (K r i)) (x + 1) (K r i)) ++ wPiece G P gk gw gt gy R sp) [0, 10, 11, 1, 2, 3, 4, 5, 6, 7, 8, 9] (by decide) rfl
          refine W.eq (g2 := F0 m 67 ls []) rfl ?_
          refine k_iload hm hl 5 rfl dX1_load_67 ?_
          refine k_iload hm hl 0 rfl dX1_load_69 ?_
          refine k_callSNr (n := 1) (As := [vN (K r i)]) (rest := [vN (x)]) hm hw hl (c_madeBy l G (K r i) (by first | assumption | omega)) gX1_load_X6_madeBy_n34 (by decide +kernel) (by decide +kernel) 6 rfl rfl (by decide +kernel) ⟨by decide, by decide⟩ [] (by decide) rfl rfl rfl (by simp [Value.category]) ⟨by decide, by decide⟩ dX1_load_71 (fun v H locs hp hw => ?_)
          obtain rfl := hp
          refine W.eq (g2 := F0 m 74 ls [vN (mdB (K r i)), vN (x)]) rfl ?_
          refine k_iaddN hm dX1_load_74 ?_
          refine k_istore hm hl [(4, vN (x + (mdB (K r i)))), (6, vN (K r i)), (0, .ref (M 0)), (1, .ref (P 0)), (2, vN (r)), (3, vN (w r)), (5, vN (i))] (by decide) rfl dX1_load_75 (fun ls hl => ?_)
          refine k_iincN hm hl 6 1 rfl [(5, vN (i + 1)), (4, vN (x + (mdB (K r i)))), (6, vN (K r i)), (0, .ref (M 0)), (1, .ref (P 0)), (2, vN (r)), (3, vN (w r))] (by decide) rfl dX1_load_77 (fun ls hl => ?_)
          refine k_goto (tgt := 15) hm dX1_load_80 (by decide) ?_
          exact ih_15  (x + (mdB (K r i))) (i + 1) (nU (nU g x (K r i)) (x + 1) (K r i)) (by first | assumption | omega) (by simp only [sumM]; omega) (mk_s1 hx hg (by omega)) _ _ _ (by omega) hw (lv_sub hl [3, 4, 5, 6, 1, 0] rfl)
  exact loop_15 (w r - 0 + 1) 0 0 mf (by first | assumption | omega) rfl (fun j q => absurd q (by omega)) _ _ _ (Nat.lt_succ_self _) hw (lv_sub hl [3, 4, 5, 2, 1, 0] rfl)
set_option maxHeartbeats 4000000 in
set_option maxRecDepth 100000 in
theorem c_stackedIn (l : Launch) (G : kG) (M : Nat → Nat) (mf : Nat → Nat) (a : Nat) (b : Nat) (n : Nat) (rf : Nat → Nat) (x0 : Nat) (m1 : Nat) (sh : Nat) (row : Nat → Nat) (h : m1 ≤ 120 ∧ x0 + m1 ≤ n ∧ n ≤ 10000 ∧ sh < 120) (hrow : ∀ i, i < m1 → rf (x0 + (i + sh) % m1) = row i ∧ row i ≤ 2) (hU : sumU row m1 ≤ 120) (hmf : ∀ x, x < sumU row m1 → mf x ≤ 2) : kCR l yX1_stackedIn wsX1_stackedIn 1 21 G [.ref (M 0), .ref (a), vN (x0), vN (m1), vN (sh)] (wMk G M mf ++ [(a, .inr (2, [.ref (b)])), (b, .inl (G.2 0, n, .inl (nF rf)))]) (fun vv => vv = some (vN (nstk mf row m1))) := by
  refine kCM.of (cc := cX1_stackedIn) (maxL := 11) (ret := (some .int)) (by decide) rfl (Nat.le_of_ble_eq_true rfl) ?_
  intro p e s m args below meth c A ls Qz hQ hin hm hw hl
  have hl : lv_has ls 11 [(0, .ref (M 0)), (1, .ref (a)), (2, vN (x0)), (3, vN (m1)), (4, vN (sh))] := hl
  have i1 : ∀ w ∈ wsX10, w ∈ wsX1_stackedIn := by decide +kernel
  refine k_iconstN hm 0 dX1_stackedIn_0 ?_
  refine k_istore hm hl [(5, vN (0)), (0, .ref (M 0)), (1, .ref (a)), (2, vN (x0)), (3, vN (m1)), (4, vN (sh))] (by decide) rfl dX1_stackedIn_1 (fun ls hl => ?_)
  refine k_iconstN hm 0 dX1_stackedIn_3 ?_
  refine k_istore hm hl [(6, vN (0)), (5, vN (0)), (0, .ref (M 0)), (1, .ref (a)), (2, vN (x0)), (3, vN (m1)), (4, vN (sh))] (by decide) rfl dX1_stackedIn_4 (fun ls hl => ?_)
  refine k_iconstN hm 0 dX1_stackedIn_6 ?_
  refine k_istore hm hl [(7, vN (0)), (6, vN (0)), (5, vN (0)), (0, .ref (M 0)), (1, .ref (a)), (2, vN (x0)), (3, vN (m1)), (4, vN (sh))] (by decide) rfl dX1_stackedIn_7 (fun ls hl => ?_)
  have loop_9 : ∀ (fu : Nat) (t : Nat) (x : Nat) (i : Nat) (hi : i ≤ m1) (ht : t = nstk mf row i) (hx : x = sumU row i) (H : Heap) (locs : List Loc) (ls : Array Slot), m1 - i < fu → kW G A s (wMk G M mf ++ [(a, .inr (2, [.ref (b)])), (b, .inl (G.2 0, n, .inl (nF rf)))]) H locs → lv_has ls 11 [(0, .ref (M 0)), (1, .ref (a)), (2, vN (x0)), (3, vN (m1)), (4, vN (sh)), (5, vN (t)), (6, vN (x)), (7, vN (i))] → W p l e { frames := 1, cells := 0, slots := 0, locals := 21 } s m args below meth c H locs 0 0 Qz (F0 m 9 ls []) := by
    intro fu
    induction fu with
    | zero => intro t x i hi ht hx H locs ls hfu; exact absurd hfu (Nat.not_lt_zero _)
    | succ fu ih_9 =>
      intro t x i hi ht hx H locs ls hfu hw hl
      refine k_iload hm hl 7 rfl dX1_stackedIn_9 ?_
      refine k_iload_n hm hl 3 rfl dX1_stackedIn_11 ?_
      refine k_icmpge (tgt := 114) hm dX1_stackedIn_12 (by decide) (by omega) (fun c_1 => ?_) (fun c_1 => ?_)
      · refine k_iload hm hl 5 rfl dX1_stackedIn_114 ?_
        exact k_iret (post := _) hm hQ rfl rfl hw (⟨by rw [ht, show i = m1 by omega], rfl⟩) (by omega) (by omega) dX1_stackedIn_116
      · have h9 := Nat.mod_lt (i + sh) (show 0 < m1 by omega)
        have hri := hrow i (by omega)
        have h3 := sumU_mono row (show i + 1 ≤ m1 by omega)
        have h4 := usB_le (row i)
        have h6 : row i = 2 → usB (row i) = 2 := fun q => by rw [q]; rfl
        simp only [sumU] at h3
        have h7 := hmf x (by omega)
        have h8 := hmf (x + 1)
        refine k_aload_n hm hl 1 rfl dX1_stackedIn_15 ?_
        refine k_iload_n hm hl 2 rfl dX1_stackedIn_16 ?_
        refine k_iload hm hl 7 rfl dX1_stackedIn_17 ?_
        refine k_iload hm hl 4 rfl dX1_stackedIn_19 ?_
        refine k_iaddN hm dX1_stackedIn_21 ?_
        refine k_iload_n hm hl 3 rfl dX1_stackedIn_22 ?_
        refine k_iremN hm (by omega) dX1_stackedIn_23 ?_
        refine k_iaddN hm dX1_stackedIn_24 ?_
        refine k_callVr (n := 1) (As := [vN (x0 + ((i + sh) % m1))]) (rest := []) hm hw hl (c_Num_at l G a b n rf (x0 + ((i + sh) % m1)) (by first | assumption | omega)) gX1_stackedIn_X2_at rfl (by decide +kernel) ⟨by decide, by decide⟩ (ci := 2) rfl 3 rfl [3, 4] (by decide) rfl rfl rfl (by simp [Value.category]) ⟨by decide, by decide⟩ dX1_stackedIn_25 (fun v H locs hp hw => ?_)
        obtain rfl := hp
        refine W.eq (g2 := F0 m 28 ls [vN (rf (x0 + ((i + sh) % m1)))]) rfl ?_
        refine k_rwV (y := vN (row i)) (by rw [hri.1]) ?_
        refine k_istore hm hl [(8, vN (row i)), (0, .ref (M 0)), (1, .ref (a)), (2, vN (x0)), (3, vN (m1)), (4, vN (sh)), (5, vN (t)), (6, vN (x)), (7, vN (i))] (by decide) rfl dX1_stackedIn_28 (fun ls hl => ?_)
        have join_98 : ∀ (t2 : Nat) (ht2 : t2 = nstk mf row (i + 1)) (H : Heap) (locs : List Loc) (ls : Array Slot), kW G A s (wMk G M mf ++ [(a, .inr (2, [.ref (b)])), (b, .inl (G.2 0, n, .inl (nF rf)))]) H locs → lv_has ls 11 [(0, .ref (M 0)), (1, .ref (a)), (2, vN (x0)), (3, vN (m1)), (4, vN (sh)), (5, vN (t2)), (6, vN (x)), (7, vN (i)), (8, vN (row i))] → W p l e { frames := 1, cells := 0, slots := 0, locals := 21 } s m args below meth c H locs 0 0 Qz (F0 m 98 ls []) := by
          intro t2 ht2 H locs ls hw hl
          refine k_iload hm hl 6 rfl dX1_stackedIn_98 ?_
          refine k_iload hm hl 8 rfl dX1_stackedIn_100 ?_
          refine k_callSNr (n := 1) (As := [vN (row i)]) (rest := [vN (x)]) hm hw hl (c_usedBy l G (row i) (by first | assumption | omega)) gX1_stackedIn_X6_usedBy_n37 (by decide +kernel) (by decide +kernel) 7 rfl rfl (by decide +kernel) ⟨by decide, by decide⟩ [] (by decide) rfl rfl rfl (by simp [Value.category]) ⟨by decide, by decide⟩ dX1_stackedIn_102 (fun v H locs hp hw => ?_)
          obtain rfl := hp
          refine W.eq (g2 := F0 m 105 ls [vN (usB (row i)), vN (x)]) rfl ?_
          refine k_iaddN hm dX1_stackedIn_105 ?_
          refine k_istore hm hl [(6, vN (x + (usB (row i)))), (0, .ref (M 0)), (1, .ref (a)), (2, vN (x0)), (3, vN (m1)), (4, vN (sh)), (5, vN (t2)), (7, vN (i)), (8, vN (row i))] (by decide) rfl dX1_stackedIn_106 (fun ls hl => ?_)
          refine k_iincN hm hl 7 1 rfl [(7, vN (i + 1)), (6, vN (x + (usB (row i)))), (0, .ref (M 0)), (1, .ref (a)), (2, vN (x0)), (3, vN (m1)), (4, vN (sh)), (5, vN (t2)), (8, vN (row i))] (by decide) rfl dX1_stackedIn_108 (fun ls hl => ?_)
          refine k_goto (tgt := 9) hm dX1_stackedIn_111 (by decide) ?_
          exact ih_9  t2 (x + (usB (row i))) (i + 1) (by first | assumption | omega) ht2 (by simp only [sumU]; omega) _ _ _ (by omega) hw (lv_sub hl [2, 3, 4, 5, 6, 7, 1, 0] rfl)
        refine k_aload_n hm hl 1 rfl dX1_stackedIn_30 ?_
        refine k_get (T := TX1) hm hw 0 0 i1 rfl rfl (by decide) (by decide +kernel) rfl dX1_stackedIn_31 ?_
        refine k_iload hm hl 7 rfl dX1_stackedIn_34 ?_
        refine k_callVr (n := 1) (As := [vN (x)]) (rest := []) hm hw hl (c_Num_at l G (M 1) (M 2) 120 mf x (by first | assumption | omega)) gX1_stackedIn_X2_at rfl (by decide +kernel) ⟨by decide, by decide⟩ (ci := 2) rfl 1 rfl [1, 2] (by decide) rfl rfl rfl (by simp [Value.category]) ⟨by decide, by decide⟩ dX1_stackedIn_36 (fun v H locs hp hw => ?_)
        obtain rfl := hp
        refine W.eq (g2 := F0 m 39 ls [vN (mf x)]) rfl ?_
        refine k_iload hm hl 0 rfl dX1_stackedIn_39 ?_
        refine k_icmpne (tgt := 48) hm dX1_stackedIn_41 (by decide) (by omega) (fun c_5 => ?_) (fun c_5 => ?_)
        · refine k_iconstN hm 0 dX1_stackedIn_48 ?_
          refine k_istore hm hl [(9, vN (0)), (8, vN (row i)), (0, .ref (M 0)), (1, .ref (a)), (2, vN (x0)), (3, vN (m1)), (4, vN (sh)), (5, vN (t)), (6, vN (x)), (7, vN (i))] (by decide) rfl dX1_stackedIn_49 (fun ls hl => ?_)
          refine k_iload hm hl 1 rfl dX1_stackedIn_51 ?_
          refine k_iconstN hm 2 dX1_stackedIn_53 ?_
          refine k_icmpne (tgt := 77) hm dX1_stackedIn_54 (by decide) (by omega) (fun c_6 => ?_) (fun c_6 => ?_)
          · refine k_iconstN hm 0 dX1_stackedIn_77 ?_
            refine k_istore hm hl [(10, vN (0)), (9, vN (0)), (8, vN (row i)), (0, .ref (M 0)), (1, .ref (a)), (2, vN (x0)), (3, vN (m1)), (4, vN (sh)), (5, vN (t)), (6, vN (x)), (7, vN (i))] (by decide) rfl dX1_stackedIn_78 (fun ls hl => ?_)
            refine k_iload hm hl 2 rfl dX1_stackedIn_80 ?_
            refine k_ifeq (tgt := 98) hm dX1_stackedIn_82 (by decide) (by omega) (fun c_7 => ?_) (fun c_7 => ?_)
            · exact join_98  t (by
                              simp only [nstk]
                              rw [← hx]
                              split <;> omega) _ _ _ hw (lv_sub hl [3, 4, 5, 6, 7, 8, 9, 10, 2] rfl)
            · refine k_iload hm hl 1 rfl dX1_stackedIn_85 ?_
              refine k_ifne (tgt := 95) hm dX1_stackedIn_87 (by decide) (by omega) (fun c_8 => absurd c_8 (by omega)) (fun c_8 => ?_)
              refine k_iload hm hl 0 rfl dX1_stackedIn_90 ?_
              refine k_ifeq (tgt := 98) hm dX1_stackedIn_92 (by decide) (by omega) (fun c_9 => ?_) (fun c_9 => absurd c_9 (by omega))
              exact join_98  t (by
                              simp only [nstk]
                              rw [← hx]
                              split <;> omega) _ _ _ hw (lv_sub hl [3, 4, 5, 6, 7, 8, 9, 10, 2] rfl)
          · refine k_aload_n hm hl 2 rfl dX1_stackedIn_57 ?_
            refine k_get (T := TX1) hm hw 0 0 i1 rfl rfl (by decide) (by decide +kernel) rfl dX1_stackedIn_58 ?_
            refine k_iload hm hl 8 rfl dX1_stackedIn_61 ?_
            refine k_iconstN hm 1 dX1_stackedIn_63 ?_
            refine k_iaddN hm dX1_stackedIn_64 ?_
            refine k_callVr (n := 1) (As := [vN (x + 1)]) (rest := []) hm hw hl (c_Num_at l G (M 1) (M 2) 120 mf (x + 1) (by first | assumption | omega)) gX1_stackedIn_X2_at rfl (by decide +kernel) ⟨by decide, by decide⟩ (ci := 2) rfl 1 rfl [1, 2] (by decide) rfl rfl rfl (by simp [Value.category]) ⟨by decide, by decide⟩ dX1_stackedIn_65 (fun v H locs hp hw => ?_)
            obtain rfl := hp
            refine W.eq (g2 := F0 m 68 ls [vN (mf (x + 1))]) rfl ?_
            refine k_iload hm hl 1 rfl dX1_stackedIn_68 ?_
            refine k_icmpne (tgt := 77) hm dX1_stackedIn_70 (by decide) (by omega) (fun c_11 => ?_) (fun c_11 => ?_)
            · refine k_iconstN hm 0 dX1_stackedIn_77 ?_
              refine k_istore hm hl [(10, vN (0)), (9, vN (0)), (8, vN (row i)), (0, .ref (M 0)), (1, .ref (a)), (2, vN (x0)), (3, vN (m1)), (4, vN (sh)), (5, vN (t)), (6, vN (x)), (7, vN (i))] (by decide) rfl dX1_stackedIn_78 (fun ls hl => ?_)
              refine k_iload hm hl 2 rfl dX1_stackedIn_80 ?_
              refine k_ifeq (tgt := 98) hm dX1_stackedIn_82 (by decide) (by omega) (fun c_12 => ?_) (fun c_12 => ?_)
              · exact join_98  t (by
                              simp only [nstk]
                              rw [← hx]
                              split <;> omega) _ _ _ hw (lv_sub hl [3, 4, 5, 6, 7, 8, 9, 10, 2] rfl)
              · refine k_iload hm hl 1 rfl dX1_stackedIn_85 ?_
                refine k_ifne (tgt := 95) hm dX1_stackedIn_87 (by decide) (by omega) (fun c_13 => absurd c_13 (by omega)) (fun c_13 => ?_)
                refine k_iload hm hl 0 rfl dX1_stackedIn_90 ?_
                refine k_ifeq (tgt := 98) hm dX1_stackedIn_92 (by decide) (by omega) (fun c_14 => ?_) (fun c_14 => absurd c_14 (by omega))
                exact join_98  t (by
                              simp only [nstk]
                              rw [← hx]
                              split <;> omega) _ _ _ hw (lv_sub hl [3, 4, 5, 6, 7, 8, 9, 10, 2] rfl)
            · refine k_iconstN hm 1 dX1_stackedIn_73 ?_
              refine k_goto (tgt := 78) hm dX1_stackedIn_74 (by decide) ?_
              refine k_istore hm hl [(10, vN (1)), (9, vN (0)), (8, vN (row i)), (0, .ref (M 0)), (1, .ref (a)), (2, vN (x0)), (3, vN (m1)), (4, vN (sh)), (5, vN (t)), (6, vN (x)), (7, vN (i))] (by decide) rfl dX1_stackedIn_78 (fun ls hl => ?_)
              refine k_iload hm hl 2 rfl dX1_stackedIn_80 ?_
              refine k_ifeq (tgt := 98) hm dX1_stackedIn_82 (by decide) (by omega) (fun c_15 => ?_) (fun c_15 => ?_)
              · exact join_98  t (by
                              simp only [nstk]
                              rw [← hx]
                              split <;> omega) _ _ _ hw (lv_sub hl [3, 4, 5, 6, 7, 8, 9, 10, 2] rfl)
              · refine k_iload hm hl 1 rfl dX1_stackedIn_85 ?_
                refine k_ifne (tgt := 95) hm dX1_stackedIn_87 (by decide) (by omega) (fun c_16 => absurd c_16 (by omega)) (fun c_16 => ?_)
                refine k_iload hm hl 0 rfl dX1_stackedIn_90 ?_
                refine k_ifeq (tgt := 98) hm dX1_stackedIn_92 (by decide) (by omega) (fun c_17 => absurd c_17 (by omega)) (fun c_17 => ?_)
                refine k_iincN hm hl 8 1 rfl [(5, vN (t + 1)), (10, vN (1)), (9, vN (0)), (8, vN (row i)), (0, .ref (M 0)), (1, .ref (a)), (2, vN (x0)), (3, vN (m1)), (4, vN (sh)), (6, vN (x)), (7, vN (i))] (by decide) rfl dX1_stackedIn_95 (fun ls hl => ?_)
                exact join_98  (t + 1) (by
                              simp only [nstk]
                              rw [← hx]
                              split <;> omega) _ _ _ hw (lv_sub hl [4, 5, 6, 7, 8, 0, 9, 10, 3] rfl)
        · refine k_iconstN hm 1 dX1_stackedIn_44 ?_
          refine k_goto (tgt := 49) hm dX1_stackedIn_45 (by decide) ?_
          refine k_istore hm hl [(9, vN (1)), (8, vN (row i)), (0, .ref (M 0)), (1, .ref (a)), (2, vN (x0)), (3, vN (m1)), (4, vN (sh)), (5, vN (t)), (6, vN (x)), (7, vN (i))] (by decide) rfl dX1_stackedIn_49 (fun ls hl => ?_)
          refine k_iload hm hl 1 rfl dX1_stackedIn_51 ?_
          refine k_iconstN hm 2 dX1_stackedIn_53 ?_
          refine k_icmpne (tgt := 77) hm dX1_stackedIn_54 (by decide) (by omega) (fun c_18 => ?_) (fun c_18 => ?_)
          · refine k_iconstN hm 0 dX1_stackedIn_77 ?_
            refine k_istore hm hl [(10, vN (0)), (9, vN (1)), (8, vN (row i)), (0, .ref (M 0)), (1, .ref (a)), (2, vN (x0)), (3, vN (m1)), (4, vN (sh)), (5, vN (t)), (6, vN (x)), (7, vN (i))] (by decide) rfl dX1_stackedIn_78 (fun ls hl => ?_)
            refine k_iload hm hl 2 rfl dX1_stackedIn_80 ?_
            refine k_ifeq (tgt := 98) hm dX1_stackedIn_82 (by decide) (by omega) (fun c_19 => ?_) (fun c_19 => ?_)
            · exact join_98  t (by
                              simp only [nstk]
                              rw [← hx]
                              split <;> omega) _ _ _ hw (lv_sub hl [3, 4, 5, 6, 7, 8, 9, 10, 2] rfl)
            · refine k_iload hm hl 1 rfl dX1_stackedIn_85 ?_
              refine k_ifne (tgt := 95) hm dX1_stackedIn_87 (by decide) (by omega) (fun c_20 => ?_) (fun c_20 => absurd c_20 (by omega))
              refine k_iincN hm hl 8 1 rfl [(5, vN (t + 1)), (10, vN (0)), (9, vN (1)), (8, vN (row i)), (0, .ref (M 0)), (1, .ref (a)), (2, vN (x0)), (3, vN (m1)), (4, vN (sh)), (6, vN (x)), (7, vN (i))] (by decide) rfl dX1_stackedIn_95 (fun ls hl => ?_)
              exact join_98  (t + 1) (by
                              simp only [nstk]
                              rw [← hx]
                              split <;> omega) _ _ _ hw (lv_sub hl [4, 5, 6, 7, 8, 0, 9, 10, 3] rfl)
          · refine k_aload_n hm hl 2 rfl dX1_stackedIn_57 ?_
            refine k_get (T := TX1) hm hw 0 0 i1 rfl rfl (by decide) (by decide +kernel) rfl dX1_stackedIn_58 ?_
            refine k_iload hm hl 8 rfl dX1_stackedIn_61 ?_
            refine k_iconstN hm 1 dX1_stackedIn_63 ?_
            refine k_iaddN hm dX1_stackedIn_64 ?_
            refine k_callVr (n := 1) (As := [vN (x + 1)]) (rest := []) hm hw hl (c_Num_at l G (M 1) (M 2) 120 mf (x + 1) (by first | assumption | omega)) gX1_stackedIn_X2_at rfl (by decide +kernel) ⟨by decide, by decide⟩ (ci := 2) rfl 1 rfl [1, 2] (by decide) rfl rfl rfl (by simp [Value.category]) ⟨by decide, by decide⟩ dX1_stackedIn_65 (fun v H locs hp hw => ?_)
            obtain rfl := hp
            refine W.eq (g2 := F0 m 68 ls [vN (mf (x + 1))]) rfl ?_
            refine k_iload hm hl 1 rfl dX1_stackedIn_68 ?_
            refine k_icmpne (tgt := 77) hm dX1_stackedIn_70 (by decide) (by omega) (fun c_22 => ?_) (fun c_22 => ?_)
            · refine k_iconstN hm 0 dX1_stackedIn_77 ?_
              refine k_istore hm hl [(10, vN (0)), (9, vN (1)), (8, vN (row i)), (0, .ref (M 0)), (1, .ref (a)), (2, vN (x0)), (3, vN (m1)), (4, vN (sh)), (5, vN (t)), (6, vN (x)), (7, vN (i))] (by decide) rfl dX1_stackedIn_78 (fun ls hl => ?_)
              refine k_iload hm hl 2 rfl dX1_stackedIn_80 ?_
              refine k_ifeq (tgt := 98) hm dX1_stackedIn_82 (by decide) (by omega) (fun c_23 => ?_) (fun c_23 => ?_)
              · exact join_98  t (by
                              simp only [nstk]
                              rw [← hx]
                              split <;> omega) _ _ _ hw (lv_sub hl [3, 4, 5, 6, 7, 8, 9, 10, 2] rfl)
              · refine k_iload hm hl 1 rfl dX1_stackedIn_85 ?_
                refine k_ifne (tgt := 95) hm dX1_stackedIn_87 (by decide) (by omega) (fun c_24 => ?_) (fun c_24 => absurd c_24 (by omega))
                refine k_iincN hm hl 8 1 rfl [(5, vN (t + 1)), (10, vN (0)), (9, vN (1)), (8, vN (row i)), (0, .ref (M 0)), (1, .ref (a)), (2, vN (x0)), (3, vN (m1)), (4, vN (sh)), (6, vN (x)), (7, vN (i))] (by decide) rfl dX1_stackedIn_95 (fun ls hl => ?_)
                exact join_98  (t + 1) (by
                              simp only [nstk]
                              rw [← hx]
                              split <;> omega) _ _ _ hw (lv_sub hl [4, 5, 6, 7, 8, 0, 9, 10, 3] rfl)
            · refine k_iconstN hm 1 dX1_stackedIn_73 ?_
              refine k_goto (tgt := 78) hm dX1_stackedIn_74 (by decide) ?_
              refine k_istore hm hl [(10, vN (1)), (9, vN (1)), (8, vN (row i)), (0, .ref (M 0)), (1, .ref (a)), (2, vN (x0)), (3, vN (m1)), (4, vN (sh)), (5, vN (t)), (6, vN (x)), (7, vN (i))] (by decide) rfl dX1_stackedIn_78 (fun ls hl => ?_)
              refine k_iload hm hl 2 rfl dX1_stackedIn_80 ?_
              refine k_ifeq (tgt := 98) hm dX1_stackedIn_82 (by decide) (by omega) (fun c_25 => ?_) (fun c_25 => ?_)
              · exact join_98  t (by
                              simp only [nstk]
                              rw [← hx]
                              split <;> omega) _ _ _ hw (lv_sub hl [3, 4, 5, 6, 7, 8, 9, 10, 2] rfl)
              · refine k_iload hm hl 1 rfl dX1_stackedIn_85 ?_
                refine k_ifne (tgt := 95) hm dX1_stackedIn_87 (by decide) (by omega) (fun c_26 => ?_) (fun c_26 => absurd c_26 (by omega))
                refine k_iincN hm hl 8 1 rfl [(5, vN (t + 1)), (10, vN (1)), (9, vN (1)), (8, vN (row i)), (0, .ref (M 0)), (1, .ref (a)), (2, vN (x0)), (3, vN (m1)), (4, vN (sh)), (6, vN (x)), (7, vN (i))] (by decide) rfl dX1_stackedIn_95 (fun ls hl => ?_)
                exact join_98  (t + 1) (by
                              simp only [nstk]
                              rw [← hx]
                              split <;> omega) _ _ _ hw (lv_sub hl [4, 5, 6, 7, 8, 0, 9, 10, 3] rfl)
  exact loop_9 (m1 - 0 + 1) 0 0 0 (by first | assumption | omega) rfl rfl _ _ _ (Nat.lt_succ_self _) hw (lv_sub hl [3, 4, 5, 6, 7, 2, 1, 0] rfl)
