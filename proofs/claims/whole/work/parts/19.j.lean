def wPat (G : kG) (T : Nat → Nat) (tb : Nat → Nat) (tk : Nat → Int) (tc : Nat → Nat) (tn ti tt tu tm tp : Nat) (te : Int) : va_W :=
  [(T 0, .inr (3, [.ref (T 1), .ref (T 3), .ref (T 5), vN tn, vN ti, vN tt, vN tu, vN tm, vN tp, vZ te])), (T 1, .inr (2, [.ref (T 2)])), (T 2, .inl (G.2 0, 120, .inl (nF tb))), (T 3, .inr (2, [.ref (T 4)])), (T 4, .inl (G.2 0, 60, .inl (iF tk))), (T 5, .inr (2, [.ref (T 6)])), (T 6, .inl (G.2 0, 60, .inl (nF tc)))]
set_option maxHeartbeats 4000000 in
set_option maxRecDepth 100000 in
theorem c_append_ok (l : Launch) (G : kG) (o : Nat) (P : Nat → Nat) (h : Nat) (L : Nat → Nat) (M : Nat → Nat) (T : Nat → Nat) (tb : Nat → Nat) (tk : Nat → Int) (tc : Nat → Nat) (tn : Nat) (ti : Nat) (tt : Nat) (tu : Nat) (tm : Nat) (tp : Nat) (te : Int) (x : Nat) (hx : x ≤ 127) (hn : tn < 120) : kCM l yX6_append wsX6_append 1 22 0 0 G [.ref (o), vN (x)] (wMain G o P h T L M ++ wPat G T tb tk tc tn ti tt tu tm tp te) (fun vv uu => vv = some (vN (tn + 1)) ∧ uu = wMain G o P h T L M ++ wPat G T (nU tb tn x) tk tc (tn + 1) ti tt tu tm tp te) := by
  refine kCM.of (cc := cX6_append) (maxL := 2) (ret := (some .int)) (by decide) rfl (Nat.le_of_ble_eq_true rfl) ?_
  intro p e s m args below meth c A ls Qz hQ hin hm hw hl
  have hl : lv_has ls 2 [(0, .ref (o)), (1, vN (x))] := hl
  have i3 : ∀ w ∈ wsX30, w ∈ wsX6_append := by decide +kernel
  have i6 : ∀ w ∈ wsX60, w ∈ wsX6_append := by decide +kernel
  refine k_iload_n hm hl 1 rfl dX6_append_0 ?_
  refine k_iflt (tgt := 14) hm dX6_append_1 (by decide) (by omega) (fun c_1 => absurd c_1 (by omega)) (fun c_1 => ?_)
  refine k_iload_n hm hl 1 rfl dX6_append_4 ?_
  refine k_bipushN hm 127 dX6_append_5 rfl ?_
  refine k_icmpgt (tgt := 14) hm dX6_append_7 (by decide) (by omega) (fun c_2 => absurd c_2 (by omega)) (fun c_2 => ?_)
  refine k_iconstN hm 1 dX6_append_10 ?_
  refine k_goto (tgt := 15) hm dX6_append_11 (by decide) ?_
  refine k_callSr (n := 1) (As := [vN (1)]) (rest := []) hm hw hl (c_checkArgument_ok l G ) gX6_append_X6_checkArgument rfl (by decide +kernel) ⟨by decide, by decide⟩ [] (by decide) rfl rfl rfl (by simp [Value.category]) ⟨by decide, by decide⟩ dX6_append_15 (fun v H locs hp hw => ?_)
  obtain rfl := hp
  refine W.eq (g2 := F0 m 18 ls []) rfl ?_
  refine k_aload_n hm hl 0 rfl dX6_append_18 ?_
  refine k_get (T := TX6) hm hw 0 2 i6 rfl rfl (by decide) (by decide +kernel) rfl dX6_append_19 ?_
  refine k_get (T := TX3) hm hw 1 3 i3 rfl rfl (by decide) (by decide +kernel) rfl dX6_append_22 ?_
  refine k_bipushN hm 120 dX6_append_25 rfl ?_
  refine k_icmpge (tgt := 34) hm dX6_append_27 (by decide) (by omega) (fun c_4 => absurd c_4 (by omega)) (fun c_4 => ?_)
  refine k_iconstN hm 1 dX6_append_30 ?_
  refine k_goto (tgt := 35) hm dX6_append_31 (by decide) ?_
  refine k_callSr (n := 1) (As := [vN (1)]) (rest := []) hm hw hl (c_checkState_ok l G ) gX6_append_X6_checkState rfl (by decide +kernel) ⟨by decide, by decide⟩ [] (by decide) rfl rfl rfl (by simp [Value.category]) ⟨by decide, by decide⟩ dX6_append_35 (fun v H locs hp hw => ?_)
  obtain rfl := hp
  refine W.eq (g2 := F0 m 38 ls []) rfl ?_
  refine k_aload_n hm hl 0 rfl dX6_append_38 ?_
  refine k_get (T := TX6) hm hw 0 2 i6 rfl rfl (by decide) (by decide +kernel) rfl dX6_append_39 ?_
  refine k_get (T := TX3) hm hw 1 0 i3 rfl rfl (by decide) (by decide +kernel) rfl dX6_append_42 ?_
  refine k_aload_n hm hl 0 rfl dX6_append_45 ?_
  refine k_get (T := TX6) hm hw 0 2 i6 rfl rfl (by decide) (by decide +kernel) rfl dX6_append_46 ?_
  refine k_get (T := TX3) hm hw 1 3 i3 rfl rfl (by decide) (by decide +kernel) rfl dX6_append_49 ?_
  refine k_iload_n hm hl 1 rfl dX6_append_52 ?_
  refine k_callV (n := 2) (As := [vN (tn), vN (x)]) (rest := []) (wr := [(o, .inr (6, [.ref (P 0), .ref (h), .ref (T 0), .ref (L 0), .ref (M 0)])), (T 0, .inr (3, [.ref (T 1), .ref (T 3), .ref (T 5), vN (tn), vN (ti), vN (tt), vN (tu), vN (tm), vN (tp), vZ (te)])), (T 3, .inr (2, [.ref (T 4)])), (T 4, .inl (G.2 0, 60, .inl (iF tk))), (T 5, .inr (2, [.ref (T 6)])), (T 6, .inl (G.2 0, 60, .inl (nF tc)))]) hm hw hl (c_Num_put l G (T 1) (T 2) 120 tb tn x (by first | assumption | omega)) gX6_append_X2_put rfl (by decide +kernel) ⟨by decide, by decide⟩ (ci := 2) rfl 2 rfl [2, 3] [0, 1, 4, 5, 6, 7] (by decide) rfl rfl (by decide) (by decide) rfl rfl (by simp [Value.category]) ⟨by decide, by decide⟩ dX6_append_53 (fun v w1 H locs hp hw => ?_)
  obtain ⟨rfl, rfl⟩ := hp
  have hw := hw.sub (ws' := wMain G o P h T L M ++ wPat G T (nU tb tn x) tk tc tn ti tt tu tm tp te) [0, 1, 6, 7, 2, 3, 4, 5] (by decide) rfl
  refine W.eq (g2 := F0 m 56 ls []) rfl ?_
  refine k_aload_n hm hl 0 rfl dX6_append_56 ?_
  refine k_get (T := TX6) hm hw 0 2 i6 rfl rfl (by decide) (by decide +kernel) rfl dX6_append_57 ?_
  refine k_dup hm dX6_append_60 rfl ?_
  refine k_get (T := TX3) hm hw 1 3 i3 rfl rfl (by decide) (by decide +kernel) rfl dX6_append_61 ?_
  refine k_iconstN hm 1 dX6_append_64 ?_
  refine k_iaddN hm dX6_append_65 ?_
  refine k_put (T := TX3) hm hw 1 3 (wMain G o P h T L M ++ wPat G T (nU tb tn x) tk tc (tn + 1) ti tt tu tm tp te) i3 tyX3 tyX3_ok nmX3 rfl rfl (by decide) (by decide +kernel) rfl (tyX3_ok 3 (by decide)) rfl rfl (Nat.le_of_ble_eq_true rfl) rfl dX6_append_66 (fun H locs hw => ?_)
  refine k_aload_n hm hl 0 rfl dX6_append_69 ?_
  refine k_get (T := TX6) hm hw 0 2 i6 rfl rfl (by decide) (by decide +kernel) rfl dX6_append_70 ?_
  refine k_get (T := TX3) hm hw 1 3 i3 rfl rfl (by decide) (by decide +kernel) rfl dX6_append_73 ?_
  exact k_iret (post := _) hm hQ rfl rfl hw (⟨rfl, rfl⟩) (by omega) (by omega) dX6_append_76
set_option maxHeartbeats 4000000 in
set_option maxRecDepth 100000 in
theorem c_clearText (l : Launch) (G : kG) (o : Nat) (P : Nat → Nat) (h : Nat) (L : Nat → Nat) (M : Nat → Nat) (T : Nat → Nat) (tb : Nat → Nat) (tk : Nat → Int) (tc : Nat → Nat) (tn : Nat) (ti : Nat) (tt : Nat) (tu : Nat) (tm : Nat) (tp : Nat) (te : Int)  : kCM l yX6_clearText wsX6_clearText 0 0 0 0 G [.ref (o)] (wMain G o P h T L M ++ wPat G T tb tk tc tn ti tt tu tm tp te) (fun vv uu => vv = some (vN (tn)) ∧ uu = wMain G o P h T L M ++ wPat G T tb tk tc 0 ti tt tu tm tp te) := by
  refine kCM.of (cc := cX6_clearText) (maxL := 2) (ret := (some .int)) (by decide) rfl (Nat.le_of_ble_eq_true rfl) ?_
  intro p e s m args below meth c A ls Qz hQ hin hm hw hl
  have hl : lv_has ls 2 [(0, .ref (o))] := hl
  have i3 : ∀ w ∈ wsX30, w ∈ wsX6_clearText := by decide +kernel
  have i6 : ∀ w ∈ wsX60, w ∈ wsX6_clearText := by decide +kernel
  refine k_aload_n hm hl 0 rfl dX6_clearText_0 ?_
  refine k_get (T := TX6) hm hw 0 2 i6 rfl rfl (by decide) (by decide +kernel) rfl dX6_clearText_1 ?_
  refine k_get (T := TX3) hm hw 1 3 i3 rfl rfl (by decide) (by decide +kernel) rfl dX6_clearText_4 ?_
  refine k_istore_n hm hl [(1, vN (tn)), (0, .ref (o))] (by decide) rfl dX6_clearText_7 (fun ls hl => ?_)
  refine k_aload_n hm hl 1 rfl dX6_clearText_8 ?_
  refine k_get (T := TX6) hm hw 0 2 i6 rfl rfl (by decide) (by decide +kernel) rfl dX6_clearText_9 ?_
  refine k_iconstN hm 0 dX6_clearText_12 ?_
  refine k_put (T := TX3) hm hw 1 3 (wMain G o P h T L M ++ wPat G T tb tk tc 0 ti tt tu tm tp te) i3 tyX3 tyX3_ok nmX3 rfl rfl (by decide) (by decide +kernel) rfl (tyX3_ok 3 (by decide)) rfl rfl (Nat.le_of_ble_eq_true rfl) rfl dX6_clearText_13 (fun H locs hw => ?_)
  refine k_iload_n hm hl 0 rfl dX6_clearText_16 ?_
  exact k_iret (post := _) hm hQ rfl rfl hw (⟨rfl, rfl⟩) (by omega) (by omega) dX6_clearText_17
set_option maxHeartbeats 4000000 in
set_option maxRecDepth 100000 in
theorem c_begin_ok (l : Launch) (G : kG) (o : Nat) (T : Nat → Nat) (L : Nat → Nat) (M : Nat → Nat) (P : Nat → Nat) (gk : Nat → Nat) (gw : Nat → Nat) (gt : Nat → Nat) (gy : Nat → Nat) (R : Nat) (sp : Bool) (h : Nat) (hs : Nat) (Q : Nat → Nat → Nat) (ak : Nat → Nat → Nat) (aw : Nat → Nat → Nat) (au : Nat → Nat → Nat) (ay : Nat → Nat → Nat) (aR : Nat → Nat) (aS : Nat → Bool) (nx : Nat) (sz : Nat) (K : Nat → Nat → Nat) (w : Nat → Nat) (y : Nat → Nat) (sv : Nat → PSt) (n : Nat) (hok : POk gk gw gt gy R K w y) (hho : HOk ak aw au ay aR aS nx sz sv) (hn : 3 ≤ n ∧ n ≤ 12) : kCM l yX6_begin wsX6_begin 4 90 0 0 G [.ref (o), vN (n)] (wMain G o P h T L M ++ (wPiece G P gk gw gt gy R sp ++ wHist G h hs Q ak aw au ay aR aS nx sz)) (fun vv uu => ∃ (gk2 : Nat → Nat), ∃ (gw2 : Nat → Nat), ∃ (gt2 : Nat → Nat), ∃ (ak2 : Nat → Nat → Nat), ∃ (aw2 : Nat → Nat → Nat), ∃ (au2 : Nat → Nat → Nat), ∃ (ay2 : Nat → Nat → Nat), ∃ (aR2 : Nat → Nat), ∃ (aS2 : Nat → Bool), vv = some (vN (R)) ∧ uu = wMain G o P h T L M ++ (wPiece G P gk2 gw2 gt2 gy 1 sp ++ wHist G h hs Q ak2 aw2 au2 ay2 aR2 aS2 ((nx + 1) % 4) (Nat.min (sz + 1) 4)) ∧ (POk gk2 gw2 gt2 gy 1 (fun _ _ => 0) (fun _ => n) y) ∧ (HOk ak2 aw2 au2 ay2 aR2 aS2 ((nx + 1) % 4) (Nat.min (sz + 1) 4) (svPush (R, sp, K, w, y) sv))) := by
  refine kCM.of (cc := cX6_begin) (maxL := 3) (ret := (some .int)) (by decide) rfl (Nat.le_of_ble_eq_true rfl) ?_
  intro p e s m args below meth c A ls Qz hQ hin hm hw hl
  have hl : lv_has ls 3 [(0, .ref (o)), (1, vN (n))] := hl
  have i4 : ∀ w ∈ wsX40, w ∈ wsX6_begin := by decide +kernel
  have i6 : ∀ w ∈ wsX60, w ∈ wsX6_begin := by decide +kernel
  refine k_iload_n hm hl 1 rfl dX6_begin_0 ?_
  refine k_iconstN hm 3 dX6_begin_1 ?_
  refine k_icmplt (tgt := 15) hm dX6_begin_2 (by decide) (by omega) (fun c_1 => absurd c_1 (by omega)) (fun c_1 => ?_)
  refine k_iload_n hm hl 1 rfl dX6_begin_5 ?_
  refine k_bipushN hm 12 dX6_begin_6 rfl ?_
  refine k_icmpgt (tgt := 15) hm dX6_begin_8 (by decide) (by omega) (fun c_2 => absurd c_2 (by omega)) (fun c_2 => ?_)
  refine k_iconstN hm 1 dX6_begin_11 ?_
  refine k_goto (tgt := 16) hm dX6_begin_12 (by decide) ?_
  refine k_callSr (n := 1) (As := [vN (1)]) (rest := []) hm hw hl (c_checkArgument_ok l G ) gX6_begin_X6_checkArgument rfl (by decide +kernel) ⟨by decide, by decide⟩ [] (by decide) rfl rfl rfl (by simp [Value.category]) ⟨by decide, by decide⟩ dX6_begin_16 (fun v H locs hp hw => ?_)
  obtain rfl := hp
  refine W.eq (g2 := F0 m 19 ls []) rfl ?_
  refine k_aload_n hm hl 0 rfl dX6_begin_19 ?_
  refine k_get (T := TX6) hm hw 0 0 i6 rfl rfl (by decide) (by decide +kernel) rfl dX6_begin_20 ?_
  refine k_get (T := TX4) hm hw 1 4 i4 rfl rfl (by decide) (by decide +kernel) rfl dX6_begin_23 ?_
  refine k_istore_n hm hl [(2, vN (R)), (0, .ref (o)), (1, vN (n))] (by decide) rfl dX6_begin_26 (fun ls hl => ?_)
  refine k_aload_n hm hl 1 rfl dX6_begin_27 ?_
  refine k_get (T := TX6) hm hw 0 1 i6 rfl rfl (by decide) (by decide +kernel) rfl dX6_begin_28 ?_
  refine k_aload_n hm hl 1 rfl dX6_begin_31 ?_
  refine k_get (T := TX6) hm hw 0 0 i6 rfl rfl (by decide) (by decide +kernel) rfl dX6_begin_32 ?_
  refine k_callV (n := 1) (As := [.ref (P 0)]) (rest := []) (wr := [(o, .inr (6, [.ref (P 0), .ref (h), .ref (T 0), .ref (L 0), .ref (M 0)]))]) hm hw hl (c_keep l G h hs Q ak aw au ay aR aS nx sz P gk gw gt gy R sp K w y sv (by first | assumption | omega) (by first | assumption | omega)) gX6_begin_X0_keep rfl (by decide +kernel) ⟨by decide, by decide⟩ (ci := 0) rfl 10 rfl [10, 11, 12, 13, 14, 15, 16, 17, 18, 19, 20, 21, 22, 23, 24, 25, 26, 27, 28, 29, 30, 31, 32, 33, 34, 35, 36, 37, 38, 39, 40, 41, 42, 43, 44, 45, 46, 47, 1, 2, 3, 4, 5, 6, 7, 8, 9] [0] (by decide) rfl rfl (by decide) (by decide) rfl rfl (by simp [Value.category]) ⟨by decide, by decide⟩ dX6_begin_35 (fun v w1 H locs hp hw => ?_)
  obtain ⟨ak2_5, aw2_6, au2_7, ay2_8, aR2_9, aS2_10, rfl, rfl, hho2_11⟩ := hp
  have hw := hw.sub (ws' := wMain G o P h T L M ++ (wPiece G P gk gw gt gy R sp ++ wHist G h hs Q ak2_5 aw2_6 au2_7 ay2_8 aR2_9 aS2_10 ((nx + 1) % 4) (Nat.min (sz + 1) 4))) [0, 39, 40, 41, 42, 43, 44, 45, 46, 47, 1, 2, 3, 4, 5, 6, 7, 8, 9, 10, 11, 12, 13, 14, 15, 16, 17, 18, 19, 20, 21, 22, 23, 24, 25, 26, 27, 28, 29, 30, 31, 32, 33, 34, 35, 36, 37, 38] (by decide) rfl
  refine W.eq (g2 := F0 m 38 ls []) rfl ?_
  have hho2 := hho2_11
  refine k_aload_n hm hl 1 rfl dX6_begin_38 ?_
  refine k_get (T := TX6) hm hw 0 0 i6 rfl rfl (by decide) (by decide +kernel) rfl dX6_begin_39 ?_
  refine k_iload_n hm hl 2 rfl dX6_begin_42 ?_
  refine k_callV (n := 1) (As := [vN (n)]) (rest := []) (wr := [(o, .inr (6, [.ref (P 0), .ref (h), .ref (T 0), .ref (L 0), .ref (M 0)])), (h, .inr (0, [.ref (hs), vN ((nx + 1) % 4), vN (Nat.min (sz + 1) 4)])), (hs, .inl (G.2 2, 4, .inr (.inr (.inr (.inr (fun j => some (Q j 0))))))), ((Q 0) 0, .inr (4, [.ref ((Q 0) 1), .ref ((Q 0) 3), .ref ((Q 0) 5), .ref ((Q 0) 7), vN (aR2_9 0), vB (aS2_10 0)])), ((Q 0) 1, .inr (2, [.ref ((Q 0) 2)])), ((Q 0) 2, .inl (G.2 0, 4800, .inl (nF (ak2_5 0)))), ((Q 0) 3, .inr (2, [.ref ((Q 0) 4)])), ((Q 0) 4, .inl (G.2 0, 40, .inl (nF (aw2_6 0)))), ((Q 0) 5, .inr (2, [.ref ((Q 0) 6)])), ((Q 0) 6, .inl (G.2 0, 40, .inl (nF (au2_7 0)))), ((Q 0) 7, .inr (2, [.ref ((Q 0) 8)])), ((Q 0) 8, .inl (G.2 0, 3, .inl (nF (ay2_8 0)))), ((Q 1) 0, .inr (4, [.ref ((Q 1) 1), .ref ((Q 1) 3), .ref ((Q 1) 5), .ref ((Q 1) 7), vN (aR2_9 1), vB (aS2_10 1)])), ((Q 1) 1, .inr (2, [.ref ((Q 1) 2)])), ((Q 1) 2, .inl (G.2 0, 4800, .inl (nF (ak2_5 1)))), ((Q 1) 3, .inr (2, [.ref ((Q 1) 4)])), ((Q 1) 4, .inl (G.2 0, 40, .inl (nF (aw2_6 1)))), ((Q 1) 5, .inr (2, [.ref ((Q 1) 6)])), ((Q 1) 6, .inl (G.2 0, 40, .inl (nF (au2_7 1)))), ((Q 1) 7, .inr (2, [.ref ((Q 1) 8)])), ((Q 1) 8, .inl (G.2 0, 3, .inl (nF (ay2_8 1)))), ((Q 2) 0, .inr (4, [.ref ((Q 2) 1), .ref ((Q 2) 3), .ref ((Q 2) 5), .ref ((Q 2) 7), vN (aR2_9 2), vB (aS2_10 2)])), ((Q 2) 1, .inr (2, [.ref ((Q 2) 2)])), ((Q 2) 2, .inl (G.2 0, 4800, .inl (nF (ak2_5 2)))), ((Q 2) 3, .inr (2, [.ref ((Q 2) 4)])), ((Q 2) 4, .inl (G.2 0, 40, .inl (nF (aw2_6 2)))), ((Q 2) 5, .inr (2, [.ref ((Q 2) 6)])), ((Q 2) 6, .inl (G.2 0, 40, .inl (nF (au2_7 2)))), ((Q 2) 7, .inr (2, [.ref ((Q 2) 8)])), ((Q 2) 8, .inl (G.2 0, 3, .inl (nF (ay2_8 2)))), ((Q 3) 0, .inr (4, [.ref ((Q 3) 1), .ref ((Q 3) 3), .ref ((Q 3) 5), .ref ((Q 3) 7), vN (aR2_9 3), vB (aS2_10 3)])), ((Q 3) 1, .inr (2, [.ref ((Q 3) 2)])), ((Q 3) 2, .inl (G.2 0, 4800, .inl (nF (ak2_5 3)))), ((Q 3) 3, .inr (2, [.ref ((Q 3) 4)])), ((Q 3) 4, .inl (G.2 0, 40, .inl (nF (aw2_6 3)))), ((Q 3) 5, .inr (2, [.ref ((Q 3) 6)])), ((Q 3) 6, .inl (G.2 0, 40, .inl (nF (au2_7 3)))), ((Q 3) 7, .inr (2, [.ref ((Q 3) 8)])), ((Q 3) 8, .inl (G.2 0, 3, .inl (nF (ay2_8 3))))]) hm hw hl (c_startRing l G P gk gw gt gy R sp n y (by first | assumption | omega) (fun k q => ⟨hok.2.2 k q, hok.1.2.2.2.1 k q⟩)) gX6_begin_X4_startRing rfl (by decide +kernel) ⟨by decide, by decide⟩ (ci := 4) rfl 1 rfl [1, 2, 3, 4, 5, 6, 7, 8, 9] [0, 10, 11, 12, 13, 14, 15, 16, 17, 18, 19, 20, 21, 22, 23, 24, 25, 26, 27, 28, 29, 30, 31, 32, 33, 34, 35, 36, 37, 38, 39, 40, 41, 42, 43, 44, 45, 46, 47] (by decide) rfl rfl (by decide) (by decide) rfl rfl (by simp [Value.category]) ⟨by decide, by decide⟩ dX6_begin_43 (fun v w1 H locs hp hw => ?_)
  obtain ⟨gk2_13, gw2_14, gt2_15, rfl, rfl, hok_16⟩ := hp
  have hw := hw.sub (ws' := wMain G o P h T L M ++ (wPiece G P gk2_13 gw2_14 gt2_15 gy 1 sp ++ wHist G h hs Q ak2_5 aw2_6 au2_7 ay2_8 aR2_9 aS2_10 ((nx + 1) % 4) (Nat.min (sz + 1) 4))) [0, 39, 40, 41, 42, 43, 44, 45, 46, 47, 1, 2, 3, 4, 5, 6, 7, 8, 9, 10, 11, 12, 13, 14, 15, 16, 17, 18, 19, 20, 21, 22, 23, 24, 25, 26, 27, 28, 29, 30, 31, 32, 33, 34, 35, 36, 37, 38] (by decide) rfl
  refine W.eq (g2 := F0 m 46 ls []) rfl ?_
  refine k_iload_n hm hl 0 rfl dX6_begin_46 ?_
  exact k_iret (post := _) hm hQ rfl rfl hw (⟨_, _, _, _, _, _, _, _, _, rfl, rfl, hok_16, hho2⟩) (by omega) (by omega) dX6_begin_47
theorem POk_yarn {gk gw gt gy y w : Nat → Nat} {R k x : Nat} {K : Nat → Nat → Nat} (h : POk gk gw gt gy R K w y) (hx : 1 ≤ x ∧ x ≤ 60) : POk gk gw gt (nU gy k x) R K w (nU y k x) := by
  obtain ⟨⟨v1, v2, v3, v4, v5⟩, h2, h3⟩ := h
  refine ⟨⟨v1, v2, v3, fun j hj => ?_, v5⟩, h2, fun j hj => ?_⟩
  · simp only [nU]; split
    · exact hx
    · exact v4 j hj
  · simp only [nU]; split
    · rfl
    · exact h3 j hj
theorem POk_rip {gk gw gt gy y w : Nat → Nat} {R k : Nat} {K : Nat → Nat → Nat} (h : POk gk gw gt gy R K w y) (hk : k < R) : POk gk gw gt gy (R - k) K w y := by
  obtain ⟨⟨v1, v2, v3, v4, v5⟩, h2, h3⟩ := h
  exact ⟨⟨by omega, fun r hr => v2 r (by omega), fun r hr => v3 r (by omega), v4, v5⟩, fun r hr => h2 r (by omega), h3⟩
set_option maxHeartbeats 4000000 in
set_option maxRecDepth 100000 in
theorem c_setYarn_ok (l : Launch) (G : kG) (o : Nat) (T : Nat → Nat) (L : Nat → Nat) (M : Nat → Nat) (P : Nat → Nat) (gk : Nat → Nat) (gw : Nat → Nat) (gt : Nat → Nat) (gy : Nat → Nat) (R : Nat) (sp : Bool) (h : Nat) (hs : Nat) (Q : Nat → Nat → Nat) (ak : Nat → Nat → Nat) (aw : Nat → Nat → Nat) (au : Nat → Nat → Nat) (ay : Nat → Nat → Nat) (aR : Nat → Nat) (aS : Nat → Bool) (nx : Nat) (sz : Nat) (K : Nat → Nat → Nat) (w : Nat → Nat) (y : Nat → Nat) (sv : Nat → PSt) (k : Nat) (x : Nat) (hok : POk gk gw gt gy R K w y) (hho : HOk ak aw au ay aR aS nx sz sv) (hk : k < 3 ∧ 1 ≤ x ∧ x ≤ 60) : kCM l yX6_setYarn wsX6_setYarn 4 90 0 0 G [.ref (o), vN (k), vN (x)] (wMain G o P h T L M ++ (wPiece G P gk gw gt gy R sp ++ wHist G h hs Q ak aw au ay aR aS nx sz)) (fun vv uu => ∃ (gy2 : Nat → Nat), ∃ (ak2 : Nat → Nat → Nat), ∃ (aw2 : Nat → Nat → Nat), ∃ (au2 : Nat → Nat → Nat), ∃ (ay2 : Nat → Nat → Nat), ∃ (aR2 : Nat → Nat), ∃ (aS2 : Nat → Bool), vv = some (vN (y k)) ∧ uu = wMain G o P h T L M ++ (wPiece G P gk gw gt gy2 R sp ++ wHist G h hs Q ak2 aw2 au2 ay2 aR2 aS2 ((nx + 1) % 4) (Nat.min (sz + 1) 4)) ∧ (POk gk gw gt gy2 R K w (nU y k x)) ∧ (HOk ak2 aw2 au2 ay2 aR2 aS2 ((nx + 1) % 4) (Nat.min (sz + 1) 4) (svPush (R, sp, K, w, y) sv))) := by
  refine kCM.of (cc := cX6_setYarn) (maxL := 4) (ret := (some .int)) (by decide) rfl (Nat.le_of_ble_eq_true rfl) ?_
  intro p e s m args below meth c A ls Qz hQ hin hm hw hl
  have hl : lv_has ls 4 [(0, .ref (o)), (1, vN (k)), (2, vN (x))] := hl
  have i4 : ∀ w ∈ wsX40, w ∈ wsX6_setYarn := by decide +kernel
  have i6 : ∀ w ∈ wsX60, w ∈ wsX6_setYarn := by decide +kernel
  refine k_iload_n hm hl 1 rfl dX6_setYarn_0 ?_
  refine k_iflt (tgt := 24) hm dX6_setYarn_1 (by decide) (by omega) (fun c_1 => absurd c_1 (by omega)) (fun c_1 => ?_)
  refine k_iload_n hm hl 1 rfl dX6_setYarn_4 ?_
  refine k_iconstN hm 3 dX6_setYarn_5 ?_
  refine k_icmpge (tgt := 24) hm dX6_setYarn_6 (by decide) (by omega) (fun c_2 => absurd c_2 (by omega)) (fun c_2 => ?_)
  refine k_iload_n hm hl 2 rfl dX6_setYarn_9 ?_
  refine k_iconstN hm 1 dX6_setYarn_10 ?_
  refine k_icmplt (tgt := 24) hm dX6_setYarn_11 (by decide) (by omega) (fun c_3 => absurd c_3 (by omega)) (fun c_3 => ?_)
  refine k_iload_n hm hl 2 rfl dX6_setYarn_14 ?_
  refine k_bipushN hm 60 dX6_setYarn_15 rfl ?_
  refine k_icmpgt (tgt := 24) hm dX6_setYarn_17 (by decide) (by omega) (fun c_4 => absurd c_4 (by omega)) (fun c_4 => ?_)
  refine k_iconstN hm 1 dX6_setYarn_20 ?_
  refine k_goto (tgt := 25) hm dX6_setYarn_21 (by decide) ?_
  refine k_callSr (n := 1) (As := [vN (1)]) (rest := []) hm hw hl (c_checkArgument_ok l G ) gX6_setYarn_X6_checkArgument rfl (by decide +kernel) ⟨by decide, by decide⟩ [] (by decide) rfl rfl rfl (by simp [Value.category]) ⟨by decide, by decide⟩ dX6_setYarn_25 (fun v H locs hp hw => ?_)
  obtain rfl := hp
  refine W.eq (g2 := F0 m 28 ls []) rfl ?_
  refine k_aload_n hm hl 0 rfl dX6_setYarn_28 ?_
  refine k_get (T := TX6) hm hw 0 1 i6 rfl rfl (by decide) (by decide +kernel) rfl dX6_setYarn_29 ?_
  refine k_aload_n hm hl 0 rfl dX6_setYarn_32 ?_
  refine k_get (T := TX6) hm hw 0 0 i6 rfl rfl (by decide) (by decide +kernel) rfl dX6_setYarn_33 ?_
  refine k_callV (n := 1) (As := [.ref (P 0)]) (rest := []) (wr := [(o, .inr (6, [.ref (P 0), .ref (h), .ref (T 0), .ref (L 0), .ref (M 0)]))]) hm hw hl (c_keep l G h hs Q ak aw au ay aR aS nx sz P gk gw gt gy R sp K w y sv (by first | assumption | omega) (by first | assumption | omega)) gX6_setYarn_X0_keep rfl (by decide +kernel) ⟨by decide, by decide⟩ (ci := 0) rfl 10 rfl [10, 11, 12, 13, 14, 15, 16, 17, 18, 19, 20, 21, 22, 23, 24, 25, 26, 27, 28, 29, 30, 31, 32, 33, 34, 35, 36, 37, 38, 39, 40, 41, 42, 43, 44, 45, 46, 47, 1, 2, 3, 4, 5, 6, 7, 8, 9] [0] (by decide) rfl rfl (by decide) (by decide) rfl rfl (by simp [Value.category]) ⟨by decide, by decide⟩ dX6_setYarn_36 (fun v w1 H locs hp hw => ?_)
  obtain ⟨ak2_7, aw2_8, au2_9, ay2_10, aR2_11, aS2_12, rfl, rfl, hho2_13⟩ := hp
  have hw := hw.sub (ws' := wMain G o P h T L M ++ (wPiece G P gk gw gt gy R sp ++ wHist G h hs Q ak2_7 aw2_8 au2_9 ay2_10 aR2_11 aS2_12 ((nx + 1) % 4) (Nat.min (sz + 1) 4))) [0, 39, 40, 41, 42, 43, 44, 45, 46, 47, 1, 2, 3, 4, 5, 6, 7, 8, 9, 10, 11, 12, 13, 14, 15, 16, 17, 18, 19, 20, 21, 22, 23, 24, 25, 26, 27, 28, 29, 30, 31, 32, 33, 34, 35, 36, 37, 38] (by decide) rfl
  refine W.eq (g2 := F0 m 39 ls []) rfl ?_
  have hho2 := hho2_13
  refine k_aload_n hm hl 0 rfl dX6_setYarn_39 ?_
  refine k_get (T := TX6) hm hw 0 0 i6 rfl rfl (by decide) (by decide +kernel) rfl dX6_setYarn_40 ?_
  refine k_get (T := TX4) hm hw 1 3 i4 rfl rfl (by decide) (by decide +kernel) rfl dX6_setYarn_43 ?_
  refine k_iload_n hm hl 1 rfl dX6_setYarn_46 ?_
  refine k_callVr (n := 1) (As := [vN (k)]) (rest := []) hm hw hl (c_Num_at l G (P 7) (P 8) 3 gy k (by first | assumption | omega)) gX6_setYarn_X2_at rfl (by decide +kernel) ⟨by decide, by decide⟩ (ci := 2) rfl 8 rfl [8, 9] (by decide) rfl rfl rfl (by simp [Value.category]) ⟨by decide, by decide⟩ dX6_setYarn_47 (fun v H locs hp hw => ?_)
  obtain rfl := hp
  refine W.eq (g2 := F0 m 50 ls [vN (gy k)]) rfl ?_
  refine k_istore_n hm hl [(3, vN (gy k)), (0, .ref (o)), (1, vN (k)), (2, vN (x))] (by decide) rfl dX6_setYarn_50 (fun ls hl => ?_)
  refine k_aload_n hm hl 1 rfl dX6_setYarn_51 ?_
  refine k_get (T := TX6) hm hw 0 0 i6 rfl rfl (by decide) (by decide +kernel) rfl dX6_setYarn_52 ?_
  refine k_get (T := TX4) hm hw 1 3 i4 rfl rfl (by decide) (by decide +kernel) rfl dX6_setYarn_55 ?_
  refine k_iload_n hm hl 2 rfl dX6_setYarn_58 ?_
  refine k_iload_n hm hl 3 rfl dX6_setYarn_59 ?_
  refine k_callV (n := 2) (As := [vN (k), vN (x)]) (rest := []) (wr := [(o, .inr (6, [.ref (P 0), .ref (h), .ref (T 0), .ref (L 0), .ref (M 0)])), (P 0, .inr (4, [.ref (P 1), .ref (P 3), .ref (P 5), .ref (P 7), vN (R), vB (sp)])), (P 1, .inr (2, [.ref (P 2)])), (P 2, .inl (G.2 0, 4800, .inl (nF gk))), (P 3, .inr (2, [.ref (P 4)])), (P 4, .inl (G.2 0, 40, .inl (nF gw))), (P 5, .inr (2, [.ref (P 6)])), (P 6, .inl (G.2 0, 40, .inl (nF gt))), (h, .inr (0, [.ref (hs), vN ((nx + 1) % 4), vN (Nat.min (sz + 1) 4)])), (hs, .inl (G.2 2, 4, .inr (.inr (.inr (.inr (fun j => some (Q j 0))))))), ((Q 0) 0, .inr (4, [.ref ((Q 0) 1), .ref ((Q 0) 3), .ref ((Q 0) 5), .ref ((Q 0) 7), vN (aR2_11 0), vB (aS2_12 0)])), ((Q 0) 1, .inr (2, [.ref ((Q 0) 2)])), ((Q 0) 2, .inl (G.2 0, 4800, .inl (nF (ak2_7 0)))), ((Q 0) 3, .inr (2, [.ref ((Q 0) 4)])), ((Q 0) 4, .inl (G.2 0, 40, .inl (nF (aw2_8 0)))), ((Q 0) 5, .inr (2, [.ref ((Q 0) 6)])), ((Q 0) 6, .inl (G.2 0, 40, .inl (nF (au2_9 0)))), ((Q 0) 7, .inr (2, [.ref ((Q 0) 8)])), ((Q 0) 8, .inl (G.2 0, 3, .inl (nF (ay2_10 0)))), ((Q 1) 0, .inr (4, [.ref ((Q 1) 1), .ref ((Q 1) 3), .ref ((Q 1) 5), .ref ((Q 1) 7), vN (aR2_11 1), vB (aS2_12 1)])), ((Q 1) 1, .inr (2, [.ref ((Q 1) 2)])), ((Q 1) 2, .inl (G.2 0, 4800, .inl (nF (ak2_7 1)))), ((Q 1) 3, .inr (2, [.ref ((Q 1) 4)])), ((Q 1) 4, .inl (G.2 0, 40, .inl (nF (aw2_8 1)))), ((Q 1) 5, .inr (2, [.ref ((Q 1) 6)])), ((Q 1) 6, .inl (G.2 0, 40, .inl (nF (au2_9 1)))), ((Q 1) 7, .inr (2, [.ref ((Q 1) 8)])), ((Q 1) 8, .inl (G.2 0, 3, .inl (nF (ay2_10 1)))), ((Q 2) 0, .inr (4, [.ref ((Q 2) 1), .ref ((Q 2) 3), .ref ((Q 2) 5), .ref ((Q 2) 7), vN (aR2_11 2), vB (aS2_12 2)])), ((Q 2) 1, .inr (2, [.ref ((Q 2) 2)])), ((Q 2) 2, .inl (G.2 0, 4800, .inl (nF (ak2_7 2)))), ((Q 2) 3, .inr (2, [.ref ((Q 2) 4)])), ((Q 2) 4, .inl (G.2 0, 40, .inl (nF (aw2_8 2)))), ((Q 2) 5, .inr (2, [.ref ((Q 2) 6)])), ((Q 2) 6, .inl (G.2 0, 40, .inl (nF (au2_9 2)))), ((Q 2) 7, .inr (2, [.ref ((Q 2) 8)])), ((Q 2) 8, .inl (G.2 0, 3, .inl (nF (ay2_10 2)))), ((Q 3) 0, .inr (4, [.ref ((Q 3) 1), .ref ((Q 3) 3), .ref ((Q 3) 5), .ref ((Q 3) 7), vN (aR2_11 3), vB (aS2_12 3)])), ((Q 3) 1, .inr (2, [.ref ((Q 3) 2)])), ((Q 3) 2, .inl (G.2 0, 4800, .inl (nF (ak2_7 3)))), ((Q 3) 3, .inr (2, [.ref ((Q 3) 4)])), ((Q 3) 4, .inl (G.2 0, 40, .inl (nF (aw2_8 3)))), ((Q 3) 5, .inr (2, [.ref ((Q 3) 6)])), ((Q 3) 6, .inl (G.2 0, 40, .inl (nF (au2_9 3)))), ((Q 3) 7, .inr (2, [.ref ((Q 3) 8)])), ((Q 3) 8, .inl (G.2 0, 3, .inl (nF (ay2_10 3))))]) hm hw hl (c_Num_put l G (P 7) (P 8) 3 gy k x (by first | assumption | omega)) gX6_setYarn_X2_put rfl (by decide +kernel) ⟨by decide, by decide⟩ (ci := 2) rfl 8 rfl [8, 9] [0, 1, 2, 3, 4, 5, 6, 7, 10, 11, 12, 13, 14, 15, 16, 17, 18, 19, 20, 21, 22, 23, 24, 25, 26, 27, 28, 29, 30, 31, 32, 33, 34, 35, 36, 37, 38, 39, 40, 41, 42, 43, 44, 45, 46, 47] (by decide) rfl rfl (by decide) (by decide) rfl rfl (by simp [Value.category]) ⟨by decide, by decide⟩ dX6_setYarn_60 (fun v w1 H locs hp hw => ?_)
  obtain ⟨rfl, rfl⟩ := hp
  have hw := hw.sub (ws' := wMain G o P h T L M ++ (wPiece G P gk gw gt (nU gy k x) R sp ++ wHist G h hs Q ak2_7 aw2_8 au2_9 ay2_10 aR2_11 aS2_12 ((nx + 1) % 4) (Nat.min (sz + 1) 4))) [0, 1, 2, 3, 4, 5, 6, 7, 46, 47, 8, 9, 10, 11, 12, 13, 14, 15, 16, 17, 18, 19, 20, 21, 22, 23, 24, 25, 26, 27, 28, 29, 30, 31, 32, 33, 34, 35, 36, 37, 38, 39, 40, 41, 42, 43, 44, 45] (by decide) rfl
  refine W.eq (g2 := F0 m 63 ls []) rfl ?_
  refine k_iload_n hm hl 0 rfl dX6_setYarn_63 ?_
  exact k_iret (post := _) hm hQ rfl rfl hw (⟨_, _, _, _, _, _, _, by rw [hok.2.2 k hk.1], rfl, POk_yarn hok hk.2, hho2⟩) (by omega) (by omega) dX6_setYarn_64
set_option maxHeartbeats 4000000 in
set_option maxRecDepth 100000 in
theorem c_rip_ok (l : Launch) (G : kG) (o : Nat) (T : Nat → Nat) (L : Nat → Nat) (M : Nat → Nat) (P : Nat → Nat) (gk : Nat → Nat) (gw : Nat → Nat) (gt : Nat → Nat) (gy : Nat → Nat) (R : Nat) (sp : Bool) (h : Nat) (hs : Nat) (Q : Nat → Nat → Nat) (ak : Nat → Nat → Nat) (aw : Nat → Nat → Nat) (au : Nat → Nat → Nat) (ay : Nat → Nat → Nat) (aR : Nat → Nat) (aS : Nat → Bool) (nx : Nat) (sz : Nat) (K : Nat → Nat → Nat) (w : Nat → Nat) (y : Nat → Nat) (sv : Nat → PSt) (k : Nat) (hok : POk gk gw gt gy R K w y) (hho : HOk ak aw au ay aR aS nx sz sv) (hk : 1 ≤ k ∧ k < R) : kCM l yX6_rip wsX6_rip 4 90 0 0 G [.ref (o), vN (k)] (wMain G o P h T L M ++ (wPiece G P gk gw gt gy R sp ++ wHist G h hs Q ak aw au ay aR aS nx sz)) (fun vv uu => ∃ (ak2 : Nat → Nat → Nat), ∃ (aw2 : Nat → Nat → Nat), ∃ (au2 : Nat → Nat → Nat), ∃ (ay2 : Nat → Nat → Nat), ∃ (aR2 : Nat → Nat), ∃ (aS2 : Nat → Bool), vv = some (vN (sumM (K (R - k - 1)) (w (R - k - 1)))) ∧ uu = wMain G o P h T L M ++ (wPiece G P gk gw gt gy (R - k) sp ++ wHist G h hs Q ak2 aw2 au2 ay2 aR2 aS2 ((nx + 1) % 4) (Nat.min (sz + 1) 4)) ∧ (POk gk gw gt gy (R - k) K w y) ∧ (HOk ak2 aw2 au2 ay2 aR2 aS2 ((nx + 1) % 4) (Nat.min (sz + 1) 4) (svPush (R, sp, K, w, y) sv))) := by
  refine kCM.of (cc := cX6_rip) (maxL := 2) (ret := (some .int)) (by decide) rfl (Nat.le_of_ble_eq_true rfl) ?_
  intro p e s m args below meth c A ls Qz hQ hin hm hw hl
  have hl : lv_has ls 2 [(0, .ref (o)), (1, vN (k))] := hl
  have i4 : ∀ w ∈ wsX40, w ∈ wsX6_rip := by decide +kernel
  have i6 : ∀ w ∈ wsX60, w ∈ wsX6_rip := by decide +kernel
  have hR := hok.1.1
  have hok2 := POk_rip hok hk.2
  refine k_iload_n hm hl 1 rfl dX6_rip_0 ?_
  refine k_iconstN hm 1 dX6_rip_1 ?_
  refine k_icmplt (tgt := 9) hm dX6_rip_2 (by decide) (by omega) (fun c_1 => absurd c_1 (by omega)) (fun c_1 => ?_)
  refine k_iconstN hm 1 dX6_rip_5 ?_
  refine k_goto (tgt := 10) hm dX6_rip_6 (by decide) ?_
  refine k_callSr (n := 1) (As := [vN (1)]) (rest := []) hm hw hl (c_checkArgument_ok l G ) gX6_rip_X6_checkArgument rfl (by decide +kernel) ⟨by decide, by decide⟩ [] (by decide) rfl rfl rfl (by simp [Value.category]) ⟨by decide, by decide⟩ dX6_rip_10 (fun v H locs hp hw => ?_)
  obtain rfl := hp
  refine W.eq (g2 := F0 m 13 ls []) rfl ?_
  refine k_iload_n hm hl 1 rfl dX6_rip_13 ?_
  refine k_aload_n hm hl 0 rfl dX6_rip_14 ?_
  refine k_get (T := TX6) hm hw 0 0 i6 rfl rfl (by decide) (by decide +kernel) rfl dX6_rip_15 ?_
  refine k_get (T := TX4) hm hw 1 4 i4 rfl rfl (by decide) (by decide +kernel) rfl dX6_rip_18 ?_
  refine k_icmpge (tgt := 28) hm dX6_rip_21 (by decide) (by omega) (fun c_3 => absurd c_3 (by omega)) (fun c_3 => ?_)
  refine k_iconstN hm 1 dX6_rip_24 ?_
  refine k_goto (tgt := 29) hm dX6_rip_25 (by decide) ?_
  refine k_callSr (n := 1) (As := [vN (1)]) (rest := []) hm hw hl (c_checkState_ok l G ) gX6_rip_X6_checkState rfl (by decide +kernel) ⟨by decide, by decide⟩ [] (by decide) rfl rfl rfl (by simp [Value.category]) ⟨by decide, by decide⟩ dX6_rip_29 (fun v H locs hp hw => ?_)
  obtain rfl := hp
  refine W.eq (g2 := F0 m 32 ls []) rfl ?_
  refine k_aload_n hm hl 0 rfl dX6_rip_32 ?_
  refine k_get (T := TX6) hm hw 0 1 i6 rfl rfl (by decide) (by decide +kernel) rfl dX6_rip_33 ?_
  refine k_aload_n hm hl 0 rfl dX6_rip_36 ?_
  refine k_get (T := TX6) hm hw 0 0 i6 rfl rfl (by decide) (by decide +kernel) rfl dX6_rip_37 ?_
  refine k_callV (n := 1) (As := [.ref (P 0)]) (rest := []) (wr := [(o, .inr (6, [.ref (P 0), .ref (h), .ref (T 0), .ref (L 0), .ref (M 0)]))]) hm hw hl (c_keep l G h hs Q ak aw au ay aR aS nx sz P gk gw gt gy R sp K w y sv (by first | assumption | omega) (by first | assumption | omega)) gX6_rip_X0_keep rfl (by decide +kernel) ⟨by decide, by decide⟩ (ci := 0) rfl 10 rfl [10, 11, 12, 13, 14, 15, 16, 17, 18, 19, 20, 21, 22, 23, 24, 25, 26, 27, 28, 29, 30, 31, 32, 33, 34, 35, 36, 37, 38, 39, 40, 41, 42, 43, 44, 45, 46, 47, 1, 2, 3, 4, 5, 6, 7, 8, 9] [0] (by decide) rfl rfl (by decide) (by decide) rfl rfl (by simp [Value.category]) ⟨by decide, by decide⟩ dX6_rip_40 (fun v w1 H locs hp hw => ?_)
  obtain ⟨ak2_6, aw2_7, au2_8, ay2_9, aR2_10, aS2_11, rfl, rfl, hho2_12⟩ := hp
  have hw := hw.sub (ws' := wMain G o P h T L M ++ (wPiece G P gk gw gt gy R sp ++ wHist G h hs Q ak2_6 aw2_7 au2_8 ay2_9 aR2_10 aS2_11 ((nx + 1) % 4) (Nat.min (sz + 1) 4))) [0, 39, 40, 41, 42, 43, 44, 45, 46, 47, 1, 2, 3, 4, 5, 6, 7, 8, 9, 10, 11, 12, 13, 14, 15, 16, 17, 18, 19, 20, 21, 22, 23, 24, 25, 26, 27, 28, 29, 30, 31, 32, 33, 34, 35, 36, 37, 38] (by decide) rfl
  refine W.eq (g2 := F0 m 43 ls []) rfl ?_
  have hho2 := hho2_12
  refine k_aload_n hm hl 0 rfl dX6_rip_43 ?_
  refine k_get (T := TX6) hm hw 0 0 i6 rfl rfl (by decide) (by decide +kernel) rfl dX6_rip_44 ?_
  refine k_dup hm dX6_rip_47 rfl ?_
  refine k_get (T := TX4) hm hw 1 4 i4 rfl rfl (by decide) (by decide +kernel) rfl dX6_rip_48 ?_
  refine k_iload_n hm hl 1 rfl dX6_rip_51 ?_
  refine k_isubN hm (by omega) dX6_rip_52 ?_
  refine k_put (T := TX4) hm hw 1 4 (wMain G o P h T L M ++ (wPiece G P gk gw gt gy (R - k) sp ++ wHist G h hs Q ak2_6 aw2_7 au2_8 ay2_9 aR2_10 aS2_11 ((nx + 1) % 4) (Nat.min (sz + 1) 4))) i4 tyX4 tyX4_ok nmX4 rfl rfl (by decide) (by decide +kernel) rfl (tyX4_ok 4 (by decide)) rfl rfl (Nat.le_of_ble_eq_true rfl) rfl dX6_rip_53 (fun H locs hw => ?_)
  refine k_aload_n hm hl 0 rfl dX6_rip_56 ?_
  refine k_get (T := TX6) hm hw 0 0 i6 rfl rfl (by decide) (by decide +kernel) rfl dX6_rip_57 ?_
  refine k_callVr (n := 0) (As := []) (rest := []) hm hw hl (c_lastTotal l G P gk gw gt gy (R - k) sp K w y (by first | assumption | omega)) gX6_rip_X4_lastTotal rfl (by decide +kernel) ⟨by decide, by decide⟩ (ci := 4) rfl 1 rfl [1, 2, 3, 4, 5, 6, 7, 8, 9] (by decide) rfl rfl rfl (by simp [Value.category]) ⟨by decide, by decide⟩ dX6_rip_60 (fun v H locs hp hw => ?_)
  obtain rfl := hp
  refine W.eq (g2 := F0 m 63 ls [vN (sumM (K ((R - k) - 1)) (w ((R - k) - 1)))]) rfl ?_
  exact k_iret (post := _) hm hQ rfl rfl hw (⟨_, _, _, _, _, _, rfl, rfl, hok2, hho2⟩) (by omega) (by omega) dX6_rip_63
set_option maxHeartbeats 4000000 in
set_option maxRecDepth 100000 in
theorem c_setSpiral (l : Launch) (G : kG) (o : Nat) (T : Nat → Nat) (L : Nat → Nat) (M : Nat → Nat) (P : Nat → Nat) (gk : Nat → Nat) (gw : Nat → Nat) (gt : Nat → Nat) (gy : Nat → Nat) (R : Nat) (sp : Bool) (h : Nat) (hs : Nat) (Q : Nat → Nat → Nat) (ak : Nat → Nat → Nat) (aw : Nat → Nat → Nat) (au : Nat → Nat → Nat) (ay : Nat → Nat → Nat) (aR : Nat → Nat) (aS : Nat → Bool) (nx : Nat) (sz : Nat) (K : Nat → Nat → Nat) (w : Nat → Nat) (y : Nat → Nat) (sv : Nat → PSt) (b : Bool) (hok : POk gk gw gt gy R K w y) (hho : HOk ak aw au ay aR aS nx sz sv) : kCM l yX6_setSpiral wsX6_setSpiral 4 90 0 0 G [.ref (o), vB (b)] (wMain G o P h T L M ++ (wPiece G P gk gw gt gy R sp ++ wHist G h hs Q ak aw au ay aR aS nx sz)) (fun vv uu => ∃ (ak2 : Nat → Nat → Nat), ∃ (aw2 : Nat → Nat → Nat), ∃ (au2 : Nat → Nat → Nat), ∃ (ay2 : Nat → Nat → Nat), ∃ (aR2 : Nat → Nat), ∃ (aS2 : Nat → Bool), vv = some (vB (sp)) ∧ uu = wMain G o P h T L M ++ (wPiece G P gk gw gt gy R b ++ wHist G h hs Q ak2 aw2 au2 ay2 aR2 aS2 ((nx + 1) % 4) (Nat.min (sz + 1) 4)) ∧ (HOk ak2 aw2 au2 ay2 aR2 aS2 ((nx + 1) % 4) (Nat.min (sz + 1) 4) (svPush (R, sp, K, w, y) sv))) := by
  refine kCM.of (cc := cX6_setSpiral) (maxL := 3) (ret := (some .boolean)) (by decide) rfl (Nat.le_of_ble_eq_true rfl) ?_
  intro p e s m args below meth c A ls Qz hQ hin hm hw hl
  have hl : lv_has ls 3 [(0, .ref (o)), (1, vB (b))] := hl
  have i4 : ∀ w ∈ wsX40, w ∈ wsX6_setSpiral := by decide +kernel
  have i6 : ∀ w ∈ wsX60, w ∈ wsX6_setSpiral := by decide +kernel
  refine k_aload_n hm hl 0 rfl dX6_setSpiral_0 ?_
  refine k_get (T := TX6) hm hw 0 1 i6 rfl rfl (by decide) (by decide +kernel) rfl dX6_setSpiral_1 ?_
  refine k_aload_n hm hl 0 rfl dX6_setSpiral_4 ?_
  refine k_get (T := TX6) hm hw 0 0 i6 rfl rfl (by decide) (by decide +kernel) rfl dX6_setSpiral_5 ?_
  refine k_callV (n := 1) (As := [.ref (P 0)]) (rest := []) (wr := [(o, .inr (6, [.ref (P 0), .ref (h), .ref (T 0), .ref (L 0), .ref (M 0)]))]) hm hw hl (c_keep l G h hs Q ak aw au ay aR aS nx sz P gk gw gt gy R sp K w y sv (by first | assumption | omega) (by first | assumption | omega)) gX6_setSpiral_X0_keep rfl (by decide +kernel) ⟨by decide, by decide⟩ (ci := 0) rfl 10 rfl [10, 11, 12, 13, 14, 15, 16, 17, 18, 19, 20, 21, 22, 23, 24, 25, 26, 27, 28, 29, 30, 31, 32, 33, 34, 35, 36, 37, 38, 39, 40, 41, 42, 43, 44, 45, 46, 47, 1, 2, 3, 4, 5, 6, 7, 8, 9] [0] (by decide) rfl rfl (by decide) (by decide) rfl rfl (by simp [Value.category]) ⟨by decide, by decide⟩ dX6_setSpiral_8 (fun v w1 H locs hp hw => ?_)
  obtain ⟨ak2_2, aw2_3, au2_4, ay2_5, aR2_6, aS2_7, rfl, rfl, hho2_8⟩ := hp
  have hw := hw.sub (ws' := wMain G o P h T L M ++ (wPiece G P gk gw gt gy R sp ++ wHist G h hs Q ak2_2 aw2_3 au2_4 ay2_5 aR2_6 aS2_7 ((nx + 1) % 4) (Nat.min (sz + 1) 4))) [0, 39, 40, 41, 42, 43, 44, 45, 46, 47, 1, 2, 3, 4, 5, 6, 7, 8, 9, 10, 11, 12, 13, 14, 15, 16, 17, 18, 19, 20, 21, 22, 23, 24, 25, 26, 27, 28, 29, 30, 31, 32, 33, 34, 35, 36, 37, 38] (by decide) rfl
  refine W.eq (g2 := F0 m 11 ls []) rfl ?_
  have hho2 := hho2_8
  refine k_aload_n hm hl 0 rfl dX6_setSpiral_11 ?_
  refine k_get (T := TX6) hm hw 0 0 i6 rfl rfl (by decide) (by decide +kernel) rfl dX6_setSpiral_12 ?_
  refine k_get (T := TX4) hm hw 1 5 i4 rfl rfl (by decide) (by decide +kernel) rfl dX6_setSpiral_15 ?_
  refine k_istore_n hm hl [(2, vB (sp)), (0, .ref (o)), (1, vB (b))] (by decide) rfl dX6_setSpiral_18 (fun ls hl => ?_)
  refine k_aload_n hm hl 1 rfl dX6_setSpiral_19 ?_
  refine k_get (T := TX6) hm hw 0 0 i6 rfl rfl (by decide) (by decide +kernel) rfl dX6_setSpiral_20 ?_
  refine k_iload_n hm hl 2 rfl dX6_setSpiral_23 ?_
  refine k_put (T := TX4) hm hw 1 5 (wMain G o P h T L M ++ (wPiece G P gk gw gt gy R b ++ wHist G h hs Q ak2_2 aw2_3 au2_4 ay2_5 aR2_6 aS2_7 ((nx + 1) % 4) (Nat.min (sz + 1) 4))) i4 tyX4 tyX4_ok nmX4 rfl rfl (by decide) (by decide +kernel) rfl (tyX4_ok 5 (by decide)) (kN_bool _) (kF_bool _) (Nat.le_of_ble_eq_true rfl) rfl dX6_setSpiral_24 (fun H locs hw => ?_)
  refine k_iload_n hm hl 0 rfl dX6_setSpiral_27 ?_
  exact k_iret (post := _) hm hQ rfl (kN_bool sp) hw (⟨_, _, _, _, _, _, rfl, rfl, hho2⟩) (by omega) (by omega) dX6_setSpiral_28
set_option maxHeartbeats 4000000 in
set_option maxRecDepth 100000 in
theorem c_undo_ok (l : Launch) (G : kG) (o : Nat) (T : Nat → Nat) (L : Nat → Nat) (M : Nat → Nat) (P : Nat → Nat) (gk : Nat → Nat) (gw : Nat → Nat) (gt : Nat → Nat) (gy : Nat → Nat) (R : Nat) (sp : Bool) (h : Nat) (hs : Nat) (Q : Nat → Nat → Nat) (ak : Nat → Nat → Nat) (aw : Nat → Nat → Nat) (au : Nat → Nat → Nat) (ay : Nat → Nat → Nat) (aR : Nat → Nat) (aS : Nat → Bool) (nx : Nat) (sz : Nat) (sv : Nat → PSt) (hho : HOk ak aw au ay aR aS nx sz sv) (h0 : 0 < sz) : kCM l yX6_undo wsX6_undo 4 90 0 0 G [.ref (o)] (wMain G o P h T L M ++ (wPiece G P gk gw gt gy R sp ++ wHist G h hs Q ak aw au ay aR aS nx sz)) (fun vv uu => ∃ (gk2 : Nat → Nat), ∃ (gw2 : Nat → Nat), ∃ (gt2 : Nat → Nat), ∃ (gy2 : Nat → Nat), vv = some (vN (sz - 1)) ∧ uu = wMain G o P h T L M ++ (wPiece G P gk2 gw2 gt2 gy2 ((sv 0).1) ((sv 0).2.1) ++ wHist G h hs Q ak aw au ay aR aS ((nx + 4 - 1) % 4) (sz - 1)) ∧ (POk gk2 gw2 gt2 gy2 (sv 0).1 (sv 0).2.2.1 (sv 0).2.2.2.1 (sv 0).2.2.2.2) ∧ (HOk ak aw au ay aR aS ((nx + 4 - 1) % 4) (sz - 1) (svPop sv))) := by
  refine kCM.of (cc := cX6_undo) (maxL := 1) (ret := (some .int)) (by decide) rfl (Nat.le_of_ble_eq_true rfl) ?_
  intro p e s m args below meth c A ls Qz hQ hin hm hw hl
  have hl : lv_has ls 1 [(0, .ref (o))] := hl
  have i0 : ∀ w ∈ wsX00, w ∈ wsX6_undo := by decide +kernel
  have i6 : ∀ w ∈ wsX60, w ∈ wsX6_undo := by decide +kernel
  have hsz := hho.2.1
  refine k_aload_n hm hl 0 rfl dX6_undo_0 ?_
  refine k_get (T := TX6) hm hw 0 1 i6 rfl rfl (by decide) (by decide +kernel) rfl dX6_undo_1 ?_
  refine k_get (T := TX0) hm hw 10 2 i0 rfl rfl (by decide) (by decide +kernel) rfl dX6_undo_4 ?_
  refine k_ifle (tgt := 14) hm dX6_undo_7 (by decide) (by omega) (fun c_1 => absurd c_1 (by omega)) (fun c_1 => ?_)
  refine k_iconstN hm 1 dX6_undo_10 ?_
  refine k_goto (tgt := 15) hm dX6_undo_11 (by decide) ?_
  refine k_callSr (n := 1) (As := [vN (1)]) (rest := []) hm hw hl (c_checkState_ok l G ) gX6_undo_X6_checkState rfl (by decide +kernel) ⟨by decide, by decide⟩ [] (by decide) rfl rfl rfl (by simp [Value.category]) ⟨by decide, by decide⟩ dX6_undo_15 (fun v H locs hp hw => ?_)
  obtain rfl := hp
  refine W.eq (g2 := F0 m 18 ls []) rfl ?_
  refine k_aload_n hm hl 0 rfl dX6_undo_18 ?_
  refine k_get (T := TX6) hm hw 0 1 i6 rfl rfl (by decide) (by decide +kernel) rfl dX6_undo_19 ?_
  refine k_aload_n hm hl 0 rfl dX6_undo_22 ?_
  refine k_get (T := TX6) hm hw 0 0 i6 rfl rfl (by decide) (by decide +kernel) rfl dX6_undo_23 ?_
  refine k_callV (n := 1) (As := [.ref (P 0)]) (rest := []) (wr := [(o, .inr (6, [.ref (P 0), .ref (h), .ref (T 0), .ref (L 0), .ref (M 0)]))]) hm hw hl (c_restore l G h hs Q ak aw au ay aR aS nx sz P gk gw gt gy R sp sv (by first | assumption | omega) (by first | assumption | omega)) gX6_undo_X0_restore rfl (by decide +kernel) ⟨by decide, by decide⟩ (ci := 0) rfl 10 rfl [10, 11, 12, 13, 14, 15, 16, 17, 18, 19, 20, 21, 22, 23, 24, 25, 26, 27, 28, 29, 30, 31, 32, 33, 34, 35, 36, 37, 38, 39, 40, 41, 42, 43, 44, 45, 46, 47, 1, 2, 3, 4, 5, 6, 7, 8, 9] [0] (by decide) rfl rfl (by decide) (by decide) rfl rfl (by simp [Value.category]) ⟨by decide, by decide⟩ dX6_undo_26 (fun v w1 H locs hp hw => ?_)
  obtain ⟨gk2_4, gw2_5, gt2_6, gy2_7, rfl, rfl, hok2_8, hho2_9⟩ := hp
  have hw := hw.sub (ws' := wMain G o P h T L M ++ (wPiece G P gk2_4 gw2_5 gt2_6 gy2_7 ((sv 0).1) ((sv 0).2.1) ++ wHist G h hs Q ak aw au ay aR aS ((nx + 4 - 1) % 4) (sz - 1))) [0, 39, 40, 41, 42, 43, 44, 45, 46, 47, 1, 2, 3, 4, 5, 6, 7, 8, 9, 10, 11, 12, 13, 14, 15, 16, 17, 18, 19, 20, 21, 22, 23, 24, 25, 26, 27, 28, 29, 30, 31, 32, 33, 34, 35, 36, 37, 38] (by decide) rfl
  refine W.eq (g2 := F0 m 29 ls []) rfl ?_
  refine k_aload_n hm hl 0 rfl dX6_undo_29 ?_
  refine k_get (T := TX6) hm hw 0 1 i6 rfl rfl (by decide) (by decide +kernel) rfl dX6_undo_30 ?_
  refine k_get (T := TX0) hm hw 10 2 i0 rfl rfl (by decide) (by decide +kernel) rfl dX6_undo_33 ?_
  exact k_iret (post := _) hm hQ rfl rfl hw (⟨_, _, _, _, rfl, rfl, hok2_8, hho2_9⟩) (by omega) (by omega) dX6_undo_36
set_option maxHeartbeats 4000000 in
set_option maxRecDepth 100000 in
theorem c_addRound_ok (l : Launch) (G : kG) (o : Nat) (T : Nat → Nat) (L : Nat → Nat) (M : Nat → Nat) (P : Nat → Nat) (gk : Nat → Nat) (gw : Nat → Nat) (gt : Nat → Nat) (gy : Nat → Nat) (R : Nat) (sp : Bool) (h : Nat) (hs : Nat) (Q : Nat → Nat → Nat) (ak : Nat → Nat → Nat) (aw : Nat → Nat → Nat) (au : Nat → Nat → Nat) (ay : Nat → Nat → Nat) (aR : Nat → Nat) (aS : Nat → Bool) (nx : Nat) (sz : Nat) (f : Nat → Nat) (wk : Nat) (sd : Nat) (kd : Nat) (mf : Nat → Nat) (K : Nat → Nat → Nat) (w : Nat → Nat) (y : Nat → Nat) (sv : Nat → PSt) (t : Nat) (hok : POk gk gw gt gy R K w y) (hho : HOk ak aw au ay aR aS nx sz sv) (hR40 : R < 40) (ht : 3 ≤ t ∧ t ≤ 120) (hpo : isPo (sumM (K (R - 1)) (w (R - 1))) t) : kCM l yX6_addRound wsX6_addRound 4 97 0 0 G [.ref (o), vN (t)] (wMain G o P h T L M ++ (wPiece G P gk gw gt gy R sp ++ (wHist G h hs Q ak aw au ay aR aS nx sz ++ (wPlan G L f wk sd kd ++ wMk G M mf)))) (fun vv uu => ∃ (b : Nat), ∃ (gk2 : Nat → Nat), ∃ (gw2 : Nat → Nat), ∃ (gt2 : Nat → Nat), ∃ (ak2 : Nat → Nat → Nat), ∃ (aw2 : Nat → Nat → Nat), ∃ (au2 : Nat → Nat → Nat), ∃ (ay2 : Nat → Nat → Nat), ∃ (aR2 : Nat → Nat), ∃ (aS2 : Nat → Bool), ∃ (f2 : Nat → Nat), ∃ (mf2 : Nat → Nat), vv = some (vN (b)) ∧ uu = wMain G o P h T L M ++ (wPiece G P gk2 gw2 gt2 gy (R + 1) sp ++ (wHist G h hs Q ak2 aw2 au2 ay2 aR2 aS2 ((nx + 1) % 4) (Nat.min (sz + 1) 4) ++ (wPlan G L f2 (pm (sumM (K (R - 1)) (w (R - 1))) t) (pd (sumM (K (R - 1)) (w (R - 1))) t) (pk (sumM (K (R - 1)) (w (R - 1))) t) ++ wMk G M mf2))) ∧ (isBst (stkC (K (R - 1)) (w (R - 1)) (sumM (K (R - 1)) (w (R - 1))) t) (pm (sumM (K (R - 1)) (w (R - 1))) t) b) ∧ (POk gk2 gw2 gt2 gy (R + 1) (fup K R (spR (sumM (K (R - 1)) (w (R - 1))) t b)) (fup w R (pm (sumM (K (R - 1)) (w (R - 1))) t)) y) ∧ (HOk ak2 aw2 au2 ay2 aR2 aS2 ((nx + 1) % 4) (Nat.min (sz + 1) 4) (svPush (R, sp, K, w, y) sv))) := by
  refine kCM.of (cc := cX6_addRound) (maxL := 2) (ret := (some .int)) (by decide) rfl (Nat.le_of_ble_eq_true rfl) ?_
  intro p e s m args below meth c A ls Qz hQ hin hm hw hl
  have hl : lv_has ls 2 [(0, .ref (o)), (1, vN (t))] := hl
  have i6 : ∀ w ∈ wsX60, w ∈ wsX6_addRound := by decide +kernel
  have hll := PVd_last hok.1
  have hR := hok.1.1
  refine k_iload_n hm hl 1 rfl dX6_addRound_0 ?_
  refine k_callSr (n := 1) (As := [vN (t)]) (rest := []) hm hw hl (c_isGoal l G ((t : Nat) : Int) (by first | assumption | omega)) gX6_addRound_X6_isGoal rfl (by decide +kernel) ⟨by decide, by decide⟩ [] (by decide) rfl rfl rfl (by simp [Value.category]) ⟨by decide, by decide⟩ dX6_addRound_1 (fun v H locs hp hw => ?_)
  obtain rfl := hp
  refine W.eq (g2 := F0 m 4 ls [vB (decide (3 ≤ ((t : Nat) : Int) ∧ ((t : Nat) : Int) ≤ 120))]) rfl ?_
  refine k_rwV (y := vB (true)) (by rw [decide_eq_true (by omega)]) ?_
  refine k_callSr (n := 1) (As := [vB (true)]) (rest := []) hm hw hl (c_checkArgument_ok l G ) gX6_addRound_X6_checkArgument rfl (by decide +kernel) ⟨by decide, by decide⟩ [] (by decide) rfl rfl rfl (by simp [Value.category]) ⟨by decide, by decide⟩ dX6_addRound_4 (fun v H locs hp hw => ?_)
  obtain rfl := hp
  refine W.eq (g2 := F0 m 7 ls []) rfl ?_
  refine k_aload_n hm hl 0 rfl dX6_addRound_7 ?_
  refine k_callVr (n := 0) (As := []) (rest := []) hm hw hl (c_checkRoom_ok l G o h T L M P gk gw gt gy R sp (by first | assumption | omega)) gX6_addRound_X6_checkRoom rfl (by decide +kernel) ⟨by decide, by decide⟩ (ci := 6) rfl 0 rfl [0, 1, 2, 3, 4, 5, 6, 7, 8, 9] (by decide) rfl rfl rfl (by simp [Value.category]) ⟨by decide, by decide⟩ dX6_addRound_8 (fun v H locs hp hw => ?_)
  obtain rfl := hp
  refine W.eq (g2 := F0 m 11 ls []) rfl ?_
  refine k_aload_n hm hl 0 rfl dX6_addRound_11 ?_
  refine k_get (T := TX6) hm hw 0 3 i6 rfl rfl (by decide) (by decide +kernel) rfl dX6_addRound_12 ?_
  refine k_aload_n hm hl 0 rfl dX6_addRound_15 ?_
  refine k_get (T := TX6) hm hw 0 0 i6 rfl rfl (by decide) (by decide +kernel) rfl dX6_addRound_16 ?_
  refine k_callVr (n := 0) (As := []) (rest := [.ref (L 0)]) hm hw hl (c_lastTotal l G P gk gw gt gy R sp K w y (by first | assumption | omega)) gX6_addRound_X4_lastTotal rfl (by decide +kernel) ⟨by decide, by decide⟩ (ci := 4) rfl 1 rfl [1, 2, 3, 4, 5, 6, 7, 8, 9] (by decide) rfl rfl rfl (by simp [Value.category]) ⟨by decide, by decide⟩ dX6_addRound_19 (fun v H locs hp hw => ?_)
  obtain rfl := hp
  refine W.eq (g2 := F0 m 22 ls [vN (sumM (K (R - 1)) (w (R - 1))), .ref (L 0)]) rfl ?_
  refine k_iload_n hm hl 1 rfl dX6_addRound_22 ?_
  refine k_callV (n := 2) (As := [vN (sumM (K (R - 1)) (w (R - 1))), vN (t)]) (rest := []) (wr := [(o, .inr (6, [.ref (P 0), .ref (h), .ref (T 0), .ref (L 0), .ref (M 0)])), (P 0, .inr (4, [.ref (P 1), .ref (P 3), .ref (P 5), .ref (P 7), vN (R), vB (sp)])), (P 1, .inr (2, [.ref (P 2)])), (P 2, .inl (G.2 0, 4800, .inl (nF gk))), (P 3, .inr (2, [.ref (P 4)])), (P 4, .inl (G.2 0, 40, .inl (nF gw))), (P 5, .inr (2, [.ref (P 6)])), (P 6, .inl (G.2 0, 40, .inl (nF gt))), (P 7, .inr (2, [.ref (P 8)])), (P 8, .inl (G.2 0, 3, .inl (nF gy))), (h, .inr (0, [.ref (hs), vN (nx), vN (sz)])), (hs, .inl (G.2 2, 4, .inr (.inr (.inr (.inr (fun j => some (Q j 0))))))), ((Q 0) 0, .inr (4, [.ref ((Q 0) 1), .ref ((Q 0) 3), .ref ((Q 0) 5), .ref ((Q 0) 7), vN (aR 0), vB (aS 0)])), ((Q 0) 1, .inr (2, [.ref ((Q 0) 2)])), ((Q 0) 2, .inl (G.2 0, 4800, .inl (nF (ak 0)))), ((Q 0) 3, .inr (2, [.ref ((Q 0) 4)])), ((Q 0) 4, .inl (G.2 0, 40, .inl (nF (aw 0)))), ((Q 0) 5, .inr (2, [.ref ((Q 0) 6)])), ((Q 0) 6, .inl (G.2 0, 40, .inl (nF (au 0)))), ((Q 0) 7, .inr (2, [.ref ((Q 0) 8)])), ((Q 0) 8, .inl (G.2 0, 3, .inl (nF (ay 0)))), ((Q 1) 0, .inr (4, [.ref ((Q 1) 1), .ref ((Q 1) 3), .ref ((Q 1) 5), .ref ((Q 1) 7), vN (aR 1), vB (aS 1)])), ((Q 1) 1, .inr (2, [.ref ((Q 1) 2)])), ((Q 1) 2, .inl (G.2 0, 4800, .inl (nF (ak 1)))), ((Q 1) 3, .inr (2, [.ref ((Q 1) 4)])), ((Q 1) 4, .inl (G.2 0, 40, .inl (nF (aw 1)))), ((Q 1) 5, .inr (2, [.ref ((Q 1) 6)])), ((Q 1) 6, .inl (G.2 0, 40, .inl (nF (au 1)))), ((Q 1) 7, .inr (2, [.ref ((Q 1) 8)])), ((Q 1) 8, .inl (G.2 0, 3, .inl (nF (ay 1)))), ((Q 2) 0, .inr (4, [.ref ((Q 2) 1), .ref ((Q 2) 3), .ref ((Q 2) 5), .ref ((Q 2) 7), vN (aR 2), vB (aS 2)])), ((Q 2) 1, .inr (2, [.ref ((Q 2) 2)])), ((Q 2) 2, .inl (G.2 0, 4800, .inl (nF (ak 2)))), ((Q 2) 3, .inr (2, [.ref ((Q 2) 4)])), ((Q 2) 4, .inl (G.2 0, 40, .inl (nF (aw 2)))), ((Q 2) 5, .inr (2, [.ref ((Q 2) 6)])), ((Q 2) 6, .inl (G.2 0, 40, .inl (nF (au 2)))), ((Q 2) 7, .inr (2, [.ref ((Q 2) 8)])), ((Q 2) 8, .inl (G.2 0, 3, .inl (nF (ay 2)))), ((Q 3) 0, .inr (4, [.ref ((Q 3) 1), .ref ((Q 3) 3), .ref ((Q 3) 5), .ref ((Q 3) 7), vN (aR 3), vB (aS 3)])), ((Q 3) 1, .inr (2, [.ref ((Q 3) 2)])), ((Q 3) 2, .inl (G.2 0, 4800, .inl (nF (ak 3)))), ((Q 3) 3, .inr (2, [.ref ((Q 3) 4)])), ((Q 3) 4, .inl (G.2 0, 40, .inl (nF (aw 3)))), ((Q 3) 5, .inr (2, [.ref ((Q 3) 6)])), ((Q 3) 6, .inl (G.2 0, 40, .inl (nF (au 3)))), ((Q 3) 7, .inr (2, [.ref ((Q 3) 8)])), ((Q 3) 8, .inl (G.2 0, 3, .inl (nF (ay 3)))), (M 0, .inr (1, [.ref (M 1)])), (M 1, .inr (2, [.ref (M 2)])), (M 2, .inl (G.2 0, 120, .inl (nF mf)))]) hm hw hl (c_spread l G L f wk sd kd (sumM (K (R - 1)) (w (R - 1))) t (by first | assumption | omega)) gX6_addRound_X5_spread rfl (by decide +kernel) ⟨by decide, by decide⟩ (ci := 5) rfl 48 rfl [48, 49, 50] [0, 1, 2, 3, 4, 5, 6, 7, 8, 9, 10, 11, 12, 13, 14, 15, 16, 17, 18, 19, 20, 21, 22, 23, 24, 25, 26, 27, 28, 29, 30, 31, 32, 33, 34, 35, 36, 37, 38, 39, 40, 41, 42, 43, 44, 45, 46, 47, 51, 52, 53] (by decide) rfl rfl (by decide) (by decide) rfl rfl (by simp [Value.category]) ⟨by decide, by decide⟩ dX6_addRound_23 (fun v w1 H locs hp hw => ?_)
  obtain ⟨b_6, f2_7, rfl, rfl, hb_8, hf_9⟩ := hp
  have hw := hw.sub (ws' := wMain G o P h T L M ++ (wPiece G P gk gw gt gy R sp ++ (wHist G h hs Q ak aw au ay aR aS nx sz ++ (wPlan G L f2_7 (pm (sumM (K (R - 1)) (w (R - 1))) t) (pd (sumM (K (R - 1)) (w (R - 1))) t) (pk (sumM (K (R - 1)) (w (R - 1))) t) ++ wMk G M mf)))) [0, 1, 2, 3, 4, 5, 6, 7, 8, 9, 10, 11, 12, 13, 14, 15, 16, 17, 18, 19, 20, 21, 22, 23, 24, 25, 26, 27, 28, 29, 30, 31, 32, 33, 34, 35, 36, 37, 38, 39, 40, 41, 42, 43, 44, 45, 46, 47, 51, 52, 53, 48, 49, 50] (by decide) rfl
  refine W.eq (g2 := F0 m 26 ls [vB (b_6)]) rfl ?_
  have hbs := hb_8
  have hfs := hf_9 hpo
  refine k_rwV (y := vB (true)) (by rw [hbs.mpr hpo]) ?_
  refine k_callSr (n := 1) (As := [vB (true)]) (rest := []) hm hw hl (c_checkPossible_ok l G ) gX6_addRound_X6_checkPossible rfl (by decide +kernel) ⟨by decide, by decide⟩ [] (by decide) rfl rfl rfl (by simp [Value.category]) ⟨by decide, by decide⟩ dX6_addRound_26 (fun v H locs hp hw => ?_)
  obtain rfl := hp
  refine W.eq (g2 := F0 m 29 ls []) rfl ?_
  refine k_aload_n hm hl 0 rfl dX6_addRound_29 ?_
  refine k_get (T := TX6) hm hw 0 1 i6 rfl rfl (by decide) (by decide +kernel) rfl dX6_addRound_30 ?_
  refine k_aload_n hm hl 0 rfl dX6_addRound_33 ?_
  refine k_get (T := TX6) hm hw 0 0 i6 rfl rfl (by decide) (by decide +kernel) rfl dX6_addRound_34 ?_
  refine k_callV (n := 1) (As := [.ref (P 0)]) (rest := []) (wr := [(o, .inr (6, [.ref (P 0), .ref (h), .ref (T 0), .ref (L 0), .ref (M 0)])), (L 0, .inr (5, [.ref (L 1), vN (pm (sumM (K (R - 1)) (w (R - 1))) t), vN (pd (sumM (K (R - 1)) (w (R - 1))) t), vN (pk (sumM (K (R - 1)) (w (R - 1))) t)])), (L 1, .inr (2, [.ref (L 2)])), (L 2, .inl (G.2 0, 120, .inl (nF f2_7))), (M 0, .inr (1, [.ref (M 1)])), (M 1, .inr (2, [.ref (M 2)])), (M 2, .inl (G.2 0, 120, .inl (nF mf)))]) hm hw hl (c_keep l G h hs Q ak aw au ay aR aS nx sz P gk gw gt gy R sp K w y sv (by first | assumption | omega) (by first | assumption | omega)) gX6_addRound_X0_keep rfl (by decide +kernel) ⟨by decide, by decide⟩ (ci := 0) rfl 10 rfl [10, 11, 12, 13, 14, 15, 16, 17, 18, 19, 20, 21, 22, 23, 24, 25, 26, 27, 28, 29, 30, 31, 32, 33, 34, 35, 36, 37, 38, 39, 40, 41, 42, 43, 44, 45, 46, 47, 1, 2, 3, 4, 5, 6, 7, 8, 9] [0, 48, 49, 50, 51, 52, 53] (by decide) rfl rfl (by decide) (by decide) rfl rfl (by simp [Value.category]) ⟨by decide, by decide⟩ dX6_addRound_37 (fun v w1 H locs hp hw => ?_)
  obtain ⟨ak2_12, aw2_13, au2_14, ay2_15, aR2_16, aS2_17, rfl, rfl, hho2_18⟩ := hp
  have hw := hw.sub (ws' := wMain G o P h T L M ++ (wPiece G P gk gw gt gy R sp ++ (wHist G h hs Q ak2_12 aw2_13 au2_14 ay2_15 aR2_16 aS2_17 ((nx + 1) % 4) (Nat.min (sz + 1) 4) ++ (wPlan G L f2_7 (pm (sumM (K (R - 1)) (w (R - 1))) t) (pd (sumM (K (R - 1)) (w (R - 1))) t) (pk (sumM (K (R - 1)) (w (R - 1))) t) ++ wMk G M mf)))) [0, 45, 46, 47, 48, 49, 50, 51, 52, 53, 7, 8, 9, 10, 11, 12, 13, 14, 15, 16, 17, 18, 19, 20, 21, 22, 23, 24, 25, 26, 27, 28, 29, 30, 31, 32, 33, 34, 35, 36, 37, 38, 39, 40, 41, 42, 43, 44, 1, 2, 3, 4, 5, 6] (by decide) rfl
  refine W.eq (g2 := F0 m 40 ls []) rfl ?_
  have hho2 := hho2_18
  refine k_aload_n hm hl 0 rfl dX6_addRound_40 ?_
  refine k_callV (n := 0) (As := []) (rest := []) (wr := [(h, .inr (0, [.ref (hs), vN ((nx + 1) % 4), vN (Nat.min (sz + 1) 4)])), (hs, .inl (G.2 2, 4, .inr (.inr (.inr (.inr (fun j => some (Q j 0))))))), ((Q 0) 0, .inr (4, [.ref ((Q 0) 1), .ref ((Q 0) 3), .ref ((Q 0) 5), .ref ((Q 0) 7), vN (aR2_16 0), vB (aS2_17 0)])), ((Q 0) 1, .inr (2, [.ref ((Q 0) 2)])), ((Q 0) 2, .inl (G.2 0, 4800, .inl (nF (ak2_12 0)))), ((Q 0) 3, .inr (2, [.ref ((Q 0) 4)])), ((Q 0) 4, .inl (G.2 0, 40, .inl (nF (aw2_13 0)))), ((Q 0) 5, .inr (2, [.ref ((Q 0) 6)])), ((Q 0) 6, .inl (G.2 0, 40, .inl (nF (au2_14 0)))), ((Q 0) 7, .inr (2, [.ref ((Q 0) 8)])), ((Q 0) 8, .inl (G.2 0, 3, .inl (nF (ay2_15 0)))), ((Q 1) 0, .inr (4, [.ref ((Q 1) 1), .ref ((Q 1) 3), .ref ((Q 1) 5), .ref ((Q 1) 7), vN (aR2_16 1), vB (aS2_17 1)])), ((Q 1) 1, .inr (2, [.ref ((Q 1) 2)])), ((Q 1) 2, .inl (G.2 0, 4800, .inl (nF (ak2_12 1)))), ((Q 1) 3, .inr (2, [.ref ((Q 1) 4)])), ((Q 1) 4, .inl (G.2 0, 40, .inl (nF (aw2_13 1)))), ((Q 1) 5, .inr (2, [.ref ((Q 1) 6)])), ((Q 1) 6, .inl (G.2 0, 40, .inl (nF (au2_14 1)))), ((Q 1) 7, .inr (2, [.ref ((Q 1) 8)])), ((Q 1) 8, .inl (G.2 0, 3, .inl (nF (ay2_15 1)))), ((Q 2) 0, .inr (4, [.ref ((Q 2) 1), .ref ((Q 2) 3), .ref ((Q 2) 5), .ref ((Q 2) 7), vN (aR2_16 2), vB (aS2_17 2)])), ((Q 2) 1, .inr (2, [.ref ((Q 2) 2)])), ((Q 2) 2, .inl (G.2 0, 4800, .inl (nF (ak2_12 2)))), ((Q 2) 3, .inr (2, [.ref ((Q 2) 4)])), ((Q 2) 4, .inl (G.2 0, 40, .inl (nF (aw2_13 2)))), ((Q 2) 5, .inr (2, [.ref ((Q 2) 6)])), ((Q 2) 6, .inl (G.2 0, 40, .inl (nF (au2_14 2)))), ((Q 2) 7, .inr (2, [.ref ((Q 2) 8)])), ((Q 2) 8, .inl (G.2 0, 3, .inl (nF (ay2_15 2)))), ((Q 3) 0, .inr (4, [.ref ((Q 3) 1), .ref ((Q 3) 3), .ref ((Q 3) 5), .ref ((Q 3) 7), vN (aR2_16 3), vB (aS2_17 3)])), ((Q 3) 1, .inr (2, [.ref ((Q 3) 2)])), ((Q 3) 2, .inl (G.2 0, 4800, .inl (nF (ak2_12 3)))), ((Q 3) 3, .inr (2, [.ref ((Q 3) 4)])), ((Q 3) 4, .inl (G.2 0, 40, .inl (nF (aw2_13 3)))), ((Q 3) 5, .inr (2, [.ref ((Q 3) 6)])), ((Q 3) 6, .inl (G.2 0, 40, .inl (nF (au2_14 3)))), ((Q 3) 7, .inr (2, [.ref ((Q 3) 8)])), ((Q 3) 8, .inl (G.2 0, 3, .inl (nF (ay2_15 3))))]) hm hw hl (c_addBest l G o h T M mf P gk gw gt gy R sp L f2_7 (pd (sumM (K (R - 1)) (w (R - 1))) t) (pk (sumM (K (R - 1)) (w (R - 1))) t) K w y (sumM (K (R - 1)) (w (R - 1))) t (by first | assumption | omega) (by first | assumption | omega) (by first | assumption | omega) rfl (by first | assumption | omega) hfs) gX6_addRound_X6_addBest rfl (by decide +kernel) ⟨by decide, by decide⟩ (ci := 6) rfl 0 rfl [0, 1, 2, 3, 4, 5, 6, 7, 8, 9, 48, 49, 50, 51, 52, 53] [10, 11, 12, 13, 14, 15, 16, 17, 18, 19, 20, 21, 22, 23, 24, 25, 26, 27, 28, 29, 30, 31, 32, 33, 34, 35, 36, 37, 38, 39, 40, 41, 42, 43, 44, 45, 46, 47] (by decide) rfl rfl (by decide) (by decide) rfl rfl (by simp [Value.category]) ⟨by decide, by decide⟩ dX6_addRound_41 (fun v w1 H locs hp hw => ?_)
  obtain ⟨b_20, gk2_21, gw2_22, gt2_23, mf2_24, rfl, rfl, hb_25, hok2_26⟩ := hp
  have hw := hw.sub (ws' := wMain G o P h T L M ++ (wPiece G P gk2_21 gw2_22 gt2_23 gy (R + 1) sp ++ (wHist G h hs Q ak2_12 aw2_13 au2_14 ay2_15 aR2_16 aS2_17 ((nx + 1) % 4) (Nat.min (sz + 1) 4) ++ (wPlan G L f2_7 (pm (sumM (K (R - 1)) (w (R - 1))) t) (pd (sumM (K (R - 1)) (w (R - 1))) t) (pk (sumM (K (R - 1)) (w (R - 1))) t) ++ wMk G M mf2_24)))) [38, 39, 40, 41, 42, 43, 44, 45, 46, 47, 0, 1, 2, 3, 4, 5, 6, 7, 8, 9, 10, 11, 12, 13, 14, 15, 16, 17, 18, 19, 20, 21, 22, 23, 24, 25, 26, 27, 28, 29, 30, 31, 32, 33, 34, 35, 36, 37, 48, 49, 50, 51, 52, 53] (by decide) rfl
  refine W.eq (g2 := F0 m 44 ls [vN (b_20)]) rfl ?_
  exact k_iret (post := _) hm hQ rfl rfl hw (⟨_, _, _, _, _, _, _, _, _, _, _, _, rfl, rfl, hb_25, hok2_26, hho2⟩) (by omega) (by omega) dX6_addRound_44
set_option maxHeartbeats 4000000 in
set_option maxRecDepth 100000 in
theorem c_addShifted_ok (l : Launch) (G : kG) (o : Nat) (T : Nat → Nat) (L : Nat → Nat) (M : Nat → Nat) (P : Nat → Nat) (gk : Nat → Nat) (gw : Nat → Nat) (gt : Nat → Nat) (gy : Nat → Nat) (R : Nat) (sp : Bool) (h : Nat) (hs : Nat) (Q : Nat → Nat → Nat) (ak : Nat → Nat → Nat) (aw : Nat → Nat → Nat) (au : Nat → Nat → Nat) (ay : Nat → Nat → Nat) (aR : Nat → Nat) (aS : Nat → Bool) (nx : Nat) (sz : Nat) (f : Nat → Nat) (wk : Nat) (sd : Nat) (kd : Nat) (mf : Nat → Nat) (K : Nat → Nat → Nat) (w : Nat → Nat) (y : Nat → Nat) (sv : Nat → PSt) (t : Nat) (x : Nat) (hok : POk gk gw gt gy R K w y) (hho : HOk ak aw au ay aR aS nx sz sv) (hR40 : R < 40) (ht : 3 ≤ t ∧ t ≤ 120) (hpo : isPo (sumM (K (R - 1)) (w (R - 1))) t) (hx : x < 120) : kCM l yX6_addShifted wsX6_addShifted 4 90 0 0 G [.ref (o), vN (t), vN (x)] (wMain G o P h T L M ++ (wPiece G P gk gw gt gy R sp ++ (wHist G h hs Q ak aw au ay aR aS nx sz ++ (wPlan G L f wk sd kd ++ wMk G M mf)))) (fun vv uu => ∃ (gk2 : Nat → Nat), ∃ (gw2 : Nat → Nat), ∃ (gt2 : Nat → Nat), ∃ (ak2 : Nat → Nat → Nat), ∃ (aw2 : Nat → Nat → Nat), ∃ (au2 : Nat → Nat → Nat), ∃ (ay2 : Nat → Nat → Nat), ∃ (aR2 : Nat → Nat), ∃ (aS2 : Nat → Bool), ∃ (f2 : Nat → Nat), ∃ (mf2 : Nat → Nat), vv = some (vN (stkC (K (R - 1)) (w (R - 1)) (sumM (K (R - 1)) (w (R - 1))) t x)) ∧ uu = wMain G o P h T L M ++ (wPiece G P gk2 gw2 gt2 gy (R + 1) sp ++ (wHist G h hs Q ak2 aw2 au2 ay2 aR2 aS2 ((nx + 1) % 4) (Nat.min (sz + 1) 4) ++ (wPlan G L f2 (pm (sumM (K (R - 1)) (w (R - 1))) t) (pd (sumM (K (R - 1)) (w (R - 1))) t) (pk (sumM (K (R - 1)) (w (R - 1))) t) ++ wMk G M mf2))) ∧ (POk gk2 gw2 gt2 gy (R + 1) (fup K R (spR (sumM (K (R - 1)) (w (R - 1))) t x)) (fup w R (pm (sumM (K (R - 1)) (w (R - 1))) t)) y) ∧ (HOk ak2 aw2 au2 ay2 aR2 aS2 ((nx + 1) % 4) (Nat.min (sz + 1) 4) (svPush (R, sp, K, w, y) sv))) := by
  refine kCM.of (cc := cX6_addShifted) (maxL := 3) (ret := (some .int)) (by decide) rfl (Nat.le_of_ble_eq_true rfl) ?_
  intro p e s m args below meth c A ls Qz hQ hin hm hw hl
  have hl : lv_has ls 3 [(0, .ref (o)), (1, vN (t)), (2, vN (x))] := hl
  have i6 : ∀ w ∈ wsX60, w ∈ wsX6_addShifted := by decide +kernel
  have hll := PVd_last hok.1
  have hR := hok.1.1
  refine k_iload_n hm hl 1 rfl dX6_addShifted_0 ?_
  refine k_callSr (n := 1) (As := [vN (t)]) (rest := []) hm hw hl (c_isGoal l G ((t : Nat) : Int) (by first | assumption | omega)) gX6_addShifted_X6_isGoal rfl (by decide +kernel) ⟨by decide, by decide⟩ [] (by decide) rfl rfl rfl (by simp [Value.category]) ⟨by decide, by decide⟩ dX6_addShifted_1 (fun v H locs hp hw => ?_)
  obtain rfl := hp
  refine W.eq (g2 := F0 m 4 ls [vB (decide (3 ≤ ((t : Nat) : Int) ∧ ((t : Nat) : Int) ≤ 120))]) rfl ?_
  refine k_rwV (y := vB (true)) (by rw [decide_eq_true (by omega)]) ?_
  refine k_ifeqB (tgt := 18) hm dX6_addShifted_4 (by decide) (fun c_2 => absurd c_2 (by decide)) (fun _ => ?_)
  refine k_iload_n hm hl 2 rfl dX6_addShifted_7 ?_
  refine k_callSr (n := 1) (As := [vN (x)]) (rest := []) hm hw hl (c_isShift l G ((x : Nat) : Int) (by first | assumption | omega)) gX6_addShifted_X6_isShift rfl (by decide +kernel) ⟨by decide, by decide⟩ [] (by decide) rfl rfl rfl (by simp [Value.category]) ⟨by decide, by decide⟩ dX6_addShifted_8 (fun v H locs hp hw => ?_)
  obtain rfl := hp
  refine W.eq (g2 := F0 m 11 ls [vB (decide (0 ≤ ((x : Nat) : Int) ∧ ((x : Nat) : Int) < 120))]) rfl ?_
  refine k_rwV (y := vB (true)) (by rw [decide_eq_true (by omega)]) ?_
  refine k_ifeqB (tgt := 18) hm dX6_addShifted_11 (by decide) (fun c_4 => absurd c_4 (by decide)) (fun _ => ?_)
  refine k_iconstN hm 1 dX6_addShifted_14 ?_
  refine k_goto (tgt := 19) hm dX6_addShifted_15 (by decide) ?_
  refine k_callSr (n := 1) (As := [vN (1)]) (rest := []) hm hw hl (c_checkArgument_ok l G ) gX6_addShifted_X6_checkArgument rfl (by decide +kernel) ⟨by decide, by decide⟩ [] (by decide) rfl rfl rfl (by simp [Value.category]) ⟨by decide, by decide⟩ dX6_addShifted_19 (fun v H locs hp hw => ?_)
  obtain rfl := hp
  refine W.eq (g2 := F0 m 22 ls []) rfl ?_
  refine k_aload_n hm hl 0 rfl dX6_addShifted_22 ?_
  refine k_callVr (n := 0) (As := []) (rest := []) hm hw hl (c_checkRoom_ok l G o h T L M P gk gw gt gy R sp (by first | assumption | omega)) gX6_addShifted_X6_checkRoom rfl (by decide +kernel) ⟨by decide, by decide⟩ (ci := 6) rfl 0 rfl [0, 1, 2, 3, 4, 5, 6, 7, 8, 9] (by decide) rfl rfl rfl (by simp [Value.category]) ⟨by decide, by decide⟩ dX6_addShifted_23 (fun v H locs hp hw => ?_)
  obtain rfl := hp
  refine W.eq (g2 := F0 m 26 ls []) rfl ?_
  refine k_aload_n hm hl 0 rfl dX6_addShifted_26 ?_
  refine k_get (T := TX6) hm hw 0 3 i6 rfl rfl (by decide) (by decide +kernel) rfl dX6_addShifted_27 ?_
  refine k_aload_n hm hl 0 rfl dX6_addShifted_30 ?_
  refine k_get (T := TX6) hm hw 0 0 i6 rfl rfl (by decide) (by decide +kernel) rfl dX6_addShifted_31 ?_
  refine k_callVr (n := 0) (As := []) (rest := [.ref (L 0)]) hm hw hl (c_lastTotal l G P gk gw gt gy R sp K w y (by first | assumption | omega)) gX6_addShifted_X4_lastTotal rfl (by decide +kernel) ⟨by decide, by decide⟩ (ci := 4) rfl 1 rfl [1, 2, 3, 4, 5, 6, 7, 8, 9] (by decide) rfl rfl rfl (by simp [Value.category]) ⟨by decide, by decide⟩ dX6_addShifted_34 (fun v H locs hp hw => ?_)
  obtain rfl := hp
  refine W.eq (g2 := F0 m 37 ls [vN (sumM (K (R - 1)) (w (R - 1))), .ref (L 0)]) rfl ?_
  refine k_iload_n hm hl 1 rfl dX6_addShifted_37 ?_
  refine k_callV (n := 2) (As := [vN (sumM (K (R - 1)) (w (R - 1))), vN (t)]) (rest := []) (wr := [(o, .inr (6, [.ref (P 0), .ref (h), .ref (T 0), .ref (L 0), .ref (M 0)])), (P 0, .inr (4, [.ref (P 1), .ref (P 3), .ref (P 5), .ref (P 7), vN (R), vB (sp)])), (P 1, .inr (2, [.ref (P 2)])), (P 2, .inl (G.2 0, 4800, .inl (nF gk))), (P 3, .inr (2, [.ref (P 4)])), (P 4, .inl (G.2 0, 40, .inl (nF gw))), (P 5, .inr (2, [.ref (P 6)])), (P 6, .inl (G.2 0, 40, .inl (nF gt))), (P 7, .inr (2, [.ref (P 8)])), (P 8, .inl (G.2 0, 3, .inl (nF gy))), (h, .inr (0, [.ref (hs), vN (nx), vN (sz)])), (hs, .inl (G.2 2, 4, .inr (.inr (.inr (.inr (fun j => some (Q j 0))))))), ((Q 0) 0, .inr (4, [.ref ((Q 0) 1), .ref ((Q 0) 3), .ref ((Q 0) 5), .ref ((Q 0) 7), vN (aR 0), vB (aS 0)])), ((Q 0) 1, .inr (2, [.ref ((Q 0) 2)])), ((Q 0) 2, .inl (G.2 0, 4800, .inl (nF (ak 0)))), ((Q 0) 3, .inr (2, [.ref ((Q 0) 4)])), ((Q 0) 4, .inl (G.2 0, 40, .inl (nF (aw 0)))), ((Q 0) 5, .inr (2, [.ref ((Q 0) 6)])), ((Q 0) 6, .inl (G.2 0, 40, .inl (nF (au 0)))), ((Q 0) 7, .inr (2, [.ref ((Q 0) 8)])), ((Q 0) 8, .inl (G.2 0, 3, .inl (nF (ay 0)))), ((Q 1) 0, .inr (4, [.ref ((Q 1) 1), .ref ((Q 1) 3), .ref ((Q 1) 5), .ref ((Q 1) 7), vN (aR 1), vB (aS 1)])), ((Q 1) 1, .inr (2, [.ref ((Q 1) 2)])), ((Q 1) 2, .inl (G.2 0, 4800, .inl (nF (ak 1)))), ((Q 1) 3, .inr (2, [.ref ((Q 1) 4)])), ((Q 1) 4, .inl (G.2 0, 40, .inl (nF (aw 1)))), ((Q 1) 5, .inr (2, [.ref ((Q 1) 6)])), ((Q 1) 6, .inl (G.2 0, 40, .inl (nF (au 1)))), ((Q 1) 7, .inr (2, [.ref ((Q 1) 8)])), ((Q 1) 8, .inl (G.2 0, 3, .inl (nF (ay 1)))), ((Q 2) 0, .inr (4, [.ref ((Q 2) 1), .ref ((Q 2) 3), .ref ((Q 2) 5), .ref ((Q 2) 7), vN (aR 2), vB (aS 2)])), ((Q 2) 1, .inr (2, [.ref ((Q 2) 2)])), ((Q 2) 2, .inl (G.2 0, 4800, .inl (nF (ak 2)))), ((Q 2) 3, .inr (2, [.ref ((Q 2) 4)])), ((Q 2) 4, .inl (G.2 0, 40, .inl (nF (aw 2)))), ((Q 2) 5, .inr (2, [.ref ((Q 2) 6)])), ((Q 2) 6, .inl (G.2 0, 40, .inl (nF (au 2)))), ((Q 2) 7, .inr (2, [.ref ((Q 2) 8)])), ((Q 2) 8, .inl (G.2 0, 3, .inl (nF (ay 2)))), ((Q 3) 0, .inr (4, [.ref ((Q 3) 1), .ref ((Q 3) 3), .ref ((Q 3) 5), .ref ((Q 3) 7), vN (aR 3), vB (aS 3)])), ((Q 3) 1, .inr (2, [.ref ((Q 3) 2)])), ((Q 3) 2, .inl (G.2 0, 4800, .inl (nF (ak 3)))), ((Q 3) 3, .inr (2, [.ref ((Q 3) 4)])), ((Q 3) 4, .inl (G.2 0, 40, .inl (nF (aw 3)))), ((Q 3) 5, .inr (2, [.ref ((Q 3) 6)])), ((Q 3) 6, .inl (G.2 0, 40, .inl (nF (au 3)))), ((Q 3) 7, .inr (2, [.ref ((Q 3) 8)])), ((Q 3) 8, .inl (G.2 0, 3, .inl (nF (ay 3)))), (M 0, .inr (1, [.ref (M 1)])), (M 1, .inr (2, [.ref (M 2)])), (M 2, .inl (G.2 0, 120, .inl (nF mf)))]) hm hw hl (c_spread l G L f wk sd kd (sumM (K (R - 1)) (w (R - 1))) t (by first | assumption | omega)) gX6_addShifted_X5_spread rfl (by decide +kernel) ⟨by decide, by decide⟩ (ci := 5) rfl 48 rfl [48, 49, 50] [0, 1, 2, 3, 4, 5, 6, 7, 8, 9, 10, 11, 12, 13, 14, 15, 16, 17, 18, 19, 20, 21, 22, 23, 24, 25, 26, 27, 28, 29, 30, 31, 32, 33, 34, 35, 36, 37, 38, 39, 40, 41, 42, 43, 44, 45, 46, 47, 51, 52, 53] (by decide) rfl rfl (by decide) (by decide) rfl rfl (by simp [Value.category]) ⟨by decide, by decide⟩ dX6_addShifted_38 (fun v w1 H locs hp hw => ?_)
  obtain ⟨b_9, f2_10, rfl, rfl, hb_11, hf_12⟩ := hp
  have hw := hw.sub (ws' := wMain G o P h T L M ++ (wPiece G P gk gw gt gy R sp ++ (wHist G h hs Q ak aw au ay aR aS nx sz ++ (wPlan G L f2_10 (pm (sumM (K (R - 1)) (w (R - 1))) t) (pd (sumM (K (R - 1)) (w (R - 1))) t) (pk (sumM (K (R - 1)) (w (R - 1))) t) ++ wMk G M mf)))) [0, 1, 2, 3, 4, 5, 6, 7, 8, 9, 10, 11, 12, 13, 14, 15, 16, 17, 18, 19, 20, 21, 22, 23, 24, 25, 26, 27, 28, 29, 30, 31, 32, 33, 34, 35, 36, 37, 38, 39, 40, 41, 42, 43, 44, 45, 46, 47, 51, 52, 53, 48, 49, 50] (by decide) rfl
  refine W.eq (g2 := F0 m 41 ls [vB (b_9)]) rfl ?_
  have hbs := hb_11
  have hfs := hf_12 hpo
  refine k_rwV (y := vB (true)) (by rw [hbs.mpr hpo]) ?_
  refine k_callSr (n := 1) (As := [vB (true)]) (rest := []) hm hw hl (c_checkPossible_ok l G ) gX6_addShifted_X6_checkPossible rfl (by decide +kernel) ⟨by decide, by decide⟩ [] (by decide) rfl rfl rfl (by simp [Value.category]) ⟨by decide, by decide⟩ dX6_addShifted_41 (fun v H locs hp hw => ?_)
  obtain rfl := hp
  refine W.eq (g2 := F0 m 44 ls []) rfl ?_
  refine k_aload_n hm hl 0 rfl dX6_addShifted_44 ?_
  refine k_get (T := TX6) hm hw 0 1 i6 rfl rfl (by decide) (by decide +kernel) rfl dX6_addShifted_45 ?_
  refine k_aload_n hm hl 0 rfl dX6_addShifted_48 ?_
  refine k_get (T := TX6) hm hw 0 0 i6 rfl rfl (by decide) (by decide +kernel) rfl dX6_addShifted_49 ?_
  refine k_callV (n := 1) (As := [.ref (P 0)]) (rest := []) (wr := [(o, .inr (6, [.ref (P 0), .ref (h), .ref (T 0), .ref (L 0), .ref (M 0)])), (L 0, .inr (5, [.ref (L 1), vN (pm (sumM (K (R - 1)) (w (R - 1))) t), vN (pd (sumM (K (R - 1)) (w (R - 1))) t), vN (pk (sumM (K (R - 1)) (w (R - 1))) t)])), (L 1, .inr (2, [.ref (L 2)])), (L 2, .inl (G.2 0, 120, .inl (nF f2_10))), (M 0, .inr (1, [.ref (M 1)])), (M 1, .inr (2, [.ref (M 2)])), (M 2, .inl (G.2 0, 120, .inl (nF mf)))]) hm hw hl (c_keep l G h hs Q ak aw au ay aR aS nx sz P gk gw gt gy R sp K w y sv (by first | assumption | omega) (by first | assumption | omega)) gX6_addShifted_X0_keep rfl (by decide +kernel) ⟨by decide, by decide⟩ (ci := 0) rfl 10 rfl [10, 11, 12, 13, 14, 15, 16, 17, 18, 19, 20, 21, 22, 23, 24, 25, 26, 27, 28, 29, 30, 31, 32, 33, 34, 35, 36, 37, 38, 39, 40, 41, 42, 43, 44, 45, 46, 47, 1, 2, 3, 4, 5, 6, 7, 8, 9] [0, 48, 49, 50, 51, 52, 53] (by decide) rfl rfl (by decide) (by decide) rfl rfl (by simp [Value.category]) ⟨by decide, by decide⟩ dX6_addShifted_52 (fun v w1 H locs hp hw => ?_)
  obtain ⟨ak2_15, aw2_16, au2_17, ay2_18, aR2_19, aS2_20, rfl, rfl, hho2_21⟩ := hp
  have hw := hw.sub (ws' := wMain G o P h T L M ++ (wPiece G P gk gw gt gy R sp ++ (wHist G h hs Q ak2_15 aw2_16 au2_17 ay2_18 aR2_19 aS2_20 ((nx + 1) % 4) (Nat.min (sz + 1) 4) ++ (wPlan G L f2_10 (pm (sumM (K (R - 1)) (w (R - 1))) t) (pd (sumM (K (R - 1)) (w (R - 1))) t) (pk (sumM (K (R - 1)) (w (R - 1))) t) ++ wMk G M mf)))) [0, 45, 46, 47, 48, 49, 50, 51, 52, 53, 7, 8, 9, 10, 11, 12, 13, 14, 15, 16, 17, 18, 19, 20, 21, 22, 23, 24, 25, 26, 27, 28, 29, 30, 31, 32, 33, 34, 35, 36, 37, 38, 39, 40, 41, 42, 43, 44, 1, 2, 3, 4, 5, 6] (by decide) rfl
  refine W.eq (g2 := F0 m 55 ls []) rfl ?_
  have hho2 := hho2_21
  refine k_aload_n hm hl 0 rfl dX6_addShifted_55 ?_
  refine k_iload_n hm hl 2 rfl dX6_addShifted_56 ?_
  refine k_callV (n := 1) (As := [vN (x)]) (rest := []) (wr := [(h, .inr (0, [.ref (hs), vN ((nx + 1) % 4), vN (Nat.min (sz + 1) 4)])), (hs, .inl (G.2 2, 4, .inr (.inr (.inr (.inr (fun j => some (Q j 0))))))), ((Q 0) 0, .inr (4, [.ref ((Q 0) 1), .ref ((Q 0) 3), .ref ((Q 0) 5), .ref ((Q 0) 7), vN (aR2_19 0), vB (aS2_20 0)])), ((Q 0) 1, .inr (2, [.ref ((Q 0) 2)])), ((Q 0) 2, .inl (G.2 0, 4800, .inl (nF (ak2_15 0)))), ((Q 0) 3, .inr (2, [.ref ((Q 0) 4)])), ((Q 0) 4, .inl (G.2 0, 40, .inl (nF (aw2_16 0)))), ((Q 0) 5, .inr (2, [.ref ((Q 0) 6)])), ((Q 0) 6, .inl (G.2 0, 40, .inl (nF (au2_17 0)))), ((Q 0) 7, .inr (2, [.ref ((Q 0) 8)])), ((Q 0) 8, .inl (G.2 0, 3, .inl (nF (ay2_18 0)))), ((Q 1) 0, .inr (4, [.ref ((Q 1) 1), .ref ((Q 1) 3), .ref ((Q 1) 5), .ref ((Q 1) 7), vN (aR2_19 1), vB (aS2_20 1)])), ((Q 1) 1, .inr (2, [.ref ((Q 1) 2)])), ((Q 1) 2, .inl (G.2 0, 4800, .inl (nF (ak2_15 1)))), ((Q 1) 3, .inr (2, [.ref ((Q 1) 4)])), ((Q 1) 4, .inl (G.2 0, 40, .inl (nF (aw2_16 1)))), ((Q 1) 5, .inr (2, [.ref ((Q 1) 6)])), ((Q 1) 6, .inl (G.2 0, 40, .inl (nF (au2_17 1)))), ((Q 1) 7, .inr (2, [.ref ((Q 1) 8)])), ((Q 1) 8, .inl (G.2 0, 3, .inl (nF (ay2_18 1)))), ((Q 2) 0, .inr (4, [.ref ((Q 2) 1), .ref ((Q 2) 3), .ref ((Q 2) 5), .ref ((Q 2) 7), vN (aR2_19 2), vB (aS2_20 2)])), ((Q 2) 1, .inr (2, [.ref ((Q 2) 2)])), ((Q 2) 2, .inl (G.2 0, 4800, .inl (nF (ak2_15 2)))), ((Q 2) 3, .inr (2, [.ref ((Q 2) 4)])), ((Q 2) 4, .inl (G.2 0, 40, .inl (nF (aw2_16 2)))), ((Q 2) 5, .inr (2, [.ref ((Q 2) 6)])), ((Q 2) 6, .inl (G.2 0, 40, .inl (nF (au2_17 2)))), ((Q 2) 7, .inr (2, [.ref ((Q 2) 8)])), ((Q 2) 8, .inl (G.2 0, 3, .inl (nF (ay2_18 2)))), ((Q 3) 0, .inr (4, [.ref ((Q 3) 1), .ref ((Q 3) 3), .ref ((Q 3) 5), .ref ((Q 3) 7), vN (aR2_19 3), vB (aS2_20 3)])), ((Q 3) 1, .inr (2, [.ref ((Q 3) 2)])), ((Q 3) 2, .inl (G.2 0, 4800, .inl (nF (ak2_15 3)))), ((Q 3) 3, .inr (2, [.ref ((Q 3) 4)])), ((Q 3) 4, .inl (G.2 0, 40, .inl (nF (aw2_16 3)))), ((Q 3) 5, .inr (2, [.ref ((Q 3) 6)])), ((Q 3) 6, .inl (G.2 0, 40, .inl (nF (au2_17 3)))), ((Q 3) 7, .inr (2, [.ref ((Q 3) 8)])), ((Q 3) 8, .inl (G.2 0, 3, .inl (nF (ay2_18 3))))]) hm hw hl (c_addPlanned l G o h T M mf P gk gw gt gy R sp L f2_10 (pm (sumM (K (R - 1)) (w (R - 1))) t) (pd (sumM (K (R - 1)) (w (R - 1))) t) (pk (sumM (K (R - 1)) (w (R - 1))) t) K w y x (spR (sumM (K (R - 1)) (w (R - 1))) t x) (by first | assumption | omega) (by first | assumption | omega) (by have := pm_le (n := sumM (K (R - 1)) (w (R - 1))) (t := t) (by omega); omega) (by first | assumption | omega) (fun i q => ⟨(hfs _ (Nat.mod_lt _ (by have := pm_le (n := sumM (K (R - 1)) (w (R - 1))) (t := t) (by omega); omega))).symm, (spR_ok (by omega) hpo).1 i q⟩) (by rw [(spR_ok (by omega) hpo).2.2]; omega) (by rw [(spR_ok (by omega) hpo).2.1])) gX6_addShifted_X6_addPlanned rfl (by decide +kernel) ⟨by decide, by decide⟩ (ci := 6) rfl 0 rfl [0, 1, 2, 3, 4, 5, 6, 7, 8, 9, 48, 49, 50, 51, 52, 53] [10, 11, 12, 13, 14, 15, 16, 17, 18, 19, 20, 21, 22, 23, 24, 25, 26, 27, 28, 29, 30, 31, 32, 33, 34, 35, 36, 37, 38, 39, 40, 41, 42, 43, 44, 45, 46, 47] (by decide) rfl rfl (by decide) (by decide) rfl rfl (by simp [Value.category]) ⟨by decide, by decide⟩ dX6_addShifted_57 (fun v w1 H locs hp hw => ?_)
  obtain ⟨gk2_23, gw2_24, gt2_25, mf2_26, rfl, rfl, hok2_27⟩ := hp
  have hw := hw.sub (ws' := wMain G o P h T L M ++ (wPiece G P gk2_23 gw2_24 gt2_25 gy (R + 1) sp ++ (wHist G h hs Q ak2_15 aw2_16 au2_17 ay2_18 aR2_19 aS2_20 ((nx + 1) % 4) (Nat.min (sz + 1) 4) ++ (wPlan G L f2_10 (pm (sumM (K (R - 1)) (w (R - 1))) t) (pd (sumM (K (R - 1)) (w (R - 1))) t) (pk (sumM (K (R - 1)) (w (R - 1))) t) ++ wMk G M mf2_26)))) [38, 39, 40, 41, 42, 43, 44, 45, 46, 47, 0, 1, 2, 3, 4, 5, 6, 7, 8, 9, 10, 11, 12, 13, 14, 15, 16, 17, 18, 19, 20, 21, 22, 23, 24, 25, 26, 27, 28, 29, 30, 31, 32, 33, 34, 35, 36, 37, 48, 49, 50, 51, 52, 53] (by decide) rfl
  refine W.eq (g2 := F0 m 60 ls [vN (nstk (mkF (K (R - 1)) (w (R - 1))) (spR (sumM (K (R - 1)) (w (R - 1))) t x) (pm (sumM (K (R - 1)) (w (R - 1))) t))]) rfl ?_
  exact k_iret (post := _) hm hQ rfl rfl hw (⟨_, _, _, _, _, _, _, _, _, _, _, rfl, rfl, hok2_27, hho2⟩) (by omega) (by omega) dX6_addShifted_60
set_option maxHeartbeats 4000000 in
set_option maxRecDepth 100000 in
theorem c_addMirrored_ok (l : Launch) (G : kG) (o : Nat) (T : Nat → Nat) (L : Nat → Nat) (M : Nat → Nat) (P : Nat → Nat) (gk : Nat → Nat) (gw : Nat → Nat) (gt : Nat → Nat) (gy : Nat → Nat) (R : Nat) (sp : Bool) (h : Nat) (hs : Nat) (Q : Nat → Nat → Nat) (ak : Nat → Nat → Nat) (aw : Nat → Nat → Nat) (au : Nat → Nat → Nat) (ay : Nat → Nat → Nat) (aR : Nat → Nat) (aS : Nat → Bool) (nx : Nat) (sz : Nat) (f : Nat → Nat) (wk : Nat) (sd : Nat) (kd : Nat) (mf : Nat → Nat) (K : Nat → Nat → Nat) (w : Nat → Nat) (y : Nat → Nat) (sv : Nat → PSt) (t : Nat) (hok : POk gk gw gt gy R K w y) (hho : HOk ak aw au ay aR aS nx sz sv) (hR40 : R < 40) (ht : 3 ≤ t ∧ t ≤ 120) (hpo : isPo (sumM (K (R - 1)) (w (R - 1))) t ∧ ¬ (pd (sumM (K (R - 1)) (w (R - 1))) t % 2 = 1 ∧ pm (sumM (K (R - 1)) (w (R - 1))) t % 2 = 0)) : kCM l yX6_addMirrored wsX6_addMirrored 4 90 0 0 G [.ref (o), vN (t)] (wMain G o P h T L M ++ (wPiece G P gk gw gt gy R sp ++ (wHist G h hs Q ak aw au ay aR aS nx sz ++ (wPlan G L f wk sd kd ++ wMk G M mf)))) (fun vv uu => ∃ (gk2 : Nat → Nat), ∃ (gw2 : Nat → Nat), ∃ (gt2 : Nat → Nat), ∃ (ak2 : Nat → Nat → Nat), ∃ (aw2 : Nat → Nat → Nat), ∃ (au2 : Nat → Nat → Nat), ∃ (ay2 : Nat → Nat → Nat), ∃ (aR2 : Nat → Nat), ∃ (aS2 : Nat → Bool), ∃ (f2 : Nat → Nat), ∃ (mf2 : Nat → Nat), vv = some (vN (nstk (mkF (K (R - 1)) (w (R - 1))) (miR (sumM (K (R - 1)) (w (R - 1))) t) (pm (sumM (K (R - 1)) (w (R - 1))) t))) ∧ uu = wMain G o P h T L M ++ (wPiece G P gk2 gw2 gt2 gy (R + 1) sp ++ (wHist G h hs Q ak2 aw2 au2 ay2 aR2 aS2 ((nx + 1) % 4) (Nat.min (sz + 1) 4) ++ (wPlan G L f2 (pm (sumM (K (R - 1)) (w (R - 1))) t) (pd (sumM (K (R - 1)) (w (R - 1))) t) (pk (sumM (K (R - 1)) (w (R - 1))) t) ++ wMk G M mf2))) ∧ (POk gk2 gw2 gt2 gy (R + 1) (fup K R (miR (sumM (K (R - 1)) (w (R - 1))) t)) (fup w R (pm (sumM (K (R - 1)) (w (R - 1))) t)) y) ∧ (HOk ak2 aw2 au2 ay2 aR2 aS2 ((nx + 1) % 4) (Nat.min (sz + 1) 4) (svPush (R, sp, K, w, y) sv))) := by
  refine kCM.of (cc := cX6_addMirrored) (maxL := 2) (ret := (some .int)) (by decide) rfl (Nat.le_of_ble_eq_true rfl) ?_
  intro p e s m args below meth c A ls Qz hQ hin hm hw hl
  have hl : lv_has ls 2 [(0, .ref (o)), (1, vN (t))] := hl
  have i6 : ∀ w ∈ wsX60, w ∈ wsX6_addMirrored := by decide +kernel
  have hll := PVd_last hok.1
  have hR := hok.1.1
  refine k_iload_n hm hl 1 rfl dX6_addMirrored_0 ?_
  refine k_callSr (n := 1) (As := [vN (t)]) (rest := []) hm hw hl (c_isGoal l G ((t : Nat) : Int) (by first | assumption | omega)) gX6_addMirrored_X6_isGoal rfl (by decide +kernel) ⟨by decide, by decide⟩ [] (by decide) rfl rfl rfl (by simp [Value.category]) ⟨by decide, by decide⟩ dX6_addMirrored_1 (fun v H locs hp hw => ?_)
  obtain rfl := hp
  refine W.eq (g2 := F0 m 4 ls [vB (decide (3 ≤ ((t : Nat) : Int) ∧ ((t : Nat) : Int) ≤ 120))]) rfl ?_
  refine k_rwV (y := vB (true)) (by rw [decide_eq_true (by omega)]) ?_
  refine k_callSr (n := 1) (As := [vB (true)]) (rest := []) hm hw hl (c_checkArgument_ok l G ) gX6_addMirrored_X6_checkArgument rfl (by decide +kernel) ⟨by decide, by decide⟩ [] (by decide) rfl rfl rfl (by simp [Value.category]) ⟨by decide, by decide⟩ dX6_addMirrored_4 (fun v H locs hp hw => ?_)
  obtain rfl := hp
  refine W.eq (g2 := F0 m 7 ls []) rfl ?_
  refine k_aload_n hm hl 0 rfl dX6_addMirrored_7 ?_
  refine k_callVr (n := 0) (As := []) (rest := []) hm hw hl (c_checkRoom_ok l G o h T L M P gk gw gt gy R sp (by first | assumption | omega)) gX6_addMirrored_X6_checkRoom rfl (by decide +kernel) ⟨by decide, by decide⟩ (ci := 6) rfl 0 rfl [0, 1, 2, 3, 4, 5, 6, 7, 8, 9] (by decide) rfl rfl rfl (by simp [Value.category]) ⟨by decide, by decide⟩ dX6_addMirrored_8 (fun v H locs hp hw => ?_)
  obtain rfl := hp
  refine W.eq (g2 := F0 m 11 ls []) rfl ?_
  refine k_aload_n hm hl 0 rfl dX6_addMirrored_11 ?_
  refine k_get (T := TX6) hm hw 0 3 i6 rfl rfl (by decide) (by decide +kernel) rfl dX6_addMirrored_12 ?_
  refine k_aload_n hm hl 0 rfl dX6_addMirrored_15 ?_
  refine k_get (T := TX6) hm hw 0 0 i6 rfl rfl (by decide) (by decide +kernel) rfl dX6_addMirrored_16 ?_
  refine k_callVr (n := 0) (As := []) (rest := [.ref (L 0)]) hm hw hl (c_lastTotal l G P gk gw gt gy R sp K w y (by first | assumption | omega)) gX6_addMirrored_X4_lastTotal rfl (by decide +kernel) ⟨by decide, by decide⟩ (ci := 4) rfl 1 rfl [1, 2, 3, 4, 5, 6, 7, 8, 9] (by decide) rfl rfl rfl (by simp [Value.category]) ⟨by decide, by decide⟩ dX6_addMirrored_19 (fun v H locs hp hw => ?_)
  obtain rfl := hp
  refine W.eq (g2 := F0 m 22 ls [vN (sumM (K (R - 1)) (w (R - 1))), .ref (L 0)]) rfl ?_
  refine k_iload_n hm hl 1 rfl dX6_addMirrored_22 ?_
  refine k_callV (n := 2) (As := [vN (sumM (K (R - 1)) (w (R - 1))), vN (t)]) (rest := []) (wr := [(o, .inr (6, [.ref (P 0), .ref (h), .ref (T 0), .ref (L 0), .ref (M 0)])), (P 0, .inr (4, [.ref (P 1), .ref (P 3), .ref (P 5), .ref (P 7), vN (R), vB (sp)])), (P 1, .inr (2, [.ref (P 2)])), (P 2, .inl (G.2 0, 4800, .inl (nF gk))), (P 3, .inr (2, [.ref (P 4)])), (P 4, .inl (G.2 0, 40, .inl (nF gw))), (P 5, .inr (2, [.ref (P 6)])), (P 6, .inl (G.2 0, 40, .inl (nF gt))), (P 7, .inr (2, [.ref (P 8)])), (P 8, .inl (G.2 0, 3, .inl (nF gy))), (h, .inr (0, [.ref (hs), vN (nx), vN (sz)])), (hs, .inl (G.2 2, 4, .inr (.inr (.inr (.inr (fun j => some (Q j 0))))))), ((Q 0) 0, .inr (4, [.ref ((Q 0) 1), .ref ((Q 0) 3), .ref ((Q 0) 5), .ref ((Q 0) 7), vN (aR 0), vB (aS 0)])), ((Q 0) 1, .inr (2, [.ref ((Q 0) 2)])), ((Q 0) 2, .inl (G.2 0, 4800, .inl (nF (ak 0)))), ((Q 0) 3, .inr (2, [.ref ((Q 0) 4)])), ((Q 0) 4, .inl (G.2 0, 40, .inl (nF (aw 0)))), ((Q 0) 5, .inr (2, [.ref ((Q 0) 6)])), ((Q 0) 6, .inl (G.2 0, 40, .inl (nF (au 0)))), ((Q 0) 7, .inr (2, [.ref ((Q 0) 8)])), ((Q 0) 8, .inl (G.2 0, 3, .inl (nF (ay 0)))), ((Q 1) 0, .inr (4, [.ref ((Q 1) 1), .ref ((Q 1) 3), .ref ((Q 1) 5), .ref ((Q 1) 7), vN (aR 1), vB (aS 1)])), ((Q 1) 1, .inr (2, [.ref ((Q 1) 2)])), ((Q 1) 2, .inl (G.2 0, 4800, .inl (nF (ak 1)))), ((Q 1) 3, .inr (2, [.ref ((Q 1) 4)])), ((Q 1) 4, .inl (G.2 0, 40, .inl (nF (aw 1)))), ((Q 1) 5, .inr (2, [.ref ((Q 1) 6)])), ((Q 1) 6, .inl (G.2 0, 40, .inl (nF (au 1)))), ((Q 1) 7, .inr (2, [.ref ((Q 1) 8)])), ((Q 1) 8, .inl (G.2 0, 3, .inl (nF (ay 1)))), ((Q 2) 0, .inr (4, [.ref ((Q 2) 1), .ref ((Q 2) 3), .ref ((Q 2) 5), .ref ((Q 2) 7), vN (aR 2), vB (aS 2)])), ((Q 2) 1, .inr (2, [.ref ((Q 2) 2)])), ((Q 2) 2, .inl (G.2 0, 4800, .inl (nF (ak 2)))), ((Q 2) 3, .inr (2, [.ref ((Q 2) 4)])), ((Q 2) 4, .inl (G.2 0, 40, .inl (nF (aw 2)))), ((Q 2) 5, .inr (2, [.ref ((Q 2) 6)])), ((Q 2) 6, .inl (G.2 0, 40, .inl (nF (au 2)))), ((Q 2) 7, .inr (2, [.ref ((Q 2) 8)])), ((Q 2) 8, .inl (G.2 0, 3, .inl (nF (ay 2)))), ((Q 3) 0, .inr (4, [.ref ((Q 3) 1), .ref ((Q 3) 3), .ref ((Q 3) 5), .ref ((Q 3) 7), vN (aR 3), vB (aS 3)])), ((Q 3) 1, .inr (2, [.ref ((Q 3) 2)])), ((Q 3) 2, .inl (G.2 0, 4800, .inl (nF (ak 3)))), ((Q 3) 3, .inr (2, [.ref ((Q 3) 4)])), ((Q 3) 4, .inl (G.2 0, 40, .inl (nF (aw 3)))), ((Q 3) 5, .inr (2, [.ref ((Q 3) 6)])), ((Q 3) 6, .inl (G.2 0, 40, .inl (nF (au 3)))), ((Q 3) 7, .inr (2, [.ref ((Q 3) 8)])), ((Q 3) 8, .inl (G.2 0, 3, .inl (nF (ay 3)))), (M 0, .inr (1, [.ref (M 1)])), (M 1, .inr (2, [.ref (M 2)])), (M 2, .inl (G.2 0, 120, .inl (nF mf)))]) hm hw hl (c_mirror l G L f wk sd kd (sumM (K (R - 1)) (w (R - 1))) t (by first | assumption | omega)) gX6_addMirrored_X5_mirror rfl (by decide +kernel) ⟨by decide, by decide⟩ (ci := 5) rfl 48 rfl [48, 49, 50] [0, 1, 2, 3, 4, 5, 6, 7, 8, 9, 10, 11, 12, 13, 14, 15, 16, 17, 18, 19, 20, 21, 22, 23, 24, 25, 26, 27, 28, 29, 30, 31, 32, 33, 34, 35, 36, 37, 38, 39, 40, 41, 42, 43, 44, 45, 46, 47, 51, 52, 53] (by decide) rfl rfl (by decide) (by decide) rfl rfl (by simp [Value.category]) ⟨by decide, by decide⟩ dX6_addMirrored_23 (fun v w1 H locs hp hw => ?_)
  obtain ⟨b_6, f2_7, rfl, rfl, hb_8, hf_9⟩ := hp
  have hw := hw.sub (ws' := wMain G o P h T L M ++ (wPiece G P gk gw gt gy R sp ++ (wHist G h hs Q ak aw au ay aR aS nx sz ++ (wPlan G L f2_7 (pm (sumM (K (R - 1)) (w (R - 1))) t) (pd (sumM (K (R - 1)) (w (R - 1))) t) (pk (sumM (K (R - 1)) (w (R - 1))) t) ++ wMk G M mf)))) [0, 1, 2, 3, 4, 5, 6, 7, 8, 9, 10, 11, 12, 13, 14, 15, 16, 17, 18, 19, 20, 21, 22, 23, 24, 25, 26, 27, 28, 29, 30, 31, 32, 33, 34, 35, 36, 37, 38, 39, 40, 41, 42, 43, 44, 45, 46, 47, 51, 52, 53, 48, 49, 50] (by decide) rfl
  refine W.eq (g2 := F0 m 26 ls [vB (b_6)]) rfl ?_
  have hbs := hb_8
  have hfs := hf_9 (hbs.mpr hpo)
  refine k_rwV (y := vB (true)) (by rw [hbs.mpr hpo]) ?_
  refine k_callSr (n := 1) (As := [vB (true)]) (rest := []) hm hw hl (c_checkPossible_ok l G ) gX6_addMirrored_X6_checkPossible rfl (by decide +kernel) ⟨by decide, by decide⟩ [] (by decide) rfl rfl rfl (by simp [Value.category]) ⟨by decide, by decide⟩ dX6_addMirrored_26 (fun v H locs hp hw => ?_)
  obtain rfl := hp
  refine W.eq (g2 := F0 m 29 ls []) rfl ?_
  refine k_aload_n hm hl 0 rfl dX6_addMirrored_29 ?_
  refine k_get (T := TX6) hm hw 0 1 i6 rfl rfl (by decide) (by decide +kernel) rfl dX6_addMirrored_30 ?_
  refine k_aload_n hm hl 0 rfl dX6_addMirrored_33 ?_
  refine k_get (T := TX6) hm hw 0 0 i6 rfl rfl (by decide) (by decide +kernel) rfl dX6_addMirrored_34 ?_
  refine k_callV (n := 1) (As := [.ref (P 0)]) (rest := []) (wr := [(o, .inr (6, [.ref (P 0), .ref (h), .ref (T 0), .ref (L 0), .ref (M 0)])), (L 0, .inr (5, [.ref (L 1), vN (pm (sumM (K (R - 1)) (w (R - 1))) t), vN (pd (sumM (K (R - 1)) (w (R - 1))) t), vN (pk (sumM (K (R - 1)) (w (R - 1))) t)])), (L 1, .inr (2, [.ref (L 2)])), (L 2, .inl (G.2 0, 120, .inl (nF f2_7))), (M 0, .inr (1, [.ref (M 1)])), (M 1, .inr (2, [.ref (M 2)])), (M 2, .inl (G.2 0, 120, .inl (nF mf)))]) hm hw hl (c_keep l G h hs Q ak aw au ay aR aS nx sz P gk gw gt gy R sp K w y sv (by first | assumption | omega) (by first | assumption | omega)) gX6_addMirrored_X0_keep rfl (by decide +kernel) ⟨by decide, by decide⟩ (ci := 0) rfl 10 rfl [10, 11, 12, 13, 14, 15, 16, 17, 18, 19, 20, 21, 22, 23, 24, 25, 26, 27, 28, 29, 30, 31, 32, 33, 34, 35, 36, 37, 38, 39, 40, 41, 42, 43, 44, 45, 46, 47, 1, 2, 3, 4, 5, 6, 7, 8, 9] [0, 48, 49, 50, 51, 52, 53] (by decide) rfl rfl (by decide) (by decide) rfl rfl (by simp [Value.category]) ⟨by decide, by decide⟩ dX6_addMirrored_37 (fun v w1 H locs hp hw => ?_)
  obtain ⟨ak2_12, aw2_13, au2_14, ay2_15, aR2_16, aS2_17, rfl, rfl, hho2_18⟩ := hp
  have hw := hw.sub (ws' := wMain G o P h T L M ++ (wPiece G P gk gw gt gy R sp ++ (wHist G h hs Q ak2_12 aw2_13 au2_14 ay2_15 aR2_16 aS2_17 ((nx + 1) % 4) (Nat.min (sz + 1) 4) ++ (wPlan G L f2_7 (pm (sumM (K (R - 1)) (w (R - 1))) t) (pd (sumM (K (R - 1)) (w (R - 1))) t) (pk (sumM (K (R - 1)) (w (R - 1))) t) ++ wMk G M mf)))) [0, 45, 46, 47, 48, 49, 50, 51, 52, 53, 7, 8, 9, 10, 11, 12, 13, 14, 15, 16, 17, 18, 19, 20, 21, 22, 23, 24, 25, 26, 27, 28, 29, 30, 31, 32, 33, 34, 35, 36, 37, 38, 39, 40, 41, 42, 43, 44, 1, 2, 3, 4, 5, 6] (by decide) rfl
  refine W.eq (g2 := F0 m 40 ls []) rfl ?_
  have hho2 := hho2_18
  refine k_aload_n hm hl 0 rfl dX6_addMirrored_40 ?_
  refine k_iconstN hm 0 dX6_addMirrored_41 ?_
  refine k_callV (n := 1) (As := [vN (0)]) (rest := []) (wr := [(h, .inr (0, [.ref (hs), vN ((nx + 1) % 4), vN (Nat.min (sz + 1) 4)])), (hs, .inl (G.2 2, 4, .inr (.inr (.inr (.inr (fun j => some (Q j 0))))))), ((Q 0) 0, .inr (4, [.ref ((Q 0) 1), .ref ((Q 0) 3), .ref ((Q 0) 5), .ref ((Q 0) 7), vN (aR2_16 0), vB (aS2_17 0)])), ((Q 0) 1, .inr (2, [.ref ((Q 0) 2)])), ((Q 0) 2, .inl (G.2 0, 4800, .inl (nF (ak2_12 0)))), ((Q 0) 3, .inr (2, [.ref ((Q 0) 4)])), ((Q 0) 4, .inl (G.2 0, 40, .inl (nF (aw2_13 0)))), ((Q 0) 5, .inr (2, [.ref ((Q 0) 6)])), ((Q 0) 6, .inl (G.2 0, 40, .inl (nF (au2_14 0)))), ((Q 0) 7, .inr (2, [.ref ((Q 0) 8)])), ((Q 0) 8, .inl (G.2 0, 3, .inl (nF (ay2_15 0)))), ((Q 1) 0, .inr (4, [.ref ((Q 1) 1), .ref ((Q 1) 3), .ref ((Q 1) 5), .ref ((Q 1) 7), vN (aR2_16 1), vB (aS2_17 1)])), ((Q 1) 1, .inr (2, [.ref ((Q 1) 2)])), ((Q 1) 2, .inl (G.2 0, 4800, .inl (nF (ak2_12 1)))), ((Q 1) 3, .inr (2, [.ref ((Q 1) 4)])), ((Q 1) 4, .inl (G.2 0, 40, .inl (nF (aw2_13 1)))), ((Q 1) 5, .inr (2, [.ref ((Q 1) 6)])), ((Q 1) 6, .inl (G.2 0, 40, .inl (nF (au2_14 1)))), ((Q 1) 7, .inr (2, [.ref ((Q 1) 8)])), ((Q 1) 8, .inl (G.2 0, 3, .inl (nF (ay2_15 1)))), ((Q 2) 0, .inr (4, [.ref ((Q 2) 1), .ref ((Q 2) 3), .ref ((Q 2) 5), .ref ((Q 2) 7), vN (aR2_16 2), vB (aS2_17 2)])), ((Q 2) 1, .inr (2, [.ref ((Q 2) 2)])), ((Q 2) 2, .inl (G.2 0, 4800, .inl (nF (ak2_12 2)))), ((Q 2) 3, .inr (2, [.ref ((Q 2) 4)])), ((Q 2) 4, .inl (G.2 0, 40, .inl (nF (aw2_13 2)))), ((Q 2) 5, .inr (2, [.ref ((Q 2) 6)])), ((Q 2) 6, .inl (G.2 0, 40, .inl (nF (au2_14 2)))), ((Q 2) 7, .inr (2, [.ref ((Q 2) 8)])), ((Q 2) 8, .inl (G.2 0, 3, .inl (nF (ay2_15 2)))), ((Q 3) 0, .inr (4, [.ref ((Q 3) 1), .ref ((Q 3) 3), .ref ((Q 3) 5), .ref ((Q 3) 7), vN (aR2_16 3), vB (aS2_17 3)])), ((Q 3) 1, .inr (2, [.ref ((Q 3) 2)])), ((Q 3) 2, .inl (G.2 0, 4800, .inl (nF (ak2_12 3)))), ((Q 3) 3, .inr (2, [.ref ((Q 3) 4)])), ((Q 3) 4, .inl (G.2 0, 40, .inl (nF (aw2_13 3)))), ((Q 3) 5, .inr (2, [.ref ((Q 3) 6)])), ((Q 3) 6, .inl (G.2 0, 40, .inl (nF (au2_14 3)))), ((Q 3) 7, .inr (2, [.ref ((Q 3) 8)])), ((Q 3) 8, .inl (G.2 0, 3, .inl (nF (ay2_15 3))))]) hm hw hl (c_addPlanned l G o h T M mf P gk gw gt gy R sp L f2_7 (pm (sumM (K (R - 1)) (w (R - 1))) t) (pd (sumM (K (R - 1)) (w (R - 1))) t) (pk (sumM (K (R - 1)) (w (R - 1))) t) K w y 0 (miR (sumM (K (R - 1)) (w (R - 1))) t) (by first | assumption | omega) (by first | assumption | omega) (by have := pm_le (n := sumM (K (R - 1)) (w (R - 1))) (t := t) (by omega); omega) (by first | assumption | omega) (fun i q => ⟨by rw [Nat.add_zero, Nat.mod_eq_of_lt q]; exact (hfs i q).symm, (miR_ok hpo.1 hpo.2).1 i q⟩) (by rw [(miR_ok hpo.1 hpo.2).2.2]; omega) (by rw [(miR_ok hpo.1 hpo.2).2.1])) gX6_addMirrored_X6_addPlanned rfl (by decide +kernel) ⟨by decide, by decide⟩ (ci := 6) rfl 0 rfl [0, 1, 2, 3, 4, 5, 6, 7, 8, 9, 48, 49, 50, 51, 52, 53] [10, 11, 12, 13, 14, 15, 16, 17, 18, 19, 20, 21, 22, 23, 24, 25, 26, 27, 28, 29, 30, 31, 32, 33, 34, 35, 36, 37, 38, 39, 40, 41, 42, 43, 44, 45, 46, 47] (by decide) rfl rfl (by decide) (by decide) rfl rfl (by simp [Value.category]) ⟨by decide, by decide⟩ dX6_addMirrored_42 (fun v w1 H locs hp hw => ?_)
  obtain ⟨gk2_20, gw2_21, gt2_22, mf2_23, rfl, rfl, hok2_24⟩ := hp
  have hw := hw.sub (ws' := wMain G o P h T L M ++ (wPiece G P gk2_20 gw2_21 gt2_22 gy (R + 1) sp ++ (wHist G h hs Q ak2_12 aw2_13 au2_14 ay2_15 aR2_16 aS2_17 ((nx + 1) % 4) (Nat.min (sz + 1) 4) ++ (wPlan G L f2_7 (pm (sumM (K (R - 1)) (w (R - 1))) t) (pd (sumM (K (R - 1)) (w (R - 1))) t) (pk (sumM (K (R - 1)) (w (R - 1))) t) ++ wMk G M mf2_23)))) [38, 39, 40, 41, 42, 43, 44, 45, 46, 47, 0, 1, 2, 3, 4, 5, 6, 7, 8, 9, 10, 11, 12, 13, 14, 15, 16, 17, 18, 19, 20, 21, 22, 23, 24, 25, 26, 27, 28, 29, 30, 31, 32, 33, 34, 35, 36, 37, 48, 49, 50, 51, 52, 53] (by decide) rfl
  refine W.eq (g2 := F0 m 45 ls [vN (nstk (mkF (K (R - 1)) (w (R - 1))) (miR (sumM (K (R - 1)) (w (R - 1))) t) (pm (sumM (K (R - 1)) (w (R - 1))) t))]) rfl ?_
  exact k_iret (post := _) hm hQ rfl rfl hw (⟨_, _, _, _, _, _, _, _, _, _, _, rfl, rfl, hok2_24, hho2⟩) (by omega) (by omega) dX6_addMirrored_45
set_option maxHeartbeats 4000000 in
set_option maxRecDepth 100000 in
theorem c_stacks_ok (l : Launch) (G : kG) (o : Nat) (T : Nat → Nat) (L : Nat → Nat) (M : Nat → Nat) (h : Nat) (P : Nat → Nat) (gk : Nat → Nat) (gw : Nat → Nat) (gt : Nat → Nat) (gy : Nat → Nat) (R : Nat) (sp : Bool) (f : Nat → Nat) (wk : Nat) (sd : Nat) (kd : Nat) (mf : Nat → Nat) (K : Nat → Nat → Nat) (w : Nat → Nat) (y : Nat → Nat) (t : Nat) (x : Nat) (hok : POk gk gw gt gy R K w y) (ht : 3 ≤ t ∧ t ≤ 120) (hx : x < 120) (hpo : isPo (sumM (K (R - 1)) (w (R - 1))) t) : kCM l yX6_stacks wsX6_stacks 2 51 0 0 G [.ref (o), vN (t), vN (x)] (wMain G o P h T L M ++ (wPiece G P gk gw gt gy R sp ++ (wPlan G L f wk sd kd ++ wMk G M mf))) (fun vv uu => ∃ (f2 : Nat → Nat), ∃ (mf2 : Nat → Nat), vv = some (vN (stkC (K (R - 1)) (w (R - 1)) (sumM (K (R - 1)) (w (R - 1))) t x)) ∧ uu = wMain G o P h T L M ++ (wPiece G P gk gw gt gy R sp ++ (wPlan G L f2 (pm (sumM (K (R - 1)) (w (R - 1))) t) (pd (sumM (K (R - 1)) (w (R - 1))) t) (pk (sumM (K (R - 1)) (w (R - 1))) t) ++ wMk G M mf2))) := by
  refine kCM.of (cc := cX6_stacks) (maxL := 3) (ret := (some .int)) (by decide) rfl (Nat.le_of_ble_eq_true rfl) ?_
  intro p e s m args below meth c A ls Qz hQ hin hm hw hl
  have hl : lv_has ls 3 [(0, .ref (o)), (1, vN (t)), (2, vN (x))] := hl
  have i4 : ∀ w ∈ wsX40, w ∈ wsX6_stacks := by decide +kernel
  have i5 : ∀ w ∈ wsX50, w ∈ wsX6_stacks := by decide +kernel
  have i6 : ∀ w ∈ wsX60, w ∈ wsX6_stacks := by decide +kernel
  have hll := PVd_last hok.1
  have hR := hok.1.1
  have hpm := pm_le (n := sumM (K (R - 1)) (w (R - 1))) (t := t) (by omega)
  refine k_iload_n hm hl 1 rfl dX6_stacks_0 ?_
  refine k_callSr (n := 1) (As := [vN (t)]) (rest := []) hm hw hl (c_isGoal l G ((t : Nat) : Int) (by first | assumption | omega)) gX6_stacks_X6_isGoal rfl (by decide +kernel) ⟨by decide, by decide⟩ [] (by decide) rfl rfl rfl (by simp [Value.category]) ⟨by decide, by decide⟩ dX6_stacks_1 (fun v H locs hp hw => ?_)
  obtain rfl := hp
  refine W.eq (g2 := F0 m 4 ls [vB (decide (3 ≤ ((t : Nat) : Int) ∧ ((t : Nat) : Int) ≤ 120))]) rfl ?_
  refine k_rwV (y := vB (true)) (by rw [decide_eq_true (by omega)]) ?_
  refine k_ifeqB (tgt := 18) hm dX6_stacks_4 (by decide) (fun c_2 => absurd c_2 (by decide)) (fun _ => ?_)
  refine k_iload_n hm hl 2 rfl dX6_stacks_7 ?_
  refine k_callSr (n := 1) (As := [vN (x)]) (rest := []) hm hw hl (c_isShift l G ((x : Nat) : Int) (by first | assumption | omega)) gX6_stacks_X6_isShift rfl (by decide +kernel) ⟨by decide, by decide⟩ [] (by decide) rfl rfl rfl (by simp [Value.category]) ⟨by decide, by decide⟩ dX6_stacks_8 (fun v H locs hp hw => ?_)
  obtain rfl := hp
  refine W.eq (g2 := F0 m 11 ls [vB (decide (0 ≤ ((x : Nat) : Int) ∧ ((x : Nat) : Int) < 120))]) rfl ?_
  refine k_rwV (y := vB (true)) (by rw [decide_eq_true (by omega)]) ?_
  refine k_ifeqB (tgt := 18) hm dX6_stacks_11 (by decide) (fun c_4 => absurd c_4 (by decide)) (fun _ => ?_)
  refine k_iconstN hm 1 dX6_stacks_14 ?_
  refine k_goto (tgt := 19) hm dX6_stacks_15 (by decide) ?_
  refine k_callSr (n := 1) (As := [vN (1)]) (rest := []) hm hw hl (c_checkArgument_ok l G ) gX6_stacks_X6_checkArgument rfl (by decide +kernel) ⟨by decide, by decide⟩ [] (by decide) rfl rfl rfl (by simp [Value.category]) ⟨by decide, by decide⟩ dX6_stacks_19 (fun v H locs hp hw => ?_)
  obtain rfl := hp
  refine W.eq (g2 := F0 m 22 ls []) rfl ?_
  refine k_aload_n hm hl 0 rfl dX6_stacks_22 ?_
  refine k_get (T := TX6) hm hw 0 3 i6 rfl rfl (by decide) (by decide +kernel) rfl dX6_stacks_23 ?_
  refine k_aload_n hm hl 0 rfl dX6_stacks_26 ?_
  refine k_get (T := TX6) hm hw 0 0 i6 rfl rfl (by decide) (by decide +kernel) rfl dX6_stacks_27 ?_
  refine k_callVr (n := 0) (As := []) (rest := [.ref (L 0)]) hm hw hl (c_lastTotal l G P gk gw gt gy R sp K w y (by first | assumption | omega)) gX6_stacks_X4_lastTotal rfl (by decide +kernel) ⟨by decide, by decide⟩ (ci := 4) rfl 1 rfl [1, 2, 3, 4, 5, 6, 7, 8, 9] (by decide) rfl rfl rfl (by simp [Value.category]) ⟨by decide, by decide⟩ dX6_stacks_30 (fun v H locs hp hw => ?_)
  obtain rfl := hp
  refine W.eq (g2 := F0 m 33 ls [vN (sumM (K (R - 1)) (w (R - 1))), .ref (L 0)]) rfl ?_
  refine k_iload_n hm hl 1 rfl dX6_stacks_33 ?_
  refine k_callV (n := 2) (As := [vN (sumM (K (R - 1)) (w (R - 1))), vN (t)]) (rest := []) (wr := [(o, .inr (6, [.ref (P 0), .ref (h), .ref (T 0), .ref (L 0), .ref (M 0)])), (P 0, .inr (4, [.ref (P 1), .ref (P 3), .ref (P 5), .ref (P 7), vN (R), vB (sp)])), (P 1, .inr (2, [.ref (P 2)])), (P 2, .inl (G.2 0, 4800, .inl (nF gk))), (P 3, .inr (2, [.ref (P 4)])), (P 4, .inl (G.2 0, 40, .inl (nF gw))), (P 5, .inr (2, [.ref (P 6)])), (P 6, .inl (G.2 0, 40, .inl (nF gt))), (P 7, .inr (2, [.ref (P 8)])), (P 8, .inl (G.2 0, 3, .inl (nF gy))), (M 0, .inr (1, [.ref (M 1)])), (M 1, .inr (2, [.ref (M 2)])), (M 2, .inl (G.2 0, 120, .inl (nF mf)))]) hm hw hl (c_spread l G L f wk sd kd (sumM (K (R - 1)) (w (R - 1))) t (by first | assumption | omega)) gX6_stacks_X5_spread rfl (by decide +kernel) ⟨by decide, by decide⟩ (ci := 5) rfl 10 rfl [10, 11, 12] [0, 1, 2, 3, 4, 5, 6, 7, 8, 9, 13, 14, 15] (by decide) rfl rfl (by decide) (by decide) rfl rfl (by simp [Value.category]) ⟨by decide, by decide⟩ dX6_stacks_34 (fun v w1 H locs hp hw => ?_)
  obtain ⟨b_8, f2_9, rfl, rfl, hb_10, hf_11⟩ := hp
  have hw := hw.sub (ws' := wMain G o P h T L M ++ (wPiece G P gk gw gt gy R sp ++ (wPlan G L f2_9 (pm (sumM (K (R - 1)) (w (R - 1))) t) (pd (sumM (K (R - 1)) (w (R - 1))) t) (pk (sumM (K (R - 1)) (w (R - 1))) t) ++ wMk G M mf))) [0, 1, 2, 3, 4, 5, 6, 7, 8, 9, 13, 14, 15, 10, 11, 12] (by decide) rfl
  refine W.eq (g2 := F0 m 37 ls [vB (b_8)]) rfl ?_
  have hbs := hb_10
  have hfs := hf_11 hpo
  refine k_rwV (y := vB (true)) (by rw [hbs.mpr hpo]) ?_
  refine k_ifneB (tgt := 42) hm dX6_stacks_37 (by decide) (fun _ => ?_) (fun c_12 => absurd c_12 (by decide))
  refine k_aload_n hm hl 0 rfl dX6_stacks_42 ?_
  refine k_get (T := TX6) hm hw 0 4 i6 rfl rfl (by decide) (by decide +kernel) rfl dX6_stacks_43 ?_
  refine k_aload_n hm hl 0 rfl dX6_stacks_46 ?_
  refine k_get (T := TX6) hm hw 0 0 i6 rfl rfl (by decide) (by decide +kernel) rfl dX6_stacks_47 ?_
  refine k_aload_n hm hl 0 rfl dX6_stacks_50 ?_
  refine k_get (T := TX6) hm hw 0 0 i6 rfl rfl (by decide) (by decide +kernel) rfl dX6_stacks_51 ?_
  refine k_get (T := TX4) hm hw 1 4 i4 rfl rfl (by decide) (by decide +kernel) rfl dX6_stacks_54 ?_
  refine k_iconstN hm 1 dX6_stacks_57 ?_
  refine k_isubN hm (by omega) dX6_stacks_58 ?_
  refine k_callV (n := 2) (As := [.ref (P 0), vN (R - 1)]) (rest := []) (wr := [(o, .inr (6, [.ref (P 0), .ref (h), .ref (T 0), .ref (L 0), .ref (M 0)])), (L 0, .inr (5, [.ref (L 1), vN (pm (sumM (K (R - 1)) (w (R - 1))) t), vN (pd (sumM (K (R - 1)) (w (R - 1))) t), vN (pk (sumM (K (R - 1)) (w (R - 1))) t)])), (L 1, .inr (2, [.ref (L 2)])), (L 2, .inl (G.2 0, 120, .inl (nF f2_9)))]) hm hw hl (c_load l G M mf P gk gw gt gy R sp K w y (R - 1) (by first | assumption | omega) (by first | assumption | omega)) gX6_stacks_X1_load rfl (by decide +kernel) ⟨by decide, by decide⟩ (ci := 1) rfl 13 rfl [13, 14, 15, 1, 2, 3, 4, 5, 6, 7, 8, 9] [0, 10, 11, 12] (by decide) rfl rfl (by decide) (by decide) rfl rfl (by simp [Value.category]) ⟨by decide, by decide⟩ dX6_stacks_59 (fun v w1 H locs hp hw => ?_)
  obtain ⟨mf2_14, rfl, rfl, hmk_15⟩ := hp
  have hw := hw.sub (ws' := wMain G o P h T L M ++ (wPiece G P gk gw gt gy R sp ++ (wPlan G L f2_9 (pm (sumM (K (R - 1)) (w (R - 1))) t) (pd (sumM (K (R - 1)) (w (R - 1))) t) (pk (sumM (K (R - 1)) (w (R - 1))) t) ++ wMk G M mf2_14))) [0, 7, 8, 9, 10, 11, 12, 13, 14, 15, 1, 2, 3, 4, 5, 6] (by decide) rfl
  refine W.eq (g2 := F0 m 62 ls []) rfl ?_
  have hmk := hmk_15
  refine k_aload_n hm hl 0 rfl dX6_stacks_62 ?_
  refine k_get (T := TX6) hm hw 0 4 i6 rfl rfl (by decide) (by decide +kernel) rfl dX6_stacks_63 ?_
  refine k_aload_n hm hl 0 rfl dX6_stacks_66 ?_
  refine k_get (T := TX6) hm hw 0 3 i6 rfl rfl (by decide) (by decide +kernel) rfl dX6_stacks_67 ?_
  refine k_get (T := TX5) hm hw 10 0 i5 rfl rfl (by decide) (by decide +kernel) rfl dX6_stacks_70 ?_
  refine k_iconstN hm 0 dX6_stacks_73 ?_
  refine k_aload_n hm hl 0 rfl dX6_stacks_74 ?_
  refine k_get (T := TX6) hm hw 0 3 i6 rfl rfl (by decide) (by decide +kernel) rfl dX6_stacks_75 ?_
  refine k_get (T := TX5) hm hw 10 1 i5 rfl rfl (by decide) (by decide +kernel) rfl dX6_stacks_78 ?_
  refine k_iload_n hm hl 2 rfl dX6_stacks_81 ?_
  refine k_callVr (n := 4) (As := [.ref (L 1), vN (0), vN (pm (sumM (K (R - 1)) (w (R - 1))) t), vN (x)]) (rest := []) hm hw hl (c_stackedIn l G M mf2_14 (L 1) (L 2) 120 f2_9 0 (pm (sumM (K (R - 1)) (w (R - 1))) t) x (spR (sumM (K (R - 1)) (w (R - 1))) t x) (by first | assumption | omega) (fun i q => by rw [Nat.zero_add]; exact ⟨hfs _ (Nat.mod_lt _ (by omega)), (spR_ok (by omega) hpo).1 i q⟩) (by rw [(spR_ok (by omega) hpo).2.1]; omega) (fun z q => mkOk_le hok.1 (show R - 1 < R by omega) hmk z (by rw [(spR_ok (by omega) hpo).2.1] at q; exact q))) gX6_stacks_X1_stackedIn rfl (by decide +kernel) ⟨by decide, by decide⟩ (ci := 1) rfl 13 rfl [13, 14, 15, 11, 12] (by decide) rfl rfl rfl (by simp [Value.category]) ⟨by decide, by decide⟩ dX6_stacks_82 (fun v H locs hp hw => ?_)
  obtain rfl := hp
  refine W.eq (g2 := F0 m 85 ls [vN (nstk mf2_14 (spR (sumM (K (R - 1)) (w (R - 1))) t x) (pm (sumM (K (R - 1)) (w (R - 1))) t))]) rfl ?_
  exact k_iret (post := _) hm hQ rfl rfl hw (⟨_, _, by rw [nstk_mk hmk (by rw [(spR_ok (by omega) hpo).2.1]; exact Nat.le_refl _)]; rfl, rfl⟩) (by omega) (by omega) dX6_stacks_85
set_option maxHeartbeats 4000000 in
set_option maxRecDepth 100000 in
theorem c_stacks_no (l : Launch) (G : kG) (o : Nat) (T : Nat → Nat) (L : Nat → Nat) (M : Nat → Nat) (h : Nat) (P : Nat → Nat) (gk : Nat → Nat) (gw : Nat → Nat) (gt : Nat → Nat) (gy : Nat → Nat) (R : Nat) (sp : Bool) (f : Nat → Nat) (wk : Nat) (sd : Nat) (kd : Nat) (mf : Nat → Nat) (K : Nat → Nat → Nat) (w : Nat → Nat) (y : Nat → Nat) (t : Nat) (x : Nat) (hok : POk gk gw gt gy R K w y) (ht : 3 ≤ t ∧ t ≤ 120) (hx : x < 120) (hpo : ¬ isPo (sumM (K (R - 1)) (w (R - 1))) t) : kCM l yX6_stacks wsX6_stacks 2 51 0 0 G [.ref (o), vN (t), vN (x)] (wMain G o P h T L M ++ (wPiece G P gk gw gt gy R sp ++ (wPlan G L f wk sd kd ++ wMk G M mf))) (fun vv uu => ∃ (f2 : Nat → Nat), vv = some (vZ (-1)) ∧ uu = wMain G o P h T L M ++ (wPiece G P gk gw gt gy R sp ++ (wPlan G L f2 (pm (sumM (K (R - 1)) (w (R - 1))) t) (pd (sumM (K (R - 1)) (w (R - 1))) t) (pk (sumM (K (R - 1)) (w (R - 1))) t) ++ wMk G M mf))) := by
  refine kCM.of (cc := cX6_stacks) (maxL := 3) (ret := (some .int)) (by decide) rfl (Nat.le_of_ble_eq_true rfl) ?_
  intro p e s m args below meth c A ls Qz hQ hin hm hw hl
  have hl : lv_has ls 3 [(0, .ref (o)), (1, vN (t)), (2, vN (x))] := hl
  have i4 : ∀ w ∈ wsX40, w ∈ wsX6_stacks := by decide +kernel
  have i5 : ∀ w ∈ wsX50, w ∈ wsX6_stacks := by decide +kernel
  have i6 : ∀ w ∈ wsX60, w ∈ wsX6_stacks := by decide +kernel
  have hll := PVd_last hok.1
  have hR := hok.1.1
  refine k_iload_n hm hl 1 rfl dX6_stacks_0 ?_
  refine k_callSr (n := 1) (As := [vN (t)]) (rest := []) hm hw hl (c_isGoal l G ((t : Nat) : Int) (by first | assumption | omega)) gX6_stacks_X6_isGoal rfl (by decide +kernel) ⟨by decide, by decide⟩ [] (by decide) rfl rfl rfl (by simp [Value.category]) ⟨by decide, by decide⟩ dX6_stacks_1 (fun v H locs hp hw => ?_)
  obtain rfl := hp
  refine W.eq (g2 := F0 m 4 ls [vB (decide (3 ≤ ((t : Nat) : Int) ∧ ((t : Nat) : Int) ≤ 120))]) rfl ?_
  refine k_rwV (y := vB (true)) (by rw [decide_eq_true (by omega)]) ?_
  refine k_ifeqB (tgt := 18) hm dX6_stacks_4 (by decide) (fun c_2 => absurd c_2 (by decide)) (fun _ => ?_)
  refine k_iload_n hm hl 2 rfl dX6_stacks_7 ?_
  refine k_callSr (n := 1) (As := [vN (x)]) (rest := []) hm hw hl (c_isShift l G ((x : Nat) : Int) (by first | assumption | omega)) gX6_stacks_X6_isShift rfl (by decide +kernel) ⟨by decide, by decide⟩ [] (by decide) rfl rfl rfl (by simp [Value.category]) ⟨by decide, by decide⟩ dX6_stacks_8 (fun v H locs hp hw => ?_)
  obtain rfl := hp
  refine W.eq (g2 := F0 m 11 ls [vB (decide (0 ≤ ((x : Nat) : Int) ∧ ((x : Nat) : Int) < 120))]) rfl ?_
  refine k_rwV (y := vB (true)) (by rw [decide_eq_true (by omega)]) ?_
  refine k_ifeqB (tgt := 18) hm dX6_stacks_11 (by decide) (fun c_4 => absurd c_4 (by decide)) (fun _ => ?_)
  refine k_iconstN hm 1 dX6_stacks_14 ?_
  refine k_goto (tgt := 19) hm dX6_stacks_15 (by decide) ?_
  refine k_callSr (n := 1) (As := [vN (1)]) (rest := []) hm hw hl (c_checkArgument_ok l G ) gX6_stacks_X6_checkArgument rfl (by decide +kernel) ⟨by decide, by decide⟩ [] (by decide) rfl rfl rfl (by simp [Value.category]) ⟨by decide, by decide⟩ dX6_stacks_19 (fun v H locs hp hw => ?_)
  obtain rfl := hp
  refine W.eq (g2 := F0 m 22 ls []) rfl ?_
  refine k_aload_n hm hl 0 rfl dX6_stacks_22 ?_
  refine k_get (T := TX6) hm hw 0 3 i6 rfl rfl (by decide) (by decide +kernel) rfl dX6_stacks_23 ?_
  refine k_aload_n hm hl 0 rfl dX6_stacks_26 ?_
  refine k_get (T := TX6) hm hw 0 0 i6 rfl rfl (by decide) (by decide +kernel) rfl dX6_stacks_27 ?_
  refine k_callVr (n := 0) (As := []) (rest := [.ref (L 0)]) hm hw hl (c_lastTotal l G P gk gw gt gy R sp K w y (by first | assumption | omega)) gX6_stacks_X4_lastTotal rfl (by decide +kernel) ⟨by decide, by decide⟩ (ci := 4) rfl 1 rfl [1, 2, 3, 4, 5, 6, 7, 8, 9] (by decide) rfl rfl rfl (by simp [Value.category]) ⟨by decide, by decide⟩ dX6_stacks_30 (fun v H locs hp hw => ?_)
  obtain rfl := hp
  refine W.eq (g2 := F0 m 33 ls [vN (sumM (K (R - 1)) (w (R - 1))), .ref (L 0)]) rfl ?_
  refine k_iload_n hm hl 1 rfl dX6_stacks_33 ?_
  refine k_callV (n := 2) (As := [vN (sumM (K (R - 1)) (w (R - 1))), vN (t)]) (rest := []) (wr := [(o, .inr (6, [.ref (P 0), .ref (h), .ref (T 0), .ref (L 0), .ref (M 0)])), (P 0, .inr (4, [.ref (P 1), .ref (P 3), .ref (P 5), .ref (P 7), vN (R), vB (sp)])), (P 1, .inr (2, [.ref (P 2)])), (P 2, .inl (G.2 0, 4800, .inl (nF gk))), (P 3, .inr (2, [.ref (P 4)])), (P 4, .inl (G.2 0, 40, .inl (nF gw))), (P 5, .inr (2, [.ref (P 6)])), (P 6, .inl (G.2 0, 40, .inl (nF gt))), (P 7, .inr (2, [.ref (P 8)])), (P 8, .inl (G.2 0, 3, .inl (nF gy))), (M 0, .inr (1, [.ref (M 1)])), (M 1, .inr (2, [.ref (M 2)])), (M 2, .inl (G.2 0, 120, .inl (nF mf)))]) hm hw hl (c_spread l G L f wk sd kd (sumM (K (R - 1)) (w (R - 1))) t (by first | assumption | omega)) gX6_stacks_X5_spread rfl (by decide +kernel) ⟨by decide, by decide⟩ (ci := 5) rfl 10 rfl [10, 11, 12] [0, 1, 2, 3, 4, 5, 6, 7, 8, 9, 13, 14, 15] (by decide) rfl rfl (by decide) (by decide) rfl rfl (by simp [Value.category]) ⟨by decide, by decide⟩ dX6_stacks_34 (fun v w1 H locs hp hw => ?_)
  obtain ⟨b_8, f2_9, rfl, rfl, hb_10, hf_11⟩ := hp
  have hw := hw.sub (ws' := wMain G o P h T L M ++ (wPiece G P gk gw gt gy R sp ++ (wPlan G L f2_9 (pm (sumM (K (R - 1)) (w (R - 1))) t) (pd (sumM (K (R - 1)) (w (R - 1))) t) (pk (sumM (K (R - 1)) (w (R - 1))) t) ++ wMk G M mf))) [0, 1, 2, 3, 4, 5, 6, 7, 8, 9, 13, 14, 15, 10, 11, 12] (by decide) rfl
  refine W.eq (g2 := F0 m 37 ls [vB (b_8)]) rfl ?_
  have hbs := hb_10
  refine k_rwV (y := vB (false)) (by rw [show b_8 = false from by cases hq : b_8 with | false => rfl | true => exact absurd (hbs.mp hq) hpo]) ?_
  refine k_ifneB (tgt := 42) hm dX6_stacks_37 (by decide) (fun c_12 => absurd c_12 (by decide)) (fun _ => ?_)
  refine k_iconst (n := -1) hm dX6_stacks_40 ?_
  exact k_iret (post := _) hm hQ rfl rfl hw (⟨_, rfl, rfl⟩) (by omega) (by omega) dX6_stacks_41
set_option maxHeartbeats 4000000 in
set_option maxRecDepth 100000 in
theorem c_mixedRound (l : Launch) (G : kG) (o : Nat) (h : Nat) (T : Nat → Nat) (L : Nat → Nat) (M : Nat → Nat) (mf : Nat → Nat) (P : Nat → Nat) (gk : Nat → Nat) (gw : Nat → Nat) (gt : Nat → Nat) (gy : Nat → Nat) (R : Nat) (sp : Bool) (K : Nat → Nat → Nat) (w : Nat → Nat) (y : Nat → Nat) (z : Int) (r : Nat) (hok : POk gk gw gt gy R K w y) (hr : r < R) : kCM l yX6_mixedRound wsX6_mixedRound 4 94 0 0 G [.ref (o), .long (lI z), vN (r)] (wMain G o P h T L M ++ (wPiece G P gk gw gt gy R sp ++ wMk G M mf)) (fun vv uu => ∃ (mf2 : Nat → Nat), vv = some (.long (lI (mxRow K w y r z))) ∧ uu = wMain G o P h T L M ++ (wPiece G P gk gw gt gy R sp ++ wMk G M mf2)) := by
  refine kCM.of (cc := cX6_mixedRound) (maxL := 8) (ret := (some .long)) (by decide) rfl (Nat.le_of_ble_eq_true rfl) ?_
  intro p e s m args below meth c A ls Qz hQ hin hm hw hl
  have hl : lv_has ls 8 [(0, .ref (o)), (1, .long (lI z)), (3, vN (r))] := hl
  have i4 : ∀ w ∈ wsX40, w ∈ wsX6_mixedRound := by decide +kernel
  have i6 : ∀ w ∈ wsX60, w ∈ wsX6_mixedRound := by decide +kernel
  have hk := hok.2.1 r hr
  have hb := hok.1.2.1 r hr
  have hR := hok.1.1
  refine k_lload_n hm hl 1 rfl dX6_mixedRound_0 ?_
  refine k_lstore hm hl [(4, .long (lI z)), (0, .ref (o)), (1, .long (lI z)), (3, vN (r))] (by decide) rfl dX6_mixedRound_1 (fun ls hl => ?_)
  refine k_iconstN hm 0 dX6_mixedRound_3 ?_
  refine k_istore hm hl [(6, vN (0)), (4, .long (lI z)), (0, .ref (o)), (1, .long (lI z)), (3, vN (r))] (by decide) rfl dX6_mixedRound_4 (fun ls hl => ?_)
  have loop_6 : ∀ (fu : Nat) (z1 : Int) (i : Nat) (mg : Nat → Nat) (hi : i ≤ 11) (hz : z1 = mxR K w y r i z) (H : Heap) (locs : List Loc) (ls : Array Slot), 11 - i < fu → kW G A s (wMain G o P h T L M ++ (wPiece G P gk gw gt gy R sp ++ wMk G M mg)) H locs → lv_has ls 8 [(0, .ref (o)), (1, .long (lI z)), (3, vN (r)), (4, .long (lI z1)), (6, vN (i))] → W p l e { frames := 4, cells := 0, slots := 0, locals := 94 } s m args below meth c H locs 0 0 Qz (F0 m 6 ls []) := by
    intro fu
    induction fu with
    | zero => intro z1 i mg hi hz H locs ls hfu; exact absurd hfu (Nat.not_lt_zero _)
    | succ fu ih_6 =>
      intro z1 i mg hi hz H locs ls hfu hw hl
      refine k_iload hm hl 4 rfl dX6_mixedRound_6 ?_
      refine k_bipushN hm 10 dX6_mixedRound_8 rfl ?_
      refine k_icmpgt (tgt := 33) hm dX6_mixedRound_10 (by decide) (by omega) (fun c_1 => ?_) (fun c_1 => ?_)
      · refine k_aload_n hm hl 0 rfl dX6_mixedRound_33 ?_
        refine k_get (T := TX6) hm hw 0 0 i6 rfl rfl (by decide) (by decide +kernel) rfl dX6_mixedRound_34 ?_
        refine k_get (T := TX4) hm hw 1 1 i4 rfl rfl (by decide) (by decide +kernel) rfl dX6_mixedRound_37 ?_
        refine k_iload_n hm hl 2 rfl dX6_mixedRound_40 ?_
        refine k_callVr (n := 1) (As := [vN (r)]) (rest := []) hm hw hl (c_Num_at l G (P 3) (P 4) 40 gw r (by first | assumption | omega)) gX6_mixedRound_X2_at rfl (by decide +kernel) ⟨by decide, by decide⟩ (ci := 2) rfl 4 rfl [4, 5] (by decide) rfl rfl rfl (by simp [Value.category]) ⟨by decide, by decide⟩ dX6_mixedRound_41 (fun v H locs hp hw => ?_)
        obtain rfl := hp
        refine W.eq (g2 := F0 m 44 ls [vN (gw r)]) rfl ?_
        refine k_rwV (y := vN (w r)) (by rw [hk.1]) ?_
        refine k_istore hm hl [(6, vN (w r)), (0, .ref (o)), (1, .long (lI z)), (3, vN (r)), (4, .long (lI z1))] (by decide) rfl dX6_mixedRound_44 (fun ls hl => ?_)
        refine k_iconstN hm 0 dX6_mixedRound_46 ?_
        refine k_istore hm hl [(7, vN (0)), (6, vN (w r)), (0, .ref (o)), (1, .long (lI z)), (3, vN (r)), (4, .long (lI z1))] (by decide) rfl dX6_mixedRound_47 (fun ls hl => ?_)
        have loop_49 : ∀ (fu : Nat) (z2 : Int) (j : Nat) (hj : j ≤ w r) (hz2 : z2 = mxK (K r) j z1) (H : Heap) (locs : List Loc) (ls : Array Slot), w r - j < fu → kW G A s (wMain G o P h T L M ++ (wPiece G P gk gw gt gy R sp ++ wMk G M mg)) H locs → lv_has ls 8 [(0, .ref (o)), (1, .long (lI z)), (3, vN (r)), (4, .long (lI z2)), (6, vN (w r)), (7, vN (j))] → W p l e { frames := 4, cells := 0, slots := 0, locals := 94 } s m args below meth c H locs 0 0 Qz (F0 m 49 ls []) := by
          intro fu
          induction fu with
          | zero => intro z2 j hj hz2 H locs ls hfu; exact absurd hfu (Nat.not_lt_zero _)
          | succ fu ih_49 =>
            intro z2 j hj hz2 H locs ls hfu hw hl
            refine k_iload hm hl 5 rfl dX6_mixedRound_49 ?_
            refine k_iload hm hl 4 rfl dX6_mixedRound_51 ?_
            refine k_icmpge (tgt := 79) hm dX6_mixedRound_53 (by decide) (by omega) (fun c_3 => ?_) (fun c_3 => ?_)
            · refine k_lload hm hl 3 rfl dX6_mixedRound_79 ?_
              exact k_lret hm hQ rfl hw (⟨_, by unfold mxRow; rw [hz2, hz, show i = 11 by omega, show j = w r by omega], rfl⟩) (by omega) (by omega) dX6_mixedRound_81
            · refine k_lload hm hl 3 rfl dX6_mixedRound_56 ?_
              refine k_aload_n hm hl 0 rfl dX6_mixedRound_58 ?_
              refine k_get (T := TX6) hm hw 0 0 i6 rfl rfl (by decide) (by decide +kernel) rfl dX6_mixedRound_59 ?_
              refine k_iload_n hm hl 2 rfl dX6_mixedRound_62 ?_
              refine k_iload hm hl 5 rfl dX6_mixedRound_63 ?_
              refine k_callVr (n := 2) (As := [vN (r), vN (j)]) (rest := [.long (lI z2)]) hm hw hl (c_kindOf l G P gk gw gt gy R sp K w y r j (by first | assumption | omega) (by first | assumption | omega) (by first | assumption | omega)) gX6_mixedRound_X4_kindOf rfl (by decide +kernel) ⟨by decide, by decide⟩ (ci := 4) rfl 1 rfl [1, 2, 3, 4, 5, 6, 7, 8, 9] (by decide) rfl rfl rfl (by simp [Value.category]) ⟨by decide, by decide⟩ dX6_mixedRound_65 (fun v H locs hp hw => ?_)
              obtain rfl := hp
              refine W.eq (g2 := F0 m 68 ls [vN (K r j), .long (lI z2)]) rfl ?_
              have h2 := hb.2.2 j (by omega)
              refine k_callSr (n := 2) (As := [.long (lI z2), vN (K r j)]) (rest := []) hm hw hl (c_mixed l G z2 ((K r j : Nat) : Int) (by first | assumption | omega)) gX6_mixedRound_X6_mixed rfl (by decide +kernel) ⟨by decide, by decide⟩ [] (by decide) rfl rfl rfl (by simp [Value.category]) ⟨by decide, by decide⟩ dX6_mixedRound_68 (fun v H locs hp hw => ?_)
              obtain rfl := hp
              refine W.eq (g2 := F0 m 71 ls [.long (lI (31 * z2 + ((K r j : Nat) : Int)))]) rfl ?_
              refine k_lstore hm hl [(4, .long (lI (31 * z2 + ((K r j : Nat) : Int)))), (0, .ref (o)), (1, .long (lI z)), (3, vN (r)), (6, vN (w r)), (7, vN (j))] (by decide) rfl dX6_mixedRound_71 (fun ls hl => ?_)
              refine k_iincN hm hl 5 1 rfl [(7, vN (j + 1)), (4, .long (lI (31 * z2 + ((K r j : Nat) : Int)))), (0, .ref (o)), (1, .long (lI z)), (3, vN (r)), (6, vN (w r))] (by decide) rfl dX6_mixedRound_73 (fun ls hl => ?_)
              refine k_goto (tgt := 49) hm dX6_mixedRound_76 (by decide) ?_
              exact ih_49  (31 * z2 + ((K r j : Nat) : Int)) (j + 1) (by first | assumption | omega) (by simp only [mxK]; rw [hz2]) _ _ _ (by omega) hw (lv_sub hl [2, 3, 4, 1, 5, 0] rfl)
        exact loop_49 (w r - 0 + 1) z1 0 (by first | assumption | omega) rfl _ _ _ (Nat.lt_succ_self _) hw (lv_sub hl [2, 3, 4, 5, 1, 0] rfl)
      · refine k_lload hm hl 3 rfl dX6_mixedRound_13 ?_
        refine k_aload_n hm hl 0 rfl dX6_mixedRound_15 ?_
        refine k_iload_n hm hl 2 rfl dX6_mixedRound_16 ?_
        refine k_iload hm hl 4 rfl dX6_mixedRound_17 ?_
        refine k_callV (n := 2) (As := [vN (r), vN (i)]) (rest := [.long (lI z1)]) (wr := []) hm hw hl (c_ofRound l G o h T L M mg P gk gw gt gy R sp K w y r i (by first | assumption | omega) (by first | assumption | omega) (by first | assumption | omega)) gX6_mixedRound_X6_ofRound rfl (by decide +kernel) ⟨by decide, by decide⟩ (ci := 6) rfl 0 rfl [0, 1, 2, 3, 4, 5, 6, 7, 8, 9, 10, 11, 12] [] (by decide) rfl rfl (by decide) (by decide) rfl rfl (by simp [Value.category]) ⟨by decide, by decide⟩ dX6_mixedRound_19 (fun v w1 H locs hp hw => ?_)
        obtain ⟨mf2_7, rfl, rfl⟩ := hp
        have hw := hw.sub (ws' := wMain G o P h T L M ++ (wPiece G P gk gw gt gy R sp ++ wMk G M mf2_7)) [0, 1, 2, 3, 4, 5, 6, 7, 8, 9, 10, 11, 12] (by decide) rfl
        refine W.eq (g2 := F0 m 22 ls [vZ (rv K w y r i), .long (lI z1)]) rfl ?_
        refine k_callSr (n := 2) (As := [.long (lI z1), vZ (rv K w y r i)]) (rest := []) hm hw hl (c_mixed l G z1 (rv K w y r i) (by have := rv_rng hok.1 hr i; omega)) gX6_mixedRound_X6_mixed rfl (by decide +kernel) ⟨by decide, by decide⟩ [] (by decide) rfl rfl rfl (by simp [Value.category]) ⟨by decide, by decide⟩ dX6_mixedRound_22 (fun v H locs hp hw => ?_)
        obtain rfl := hp
        refine W.eq (g2 := F0 m 25 ls [.long (lI (31 * z1 + (rv K w y r i)))]) rfl ?_
        refine k_lstore hm hl [(4, .long (lI (31 * z1 + (rv K w y r i)))), (0, .ref (o)), (1, .long (lI z)), (3, vN (r)), (6, vN (i))] (by decide) rfl dX6_mixedRound_25 (fun ls hl => ?_)
        refine k_iincN hm hl 4 1 rfl [(6, vN (i + 1)), (4, .long (lI (31 * z1 + (rv K w y r i)))), (0, .ref (o)), (1, .long (lI z)), (3, vN (r))] (by decide) rfl dX6_mixedRound_27 (fun ls hl => ?_)
        refine k_goto (tgt := 6) hm dX6_mixedRound_30 (by decide) ?_
        exact ih_6  (31 * z1 + (rv K w y r i)) (i + 1) mf2_7 (by first | assumption | omega) (by simp only [mxR]; rw [hz]) _ _ _ (by omega) hw (lv_sub hl [2, 3, 4, 1, 0] rfl)
  exact loop_6 (11 - 0 + 1) z 0 mf (by first | assumption | omega) rfl _ _ _ (Nat.lt_succ_self _) hw (lv_sub hl [2, 3, 4, 1, 0] rfl)
noncomputable def dg1 (K : Nat → Nat → Nat) (w y : Nat → Nat) (R : Nat) (sp : Bool) : Nat → Int → Int | 0, h => h | n + 1, h => 31 * dg1 K w y R sp n h + val K w y R sp n
def dg2 (y : Nat → Nat) : Nat → Int → Int | 0, h => h | n + 1, h => 31 * dg2 y n h + (y n : Int)
noncomputable def dg3 (K : Nat → Nat → Nat) (w y : Nat → Nat) : Nat → Int → Int | 0, h => h | n + 1, h => mxRow K w y n (dg3 K w y n h)
noncomputable def dgst (K : Nat → Nat → Nat) (w y : Nat → Nat) (R : Nat) (sp : Bool) (tn sz : Nat) : Int := 31 * dg3 K w y R (dg2 y 3 (dg1 K w y R sp 8 (31 * 3637 + (tn : Int)))) + (sz : Int)
set_option maxHeartbeats 4000000 in
set_option maxRecDepth 100000 in
theorem c_digest (l : Launch) (G : kG) (o : Nat) (L : Nat → Nat) (M : Nat → Nat) (mf : Nat → Nat) (h : Nat) (hs : Nat) (Q : Nat → Nat → Nat) (nx : Nat) (sz : Nat) (P : Nat → Nat) (gk : Nat → Nat) (gw : Nat → Nat) (gt : Nat → Nat) (gy : Nat → Nat) (R : Nat) (sp : Bool) (T : Nat → Nat) (tb : Nat → Nat) (tk : Nat → Int) (tc : Nat → Nat) (tn : Nat) (ti : Nat) (tt : Nat) (tu : Nat) (tm : Nat) (tp : Nat) (te : Int) (K : Nat → Nat → Nat) (w : Nat → Nat) (y : Nat → Nat) (hok : POk gk gw gt gy R K w y) (htn : tn ≤ 120) (hsz : sz ≤ 4) : kCM l yX6_digest wsX6_digest 6 138 0 0 G [.ref (o)] (wMain G o P h T L M ++ (wPiece G P gk gw gt gy R sp ++ (wH2 G h hs Q nx sz ++ (wPat G T tb tk tc tn ti tt tu tm tp te ++ wMk G M mf)))) (fun vv uu => ∃ (mf2 : Nat → Nat), vv = some (.long (lI (dgst K w y R sp tn sz))) ∧ uu = wMain G o P h T L M ++ (wPiece G P gk gw gt gy R sp ++ (wH2 G h hs Q nx sz ++ (wPat G T tb tk tc tn ti tt tu tm tp te ++ wMk G M mf2)))) := by
  refine kCM.of (cc := cX6_digest) (maxL := 4) (ret := (some .long)) (by decide) rfl (Nat.le_of_ble_eq_true rfl) ?_
  intro p e s m args below meth c A ls Qz hQ hin hm hw hl
  have hl : lv_has ls 4 [(0, .ref (o))] := hl
  have i0 : ∀ w ∈ wsX00, w ∈ wsX6_digest := by decide +kernel
  have i3 : ∀ w ∈ wsX30, w ∈ wsX6_digest := by decide +kernel
  have i4 : ∀ w ∈ wsX40, w ∈ wsX6_digest := by decide +kernel
  have i6 : ∀ w ∈ wsX60, w ∈ wsX6_digest := by decide +kernel
  have hR := hok.1.1
  refine lv_ldc2 hm.1 hm.2.1 (own := RX6) hm.2.2.2.1 (hm.2.2.2.2.1 (.constantLong RX6 205 (lI 3637)) (by decide +kernel)) dX6_digest_0 ?_
  refine k_aload_n hm hl 0 rfl dX6_digest_3 ?_
  refine k_get (T := TX6) hm hw 0 2 i6 rfl rfl (by decide) (by decide +kernel) rfl dX6_digest_4 ?_
  refine k_get (T := TX3) hm hw 12 3 i3 rfl rfl (by decide) (by decide +kernel) rfl dX6_digest_7 ?_
  refine k_callSr (n := 2) (As := [.long (lI 3637), vN (tn)]) (rest := []) hm hw hl (c_mixed l G 3637 ((tn : Nat) : Int) (by first | assumption | omega)) gX6_digest_X6_mixed rfl (by decide +kernel) ⟨by decide, by decide⟩ [] (by decide) rfl rfl rfl (by simp [Value.category]) ⟨by decide, by decide⟩ dX6_digest_10 (fun v H locs hp hw => ?_)
  obtain rfl := hp
  refine W.eq (g2 := F0 m 13 ls [.long (lI (31 * 3637 + ((tn : Nat) : Int)))]) rfl ?_
  refine k_lstore_n hm hl [(1, .long (lI (31 * 3637 + ((tn : Nat) : Int)))), (0, .ref (o))] (by decide) rfl dX6_digest_13 (fun ls hl => ?_)
  refine k_iconstN hm 0 dX6_digest_14 ?_
  refine k_istore_n hm hl [(3, vN (0)), (1, .long (lI (31 * 3637 + ((tn : Nat) : Int)))), (0, .ref (o))] (by decide) rfl dX6_digest_15 (fun ls hl => ?_)
  have loop_16 : ∀ (fu : Nat) (z1 : Int) (i : Nat) (mg : Nat → Nat) (hi : i ≤ 8) (hz : z1 = dg1 K w y R sp i (31 * 3637 + (tn : Int))) (H : Heap) (locs : List Loc) (ls : Array Slot), 8 - i < fu → kW G A s (wMain G o P h T L M ++ (wPiece G P gk gw gt gy R sp ++ (wH2 G h hs Q nx sz ++ (wPat G T tb tk tc tn ti tt tu tm tp te ++ wMk G M mg)))) H locs → lv_has ls 4 [(0, .ref (o)), (1, .long (lI z1)), (3, vN (i))] → W p l e { frames := 6, cells := 0, slots := 0, locals := 138 } s m args below meth c H locs 0 0 Qz (F0 m 16 ls []) := by
    intro fu
    induction fu with
    | zero => intro z1 i mg hi hz H locs ls hfu; exact absurd hfu (Nat.not_lt_zero _)
    | succ fu ih_16 =>
      intro z1 i mg hi hz H locs ls hfu hw hl
      refine k_iload_n hm hl 2 rfl dX6_digest_16 ?_
      refine k_bipushN hm 7 dX6_digest_17 rfl ?_
      refine k_icmpgt (tgt := 38) hm dX6_digest_19 (by decide) (by omega) (fun c_2 => ?_) (fun c_2 => ?_)
      · refine k_iconstN hm 0 dX6_digest_38 ?_
        refine k_istore_n hm hl [(3, vN (0)), (0, .ref (o)), (1, .long (lI z1))] (by decide) rfl dX6_digest_39 (fun ls hl => ?_)
        have loop_40 : ∀ (fu : Nat) (z2 : Int) (j : Nat) (hj : j ≤ 3) (hz2 : z2 = dg2 y j z1) (H : Heap) (locs : List Loc) (ls : Array Slot), 3 - j < fu → kW G A s (wMain G o P h T L M ++ (wPiece G P gk gw gt gy R sp ++ (wH2 G h hs Q nx sz ++ (wPat G T tb tk tc tn ti tt tu tm tp te ++ wMk G M mg)))) H locs → lv_has ls 4 [(0, .ref (o)), (1, .long (lI z2)), (3, vN (j))] → W p l e { frames := 6, cells := 0, slots := 0, locals := 138 } s m args below meth c H locs 0 0 Qz (F0 m 40 ls []) := by
          intro fu
          induction fu with
          | zero => intro z2 j hj hz2 H locs ls hfu; exact absurd hfu (Nat.not_lt_zero _)
          | succ fu ih_40 =>
            intro z2 j hj hz2 H locs ls hfu hw hl
            refine k_iload_n hm hl 2 rfl dX6_digest_40 ?_
            refine k_iconstN hm 3 dX6_digest_41 ?_
            refine k_icmpge (tgt := 67) hm dX6_digest_42 (by decide) (by omega) (fun c_3 => ?_) (fun c_3 => ?_)
            · refine k_iconstN hm 0 dX6_digest_67 ?_
              refine k_istore_n hm hl [(3, vN (0)), (0, .ref (o)), (1, .long (lI z2))] (by decide) rfl dX6_digest_68 (fun ls hl => ?_)
              have loop_69 : ∀ (fu : Nat) (z3 : Int) (q : Nat) (mh : Nat → Nat) (hq : q ≤ R) (hz3 : z3 = dg3 K w y q z2) (H : Heap) (locs : List Loc) (ls : Array Slot), R - q < fu → kW G A s (wMain G o P h T L M ++ (wPiece G P gk gw gt gy R sp ++ (wH2 G h hs Q nx sz ++ (wPat G T tb tk tc tn ti tt tu tm tp te ++ wMk G M mh)))) H locs → lv_has ls 4 [(0, .ref (o)), (1, .long (lI z3)), (3, vN (q))] → W p l e { frames := 6, cells := 0, slots := 0, locals := 138 } s m args below meth c H locs 0 0 Qz (F0 m 69 ls []) := by
                intro fu
                induction fu with
                | zero => intro z3 q mh hq hz3 H locs ls hfu; exact absurd hfu (Nat.not_lt_zero _)
                | succ fu ih_69 =>
                  intro z3 q mh hq hz3 H locs ls hfu hw hl
                  refine k_iload_n hm hl 2 rfl dX6_digest_69 ?_
                  refine k_aload_n hm hl 0 rfl dX6_digest_70 ?_
                  refine k_get (T := TX6) hm hw 0 0 i6 rfl rfl (by decide) (by decide +kernel) rfl dX6_digest_71 ?_
                  refine k_get (T := TX4) hm hw 1 4 i4 rfl rfl (by decide) (by decide +kernel) rfl dX6_digest_74 ?_
                  refine k_icmpge (tgt := 93) hm dX6_digest_77 (by decide) (by omega) (fun c_4 => ?_) (fun c_4 => ?_)
                  · refine k_lload_n hm hl 1 rfl dX6_digest_93 ?_
                    refine k_aload_n hm hl 0 rfl dX6_digest_94 ?_
                    refine k_get (T := TX6) hm hw 0 1 i6 rfl rfl (by decide) (by decide +kernel) rfl dX6_digest_95 ?_
                    refine k_get (T := TX0) hm hw 10 2 i0 rfl rfl (by decide) (by decide +kernel) rfl dX6_digest_98 ?_
                    refine k_callSr (n := 2) (As := [.long (lI z3), vN (sz)]) (rest := []) hm hw hl (c_mixed l G z3 ((sz : Nat) : Int) (by first | assumption | omega)) gX6_digest_X6_mixed rfl (by decide +kernel) ⟨by decide, by decide⟩ [] (by decide) rfl rfl rfl (by simp [Value.category]) ⟨by decide, by decide⟩ dX6_digest_101 (fun v H locs hp hw => ?_)
                    obtain rfl := hp
                    refine W.eq (g2 := F0 m 104 ls [.long (lI (31 * z3 + ((sz : Nat) : Int)))]) rfl ?_
                    exact k_lret hm hQ rfl hw (⟨_, by unfold dgst; rw [hz3, hz2, hz, show i = 8 by omega, show j = 3 by omega, show q = R by omega], rfl⟩) (by omega) (by omega) dX6_digest_104
                  · refine k_aload_n hm hl 0 rfl dX6_digest_80 ?_
                    refine k_lload_n hm hl 1 rfl dX6_digest_81 ?_
                    refine k_iload_n hm hl 2 rfl dX6_digest_82 ?_
                    refine k_callV (n := 2) (As := [.long (lI z3), vN (q)]) (rest := []) (wr := [(h, .inr (0, [.ref (hs), vN (nx), vN (sz)])), (hs, .inl (G.2 2, 4, .inr (.inr (.inr (.inr (fun j => some (Q j 0))))))), (T 0, .inr (3, [.ref (T 1), .ref (T 3), .ref (T 5), vN (tn), vN (ti), vN (tt), vN (tu), vN (tm), vN (tp), vZ (te)])), (T 1, .inr (2, [.ref (T 2)])), (T 2, .inl (G.2 0, 120, .inl (nF tb))), (T 3, .inr (2, [.ref (T 4)])), (T 4, .inl (G.2 0, 60, .inl (iF tk))), (T 5, .inr (2, [.ref (T 6)])), (T 6, .inl (G.2 0, 60, .inl (nF tc)))]) hm hw hl (c_mixedRound l G o h T L M mh P gk gw gt gy R sp K w y z3 q (by first | assumption | omega) (by first | assumption | omega)) gX6_digest_X6_mixedRound rfl (by decide +kernel) ⟨by decide, by decide⟩ (ci := 6) rfl 0 rfl [0, 1, 2, 3, 4, 5, 6, 7, 8, 9, 19, 20, 21] [10, 11, 12, 13, 14, 15, 16, 17, 18] (by decide) rfl rfl (by decide) (by decide) rfl rfl (by simp [Value.category]) ⟨by decide, by decide⟩ dX6_digest_83 (fun v w1 H locs hp hw => ?_)
                    obtain ⟨mf2_7, rfl, rfl⟩ := hp
                    have hw := hw.sub (ws' := wMain G o P h T L M ++ (wPiece G P gk gw gt gy R sp ++ (wH2 G h hs Q nx sz ++ (wPat G T tb tk tc tn ti tt tu tm tp te ++ wMk G M mf2_7)))) [9, 10, 11, 12, 13, 14, 15, 16, 17, 18, 0, 1, 2, 3, 4, 5, 6, 7, 8, 19, 20, 21] (by decide) rfl
                    refine W.eq (g2 := F0 m 86 ls [.long (lI (mxRow K w y q z3))]) rfl ?_
                    refine k_lstore_n hm hl [(1, .long (lI (mxRow K w y q z3))), (0, .ref (o)), (3, vN (q))] (by decide) rfl dX6_digest_86 (fun ls hl => ?_)
                    refine k_iincN hm hl 2 1 rfl [(3, vN (q + 1)), (1, .long (lI (mxRow K w y q z3))), (0, .ref (o))] (by decide) rfl dX6_digest_87 (fun ls hl => ?_)
                    refine k_goto (tgt := 69) hm dX6_digest_90 (by decide) ?_
                    exact ih_69  (mxRow K w y q z3) (q + 1) mf2_7 (by first | assumption | omega) (by simp only [dg3]; rw [hz3]) _ _ _ (by omega) hw (lv_sub hl [2, 1, 0] rfl)
              exact loop_69 (R - 0 + 1) z2 0 mg (by first | assumption | omega) rfl _ _ _ (Nat.lt_succ_self _) hw (lv_sub hl [1, 2, 0] rfl)
            · refine k_lload_n hm hl 1 rfl dX6_digest_45 ?_
              refine k_aload_n hm hl 0 rfl dX6_digest_46 ?_
              refine k_get (T := TX6) hm hw 0 0 i6 rfl rfl (by decide) (by decide +kernel) rfl dX6_digest_47 ?_
              refine k_get (T := TX4) hm hw 1 3 i4 rfl rfl (by decide) (by decide +kernel) rfl dX6_digest_50 ?_
              refine k_iload_n hm hl 2 rfl dX6_digest_53 ?_
              refine k_callVr (n := 1) (As := [vN (j)]) (rest := [.long (lI z2)]) hm hw hl (c_Num_at l G (P 7) (P 8) 3 gy j (by first | assumption | omega)) gX6_digest_X2_at rfl (by decide +kernel) ⟨by decide, by decide⟩ (ci := 2) rfl 8 rfl [8, 9] (by decide) rfl rfl rfl (by simp [Value.category]) ⟨by decide, by decide⟩ dX6_digest_54 (fun v H locs hp hw => ?_)
              obtain rfl := hp
              refine W.eq (g2 := F0 m 57 ls [vN (gy j), .long (lI z2)]) rfl ?_
              refine k_rwV (y := vN (y j)) (by rw [hok.2.2 j (by omega)]) ?_
              have hyj := hok.1.2.2.2.1 j (by omega)
              refine k_callSr (n := 2) (As := [.long (lI z2), vN (y j)]) (rest := []) hm hw hl (c_mixed l G z2 ((y j : Nat) : Int) (by first | assumption | omega)) gX6_digest_X6_mixed rfl (by decide +kernel) ⟨by decide, by decide⟩ [] (by decide) rfl rfl rfl (by simp [Value.category]) ⟨by decide, by decide⟩ dX6_digest_57 (fun v H locs hp hw => ?_)
              obtain rfl := hp
              refine W.eq (g2 := F0 m 60 ls [.long (lI (31 * z2 + ((y j : Nat) : Int)))]) rfl ?_
              refine k_lstore_n hm hl [(1, .long (lI (31 * z2 + ((y j : Nat) : Int)))), (0, .ref (o)), (3, vN (j))] (by decide) rfl dX6_digest_60 (fun ls hl => ?_)
              refine k_iincN hm hl 2 1 rfl [(3, vN (j + 1)), (1, .long (lI (31 * z2 + ((y j : Nat) : Int)))), (0, .ref (o))] (by decide) rfl dX6_digest_61 (fun ls hl => ?_)
              refine k_goto (tgt := 40) hm dX6_digest_64 (by decide) ?_
              exact ih_40  (31 * z2 + ((y j : Nat) : Int)) (j + 1) (by first | assumption | omega) (by simp only [dg2]; rw [hz2]) _ _ _ (by omega) hw (lv_sub hl [2, 1, 0] rfl)
        exact loop_40 (3 - 0 + 1) z1 0 (by first | assumption | omega) rfl _ _ _ (Nat.lt_succ_self _) hw (lv_sub hl [1, 2, 0] rfl)
      · refine k_lload_n hm hl 1 rfl dX6_digest_22 ?_
        refine k_aload_n hm hl 0 rfl dX6_digest_23 ?_
        refine k_iload_n hm hl 2 rfl dX6_digest_24 ?_
        refine k_callV (n := 1) (As := [vN (i)]) (rest := [.long (lI z1)]) (wr := [(h, .inr (0, [.ref (hs), vN (nx), vN (sz)])), (hs, .inl (G.2 2, 4, .inr (.inr (.inr (.inr (fun j => some (Q j 0))))))), (T 0, .inr (3, [.ref (T 1), .ref (T 3), .ref (T 5), vN (tn), vN (ti), vN (tt), vN (tu), vN (tm), vN (tp), vZ (te)])), (T 1, .inr (2, [.ref (T 2)])), (T 2, .inl (G.2 0, 120, .inl (nF tb))), (T 3, .inr (2, [.ref (T 4)])), (T 4, .inl (G.2 0, 60, .inl (iF tk))), (T 5, .inr (2, [.ref (T 6)])), (T 6, .inl (G.2 0, 60, .inl (nF tc)))]) hm hw hl (c_value_ok l G o h T L M mg P gk gw gt gy R sp K w y i (by first | assumption | omega) (by first | assumption | omega)) gX6_digest_X6_value rfl (by decide +kernel) ⟨by decide, by decide⟩ (ci := 6) rfl 0 rfl [0, 1, 2, 3, 4, 5, 6, 7, 8, 9, 19, 20, 21] [10, 11, 12, 13, 14, 15, 16, 17, 18] (by decide) rfl rfl (by decide) (by decide) rfl rfl (by simp [Value.category]) ⟨by decide, by decide⟩ dX6_digest_25 (fun v w1 H locs hp hw => ?_)
        obtain ⟨mf2_11, rfl, rfl⟩ := hp
        have hw := hw.sub (ws' := wMain G o P h T L M ++ (wPiece G P gk gw gt gy R sp ++ (wH2 G h hs Q nx sz ++ (wPat G T tb tk tc tn ti tt tu tm tp te ++ wMk G M mf2_11)))) [9, 10, 11, 12, 13, 14, 15, 16, 17, 18, 0, 1, 2, 3, 4, 5, 6, 7, 8, 19, 20, 21] (by decide) rfl
        refine W.eq (g2 := F0 m 28 ls [vZ (val K w y R sp i), .long (lI z1)]) rfl ?_
        refine k_callSr (n := 2) (As := [.long (lI z1), vZ (val K w y R sp i)]) (rest := []) hm hw hl (c_mixed l G z1 (val K w y R sp i) (by have := val_rng hok.1 sp i; omega)) gX6_digest_X6_mixed rfl (by decide +kernel) ⟨by decide, by decide⟩ [] (by decide) rfl rfl rfl (by simp [Value.category]) ⟨by decide, by decide⟩ dX6_digest_28 (fun v H locs hp hw => ?_)
        obtain rfl := hp
        refine W.eq (g2 := F0 m 31 ls [.long (lI (31 * z1 + (val K w y R sp i)))]) rfl ?_
        refine k_lstore_n hm hl [(1, .long (lI (31 * z1 + (val K w y R sp i)))), (0, .ref (o)), (3, vN (i))] (by decide) rfl dX6_digest_31 (fun ls hl => ?_)
        refine k_iincN hm hl 2 1 rfl [(3, vN (i + 1)), (1, .long (lI (31 * z1 + (val K w y R sp i)))), (0, .ref (o))] (by decide) rfl dX6_digest_32 (fun ls hl => ?_)
        refine k_goto (tgt := 16) hm dX6_digest_35 (by decide) ?_
        exact ih_16  (31 * z1 + (val K w y R sp i)) (i + 1) mf2_11 (by first | assumption | omega) (by simp only [dg1]; rw [hz]) _ _ _ (by omega) hw (lv_sub hl [2, 1, 0] rfl)
  exact loop_16 (8 - 0 + 1) (31 * 3637 + ((tn : Nat) : Int)) 0 mf (by first | assumption | omega) rfl _ _ _ (Nat.lt_succ_self _) hw (lv_sub hl [2, 1, 0] rfl)
