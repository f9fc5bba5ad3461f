theorem bt_lt {tb : Nat → Nat} {tn p : Nat} (h : 0 ≤ bt tb tn p) : p < tn := by
  by_cases q : p < tn
  · exact q
  · unfold bt at h; rw [if_neg q] at h; omega
set_option maxHeartbeats 4000000 in
set_option maxRecDepth 100000 in
theorem c_readRound (l : Launch) (G : kG) (T : Nat → Nat) (tb : Nat → Nat) (tk : Nat → Int) (tc : Nat → Nat) (tn : Nat) (ti : Nat) (tt : Nat) (tu : Nat) (tm : Nat) (tp : Nat) (te : Int) (htn : tn ≤ 120) (htp : tp ≤ tn) (htb : ∀ i, i < tn → tb i ≤ 127) : kCM l yX3_readRound wsX3_readRound 4 87 0 0 G [.ref (T 0)] (wPat G T tb tk tc tn ti tt tu tm tp (-1)) (fun vv uu => ∃ (tk2 : Nat → Int), ∃ (tc2 : Nat → Nat), ∃ (m2 : Nat), ∃ (t2 : Nat), ∃ (tu2 : Nat), ∃ (tm2 : Nat), ∃ (tp2 : Nat), ∃ (z2 : Int), vv = none ∧ uu = wPat G T tb tk2 tc2 tn m2 t2 tu2 tm2 tp2 z2 ∧ ((z2 = -1 ∧ rdOk tb tn tp m2 t2 tp2 ∧ tp2 ≤ tn ∧ tu2 = uS tb tn tp m2 * t2 ∧ tm2 = mS tb tn tp m2 * t2 ∧ ∀ j, j < m2 → tk2 j = ikF tb tn tp j ∧ tc2 j = icF tb tn tp j) ∨ (rdEr tb tn tp z2 ∧ 0 ≤ z2 ∧ z2 ≤ (tn : Int)))) := by
  refine kCM.of (cc := cX3_readRound) (maxL := 2) (ret := none) (by decide) rfl (Nat.le_of_ble_eq_true rfl) ?_
  intro p e s m args below meth c A ls Qz hQ hin hm hw hl
  have hl : lv_has ls 2 [(0, .ref (T 0))] := hl
  have i3 : ∀ w ∈ wsX30, w ∈ wsX3_readRound := by decide +kernel
  refine k_aload_n hm hl 0 rfl dX3_readRound_0 ?_
  refine k_iconstN hm 0 dX3_readRound_1 ?_
  refine k_put (T := TX3) hm hw 0 4 (wPat G T tb tk tc tn 0 tt tu tm tp (-1)) i3 tyX3 tyX3_ok nmX3 rfl rfl (by decide) (by decide +kernel) rfl (tyX3_ok 4 (by decide)) rfl rfl (Nat.le_of_ble_eq_true rfl) rfl dX3_readRound_2 (fun H locs hw => ?_)
  refine k_aload_n hm hl 0 rfl dX3_readRound_5 ?_
  refine k_iconstN hm 1 dX3_readRound_6 ?_
  refine k_put (T := TX3) hm hw 0 5 (wPat G T tb tk tc tn 0 1 tu tm tp (-1)) i3 tyX3 tyX3_ok nmX3 rfl rfl (by decide) (by decide +kernel) rfl (tyX3_ok 5 (by decide)) rfl rfl (Nat.le_of_ble_eq_true rfl) rfl dX3_readRound_7 (fun H locs hw => ?_)
  refine k_aload_n hm hl 0 rfl dX3_readRound_10 ?_
  refine k_iconstN hm 0 dX3_readRound_11 ?_
  refine k_put (T := TX3) hm hw 0 6 (wPat G T tb tk tc tn 0 1 0 tm tp (-1)) i3 tyX3 tyX3_ok nmX3 rfl rfl (by decide) (by decide +kernel) rfl (tyX3_ok 6 (by decide)) rfl rfl (Nat.le_of_ble_eq_true rfl) rfl dX3_readRound_12 (fun H locs hw => ?_)
  refine k_aload_n hm hl 0 rfl dX3_readRound_15 ?_
  refine k_iconstN hm 0 dX3_readRound_16 ?_
  refine k_put (T := TX3) hm hw 0 7 (wPat G T tb tk tc tn 0 1 0 0 tp (-1)) i3 tyX3 tyX3_ok nmX3 rfl rfl (by decide) (by decide +kernel) rfl (tyX3_ok 7 (by decide)) rfl rfl (Nat.le_of_ble_eq_true rfl) rfl dX3_readRound_17 (fun H locs hw => ?_)
  refine k_aload_n hm hl 0 rfl dX3_readRound_20 ?_
  rcases Classical.em (itOk tb tn tp) with hI | hI
  · refine k_callV (n := 0) (As := []) (rest := []) (wr := []) hm hw hl (c_readItem_ok l G T tb tk tc tn 0 1 0 0 tp te (by first | assumption | omega) (by first | assumption | omega) (by first | assumption | omega) (by first | assumption | omega) hI) gX3_readRound_X3_readItem rfl (by decide +kernel) ⟨by decide, by decide⟩ (ci := 3) rfl 0 rfl [0, 1, 2, 3, 4, 5, 6] [] (by decide) rfl rfl (by decide) (by decide) rfl rfl (by simp [Value.category]) ⟨by decide, by decide⟩ dX3_readRound_21 (fun v w1 H locs hp hw => ?_)
    obtain ⟨rfl, rfl⟩ := hp
    have hw := hw.sub (ws' := wPat G T tb (zU tk 0 (kdB (bt tb tn tp))) (nU tc 0 (nV tb tn 3 (tp + 1))) tn (0 + 1) 1 (0 + nV tb tn 3 (tp + 1) * usZ (kdB (bt tb tn tp))) (0 + nV tb tn 3 (tp + 1) * mdZ (kdB (bt tb tn tp))) (nxI tb tn tp) (-1)) [0, 1, 2, 3, 4, 5, 6] (by decide) rfl
    refine W.eq (g2 := F0 m 24 ls []) rfl ?_
    refine k_iconstN hm 1 dX3_readRound_24 ?_
    refine k_istore_n hm hl [(1, vN (1)), (0, .ref (T 0))] (by decide) rfl dX3_readRound_25 (fun ls hl => ?_)
    have loop_26 : ∀ (fu : Nat) (i : Nat) (tk1 : Nat → Int) (tc1 : Nat → Nat) (hi : 1 ≤ i ∧ i ≤ 60) (h1 : ∀ j, j < i → itOk tb tn (ipF tb tn tp j)) (h2 : ∀ j, j < i → tk1 j = ikF tb tn tp j ∧ tc1 j = icF tb tn tp j) (H : Heap) (locs : List Loc) (ls : Array Slot), 60 - i < fu → kW G A s (wPat G T tb tk1 tc1 tn i 1 (uS tb tn tp i) (mS tb tn tp i) (ipF tb tn tp i) (-1)) H locs → lv_has ls 2 [(0, .ref (T 0)), (1, vN (i))] → W p l e { frames := 4, cells := 0, slots := 0, locals := 87 } s m args below meth c H locs 0 0 Qz (F0 m 26 ls []) := by
      intro fu
      induction fu with
      | zero => intro i tk1 tc1 hi h1 h2 H locs ls hfu; exact absurd hfu (Nat.not_lt_zero _)
      | succ fu ih_26 =>
        intro i tk1 tc1 hi h1 h2 H locs ls hfu hw hl
        refine k_iload_n hm hl 1 rfl dX3_readRound_26 ?_
        refine k_bipushN hm 60 dX3_readRound_27 rfl ?_
        refine k_icmpge (tgt := 61) hm dX3_readRound_29 (by decide) (by omega) (fun c_2 => ?_) (fun c_2 => ?_)
        · have hr2 := ipF_rng htp h1
          have hkd : kdB (bt tb tn (ipF tb tn tp i)) = -1 := by unfold bt; rw [if_neg (by omega)]; rfl
          refine k_aload_n hm hl 0 rfl dX3_readRound_61 ?_
          refine k_get (T := TX3) hm hw 0 9 i3 rfl rfl (by decide) (by decide +kernel) rfl dX3_readRound_62 ?_
          refine k_iconst (n := -1) hm dX3_readRound_65 ?_
          refine k_icmpne (tgt := 99) hm dX3_readRound_66 (by decide) (by omega) (fun c_3 => absurd c_3 (by omega)) (fun c_3 => ?_)
          refine k_aload_n hm hl 0 rfl dX3_readRound_69 ?_
          refine k_callVr (n := 0) (As := []) (rest := []) hm hw hl (c_ahead l G T tb tk1 tc1 tn i 1 (uS tb tn tp i) (mS tb tn tp i) (ipF tb tn tp i) (-1) (by first | assumption | omega) (by first | assumption | omega)) gX3_readRound_X3_ahead rfl (by decide +kernel) ⟨by decide, by decide⟩ (ci := 3) rfl 0 rfl [0, 1, 2, 3, 4, 5, 6] (by decide) rfl rfl rfl (by simp [Value.category]) ⟨by decide, by decide⟩ dX3_readRound_70 (fun v H locs hp hw => ?_)
          obtain rfl := hp
          refine W.eq (g2 := F0 m 73 ls [vZ (bt tb tn (ipF tb tn tp i))]) rfl ?_
          have hb8 := bt_rng (p := ipF tb tn tp i) htb
          refine k_bipushN hm 42 dX3_readRound_73 rfl ?_
          refine k_icmpne (tgt := 99) hm dX3_readRound_75 (by decide) (by omega) (fun c_5 => ?_) (fun c_5 => ?_)
          · refine k_aload_n hm hl 0 rfl dX3_readRound_99 ?_
            refine k_dup hm dX3_readRound_100 rfl ?_
            refine k_get (T := TX3) hm hw 0 6 i3 rfl rfl (by decide) (by decide +kernel) rfl dX3_readRound_101 ?_
            refine k_aload_n hm hl 0 rfl dX3_readRound_104 ?_
            refine k_get (T := TX3) hm hw 0 5 i3 rfl rfl (by decide) (by decide +kernel) rfl dX3_readRound_105 ?_
            refine k_imulN hm dX3_readRound_108 ?_
            refine k_put (T := TX3) hm hw 0 6 (wPat G T tb tk1 tc1 tn i 1 ((uS tb tn tp i) * 1) (mS tb tn tp i) (ipF tb tn tp i) (-1)) i3 tyX3 tyX3_ok nmX3 rfl rfl (by decide) (by decide +kernel) rfl (tyX3_ok 6 (by decide)) rfl rfl (Nat.le_of_ble_eq_true rfl) rfl dX3_readRound_109 (fun H locs hw => ?_)
            refine k_aload_n hm hl 0 rfl dX3_readRound_112 ?_
            refine k_dup hm dX3_readRound_113 rfl ?_
            refine k_get (T := TX3) hm hw 0 7 i3 rfl rfl (by decide) (by decide +kernel) rfl dX3_readRound_114 ?_
            refine k_aload_n hm hl 0 rfl dX3_readRound_117 ?_
            refine k_get (T := TX3) hm hw 0 5 i3 rfl rfl (by decide) (by decide +kernel) rfl dX3_readRound_118 ?_
            refine k_imulN hm dX3_readRound_121 ?_
            refine k_put (T := TX3) hm hw 0 7 (wPat G T tb tk1 tc1 tn i 1 ((uS tb tn tp i) * 1) ((mS tb tn tp i) * 1) (ipF tb tn tp i) (-1)) i3 tyX3 tyX3_ok nmX3 rfl rfl (by decide) (by decide +kernel) rfl (tyX3_ok 7 (by decide)) rfl rfl (Nat.le_of_ble_eq_true rfl) rfl dX3_readRound_122 (fun H locs hw => ?_)
            refine k_aload_n hm hl 0 rfl dX3_readRound_125 ?_
            refine k_aload_n hm hl 0 rfl dX3_readRound_126 ?_
            refine k_callVr (n := 0) (As := []) (rest := [.ref (T 0)]) hm hw hl (c_ahead l G T tb tk1 tc1 tn i 1 ((uS tb tn tp i) * 1) ((mS tb tn tp i) * 1) (ipF tb tn tp i) (-1) (by first | assumption | omega) (by first | assumption | omega)) gX3_readRound_X3_ahead rfl (by decide +kernel) ⟨by decide, by decide⟩ (ci := 3) rfl 0 rfl [0, 1, 2, 3, 4, 5, 6] (by decide) rfl rfl rfl (by simp [Value.category]) ⟨by decide, by decide⟩ dX3_readRound_127 (fun v H locs hp hw => ?_)
            obtain rfl := hp
            refine W.eq (g2 := F0 m 130 ls [vZ (bt tb tn (ipF tb tn tp i)), .ref (T 0)]) rfl ?_
            have hb9 := bt_rng (p := ipF tb tn tp i) htb
            refine k_bipushN hm 59 dX3_readRound_130 rfl ?_
            refine k_icmpne (tgt := 139) hm dX3_readRound_132 (by decide) (by omega) (fun c_7 => ?_) (fun c_7 => ?_)
            · refine k_iconstN hm 0 dX3_readRound_139 ?_
              refine k_callV (n := 1) (As := [vN (0)]) (rest := []) (wr := []) hm hw hl (c_pass_f l G T tb tk1 tc1 tn i 1 ((uS tb tn tp i) * 1) ((mS tb tn tp i) * 1) (ipF tb tn tp i) te) gX3_readRound_X3_pass rfl (by decide +kernel) ⟨by decide, by decide⟩ (ci := 3) rfl 0 rfl [0, 1, 2, 3, 4, 5, 6] [] (by decide) rfl rfl (by decide) (by decide) rfl rfl (by simp [Value.category]) ⟨by decide, by decide⟩ dX3_readRound_140 (fun v w1 H locs hp hw => ?_)
              obtain ⟨rfl, rfl⟩ := hp
              have hw := hw.sub (ws' := wPat G T tb tk1 tc1 tn i 1 ((uS tb tn tp i) * 1) ((mS tb tn tp i) * 1) (ipF tb tn tp i) (((ipF tb tn tp i) : Nat) : Int)) [0, 1, 2, 3, 4, 5, 6] (by decide) rfl
              refine W.eq (g2 := F0 m 143 ls []) rfl ?_
              exact k_vret hm hQ rfl hw (⟨_, _, _, _, _, _, _, _, rfl, rfl, Or.inr ⟨Or.inr ⟨i, hi.1, h1, hkd, Or.inr (Or.inr ⟨by omega, by omega, rfl⟩)⟩, by omega, by omega⟩⟩) (by omega) (by omega) dX3_readRound_143
            · refine k_iconstN hm 1 dX3_readRound_135 ?_
              refine k_goto (tgt := 140) hm dX3_readRound_136 (by decide) ?_
              refine k_callV (n := 1) (As := [vN (1)]) (rest := []) (wr := []) hm hw hl (c_pass_t l G T tb tk1 tc1 tn i 1 ((uS tb tn tp i) * 1) ((mS tb tn tp i) * 1) (ipF tb tn tp i) te) gX3_readRound_X3_pass rfl (by decide +kernel) ⟨by decide, by decide⟩ (ci := 3) rfl 0 rfl [0, 1, 2, 3, 4, 5, 6] [] (by decide) rfl rfl (by decide) (by decide) rfl rfl (by simp [Value.category]) ⟨by decide, by decide⟩ dX3_readRound_140 (fun v w1 H locs hp hw => ?_)
              obtain ⟨rfl, rfl⟩ := hp
              have hw := hw.sub (ws' := wPat G T tb tk1 tc1 tn i 1 ((uS tb tn tp i) * 1) ((mS tb tn tp i) * 1) ((ipF tb tn tp i) + 1) (-1)) [0, 1, 2, 3, 4, 5, 6] (by decide) rfl
              refine W.eq (g2 := F0 m 143 ls []) rfl ?_
              exact k_vret hm hQ rfl hw (⟨_, _, _, _, _, _, _, _, rfl, rfl, Or.inl ⟨rfl, ⟨hi.1, h1, hkd, Or.inr ⟨by omega, rfl, rfl⟩⟩, by have := bt_lt (show 0 ≤ bt tb tn (ipF tb tn tp i) by omega); omega, rfl, rfl, h2⟩⟩) (by omega) (by omega) dX3_readRound_143
          · have h42 : bt tb tn (ipF tb tn tp i) = 42 := by omega
            have hlt := bt_lt (show 0 ≤ bt tb tn (ipF tb tn tp i) by omega)
            refine k_aload_n hm hl 0 rfl dX3_readRound_78 ?_
            refine k_dup hm dX3_readRound_79 rfl ?_
            refine k_get (T := TX3) hm hw 0 8 i3 rfl rfl (by decide) (by decide +kernel) rfl dX3_readRound_80 ?_
            refine k_iconstN hm 1 dX3_readRound_83 ?_
            refine k_iaddN hm dX3_readRound_84 ?_
            refine k_put (T := TX3) hm hw 0 8 (wPat G T tb tk1 tc1 tn i 1 (uS tb tn tp i) (mS tb tn tp i) ((ipF tb tn tp i) + 1) (-1)) i3 tyX3 tyX3_ok nmX3 rfl rfl (by decide) (by decide +kernel) rfl (tyX3_ok 8 (by decide)) rfl rfl (Nat.le_of_ble_eq_true rfl) rfl dX3_readRound_85 (fun H locs hw => ?_)
            refine k_aload_n hm hl 0 rfl dX3_readRound_88 ?_
            refine k_aload_n hm hl 0 rfl dX3_readRound_89 ?_
            refine k_iconstN hm 2 dX3_readRound_90 ?_
            refine k_bipushN hm 60 dX3_readRound_91 rfl ?_
            rcases Classical.em (nOk tb tn 2 60 (ipF tb tn tp i + 1)) with hN | hN
            · have hE2 := nE_le (tx := tb) (n := tn) (k := 2) (p := ipF tb tn tp i + 1) (by omega)
              refine k_callV (n := 2) (As := [vN (2), vN (60)]) (rest := [.ref (T 0)]) (wr := []) hm hw hl (c_readNumber_ok l G T tb tk1 tc1 tn i 1 (uS tb tn tp i) (mS tb tn tp i) ((ipF tb tn tp i) + 1) te 2 60 (by first | assumption | omega) (by first | assumption | omega) (by first | assumption | omega) (by first | assumption | omega) (by first | assumption | omega)) gX3_readRound_X3_readNumber rfl (by decide +kernel) ⟨by decide, by decide⟩ (ci := 3) rfl 0 rfl [0, 1, 2, 3, 4, 5, 6] [] (by decide) rfl rfl (by decide) (by decide) rfl rfl (by simp [Value.category]) ⟨by decide, by decide⟩ dX3_readRound_93 (fun v w1 H locs hp hw => ?_)
              obtain ⟨rfl, rfl⟩ := hp
              have hw := hw.sub (ws' := wPat G T tb tk1 tc1 tn i 1 (uS tb tn tp i) (mS tb tn tp i) (nE tb tn 2 ((ipF tb tn tp i) + 1)) (-1)) [0, 1, 2, 3, 4, 5, 6] (by decide) rfl
              refine W.eq (g2 := F0 m 96 ls [vN (nV tb tn 2 ((ipF tb tn tp i) + 1)), .ref (T 0)]) rfl ?_
              refine k_put (T := TX3) hm hw 0 5 (wPat G T tb tk1 tc1 tn i (nV tb tn 2 ((ipF tb tn tp i) + 1)) (uS tb tn tp i) (mS tb tn tp i) (nE tb tn 2 ((ipF tb tn tp i) + 1)) (-1)) i3 tyX3 tyX3_ok nmX3 rfl rfl (by decide) (by decide +kernel) rfl (tyX3_ok 5 (by decide)) rfl rfl (Nat.le_of_ble_eq_true rfl) rfl dX3_readRound_96 (fun H locs hw => ?_)
              refine k_aload_n hm hl 0 rfl dX3_readRound_99 ?_
              refine k_dup hm dX3_readRound_100 rfl ?_
              refine k_get (T := TX3) hm hw 0 6 i3 rfl rfl (by decide) (by decide +kernel) rfl dX3_readRound_101 ?_
              refine k_aload_n hm hl 0 rfl dX3_readRound_104 ?_
              refine k_get (T := TX3) hm hw 0 5 i3 rfl rfl (by decide) (by decide +kernel) rfl dX3_readRound_105 ?_
              refine k_imulN hm dX3_readRound_108 ?_
              refine k_put (T := TX3) hm hw 0 6 (wPat G T tb tk1 tc1 tn i (nV tb tn 2 ((ipF tb tn tp i) + 1)) ((uS tb tn tp i) * (nV tb tn 2 ((ipF tb tn tp i) + 1))) (mS tb tn tp i) (nE tb tn 2 ((ipF tb tn tp i) + 1)) (-1)) i3 tyX3 tyX3_ok nmX3 rfl rfl (by decide) (by decide +kernel) rfl (tyX3_ok 6 (by decide)) rfl rfl (Nat.le_of_ble_eq_true rfl) rfl dX3_readRound_109 (fun H locs hw => ?_)
              refine k_aload_n hm hl 0 rfl dX3_readRound_112 ?_
              refine k_dup hm dX3_readRound_113 rfl ?_
              refine k_get (T := TX3) hm hw 0 7 i3 rfl rfl (by decide) (by decide +kernel) rfl dX3_readRound_114 ?_
              refine k_aload_n hm hl 0 rfl dX3_readRound_117 ?_
              refine k_get (T := TX3) hm hw 0 5 i3 rfl rfl (by decide) (by decide +kernel) rfl dX3_readRound_118 ?_
              refine k_imulN hm dX3_readRound_121 ?_
              refine k_put (T := TX3) hm hw 0 7 (wPat G T tb tk1 tc1 tn i (nV tb tn 2 ((ipF tb tn tp i) + 1)) ((uS tb tn tp i) * (nV tb tn 2 ((ipF tb tn tp i) + 1))) ((mS tb tn tp i) * (nV tb tn 2 ((ipF tb tn tp i) + 1))) (nE tb tn 2 ((ipF tb tn tp i) + 1)) (-1)) i3 tyX3 tyX3_ok nmX3 rfl rfl (by decide) (by decide +kernel) rfl (tyX3_ok 7 (by decide)) rfl rfl (Nat.le_of_ble_eq_true rfl) rfl dX3_readRound_122 (fun H locs hw => ?_)
              refine k_aload_n hm hl 0 rfl dX3_readRound_125 ?_
              refine k_aload_n hm hl 0 rfl dX3_readRound_126 ?_
              refine k_callVr (n := 0) (As := []) (rest := [.ref (T 0)]) hm hw hl (c_ahead l G T tb tk1 tc1 tn i (nV tb tn 2 ((ipF tb tn tp i) + 1)) ((uS tb tn tp i) * (nV tb tn 2 ((ipF tb tn tp i) + 1))) ((mS tb tn tp i) * (nV tb tn 2 ((ipF tb tn tp i) + 1))) (nE tb tn 2 ((ipF tb tn tp i) + 1)) (-1) (by first | assumption | omega) (by first | assumption | omega)) gX3_readRound_X3_ahead rfl (by decide +kernel) ⟨by decide, by decide⟩ (ci := 3) rfl 0 rfl [0, 1, 2, 3, 4, 5, 6] (by decide) rfl rfl rfl (by simp [Value.category]) ⟨by decide, by decide⟩ dX3_readRound_127 (fun v H locs hp hw => ?_)
              obtain rfl := hp
              refine W.eq (g2 := F0 m 130 ls [vZ (bt tb tn (nE tb tn 2 ((ipF tb tn tp i) + 1))), .ref (T 0)]) rfl ?_
              have hb9 := bt_rng (p := nE tb tn 2 ((ipF tb tn tp i) + 1)) htb
              refine k_bipushN hm 59 dX3_readRound_130 rfl ?_
              refine k_icmpne (tgt := 139) hm dX3_readRound_132 (by decide) (by omega) (fun c_12 => ?_) (fun c_12 => ?_)
              · refine k_iconstN hm 0 dX3_readRound_139 ?_
                refine k_callV (n := 1) (As := [vN (0)]) (rest := []) (wr := []) hm hw hl (c_pass_f l G T tb tk1 tc1 tn i (nV tb tn 2 ((ipF tb tn tp i) + 1)) ((uS tb tn tp i) * (nV tb tn 2 ((ipF tb tn tp i) + 1))) ((mS tb tn tp i) * (nV tb tn 2 ((ipF tb tn tp i) + 1))) (nE tb tn 2 ((ipF tb tn tp i) + 1)) te) gX3_readRound_X3_pass rfl (by decide +kernel) ⟨by decide, by decide⟩ (ci := 3) rfl 0 rfl [0, 1, 2, 3, 4, 5, 6] [] (by decide) rfl rfl (by decide) (by decide) rfl rfl (by simp [Value.category]) ⟨by decide, by decide⟩ dX3_readRound_140 (fun v w1 H locs hp hw => ?_)
                obtain ⟨rfl, rfl⟩ := hp
                have hw := hw.sub (ws' := wPat G T tb tk1 tc1 tn i (nV tb tn 2 ((ipF tb tn tp i) + 1)) ((uS tb tn tp i) * (nV tb tn 2 ((ipF tb tn tp i) + 1))) ((mS tb tn tp i) * (nV tb tn 2 ((ipF tb tn tp i) + 1))) (nE tb tn 2 ((ipF tb tn tp i) + 1)) (((nE tb tn 2 ((ipF tb tn tp i) + 1)) : Nat) : Int)) [0, 1, 2, 3, 4, 5, 6] (by decide) rfl
                refine W.eq (g2 := F0 m 143 ls []) rfl ?_
                exact k_vret hm hQ rfl hw (⟨_, _, _, _, _, _, _, _, rfl, rfl, Or.inr ⟨Or.inr ⟨i, hi.1, h1, hkd, Or.inr (Or.inl ⟨h42, hN, by omega, rfl⟩)⟩, by omega, by omega⟩⟩) (by omega) (by omega) dX3_readRound_143
              · refine k_iconstN hm 1 dX3_readRound_135 ?_
                refine k_goto (tgt := 140) hm dX3_readRound_136 (by decide) ?_
                refine k_callV (n := 1) (As := [vN (1)]) (rest := []) (wr := []) hm hw hl (c_pass_t l G T tb tk1 tc1 tn i (nV tb tn 2 ((ipF tb tn tp i) + 1)) ((uS tb tn tp i) * (nV tb tn 2 ((ipF tb tn tp i) + 1))) ((mS tb tn tp i) * (nV tb tn 2 ((ipF tb tn tp i) + 1))) (nE tb tn 2 ((ipF tb tn tp i) + 1)) te) gX3_readRound_X3_pass rfl (by decide +kernel) ⟨by decide, by decide⟩ (ci := 3) rfl 0 rfl [0, 1, 2, 3, 4, 5, 6] [] (by decide) rfl rfl (by decide) (by decide) rfl rfl (by simp [Value.category]) ⟨by decide, by decide⟩ dX3_readRound_140 (fun v w1 H locs hp hw => ?_)
                obtain ⟨rfl, rfl⟩ := hp
                have hw := hw.sub (ws' := wPat G T tb tk1 tc1 tn i (nV tb tn 2 ((ipF tb tn tp i) + 1)) ((uS tb tn tp i) * (nV tb tn 2 ((ipF tb tn tp i) + 1))) ((mS tb tn tp i) * (nV tb tn 2 ((ipF tb tn tp i) + 1))) ((nE tb tn 2 ((ipF tb tn tp i) + 1)) + 1) (-1)) [0, 1, 2, 3, 4, 5, 6] (by decide) rfl
                refine W.eq (g2 := F0 m 143 ls []) rfl ?_
                exact k_vret hm hQ rfl hw (⟨_, _, _, _, _, _, _, _, rfl, rfl, Or.inl ⟨rfl, ⟨hi.1, h1, hkd, Or.inl ⟨h42, hN, rfl, by omega, rfl⟩⟩, by have := bt_lt (show 0 ≤ bt tb tn (nE tb tn 2 (ipF tb tn tp i + 1)) by omega); omega, rfl, rfl, h2⟩⟩) (by omega) (by omega) dX3_readRound_143
            · refine k_callV (n := 2) (As := [vN (2), vN (60)]) (rest := [.ref (T 0)]) (wr := []) hm hw hl (c_readNumber_er l G T tb tk1 tc1 tn i 1 (uS tb tn tp i) (mS tb tn tp i) ((ipF tb tn tp i) + 1) te 2 60 (by first | assumption | omega) (by first | assumption | omega) (by first | assumption | omega) (by first | assumption | omega) (by first | assumption | omega)) gX3_readRound_X3_readNumber rfl (by decide +kernel) ⟨by decide, by decide⟩ (ci := 3) rfl 0 rfl [0, 1, 2, 3, 4, 5, 6] [] (by decide) rfl rfl (by decide) (by decide) rfl rfl (by simp [Value.category]) ⟨by decide, by decide⟩ dX3_readRound_93 (fun v w1 H locs hp hw => ?_)
              obtain ⟨v2_16, p2_17, z2_18, rfl, rfl, hz_19, hp2_20⟩ := hp
              have hw := hw.sub (ws' := wPat G T tb tk1 tc1 tn i 1 (uS tb tn tp i) (mS tb tn tp i) p2_17 z2_18) [0, 1, 2, 3, 4, 5, 6] (by decide) rfl
              refine W.eq (g2 := F0 m 96 ls [vN (v2_16), .ref (T 0)]) rfl ?_
              have hr9 := isNr_rng (show ipF tb tn tp i + 1 ≤ tn by omega) hz_19
              have hz9 := hz_19
              have hp9 := hp2_20
              refine k_put (T := TX3) hm hw 0 5 (wPat G T tb tk1 tc1 tn i v2_16 (uS tb tn tp i) (mS tb tn tp i) p2_17 z2_18) i3 tyX3 tyX3_ok nmX3 rfl rfl (by decide) (by decide +kernel) rfl (tyX3_ok 5 (by decide)) rfl rfl (Nat.le_of_ble_eq_true rfl) rfl dX3_readRound_96 (fun H locs hw => ?_)
              refine k_aload_n hm hl 0 rfl dX3_readRound_99 ?_
              refine k_dup hm dX3_readRound_100 rfl ?_
              refine k_get (T := TX3) hm hw 0 6 i3 rfl rfl (by decide) (by decide +kernel) rfl dX3_readRound_101 ?_
              refine k_aload_n hm hl 0 rfl dX3_readRound_104 ?_
              refine k_get (T := TX3) hm hw 0 5 i3 rfl rfl (by decide) (by decide +kernel) rfl dX3_readRound_105 ?_
              refine k_imulN hm dX3_readRound_108 ?_
              refine k_put (T := TX3) hm hw 0 6 (wPat G T tb tk1 tc1 tn i v2_16 ((uS tb tn tp i) * v2_16) (mS tb tn tp i) p2_17 z2_18) i3 tyX3 tyX3_ok nmX3 rfl rfl (by decide) (by decide +kernel) rfl (tyX3_ok 6 (by decide)) rfl rfl (Nat.le_of_ble_eq_true rfl) rfl dX3_readRound_109 (fun H locs hw => ?_)
              refine k_aload_n hm hl 0 rfl dX3_readRound_112 ?_
              refine k_dup hm dX3_readRound_113 rfl ?_
              refine k_get (T := TX3) hm hw 0 7 i3 rfl rfl (by decide) (by decide +kernel) rfl dX3_readRound_114 ?_
              refine k_aload_n hm hl 0 rfl dX3_readRound_117 ?_
              refine k_get (T := TX3) hm hw 0 5 i3 rfl rfl (by decide) (by decide +kernel) rfl dX3_readRound_118 ?_
              refine k_imulN hm dX3_readRound_121 ?_
              refine k_put (T := TX3) hm hw 0 7 (wPat G T tb tk1 tc1 tn i v2_16 ((uS tb tn tp i) * v2_16) ((mS tb tn tp i) * v2_16) p2_17 z2_18) i3 tyX3 tyX3_ok nmX3 rfl rfl (by decide) (by decide +kernel) rfl (tyX3_ok 7 (by decide)) rfl rfl (Nat.le_of_ble_eq_true rfl) rfl dX3_readRound_122 (fun H locs hw => ?_)
              refine k_aload_n hm hl 0 rfl dX3_readRound_125 ?_
              refine k_aload_n hm hl 0 rfl dX3_readRound_126 ?_
              refine k_callVr (n := 0) (As := []) (rest := [.ref (T 0)]) hm hw hl (c_ahead l G T tb tk1 tc1 tn i v2_16 ((uS tb tn tp i) * v2_16) ((mS tb tn tp i) * v2_16) p2_17 z2_18 (by first | assumption | omega) (by first | assumption | omega)) gX3_readRound_X3_ahead rfl (by decide +kernel) ⟨by decide, by decide⟩ (ci := 3) rfl 0 rfl [0, 1, 2, 3, 4, 5, 6] (by decide) rfl rfl rfl (by simp [Value.category]) ⟨by decide, by decide⟩ dX3_readRound_127 (fun v H locs hp hw => ?_)
              obtain rfl := hp
              refine W.eq (g2 := F0 m 130 ls [vZ (bt tb tn p2_17), .ref (T 0)]) rfl ?_
              have hb9 := bt_rng (p := p2_17) htb
              refine k_bipushN hm 59 dX3_readRound_130 rfl ?_
              refine k_icmpne (tgt := 139) hm dX3_readRound_132 (by decide) (by omega) (fun c_22 => ?_) (fun c_22 => ?_)
              · refine k_iconstN hm 0 dX3_readRound_139 ?_
                refine k_callV (n := 1) (As := [vN (0)]) (rest := []) (wr := []) hm hw hl (c_pass_e l G T tb tk1 tc1 tn i v2_16 ((uS tb tn tp i) * v2_16) ((mS tb tn tp i) * v2_16) p2_17 z2_18 false (by first | assumption | omega)) gX3_readRound_X3_pass rfl (by decide +kernel) ⟨by decide, by decide⟩ (ci := 3) rfl 0 rfl [0, 1, 2, 3, 4, 5, 6] [] (by decide) rfl rfl (by decide) (by decide) rfl rfl (by simp [Value.category]) ⟨by decide, by decide⟩ dX3_readRound_140 (fun v w1 H locs hp hw => ?_)
                obtain ⟨rfl, rfl⟩ := hp
                have hw := hw.sub (ws' := wPat G T tb tk1 tc1 tn i v2_16 ((uS tb tn tp i) * v2_16) ((mS tb tn tp i) * v2_16) p2_17 z2_18) [0, 1, 2, 3, 4, 5, 6] (by decide) rfl
                refine W.eq (g2 := F0 m 143 ls []) rfl ?_
                exact k_vret hm hQ rfl hw (⟨_, _, _, _, _, _, _, _, rfl, rfl, Or.inr ⟨Or.inr ⟨i, hi.1, h1, hkd, Or.inl ⟨h42, hN, hz9⟩⟩, hr9⟩⟩) (by omega) (by omega) dX3_readRound_143
              · refine k_iconstN hm 1 dX3_readRound_135 ?_
                refine k_goto (tgt := 140) hm dX3_readRound_136 (by decide) ?_
                refine k_callV (n := 1) (As := [vN (1)]) (rest := []) (wr := []) hm hw hl (c_pass_e l G T tb tk1 tc1 tn i v2_16 ((uS tb tn tp i) * v2_16) ((mS tb tn tp i) * v2_16) p2_17 z2_18 true (by first | assumption | omega)) gX3_readRound_X3_pass rfl (by decide +kernel) ⟨by decide, by decide⟩ (ci := 3) rfl 0 rfl [0, 1, 2, 3, 4, 5, 6] [] (by decide) rfl rfl (by decide) (by decide) rfl rfl (by simp [Value.category]) ⟨by decide, by decide⟩ dX3_readRound_140 (fun v w1 H locs hp hw => ?_)
                obtain ⟨rfl, rfl⟩ := hp
                have hw := hw.sub (ws' := wPat G T tb tk1 tc1 tn i v2_16 ((uS tb tn tp i) * v2_16) ((mS tb tn tp i) * v2_16) p2_17 z2_18) [0, 1, 2, 3, 4, 5, 6] (by decide) rfl
                refine W.eq (g2 := F0 m 143 ls []) rfl ?_
                exact k_vret hm hQ rfl hw (⟨_, _, _, _, _, _, _, _, rfl, rfl, Or.inr ⟨Or.inr ⟨i, hi.1, h1, hkd, Or.inl ⟨h42, hN, hz9⟩⟩, hr9⟩⟩) (by omega) (by omega) dX3_readRound_143
        · refine k_aload_n hm hl 0 rfl dX3_readRound_32 ?_
          refine k_get (T := TX3) hm hw 0 9 i3 rfl rfl (by decide) (by decide +kernel) rfl dX3_readRound_33 ?_
          refine k_iconst (n := -1) hm dX3_readRound_36 ?_
          refine k_icmpne (tgt := 61) hm dX3_readRound_37 (by decide) (by omega) (fun c_25 => absurd c_25 (by omega)) (fun c_25 => ?_)
          have hr1 := ipF_rng htp h1
          refine k_aload_n hm hl 0 rfl dX3_readRound_40 ?_
          refine k_callVr (n := 0) (As := []) (rest := []) hm hw hl (c_ahead l G T tb tk1 tc1 tn i 1 (uS tb tn tp i) (mS tb tn tp i) (ipF tb tn tp i) (-1) (by first | assumption | omega) (by first | assumption | omega)) gX3_readRound_X3_ahead rfl (by decide +kernel) ⟨by decide, by decide⟩ (ci := 3) rfl 0 rfl [0, 1, 2, 3, 4, 5, 6] (by decide) rfl rfl rfl (by simp [Value.category]) ⟨by decide, by decide⟩ dX3_readRound_41 (fun v H locs hp hw => ?_)
          obtain rfl := hp
          refine W.eq (g2 := F0 m 44 ls [vZ (bt tb tn (ipF tb tn tp i))]) rfl ?_
          refine k_callSr (n := 1) (As := [vZ (bt tb tn (ipF tb tn tp i))]) (rest := []) hm hw hl (c_kindOfB l G (bt tb tn (ipF tb tn tp i)) (bt_rng htb)) gX3_readRound_X3_kindOf rfl (by decide +kernel) ⟨by decide, by decide⟩ [] (by decide) rfl rfl rfl (by simp [Value.category]) ⟨by decide, by decide⟩ dX3_readRound_44 (fun v H locs hp hw => ?_)
          obtain rfl := hp
          refine W.eq (g2 := F0 m 47 ls [vZ (kdB (bt tb tn (ipF tb tn tp i)))]) rfl ?_
          have hk9 := kdB_rng (bt tb tn (ipF tb tn tp i))
          refine k_iconst (n := -1) hm dX3_readRound_47 ?_
          refine k_icmpeq (tgt := 61) hm dX3_readRound_48 (by decide) (by omega) (fun c_28 => ?_) (fun c_28 => ?_)
          · have hr2 := ipF_rng htp h1
            have hkd : kdB (bt tb tn (ipF tb tn tp i)) = -1 := c_28
            refine k_aload_n hm hl 0 rfl dX3_readRound_61 ?_
            refine k_get (T := TX3) hm hw 0 9 i3 rfl rfl (by decide) (by decide +kernel) rfl dX3_readRound_62 ?_
            refine k_iconst (n := -1) hm dX3_readRound_65 ?_
            refine k_icmpne (tgt := 99) hm dX3_readRound_66 (by decide) (by omega) (fun c_29 => absurd c_29 (by omega)) (fun c_29 => ?_)
            refine k_aload_n hm hl 0 rfl dX3_readRound_69 ?_
            refine k_callVr (n := 0) (As := []) (rest := []) hm hw hl (c_ahead l G T tb tk1 tc1 tn i 1 (uS tb tn tp i) (mS tb tn tp i) (ipF tb tn tp i) (-1) (by first | assumption | omega) (by first | assumption | omega)) gX3_readRound_X3_ahead rfl (by decide +kernel) ⟨by decide, by decide⟩ (ci := 3) rfl 0 rfl [0, 1, 2, 3, 4, 5, 6] (by decide) rfl rfl rfl (by simp [Value.category]) ⟨by decide, by decide⟩ dX3_readRound_70 (fun v H locs hp hw => ?_)
            obtain rfl := hp
            refine W.eq (g2 := F0 m 73 ls [vZ (bt tb tn (ipF tb tn tp i))]) rfl ?_
            have hb8 := bt_rng (p := ipF tb tn tp i) htb
            refine k_bipushN hm 42 dX3_readRound_73 rfl ?_
            refine k_icmpne (tgt := 99) hm dX3_readRound_75 (by decide) (by omega) (fun c_31 => ?_) (fun c_31 => ?_)
            · refine k_aload_n hm hl 0 rfl dX3_readRound_99 ?_
              refine k_dup hm dX3_readRound_100 rfl ?_
              refine k_get (T := TX3) hm hw 0 6 i3 rfl rfl (by decide) (by decide +kernel) rfl dX3_readRound_101 ?_
              refine k_aload_n hm hl 0 rfl dX3_readRound_104 ?_
              refine k_get (T := TX3) hm hw 0 5 i3 rfl rfl (by decide) (by decide +kernel) rfl dX3_readRound_105 ?_
              refine k_imulN hm dX3_readRound_108 ?_
              refine k_put (T := TX3) hm hw 0 6 (wPat G T tb tk1 tc1 tn i 1 ((uS tb tn tp i) * 1) (mS tb tn tp i) (ipF tb tn tp i) (-1)) i3 tyX3 tyX3_ok nmX3 rfl rfl (by decide) (by decide +kernel) rfl (tyX3_ok 6 (by decide)) rfl rfl (Nat.le_of_ble_eq_true rfl) rfl dX3_readRound_109 (fun H locs hw => ?_)
              refine k_aload_n hm hl 0 rfl dX3_readRound_112 ?_
              refine k_dup hm dX3_readRound_113 rfl ?_
              refine k_get (T := TX3) hm hw 0 7 i3 rfl rfl (by decide) (by decide +kernel) rfl dX3_readRound_114 ?_
              refine k_aload_n hm hl 0 rfl dX3_readRound_117 ?_
              refine k_get (T := TX3) hm hw 0 5 i3 rfl rfl (by decide) (by decide +kernel) rfl dX3_readRound_118 ?_
              refine k_imulN hm dX3_readRound_121 ?_
              refine k_put (T := TX3) hm hw 0 7 (wPat G T tb tk1 tc1 tn i 1 ((uS tb tn tp i) * 1) ((mS tb tn tp i) * 1) (ipF tb tn tp i) (-1)) i3 tyX3 tyX3_ok nmX3 rfl rfl (by decide) (by decide +kernel) rfl (tyX3_ok 7 (by decide)) rfl rfl (Nat.le_of_ble_eq_true rfl) rfl dX3_readRound_122 (fun H locs hw => ?_)
              refine k_aload_n hm hl 0 rfl dX3_readRound_125 ?_
              refine k_aload_n hm hl 0 rfl dX3_readRound_126 ?_
              refine k_callVr (n := 0) (As := []) (rest := [.ref (T 0)]) hm hw hl (c_ahead l G T tb tk1 tc1 tn i 1 ((uS tb tn tp i) * 1) ((mS tb tn tp i) * 1) (ipF tb tn tp i) (-1) (by first | assumption | omega) (by first | assumption | omega)) gX3_readRound_X3_ahead rfl (by decide +kernel) ⟨by decide, by decide⟩ (ci := 3) rfl 0 rfl [0, 1, 2, 3, 4, 5, 6] (by decide) rfl rfl rfl (by simp [Value.category]) ⟨by decide, by decide⟩ dX3_readRound_127 (fun v H locs hp hw => ?_)
              obtain rfl := hp
              refine W.eq (g2 := F0 m 130 ls [vZ (bt tb tn (ipF tb tn tp i)), .ref (T 0)]) rfl ?_
              have hb9 := bt_rng (p := ipF tb tn tp i) htb
              refine k_bipushN hm 59 dX3_readRound_130 rfl ?_
              refine k_icmpne (tgt := 139) hm dX3_readRound_132 (by decide) (by omega) (fun c_33 => ?_) (fun c_33 => ?_)
              · refine k_iconstN hm 0 dX3_readRound_139 ?_
                refine k_callV (n := 1) (As := [vN (0)]) (rest := []) (wr := []) hm hw hl (c_pass_f l G T tb tk1 tc1 tn i 1 ((uS tb tn tp i) * 1) ((mS tb tn tp i) * 1) (ipF tb tn tp i) te) gX3_readRound_X3_pass rfl (by decide +kernel) ⟨by decide, by decide⟩ (ci := 3) rfl 0 rfl [0, 1, 2, 3, 4, 5, 6] [] (by decide) rfl rfl (by decide) (by decide) rfl rfl (by simp [Value.category]) ⟨by decide, by decide⟩ dX3_readRound_140 (fun v w1 H locs hp hw => ?_)
                obtain ⟨rfl, rfl⟩ := hp
                have hw := hw.sub (ws' := wPat G T tb tk1 tc1 tn i 1 ((uS tb tn tp i) * 1) ((mS tb tn tp i) * 1) (ipF tb tn tp i) (((ipF tb tn tp i) : Nat) : Int)) [0, 1, 2, 3, 4, 5, 6] (by decide) rfl
                refine W.eq (g2 := F0 m 143 ls []) rfl ?_
                exact k_vret hm hQ rfl hw (⟨_, _, _, _, _, _, _, _, rfl, rfl, Or.inr ⟨Or.inr ⟨i, hi.1, h1, hkd, Or.inr (Or.inr ⟨by omega, by omega, rfl⟩)⟩, by omega, by omega⟩⟩) (by omega) (by omega) dX3_readRound_143
              · refine k_iconstN hm 1 dX3_readRound_135 ?_
                refine k_goto (tgt := 140) hm dX3_readRound_136 (by decide) ?_
                refine k_callV (n := 1) (As := [vN (1)]) (rest := []) (wr := []) hm hw hl (c_pass_t l G T tb tk1 tc1 tn i 1 ((uS tb tn tp i) * 1) ((mS tb tn tp i) * 1) (ipF tb tn tp i) te) gX3_readRound_X3_pass rfl (by decide +kernel) ⟨by decide, by decide⟩ (ci := 3) rfl 0 rfl [0, 1, 2, 3, 4, 5, 6] [] (by decide) rfl rfl (by decide) (by decide) rfl rfl (by simp [Value.category]) ⟨by decide, by decide⟩ dX3_readRound_140 (fun v w1 H locs hp hw => ?_)
                obtain ⟨rfl, rfl⟩ := hp
                have hw := hw.sub (ws' := wPat G T tb tk1 tc1 tn i 1 ((uS tb tn tp i) * 1) ((mS tb tn tp i) * 1) ((ipF tb tn tp i) + 1) (-1)) [0, 1, 2, 3, 4, 5, 6] (by decide) rfl
                refine W.eq (g2 := F0 m 143 ls []) rfl ?_
                exact k_vret hm hQ rfl hw (⟨_, _, _, _, _, _, _, _, rfl, rfl, Or.inl ⟨rfl, ⟨hi.1, h1, hkd, Or.inr ⟨by omega, rfl, rfl⟩⟩, by have := bt_lt (show 0 ≤ bt tb tn (ipF tb tn tp i) by omega); omega, rfl, rfl, h2⟩⟩) (by omega) (by omega) dX3_readRound_143
            · have h42 : bt tb tn (ipF tb tn tp i) = 42 := by omega
              have hlt := bt_lt (show 0 ≤ bt tb tn (ipF tb tn tp i) by omega)
              refine k_aload_n hm hl 0 rfl dX3_readRound_78 ?_
              refine k_dup hm dX3_readRound_79 rfl ?_
              refine k_get (T := TX3) hm hw 0 8 i3 rfl rfl (by decide) (by decide +kernel) rfl dX3_readRound_80 ?_
              refine k_iconstN hm 1 dX3_readRound_83 ?_
              refine k_iaddN hm dX3_readRound_84 ?_
              refine k_put (T := TX3) hm hw 0 8 (wPat G T tb tk1 tc1 tn i 1 (uS tb tn tp i) (mS tb tn tp i) ((ipF tb tn tp i) + 1) (-1)) i3 tyX3 tyX3_ok nmX3 rfl rfl (by decide) (by decide +kernel) rfl (tyX3_ok 8 (by decide)) rfl rfl (Nat.le_of_ble_eq_true rfl) rfl dX3_readRound_85 (fun H locs hw => ?_)
              refine k_aload_n hm hl 0 rfl dX3_readRound_88 ?_
              refine k_aload_n hm hl 0 rfl dX3_readRound_89 ?_
              refine k_iconstN hm 2 dX3_readRound_90 ?_
              refine k_bipushN hm 60 dX3_readRound_91 rfl ?_
              rcases Classical.em (nOk tb tn 2 60 (ipF tb tn tp i + 1)) with hN | hN
              · have hE2 := nE_le (tx := tb) (n := tn) (k := 2) (p := ipF tb tn tp i + 1) (by omega)
                refine k_callV (n := 2) (As := [vN (2), vN (60)]) (rest := [.ref (T 0)]) (wr := []) hm hw hl (c_readNumber_ok l G T tb tk1 tc1 tn i 1 (uS tb tn tp i) (mS tb tn tp i) ((ipF tb tn tp i) + 1) te 2 60 (by first | assumption | omega) (by first | assumption | omega) (by first | assumption | omega) (by first | assumption | omega) (by first | assumption | omega)) gX3_readRound_X3_readNumber rfl (by decide +kernel) ⟨by decide, by decide⟩ (ci := 3) rfl 0 rfl [0, 1, 2, 3, 4, 5, 6] [] (by decide) rfl rfl (by decide) (by decide) rfl rfl (by simp [Value.category]) ⟨by decide, by decide⟩ dX3_readRound_93 (fun v w1 H locs hp hw => ?_)
                obtain ⟨rfl, rfl⟩ := hp
                have hw := hw.sub (ws' := wPat G T tb tk1 tc1 tn i 1 (uS tb tn tp i) (mS tb tn tp i) (nE tb tn 2 ((ipF tb tn tp i) + 1)) (-1)) [0, 1, 2, 3, 4, 5, 6] (by decide) rfl
                refine W.eq (g2 := F0 m 96 ls [vN (nV tb tn 2 ((ipF tb tn tp i) + 1)), .ref (T 0)]) rfl ?_
                refine k_put (T := TX3) hm hw 0 5 (wPat G T tb tk1 tc1 tn i (nV tb tn 2 ((ipF tb tn tp i) + 1)) (uS tb tn tp i) (mS tb tn tp i) (nE tb tn 2 ((ipF tb tn tp i) + 1)) (-1)) i3 tyX3 tyX3_ok nmX3 rfl rfl (by decide) (by decide +kernel) rfl (tyX3_ok 5 (by decide)) rfl rfl (Nat.le_of_ble_eq_true rfl) rfl dX3_readRound_96 (fun H locs hw => ?_)
                refine k_aload_n hm hl 0 rfl dX3_readRound_99 ?_
                refine k_dup hm dX3_readRound_100 rfl ?_
                refine k_get (T := TX3) hm hw 0 6 i3 rfl rfl (by decide) (by decide +kernel) rfl dX3_readRound_101 ?_
                refine k_aload_n hm hl 0 rfl dX3_readRound_104 ?_
                refine k_get (T := TX3) hm hw 0 5 i3 rfl rfl (by decide) (by decide +kernel) rfl dX3_readRound_105 ?_
                refine k_imulN hm dX3_readRound_108 ?_
                refine k_put (T := TX3) hm hw 0 6 (wPat G T tb tk1 tc1 tn i (nV tb tn 2 ((ipF tb tn tp i) + 1)) ((uS tb tn tp i) * (nV tb tn 2 ((ipF tb tn tp i) + 1))) (mS tb tn tp i) (nE tb tn 2 ((ipF tb tn tp i) + 1)) (-1)) i3 tyX3 tyX3_ok nmX3 rfl rfl (by decide) (by decide +kernel) rfl (tyX3_ok 6 (by decide)) rfl rfl (Nat.le_of_ble_eq_true rfl) rfl dX3_readRound_109 (fun H locs hw => ?_)
                refine k_aload_n hm hl 0 rfl dX3_readRound_112 ?_
                refine k_dup hm dX3_readRound_113 rfl ?_
                refine k_get (T := TX3) hm hw 0 7 i3 rfl rfl (by decide) (by decide +kernel) rfl dX3_readRound_114 ?_
                refine k_aload_n hm hl 0 rfl dX3_readRound_117 ?_
                refine k_get (T := TX3) hm hw 0 5 i3 rfl rfl (by decide) (by decide +kernel) rfl dX3_readRound_118 ?_
                refine k_imulN hm dX3_readRound_121 ?_
                refine k_put (T := TX3) hm hw 0 7 (wPat G T tb tk1 tc1 tn i (nV tb tn 2 ((ipF tb tn tp i) + 1)) ((uS tb tn tp i) * (nV tb tn 2 ((ipF tb tn tp i) + 1))) ((mS tb tn tp i) * (nV tb tn 2 ((ipF tb tn tp i) + 1))) (nE tb tn 2 ((ipF tb tn tp i) + 1)) (-1)) i3 tyX3 tyX3_ok nmX3 rfl rfl (by decide) (by decide +kernel) rfl (tyX3_ok 7 (by decide)) rfl rfl (Nat.le_of_ble_eq_true rfl) rfl dX3_readRound_122 (fun H locs hw => ?_)
                refine k_aload_n hm hl 0 rfl dX3_readRound_125 ?_
                refine k_aload_n hm hl 0 rfl dX3_readRound_126 ?_
                refine k_callVr (n := 0) (As := []) (rest := [.ref (T 0)]) hm hw hl (c_ahead l G T tb tk1 tc1 tn i (nV tb tn 2 ((ipF tb tn tp i) + 1)) ((uS tb tn tp i) * (nV tb tn 2 ((ipF tb tn tp i) + 1))) ((mS tb tn tp i) * (nV tb tn 2 ((ipF tb tn tp i) + 1))) (nE tb tn 2 ((ipF tb tn tp i) + 1)) (-1) (by first | assumption | omega) (by first | assumption | omega)) gX3_readRound_X3_ahead rfl (by decide +kernel) ⟨by decide, by decide⟩ (ci := 3) rfl 0 rfl [0, 1, 2, 3, 4, 5, 6] (by decide) rfl rfl rfl (by simp [Value.category]) ⟨by decide, by decide⟩ dX3_readRound_127 (fun v H locs hp hw => ?_)
                obtain rfl := hp
                refine W.eq (g2 := F0 m 130 ls [vZ (bt tb tn (nE tb tn 2 ((ipF tb tn tp i) + 1))), .ref (T 0)]) rfl ?_
                have hb9 := bt_rng (p := nE tb tn 2 ((ipF tb tn tp i) + 1)) htb
                refine k_bipushN hm 59 dX3_readRound_130 rfl ?_
                refine k_icmpne (tgt := 139) hm dX3_readRound_132 (by decide) (by omega) (fun c_38 => ?_) (fun c_38 => ?_)
                · refine k_iconstN hm 0 dX3_readRound_139 ?_
                  refine k_callV (n := 1) (As := [vN (0)]) (rest := []) (wr := []) hm hw hl (c_pass_f l G T tb tk1 tc1 tn i (nV tb tn 2 ((ipF tb tn tp i) + 1)) ((uS tb tn tp i) * (nV tb tn 2 ((ipF tb tn tp i) + 1))) ((mS tb tn tp i) * (nV tb tn 2 ((ipF tb tn tp i) + 1))) (nE tb tn 2 ((ipF tb tn tp i) + 1)) te) gX3_readRound_X3_pass rfl (by decide +kernel) ⟨by decide, by decide⟩ (ci := 3) rfl 0 rfl [0, 1, 2, 3, 4, 5, 6] [] (by decide) rfl rfl (by decide) (by decide) rfl rfl (by simp [Value.category]) ⟨by decide, by decide⟩ dX3_readRound_140 (fun v w1 H locs hp hw => ?_)
                  obtain ⟨rfl, rfl⟩ := hp
                  have hw := hw.sub (ws' := wPat G T tb tk1 tc1 tn i (nV tb tn 2 ((ipF tb tn tp i) + 1)) ((uS tb tn tp i) * (nV tb tn 2 ((ipF tb tn tp i) + 1))) ((mS tb tn tp i) * (nV tb tn 2 ((ipF tb tn tp i) + 1))) (nE tb tn 2 ((ipF tb tn tp i) + 1)) (((nE tb tn 2 ((ipF tb tn tp i) + 1)) : Nat) : Int)) [0, 1, 2, 3, 4, 5, 6] (by decide) rfl
                  refine W.eq (g2 := F0 m 143 ls []) rfl ?_
                  exact k_vret hm hQ rfl hw (⟨_, _, _, _, _, _, _, _, rfl, rfl, Or.inr ⟨Or.inr ⟨i, hi.1, h1, hkd, Or.inr (Or.inl ⟨h42, hN, by omega, rfl⟩)⟩, by omega, by omega⟩⟩) (by omega) (by omega) dX3_readRound_143
                · refine k_iconstN hm 1 dX3_readRound_135 ?_
                  refine k_goto (tgt := 140) hm dX3_readRound_136 (by decide) ?_
                  refine k_callV (n := 1) (As := [vN (1)]) (rest := []) (wr := []) hm hw hl (c_pass_t l G T tb tk1 tc1 tn i (nV tb tn 2 ((ipF tb tn tp i) + 1)) ((uS tb tn tp i) * (nV tb tn 2 ((ipF tb tn tp i) + 1))) ((mS tb tn tp i) * (nV tb tn 2 ((ipF tb tn tp i) + 1))) (nE tb tn 2 ((ipF tb tn tp i) + 1)) te) gX3_readRound_X3_pass rfl (by decide +kernel) ⟨by decide, by decide⟩ (ci := 3) rfl 0 rfl [0, 1, 2, 3, 4, 5, 6] [] (by decide) rfl rfl (by decide) (by decide) rfl rfl (by simp [Value.category]) ⟨by decide, by decide⟩ dX3_readRound_140 (fun v w1 H locs hp hw => ?_)
                  obtain ⟨rfl, rfl⟩ := hp
                  have hw := hw.sub (ws' := wPat G T tb tk1 tc1 tn i (nV tb tn 2 ((ipF tb tn tp i) + 1)) ((uS tb tn tp i) * (nV tb tn 2 ((ipF tb tn tp i) + 1))) ((mS tb tn tp i) * (nV tb tn 2 ((ipF tb tn tp i) + 1))) ((nE tb tn 2 ((ipF tb tn tp i) + 1)) + 1) (-1)) [0, 1, 2, 3, 4, 5, 6] (by decide) rfl
                  refine W.eq (g2 := F0 m 143 ls []) rfl ?_
                  exact k_vret hm hQ rfl hw (⟨_, _, _, _, _, _, _, _, rfl, rfl, Or.inl ⟨rfl, ⟨hi.1, h1, hkd, Or.inl ⟨h42, hN, rfl, by omega, rfl⟩⟩, by have := bt_lt (show 0 ≤ bt tb tn (nE tb tn 2 (ipF tb tn tp i + 1)) by omega); omega, rfl, rfl, h2⟩⟩) (by omega) (by omega) dX3_readRound_143
              · refine k_callV (n := 2) (As := [vN (2), vN (60)]) (rest := [.ref (T 0)]) (wr := []) hm hw hl (c_readNumber_er l G T tb tk1 tc1 tn i 1 (uS tb tn tp i) (mS tb tn tp i) ((ipF tb tn tp i) + 1) te 2 60 (by first | assumption | omega) (by first | assumption | omega) (by first | assumption | omega) (by first | assumption | omega) (by first | assumption | omega)) gX3_readRound_X3_readNumber rfl (by decide +kernel) ⟨by decide, by decide⟩ (ci := 3) rfl 0 rfl [0, 1, 2, 3, 4, 5, 6] [] (by decide) rfl rfl (by decide) (by decide) rfl rfl (by simp [Value.category]) ⟨by decide, by decide⟩ dX3_readRound_93 (fun v w1 H locs hp hw => ?_)
                obtain ⟨v2_42, p2_43, z2_44, rfl, rfl, hz_45, hp2_46⟩ := hp
                have hw := hw.sub (ws' := wPat G T tb tk1 tc1 tn i 1 (uS tb tn tp i) (mS tb tn tp i) p2_43 z2_44) [0, 1, 2, 3, 4, 5, 6] (by decide) rfl
                refine W.eq (g2 := F0 m 96 ls [vN (v2_42), .ref (T 0)]) rfl ?_
                have hr9 := isNr_rng (show ipF tb tn tp i + 1 ≤ tn by omega) hz_45
                have hz9 := hz_45
                have hp9 := hp2_46
                refine k_put (T := TX3) hm hw 0 5 (wPat G T tb tk1 tc1 tn i v2_42 (uS tb tn tp i) (mS tb tn tp i) p2_43 z2_44) i3 tyX3 tyX3_ok nmX3 rfl rfl (by decide) (by decide +kernel) rfl (tyX3_ok 5 (by decide)) rfl rfl (Nat.le_of_ble_eq_true rfl) rfl dX3_readRound_96 (fun H locs hw => ?_)
                refine k_aload_n hm hl 0 rfl dX3_readRound_99 ?_
                refine k_dup hm dX3_readRound_100 rfl ?_
                refine k_get (T := TX3) hm hw 0 6 i3 rfl rfl (by decide) (by decide +kernel) rfl dX3_readRound_101 ?_
                refine k_aload_n hm hl 0 rfl dX3_readRound_104 ?_
                refine k_get (T := TX3) hm hw 0 5 i3 rfl rfl (by decide) (by decide +kernel) rfl dX3_readRound_105 ?_
                refine k_imulN hm dX3_readRound_108 ?_
                refine k_put (T := TX3) hm hw 0 6 (wPat G T tb tk1 tc1 tn i v2_42 ((uS tb tn tp i) * v2_42) (mS tb tn tp i) p2_43 z2_44) i3 tyX3 tyX3_ok nmX3 rfl rfl (by decide) (by decide +kernel) rfl (tyX3_ok 6 (by decide)) rfl rfl (Nat.le_of_ble_eq_true rfl) rfl dX3_readRound_109 (fun H locs hw => ?_)
                refine k_aload_n hm hl 0 rfl dX3_readRound_112 ?_
                refine k_dup hm dX3_readRound_113 rfl ?_
                refine k_get (T := TX3) hm hw 0 7 i3 rfl rfl (by decide) (by decide +kernel) rfl dX3_readRound_114 ?_
                refine k_aload_n hm hl 0 rfl dX3_readRound_117 ?_
                refine k_get (T := TX3) hm hw 0 5 i3 rfl rfl (by decide) (by decide +kernel) rfl dX3_readRound_118 ?_
                refine k_imulN hm dX3_readRound_121 ?_
                refine k_put (T := TX3) hm hw 0 7 (wPat G T tb tk1 tc1 tn i v2_42 ((uS tb tn tp i) * v2_42) ((mS tb tn tp i) * v2_42) p2_43 z2_44) i3 tyX3 tyX3_ok nmX3 rfl rfl (by decide) (by decide +kernel) rfl (tyX3_ok 7 (by decide)) rfl rfl (Nat.le_of_ble_eq_true rfl) rfl dX3_readRound_122 (fun H locs hw => ?_)
                refine k_aload_n hm hl 0 rfl dX3_readRound_125 ?_
                refine k_aload_n hm hl 0 rfl dX3_readRound_126 ?_
                refine k_callVr (n := 0) (As := []) (rest := [.ref (T 0)]) hm hw hl (c_ahead l G T tb tk1 tc1 tn i v2_42 ((uS tb tn tp i) * v2_42) ((mS tb tn tp i) * v2_42) p2_43 z2_44 (by first | assumption | omega) (by first | assumption | omega)) gX3_readRound_X3_ahead rfl (by decide +kernel) ⟨by decide, by decide⟩ (ci := 3) rfl 0 rfl [0, 1, 2, 3, 4, 5, 6] (by decide) rfl rfl rfl (by simp [Value.category]) ⟨by decide, by decide⟩ dX3_readRound_127 (fun v H locs hp hw => ?_)
                obtain rfl := hp
                refine W.eq (g2 := F0 m 130 ls [vZ (bt tb tn p2_43), .ref (T 0)]) rfl ?_
                have hb9 := bt_rng (p := p2_43) htb
                refine k_bipushN hm 59 dX3_readRound_130 rfl ?_
                refine k_icmpne (tgt := 139) hm dX3_readRound_132 (by decide) (by omega) (fun c_48 => ?_) (fun c_48 => ?_)
                · refine k_iconstN hm 0 dX3_readRound_139 ?_
                  refine k_callV (n := 1) (As := [vN (0)]) (rest := []) (wr := []) hm hw hl (c_pass_e l G T tb tk1 tc1 tn i v2_42 ((uS tb tn tp i) * v2_42) ((mS tb tn tp i) * v2_42) p2_43 z2_44 false (by first | assumption | omega)) gX3_readRound_X3_pass rfl (by decide +kernel) ⟨by decide, by decide⟩ (ci := 3) rfl 0 rfl [0, 1, 2, 3, 4, 5, 6] [] (by decide) rfl rfl (by decide) (by decide) rfl rfl (by simp [Value.category]) ⟨by decide, by decide⟩ dX3_readRound_140 (fun v w1 H locs hp hw => ?_)
                  obtain ⟨rfl, rfl⟩ := hp
                  have hw := hw.sub (ws' := wPat G T tb tk1 tc1 tn i v2_42 ((uS tb tn tp i) * v2_42) ((mS tb tn tp i) * v2_42) p2_43 z2_44) [0, 1, 2, 3, 4, 5, 6] (by decide) rfl
                  refine W.eq (g2 := F0 m 143 ls []) rfl ?_
                  exact k_vret hm hQ rfl hw (⟨_, _, _, _, _, _, _, _, rfl, rfl, Or.inr ⟨Or.inr ⟨i, hi.1, h1, hkd, Or.inl ⟨h42, hN, hz9⟩⟩, hr9⟩⟩) (by omega) (by omega) dX3_readRound_143
                · refine k_iconstN hm 1 dX3_readRound_135 ?_
                  refine k_goto (tgt := 140) hm dX3_readRound_136 (by decide) ?_
                  refine k_callV (n := 1) (As := [vN (1)]) (rest := []) (wr := []) hm hw hl (c_pass_e l G T tb tk1 tc1 tn i v2_42 ((uS tb tn tp i) * v2_42) ((mS tb tn tp i) * v2_42) p2_43 z2_44 true (by first | assumption | omega)) gX3_readRound_X3_pass rfl (by decide +kernel) ⟨by decide, by decide⟩ (ci := 3) rfl 0 rfl [0, 1, 2, 3, 4, 5, 6] [] (by decide) rfl rfl (by decide) (by decide) rfl rfl (by simp [Value.category]) ⟨by decide, by decide⟩ dX3_readRound_140 (fun v w1 H locs hp hw => ?_)
                  obtain ⟨rfl, rfl⟩ := hp
                  have hw := hw.sub (ws' := wPat G T tb tk1 tc1 tn i v2_42 ((uS tb tn tp i) * v2_42) ((mS tb tn tp i) * v2_42) p2_43 z2_44) [0, 1, 2, 3, 4, 5, 6] (by decide) rfl
                  refine W.eq (g2 := F0 m 143 ls []) rfl ?_
                  exact k_vret hm hQ rfl hw (⟨_, _, _, _, _, _, _, _, rfl, rfl, Or.inr ⟨Or.inr ⟨i, hi.1, h1, hkd, Or.inl ⟨h42, hN, hz9⟩⟩, hr9⟩⟩) (by omega) (by omega) dX3_readRound_143
          · have hr1 := ipF_rng htp h1
            rcases Classical.em (itOk tb tn (ipF tb tn tp i)) with hI | hI
            · refine k_aload_n hm hl 0 rfl dX3_readRound_51 ?_
              refine k_callV (n := 0) (As := []) (rest := []) (wr := []) hm hw hl (c_readItem_ok l G T tb tk1 tc1 tn i 1 (uS tb tn tp i) (mS tb tn tp i) (ipF tb tn tp i) te (by first | assumption | omega) (by first | assumption | omega) (by first | assumption | omega) (by first | assumption | omega) hI) gX3_readRound_X3_readItem rfl (by decide +kernel) ⟨by decide, by decide⟩ (ci := 3) rfl 0 rfl [0, 1, 2, 3, 4, 5, 6] [] (by decide) rfl rfl (by decide) (by decide) rfl rfl (by simp [Value.category]) ⟨by decide, by decide⟩ dX3_readRound_52 (fun v w1 H locs hp hw => ?_)
              obtain ⟨rfl, rfl⟩ := hp
              have hw := hw.sub (ws' := wPat G T tb (zU tk1 i (kdB (bt tb tn (ipF tb tn tp i)))) (nU tc1 i (nV tb tn 3 ((ipF tb tn tp i) + 1))) tn (i + 1) 1 ((uS tb tn tp i) + nV tb tn 3 ((ipF tb tn tp i) + 1) * usZ (kdB (bt tb tn (ipF tb tn tp i)))) ((mS tb tn tp i) + nV tb tn 3 ((ipF tb tn tp i) + 1) * mdZ (kdB (bt tb tn (ipF tb tn tp i)))) (nxI tb tn (ipF tb tn tp i)) (-1)) [0, 1, 2, 3, 4, 5, 6] (by decide) rfl
              refine W.eq (g2 := F0 m 55 ls []) rfl ?_
              refine k_iincN hm hl 1 1 rfl [(1, vN (i + 1)), (0, .ref (T 0))] (by decide) rfl dX3_readRound_55 (fun ls hl => ?_)
              refine k_goto (tgt := 26) hm dX3_readRound_58 (by decide) ?_
              exact ih_26  (i + 1) (zU tk1 i (kdB (bt tb tn (ipF tb tn tp i)))) (nU tc1 i (nV tb tn 3 ((ipF tb tn tp i) + 1))) (by first | assumption | omega) (fun j q => by rcases Nat.lt_or_ge j i with y | y; exact h1 j y; rw [show j = i by omega]; exact hI) (by
                              intro j q
                              rcases Nat.lt_or_ge j i with y | y
                              · rw [zU_n (by omega), nU_n (by omega)]; exact h2 j y
                              · rw [show j = i by omega, zU_s, nU_s]; exact ⟨rfl, rfl⟩) _ _ _ (by omega) hw (lv_sub hl [1, 0] rfl)
            · refine k_aload_n hm hl 0 rfl dX3_readRound_51 ?_
              refine k_callV (n := 0) (As := []) (rest := []) (wr := []) hm hw hl (c_readItem_er l G T tb tk1 tc1 tn i 1 (uS tb tn tp i) (mS tb tn tp i) (ipF tb tn tp i) te (by first | assumption | omega) (by first | assumption | omega) (by first | assumption | omega) (by first | assumption | omega) hI) gX3_readRound_X3_readItem rfl (by decide +kernel) ⟨by decide, by decide⟩ (ci := 3) rfl 0 rfl [0, 1, 2, 3, 4, 5, 6] [] (by decide) rfl rfl (by decide) (by decide) rfl rfl (by simp [Value.category]) ⟨by decide, by decide⟩ dX3_readRound_52 (fun v w1 H locs hp hw => ?_)
              obtain ⟨tk2_53, tc2_54, ti2_55, tu2_56, tm2_57, tp2_58, z2_59, rfl, rfl, hz_60, hp2_61⟩ := hp
              have hw := hw.sub (ws' := wPat G T tb tk2_53 tc2_54 tn ti2_55 1 tu2_56 tm2_57 tp2_58 z2_59) [0, 1, 2, 3, 4, 5, 6] (by decide) rfl
              refine W.eq (g2 := F0 m 55 ls []) rfl ?_
              have hr9 := isIr_rng hr1.2 hz_60
              have hz9 := hz_60
              have hp9 := hp2_61
              refine k_iincN hm hl 1 1 rfl [(1, vN (i + 1)), (0, .ref (T 0))] (by decide) rfl dX3_readRound_55 (fun ls hl => ?_)
              refine k_goto (tgt := 26) hm dX3_readRound_58 (by decide) ?_
              refine k_iload_n hm hl 0 rfl dX3_readRound_26 ?_
              refine k_bipushN hm 60 dX3_readRound_27 rfl ?_
              refine k_icmpge (tgt := 61) hm dX3_readRound_29 (by decide) (by omega) (fun c_62 => ?_) (fun c_62 => ?_)
              · refine k_aload_n hm hl 1 rfl dX3_readRound_61 ?_
                refine k_get (T := TX3) hm hw 0 9 i3 rfl rfl (by decide) (by decide +kernel) rfl dX3_readRound_62 ?_
                refine k_iconst (n := -1) hm dX3_readRound_65 ?_
                refine k_icmpne (tgt := 99) hm dX3_readRound_66 (by decide) (by omega) (fun c_63 => ?_) (fun c_63 => absurd c_63 (by omega))
                refine k_aload_n hm hl 1 rfl dX3_readRound_99 ?_
                refine k_dup hm dX3_readRound_100 rfl ?_
                refine k_get (T := TX3) hm hw 0 6 i3 rfl rfl (by decide) (by decide +kernel) rfl dX3_readRound_101 ?_
                refine k_aload_n hm hl 1 rfl dX3_readRound_104 ?_
                refine k_get (T := TX3) hm hw 0 5 i3 rfl rfl (by decide) (by decide +kernel) rfl dX3_readRound_105 ?_
                refine k_imulN hm dX3_readRound_108 ?_
                refine k_put (T := TX3) hm hw 0 6 (wPat G T tb tk2_53 tc2_54 tn ti2_55 1 (tu2_56 * 1) tm2_57 tp2_58 z2_59) i3 tyX3 tyX3_ok nmX3 rfl rfl (by decide) (by decide +kernel) rfl (tyX3_ok 6 (by decide)) rfl rfl (Nat.le_of_ble_eq_true rfl) rfl dX3_readRound_109 (fun H locs hw => ?_)
                refine k_aload_n hm hl 1 rfl dX3_readRound_112 ?_
                refine k_dup hm dX3_readRound_113 rfl ?_
                refine k_get (T := TX3) hm hw 0 7 i3 rfl rfl (by decide) (by decide +kernel) rfl dX3_readRound_114 ?_
                refine k_aload_n hm hl 1 rfl dX3_readRound_117 ?_
                refine k_get (T := TX3) hm hw 0 5 i3 rfl rfl (by decide) (by decide +kernel) rfl dX3_readRound_118 ?_
                refine k_imulN hm dX3_readRound_121 ?_
                refine k_put (T := TX3) hm hw 0 7 (wPat G T tb tk2_53 tc2_54 tn ti2_55 1 (tu2_56 * 1) (tm2_57 * 1) tp2_58 z2_59) i3 tyX3 tyX3_ok nmX3 rfl rfl (by decide) (by decide +kernel) rfl (tyX3_ok 7 (by decide)) rfl rfl (Nat.le_of_ble_eq_true rfl) rfl dX3_readRound_122 (fun H locs hw => ?_)
                refine k_aload_n hm hl 1 rfl dX3_readRound_125 ?_
                refine k_aload_n hm hl 1 rfl dX3_readRound_126 ?_
                refine k_callVr (n := 0) (As := []) (rest := [.ref (T 0)]) hm hw hl (c_ahead l G T tb tk2_53 tc2_54 tn ti2_55 1 (tu2_56 * 1) (tm2_57 * 1) tp2_58 z2_59 (by first | assumption | omega) (by first | assumption | omega)) gX3_readRound_X3_ahead rfl (by decide +kernel) ⟨by decide, by decide⟩ (ci := 3) rfl 0 rfl [0, 1, 2, 3, 4, 5, 6] (by decide) rfl rfl rfl (by simp [Value.category]) ⟨by decide, by decide⟩ dX3_readRound_127 (fun v H locs hp hw => ?_)
                obtain rfl := hp
                refine W.eq (g2 := F0 m 130 ls [vZ (bt tb tn tp2_58), .ref (T 0)]) rfl ?_
                have hb9 := bt_rng (p := tp2_58) htb
                refine k_bipushN hm 59 dX3_readRound_130 rfl ?_
                refine k_icmpne (tgt := 139) hm dX3_readRound_132 (by decide) (by omega) (fun c_65 => ?_) (fun c_65 => ?_)
                · refine k_iconstN hm 0 dX3_readRound_139 ?_
                  refine k_callV (n := 1) (As := [vN (0)]) (rest := []) (wr := []) hm hw hl (c_pass_e l G T tb tk2_53 tc2_54 tn ti2_55 1 (tu2_56 * 1) (tm2_57 * 1) tp2_58 z2_59 false (by first | assumption | omega)) gX3_readRound_X3_pass rfl (by decide +kernel) ⟨by decide, by decide⟩ (ci := 3) rfl 0 rfl [0, 1, 2, 3, 4, 5, 6] [] (by decide) rfl rfl (by decide) (by decide) rfl rfl (by simp [Value.category]) ⟨by decide, by decide⟩ dX3_readRound_140 (fun v w1 H locs hp hw => ?_)
                  obtain ⟨rfl, rfl⟩ := hp
                  have hw := hw.sub (ws' := wPat G T tb tk2_53 tc2_54 tn ti2_55 1 (tu2_56 * 1) (tm2_57 * 1) tp2_58 z2_59) [0, 1, 2, 3, 4, 5, 6] (by decide) rfl
                  refine W.eq (g2 := F0 m 143 ls []) rfl ?_
                  exact k_vret hm hQ rfl hw (⟨_, _, _, _, _, _, _, _, rfl, rfl, Or.inr ⟨Or.inl ⟨i, h1, Or.inr (by assumption), hI, hz9⟩, hr9⟩⟩) (by omega) (by omega) dX3_readRound_143
                · refine k_iconstN hm 1 dX3_readRound_135 ?_
                  refine k_goto (tgt := 140) hm dX3_readRound_136 (by decide) ?_
                  refine k_callV (n := 1) (As := [vN (1)]) (rest := []) (wr := []) hm hw hl (c_pass_e l G T tb tk2_53 tc2_54 tn ti2_55 1 (tu2_56 * 1) (tm2_57 * 1) tp2_58 z2_59 true (by first | assumption | omega)) gX3_readRound_X3_pass rfl (by decide +kernel) ⟨by decide, by decide⟩ (ci := 3) rfl 0 rfl [0, 1, 2, 3, 4, 5, 6] [] (by decide) rfl rfl (by decide) (by decide) rfl rfl (by simp [Value.category]) ⟨by decide, by decide⟩ dX3_readRound_140 (fun v w1 H locs hp hw => ?_)
                  obtain ⟨rfl, rfl⟩ := hp
                  have hw := hw.sub (ws' := wPat G T tb tk2_53 tc2_54 tn ti2_55 1 (tu2_56 * 1) (tm2_57 * 1) tp2_58 z2_59) [0, 1, 2, 3, 4, 5, 6] (by decide) rfl
                  refine W.eq (g2 := F0 m 143 ls []) rfl ?_
                  exact k_vret hm hQ rfl hw (⟨_, _, _, _, _, _, _, _, rfl, rfl, Or.inr ⟨Or.inl ⟨i, h1, Or.inr (by assumption), hI, hz9⟩, hr9⟩⟩) (by omega) (by omega) dX3_readRound_143
              · refine k_aload_n hm hl 1 rfl dX3_readRound_32 ?_
                refine k_get (T := TX3) hm hw 0 9 i3 rfl rfl (by decide) (by decide +kernel) rfl dX3_readRound_33 ?_
                refine k_iconst (n := -1) hm dX3_readRound_36 ?_
                refine k_icmpne (tgt := 61) hm dX3_readRound_37 (by decide) (by omega) (fun c_68 => ?_) (fun c_68 => absurd c_68 (by omega))
                refine k_aload_n hm hl 1 rfl dX3_readRound_61 ?_
                refine k_get (T := TX3) hm hw 0 9 i3 rfl rfl (by decide) (by decide +kernel) rfl dX3_readRound_62 ?_
                refine k_iconst (n := -1) hm dX3_readRound_65 ?_
                refine k_icmpne (tgt := 99) hm dX3_readRound_66 (by decide) (by omega) (fun c_69 => ?_) (fun c_69 => absurd c_69 (by omega))
                refine k_aload_n hm hl 1 rfl dX3_readRound_99 ?_
                refine k_dup hm dX3_readRound_100 rfl ?_
                refine k_get (T := TX3) hm hw 0 6 i3 rfl rfl (by decide) (by decide +kernel) rfl dX3_readRound_101 ?_
                refine k_aload_n hm hl 1 rfl dX3_readRound_104 ?_
                refine k_get (T := TX3) hm hw 0 5 i3 rfl rfl (by decide) (by decide +kernel) rfl dX3_readRound_105 ?_
                refine k_imulN hm dX3_readRound_108 ?_
                refine k_put (T := TX3) hm hw 0 6 (wPat G T tb tk2_53 tc2_54 tn ti2_55 1 (tu2_56 * 1) tm2_57 tp2_58 z2_59) i3 tyX3 tyX3_ok nmX3 rfl rfl (by decide) (by decide +kernel) rfl (tyX3_ok 6 (by decide)) rfl rfl (Nat.le_of_ble_eq_true rfl) rfl dX3_readRound_109 (fun H locs hw => ?_)
                refine k_aload_n hm hl 1 rfl dX3_readRound_112 ?_
                refine k_dup hm dX3_readRound_113 rfl ?_
                refine k_get (T := TX3) hm hw 0 7 i3 rfl rfl (by decide) (by decide +kernel) rfl dX3_readRound_114 ?_
                refine k_aload_n hm hl 1 rfl dX3_readRound_117 ?_
                refine k_get (T := TX3) hm hw 0 5 i3 rfl rfl (by decide) (by decide +kernel) rfl dX3_readRound_118 ?_
                refine k_imulN hm dX3_readRound_121 ?_
                refine k_put (T := TX3) hm hw 0 7 (wPat G T tb tk2_53 tc2_54 tn ti2_55 1 (tu2_56 * 1) (tm2_57 * 1) tp2_58 z2_59) i3 tyX3 tyX3_ok nmX3 rfl rfl (by decide) (by decide +kernel) rfl (tyX3_ok 7 (by decide)) rfl rfl (Nat.le_of_ble_eq_true rfl) rfl dX3_readRound_122 (fun H locs hw => ?_)
                refine k_aload_n hm hl 1 rfl dX3_readRound_125 ?_
                refine k_aload_n hm hl 1 rfl dX3_readRound_126 ?_
                refine k_callVr (n := 0) (As := []) (rest := [.ref (T 0)]) hm hw hl (c_ahead l G T tb tk2_53 tc2_54 tn ti2_55 1 (tu2_56 * 1) (tm2_57 * 1) tp2_58 z2_59 (by first | assumption | omega) (by first | assumption | omega)) gX3_readRound_X3_ahead rfl (by decide +kernel) ⟨by decide, by decide⟩ (ci := 3) rfl 0 rfl [0, 1, 2, 3, 4, 5, 6] (by decide) rfl rfl rfl (by simp [Value.category]) ⟨by decide, by decide⟩ dX3_readRound_127 (fun v H locs hp hw => ?_)
                obtain rfl := hp
                refine W.eq (g2 := F0 m 130 ls [vZ (bt tb tn tp2_58), .ref (T 0)]) rfl ?_
                have hb9 := bt_rng (p := tp2_58) htb
                refine k_bipushN hm 59 dX3_readRound_130 rfl ?_
                refine k_icmpne (tgt := 139) hm dX3_readRound_132 (by decide) (by omega) (fun c_71 => ?_) (fun c_71 => ?_)
                · refine k_iconstN hm 0 dX3_readRound_139 ?_
                  refine k_callV (n := 1) (As := [vN (0)]) (rest := []) (wr := []) hm hw hl (c_pass_e l G T tb tk2_53 tc2_54 tn ti2_55 1 (tu2_56 * 1) (tm2_57 * 1) tp2_58 z2_59 false (by first | assumption | omega)) gX3_readRound_X3_pass rfl (by decide +kernel) ⟨by decide, by decide⟩ (ci := 3) rfl 0 rfl [0, 1, 2, 3, 4, 5, 6] [] (by decide) rfl rfl (by decide) (by decide) rfl rfl (by simp [Value.category]) ⟨by decide, by decide⟩ dX3_readRound_140 (fun v w1 H locs hp hw => ?_)
                  obtain ⟨rfl, rfl⟩ := hp
                  have hw := hw.sub (ws' := wPat G T tb tk2_53 tc2_54 tn ti2_55 1 (tu2_56 * 1) (tm2_57 * 1) tp2_58 z2_59) [0, 1, 2, 3, 4, 5, 6] (by decide) rfl
                  refine W.eq (g2 := F0 m 143 ls []) rfl ?_
                  exact k_vret hm hQ rfl hw (⟨_, _, _, _, _, _, _, _, rfl, rfl, Or.inr ⟨Or.inl ⟨i, h1, Or.inr (by assumption), hI, hz9⟩, hr9⟩⟩) (by omega) (by omega) dX3_readRound_143
                · refine k_iconstN hm 1 dX3_readRound_135 ?_
                  refine k_goto (tgt := 140) hm dX3_readRound_136 (by decide) ?_
                  refine k_callV (n := 1) (As := [vN (1)]) (rest := []) (wr := []) hm hw hl (c_pass_e l G T tb tk2_53 tc2_54 tn ti2_55 1 (tu2_56 * 1) (tm2_57 * 1) tp2_58 z2_59 true (by first | assumption | omega)) gX3_readRound_X3_pass rfl (by decide +kernel) ⟨by decide, by decide⟩ (ci := 3) rfl 0 rfl [0, 1, 2, 3, 4, 5, 6] [] (by decide) rfl rfl (by decide) (by decide) rfl rfl (by simp [Value.category]) ⟨by decide, by decide⟩ dX3_readRound_140 (fun v w1 H locs hp hw => ?_)
                  obtain ⟨rfl, rfl⟩ := hp
                  have hw := hw.sub (ws' := wPat G T tb tk2_53 tc2_54 tn ti2_55 1 (tu2_56 * 1) (tm2_57 * 1) tp2_58 z2_59) [0, 1, 2, 3, 4, 5, 6] (by decide) rfl
                  refine W.eq (g2 := F0 m 143 ls []) rfl ?_
                  exact k_vret hm hQ rfl hw (⟨_, _, _, _, _, _, _, _, rfl, rfl, Or.inr ⟨Or.inl ⟨i, h1, Or.inr (by assumption), hI, hz9⟩, hr9⟩⟩) (by omega) (by omega) dX3_readRound_143
    exact loop_26 (60 - 1 + 1) 1 (zU tk 0 (kdB (bt tb tn tp))) (nU tc 0 (nV tb tn 3 (tp + 1))) (by first | assumption | omega) (fun j q => by rw [show j = 0 by omega]; exact hI) (fun j q => by rw [show j = 0 by omega]; exact ⟨zU_s, nU_s⟩) _ _ _ (Nat.lt_succ_self _) hw (lv_sub hl [1, 0] rfl)
  · refine k_callV (n := 0) (As := []) (rest := []) (wr := []) hm hw hl (c_readItem_er l G T tb tk tc tn 0 1 0 0 tp te (by first | assumption | omega) (by first | assumption | omega) (by first | assumption | omega) (by first | assumption | omega) hI) gX3_readRound_X3_readItem rfl (by decide +kernel) ⟨by decide, by decide⟩ (ci := 3) rfl 0 rfl [0, 1, 2, 3, 4, 5, 6] [] (by decide) rfl rfl (by decide) (by decide) rfl rfl (by simp [Value.category]) ⟨by decide, by decide⟩ dX3_readRound_21 (fun v w1 H locs hp hw => ?_)
    obtain ⟨tk2_75, tc2_76, ti2_77, tu2_78, tm2_79, tp2_80, z2_81, rfl, rfl, hz_82, hp2_83⟩ := hp
    have hw := hw.sub (ws' := wPat G T tb tk2_75 tc2_76 tn ti2_77 1 tu2_78 tm2_79 tp2_80 z2_81) [0, 1, 2, 3, 4, 5, 6] (by decide) rfl
    refine W.eq (g2 := F0 m 24 ls []) rfl ?_
    have hr9 := isIr_rng htp hz_82
    have hz9 := hz_82
    have hp9 := hp2_83
    refine k_iconstN hm 1 dX3_readRound_24 ?_
    refine k_istore_n hm hl [(1, vN (1)), (0, .ref (T 0))] (by decide) rfl dX3_readRound_25 (fun ls hl => ?_)
    refine k_iload_n hm hl 0 rfl dX3_readRound_26 ?_
    refine k_bipushN hm 60 dX3_readRound_27 rfl ?_
    refine k_icmpge (tgt := 61) hm dX3_readRound_29 (by decide) (by omega) (fun c_84 => absurd c_84 (by omega)) (fun c_84 => ?_)
    refine k_aload_n hm hl 1 rfl dX3_readRound_32 ?_
    refine k_get (T := TX3) hm hw 0 9 i3 rfl rfl (by decide) (by decide +kernel) rfl dX3_readRound_33 ?_
    refine k_iconst (n := -1) hm dX3_readRound_36 ?_
    refine k_icmpne (tgt := 61) hm dX3_readRound_37 (by decide) (by omega) (fun c_85 => ?_) (fun c_85 => absurd c_85 (by omega))
    refine k_aload_n hm hl 1 rfl dX3_readRound_61 ?_
    refine k_get (T := TX3) hm hw 0 9 i3 rfl rfl (by decide) (by decide +kernel) rfl dX3_readRound_62 ?_
    refine k_iconst (n := -1) hm dX3_readRound_65 ?_
    refine k_icmpne (tgt := 99) hm dX3_readRound_66 (by decide) (by omega) (fun c_86 => ?_) (fun c_86 => absurd c_86 (by omega))
    refine k_aload_n hm hl 1 rfl dX3_readRound_99 ?_
    refine k_dup hm dX3_readRound_100 rfl ?_
    refine k_get (T := TX3) hm hw 0 6 i3 rfl rfl (by decide) (by decide +kernel) rfl dX3_readRound_101 ?_
    refine k_aload_n hm hl 1 rfl dX3_readRound_104 ?_
    refine k_get (T := TX3) hm hw 0 5 i3 rfl rfl (by decide) (by decide +kernel) rfl dX3_readRound_105 ?_
    refine k_imulN hm dX3_readRound_108 ?_
    refine k_put (T := TX3) hm hw 0 6 (wPat G T tb tk2_75 tc2_76 tn ti2_77 1 (tu2_78 * 1) tm2_79 tp2_80 z2_81) i3 tyX3 tyX3_ok nmX3 rfl rfl (by decide) (by decide +kernel) rfl (tyX3_ok 6 (by decide)) rfl rfl (Nat.le_of_ble_eq_true rfl) rfl dX3_readRound_109 (fun H locs hw => ?_)
    refine k_aload_n hm hl 1 rfl dX3_readRound_112 ?_
    refine k_dup hm dX3_readRound_113 rfl ?_
    refine k_get (T := TX3) hm hw 0 7 i3 rfl rfl (by decide) (by decide +kernel) rfl dX3_readRound_114 ?_
    refine k_aload_n hm hl 1 rfl dX3_readRound_117 ?_
    refine k_get (T := TX3) hm hw 0 5 i3 rfl rfl (by decide) (by decide +kernel) rfl dX3_readRound_118 ?_
    refine k_imulN hm dX3_readRound_121 ?_
    refine k_put (T := TX3) hm hw 0 7 (wPat G T tb tk2_75 tc2_76 tn ti2_77 1 (tu2_78 * 1) (tm2_79 * 1) tp2_80 z2_81) i3 tyX3 tyX3_ok nmX3 rfl rfl (by decide) (by decide +kernel) rfl (tyX3_ok 7 (by decide)) rfl rfl (Nat.le_of_ble_eq_true rfl) rfl dX3_readRound_122 (fun H locs hw => ?_)
    refine k_aload_n hm hl 1 rfl dX3_readRound_125 ?_
    refine k_aload_n hm hl 1 rfl dX3_readRound_126 ?_
    refine k_callVr (n := 0) (As := []) (rest := [.ref (T 0)]) hm hw hl (c_ahead l G T tb tk2_75 tc2_76 tn ti2_77 1 (tu2_78 * 1) (tm2_79 * 1) tp2_80 z2_81 (by first | assumption | omega) (by first | assumption | omega)) gX3_readRound_X3_ahead rfl (by decide +kernel) ⟨by decide, by decide⟩ (ci := 3) rfl 0 rfl [0, 1, 2, 3, 4, 5, 6] (by decide) rfl rfl rfl (by simp [Value.category]) ⟨by decide, by decide⟩ dX3_readRound_127 (fun v H locs hp hw => ?_)
    obtain rfl := hp
    refine W.eq (g2 := F0 m 130 ls [vZ (bt tb tn tp2_80), .ref (T 0)]) rfl ?_
    have hb9 := bt_rng (p := tp2_80) htb
    refine k_bipushN hm 59 dX3_readRound_130 rfl ?_
    refine k_icmpne (tgt := 139) hm dX3_readRound_132 (by decide) (by omega) (fun c_88 => ?_) (fun c_88 => ?_)
    · refine k_iconstN hm 0 dX3_readRound_139 ?_
      refine k_callV (n := 1) (As := [vN (0)]) (rest := []) (wr := []) hm hw hl (c_pass_e l G T tb tk2_75 tc2_76 tn ti2_77 1 (tu2_78 * 1) (tm2_79 * 1) tp2_80 z2_81 false (by first | assumption | omega)) gX3_readRound_X3_pass rfl (by decide +kernel) ⟨by decide, by decide⟩ (ci := 3) rfl 0 rfl [0, 1, 2, 3, 4, 5, 6] [] (by decide) rfl rfl (by decide) (by decide) rfl rfl (by simp [Value.category]) ⟨by decide, by decide⟩ dX3_readRound_140 (fun v w1 H locs hp hw => ?_)
      obtain ⟨rfl, rfl⟩ := hp
      have hw := hw.sub (ws' := wPat G T tb tk2_75 tc2_76 tn ti2_77 1 (tu2_78 * 1) (tm2_79 * 1) tp2_80 z2_81) [0, 1, 2, 3, 4, 5, 6] (by decide) rfl
      refine W.eq (g2 := F0 m 143 ls []) rfl ?_
      exact k_vret hm hQ rfl hw (⟨_, _, _, _, _, _, _, _, rfl, rfl, Or.inr ⟨Or.inl ⟨0, fun i q => absurd q (by omega), Or.inl rfl, hI, hz9⟩, hr9⟩⟩) (by omega) (by omega) dX3_readRound_143
    · refine k_iconstN hm 1 dX3_readRound_135 ?_
      refine k_goto (tgt := 140) hm dX3_readRound_136 (by decide) ?_
      refine k_callV (n := 1) (As := [vN (1)]) (rest := []) (wr := []) hm hw hl (c_pass_e l G T tb tk2_75 tc2_76 tn ti2_77 1 (tu2_78 * 1) (tm2_79 * 1) tp2_80 z2_81 true (by first | assumption | omega)) gX3_readRound_X3_pass rfl (by decide +kernel) ⟨by decide, by decide⟩ (ci := 3) rfl 0 rfl [0, 1, 2, 3, 4, 5, 6] [] (by decide) rfl rfl (by decide) (by decide) rfl rfl (by simp [Value.category]) ⟨by decide, by decide⟩ dX3_readRound_140 (fun v w1 H locs hp hw => ?_)
      obtain ⟨rfl, rfl⟩ := hp
      have hw := hw.sub (ws' := wPat G T tb tk2_75 tc2_76 tn ti2_77 1 (tu2_78 * 1) (tm2_79 * 1) tp2_80 z2_81) [0, 1, 2, 3, 4, 5, 6] (by decide) rfl
      refine W.eq (g2 := F0 m 143 ls []) rfl ?_
      exact k_vret hm hQ rfl hw (⟨_, _, _, _, _, _, _, _, rfl, rfl, Or.inr ⟨Or.inl ⟨0, fun i q => absurd q (by omega), Or.inl rfl, hI, hz9⟩, hr9⟩⟩) (by omega) (by omega) dX3_readRound_143
