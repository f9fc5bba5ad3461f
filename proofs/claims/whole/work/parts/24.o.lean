def synR (tx : Nat → Nat) (n : Nat) : Nat → Nat → Int → Prop
  | 0, _, z => z = -1
  | k + 1, p, z => (¬ p < n ∧ z = -1) ∨ (p < n ∧ ((∃ m t q, rdOk tx n p m t q ∧ synR tx n k q z) ∨ rdEr tx n p z))
theorem synR_u {tx : Nat → Nat} {n : Nat} : ∀ {k p : Nat} {y z : Int}, synR tx n k p y → synR tx n k p z → y = z
  | 0, _, _, _, h, g => by rw [show _ = (-1 : Int) from h, show _ = (-1 : Int) from g]
  | k + 1, p, y, z, h, g => by
    rcases h with ⟨h1, h2⟩ | ⟨h1, h2⟩ <;> rcases g with ⟨g1, g2⟩ | ⟨g1, g2⟩
    · rw [h2, g2]
    · exact absurd g1 h1
    · exact absurd h1 g1
    · rcases h2 with ⟨m, t, q, a, b⟩ | a <;> rcases g2 with ⟨m2, t2, q2, a2, b2⟩ | a2
      · obtain ⟨_, _, e⟩ := rdOk_u a a2
        subst e
        exact synR_u b b2
      · exact absurd a2 (rdOk_Er a)
      · exact absurd a (rdOk_Er a2)
      · exact rdEr_u a a2
theorem isNr_nn {tx : Nat → Nat} {n k p : Nat} {z : Int} (h : isNr tx n k p z) : 0 ≤ z := by
  rcases h with ⟨_, h⟩ | ⟨_, h⟩ <;> omega
theorem rdEr_nn {tx : Nat → Nat} {n p : Nat} {z : Int} (h : rdEr tx n p z) : 0 ≤ z := by
  rcases h with ⟨j, _, _, _, h⟩ | ⟨m, _, _, _, h⟩
  · rcases h with ⟨_, h⟩ | ⟨_, h⟩
    · omega
    · exact isNr_nn h
  · rcases h with ⟨_, _, h⟩ | ⟨_, _, _, h⟩ | ⟨_, _, h⟩
    · exact isNr_nn h
    · omega
    · omega
theorem synR_ok {tx : Nat → Nat} {n k p : Nat} (h : synR tx n (k + 1) p (-1)) (hp : p < n) : ∃ m t q, rdOk tx n p m t q ∧ synR tx n k q (-1) := by
  rcases h with ⟨h1, _⟩ | ⟨_, h | h⟩
  · exact absurd hp h1
  · exact h
  · have := rdEr_nn h; omega
def ftS (tx : Nat → Nat) (n : Nat) : Nat → Nat → Nat → Nat → Prop
  | 0, _, _, c => c = 0
  | k + 1, p, tot, c => (¬ p < n ∧ c = 0) ∨ (p < n ∧ ∃ m t q, rdOk tx n p m t q ∧ ((¬ (uS tx n p m * t = tot ∧ 3 ≤ mS tx n p m * t ∧ mS tx n p m * t ≤ 120) ∧ c = 0) ∨ ((uS tx n p m * t = tot ∧ 3 ≤ mS tx n p m * t ∧ mS tx n p m * t ≤ 120) ∧ ∃ c2, c = c2 + 1 ∧ ftS tx n k q (mS tx n p m * t) c2)))
theorem ftS_u {tx : Nat → Nat} {n : Nat} : ∀ {k p tot c d : Nat}, ftS tx n k p tot c → ftS tx n k p tot d → c = d
  | 0, _, _, _, _, h, g => by rw [show _ = 0 from h, show _ = 0 from g]
  | k + 1, p, tot, c, d, h, g => by
    rcases h with ⟨h1, h2⟩ | ⟨h1, m, t, q, h2, h3⟩ <;> rcases g with ⟨g1, g2⟩ | ⟨g1, m2, t2, q2, g2, g3⟩
    · rw [h2, g2]
    · exact absurd g1 h1
    · exact absurd h1 g1
    · obtain ⟨e1, e2, e3⟩ := rdOk_u h2 g2
      subst e1; subst e2; subst e3
      rcases h3 with ⟨a, b⟩ | ⟨a, c2, b, e⟩ <;> rcases g3 with ⟨a2, b2⟩ | ⟨a2, d2, b2, e2⟩
      · rw [b, b2]
      · exact absurd a2 a
      · exact absurd a a2
      · rw [b, b2, ftS_u e e2]
theorem uS_t {tx : Nat → Nat} {n p m t : Nat} (hm : m ≤ 60) (ht : t ≤ 60) : uS tx n p m * t ≤ 7200000 ∧ mS tx n p m * t ≤ 7200000 := by
  have h := uS_le (tx := tx) (n := n) (p := p) m
  have a : uS tx n p m * t ≤ 120000 * 60 := Nat.mul_le_mul (by omega) ht
  have b : mS tx n p m * t ≤ 120000 * 60 := Nat.mul_le_mul (by omega) ht
  omega
theorem ftS_le {tx : Nat → Nat} {n : Nat} : ∀ {k p tot c : Nat}, ftS tx n k p tot c → c ≤ k
  | 0, _, _, c, h => by rw [show c = 0 from h]; exact Nat.le_refl _
  | k + 1, p, tot, c, h => by
    rcases h with ⟨_, h⟩ | ⟨_, m, t, q, _, ⟨_, h⟩ | ⟨_, c2, h, h2⟩⟩
    · omega
    · omega
    · have := ftS_le h2; omega
set_option maxHeartbeats 4000000 in
set_option maxRecDepth 100000 in
theorem c_syntaxError (l : Launch) (G : kG) (T : Nat → Nat) (tb : Nat → Nat) (tk : Nat → Int) (tc : Nat → Nat) (tn : Nat) (ti : Nat) (tt : Nat) (tu : Nat) (tm : Nat) (tp : Nat) (te : Int) (htn : tn ≤ 120) (htb : ∀ i, i < tn → tb i ≤ 127) : kCM l yX3_syntaxError wsX3_syntaxError 5 108 0 0 G [.ref (T 0)] (wPat G T tb tk tc tn ti tt tu tm tp te) (fun vv uu => ∃ (tk2 : Nat → Int), ∃ (tc2 : Nat → Nat), ∃ (ti2 : Nat), ∃ (tt2 : Nat), ∃ (tu2 : Nat), ∃ (tm2 : Nat), ∃ (tp2 : Nat), ∃ (z : Int), vv = some (vZ (z)) ∧ uu = wPat G T tb tk2 tc2 tn ti2 tt2 tu2 tm2 tp2 z ∧ (synR tb tn 120 0 z) ∧ (-1 ≤ z ∧ z ≤ (tn : Int))) := by
  refine kCM.of (cc := cX3_syntaxError) (maxL := 2) (ret := (some .int)) (by decide) rfl (Nat.le_of_ble_eq_true rfl) ?_
  intro p e s m args below meth c A ls Qz hQ hin hm hw hl
  have hl : lv_has ls 2 [(0, .ref (T 0))] := hl
  have i3 : ∀ w ∈ wsX30, w ∈ wsX3_syntaxError := by decide +kernel
  refine k_aload_n hm hl 0 rfl dX3_syntaxError_0 ?_
  refine k_callV (n := 0) (As := []) (rest := []) (wr := []) hm hw hl (c_rewind l G T tb tk tc tn ti tt tu tm tp te) gX3_syntaxError_X3_rewind rfl (by decide +kernel) ⟨by decide, by decide⟩ (ci := 3) rfl 0 rfl [0, 1, 2, 3, 4, 5, 6] [] (by decide) rfl rfl (by decide) (by decide) rfl rfl (by simp [Value.category]) ⟨by decide, by decide⟩ dX3_syntaxError_1 (fun v w1 H locs hp hw => ?_)
  obtain ⟨rfl, rfl⟩ := hp
  have hw := hw.sub (ws' := wPat G T tb tk tc tn ti tt tu tm 0 (-1)) [0, 1, 2, 3, 4, 5, 6] (by decide) rfl
  refine W.eq (g2 := F0 m 4 ls []) rfl ?_
  refine k_iconstN hm 0 dX3_syntaxError_4 ?_
  refine k_istore_n hm hl [(1, vN (0)), (0, .ref (T 0))] (by decide) rfl dX3_syntaxError_5 (fun ls hl => ?_)
  have loop_6 : ∀ (fu : Nat) (i : Nat) (tk1 : Nat → Int) (tc1 : Nat → Nat) (ti1 : Nat) (tt1 : Nat) (tu1 : Nat) (tm1 : Nat) (p1 : Nat) (hi : i ≤ 120 ∧ p1 ≤ tn) (hs : ∀ z, synR tb tn (120 - i) p1 z → synR tb tn 120 0 z) (H : Heap) (locs : List Loc) (ls : Array Slot), 120 - i < fu → kW G A s (wPat G T tb tk1 tc1 tn ti1 tt1 tu1 tm1 p1 (-1)) H locs → lv_has ls 2 [(0, .ref (T 0)), (1, vN (i))] → W p l e { frames := 5, cells := 0, slots := 0, locals := 108 } s m args below meth c H locs 0 0 Qz (F0 m 6 ls []) := by
    intro fu
    induction fu with
    | zero => intro i tk1 tc1 ti1 tt1 tu1 tm1 p1 hi hs H locs ls hfu; exact absurd hfu (Nat.not_lt_zero _)
    | succ fu ih_6 =>
      intro i tk1 tc1 ti1 tt1 tu1 tm1 p1 hi hs H locs ls hfu hw hl
      refine k_iload_n hm hl 1 rfl dX3_syntaxError_6 ?_
      refine k_bipushN hm 120 dX3_syntaxError_7 rfl ?_
      refine k_icmpge (tgt := 37) hm dX3_syntaxError_9 (by decide) (by omega) (fun c_2 => ?_) (fun c_2 => ?_)
      · refine k_aload_n hm hl 0 rfl dX3_syntaxError_37 ?_
        refine k_get (T := TX3) hm hw 0 9 i3 rfl rfl (by decide) (by decide +kernel) rfl dX3_syntaxError_38 ?_
        exact k_iret (post := _) hm hQ rfl rfl hw (⟨_, _, _, _, _, _, _, _, rfl, rfl, hs _ (by rw [show 120 - i = 0 by omega]; exact rfl), by omega⟩) (by omega) (by omega) dX3_syntaxError_41
      · refine k_aload_n hm hl 0 rfl dX3_syntaxError_12 ?_
        refine k_get (T := TX3) hm hw 0 9 i3 rfl rfl (by decide) (by decide +kernel) rfl dX3_syntaxError_13 ?_
        refine k_iconst (n := -1) hm dX3_syntaxError_16 ?_
        refine k_icmpne (tgt := 37) hm dX3_syntaxError_17 (by decide) (by omega) (fun c_3 => absurd c_3 (by omega)) (fun c_3 => ?_)
        refine k_aload_n hm hl 0 rfl dX3_syntaxError_20 ?_
        refine k_callVr (n := 0) (As := []) (rest := []) hm hw hl (c_hasMore l G T tb tk1 tc1 tn ti1 tt1 tu1 tm1 p1 (-1) (by first | assumption | omega) (by first | assumption | omega)) gX3_syntaxError_X3_hasMore rfl (by decide +kernel) ⟨by decide, by decide⟩ (ci := 3) rfl 0 rfl [0, 1, 2, 3, 4, 5, 6] (by decide) rfl rfl rfl (by simp [Value.category]) ⟨by decide, by decide⟩ dX3_syntaxError_21 (fun v H locs hp hw => ?_)
        obtain rfl := hp
        refine W.eq (g2 := F0 m 24 ls [vB (decide (p1 < tn))]) rfl ?_
        refine k_ifeqB (tgt := 37) hm dX3_syntaxError_24 (by decide) (fun c_5 => ?_) (fun c_5 => ?_)
        · have c_5d := of_decide_eq_false c_5
          have hd6 : ¬ p1 < tn := c_5d
          refine k_aload_n hm hl 0 rfl dX3_syntaxError_37 ?_
          refine k_get (T := TX3) hm hw 0 9 i3 rfl rfl (by decide) (by decide +kernel) rfl dX3_syntaxError_38 ?_
          exact k_iret (post := _) hm hQ rfl rfl hw (⟨_, _, _, _, _, _, _, _, rfl, rfl, hs _ (by rw [show 120 - i = (120 - (i + 1)) + 1 by omega]; exact Or.inl ⟨hd6, rfl⟩), by omega⟩) (by omega) (by omega) dX3_syntaxError_41
        · have c_5d := of_decide_eq_true c_5
          have hd6 : p1 < tn := c_5d
          refine k_aload_n hm hl 0 rfl dX3_syntaxError_27 ?_
          refine k_callV (n := 0) (As := []) (rest := []) (wr := []) hm hw hl (c_readRound l G T tb tk1 tc1 tn ti1 tt1 tu1 tm1 p1 te (by first | assumption | omega) (by first | assumption | omega) (by first | assumption | omega)) gX3_syntaxError_X3_readRound rfl (by decide +kernel) ⟨by decide, by decide⟩ (ci := 3) rfl 0 rfl [0, 1, 2, 3, 4, 5, 6] [] (by decide) rfl rfl (by decide) (by decide) rfl rfl (by simp [Value.category]) ⟨by decide, by decide⟩ dX3_syntaxError_28 (fun v w1 H locs hp hw => ?_)
          obtain ⟨tk2_7, tc2_8, m2_9, t2_10, tu2_11, tm2_12, tp2_13, z2_14, rfl, rfl, hz_15⟩ := hp
          have hw := hw.sub (ws' := wPat G T tb tk2_7 tc2_8 tn m2_9 t2_10 tu2_11 tm2_12 tp2_13 z2_14) [0, 1, 2, 3, 4, 5, 6] (by decide) rfl
          refine W.eq (g2 := F0 m 31 ls []) rfl ?_
          have hz9 := hz_15
          rcases hz9 with ⟨e1, e2, e3, e4, e5, e6⟩ | ⟨e1, e2⟩
          · subst e1
            refine k_iincN hm hl 1 1 rfl [(1, vN (i + 1)), (0, .ref (T 0))] (by decide) rfl dX3_syntaxError_31 (fun ls hl => ?_)
            refine k_goto (tgt := 6) hm dX3_syntaxError_34 (by decide) ?_
            exact ih_6  (i + 1) tk2_7 tc2_8 m2_9 t2_10 tu2_11 tm2_12 tp2_13 (by first | assumption | omega) (by
                              intro z q
                              exact hs z (by
                                rw [show 120 - i = (120 - (i + 1)) + 1 by omega]
                                exact Or.inr ⟨hd6, Or.inl ⟨_, _, _, e2, q⟩⟩)) _ _ _ (by omega) hw (lv_sub hl [1, 0] rfl)
          · refine k_iincN hm hl 1 1 rfl [(1, vN (i + 1)), (0, .ref (T 0))] (by decide) rfl dX3_syntaxError_31 (fun ls hl => ?_)
            refine k_goto (tgt := 6) hm dX3_syntaxError_34 (by decide) ?_
            refine k_iload_n hm hl 0 rfl dX3_syntaxError_6 ?_
            refine k_bipushN hm 120 dX3_syntaxError_7 rfl ?_
            refine k_icmpge (tgt := 37) hm dX3_syntaxError_9 (by decide) (by omega) (fun c_16 => ?_) (fun c_16 => ?_)
            · refine k_aload_n hm hl 1 rfl dX3_syntaxError_37 ?_
              refine k_get (T := TX3) hm hw 0 9 i3 rfl rfl (by decide) (by decide +kernel) rfl dX3_syntaxError_38 ?_
              exact k_iret (post := _) hm hQ rfl rfl hw (⟨_, _, _, _, _, _, _, _, rfl, rfl, hs _ (by rw [show 120 - i = (120 - (i + 1)) + 1 by omega]; exact Or.inr ⟨hd6, Or.inr e1⟩), by omega⟩) (by omega) (by omega) dX3_syntaxError_41
            · refine k_aload_n hm hl 1 rfl dX3_syntaxError_12 ?_
              refine k_get (T := TX3) hm hw 0 9 i3 rfl rfl (by decide) (by decide +kernel) rfl dX3_syntaxError_13 ?_
              refine k_iconst (n := -1) hm dX3_syntaxError_16 ?_
              refine k_icmpne (tgt := 37) hm dX3_syntaxError_17 (by decide) (by omega) (fun c_17 => ?_) (fun c_17 => absurd c_17 (by omega))
              refine k_aload_n hm hl 1 rfl dX3_syntaxError_37 ?_
              refine k_get (T := TX3) hm hw 0 9 i3 rfl rfl (by decide) (by decide +kernel) rfl dX3_syntaxError_38 ?_
              exact k_iret (post := _) hm hQ rfl rfl hw (⟨_, _, _, _, _, _, _, _, rfl, rfl, hs _ (by rw [show 120 - i = (120 - (i + 1)) + 1 by omega]; exact Or.inr ⟨hd6, Or.inr e1⟩), by omega⟩) (by omega) (by omega) dX3_syntaxError_41
  exact loop_6 (120 - 0 + 1) 0 tk tc ti tt tu tm 0 (by first | assumption | omega) (fun z q => q) _ _ _ (Nat.lt_succ_self _) hw (lv_sub hl [1, 0] rfl)
set_option maxHeartbeats 4000000 in
set_option maxRecDepth 100000 in
theorem c_fittingRounds (l : Launch) (G : kG) (o : Nat) (h : Nat) (T : Nat → Nat) (L : Nat → Nat) (M : Nat → Nat) (P : Nat → Nat) (gk : Nat → Nat) (gw : Nat → Nat) (gt : Nat → Nat) (gy : Nat → Nat) (R : Nat) (sp : Bool) (K : Nat → Nat → Nat) (w : Nat → Nat) (y : Nat → Nat) (tb : Nat → Nat) (tk : Nat → Int) (tc : Nat → Nat) (tn : Nat) (ti : Nat) (tt : Nat) (tu : Nat) (tm : Nat) (tp : Nat) (te : Int) (hok : POk gk gw gt gy R K w y) (htn : tn ≤ 120) (htb : ∀ i, i < tn → tb i ≤ 127) (hsy : synR tb tn 120 0 (-1)) : kCM l yX6_fittingRounds wsX6_fittingRounds 5 108 0 0 G [.ref (o)] (wMain G o P h T L M ++ (wPiece G P gk gw gt gy R sp ++ wPat G T tb tk tc tn ti tt tu tm tp te)) (fun vv uu => ∃ (tk2 : Nat → Int), ∃ (tc2 : Nat → Nat), ∃ (ti2 : Nat), ∃ (tt2 : Nat), ∃ (tu2 : Nat), ∃ (tm2 : Nat), ∃ (tp2 : Nat), ∃ (q : Nat), vv = some (vN (q)) ∧ uu = wMain G o P h T L M ++ (wPiece G P gk gw gt gy R sp ++ wPat G T tb tk2 tc2 tn ti2 tt2 tu2 tm2 tp2 (-1)) ∧ (ftS tb tn (40 - R) 0 (sumM (K (R - 1)) (w (R - 1))) q)) := by
  refine kCM.of (cc := cX6_fittingRounds) (maxL := 4) (ret := (some .int)) (by decide) rfl (Nat.le_of_ble_eq_true rfl) ?_
  intro p e s m args below meth c A ls Qz hQ hin hm hw hl
  have hl : lv_has ls 4 [(0, .ref (o))] := hl
  have i3 : ∀ w ∈ wsX30, w ∈ wsX6_fittingRounds := by decide +kernel
  have i4 : ∀ w ∈ wsX40, w ∈ wsX6_fittingRounds := by decide +kernel
  have i6 : ∀ w ∈ wsX60, w ∈ wsX6_fittingRounds := by decide +kernel
  have hR := hok.1.1
  have hll := PVd_last hok.1
  refine k_aload_n hm hl 0 rfl dX6_fittingRounds_0 ?_
  refine k_get (T := TX6) hm hw 0 0 i6 rfl rfl (by decide) (by decide +kernel) rfl dX6_fittingRounds_1 ?_
  refine k_callVr (n := 0) (As := []) (rest := []) hm hw hl (c_lastTotal l G P gk gw gt gy R sp K w y (by first | assumption | omega)) gX6_fittingRounds_X4_lastTotal rfl (by decide +kernel) ⟨by decide, by decide⟩ (ci := 4) rfl 1 rfl [1, 2, 3, 4, 5, 6, 7, 8, 9] (by decide) rfl rfl rfl (by simp [Value.category]) ⟨by decide, by decide⟩ dX6_fittingRounds_4 (fun v H locs hp hw => ?_)
  obtain rfl := hp
  refine W.eq (g2 := F0 m 7 ls [vN (sumM (K (R - 1)) (w (R - 1)))]) rfl ?_
  refine k_istore_n hm hl [(1, vN (sumM (K (R - 1)) (w (R - 1)))), (0, .ref (o))] (by decide) rfl dX6_fittingRounds_7 (fun ls hl => ?_)
  refine k_bipushN hm 40 dX6_fittingRounds_8 rfl ?_
  refine k_aload_n hm hl 1 rfl dX6_fittingRounds_10 ?_
  refine k_get (T := TX6) hm hw 0 0 i6 rfl rfl (by decide) (by decide +kernel) rfl dX6_fittingRounds_11 ?_
  refine k_get (T := TX4) hm hw 1 4 i4 rfl rfl (by decide) (by decide +kernel) rfl dX6_fittingRounds_14 ?_
  refine k_isubN hm (by omega) dX6_fittingRounds_17 ?_
  refine k_istore_n hm hl [(2, vN (40 - R)), (1, vN (sumM (K (R - 1)) (w (R - 1)))), (0, .ref (o))] (by decide) rfl dX6_fittingRounds_18 (fun ls hl => ?_)
  refine k_iconstN hm 0 dX6_fittingRounds_19 ?_
  refine k_istore_n hm hl [(3, vN (0)), (2, vN (40 - R)), (1, vN (sumM (K (R - 1)) (w (R - 1)))), (0, .ref (o))] (by decide) rfl dX6_fittingRounds_20 (fun ls hl => ?_)
  refine k_aload_n hm hl 3 rfl dX6_fittingRounds_21 ?_
  refine k_get (T := TX6) hm hw 0 2 i6 rfl rfl (by decide) (by decide +kernel) rfl dX6_fittingRounds_22 ?_
  refine k_callV (n := 0) (As := []) (rest := []) (wr := [(o, .inr (6, [.ref (P 0), .ref (h), .ref (T 0), .ref (L 0), .ref (M 0)])), (P 0, .inr (4, [.ref (P 1), .ref (P 3), .ref (P 5), .ref (P 7), vN (R), vB (sp)])), (P 1, .inr (2, [.ref (P 2)])), (P 2, .inl (G.2 0, 4800, .inl (nF gk))), (P 3, .inr (2, [.ref (P 4)])), (P 4, .inl (G.2 0, 40, .inl (nF gw))), (P 5, .inr (2, [.ref (P 6)])), (P 6, .inl (G.2 0, 40, .inl (nF gt))), (P 7, .inr (2, [.ref (P 8)])), (P 8, .inl (G.2 0, 3, .inl (nF gy)))]) hm hw hl (c_rewind l G T tb tk tc tn ti tt tu tm tp te) gX6_fittingRounds_X3_rewind rfl (by decide +kernel) ⟨by decide, by decide⟩ (ci := 3) rfl 10 rfl [10, 11, 12, 13, 14, 15, 16] [0, 1, 2, 3, 4, 5, 6, 7, 8, 9] (by decide) rfl rfl (by decide) (by decide) rfl rfl (by simp [Value.category]) ⟨by decide, by decide⟩ dX6_fittingRounds_25 (fun v w1 H locs hp hw => ?_)
  obtain ⟨rfl, rfl⟩ := hp
  have hw := hw.sub (ws' := wMain G o P h T L M ++ (wPiece G P gk gw gt gy R sp ++ wPat G T tb tk tc tn ti tt tu tm 0 (-1))) [0, 1, 2, 3, 4, 5, 6, 7, 8, 9, 10, 11, 12, 13, 14, 15, 16] (by decide) rfl
  refine W.eq (g2 := F0 m 28 ls []) rfl ?_
  have loop_28 : ∀ (fu : Nat) (cn : Nat) (tot : Nat) (tk1 : Nat → Int) (tc1 : Nat → Nat) (ti1 : Nat) (tt1 : Nat) (tu1 : Nat) (tm1 : Nat) (p1 : Nat) (hc : cn ≤ 40 - R ∧ p1 ≤ tn ∧ tot ≤ 120) (hsy1 : synR tb tn (120 - cn) p1 (-1)) (hft : ∀ q, ftS tb tn (40 - R - cn) p1 tot q → ftS tb tn (40 - R) 0 (sumM (K (R - 1)) (w (R - 1))) (cn + q)) (H : Heap) (locs : List Loc) (ls : Array Slot), 40 - R - cn < fu → kW G A s (wMain G o P h T L M ++ (wPiece G P gk gw gt gy R sp ++ wPat G T tb tk1 tc1 tn ti1 tt1 tu1 tm1 p1 (-1))) H locs → lv_has ls 4 [(0, .ref (o)), (1, vN (tot)), (2, vN (40 - R)), (3, vN (cn))] → W p l e { frames := 5, cells := 0, slots := 0, locals := 108 } s m args below meth c H locs 0 0 Qz (F0 m 28 ls []) := by
    intro fu
    induction fu with
    | zero => intro cn tot tk1 tc1 ti1 tt1 tu1 tm1 p1 hc hsy1 hft H locs ls hfu; exact absurd hfu (Nat.not_lt_zero _)
    | succ fu ih_28 =>
      intro cn tot tk1 tc1 ti1 tt1 tu1 tm1 p1 hc hsy1 hft H locs ls hfu hw hl
      refine k_iload_n hm hl 3 rfl dX6_fittingRounds_28 ?_
      refine k_iload_n hm hl 2 rfl dX6_fittingRounds_29 ?_
      refine k_icmpge (tgt := 90) hm dX6_fittingRounds_30 (by decide) (by omega) (fun c_3 => ?_) (fun c_3 => ?_)
      · refine k_iload_n hm hl 3 rfl dX6_fittingRounds_90 ?_
        exact k_iret (post := _) hm hQ rfl rfl hw (⟨_, _, _, _, _, _, _, cn, rfl, rfl, by have z := hft 0 (by rw [show 40 - R - cn = 0 by omega]; exact rfl); exact z⟩) (by omega) (by omega) dX6_fittingRounds_91
      · refine k_aload_n hm hl 0 rfl dX6_fittingRounds_33 ?_
        refine k_get (T := TX6) hm hw 0 2 i6 rfl rfl (by decide) (by decide +kernel) rfl dX6_fittingRounds_34 ?_
        refine k_callVr (n := 0) (As := []) (rest := []) hm hw hl (c_hasMore l G T tb tk1 tc1 tn ti1 tt1 tu1 tm1 p1 (-1) (by first | assumption | omega) (by first | assumption | omega)) gX6_fittingRounds_X3_hasMore rfl (by decide +kernel) ⟨by decide, by decide⟩ (ci := 3) rfl 10 rfl [10, 11, 12, 13, 14, 15, 16] (by decide) rfl rfl rfl (by simp [Value.category]) ⟨by decide, by decide⟩ dX6_fittingRounds_37 (fun v H locs hp hw => ?_)
        obtain rfl := hp
        refine W.eq (g2 := F0 m 40 ls [vB (decide (p1 < tn))]) rfl ?_
        refine k_ifeqB (tgt := 90) hm dX6_fittingRounds_40 (by decide) (fun c_5 => ?_) (fun c_5 => ?_)
        · have c_5d := of_decide_eq_false c_5
          have hd6 : ¬ p1 < tn := c_5d
          refine k_iload_n hm hl 3 rfl dX6_fittingRounds_90 ?_
          exact k_iret (post := _) hm hQ rfl rfl hw (⟨_, _, _, _, _, _, _, cn, rfl, rfl, by have z := hft 0 (by rw [show 40 - R - cn = (40 - R - (cn + 1)) + 1 by omega]; exact Or.inl ⟨hd6, rfl⟩); exact z⟩) (by omega) (by omega) dX6_fittingRounds_91
        · have c_5d := of_decide_eq_true c_5
          have hd6 : p1 < tn := c_5d
          refine k_aload_n hm hl 0 rfl dX6_fittingRounds_43 ?_
          refine k_get (T := TX6) hm hw 0 2 i6 rfl rfl (by decide) (by decide +kernel) rfl dX6_fittingRounds_44 ?_
          refine k_callV (n := 0) (As := []) (rest := []) (wr := [(o, .inr (6, [.ref (P 0), .ref (h), .ref (T 0), .ref (L 0), .ref (M 0)])), (P 0, .inr (4, [.ref (P 1), .ref (P 3), .ref (P 5), .ref (P 7), vN (R), vB (sp)])), (P 1, .inr (2, [.ref (P 2)])), (P 2, .inl (G.2 0, 4800, .inl (nF gk))), (P 3, .inr (2, [.ref (P 4)])), (P 4, .inl (G.2 0, 40, .inl (nF gw))), (P 5, .inr (2, [.ref (P 6)])), (P 6, .inl (G.2 0, 40, .inl (nF gt))), (P 7, .inr (2, [.ref (P 8)])), (P 8, .inl (G.2 0, 3, .inl (nF gy)))]) hm hw hl (c_readRound l G T tb tk1 tc1 tn ti1 tt1 tu1 tm1 p1 te (by first | assumption | omega) (by first | assumption | omega) (by first | assumption | omega)) gX6_fittingRounds_X3_readRound rfl (by decide +kernel) ⟨by decide, by decide⟩ (ci := 3) rfl 10 rfl [10, 11, 12, 13, 14, 15, 16] [0, 1, 2, 3, 4, 5, 6, 7, 8, 9] (by decide) rfl rfl (by decide) (by decide) rfl rfl (by simp [Value.category]) ⟨by decide, by decide⟩ dX6_fittingRounds_47 (fun v w1 H locs hp hw => ?_)
          obtain ⟨tk2_7, tc2_8, m2_9, t2_10, tu2_11, tm2_12, tp2_13, z2_14, rfl, rfl, hz_15⟩ := hp
          have hw := hw.sub (ws' := wMain G o P h T L M ++ (wPiece G P gk gw gt gy R sp ++ wPat G T tb tk2_7 tc2_8 tn m2_9 t2_10 tu2_11 tm2_12 tp2_13 z2_14)) [0, 1, 2, 3, 4, 5, 6, 7, 8, 9, 10, 11, 12, 13, 14, 15, 16] (by decide) rfl
          refine W.eq (g2 := F0 m 50 ls []) rfl ?_
          have hz9 := hz_15
          obtain ⟨m9, t9, q9, hrd, hs9⟩ := synR_ok (k := 119 - cn) (by rw [show 119 - cn + 1 = 120 - cn by omega]; exact hsy1) hd6
          obtain ⟨e1, e2, e3, e4, e5, e6⟩ := hz9.resolve_right (fun z => rdOk_Er hrd z.1)
          rw [← (rdOk_u e2 hrd).2.2] at hs9
          subst e1
          have hq9 := (rdOk_q (by omega) e2).resolve_right (by omega)
          have hu9 := uS_t (tx := tb) (n := tn) (p := p1) hq9.2.2.2.2 hq9.2.2.2.1
          refine k_aload_n hm hl 0 rfl dX6_fittingRounds_50 ?_
          refine k_get (T := TX6) hm hw 0 2 i6 rfl rfl (by decide) (by decide +kernel) rfl dX6_fittingRounds_51 ?_
          refine k_get (T := TX3) hm hw 10 6 i3 rfl rfl (by decide) (by decide +kernel) rfl dX6_fittingRounds_54 ?_
          refine k_iload_n hm hl 1 rfl dX6_fittingRounds_57 ?_
          refine k_icmpne (tgt := 74) hm dX6_fittingRounds_58 (by decide) (by omega) (fun c_16 => ?_) (fun c_16 => ?_)
          · have hng : ¬ (tu2_11 = tot ∧ 3 ≤ tm2_12 ∧ tm2_12 ≤ 120) := by omega
            rw [e4, e5] at hng
            refine k_iload_n hm hl 3 rfl dX6_fittingRounds_74 ?_
            exact k_iret (post := _) hm hQ rfl rfl hw (⟨_, _, _, _, _, _, _, cn, rfl, rfl, by have z := hft 0 (by rw [show 40 - R - cn = (40 - R - (cn + 1)) + 1 by omega]; exact Or.inr ⟨hd6, _, _, _, e2, Or.inl ⟨hng, rfl⟩⟩); exact z⟩) (by omega) (by omega) dX6_fittingRounds_75
          · refine k_aload_n hm hl 0 rfl dX6_fittingRounds_61 ?_
            refine k_get (T := TX6) hm hw 0 2 i6 rfl rfl (by decide) (by decide +kernel) rfl dX6_fittingRounds_62 ?_
            refine k_get (T := TX3) hm hw 10 7 i3 rfl rfl (by decide) (by decide +kernel) rfl dX6_fittingRounds_65 ?_
            refine k_callSr (n := 1) (As := [vN (tm2_12)]) (rest := []) hm hw hl (c_isGoal l G ((tm2_12 : Nat) : Int) (by first | assumption | omega)) gX6_fittingRounds_X6_isGoal rfl (by decide +kernel) ⟨by decide, by decide⟩ [] (by decide) rfl rfl rfl (by simp [Value.category]) ⟨by decide, by decide⟩ dX6_fittingRounds_68 (fun v H locs hp hw => ?_)
            obtain rfl := hp
            refine W.eq (g2 := F0 m 71 ls [vB (decide (3 ≤ ((tm2_12 : Nat) : Int) ∧ ((tm2_12 : Nat) : Int) ≤ 120))]) rfl ?_
            refine k_ifneB (tgt := 76) hm dX6_fittingRounds_71 (by decide) (fun c_18 => ?_) (fun c_18 => ?_)
            · have c_18d := of_decide_eq_true c_18
              have hgo := c_18d
              refine k_aload_n hm hl 0 rfl dX6_fittingRounds_76 ?_
              refine k_get (T := TX6) hm hw 0 2 i6 rfl rfl (by decide) (by decide +kernel) rfl dX6_fittingRounds_77 ?_
              refine k_get (T := TX3) hm hw 10 7 i3 rfl rfl (by decide) (by decide +kernel) rfl dX6_fittingRounds_80 ?_
              refine k_istore_n hm hl [(1, vN (tm2_12)), (0, .ref (o)), (2, vN (40 - R)), (3, vN (cn))] (by decide) rfl dX6_fittingRounds_83 (fun ls hl => ?_)
              refine k_iincN hm hl 3 1 rfl [(3, vN (cn + 1)), (1, vN (tm2_12)), (0, .ref (o)), (2, vN (40 - R))] (by decide) rfl dX6_fittingRounds_84 (fun ls hl => ?_)
              refine k_goto (tgt := 28) hm dX6_fittingRounds_87 (by decide) ?_
              exact ih_28  (cn + 1) tm2_12 tk2_7 tc2_8 m2_9 t2_10 tu2_11 tm2_12 tp2_13 (by first | assumption | omega) (by rw [show 120 - (cn + 1) = 119 - cn by omega]; exact hs9) (by
                              intro q z
                              rw [show cn + 1 + q = cn + (q + 1) by omega]
                              exact hft (q + 1) (by
                                rw [show 40 - R - cn = (40 - R - (cn + 1)) + 1 by omega]
                                exact Or.inr ⟨hd6, _, _, _, e2, Or.inr ⟨⟨by omega, by omega, by omega⟩, q, rfl, by rw [← e5]; exact z⟩⟩)) _ _ _ (by omega) hw (lv_sub hl [2, 1, 3, 0] rfl)
            · have c_18d := of_decide_eq_false c_18
              have hng : ¬ (tu2_11 = tot ∧ 3 ≤ tm2_12 ∧ tm2_12 ≤ 120) := fun z => c_18d ⟨by omega, by omega⟩
              rw [e4, e5] at hng
              refine k_iload_n hm hl 3 rfl dX6_fittingRounds_74 ?_
              exact k_iret (post := _) hm hQ rfl rfl hw (⟨_, _, _, _, _, _, _, cn, rfl, rfl, by have z := hft 0 (by rw [show 40 - R - cn = (40 - R - (cn + 1)) + 1 by omega]; exact Or.inr ⟨hd6, _, _, _, e2, Or.inl ⟨hng, rfl⟩⟩); exact z⟩) (by omega) (by omega) dX6_fittingRounds_75
  exact loop_28 (40 - R - 0 + 1) 0 (sumM (K (R - 1)) (w (R - 1))) tk tc ti tt tu tm 0 (by first | assumption | omega) hsy (fun q z => by rw [Nat.zero_add]; exact z) _ _ _ (Nat.lt_succ_self _) hw (lv_sub hl [3, 2, 1, 0] rfl)
