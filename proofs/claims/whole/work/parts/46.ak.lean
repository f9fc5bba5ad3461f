theorem isIr_ex (tx : Nat → Nat) (n p : Nat) : ∃ z, isIr tx n p z := by
  by_cases c : kdB (bt tx n p) = -1
  · exact ⟨_, Or.inl ⟨c, rfl⟩⟩
  · by_cases d : ndF tx n 3 (p + 1) = 0 ∨ dg tx n (nE tx n 3 (p + 1))
    · exact ⟨_, Or.inr ⟨c, Or.inl ⟨d, rfl⟩⟩⟩
    · exact ⟨_, Or.inr ⟨c, Or.inr ⟨d, rfl⟩⟩⟩
theorem isNr_ex (tx : Nat → Nat) (n k p : Nat) : ∃ z, isNr tx n k p z := by
  by_cases d : ndF tx n k p = 0 ∨ dg tx n (nE tx n k p)
  · exact ⟨_, Or.inl ⟨d, rfl⟩⟩
  · exact ⟨_, Or.inr ⟨d, rfl⟩⟩
theorem rd_ex {tx : Nat → Nat} {n p : Nat} (hp : p ≤ n) : ∀ f i, (∀ j, j < i → itOk tx n (ipF tx n p j)) → (i = 0 ∨ kdB (bt tx n (ipF tx n p i)) ≠ -1) → n + 1 ≤ ipF tx n p i + f → (∃ m t q, rdOk tx n p m t q) ∨ ∃ z, rdEr tx n p z ∧ z ≤ (n : Int) := by
  intro f
  induction f with
  | zero => intro i h1 _ h3; have := (ipF_rng hp h1).2; omega
  | succ f ih =>
    intro i h1 h2 h3
    have hr := ipF_rng hp h1
    by_cases c : itOk tx n (ipF tx n p i)
    · have h1' : ∀ j, j < i + 1 → itOk tx n (ipF tx n p j) := fun j hj => by
        by_cases q : j = i
        · rw [q]; exact c
        · exact h1 j (by omega)
      have hr' := ipF_rng hp h1'
      have hn := itOk_nx c
      have e : ipF tx n p (i + 1) = nxI tx n (ipF tx n p i) := rfl
      by_cases d : kdB (bt tx n (ipF tx n p (i + 1))) = -1
      · by_cases s : bt tx n (ipF tx n p (i + 1)) = 42
        · have hlt := bt_lt (show 0 ≤ bt tx n (ipF tx n p (i + 1)) by omega)
          by_cases u : nOk tx n 2 60 (ipF tx n p (i + 1) + 1)
          · have hE := nE_le (tx := tx) (n := n) (k := 2) (p := ipF tx n p (i + 1) + 1) (by omega)
            by_cases v : bt tx n (nE tx n 2 (ipF tx n p (i + 1) + 1)) = 59
            · exact Or.inl ⟨_, _, _, by omega, h1', d, Or.inl ⟨s, u, rfl, v, rfl⟩⟩
            · exact Or.inr ⟨_, Or.inr ⟨i + 1, by omega, h1', d, Or.inr (Or.inl ⟨s, u, v, rfl⟩)⟩, by omega⟩
          · obtain ⟨z, hz⟩ := isNr_ex tx n 2 (ipF tx n p (i + 1) + 1)
            exact Or.inr ⟨z, Or.inr ⟨i + 1, by omega, h1', d, Or.inl ⟨s, u, hz⟩⟩, (isNr_rng (by omega) hz).2⟩
        · by_cases v : bt tx n (ipF tx n p (i + 1)) = 59
          · exact Or.inl ⟨_, _, _, by omega, h1', d, Or.inr ⟨v, rfl, rfl⟩⟩
          · exact Or.inr ⟨_, Or.inr ⟨i + 1, by omega, h1', d, Or.inr (Or.inr ⟨s, v, rfl⟩)⟩, by omega⟩
      · exact ih (i + 1) h1' (Or.inr d) (by omega)
    · obtain ⟨z, hz⟩ := isIr_ex tx n (ipF tx n p i)
      exact Or.inr ⟨z, Or.inl ⟨i, h1, h2, c, hz⟩, (isIr_rng hr.2 hz).2⟩
theorem synR_ex {tx : Nat → Nat} {n : Nat} (hn : n ≤ 120) : ∀ k p, p ≤ n → ∃ z, synR tx n k p z ∧ -1 ≤ z ∧ z ≤ (n : Int)
  | 0, _, _ => ⟨-1, rfl, by omega, by omega⟩
  | k + 1, p, hp => by
    by_cases c : p < n
    · rcases rd_ex (tx := tx) hp (n + 1) 0 (fun j q => absurd q (by omega)) (Or.inl rfl) (by simp only [ipF]; omega) with ⟨m, t, q, h⟩ | ⟨z, h, h2⟩
      · have hq := (rdOk_q hp h).resolve_right (by omega)
        obtain ⟨z, h1, h2, h3⟩ := synR_ex hn k q (by omega)
        exact ⟨z, Or.inr ⟨c, Or.inl ⟨m, t, q, h, h1⟩⟩, h2, h3⟩
      · exact ⟨z, Or.inr ⟨c, Or.inr h⟩, by have := rdEr_nn h; omega, h2⟩
    · exact ⟨-1, Or.inl ⟨c, rfl⟩, by omega, by omega⟩
set_option maxHeartbeats 4000000 in
set_option maxRecDepth 100000 in
theorem c_m_byteAt (l : Launch) (G : kG) (D : Nat → Nat) (sa : Nat → Int64) (pa : Nat → Int64) (pn : Nat) (tx : Nat → Nat) (tn : Nat) (rf : Nat) (ro : Nat → Nat) (wk : Nat) (mb : Nat → Nat) (so : Nat) (kd : Nat → Nat) (nu : Nat → Nat) (it : Nat) (ti : Nat) (rd : Nat) (ad : Nat → Int64) (pq : Nat) (htn : tn ≤ 120) (hpq : pq ≤ 1000) : kCR l yX7_byteAt wsX7_byteAt 0 0 G [.ref (D 0), vN (pq)] (wMod G D sa pa pn tx tn rf ro wk mb so kd nu it ti rd ad) (fun vv => vv = some (vZ (bt tx tn pq))) := by
  refine kCM.of (cc := cX7_byteAt) (maxL := 2) (ret := (some .int)) (by decide) rfl (Nat.le_of_ble_eq_true rfl) ?_
  intro p e s m args below meth c A ls Qz hQ hin hm hw hl
  have hl : lv_has ls 2 [(0, .ref (D 0)), (1, vN (pq))] := hl
  have i7 : ∀ w ∈ wsX70, w ∈ wsX7_byteAt := by decide +kernel
  refine k_iload_n hm hl 1 rfl dX7_byteAt_0 ?_
  refine k_aload_n hm hl 0 rfl dX7_byteAt_1 ?_
  refine k_get (T := TX7) hm hw 0 4 i7 rfl rfl (by decide) (by decide +kernel) rfl dX7_byteAt_2 ?_
  refine k_icmpge (tgt := 17) hm dX7_byteAt_5 (by decide) (by omega) (fun c_1 => ?_) (fun c_1 => ?_)
  · refine k_iconst (n := -1) hm dX7_byteAt_17 ?_
    exact k_iret (post := _) hm hQ rfl rfl hw (⟨by unfold bt; rw [if_neg (by omega)], rfl⟩) (by omega) (by omega) dX7_byteAt_18
  · refine k_aload_n hm hl 0 rfl dX7_byteAt_8 ?_
    refine k_get (T := TX7) hm hw 0 3 i7 rfl rfl (by decide) (by decide +kernel) rfl dX7_byteAt_9 ?_
    refine k_iload_n hm hl 1 rfl dX7_byteAt_12 ?_
    refine k_ialdN hm hw 3 rfl (by omega) dX7_byteAt_13 ?_
    refine k_goto (tgt := 18) hm dX7_byteAt_14 (by decide) ?_
    exact k_iret (post := _) hm hQ rfl rfl hw (⟨by unfold bt; rw [if_pos (by omega)], rfl⟩) (by omega) (by omega) dX7_byteAt_18
set_option maxHeartbeats 4000000 in
set_option maxRecDepth 100000 in
theorem c_m_kindBy (l : Launch) (G : kG) (z : Int) (h : -1 ≤ z ∧ z ≤ 127) : kCR l yX7_kindBy wsX7_kindBy 0 0 G [vZ (z)] ([]) (fun vv => vv = some (vZ (kdB z))) := by
  refine kCM.of (cc := cX7_kindBy) (maxL := 1) (ret := (some .int)) (by decide) rfl (Nat.le_of_ble_eq_true rfl) ?_
  intro p e s m args below meth c A ls Qz hQ hin hm hw hl
  have hl : lv_has ls 1 [(0, vZ (z))] := hl
  refine k_iload_n hm hl 0 rfl dX7_kindBy_0 ?_
  refine k_bipushN hm 120 dX7_kindBy_1 rfl ?_
  refine k_icmpne (tgt := 10) hm dX7_kindBy_3 (by decide) (by omega) (fun c_1 => ?_) (fun c_1 => ?_)
  · refine k_iload_n hm hl 0 rfl dX7_kindBy_10 ?_
    refine k_bipushN hm 118 dX7_kindBy_11 rfl ?_
    refine k_icmpne (tgt := 20) hm dX7_kindBy_13 (by decide) (by omega) (fun c_2 => ?_) (fun c_2 => ?_)
    · refine k_iload_n hm hl 0 rfl dX7_kindBy_20 ?_
      refine k_bipushN hm 97 dX7_kindBy_21 rfl ?_
      refine k_icmpne (tgt := 30) hm dX7_kindBy_23 (by decide) (by omega) (fun c_3 => ?_) (fun c_3 => ?_)
      · refine k_iconst (n := -1) hm dX7_kindBy_30 ?_
        exact k_iret (post := _) hm hQ rfl rfl hw (⟨by unfold kdB; rw [if_neg (by omega), if_neg (by omega), if_neg (by omega)], rfl⟩) (by omega) (by omega) dX7_kindBy_31
      · refine k_iconstN hm 2 dX7_kindBy_26 ?_
        refine k_goto (tgt := 31) hm dX7_kindBy_27 (by decide) ?_
        exact k_iret (post := _) hm hQ rfl rfl hw (⟨by unfold kdB; rw [if_neg (by omega), if_neg (by omega), if_pos (by omega)]; rfl, rfl⟩) (by omega) (by omega) dX7_kindBy_31
    · refine k_iconstN hm 1 dX7_kindBy_16 ?_
      refine k_goto (tgt := 31) hm dX7_kindBy_17 (by decide) ?_
      exact k_iret (post := _) hm hQ rfl rfl hw (⟨by unfold kdB; rw [if_neg (by omega), if_pos (by omega)]; rfl, rfl⟩) (by omega) (by omega) dX7_kindBy_31
  · refine k_iconstN hm 0 dX7_kindBy_6 ?_
    refine k_goto (tgt := 31) hm dX7_kindBy_7 (by decide) ?_
    exact k_iret (post := _) hm hQ rfl rfl hw (⟨by unfold kdB; rw [if_pos (by omega)]; rfl, rfl⟩) (by omega) (by omega) dX7_kindBy_31
set_option maxHeartbeats 4000000 in
set_option maxRecDepth 100000 in
theorem c_m_number_ok (l : Launch) (G : kG) (D : Nat → Nat) (sa : Nat → Int64) (pa : Nat → Int64) (pn : Nat) (tx : Nat → Nat) (tn : Nat) (rf : Nat) (ro : Nat → Nat) (wk : Nat) (mb : Nat → Nat) (so : Nat) (kd : Nat → Nat) (nu : Nat → Nat) (it : Nat) (ti : Nat) (rd : Nat) (ad : Nat → Int64) (k : Nat) (hi : Nat) (htn : tn ≤ 120) (hso : so ≤ tn) (htb : ∀ i, i < tn → tx i ≤ 127) (hk : 1 ≤ k ∧ k ≤ 3 ∧ 1 ≤ hi ∧ hi ≤ 120) (hok : nOk tx tn k hi so) : kCM l yX7_number wsX7_number 1 22 0 0 G [.ref (D 0), vN (k), vN (hi)] (wMod G D sa pa pn tx tn rf ro wk mb so kd nu it ti rd ad) (fun vv uu => vv = some (vB (true)) ∧ uu = wMod G D sa pa pn tx tn rf ro wk mb (nE tx tn k so) kd nu it ti (nV tx tn k so) ad) := by
  refine kCM.of (cc := cX7_number) (maxL := 5) (ret := (some .boolean)) (by decide) rfl (Nat.le_of_ble_eq_true rfl) ?_
  intro p e s m args below meth c A ls Qz hQ hin hm hw hl
  have hl : lv_has ls 5 [(0, .ref (D 0)), (1, vN (k)), (2, vN (hi))] := hl
  have i7 : ∀ w ∈ wsX70, w ∈ wsX7_number := by decide +kernel
  refine k_aload_n hm hl 0 rfl dX7_number_0 ?_
  refine k_get (T := TX7) hm hw 0 9 i7 rfl rfl (by decide) (by decide +kernel) rfl dX7_number_1 ?_
  refine k_istore_n hm hl [(3, vN (so)), (0, .ref (D 0)), (1, vN (k)), (2, vN (hi))] (by decide) rfl dX7_number_4 (fun ls hl => ?_)
  refine k_aload_n hm hl 1 rfl dX7_number_5 ?_
  refine k_iconstN hm 0 dX7_number_6 ?_
  refine k_put (T := TX7) hm hw 0 14 (wMod G D sa pa pn tx tn rf ro wk mb so kd nu it ti 0 ad) i7 tyX7 tyX7_ok nmX7 rfl rfl (by decide) (by decide +kernel) rfl (tyX7_ok 14 (by decide)) rfl rfl (Nat.le_of_ble_eq_true rfl) rfl dX7_number_7 (fun H locs hw => ?_)
  have loop_10 : ∀ (fu : Nat) (u : Nat) (q : Nat) (hq : q ≤ k ∧ so + q ≤ tn) (hu : u = dv tx so q) (hdg : ∀ j, j < q → dg tx tn (so + j)) (H : Heap) (locs : List Loc) (ls : Array Slot), k - q < fu → kW G A s (wMod G D sa pa pn tx tn rf ro wk mb (so + q) kd nu it ti u ad) H locs → lv_has ls 5 [(0, .ref (D 0)), (1, vN (k)), (2, vN (hi)), (3, vN (so))] → W p l e { frames := 1, cells := 0, slots := 0, locals := 22 } s m args below meth c H locs 0 0 Qz (F0 m 10 ls []) := by
    intro fu
    induction fu with
    | zero => intro u q hq hu hdg H locs ls hfu; exact absurd hfu (Nat.not_lt_zero _)
    | succ fu ih_10 =>
      intro u q hq hu hdg H locs ls hfu hw hl
      have hbr := bt_rng (p := so + q) htb
      refine k_aload_n hm hl 0 rfl dX7_number_10 ?_
      refine k_aload_n hm hl 0 rfl dX7_number_11 ?_
      refine k_get (T := TX7) hm hw 0 9 i7 rfl rfl (by decide) (by decide +kernel) rfl dX7_number_12 ?_
      refine k_callVr (n := 1) (As := [vN (so + q)]) (rest := []) hm hw hl (c_m_byteAt l G D sa pa pn tx tn rf ro wk mb (so + q) kd nu it ti u ad (so + q) (by first | assumption | omega) (by first | assumption | omega)) gX7_number_X7_byteAt rfl (by decide +kernel) ⟨by decide, by decide⟩ (ci := 7) rfl 0 rfl [0, 1, 2, 3, 4, 5, 6, 7, 8] (by decide) rfl rfl rfl (by simp [Value.category]) ⟨by decide, by decide⟩ dX7_number_15 (fun v H locs hp hw => ?_)
      obtain rfl := hp
      refine W.eq (g2 := F0 m 18 ls [vZ (bt tx tn (so + q))]) rfl ?_
      refine k_bipushN hm 48 dX7_number_18 rfl ?_
      refine k_bipushN hm 57 dX7_number_20 rfl ?_
      refine k_callSr (n := 3) (As := [vZ (bt tx tn (so + q)), vN (48), vN (57)]) (rest := []) hm hw hl (c_m_in l G (bt tx tn (so + q)) ((48 : Nat) : Int) ((57 : Nat) : Int) (by first | assumption | omega)) gX7_number_X7_in rfl (by decide +kernel) ⟨by decide, by decide⟩ [] (by decide) rfl rfl rfl (by simp [Value.category]) ⟨by decide, by decide⟩ dX7_number_22 (fun v H locs hp hw => ?_)
      obtain rfl := hp
      refine W.eq (g2 := F0 m 25 ls [vB (decide (((48 : Nat) : Int) ≤ (bt tx tn (so + q)) ∧ (bt tx tn (so + q)) ≤ ((57 : Nat) : Int)))]) rfl ?_
      refine k_ifeqB (tgt := 74) hm dX7_number_25 (by decide) (fun c_3 => ?_) (fun c_3 => ?_)
      · have c_3d := of_decide_eq_false c_3
        have hF : ndF tx tn k so = q := ndF_of ⟨hq.1, hdg, Or.inr c_3d⟩
        have hE : nE tx tn k so = so + q := by unfold nE; rw [hF]
        have hV : nV tx tn k so = u := by unfold nV; rw [hF, hu]
        have hu9 : u ≤ 999 := by rw [← hV]; exact nV_le (by omega)
        have hbr := bt_rng (p := so + q) htb
        obtain ⟨ho1, ho2, ho3, ho4⟩ := hok
        rw [hF] at ho1
        rw [hE] at ho2
        rw [hV] at ho3 ho4
        refine k_aload_n hm hl 0 rfl dX7_number_74 ?_
        refine k_get (T := TX7) hm hw 0 9 i7 rfl rfl (by decide) (by decide +kernel) rfl dX7_number_75 ?_
        refine k_iload_n hm hl 3 rfl dX7_number_78 ?_
        refine k_icmpeq (tgt := 100) hm dX7_number_79 (by decide) (by omega) (fun c_4 => absurd c_4 (by omega)) (fun c_4 => ?_)
        refine k_aload_n hm hl 0 rfl dX7_number_82 ?_
        refine k_aload_n hm hl 0 rfl dX7_number_83 ?_
        refine k_get (T := TX7) hm hw 0 9 i7 rfl rfl (by decide) (by decide +kernel) rfl dX7_number_84 ?_
        refine k_callVr (n := 1) (As := [vN (so + q)]) (rest := []) hm hw hl (c_m_byteAt l G D sa pa pn tx tn rf ro wk mb (so + q) kd nu it ti u ad (so + q) (by first | assumption | omega) (by first | assumption | omega)) gX7_number_X7_byteAt rfl (by decide +kernel) ⟨by decide, by decide⟩ (ci := 7) rfl 0 rfl [0, 1, 2, 3, 4, 5, 6, 7, 8] (by decide) rfl rfl rfl (by simp [Value.category]) ⟨by decide, by decide⟩ dX7_number_87 (fun v H locs hp hw => ?_)
        obtain rfl := hp
        refine W.eq (g2 := F0 m 90 ls [vZ (bt tx tn (so + q))]) rfl ?_
        refine k_bipushN hm 48 dX7_number_90 rfl ?_
        refine k_bipushN hm 57 dX7_number_92 rfl ?_
        refine k_callSr (n := 3) (As := [vZ (bt tx tn (so + q)), vN (48), vN (57)]) (rest := []) hm hw hl (c_m_in l G (bt tx tn (so + q)) ((48 : Nat) : Int) ((57 : Nat) : Int) (by first | assumption | omega)) gX7_number_X7_in rfl (by decide +kernel) ⟨by decide, by decide⟩ [] (by decide) rfl rfl rfl (by simp [Value.category]) ⟨by decide, by decide⟩ dX7_number_94 (fun v H locs hp hw => ?_)
        obtain rfl := hp
        refine W.eq (g2 := F0 m 97 ls [vB (decide (((48 : Nat) : Int) ≤ (bt tx tn (so + q)) ∧ (bt tx tn (so + q)) ≤ ((57 : Nat) : Int)))]) rfl ?_
        refine k_ifeqB (tgt := 102) hm dX7_number_97 (by decide) (fun c_7 => ?_) (fun c_7 => False.elim (ho2 (by have z := of_decide_eq_true c_7; exact z)))
        refine k_aload_n hm hl 0 rfl dX7_number_102 ?_
        refine k_get (T := TX7) hm hw 0 14 i7 rfl rfl (by decide) (by decide +kernel) rfl dX7_number_103 ?_
        refine k_iconstN hm 1 dX7_number_106 ?_
        refine k_iload_n hm hl 2 rfl dX7_number_107 ?_
        refine k_callSr (n := 3) (As := [vN (u), vN (1), vN (hi)]) (rest := []) hm hw hl (c_m_in l G ((u : Nat) : Int) ((1 : Nat) : Int) ((hi : Nat) : Int) (by first | assumption | omega)) gX7_number_X7_in rfl (by decide +kernel) ⟨by decide, by decide⟩ [] (by decide) rfl rfl rfl (by simp [Value.category]) ⟨by decide, by decide⟩ dX7_number_108 (fun v H locs hp hw => ?_)
        obtain rfl := hp
        refine W.eq (g2 := F0 m 111 ls [vB (decide (((1 : Nat) : Int) ≤ ((u : Nat) : Int) ∧ ((u : Nat) : Int) ≤ ((hi : Nat) : Int)))]) rfl ?_
        refine k_rwV (y := vB (true)) (congrArg vB (decide_eq_true (by omega))) ?_
        refine k_istore hm hl [(4, vB (true)), (0, .ref (D 0)), (1, vN (k)), (2, vN (hi)), (3, vN (so))] (by decide) rfl dX7_number_111 (fun ls hl => ?_)
        refine k_aload_n hm hl 1 rfl dX7_number_113 ?_
        refine k_iload hm hl 0 rfl dX7_number_114 ?_
        refine k_ifeqB (tgt := 126) hm dX7_number_116 (by decide) (fun c_9 => absurd c_9 (by decide)) (fun _ => ?_)
        refine k_aload_n hm hl 1 rfl dX7_number_119 ?_
        refine k_get (T := TX7) hm hw 0 9 i7 rfl rfl (by decide) (by decide +kernel) rfl dX7_number_120 ?_
        refine k_goto (tgt := 127) hm dX7_number_123 (by decide) ?_
        refine k_put (T := TX7) hm hw 0 9 (wMod G D sa pa pn tx tn rf ro wk mb (so + q) kd nu it ti u ad) i7 tyX7 tyX7_ok nmX7 rfl rfl (by decide) (by decide +kernel) rfl (tyX7_ok 9 (by decide)) rfl rfl (Nat.le_of_ble_eq_true rfl) rfl dX7_number_127 (fun H locs hw => ?_)
        refine k_iload hm hl 0 rfl dX7_number_130 ?_
        exact k_iret (post := _) hm hQ rfl (kN_bool true) hw (⟨rfl, by rw [hV, hE]⟩) (by omega) (by omega) dX7_number_132
      · have c_3d := of_decide_eq_true c_3
        have hd1 : dg tx tn (so + q) := c_3d
        have hd2 := dg_lt hd1
        refine k_aload_n hm hl 0 rfl dX7_number_28 ?_
        refine k_get (T := TX7) hm hw 0 9 i7 rfl rfl (by decide) (by decide +kernel) rfl dX7_number_29 ?_
        refine k_iload_n hm hl 3 rfl dX7_number_32 ?_
        refine k_isubN hm (by omega) dX7_number_33 ?_
        refine k_iload_n hm hl 1 rfl dX7_number_34 ?_
        refine k_icmpge (tgt := 74) hm dX7_number_35 (by decide) (by omega) (fun c_10 => ?_) (fun c_10 => ?_)
        · have hF : ndF tx tn k so = q := ndF_of ⟨hq.1, hdg, Or.inl (by omega)⟩
          have hE : nE tx tn k so = so + q := by unfold nE; rw [hF]
          have hV : nV tx tn k so = u := by unfold nV; rw [hF, hu]
          have hu9 : u ≤ 999 := by rw [← hV]; exact nV_le (by omega)
          have hbr := bt_rng (p := so + q) htb
          obtain ⟨ho1, ho2, ho3, ho4⟩ := hok
          rw [hF] at ho1
          rw [hE] at ho2
          rw [hV] at ho3 ho4
          refine k_aload_n hm hl 0 rfl dX7_number_74 ?_
          refine k_get (T := TX7) hm hw 0 9 i7 rfl rfl (by decide) (by decide +kernel) rfl dX7_number_75 ?_
          refine k_iload_n hm hl 3 rfl dX7_number_78 ?_
          refine k_icmpeq (tgt := 100) hm dX7_number_79 (by decide) (by omega) (fun c_11 => absurd c_11 (by omega)) (fun c_11 => ?_)
          refine k_aload_n hm hl 0 rfl dX7_number_82 ?_
          refine k_aload_n hm hl 0 rfl dX7_number_83 ?_
          refine k_get (T := TX7) hm hw 0 9 i7 rfl rfl (by decide) (by decide +kernel) rfl dX7_number_84 ?_
          refine k_callVr (n := 1) (As := [vN (so + q)]) (rest := []) hm hw hl (c_m_byteAt l G D sa pa pn tx tn rf ro wk mb (so + q) kd nu it ti u ad (so + q) (by first | assumption | omega) (by first | assumption | omega)) gX7_number_X7_byteAt rfl (by decide +kernel) ⟨by decide, by decide⟩ (ci := 7) rfl 0 rfl [0, 1, 2, 3, 4, 5, 6, 7, 8] (by decide) rfl rfl rfl (by simp [Value.category]) ⟨by decide, by decide⟩ dX7_number_87 (fun v H locs hp hw => ?_)
          obtain rfl := hp
          refine W.eq (g2 := F0 m 90 ls [vZ (bt tx tn (so + q))]) rfl ?_
          refine k_bipushN hm 48 dX7_number_90 rfl ?_
          refine k_bipushN hm 57 dX7_number_92 rfl ?_
          refine k_callSr (n := 3) (As := [vZ (bt tx tn (so + q)), vN (48), vN (57)]) (rest := []) hm hw hl (c_m_in l G (bt tx tn (so + q)) ((48 : Nat) : Int) ((57 : Nat) : Int) (by first | assumption | omega)) gX7_number_X7_in rfl (by decide +kernel) ⟨by decide, by decide⟩ [] (by decide) rfl rfl rfl (by simp [Value.category]) ⟨by decide, by decide⟩ dX7_number_94 (fun v H locs hp hw => ?_)
          obtain rfl := hp
          refine W.eq (g2 := F0 m 97 ls [vB (decide (((48 : Nat) : Int) ≤ (bt tx tn (so + q)) ∧ (bt tx tn (so + q)) ≤ ((57 : Nat) : Int)))]) rfl ?_
          refine k_ifeqB (tgt := 102) hm dX7_number_97 (by decide) (fun c_14 => ?_) (fun c_14 => False.elim (ho2 (by have z := of_decide_eq_true c_14; exact z)))
          refine k_aload_n hm hl 0 rfl dX7_number_102 ?_
          refine k_get (T := TX7) hm hw 0 14 i7 rfl rfl (by decide) (by decide +kernel) rfl dX7_number_103 ?_
          refine k_iconstN hm 1 dX7_number_106 ?_
          refine k_iload_n hm hl 2 rfl dX7_number_107 ?_
          refine k_callSr (n := 3) (As := [vN (u), vN (1), vN (hi)]) (rest := []) hm hw hl (c_m_in l G ((u : Nat) : Int) ((1 : Nat) : Int) ((hi : Nat) : Int) (by first | assumption | omega)) gX7_number_X7_in rfl (by decide +kernel) ⟨by decide, by decide⟩ [] (by decide) rfl rfl rfl (by simp [Value.category]) ⟨by decide, by decide⟩ dX7_number_108 (fun v H locs hp hw => ?_)
          obtain rfl := hp
          refine W.eq (g2 := F0 m 111 ls [vB (decide (((1 : Nat) : Int) ≤ ((u : Nat) : Int) ∧ ((u : Nat) : Int) ≤ ((hi : Nat) : Int)))]) rfl ?_
          refine k_rwV (y := vB (true)) (congrArg vB (decide_eq_true (by omega))) ?_
          refine k_istore hm hl [(4, vB (true)), (0, .ref (D 0)), (1, vN (k)), (2, vN (hi)), (3, vN (so))] (by decide) rfl dX7_number_111 (fun ls hl => ?_)
          refine k_aload_n hm hl 1 rfl dX7_number_113 ?_
          refine k_iload hm hl 0 rfl dX7_number_114 ?_
          refine k_ifeqB (tgt := 126) hm dX7_number_116 (by decide) (fun c_16 => absurd c_16 (by decide)) (fun _ => ?_)
          refine k_aload_n hm hl 1 rfl dX7_number_119 ?_
          refine k_get (T := TX7) hm hw 0 9 i7 rfl rfl (by decide) (by decide +kernel) rfl dX7_number_120 ?_
          refine k_goto (tgt := 127) hm dX7_number_123 (by decide) ?_
          refine k_put (T := TX7) hm hw 0 9 (wMod G D sa pa pn tx tn rf ro wk mb (so + q) kd nu it ti u ad) i7 tyX7 tyX7_ok nmX7 rfl rfl (by decide) (by decide +kernel) rfl (tyX7_ok 9 (by decide)) rfl rfl (Nat.le_of_ble_eq_true rfl) rfl dX7_number_127 (fun H locs hw => ?_)
          refine k_iload hm hl 0 rfl dX7_number_130 ?_
          exact k_iret (post := _) hm hQ rfl (kN_bool true) hw (⟨rfl, by rw [hV, hE]⟩) (by omega) (by omega) dX7_number_132
        · have hd3 := dv_le hdg
          have hd4 : 10 ^ q ≤ 10 ^ 3 := Nat.pow_le_pow_right (by decide) (by omega)
          have hd5 := bt_dg hd1
          refine k_aload_n hm hl 0 rfl dX7_number_38 ?_
          refine k_bipushN hm 10 dX7_number_39 rfl ?_
          refine k_aload_n hm hl 0 rfl dX7_number_41 ?_
          refine k_get (T := TX7) hm hw 0 14 i7 rfl rfl (by decide) (by decide +kernel) rfl dX7_number_42 ?_
          refine k_imulN hm dX7_number_45 ?_
          refine k_aload_n hm hl 0 rfl dX7_number_46 ?_
          refine k_aload_n hm hl 0 rfl dX7_number_47 ?_
          refine k_get (T := TX7) hm hw 0 9 i7 rfl rfl (by decide) (by decide +kernel) rfl dX7_number_48 ?_
          refine k_callVr (n := 1) (As := [vN (so + q)]) (rest := [vN (10 * u), .ref (D 0)]) hm hw hl (c_m_byteAt l G D sa pa pn tx tn rf ro wk mb (so + q) kd nu it ti u ad (so + q) (by first | assumption | omega) (by first | assumption | omega)) gX7_number_X7_byteAt rfl (by decide +kernel) ⟨by decide, by decide⟩ (ci := 7) rfl 0 rfl [0, 1, 2, 3, 4, 5, 6, 7, 8] (by decide) rfl rfl rfl (by simp [Value.category]) ⟨by decide, by decide⟩ dX7_number_51 (fun v H locs hp hw => ?_)
          obtain rfl := hp
          refine W.eq (g2 := F0 m 54 ls [vZ (bt tx tn (so + q)), vN (10 * u), .ref (D 0)]) rfl ?_
          refine k_iadd hm dX7_number_54 ?_
          refine k_bipushN hm 48 dX7_number_55 rfl ?_
          refine k_isub hm dX7_number_57 ?_
          refine k_rwV (y := vN (10 * u + (tx (so + q) - 48))) (congrArg vZ (by rw [hd5]; omega)) ?_
          refine k_put (T := TX7) hm hw 0 14 (wMod G D sa pa pn tx tn rf ro wk mb (so + q) kd nu it ti (10 * u + (tx (so + q) - 48)) ad) i7 tyX7 tyX7_ok nmX7 rfl rfl (by decide) (by decide +kernel) rfl (tyX7_ok 14 (by decide)) rfl rfl (Nat.le_of_ble_eq_true rfl) rfl dX7_number_58 (fun H locs hw => ?_)
          refine k_aload_n hm hl 0 rfl dX7_number_61 ?_
          refine k_dup hm dX7_number_62 rfl ?_
          refine k_get (T := TX7) hm hw 0 9 i7 rfl rfl (by decide) (by decide +kernel) rfl dX7_number_63 ?_
          refine k_iconstN hm 1 dX7_number_66 ?_
          refine k_iaddN hm dX7_number_67 ?_
          refine k_put (T := TX7) hm hw 0 9 (wMod G D sa pa pn tx tn rf ro wk mb ((so + q) + 1) kd nu it ti (10 * u + (tx (so + q) - 48)) ad) i7 tyX7 tyX7_ok nmX7 rfl rfl (by decide) (by decide +kernel) rfl (tyX7_ok 9 (by decide)) rfl rfl (Nat.le_of_ble_eq_true rfl) rfl dX7_number_68 (fun H locs hw => ?_)
          refine k_goto (tgt := 10) hm dX7_number_71 (by decide) ?_
          exact ih_10  (10 * u + (tx (so + q) - 48)) (q + 1) (by omega) (by simp only [dv]; omega) (fun j z => by rcases Nat.lt_or_ge j q with y | y; exact hdg j y; rw [show j = q by omega]; exact hd1) _ _ _ (by omega) hw (lv_sub hl [0, 1, 2, 3] rfl)
  exact loop_10 (k - 0 + 1) 0 0 (by first | assumption | omega) rfl (fun j z => absurd z (by omega)) _ _ _ (Nat.lt_succ_self _) hw (lv_sub hl [1, 2, 3, 0] rfl)
set_option maxHeartbeats 4000000 in
set_option maxRecDepth 100000 in
theorem c_m_number_er (l : Launch) (G : kG) (D : Nat → Nat) (sa : Nat → Int64) (pa : Nat → Int64) (pn : Nat) (tx : Nat → Nat) (tn : Nat) (rf : Nat) (ro : Nat → Nat) (wk : Nat) (mb : Nat → Nat) (so : Nat) (kd : Nat → Nat) (nu : Nat → Nat) (it : Nat) (ti : Nat) (rd : Nat) (ad : Nat → Int64) (k : Nat) (hi : Nat) (htn : tn ≤ 120) (hso : so ≤ tn) (htb : ∀ i, i < tn → tx i ≤ 127) (hk : 1 ≤ k ∧ k ≤ 3 ∧ 1 ≤ hi ∧ hi ≤ 120) (hok : ¬ nOk tx tn k hi so) : kCM l yX7_number wsX7_number 1 22 0 0 G [.ref (D 0), vN (k), vN (hi)] (wMod G D sa pa pn tx tn rf ro wk mb so kd nu it ti rd ad) (fun vv uu => ∃ (so2 : Nat), ∃ (rd2 : Nat), vv = some (vB (false)) ∧ uu = wMod G D sa pa pn tx tn rf ro wk mb so2 kd nu it ti rd2 ad ∧ (isNr tx tn k so (so2 : Int)) ∧ (so2 ≤ tn)) := by
  refine kCM.of (cc := cX7_number) (maxL := 5) (ret := (some .boolean)) (by decide) rfl (Nat.le_of_ble_eq_true rfl) ?_
  intro p e s m args below meth c A ls Qz hQ hin hm hw hl
  have hl : lv_has ls 5 [(0, .ref (D 0)), (1, vN (k)), (2, vN (hi))] := hl
  have i7 : ∀ w ∈ wsX70, w ∈ wsX7_number := by decide +kernel
  refine k_aload_n hm hl 0 rfl dX7_number_0 ?_
  refine k_get (T := TX7) hm hw 0 9 i7 rfl rfl (by decide) (by decide +kernel) rfl dX7_number_1 ?_
  refine k_istore_n hm hl [(3, vN (so)), (0, .ref (D 0)), (1, vN (k)), (2, vN (hi))] (by decide) rfl dX7_number_4 (fun ls hl => ?_)
  refine k_aload_n hm hl 1 rfl dX7_number_5 ?_
  refine k_iconstN hm 0 dX7_number_6 ?_
  refine k_put (T := TX7) hm hw 0 14 (wMod G D sa pa pn tx tn rf ro wk mb so kd nu it ti 0 ad) i7 tyX7 tyX7_ok nmX7 rfl rfl (by decide) (by decide +kernel) rfl (tyX7_ok 14 (by decide)) rfl rfl (Nat.le_of_ble_eq_true rfl) rfl dX7_number_7 (fun H locs hw => ?_)
  have loop_10 : ∀ (fu : Nat) (u : Nat) (q : Nat) (hq : q ≤ k ∧ so + q ≤ tn) (hu : u = dv tx so q) (hdg : ∀ j, j < q → dg tx tn (so + j)) (H : Heap) (locs : List Loc) (ls : Array Slot), k - q < fu → kW G A s (wMod G D sa pa pn tx tn rf ro wk mb (so + q) kd nu it ti u ad) H locs → lv_has ls 5 [(0, .ref (D 0)), (1, vN (k)), (2, vN (hi)), (3, vN (so))] → W p l e { frames := 1, cells := 0, slots := 0, locals := 22 } s m args below meth c H locs 0 0 Qz (F0 m 10 ls []) := by
    intro fu
    induction fu with
    | zero => intro u q hq hu hdg H locs ls hfu; exact absurd hfu (Nat.not_lt_zero _)
    | succ fu ih_10 =>
      intro u q hq hu hdg H locs ls hfu hw hl
      have hbr := bt_rng (p := so + q) htb
      refine k_aload_n hm hl 0 rfl dX7_number_10 ?_
      refine k_aload_n hm hl 0 rfl dX7_number_11 ?_
      refine k_get (T := TX7) hm hw 0 9 i7 rfl rfl (by decide) (by decide +kernel) rfl dX7_number_12 ?_
      refine k_callVr (n := 1) (As := [vN (so + q)]) (rest := []) hm hw hl (c_m_byteAt l G D sa pa pn tx tn rf ro wk mb (so + q) kd nu it ti u ad (so + q) (by first | assumption | omega) (by first | assumption | omega)) gX7_number_X7_byteAt rfl (by decide +kernel) ⟨by decide, by decide⟩ (ci := 7) rfl 0 rfl [0, 1, 2, 3, 4, 5, 6, 7, 8] (by decide) rfl rfl rfl (by simp [Value.category]) ⟨by decide, by decide⟩ dX7_number_15 (fun v H locs hp hw => ?_)
      obtain rfl := hp
      refine W.eq (g2 := F0 m 18 ls [vZ (bt tx tn (so + q))]) rfl ?_
      refine k_bipushN hm 48 dX7_number_18 rfl ?_
      refine k_bipushN hm 57 dX7_number_20 rfl ?_
      refine k_callSr (n := 3) (As := [vZ (bt tx tn (so + q)), vN (48), vN (57)]) (rest := []) hm hw hl (c_m_in l G (bt tx tn (so + q)) ((48 : Nat) : Int) ((57 : Nat) : Int) (by first | assumption | omega)) gX7_number_X7_in rfl (by decide +kernel) ⟨by decide, by decide⟩ [] (by decide) rfl rfl rfl (by simp [Value.category]) ⟨by decide, by decide⟩ dX7_number_22 (fun v H locs hp hw => ?_)
      obtain rfl := hp
      refine W.eq (g2 := F0 m 25 ls [vB (decide (((48 : Nat) : Int) ≤ (bt tx tn (so + q)) ∧ (bt tx tn (so + q)) ≤ ((57 : Nat) : Int)))]) rfl ?_
      refine k_ifeqB (tgt := 74) hm dX7_number_25 (by decide) (fun c_3 => ?_) (fun c_3 => ?_)
      · have c_3d := of_decide_eq_false c_3
        have hF : ndF tx tn k so = q := ndF_of ⟨hq.1, hdg, Or.inr c_3d⟩
        have hE : nE tx tn k so = so + q := by unfold nE; rw [hF]
        have hV : nV tx tn k so = u := by unfold nV; rw [hF, hu]
        have hu9 : u ≤ 999 := by rw [← hV]; exact nV_le (by omega)
        have hbr := bt_rng (p := so + q) htb
        refine k_aload_n hm hl 0 rfl dX7_number_74 ?_
        refine k_get (T := TX7) hm hw 0 9 i7 rfl rfl (by decide) (by decide +kernel) rfl dX7_number_75 ?_
        refine k_iload_n hm hl 3 rfl dX7_number_78 ?_
        refine k_icmpeq (tgt := 100) hm dX7_number_79 (by decide) (by omega) (fun c_4 => ?_) (fun c_4 => ?_)
        · refine k_iconstN hm 0 dX7_number_100 ?_
          exact k_iret (post := _) hm hQ rfl (kN_bool false) hw (⟨_, _, rfl, rfl, Or.inl ⟨Or.inl (by rw [hF]; omega), by rw [hE]⟩, hq.2⟩) (by omega) (by omega) dX7_number_101
        · refine k_aload_n hm hl 0 rfl dX7_number_82 ?_
          refine k_aload_n hm hl 0 rfl dX7_number_83 ?_
          refine k_get (T := TX7) hm hw 0 9 i7 rfl rfl (by decide) (by decide +kernel) rfl dX7_number_84 ?_
          refine k_callVr (n := 1) (As := [vN (so + q)]) (rest := []) hm hw hl (c_m_byteAt l G D sa pa pn tx tn rf ro wk mb (so + q) kd nu it ti u ad (so + q) (by first | assumption | omega) (by first | assumption | omega)) gX7_number_X7_byteAt rfl (by decide +kernel) ⟨by decide, by decide⟩ (ci := 7) rfl 0 rfl [0, 1, 2, 3, 4, 5, 6, 7, 8] (by decide) rfl rfl rfl (by simp [Value.category]) ⟨by decide, by decide⟩ dX7_number_87 (fun v H locs hp hw => ?_)
          obtain rfl := hp
          refine W.eq (g2 := F0 m 90 ls [vZ (bt tx tn (so + q))]) rfl ?_
          refine k_bipushN hm 48 dX7_number_90 rfl ?_
          refine k_bipushN hm 57 dX7_number_92 rfl ?_
          refine k_callSr (n := 3) (As := [vZ (bt tx tn (so + q)), vN (48), vN (57)]) (rest := []) hm hw hl (c_m_in l G (bt tx tn (so + q)) ((48 : Nat) : Int) ((57 : Nat) : Int) (by first | assumption | omega)) gX7_number_X7_in rfl (by decide +kernel) ⟨by decide, by decide⟩ [] (by decide) rfl rfl rfl (by simp [Value.category]) ⟨by decide, by decide⟩ dX7_number_94 (fun v H locs hp hw => ?_)
          obtain rfl := hp
          refine W.eq (g2 := F0 m 97 ls [vB (decide (((48 : Nat) : Int) ≤ (bt tx tn (so + q)) ∧ (bt tx tn (so + q)) ≤ ((57 : Nat) : Int)))]) rfl ?_
          refine k_ifeqB (tgt := 102) hm dX7_number_97 (by decide) (fun c_7 => ?_) (fun c_7 => ?_)
          · have c_7d := of_decide_eq_false c_7
            have hd97 : ¬ dg tx tn (so + q) := c_7d
            refine k_aload_n hm hl 0 rfl dX7_number_102 ?_
            refine k_get (T := TX7) hm hw 0 14 i7 rfl rfl (by decide) (by decide +kernel) rfl dX7_number_103 ?_
            refine k_iconstN hm 1 dX7_number_106 ?_
            refine k_iload_n hm hl 2 rfl dX7_number_107 ?_
            refine k_callSr (n := 3) (As := [vN (u), vN (1), vN (hi)]) (rest := []) hm hw hl (c_m_in l G ((u : Nat) : Int) ((1 : Nat) : Int) ((hi : Nat) : Int) (by first | assumption | omega)) gX7_number_X7_in rfl (by decide +kernel) ⟨by decide, by decide⟩ [] (by decide) rfl rfl rfl (by simp [Value.category]) ⟨by decide, by decide⟩ dX7_number_108 (fun v H locs hp hw => ?_)
            obtain rfl := hp
            refine W.eq (g2 := F0 m 111 ls [vB (decide (((1 : Nat) : Int) ≤ ((u : Nat) : Int) ∧ ((u : Nat) : Int) ≤ ((hi : Nat) : Int)))]) rfl ?_
            refine k_rwV (y := vB (false)) (congrArg vB (decide_eq_false (fun z => hok ⟨by rw [hF]; omega, by rw [hE]; exact hd97, by rw [hV]; omega, by rw [hV]; omega⟩))) ?_
            refine k_istore hm hl [(4, vB (false)), (0, .ref (D 0)), (1, vN (k)), (2, vN (hi)), (3, vN (so))] (by decide) rfl dX7_number_111 (fun ls hl => ?_)
            refine k_aload_n hm hl 1 rfl dX7_number_113 ?_
            refine k_iload hm hl 0 rfl dX7_number_114 ?_
            refine k_ifeqB (tgt := 126) hm dX7_number_116 (by decide) (fun _ => ?_) (fun c_9 => absurd c_9 (by decide))
            refine k_iload_n hm hl 4 rfl dX7_number_126 ?_
            refine k_put (T := TX7) hm hw 0 9 (wMod G D sa pa pn tx tn rf ro wk mb so kd nu it ti u ad) i7 tyX7 tyX7_ok nmX7 rfl rfl (by decide) (by decide +kernel) rfl (tyX7_ok 9 (by decide)) rfl rfl (Nat.le_of_ble_eq_true rfl) rfl dX7_number_127 (fun H locs hw => ?_)
            refine k_iload hm hl 0 rfl dX7_number_130 ?_
            exact k_iret (post := _) hm hQ rfl (kN_bool false) hw (⟨_, _, rfl, rfl, Or.inr ⟨by rw [hF, hE]; intro z; rcases z with z | z; omega; exact hd97 z, rfl⟩, hso⟩) (by omega) (by omega) dX7_number_132
          · have c_7d := of_decide_eq_true c_7
            have hd97 : dg tx tn (so + q) := c_7d
            refine k_iconstN hm 0 dX7_number_100 ?_
            exact k_iret (post := _) hm hQ rfl (kN_bool false) hw (⟨_, _, rfl, rfl, Or.inl ⟨Or.inr (by rw [hE]; exact hd97), by rw [hE]⟩, hq.2⟩) (by omega) (by omega) dX7_number_101
      · have c_3d := of_decide_eq_true c_3
        have hd1 : dg tx tn (so + q) := c_3d
        have hd2 := dg_lt hd1
        refine k_aload_n hm hl 0 rfl dX7_number_28 ?_
        refine k_get (T := TX7) hm hw 0 9 i7 rfl rfl (by decide) (by decide +kernel) rfl dX7_number_29 ?_
        refine k_iload_n hm hl 3 rfl dX7_number_32 ?_
        refine k_isubN hm (by omega) dX7_number_33 ?_
        refine k_iload_n hm hl 1 rfl dX7_number_34 ?_
        refine k_icmpge (tgt := 74) hm dX7_number_35 (by decide) (by omega) (fun c_10 => ?_) (fun c_10 => ?_)
        · have hF : ndF tx tn k so = q := ndF_of ⟨hq.1, hdg, Or.inl (by omega)⟩
          have hE : nE tx tn k so = so + q := by unfold nE; rw [hF]
          have hV : nV tx tn k so = u := by unfold nV; rw [hF, hu]
          have hu9 : u ≤ 999 := by rw [← hV]; exact nV_le (by omega)
          have hbr := bt_rng (p := so + q) htb
          refine k_aload_n hm hl 0 rfl dX7_number_74 ?_
          refine k_get (T := TX7) hm hw 0 9 i7 rfl rfl (by decide) (by decide +kernel) rfl dX7_number_75 ?_
          refine k_iload_n hm hl 3 rfl dX7_number_78 ?_
          refine k_icmpeq (tgt := 100) hm dX7_number_79 (by decide) (by omega) (fun c_11 => ?_) (fun c_11 => ?_)
          · refine k_iconstN hm 0 dX7_number_100 ?_
            exact k_iret (post := _) hm hQ rfl (kN_bool false) hw (⟨_, _, rfl, rfl, Or.inl ⟨Or.inl (by rw [hF]; omega), by rw [hE]⟩, hq.2⟩) (by omega) (by omega) dX7_number_101
          · refine k_aload_n hm hl 0 rfl dX7_number_82 ?_
            refine k_aload_n hm hl 0 rfl dX7_number_83 ?_
            refine k_get (T := TX7) hm hw 0 9 i7 rfl rfl (by decide) (by decide +kernel) rfl dX7_number_84 ?_
            refine k_callVr (n := 1) (As := [vN (so + q)]) (rest := []) hm hw hl (c_m_byteAt l G D sa pa pn tx tn rf ro wk mb (so + q) kd nu it ti u ad (so + q) (by first | assumption | omega) (by first | assumption | omega)) gX7_number_X7_byteAt rfl (by decide +kernel) ⟨by decide, by decide⟩ (ci := 7) rfl 0 rfl [0, 1, 2, 3, 4, 5, 6, 7, 8] (by decide) rfl rfl rfl (by simp [Value.category]) ⟨by decide, by decide⟩ dX7_number_87 (fun v H locs hp hw => ?_)
            obtain rfl := hp
            refine W.eq (g2 := F0 m 90 ls [vZ (bt tx tn (so + q))]) rfl ?_
            refine k_bipushN hm 48 dX7_number_90 rfl ?_
            refine k_bipushN hm 57 dX7_number_92 rfl ?_
            refine k_callSr (n := 3) (As := [vZ (bt tx tn (so + q)), vN (48), vN (57)]) (rest := []) hm hw hl (c_m_in l G (bt tx tn (so + q)) ((48 : Nat) : Int) ((57 : Nat) : Int) (by first | assumption | omega)) gX7_number_X7_in rfl (by decide +kernel) ⟨by decide, by decide⟩ [] (by decide) rfl rfl rfl (by simp [Value.category]) ⟨by decide, by decide⟩ dX7_number_94 (fun v H locs hp hw => ?_)
            obtain rfl := hp
            refine W.eq (g2 := F0 m 97 ls [vB (decide (((48 : Nat) : Int) ≤ (bt tx tn (so + q)) ∧ (bt tx tn (so + q)) ≤ ((57 : Nat) : Int)))]) rfl ?_
            refine k_ifeqB (tgt := 102) hm dX7_number_97 (by decide) (fun c_14 => ?_) (fun c_14 => ?_)
            · have c_14d := of_decide_eq_false c_14
              have hd97 : ¬ dg tx tn (so + q) := c_14d
              refine k_aload_n hm hl 0 rfl dX7_number_102 ?_
              refine k_get (T := TX7) hm hw 0 14 i7 rfl rfl (by decide) (by decide +kernel) rfl dX7_number_103 ?_
              refine k_iconstN hm 1 dX7_number_106 ?_
              refine k_iload_n hm hl 2 rfl dX7_number_107 ?_
              refine k_callSr (n := 3) (As := [vN (u), vN (1), vN (hi)]) (rest := []) hm hw hl (c_m_in l G ((u : Nat) : Int) ((1 : Nat) : Int) ((hi : Nat) : Int) (by first | assumption | omega)) gX7_number_X7_in rfl (by decide +kernel) ⟨by decide, by decide⟩ [] (by decide) rfl rfl rfl (by simp [Value.category]) ⟨by decide, by decide⟩ dX7_number_108 (fun v H locs hp hw => ?_)
              obtain rfl := hp
              refine W.eq (g2 := F0 m 111 ls [vB (decide (((1 : Nat) : Int) ≤ ((u : Nat) : Int) ∧ ((u : Nat) : Int) ≤ ((hi : Nat) : Int)))]) rfl ?_
              refine k_rwV (y := vB (false)) (congrArg vB (decide_eq_false (fun z => hok ⟨by rw [hF]; omega, by rw [hE]; exact hd97, by rw [hV]; omega, by rw [hV]; omega⟩))) ?_
              refine k_istore hm hl [(4, vB (false)), (0, .ref (D 0)), (1, vN (k)), (2, vN (hi)), (3, vN (so))] (by decide) rfl dX7_number_111 (fun ls hl => ?_)
              refine k_aload_n hm hl 1 rfl dX7_number_113 ?_
              refine k_iload hm hl 0 rfl dX7_number_114 ?_
              refine k_ifeqB (tgt := 126) hm dX7_number_116 (by decide) (fun _ => ?_) (fun c_16 => absurd c_16 (by decide))
              refine k_iload_n hm hl 4 rfl dX7_number_126 ?_
              refine k_put (T := TX7) hm hw 0 9 (wMod G D sa pa pn tx tn rf ro wk mb so kd nu it ti u ad) i7 tyX7 tyX7_ok nmX7 rfl rfl (by decide) (by decide +kernel) rfl (tyX7_ok 9 (by decide)) rfl rfl (Nat.le_of_ble_eq_true rfl) rfl dX7_number_127 (fun H locs hw => ?_)
              refine k_iload hm hl 0 rfl dX7_number_130 ?_
              exact k_iret (post := _) hm hQ rfl (kN_bool false) hw (⟨_, _, rfl, rfl, Or.inr ⟨by rw [hF, hE]; intro z; rcases z with z | z; omega; exact hd97 z, rfl⟩, hso⟩) (by omega) (by omega) dX7_number_132
            · have c_14d := of_decide_eq_true c_14
              have hd97 : dg tx tn (so + q) := c_14d
              refine k_iconstN hm 0 dX7_number_100 ?_
              exact k_iret (post := _) hm hQ rfl (kN_bool false) hw (⟨_, _, rfl, rfl, Or.inl ⟨Or.inr (by rw [hE]; exact hd97), by rw [hE]⟩, hq.2⟩) (by omega) (by omega) dX7_number_101
        · have hd3 := dv_le hdg
          have hd4 : 10 ^ q ≤ 10 ^ 3 := Nat.pow_le_pow_right (by decide) (by omega)
          have hd5 := bt_dg hd1
          refine k_aload_n hm hl 0 rfl dX7_number_38 ?_
          refine k_bipushN hm 10 dX7_number_39 rfl ?_
          refine k_aload_n hm hl 0 rfl dX7_number_41 ?_
          refine k_get (T := TX7) hm hw 0 14 i7 rfl rfl (by decide) (by decide +kernel) rfl dX7_number_42 ?_
          refine k_imulN hm dX7_number_45 ?_
          refine k_aload_n hm hl 0 rfl dX7_number_46 ?_
          refine k_aload_n hm hl 0 rfl dX7_number_47 ?_
          refine k_get (T := TX7) hm hw 0 9 i7 rfl rfl (by decide) (by decide +kernel) rfl dX7_number_48 ?_
          refine k_callVr (n := 1) (As := [vN (so + q)]) (rest := [vN (10 * u), .ref (D 0)]) hm hw hl (c_m_byteAt l G D sa pa pn tx tn rf ro wk mb (so + q) kd nu it ti u ad (so + q) (by first | assumption | omega) (by first | assumption | omega)) gX7_number_X7_byteAt rfl (by decide +kernel) ⟨by decide, by decide⟩ (ci := 7) rfl 0 rfl [0, 1, 2, 3, 4, 5, 6, 7, 8] (by decide) rfl rfl rfl (by simp [Value.category]) ⟨by decide, by decide⟩ dX7_number_51 (fun v H locs hp hw => ?_)
          obtain rfl := hp
          refine W.eq (g2 := F0 m 54 ls [vZ (bt tx tn (so + q)), vN (10 * u), .ref (D 0)]) rfl ?_
          refine k_iadd hm dX7_number_54 ?_
          refine k_bipushN hm 48 dX7_number_55 rfl ?_
          refine k_isub hm dX7_number_57 ?_
          refine k_rwV (y := vN (10 * u + (tx (so + q) - 48))) (congrArg vZ (by rw [hd5]; omega)) ?_
          refine k_put (T := TX7) hm hw 0 14 (wMod G D sa pa pn tx tn rf ro wk mb (so + q) kd nu it ti (10 * u + (tx (so + q) - 48)) ad) i7 tyX7 tyX7_ok nmX7 rfl rfl (by decide) (by decide +kernel) rfl (tyX7_ok 14 (by decide)) rfl rfl (Nat.le_of_ble_eq_true rfl) rfl dX7_number_58 (fun H locs hw => ?_)
          refine k_aload_n hm hl 0 rfl dX7_number_61 ?_
          refine k_dup hm dX7_number_62 rfl ?_
          refine k_get (T := TX7) hm hw 0 9 i7 rfl rfl (by decide) (by decide +kernel) rfl dX7_number_63 ?_
          refine k_iconstN hm 1 dX7_number_66 ?_
          refine k_iaddN hm dX7_number_67 ?_
          refine k_put (T := TX7) hm hw 0 9 (wMod G D sa pa pn tx tn rf ro wk mb ((so + q) + 1) kd nu it ti (10 * u + (tx (so + q) - 48)) ad) i7 tyX7 tyX7_ok nmX7 rfl rfl (by decide) (by decide +kernel) rfl (tyX7_ok 9 (by decide)) rfl rfl (Nat.le_of_ble_eq_true rfl) rfl dX7_number_68 (fun H locs hw => ?_)
          refine k_goto (tgt := 10) hm dX7_number_71 (by decide) ?_
          exact ih_10  (10 * u + (tx (so + q) - 48)) (q + 1) (by omega) (by simp only [dv]; omega) (fun j z => by rcases Nat.lt_or_ge j q with y | y; exact hdg j y; rw [show j = q by omega]; exact hd1) _ _ _ (by omega) hw (lv_sub hl [0, 1, 2, 3] rfl)
  exact loop_10 (k - 0 + 1) 0 0 (by first | assumption | omega) rfl (fun j z => absurd z (by omega)) _ _ _ (Nat.lt_succ_self _) hw (lv_sub hl [1, 2, 3, 0] rfl)
set_option maxHeartbeats 4000000 in
set_option maxRecDepth 100000 in
theorem c_m_told (l : Launch) (G : kG) (D : Nat → Nat) (sa : Nat → Int64) (pa : Nat → Int64) (pn : Nat) (tx : Nat → Nat) (tn : Nat) (rf : Nat) (ro : Nat → Nat) (wk : Nat) (mb : Nat → Nat) (so : Nat) (kd : Nat → Nat) (nu : Nat → Nat) (it : Nat) (ti : Nat) (rd : Nat) (ad : Nat → Int64) (htn : tn ≤ 120) (hso : so ≤ tn) (htb : ∀ i, i < tn → tx i ≤ 127) : kCM l yX7_told wsX7_told 2 46 0 0 G [.ref (D 0)] (wMod G D sa pa pn tx tn rf ro wk mb so kd nu it ti rd ad) (fun vv uu => ∃ (b : Bool), ∃ (so2 : Nat), ∃ (kd2 : Nat → Nat), ∃ (nu2 : Nat → Nat), ∃ (it2 : Nat), ∃ (ti2 : Nat), ∃ (rd2 : Nat), vv = some (vB (b)) ∧ uu = wMod G D sa pa pn tx tn rf ro wk mb so2 kd2 nu2 it2 ti2 rd2 ad ∧ ((b = true ∧ rdOk tx tn so it2 ti2 so2 ∧ so2 ≤ tn ∧ ∀ j, j < it2 → kd2 j = kkF tx tn so j ∧ nu2 j = icF tx tn so j) ∨ (b = false ∧ rdEr tx tn so (so2 : Int) ∧ so2 ≤ tn))) := by
  refine kCM.of (cc := cX7_told) (maxL := 3) (ret := (some .boolean)) (by decide) rfl (Nat.le_of_ble_eq_true rfl) ?_
  intro p e s m args below meth c A ls Qz hQ hin hm hw hl
  have hl : lv_has ls 3 [(0, .ref (D 0))] := hl
  have i7 : ∀ w ∈ wsX70, w ∈ wsX7_told := by decide +kernel
  refine k_aload_n hm hl 0 rfl dX7_told_0 ?_
  refine k_iconstN hm 0 dX7_told_1 ?_
  refine k_put (T := TX7) hm hw 0 12 (wMod G D sa pa pn tx tn rf ro wk mb so kd nu 0 ti rd ad) i7 tyX7 tyX7_ok nmX7 rfl rfl (by decide) (by decide +kernel) rfl (tyX7_ok 12 (by decide)) rfl rfl (Nat.le_of_ble_eq_true rfl) rfl dX7_told_2 (fun H locs hw => ?_)
  refine k_aload_n hm hl 0 rfl dX7_told_5 ?_
  refine k_iconstN hm 1 dX7_told_6 ?_
  refine k_put (T := TX7) hm hw 0 13 (wMod G D sa pa pn tx tn rf ro wk mb so kd nu 0 1 rd ad) i7 tyX7 tyX7_ok nmX7 rfl rfl (by decide) (by decide +kernel) rfl (tyX7_ok 13 (by decide)) rfl rfl (Nat.le_of_ble_eq_true rfl) rfl dX7_told_7 (fun H locs hw => ?_)
  refine k_iconstN hm 1 dX7_told_10 ?_
  refine k_istore_n hm hl [(1, vN (1)), (0, .ref (D 0))] (by decide) rfl dX7_told_11 (fun ls hl => ?_)
  have loop_12 : ∀ (fu : Nat) (i : Nat) (kd1 : Nat → Nat) (nu1 : Nat → Nat) (rd1 : Nat) (hi : i ≤ 60) (h1 : ∀ j, j < i → itOk tx tn (ipF tx tn so j)) (h0 : i = 0 ∨ kdB (bt tx tn (ipF tx tn so i)) ≠ -1) (h2 : ∀ j, j < i → kd1 j = kkF tx tn so j ∧ nu1 j = icF tx tn so j) (H : Heap) (locs : List Loc) (ls : Array Slot), 61 - i < fu → kW G A s (wMod G D sa pa pn tx tn rf ro wk mb (ipF tx tn so i) kd1 nu1 i 1 rd1 ad) H locs → lv_has ls 3 [(0, .ref (D 0)), (1, vN (1))] → W p l e { frames := 2, cells := 0, slots := 0, locals := 46 } s m args below meth c H locs 0 0 Qz (F0 m 12 ls []) := by
    intro fu
    induction fu with
    | zero => intro i kd1 nu1 rd1 hi h1 h0 h2 H locs ls hfu; exact absurd hfu (Nat.not_lt_zero _)
    | succ fu ih_12 =>
      intro i kd1 nu1 rd1 hi h1 h0 h2 H locs ls hfu hw hl
      refine k_iload_n hm hl 1 rfl dX7_told_12 ?_
      refine k_ifeq (tgt := 114) hm dX7_told_13 (by decide) (by omega) (fun c_1 => absurd c_1 (by omega)) (fun c_1 => ?_)
      have hr1 := ipF_rng hso h1
      have hbr := bt_rng (p := ipF tx tn so i) htb
      have hkr := kdB_rng (bt tx tn (ipF tx tn so i))
      refine k_aload_n hm hl 0 rfl dX7_told_16 ?_
      refine k_aload_n hm hl 0 rfl dX7_told_17 ?_
      refine k_get (T := TX7) hm hw 0 9 i7 rfl rfl (by decide) (by decide +kernel) rfl dX7_told_18 ?_
      refine k_callVr (n := 1) (As := [vN (ipF tx tn so i)]) (rest := []) hm hw hl (c_m_byteAt l G D sa pa pn tx tn rf ro wk mb (ipF tx tn so i) kd1 nu1 i 1 rd1 ad (ipF tx tn so i) (by first | assumption | omega) (by first | assumption | omega)) gX7_told_X7_byteAt rfl (by decide +kernel) ⟨by decide, by decide⟩ (ci := 7) rfl 0 rfl [0, 1, 2, 3, 4, 5, 6, 7, 8] (by decide) rfl rfl rfl (by simp [Value.category]) ⟨by decide, by decide⟩ dX7_told_21 (fun v H locs hp hw => ?_)
      obtain rfl := hp
      refine W.eq (g2 := F0 m 24 ls [vZ (bt tx tn (ipF tx tn so i))]) rfl ?_
      refine k_callSr (n := 1) (As := [vZ (bt tx tn (ipF tx tn so i))]) (rest := []) hm hw hl (c_m_kindBy l G (bt tx tn (ipF tx tn so i)) (bt_rng htb)) gX7_told_X7_kindBy rfl (by decide +kernel) ⟨by decide, by decide⟩ [] (by decide) rfl rfl rfl (by simp [Value.category]) ⟨by decide, by decide⟩ dX7_told_24 (fun v H locs hp hw => ?_)
      obtain rfl := hp
      refine W.eq (g2 := F0 m 27 ls [vZ (kdB (bt tx tn (ipF tx tn so i)))]) rfl ?_
      refine k_istore_n hm hl [(2, vZ (kdB (bt tx tn (ipF tx tn so i)))), (0, .ref (D 0)), (1, vN (1))] (by decide) rfl dX7_told_27 (fun ls hl => ?_)
      refine k_iload_n hm hl 0 rfl dX7_told_28 ?_
      refine k_iconst (n := -1) hm dX7_told_29 ?_
      refine k_icmpne (tgt := 35) hm dX7_told_30 (by decide) (by omega) (fun c_4 => ?_) (fun c_4 => ?_)
      · have hk0 : ¬ kdB (bt tx tn (ipF tx tn so i)) = -1 := c_4
        have hlt := kdB_lt hk0
        refine k_aload_n hm hl 1 rfl dX7_told_35 ?_
        refine k_dup hm dX7_told_36 rfl ?_
        refine k_get (T := TX7) hm hw 0 9 i7 rfl rfl (by decide) (by decide +kernel) rfl dX7_told_37 ?_
        refine k_iconstN hm 1 dX7_told_40 ?_
        refine k_iaddN hm dX7_told_41 ?_
        refine k_put (T := TX7) hm hw 0 9 (wMod G D sa pa pn tx tn rf ro wk mb ((ipF tx tn so i) + 1) kd1 nu1 i 1 rd1 ad) i7 tyX7 tyX7_ok nmX7 rfl rfl (by decide) (by decide +kernel) rfl (tyX7_ok 9 (by decide)) rfl rfl (Nat.le_of_ble_eq_true rfl) rfl dX7_told_42 (fun H locs hw => ?_)
        refine k_aload_n hm hl 1 rfl dX7_told_45 ?_
        refine k_iconstN hm 3 dX7_told_46 ?_
        refine k_bipushN hm 120 dX7_told_47 rfl ?_
        refine Or.elim (Classical.em (nOk tx tn 3 120 (ipF tx tn so i + 1))) (fun hN => ?_) (fun hN => ?_)
        · refine k_callV (n := 2) (As := [vN (3), vN (120)]) (rest := []) (wr := []) hm hw hl (c_m_number_ok l G D sa pa pn tx tn rf ro wk mb ((ipF tx tn so i) + 1) kd1 nu1 i 1 rd1 ad 3 120 (by first | assumption | omega) (by first | assumption | omega) (by first | assumption | omega) (by first | assumption | omega) hN) gX7_told_X7_number rfl (by decide +kernel) ⟨by decide, by decide⟩ (ci := 7) rfl 0 rfl [0, 1, 2, 3, 4, 5, 6, 7, 8] [] (by decide) rfl rfl (by decide) (by decide) rfl rfl (by simp [Value.category]) ⟨by decide, by decide⟩ dX7_told_49 (fun v w1 H locs hp hw => ?_)
          obtain ⟨rfl, rfl⟩ := hp
          have hw := hw.sub (ws' := wMod G D sa pa pn tx tn rf ro wk mb (nE tx tn 3 ((ipF tx tn so i) + 1)) kd1 nu1 i 1 (nV tx tn 3 ((ipF tx tn so i) + 1)) ad) [0, 1, 2, 3, 4, 5, 6, 7, 8] (by decide) rfl
          refine W.eq (g2 := F0 m 52 ls [vB (true)]) rfl ?_
          refine k_ifneB (tgt := 57) hm dX7_told_52 (by decide) (fun _ => ?_) (fun c_6 => absurd c_6 (by decide))
          have hI : itOk tx tn (ipF tx tn so i) := ⟨hk0, hN⟩
          have htk := told_k hI
          have hnx := itOk_nx hI
          refine k_aload_n hm hl 1 rfl dX7_told_57 ?_
          refine k_get (T := TX7) hm hw 0 10 i7 rfl rfl (by decide) (by decide +kernel) rfl dX7_told_58 ?_
          refine k_aload_n hm hl 1 rfl dX7_told_61 ?_
          refine k_get (T := TX7) hm hw 0 12 i7 rfl rfl (by decide) (by decide +kernel) rfl dX7_told_62 ?_
          refine k_iload_n hm hl 0 rfl dX7_told_65 ?_
          refine k_rwV (y := vN (kkF tx tn so i)) (congrArg vZ htk.1) ?_
          refine k_iastN hm hw 6 (wMod G D sa pa pn tx tn rf ro wk mb (nE tx tn 3 ((ipF tx tn so i) + 1)) (nU kd1 i (kkF tx tn so i)) nu1 i 1 (nV tx tn 3 ((ipF tx tn so i) + 1)) ad) rfl (by omega) rfl dX7_told_66 (fun H locs hw => ?_)
          refine k_aload_n hm hl 1 rfl dX7_told_67 ?_
          refine k_get (T := TX7) hm hw 0 11 i7 rfl rfl (by decide) (by decide +kernel) rfl dX7_told_68 ?_
          refine k_aload_n hm hl 1 rfl dX7_told_71 ?_
          refine k_get (T := TX7) hm hw 0 12 i7 rfl rfl (by decide) (by decide +kernel) rfl dX7_told_72 ?_
          refine k_aload_n hm hl 1 rfl dX7_told_75 ?_
          refine k_get (T := TX7) hm hw 0 14 i7 rfl rfl (by decide) (by decide +kernel) rfl dX7_told_76 ?_
          refine k_iastN hm hw 7 (wMod G D sa pa pn tx tn rf ro wk mb (nE tx tn 3 ((ipF tx tn so i) + 1)) (nU kd1 i (kkF tx tn so i)) (nU nu1 i (nV tx tn 3 ((ipF tx tn so i) + 1))) i 1 (nV tx tn 3 ((ipF tx tn so i) + 1)) ad) rfl (by omega) rfl dX7_told_79 (fun H locs hw => ?_)
          refine k_aload_n hm hl 1 rfl dX7_told_80 ?_
          refine k_dup hm dX7_told_81 rfl ?_
          refine k_get (T := TX7) hm hw 0 12 i7 rfl rfl (by decide) (by decide +kernel) rfl dX7_told_82 ?_
          refine k_iconstN hm 1 dX7_told_85 ?_
          refine k_iaddN hm dX7_told_86 ?_
          refine k_put (T := TX7) hm hw 0 12 (wMod G D sa pa pn tx tn rf ro wk mb (nE tx tn 3 ((ipF tx tn so i) + 1)) (nU kd1 i (kkF tx tn so i)) (nU nu1 i (nV tx tn 3 ((ipF tx tn so i) + 1))) (i + 1) 1 (nV tx tn 3 ((ipF tx tn so i) + 1)) ad) i7 tyX7 tyX7_ok nmX7 rfl rfl (by decide) (by decide +kernel) rfl (tyX7_ok 12 (by decide)) rfl rfl (Nat.le_of_ble_eq_true rfl) rfl dX7_told_87 (fun H locs hw => ?_)
          have h1n : ∀ j, j < i + 1 → itOk tx tn (ipF tx tn so j) := fun j q => by rcases Nat.lt_or_ge j i with z | z; exact h1 j z; rw [show j = i by omega]; exact hI
          have h2n : ∀ j, j < i + 1 → (nU kd1 i (kkF tx tn so i)) j = kkF tx tn so j ∧ (nU nu1 i (nV tx tn 3 ((ipF tx tn so i) + 1))) j = icF tx tn so j := fun j q => by rcases Nat.lt_or_ge j i with z | z; rw [nU_n (by omega), nU_n (by omega)]; exact h2 j z; rw [show j = i by omega, nU_s, nU_s]; exact ⟨rfl, rfl⟩
          have hr2 := ipF_rng hso h1n
          have hen : nE tx tn 3 (ipF tx tn so i + 1) = ipF tx tn so (i + 1) := rfl
          rw [hen] at hw
          have hbr2 := bt_rng (p := ipF tx tn so (i + 1)) htb
          have hkr2 := kdB_rng (bt tx tn (ipF tx tn so (i + 1)))
          refine k_aload_n hm hl 1 rfl dX7_told_90 ?_
          refine k_aload_n hm hl 1 rfl dX7_told_91 ?_
          refine k_get (T := TX7) hm hw 0 9 i7 rfl rfl (by decide) (by decide +kernel) rfl dX7_told_92 ?_
          refine k_callVr (n := 1) (As := [vN (ipF tx tn so (i + 1))]) (rest := []) hm hw hl (c_m_byteAt l G D sa pa pn tx tn rf ro wk mb (ipF tx tn so (i + 1)) (nU kd1 i (kkF tx tn so i)) (nU nu1 i (nV tx tn 3 ((ipF tx tn so i) + 1))) (i + 1) 1 (nV tx tn 3 ((ipF tx tn so i) + 1)) ad (ipF tx tn so (i + 1)) (by first | assumption | omega) (by first | assumption | omega)) gX7_told_X7_byteAt rfl (by decide +kernel) ⟨by decide, by decide⟩ (ci := 7) rfl 0 rfl [0, 1, 2, 3, 4, 5, 6, 7, 8] (by decide) rfl rfl rfl (by simp [Value.category]) ⟨by decide, by decide⟩ dX7_told_95 (fun v H locs hp hw => ?_)
          obtain rfl := hp
          refine W.eq (g2 := F0 m 98 ls [vZ (bt tx tn (ipF tx tn so (i + 1)))]) rfl ?_
          refine k_callSr (n := 1) (As := [vZ (bt tx tn (ipF tx tn so (i + 1)))]) (rest := []) hm hw hl (c_m_kindBy l G (bt tx tn (ipF tx tn so (i + 1))) (bt_rng htb)) gX7_told_X7_kindBy rfl (by decide +kernel) ⟨by decide, by decide⟩ [] (by decide) rfl rfl rfl (by simp [Value.category]) ⟨by decide, by decide⟩ dX7_told_98 (fun v H locs hp hw => ?_)
          obtain rfl := hp
          refine W.eq (g2 := F0 m 101 ls [vZ (kdB (bt tx tn (ipF tx tn so (i + 1))))]) rfl ?_
          refine k_iconst (n := -1) hm dX7_told_101 ?_
          refine k_icmpeq (tgt := 109) hm dX7_told_102 (by decide) (by omega) (fun c_9 => ?_) (fun c_9 => ?_)
          · have hkd : kdB (bt tx tn (ipF tx tn so (i + 1))) = -1 := c_9
            refine k_iconstN hm 0 dX7_told_109 ?_
            refine k_istore_n hm hl [(1, vN (0)), (2, vZ (kdB (bt tx tn (ipF tx tn so i)))), (0, .ref (D 0))] (by decide) rfl dX7_told_110 (fun ls hl => ?_)
            refine k_goto (tgt := 12) hm dX7_told_111 (by decide) ?_
            refine k_iload_n hm hl 0 rfl dX7_told_12 ?_
            refine k_ifeq (tgt := 114) hm dX7_told_13 (by decide) (by omega) (fun c_10 => ?_) (fun c_10 => absurd c_10 (by omega))
            refine k_aload_n hm hl 2 rfl dX7_told_114 ?_
            refine k_aload_n hm hl 2 rfl dX7_told_115 ?_
            refine k_get (T := TX7) hm hw 0 9 i7 rfl rfl (by decide) (by decide +kernel) rfl dX7_told_116 ?_
            refine k_callVr (n := 1) (As := [vN (ipF tx tn so (i + 1))]) (rest := []) hm hw hl (c_m_byteAt l G D sa pa pn tx tn rf ro wk mb (ipF tx tn so (i + 1)) (nU kd1 i (kkF tx tn so i)) (nU nu1 i (nV tx tn 3 ((ipF tx tn so i) + 1))) (i + 1) 1 (nV tx tn 3 ((ipF tx tn so i) + 1)) ad (ipF tx tn so (i + 1)) (by first | assumption | omega) (by first | assumption | omega)) gX7_told_X7_byteAt rfl (by decide +kernel) ⟨by decide, by decide⟩ (ci := 7) rfl 0 rfl [0, 1, 2, 3, 4, 5, 6, 7, 8] (by decide) rfl rfl rfl (by simp [Value.category]) ⟨by decide, by decide⟩ dX7_told_119 (fun v H locs hp hw => ?_)
            obtain rfl := hp
            refine W.eq (g2 := F0 m 122 ls [vZ (bt tx tn (ipF tx tn so (i + 1)))]) rfl ?_
            refine k_bipushN hm 42 dX7_told_122 rfl ?_
            refine k_icmpne (tgt := 157) hm dX7_told_124 (by decide) (by omega) (fun c_12 => ?_) (fun c_12 => ?_)
            · refine k_aload_n hm hl 2 rfl dX7_told_157 ?_
              refine k_aload_n hm hl 2 rfl dX7_told_158 ?_
              refine k_get (T := TX7) hm hw 0 9 i7 rfl rfl (by decide) (by decide +kernel) rfl dX7_told_159 ?_
              refine k_callVr (n := 1) (As := [vN (ipF tx tn so (i + 1))]) (rest := []) hm hw hl (c_m_byteAt l G D sa pa pn tx tn rf ro wk mb (ipF tx tn so (i + 1)) (nU kd1 i (kkF tx tn so i)) (nU nu1 i (nV tx tn 3 ((ipF tx tn so i) + 1))) (i + 1) 1 (nV tx tn 3 ((ipF tx tn so i) + 1)) ad (ipF tx tn so (i + 1)) (by first | assumption | omega) (by first | assumption | omega)) gX7_told_X7_byteAt rfl (by decide +kernel) ⟨by decide, by decide⟩ (ci := 7) rfl 0 rfl [0, 1, 2, 3, 4, 5, 6, 7, 8] (by decide) rfl rfl rfl (by simp [Value.category]) ⟨by decide, by decide⟩ dX7_told_162 (fun v H locs hp hw => ?_)
              obtain rfl := hp
              refine W.eq (g2 := F0 m 165 ls [vZ (bt tx tn (ipF tx tn so (i + 1)))]) rfl ?_
              refine k_bipushN hm 59 dX7_told_165 rfl ?_
              refine k_icmpeq (tgt := 172) hm dX7_told_167 (by decide) (by omega) (fun c_14 => ?_) (fun c_14 => ?_)
              · refine k_aload_n hm hl 2 rfl dX7_told_172 ?_
                refine k_dup hm dX7_told_173 rfl ?_
                refine k_get (T := TX7) hm hw 0 9 i7 rfl rfl (by decide) (by decide +kernel) rfl dX7_told_174 ?_
                refine k_iconstN hm 1 dX7_told_177 ?_
                refine k_iaddN hm dX7_told_178 ?_
                refine k_put (T := TX7) hm hw 0 9 (wMod G D sa pa pn tx tn rf ro wk mb ((ipF tx tn so (i + 1)) + 1) (nU kd1 i (kkF tx tn so i)) (nU nu1 i (nV tx tn 3 ((ipF tx tn so i) + 1))) (i + 1) 1 (nV tx tn 3 ((ipF tx tn so i) + 1)) ad) i7 tyX7 tyX7_ok nmX7 rfl rfl (by decide) (by decide +kernel) rfl (tyX7_ok 9 (by decide)) rfl rfl (Nat.le_of_ble_eq_true rfl) rfl dX7_told_179 (fun H locs hw => ?_)
                refine k_iconstN hm 1 dX7_told_182 ?_
                exact k_iret (post := _) hm hQ rfl (kN_bool true) hw (⟨_, _, _, _, _, _, _, rfl, rfl, Or.inl ⟨rfl, ⟨by omega, h1n, hkd, Or.inr ⟨by omega, rfl, rfl⟩⟩, by have := bt_lt (show 0 ≤ bt tx tn (ipF tx tn so (i + 1)) by omega); omega, h2n⟩⟩) (by omega) (by omega) dX7_told_183
              · refine k_iconstN hm 0 dX7_told_170 ?_
                exact k_iret (post := _) hm hQ rfl (kN_bool false) hw (⟨_, _, _, _, _, _, _, rfl, rfl, Or.inr ⟨rfl, Or.inr ⟨i + 1, by omega, h1n, hkd, Or.inr (Or.inr ⟨by omega, by omega, rfl⟩)⟩, by omega⟩⟩) (by omega) (by omega) dX7_told_171
            · have h42 : bt tx tn (ipF tx tn so (i + 1)) = 42 := by omega
              have hlt2 := bt_lt (show 0 ≤ bt tx tn (ipF tx tn so (i + 1)) by omega)
              refine k_aload_n hm hl 2 rfl dX7_told_127 ?_
              refine k_dup hm dX7_told_128 rfl ?_
              refine k_get (T := TX7) hm hw 0 9 i7 rfl rfl (by decide) (by decide +kernel) rfl dX7_told_129 ?_
              refine k_iconstN hm 1 dX7_told_132 ?_
              refine k_iaddN hm dX7_told_133 ?_
              refine k_put (T := TX7) hm hw 0 9 (wMod G D sa pa pn tx tn rf ro wk mb ((ipF tx tn so (i + 1)) + 1) (nU kd1 i (kkF tx tn so i)) (nU nu1 i (nV tx tn 3 ((ipF tx tn so i) + 1))) (i + 1) 1 (nV tx tn 3 ((ipF tx tn so i) + 1)) ad) i7 tyX7 tyX7_ok nmX7 rfl rfl (by decide) (by decide +kernel) rfl (tyX7_ok 9 (by decide)) rfl rfl (Nat.le_of_ble_eq_true rfl) rfl dX7_told_134 (fun H locs hw => ?_)
              refine k_aload_n hm hl 2 rfl dX7_told_137 ?_
              refine k_iconstN hm 2 dX7_told_138 ?_
              refine k_bipushN hm 60 dX7_told_139 rfl ?_
              refine Or.elim (Classical.em (nOk tx tn 2 60 (ipF tx tn so (i + 1) + 1))) (fun hN2 => ?_) (fun hN2 => ?_)
              · have hE2 := nE_le (tx := tx) (n := tn) (k := 2) (p := ipF tx tn so (i + 1) + 1) (by omega)
                have hbr3 := bt_rng (p := nE tx tn 2 (ipF tx tn so (i + 1) + 1)) htb
                refine k_callV (n := 2) (As := [vN (2), vN (60)]) (rest := []) (wr := []) hm hw hl (c_m_number_ok l G D sa pa pn tx tn rf ro wk mb ((ipF tx tn so (i + 1)) + 1) (nU kd1 i (kkF tx tn so i)) (nU nu1 i (nV tx tn 3 ((ipF tx tn so i) + 1))) (i + 1) 1 (nV tx tn 3 ((ipF tx tn so i) + 1)) ad 2 60 (by first | assumption | omega) (by first | assumption | omega) (by first | assumption | omega) (by first | assumption | omega) hN2) gX7_told_X7_number rfl (by decide +kernel) ⟨by decide, by decide⟩ (ci := 7) rfl 0 rfl [0, 1, 2, 3, 4, 5, 6, 7, 8] [] (by decide) rfl rfl (by decide) (by decide) rfl rfl (by simp [Value.category]) ⟨by decide, by decide⟩ dX7_told_141 (fun v w1 H locs hp hw => ?_)
                obtain ⟨rfl, rfl⟩ := hp
                have hw := hw.sub (ws' := wMod G D sa pa pn tx tn rf ro wk mb (nE tx tn 2 ((ipF tx tn so (i + 1)) + 1)) (nU kd1 i (kkF tx tn so i)) (nU nu1 i (nV tx tn 3 ((ipF tx tn so i) + 1))) (i + 1) 1 (nV tx tn 2 ((ipF tx tn so (i + 1)) + 1)) ad) [0, 1, 2, 3, 4, 5, 6, 7, 8] (by decide) rfl
                refine W.eq (g2 := F0 m 144 ls [vB (true)]) rfl ?_
                refine k_ifneB (tgt := 149) hm dX7_told_144 (by decide) (fun _ => ?_) (fun c_16 => absurd c_16 (by decide))
                refine k_aload_n hm hl 2 rfl dX7_told_149 ?_
                refine k_aload_n hm hl 2 rfl dX7_told_150 ?_
                refine k_get (T := TX7) hm hw 0 14 i7 rfl rfl (by decide) (by decide +kernel) rfl dX7_told_151 ?_
                refine k_put (T := TX7) hm hw 0 13 (wMod G D sa pa pn tx tn rf ro wk mb (nE tx tn 2 ((ipF tx tn so (i + 1)) + 1)) (nU kd1 i (kkF tx tn so i)) (nU nu1 i (nV tx tn 3 ((ipF tx tn so i) + 1))) (i + 1) (nV tx tn 2 ((ipF tx tn so (i + 1)) + 1)) (nV tx tn 2 ((ipF tx tn so (i + 1)) + 1)) ad) i7 tyX7 tyX7_ok nmX7 rfl rfl (by decide) (by decide +kernel) rfl (tyX7_ok 13 (by decide)) rfl rfl (Nat.le_of_ble_eq_true rfl) rfl dX7_told_154 (fun H locs hw => ?_)
                refine k_aload_n hm hl 2 rfl dX7_told_157 ?_
                refine k_aload_n hm hl 2 rfl dX7_told_158 ?_
                refine k_get (T := TX7) hm hw 0 9 i7 rfl rfl (by decide) (by decide +kernel) rfl dX7_told_159 ?_
                refine k_callVr (n := 1) (As := [vN (nE tx tn 2 ((ipF tx tn so (i + 1)) + 1))]) (rest := []) hm hw hl (c_m_byteAt l G D sa pa pn tx tn rf ro wk mb (nE tx tn 2 ((ipF tx tn so (i + 1)) + 1)) (nU kd1 i (kkF tx tn so i)) (nU nu1 i (nV tx tn 3 ((ipF tx tn so i) + 1))) (i + 1) (nV tx tn 2 ((ipF tx tn so (i + 1)) + 1)) (nV tx tn 2 ((ipF tx tn so (i + 1)) + 1)) ad (nE tx tn 2 ((ipF tx tn so (i + 1)) + 1)) (by first | assumption | omega) (by first | assumption | omega)) gX7_told_X7_byteAt rfl (by decide +kernel) ⟨by decide, by decide⟩ (ci := 7) rfl 0 rfl [0, 1, 2, 3, 4, 5, 6, 7, 8] (by decide) rfl rfl rfl (by simp [Value.category]) ⟨by decide, by decide⟩ dX7_told_162 (fun v H locs hp hw => ?_)
                obtain rfl := hp
                refine W.eq (g2 := F0 m 165 ls [vZ (bt tx tn (nE tx tn 2 ((ipF tx tn so (i + 1)) + 1)))]) rfl ?_
                refine k_bipushN hm 59 dX7_told_165 rfl ?_
                refine k_icmpeq (tgt := 172) hm dX7_told_167 (by decide) (by omega) (fun c_18 => ?_) (fun c_18 => ?_)
                · refine k_aload_n hm hl 2 rfl dX7_told_172 ?_
                  refine k_dup hm dX7_told_173 rfl ?_
                  refine k_get (T := TX7) hm hw 0 9 i7 rfl rfl (by decide) (by decide +kernel) rfl dX7_told_174 ?_
                  refine k_iconstN hm 1 dX7_told_177 ?_
                  refine k_iaddN hm dX7_told_178 ?_
                  refine k_put (T := TX7) hm hw 0 9 (wMod G D sa pa pn tx tn rf ro wk mb ((nE tx tn 2 ((ipF tx tn so (i + 1)) + 1)) + 1) (nU kd1 i (kkF tx tn so i)) (nU nu1 i (nV tx tn 3 ((ipF tx tn so i) + 1))) (i + 1) (nV tx tn 2 ((ipF tx tn so (i + 1)) + 1)) (nV tx tn 2 ((ipF tx tn so (i + 1)) + 1)) ad) i7 tyX7 tyX7_ok nmX7 rfl rfl (by decide) (by decide +kernel) rfl (tyX7_ok 9 (by decide)) rfl rfl (Nat.le_of_ble_eq_true rfl) rfl dX7_told_179 (fun H locs hw => ?_)
                  refine k_iconstN hm 1 dX7_told_182 ?_
                  exact k_iret (post := _) hm hQ rfl (kN_bool true) hw (⟨_, _, _, _, _, _, _, rfl, rfl, Or.inl ⟨rfl, ⟨by omega, h1n, hkd, Or.inl ⟨h42, hN2, rfl, by omega, rfl⟩⟩, by have := bt_lt (show 0 ≤ bt tx tn (nE tx tn 2 (ipF tx tn so (i + 1) + 1)) by omega); omega, h2n⟩⟩) (by omega) (by omega) dX7_told_183
                · refine k_iconstN hm 0 dX7_told_170 ?_
                  exact k_iret (post := _) hm hQ rfl (kN_bool false) hw (⟨_, _, _, _, _, _, _, rfl, rfl, Or.inr ⟨rfl, Or.inr ⟨i + 1, by omega, h1n, hkd, Or.inr (Or.inl ⟨h42, hN2, by omega, rfl⟩)⟩, by omega⟩⟩) (by omega) (by omega) dX7_told_171
              · refine k_callV (n := 2) (As := [vN (2), vN (60)]) (rest := []) (wr := []) hm hw hl (c_m_number_er l G D sa pa pn tx tn rf ro wk mb ((ipF tx tn so (i + 1)) + 1) (nU kd1 i (kkF tx tn so i)) (nU nu1 i (nV tx tn 3 ((ipF tx tn so i) + 1))) (i + 1) 1 (nV tx tn 3 ((ipF tx tn so i) + 1)) ad 2 60 (by first | assumption | omega) (by first | assumption | omega) (by first | assumption | omega) (by first | assumption | omega) hN2) gX7_told_X7_number rfl (by decide +kernel) ⟨by decide, by decide⟩ (ci := 7) rfl 0 rfl [0, 1, 2, 3, 4, 5, 6, 7, 8] [] (by decide) rfl rfl (by decide) (by decide) rfl rfl (by simp [Value.category]) ⟨by decide, by decide⟩ dX7_told_141 (fun v w1 H locs hp hw => ?_)
                obtain ⟨so2_20, rd2_21, rfl, rfl, hz_22, hp2_23⟩ := hp
                have hw := hw.sub (ws' := wMod G D sa pa pn tx tn rf ro wk mb so2_20 (nU kd1 i (kkF tx tn so i)) (nU nu1 i (nV tx tn 3 ((ipF tx tn so i) + 1))) (i + 1) 1 rd2_21 ad) [0, 1, 2, 3, 4, 5, 6, 7, 8] (by decide) rfl
                refine W.eq (g2 := F0 m 144 ls [vB (false)]) rfl ?_
                have hz9 := hz_22
                have hp9 := hp2_23
                refine k_ifneB (tgt := 149) hm dX7_told_144 (by decide) (fun c_24 => absurd c_24 (by decide)) (fun _ => ?_)
                refine k_iconstN hm 0 dX7_told_147 ?_
                exact k_iret (post := _) hm hQ rfl (kN_bool false) hw (⟨_, _, _, _, _, _, _, rfl, rfl, Or.inr ⟨rfl, Or.inr ⟨i + 1, by omega, h1n, hkd, Or.inl ⟨h42, hN2, hz9⟩⟩, hp9⟩⟩) (by omega) (by omega) dX7_told_148
          · refine k_iconstN hm 1 dX7_told_105 ?_
            refine k_goto (tgt := 110) hm dX7_told_106 (by decide) ?_
            refine k_istore_n hm hl [(1, vN (1)), (2, vZ (kdB (bt tx tn (ipF tx tn so i)))), (0, .ref (D 0))] (by decide) rfl dX7_told_110 (fun ls hl => ?_)
            refine k_goto (tgt := 12) hm dX7_told_111 (by decide) ?_
            exact ih_12  (i + 1) (nU kd1 i (kkF tx tn so i)) (nU nu1 i (nV tx tn 3 ((ipF tx tn so i) + 1))) (nV tx tn 3 ((ipF tx tn so i) + 1)) (by first | assumption | omega) h1n (Or.inr c_9) h2n _ _ _ (by omega) hw (lv_sub hl [2, 0] rfl)
        · refine k_callV (n := 2) (As := [vN (3), vN (120)]) (rest := []) (wr := []) hm hw hl (c_m_number_er l G D sa pa pn tx tn rf ro wk mb ((ipF tx tn so i) + 1) kd1 nu1 i 1 rd1 ad 3 120 (by first | assumption | omega) (by first | assumption | omega) (by first | assumption | omega) (by first | assumption | omega) hN) gX7_told_X7_number rfl (by decide +kernel) ⟨by decide, by decide⟩ (ci := 7) rfl 0 rfl [0, 1, 2, 3, 4, 5, 6, 7, 8] [] (by decide) rfl rfl (by decide) (by decide) rfl rfl (by simp [Value.category]) ⟨by decide, by decide⟩ dX7_told_49 (fun v w1 H locs hp hw => ?_)
          obtain ⟨so2_26, rd2_27, rfl, rfl, hz_28, hp2_29⟩ := hp
          have hw := hw.sub (ws' := wMod G D sa pa pn tx tn rf ro wk mb so2_26 kd1 nu1 i 1 rd2_27 ad) [0, 1, 2, 3, 4, 5, 6, 7, 8] (by decide) rfl
          refine W.eq (g2 := F0 m 52 ls [vB (false)]) rfl ?_
          have hz9 := hz_28
          have hp9 := hp2_29
          refine k_ifneB (tgt := 57) hm dX7_told_52 (by decide) (fun c_30 => absurd c_30 (by decide)) (fun _ => ?_)
          refine k_iconstN hm 0 dX7_told_55 ?_
          exact k_iret (post := _) hm hQ rfl (kN_bool false) hw (⟨_, _, _, _, _, _, _, rfl, rfl, Or.inr ⟨rfl, Or.inl ⟨i, h1, h0, fun z => hN z.2, Or.inr ⟨hk0, hz9⟩⟩, hp9⟩⟩) (by omega) (by omega) dX7_told_56
      · have hk0 : kdB (bt tx tn (ipF tx tn so i)) = -1 := c_4
        refine k_iconstN hm 0 dX7_told_33 ?_
        exact k_iret (post := _) hm hQ rfl (kN_bool false) hw (⟨_, _, _, _, _, _, _, rfl, rfl, Or.inr ⟨rfl, Or.inl ⟨i, h1, h0, fun z => z.1 hk0, Or.inl ⟨hk0, rfl⟩⟩, by omega⟩⟩) (by omega) (by omega) dX7_told_34
  exact loop_12 (61 - 0 + 1) 0 kd nu rd (by first | assumption | omega) (fun j q => absurd q (by omega)) (Or.inl rfl) (fun j q => absurd q (by omega)) _ _ _ (Nat.lt_succ_self _) hw (lv_sub hl [1, 0] rfl)
theorem synR_z {tx : Nat → Nat} {n k p : Nat} (h : ¬ p < n) : synR tx n k p (-1) := by
  cases k with
  | zero => rfl
  | succ k => exact Or.inl ⟨h, rfl⟩
theorem ftS_z {tx : Nat → Nat} {n k p tot : Nat} (h : ¬ p < n) : ftS tx n k p tot 0 := by
  cases k with
  | zero => rfl
  | succ k => exact Or.inl ⟨h, rfl⟩
set_option maxHeartbeats 4000000 in
set_option maxRecDepth 100000 in
theorem c_m_errorAt (l : Launch) (G : kG) (D : Nat → Nat) (sa : Nat → Int64) (pa : Nat → Int64) (pn : Nat) (tx : Nat → Nat) (tn : Nat) (rf : Nat) (ro : Nat → Nat) (wk : Nat) (mb : Nat → Nat) (so : Nat) (kd : Nat → Nat) (nu : Nat → Nat) (it : Nat) (ti : Nat) (rd : Nat) (ad : Nat → Int64) (htn : tn ≤ 120) (htb : ∀ i, i < tn → tx i ≤ 127) : kCM l yX7_errorAt wsX7_errorAt 3 68 0 0 G [.ref (D 0)] (wMod G D sa pa pn tx tn rf ro wk mb so kd nu it ti rd ad) (fun vv uu => ∃ (so2 : Nat), ∃ (kd2 : Nat → Nat), ∃ (nu2 : Nat → Nat), ∃ (it2 : Nat), ∃ (ti2 : Nat), ∃ (rd2 : Nat), ∃ (z : Int), vv = some (vZ (z)) ∧ uu = wMod G D sa pa pn tx tn rf ro wk mb so2 kd2 nu2 it2 ti2 rd2 ad ∧ (synR tx tn 120 0 z) ∧ (-1 ≤ z ∧ z ≤ (tn : Int))) := by
  refine kCM.of (cc := cX7_errorAt) (maxL := 2) (ret := (some .int)) (by decide) rfl (Nat.le_of_ble_eq_true rfl) ?_
  intro p e s m args below meth c A ls Qz hQ hin hm hw hl
  have hl : lv_has ls 2 [(0, .ref (D 0))] := hl
  have i7 : ∀ w ∈ wsX70, w ∈ wsX7_errorAt := by decide +kernel
  refine k_aload_n hm hl 0 rfl dX7_errorAt_0 ?_
  refine k_iconstN hm 0 dX7_errorAt_1 ?_
  refine k_put (T := TX7) hm hw 0 9 (wMod G D sa pa pn tx tn rf ro wk mb 0 kd nu it ti rd ad) i7 tyX7 tyX7_ok nmX7 rfl rfl (by decide) (by decide +kernel) rfl (tyX7_ok 9 (by decide)) rfl rfl (Nat.le_of_ble_eq_true rfl) rfl dX7_errorAt_2 (fun H locs hw => ?_)
  refine k_iconstN hm 1 dX7_errorAt_5 ?_
  refine k_rwV (y := vB (true)) rfl ?_
  refine k_istore_n hm hl [(1, vB (true)), (0, .ref (D 0))] (by decide) rfl dX7_errorAt_6 (fun ls hl => ?_)
  have loop_7 : ∀ (fu : Nat) (i : Nat) (so1 : Nat) (kd1 : Nat → Nat) (nu1 : Nat → Nat) (it1 : Nat) (ti1 : Nat) (rd1 : Nat) (hi : i ≤ so1 ∧ so1 ≤ tn) (hs : ∀ z, synR tx tn (120 - i) so1 z → synR tx tn 120 0 z) (H : Heap) (locs : List Loc) (ls : Array Slot), 120 - i < fu → kW G A s (wMod G D sa pa pn tx tn rf ro wk mb so1 kd1 nu1 it1 ti1 rd1 ad) H locs → lv_has ls 2 [(0, .ref (D 0)), (1, vB (true))] → W p l e { frames := 3, cells := 0, slots := 0, locals := 68 } s m args below meth c H locs 0 0 Qz (F0 m 7 ls []) := by
    intro fu
    induction fu with
    | zero => intro i so1 kd1 nu1 it1 ti1 rd1 hi hs H locs ls hfu; exact absurd hfu (Nat.not_lt_zero _)
    | succ fu ih_7 =>
      intro i so1 kd1 nu1 it1 ti1 rd1 hi hs H locs ls hfu hw hl
      refine k_iload_n hm hl 1 rfl dX7_errorAt_7 ?_
      refine k_ifeqB (tgt := 30) hm dX7_errorAt_8 (by decide) (fun c_1 => absurd c_1 (by decide)) (fun _ => ?_)
      refine k_aload_n hm hl 0 rfl dX7_errorAt_11 ?_
      refine k_get (T := TX7) hm hw 0 9 i7 rfl rfl (by decide) (by decide +kernel) rfl dX7_errorAt_12 ?_
      refine k_aload_n hm hl 0 rfl dX7_errorAt_15 ?_
      refine k_get (T := TX7) hm hw 0 4 i7 rfl rfl (by decide) (by decide +kernel) rfl dX7_errorAt_16 ?_
      refine k_icmpge (tgt := 30) hm dX7_errorAt_19 (by decide) (by omega) (fun c_2 => ?_) (fun c_2 => ?_)
      · refine k_iload_n hm hl 1 rfl dX7_errorAt_30 ?_
        refine k_ifeqB (tgt := 38) hm dX7_errorAt_31 (by decide) (fun c_3 => absurd c_3 (by decide)) (fun _ => ?_)
        refine k_iconst (n := -1) hm dX7_errorAt_34 ?_
        refine k_goto (tgt := 42) hm dX7_errorAt_35 (by decide) ?_
        exact k_iret (post := _) hm hQ rfl rfl hw (⟨_, _, _, _, _, _, _, rfl, rfl, hs _ (synR_z (by omega)), by omega⟩) (by omega) (by omega) dX7_errorAt_42
      · refine k_aload_n hm hl 0 rfl dX7_errorAt_22 ?_
        refine k_callV (n := 0) (As := []) (rest := []) (wr := []) hm hw hl (c_m_told l G D sa pa pn tx tn rf ro wk mb so1 kd1 nu1 it1 ti1 rd1 ad (by first | assumption | omega) (by first | assumption | omega) (by first | assumption | omega)) gX7_errorAt_X7_told rfl (by decide +kernel) ⟨by decide, by decide⟩ (ci := 7) rfl 0 rfl [0, 1, 2, 3, 4, 5, 6, 7, 8] [] (by decide) rfl rfl (by decide) (by decide) rfl rfl (by simp [Value.category]) ⟨by decide, by decide⟩ dX7_errorAt_23 (fun v w1 H locs hp hw => ?_)
        obtain ⟨b_5, so2_6, kd2_7, nu2_8, it2_9, ti2_10, rd2_11, rfl, rfl, hz_12⟩ := hp
        have hw := hw.sub (ws' := wMod G D sa pa pn tx tn rf ro wk mb so2_6 kd2_7 nu2_8 it2_9 ti2_10 rd2_11 ad) [0, 1, 2, 3, 4, 5, 6, 7, 8] (by decide) rfl
        refine W.eq (g2 := F0 m 26 ls [vB (b_5)]) rfl ?_
        rcases hz_12 with ⟨e1, e2, e3, e4⟩ | ⟨e1, e2, e3⟩
        · refine k_rwV (y := vB (true)) (by rw [e1]) ?_
          refine k_istore_n hm hl [(1, vB (true)), (0, .ref (D 0))] (by decide) rfl dX7_errorAt_26 (fun ls hl => ?_)
          refine k_goto (tgt := 7) hm dX7_errorAt_27 (by decide) ?_
          exact ih_7  (i + 1) so2_6 kd2_7 nu2_8 it2_9 ti2_10 rd2_11 (by have := (rdOk_q (by omega) e2).resolve_right (by omega); omega) (by
                              intro z q
                              exact hs z (by
                                rw [show 120 - i = (120 - (i + 1)) + 1 by omega]
                                exact Or.inr ⟨by omega, Or.inl ⟨_, _, _, e2, q⟩⟩)) _ _ _ (by omega) hw (lv_sub hl [1, 0] rfl)
        · refine k_rwV (y := vB (false)) (by rw [e1]) ?_
          refine k_istore_n hm hl [(1, vB (false)), (0, .ref (D 0))] (by decide) rfl dX7_errorAt_26 (fun ls hl => ?_)
          refine k_goto (tgt := 7) hm dX7_errorAt_27 (by decide) ?_
          refine k_iload_n hm hl 0 rfl dX7_errorAt_7 ?_
          refine k_ifeqB (tgt := 30) hm dX7_errorAt_8 (by decide) (fun _ => ?_) (fun c_13 => absurd c_13 (by decide))
          refine k_iload_n hm hl 0 rfl dX7_errorAt_30 ?_
          refine k_ifeqB (tgt := 38) hm dX7_errorAt_31 (by decide) (fun _ => ?_) (fun c_14 => absurd c_14 (by decide))
          refine k_aload_n hm hl 1 rfl dX7_errorAt_38 ?_
          refine k_get (T := TX7) hm hw 0 9 i7 rfl rfl (by decide) (by decide +kernel) rfl dX7_errorAt_39 ?_
          exact k_iret (post := _) hm hQ rfl rfl hw (⟨_, _, _, _, _, _, _, rfl, rfl, hs _ (by rw [show 120 - i = (120 - (i + 1)) + 1 by omega]; exact Or.inr ⟨by omega, Or.inr e2⟩), by omega⟩) (by omega) (by omega) dX7_errorAt_42
  exact loop_7 (120 - 0 + 1) 0 0 kd nu it ti rd (by first | assumption | omega) (fun z q => q) _ _ _ (Nat.lt_succ_self _) hw (lv_sub hl [1, 0] rfl)
