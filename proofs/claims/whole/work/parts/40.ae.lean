theorem MOk_yarn {sa : Nat → Int64} {R k x : Nat} {sp : Bool} {K : Nat → Nat → Nat} {w y : Nat → Nat} (h : MOk sa R sp K w y) (hk : k < 3) (hx : 1 ≤ x ∧ x ≤ 60) : MOk (vp_updL sa (2 + k) (lI (x : Int))) R sp K w (nU y k x) := by
  obtain ⟨⟨v1, v2, v3, v4, v5⟩, a0, a1, a2, a3⟩ := h
  refine ⟨⟨v1, v2, v3, fun j hj => ?_, v5⟩, by rw [updL_n (by omega)]; exact a0, by rw [updL_n (by omega)]; exact a1, fun j hj => ?_, fun r hr => ⟨by rw [updL_n (by omega)]; exact (a3 r hr).1, fun i hi => by rw [updL_n (by omega)]; exact (a3 r hr).2 i hi⟩⟩
  · simp only [nU]; split
    · exact hx
    · exact v4 j hj
  · by_cases q : j = k
    · subst q; rw [updL_s, nU_s]
    · rw [updL_n (by omega), nU_n q]; exact a2 j hj
set_option maxHeartbeats 4000000 in
set_option maxRecDepth 100000 in
theorem c_m_setYarn_ok (l : Launch) (G : kG) (D : Nat → Nat) (sa : Nat → Int64) (pa : Nat → Int64) (pn : Nat) (tx : Nat → Nat) (tn : Nat) (rf : Nat) (ro : Nat → Nat) (wk : Nat) (mb : Nat → Nat) (so : Nat) (kd : Nat → Nat) (nu : Nat → Nat) (it : Nat) (ti : Nat) (rd : Nat) (ad : Nat → Int64) (R : Nat) (sp : Bool) (K : Nat → Nat → Nat) (w : Nat → Nat) (y : Nat → Nat) (sv : Nat → PSt) (k : Nat) (x : Nat) (hmo : MOk sa R sp K w y) (hpa : PaOk pa pn sv) (hk : k < 3 ∧ 1 ≤ x ∧ x ≤ 60) : kCM l yX7_setYarn wsX7_setYarn 1 22 0 0 G [.ref (D 0), vN (k), vN (x)] (wMod G D sa pa pn tx tn rf ro wk mb so kd nu it ti rd ad) (fun vv uu => ∃ (sa2 : Nat → Int64), ∃ (pa2 : Nat → Int64), vv = some (vN (y k)) ∧ uu = wMod G D sa2 pa2 (Nat.min (pn + 1) 4) tx tn 0 ro wk mb so kd nu it ti rd ad ∧ (MOk sa2 R sp K w (nU y k x)) ∧ (PaOk pa2 (Nat.min (pn + 1) 4) (svPush (R, sp, K, w, y) sv))) := by
  refine kCM.of (cc := cX7_setYarn) (maxL := 4) (ret := (some .int)) (by decide) rfl (Nat.le_of_ble_eq_true rfl) ?_
  intro p e s m args below meth c A ls Qz hQ hin hm hw hl
  have hl : lv_has ls 4 [(0, .ref (D 0)), (1, vN (k)), (2, vN (x))] := hl
  have i7 : ∀ w ∈ wsX70, w ∈ wsX7_setYarn := by decide +kernel
  have hyk := hmo.2.2.2.1 k hk.1
  have hyr := hmo.1.2.2.2.1 k hk.1
  refine k_aload_n hm hl 0 rfl dX7_setYarn_0 ?_
  refine k_iload_n hm hl 1 rfl dX7_setYarn_1 ?_
  refine k_iconstN hm 0 dX7_setYarn_2 ?_
  refine k_iconstN hm 2 dX7_setYarn_3 ?_
  refine k_callSr (n := 3) (As := [vN (k), vN (0), vN (2)]) (rest := [.ref (D 0)]) hm hw hl (c_m_in l G ((k : Nat) : Int) ((0 : Nat) : Int) ((2 : Nat) : Int) (by first | assumption | omega)) gX7_setYarn_X7_in rfl (by decide +kernel) ⟨by decide, by decide⟩ [] (by decide) rfl rfl rfl (by simp [Value.category]) ⟨by decide, by decide⟩ dX7_setYarn_4 (fun v H locs hp hw => ?_)
  obtain rfl := hp
  refine W.eq (g2 := F0 m 7 ls [vB (decide (((0 : Nat) : Int) ≤ ((k : Nat) : Int) ∧ ((k : Nat) : Int) ≤ ((2 : Nat) : Int))), .ref (D 0)]) rfl ?_
  refine k_ifeqB (tgt := 24) hm dX7_setYarn_7 (by decide) (fun c_2 => absurd (of_decide_eq_false c_2) (by omega)) (fun c_2 => ?_)
  refine k_iload_n hm hl 2 rfl dX7_setYarn_10 ?_
  refine k_iconstN hm 1 dX7_setYarn_11 ?_
  refine k_bipushN hm 60 dX7_setYarn_12 rfl ?_
  refine k_callSr (n := 3) (As := [vN (x), vN (1), vN (60)]) (rest := [.ref (D 0)]) hm hw hl (c_m_in l G ((x : Nat) : Int) ((1 : Nat) : Int) ((60 : Nat) : Int) (by first | assumption | omega)) gX7_setYarn_X7_in rfl (by decide +kernel) ⟨by decide, by decide⟩ [] (by decide) rfl rfl rfl (by simp [Value.category]) ⟨by decide, by decide⟩ dX7_setYarn_14 (fun v H locs hp hw => ?_)
  obtain rfl := hp
  refine W.eq (g2 := F0 m 17 ls [vB (decide (((1 : Nat) : Int) ≤ ((x : Nat) : Int) ∧ ((x : Nat) : Int) ≤ ((60 : Nat) : Int))), .ref (D 0)]) rfl ?_
  refine k_ifeqB (tgt := 24) hm dX7_setYarn_17 (by decide) (fun c_4 => absurd (of_decide_eq_false c_4) (by omega)) (fun c_4 => ?_)
  refine k_iconstN hm 0 dX7_setYarn_20 ?_
  refine k_goto (tgt := 25) hm dX7_setYarn_21 (by decide) ?_
  refine k_callV (n := 1) (As := [vN (0)]) (rest := []) (wr := []) hm hw hl (c_m_throwsAt l G D sa pa pn tx tn rf ro wk mb so kd nu it ti rd ad 0 (by first | assumption | omega)) gX7_setYarn_X7_throwsAt rfl (by decide +kernel) ⟨by decide, by decide⟩ (ci := 7) rfl 0 rfl [0, 1, 2, 3, 4, 5, 6, 7, 8] [] (by decide) rfl rfl (by decide) (by decide) rfl rfl (by simp [Value.category]) ⟨by decide, by decide⟩ dX7_setYarn_25 (fun v w1 H locs hp hw => ?_)
  obtain ⟨rfl, rfl⟩ := hp
  have hw := hw.sub (ws' := wMod G D sa pa pn tx tn 0 ro wk mb so kd nu it ti rd ad) [0, 1, 2, 3, 4, 5, 6, 7, 8] (by decide) rfl
  refine W.eq (g2 := F0 m 28 ls [vB (decide (0 < 0))]) rfl ?_
  refine k_ifeqB (tgt := 33) hm dX7_setYarn_28 (by decide) (fun c_6 => ?_) (fun c_6 => absurd (of_decide_eq_true c_6) (by omega))
  refine k_aload_n hm hl 0 rfl dX7_setYarn_33 ?_
  refine k_callV (n := 0) (As := []) (rest := []) (wr := []) hm hw hl (c_m_saves l G D sa pa pn tx tn 0 ro wk mb so kd nu it ti rd ad R sp K w y sv (by first | assumption | omega) (by first | assumption | omega)) gX7_setYarn_X7_saves rfl (by decide +kernel) ⟨by decide, by decide⟩ (ci := 7) rfl 0 rfl [0, 1, 2, 3, 4, 5, 6, 7, 8] [] (by decide) rfl rfl (by decide) (by decide) rfl rfl (by simp [Value.category]) ⟨by decide, by decide⟩ dX7_setYarn_34 (fun v w1 H locs hp hw => ?_)
  obtain ⟨pa2_8, rfl, rfl, hpa2_9⟩ := hp
  have hw := hw.sub (ws' := wMod G D sa pa2_8 (Nat.min (pn + 1) 4) tx tn 0 ro wk mb so kd nu it ti rd ad) [0, 1, 2, 3, 4, 5, 6, 7, 8] (by decide) rfl
  refine W.eq (g2 := F0 m 37 ls []) rfl ?_
  have hpa9 := hpa2_9
  refine k_aload_n hm hl 0 rfl dX7_setYarn_37 ?_
  refine k_get (T := TX7) hm hw 0 0 i7 rfl rfl (by decide) (by decide +kernel) rfl dX7_setYarn_38 ?_
  refine k_iconstN hm 2 dX7_setYarn_41 ?_
  refine k_iload_n hm hl 1 rfl dX7_setYarn_42 ?_
  refine k_iaddN hm dX7_setYarn_43 ?_
  refine k_lald hm hw 1 rfl (by omega) dX7_setYarn_44 ?_
  rw [show sa (2 + k) = lI (y k : Int) from hyk]
  refine k_l2i hm dX7_setYarn_45 ?_
  refine k_istore_n hm hl [(3, vN (y k)), (0, .ref (D 0)), (1, vN (k)), (2, vN (x))] (by decide) rfl dX7_setYarn_46 (fun ls hl => ?_)
  refine k_aload_n hm hl 1 rfl dX7_setYarn_47 ?_
  refine k_get (T := TX7) hm hw 0 0 i7 rfl rfl (by decide) (by decide +kernel) rfl dX7_setYarn_48 ?_
  refine k_iconstN hm 2 dX7_setYarn_51 ?_
  refine k_iload_n hm hl 2 rfl dX7_setYarn_52 ?_
  refine k_iaddN hm dX7_setYarn_53 ?_
  refine k_iload_n hm hl 3 rfl dX7_setYarn_54 ?_
  refine k_i2l hm dX7_setYarn_55 (by omega) ?_
  refine k_last hm hw 1 (wMod G D (vp_updL sa (2 + k) (lI ((x : Nat) : Int))) pa2_8 (Nat.min (pn + 1) 4) tx tn 0 ro wk mb so kd nu it ti rd ad) rfl (by omega) rfl dX7_setYarn_56 (fun H locs hw => ?_)
  refine k_iload_n hm hl 0 rfl dX7_setYarn_57 ?_
  exact k_iret (post := _) hm hQ rfl rfl hw (⟨_, _, rfl, rfl, MOk_yarn hmo hk.1 hk.2, hpa9⟩) (by omega) (by omega) dX7_setYarn_58
set_option maxHeartbeats 4000000 in
set_option maxRecDepth 100000 in
theorem c_m_setYarn_x (l : Launch) (G : kG) (D : Nat → Nat) (sa : Nat → Int64) (pa : Nat → Int64) (pn : Nat) (tx : Nat → Nat) (tn : Nat) (rf : Nat) (ro : Nat → Nat) (wk : Nat) (mb : Nat → Nat) (so : Nat) (kd : Nat → Nat) (nu : Nat → Nat) (it : Nat) (ti : Nat) (rd : Nat) (ad : Nat → Int64) (z : Int) (v : Int) (hz : ((-2147483648 ≤ z ∧ z < 2147483648) ∧ -2147483648 ≤ v ∧ v < 2147483648) ∧ ¬ ((0 ≤ z ∧ z ≤ 2) ∧ 1 ≤ v ∧ v ≤ 60)) : kCM l yX7_setYarn wsX7_setYarn 1 22 0 0 G [.ref (D 0), vZ (z), vZ (v)] (wMod G D sa pa pn tx tn rf ro wk mb so kd nu it ti rd ad) (fun vv uu => vv = some (vN (0)) ∧ uu = wMod G D sa pa pn tx tn 1 ro wk mb so kd nu it ti rd ad) := by
  refine kCM.of (cc := cX7_setYarn) (maxL := 4) (ret := (some .int)) (by decide) rfl (Nat.le_of_ble_eq_true rfl) ?_
  intro p e s m args below meth c A ls Qz hQ hin hm hw hl
  have hl : lv_has ls 4 [(0, .ref (D 0)), (1, vZ (z)), (2, vZ (v))] := hl
  have i7 : ∀ w ∈ wsX70, w ∈ wsX7_setYarn := by decide +kernel
  refine k_aload_n hm hl 0 rfl dX7_setYarn_0 ?_
  refine k_iload_n hm hl 1 rfl dX7_setYarn_1 ?_
  refine k_iconstN hm 0 dX7_setYarn_2 ?_
  refine k_iconstN hm 2 dX7_setYarn_3 ?_
  refine k_callSr (n := 3) (As := [vZ (z), vN (0), vN (2)]) (rest := [.ref (D 0)]) hm hw hl (c_m_in l G z ((0 : Nat) : Int) ((2 : Nat) : Int) (by first | assumption | omega)) gX7_setYarn_X7_in rfl (by decide +kernel) ⟨by decide, by decide⟩ [] (by decide) rfl rfl rfl (by simp [Value.category]) ⟨by decide, by decide⟩ dX7_setYarn_4 (fun v H locs hp hw => ?_)
  obtain rfl := hp
  refine W.eq (g2 := F0 m 7 ls [vB (decide (((0 : Nat) : Int) ≤ z ∧ z ≤ ((2 : Nat) : Int))), .ref (D 0)]) rfl ?_
  refine k_ifeqB (tgt := 24) hm dX7_setYarn_7 (by decide) (fun c_2 => ?_) (fun c_2 => ?_)
  · have c_2d := of_decide_eq_false c_2
    refine k_iconstN hm 1 dX7_setYarn_24 ?_
    refine k_callV (n := 1) (As := [vN (1)]) (rest := []) (wr := []) hm hw hl (c_m_throwsAt l G D sa pa pn tx tn rf ro wk mb so kd nu it ti rd ad 1 (by first | assumption | omega)) gX7_setYarn_X7_throwsAt rfl (by decide +kernel) ⟨by decide, by decide⟩ (ci := 7) rfl 0 rfl [0, 1, 2, 3, 4, 5, 6, 7, 8] [] (by decide) rfl rfl (by decide) (by decide) rfl rfl (by simp [Value.category]) ⟨by decide, by decide⟩ dX7_setYarn_25 (fun v w1 H locs hp hw => ?_)
    obtain ⟨rfl, rfl⟩ := hp
    have hw := hw.sub (ws' := wMod G D sa pa pn tx tn 1 ro wk mb so kd nu it ti rd ad) [0, 1, 2, 3, 4, 5, 6, 7, 8] (by decide) rfl
    refine W.eq (g2 := F0 m 28 ls [vB (decide (0 < 1))]) rfl ?_
    refine k_ifeqB (tgt := 33) hm dX7_setYarn_28 (by decide) (fun c_4 => absurd (of_decide_eq_false c_4) (by omega)) (fun c_4 => ?_)
    refine k_iconstN hm 0 dX7_setYarn_31 ?_
    exact k_iret (post := _) hm hQ rfl rfl hw (⟨rfl, rfl⟩) (by omega) (by omega) dX7_setYarn_32
  · have c_2d := of_decide_eq_true c_2
    have hin1 := c_2d
    refine k_iload_n hm hl 2 rfl dX7_setYarn_10 ?_
    refine k_iconstN hm 1 dX7_setYarn_11 ?_
    refine k_bipushN hm 60 dX7_setYarn_12 rfl ?_
    refine k_callSr (n := 3) (As := [vZ (v), vN (1), vN (60)]) (rest := [.ref (D 0)]) hm hw hl (c_m_in l G v ((1 : Nat) : Int) ((60 : Nat) : Int) (by first | assumption | omega)) gX7_setYarn_X7_in rfl (by decide +kernel) ⟨by decide, by decide⟩ [] (by decide) rfl rfl rfl (by simp [Value.category]) ⟨by decide, by decide⟩ dX7_setYarn_14 (fun v H locs hp hw => ?_)
    obtain rfl := hp
    refine W.eq (g2 := F0 m 17 ls [vB (decide (((1 : Nat) : Int) ≤ v ∧ v ≤ ((60 : Nat) : Int))), .ref (D 0)]) rfl ?_
    refine k_ifeqB (tgt := 24) hm dX7_setYarn_17 (by decide) (fun c_6 => ?_) (fun c_6 => False.elim (by have z9 := of_decide_eq_true c_6; omega))
    refine k_iconstN hm 1 dX7_setYarn_24 ?_
    refine k_callV (n := 1) (As := [vN (1)]) (rest := []) (wr := []) hm hw hl (c_m_throwsAt l G D sa pa pn tx tn rf ro wk mb so kd nu it ti rd ad 1 (by first | assumption | omega)) gX7_setYarn_X7_throwsAt rfl (by decide +kernel) ⟨by decide, by decide⟩ (ci := 7) rfl 0 rfl [0, 1, 2, 3, 4, 5, 6, 7, 8] [] (by decide) rfl rfl (by decide) (by decide) rfl rfl (by simp [Value.category]) ⟨by decide, by decide⟩ dX7_setYarn_25 (fun v w1 H locs hp hw => ?_)
    obtain ⟨rfl, rfl⟩ := hp
    have hw := hw.sub (ws' := wMod G D sa pa pn tx tn 1 ro wk mb so kd nu it ti rd ad) [0, 1, 2, 3, 4, 5, 6, 7, 8] (by decide) rfl
    refine W.eq (g2 := F0 m 28 ls [vB (decide (0 < 1))]) rfl ?_
    refine k_ifeqB (tgt := 33) hm dX7_setYarn_28 (by decide) (fun c_8 => absurd (of_decide_eq_false c_8) (by omega)) (fun c_8 => ?_)
    refine k_iconstN hm 0 dX7_setYarn_31 ?_
    exact k_iret (post := _) hm hQ rfl rfl hw (⟨rfl, rfl⟩) (by omega) (by omega) dX7_setYarn_32
