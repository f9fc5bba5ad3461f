set_option maxHeartbeats 8000000 in
set_option maxRecDepth 100000 in
theorem law_loop {p : Program} {l : Launch} {e : Env} {s : State} {m : MethodId} {below : List Frame} {meth : Method} {c : Code} {A : Nat → Prop} {G : kG} {Qz : State → Prop} {b Ln : Nat} {xs : Nat → Int32} {o : Nat} {P : Nat → Nat} {h : Nat} {T : Nat → Nat} {L : Nat → Nat} {M : Nat → Nat} {hs : Nat} {Q : Nat → Nat → Nat} {D : Nat → Nat} {ou : Nat} {od : Nat} (hQ : Qz = lw_Z below #[Value.ref b] s) (hA0 : A = fun q : Nat => s.heap.size ≤ q) (hm : kM p m c cL_law 9 s #[Value.ref b] wsL_law RL meth ret) (hX : va_X b Ln xs s s.heap) (hbl : b < s.heap.size) (hbA : ¬ A b) (hxs : kXs s) (hst : kSt A s s.heap) (htr : l.stackTraces = false) (hLn : Ln ≤ 2048) : ∀ (fu j c0 s0 : Nat) (gk : Nat → Nat) (gw : Nat → Nat) (gt : Nat → Nat) (gy : Nat → Nat) (R : Nat) (sp : Bool) (ak : Nat → Nat → Nat) (aw : Nat → Nat → Nat) (au : Nat → Nat → Nat) (ay : Nat → Nat → Nat) (aR : Nat → Nat) (aS : Nat → Bool) (nx : Nat) (sz : Nat) (tb : Nat → Nat) (tk : Nat → Int) (tc : Nat → Nat) (tn : Nat) (ti : Nat) (tt : Nat) (tu : Nat) (tm : Nat) (tp : Nat) (te : Int) (f : Nat → Nat) (wk : Nat) (sd : Nat) (kd : Nat) (mf : Nat → Nat) (sa : Nat → Int64) (pa : Nat → Int64) (rf7 : Nat) (ro7 : Nat → Nat) (wk7 : Nat) (mb7 : Nat → Nat) (so7 : Nat) (kd7 : Nat → Nat) (nu7 : Nat → Nat) (it7 : Nat) (ti7 : Nat) (rd7 : Nat) (ad7 : Nat → Int64) (fo : Nat → Int64) (fd7 : Nat → UInt64) (K : Nat → Nat → Nat) (w : Nat → Nat) (y : Nat → Nat) (sv : Nat → PSt) (hok : POk gk gw gt gy R K w y) (hho : HOk ak aw au ay aR aS nx sz sv) (hmo : MOk sa R sp K w y) (hpa : PaOk pa sz sv) (htn : tn ≤ 120) (htb : ∀ i, i < tn → tb i ≤ 127) (_ : 600 - j < fu) (_ : 4 * j ≤ Ln) (_ : c0 ≤ 100 + j) (_ : s0 ≤ 40000 + 6 * j) (H : Heap) (locs : List Loc) (ls : Array Slot), kW G A s (wMain G o P h T L M ++ (wPiece G P gk gw gt gy R sp ++ (wHist G h hs Q ak aw au ay aR aS nx sz ++ (wPat G T tb tk tc tn ti tt tu tm tp te ++ (wPlan G L f wk sd kd ++ (wMk G M mf ++ (wMod G D sa pa sz tb tn rf7 ro7 wk7 mb7 so7 kd7 nu7 it7 ti7 rd7 ad7 ++ ([(ou, .inl (G.2 1, 1, .inr (.inl fo)))] ++ [(od, .inl (G.2 3, 1, .inr (.inr (.inr (.inl fd7)))))])))))))) H locs → lv_has ls 9 [(0, .ref (b)), (1, .ref (o)), (2, .ref (D 0)), (3, .ref (ou)), (4, .ref (od)), (5, vN (4 * j))] → W p l e room_1 s m #[Value.ref b] below meth c H locs c0 s0 Qz (F0 m 28 ls []) := by
  intro fu
  induction fu with
  | zero => intro j c0 s0 gk gw gt gy R sp ak aw au ay aR aS nx sz tb tk tc tn ti tt tu tm tp te f wk sd kd mf sa pa rf7 ro7 wk7 mb7 so7 kd7 nu7 it7 ti7 rd7 ad7 fo fd7 K w y sv hok hho hmo hpa htn htb hfu; exact absurd hfu (Nat.not_lt_zero _)
  | succ fu ih =>
    intro j c0 s0 gk gw gt gy R sp ak aw au ay aR aS nx sz tb tk tc tn ti tt tu tm tp te f wk sd kd mf sa pa rf7 ro7 wk7 mb7 so7 kd7 nu7 it7 ti7 rd7 ad7 fo fd7 K w y sv hok hho hmo hpa htn htb hfu hj hc0 hs0 H locs ls hw hl
    refine k_iload hm hl 5 rfl dL_law_28 ?_
    refine k_aload_n hm hl 0 rfl dL_law_30 ?_
    refine k_slen hm hX hbl hbA hw (by omega) dL_law_31 ?_
    refine k_iconstN hm 4 dL_law_32 ?_
    refine k_isub hm dL_law_33 ?_
    refine k_icmpgt (tgt := 1646) hm dL_law_34 (by decide) (by omega) (fun hgt => ?_) (fun hgt => ?_)
    · refine k_iconstN hm 1 dL_law_1646 ?_
      refine W.widen (k := 601024) (n := 7293034) (by omega) (by omega) ?_
      refine va_forget (fun q hq => by have z := hw.2.2.1.2.2 q hq; rw [hA0] at z; exact z) ?_
      subst hQ
      refine W.base ?_
      refine W.eq (g2 := F0 m 1647 ls [.int 1]) rfl ?_
      exact lw_ret (Drawn.sameBut.refl s.drawn lw_cs) hm.1 hm.2.1 hm.2.2.2.2.2.1 hm.2.2.2.2.2.2 dL_law_1647
    refine k_aload_n hm hl 0 rfl dL_law_37 ?_
    refine k_iload hm hl 5 rfl dL_law_38 ?_
    refine k_sldR (i := 4 * j) hm hX hbl hbA hw (by omega) dL_law_40 ?_
    refine k_bipushN hm 31 dL_law_41 rfl ?_
    refine k_iandR hm dL_law_43 ?_
    obtain ⟨n, hn, he⟩ := i32_and (xs (4 * j))
    refine k_rwV (y := vN n) (congrArg Value.int he) ?_
    have hk : LK p l e s m #[Value.ref b] below meth c A G Qz b o P h T L M hs Q D ou od j c0 s0 := by
      intro cl sl gk gw gt gy R sp ak aw au ay aR aS nx sz tb tk tc tn ti tt tu tm tp te f wk sd kd mf sa pa rf7 ro7 wk7 mb7 so7 kd7 nu7 it7 ti7 rd7 ad7 fo fd7 K w y sv hok hho hmo hpa htn htb hcl hsl H locs ls hw hl
      refine k_iincN hm hl 5 4 rfl [(5, vN (4 * j + 4)), (0, .ref (b)), (1, .ref (o)), (2, .ref (D 0)), (3, .ref (ou)), (4, .ref (od))] (by decide) rfl dL_law_1640 (fun ls hl => ?_)
      refine k_goto (tgt := 28) hm dL_law_1643 (by decide) ?_
      exact ih (j + 1) cl sl gk gw gt gy R sp ak aw au ay aR aS nx sz tb tk tc tn ti tt tu tm tp te f wk sd kd mf sa pa rf7 ro7 wk7 mb7 so7 kd7 nu7 it7 ti7 rd7 ad7 fo fd7 K w y sv hok hho hmo hpa htn htb (by omega) (by omega) (by omega) (by omega) _ _ _ hw (lv_sub hl [1, 2, 3, 4, 5, 0] rfl)
    rcases (show n = 0 ∨ n = 1 ∨ n = 2 ∨ n = 3 ∨ n = 4 ∨ n = 5 ∨ n = 6 ∨ n = 7 ∨ n = 8 ∨ n = 9 ∨ n = 10 ∨ n = 11 ∨ n = 12 ∨ n = 13 ∨ n = 14 ∨ n = 15 ∨ n = 16 ∨ n = 17 ∨ n = 18 ∨ n = 19 ∨ n = 20 ∨ n = 21 ∨ n = 22 ∨ n = 23 ∨ n = 24 ∨ n = 25 ∨ n = 26 ∨ n = 27 ∨ n = 28 ∨ n = 29 ∨ n = 30 ∨ n = 31 by omega) with rfl | rfl | rfl | rfl | rfl | rfl | rfl | rfl | rfl | rfl | rfl | rfl | rfl | rfl | rfl | rfl | rfl | rfl | rfl | rfl | rfl | rfl | rfl | rfl | rfl | rfl | rfl | rfl | rfl | rfl | rfl | rfl
    · refine k_tsw (x := 0) (tgt := 168) hm dL_law_44 (by decide) (by decide) (by decide) rfl (by decide) ?_
      exact law_case_0 hm hX hbl hbA hxs hst htr (by omega) (by omega) hok hho hmo hpa htn htb hk hw hl
    · refine k_tsw (x := 1) (tgt := 224) hm dL_law_44 (by decide) (by decide) (by decide) rfl (by decide) ?_
      exact law_case_1 hm hX hbl hbA hxs hst htr (by omega) (by omega) hok hho hmo hpa htn htb hk hw hl
    · refine k_tsw (x := 2) (tgt := 280) hm dL_law_44 (by decide) (by decide) (by decide) rfl (by decide) ?_
      exact law_case_2 hm hX hbl hbA hxs hst htr (by omega) (by omega) hok hho hmo hpa htn htb hk hw hl
    · refine k_tsw (x := 3) (tgt := 348) hm dL_law_44 (by decide) (by decide) (by decide) rfl (by decide) ?_
      exact law_case_3 hm hX hbl hbA hxs hst htr (by omega) (by omega) hok hho hmo hpa htn htb hk hw hl
    · refine k_tsw (x := 4) (tgt := 404) hm dL_law_44 (by decide) (by decide) (by decide) rfl (by decide) ?_
      exact law_case_4 hm hX hbl hbA hxs hst htr (by omega) (by omega) hok hho hmo hpa htn htb hk hw hl
    · refine k_tsw (x := 5) (tgt := 484) hm dL_law_44 (by decide) (by decide) (by decide) rfl (by decide) ?_
      exact law_case_5 hm hX hbl hbA hxs hst htr (by omega) (by omega) hok hho hmo hpa htn htb hk hw hl
    · refine k_tsw (x := 6) (tgt := 540) hm dL_law_44 (by decide) (by decide) (by decide) rfl (by decide) ?_
      exact law_case_6 hm hX hbl hbA hxs hst htr (by omega) (by omega) hok hho hmo hpa htn htb hk hw hl
    · refine k_tsw (x := 7) (tgt := 608) hm dL_law_44 (by decide) (by decide) (by decide) rfl (by decide) ?_
      exact law_case_7 hm hX hbl hbA hxs hst htr (by omega) (by omega) hok hho hmo hpa htn htb hk hw hl
    · refine k_tsw (x := 8) (tgt := 649) hm dL_law_44 (by decide) (by decide) (by decide) rfl (by decide) ?_
      exact law_case_8 hm hX hbl hbA hxs hst htr (by omega) (by omega) hok hho hmo hpa htn htb hk hw hl
    · refine k_tsw (x := 9) (tgt := 717) hm dL_law_44 (by decide) (by decide) (by decide) rfl (by decide) ?_
      exact law_case_9 hm hX hbl hbA hxs hst htr (by omega) (by omega) hok hho hmo hpa htn htb hk hw hl
    · refine k_tsw (x := 10) (tgt := 785) hm dL_law_44 (by decide) (by decide) (by decide) rfl (by decide) ?_
      exact law_case_10 hm hX hbl hbA hxs hst htr (by omega) (by omega) hok hho hmo hpa htn htb hk hw hl
    · refine k_tsw (x := 11) (tgt := 853) hm dL_law_44 (by decide) (by decide) (by decide) rfl (by decide) ?_
      exact law_case_11 hm hX hbl hbA hxs hst htr (by omega) (by omega) hok hho hmo hpa htn htb hk hw hl
    · refine k_tsw (x := 12) (tgt := 921) hm dL_law_44 (by decide) (by decide) (by decide) rfl (by decide) ?_
      exact law_case_12 hm hX hbl hbA hxs hst htr (by omega) (by omega) hok hho hmo hpa htn htb hk hw hl
    · refine k_tsw (x := 13) (tgt := 989) hm dL_law_44 (by decide) (by decide) (by decide) rfl (by decide) ?_
      exact law_case_13 hm hX hbl hbA hxs hst htr (by omega) (by omega) hok hho hmo hpa htn htb hk hw hl
    · refine k_tsw (x := 14) (tgt := 1057) hm dL_law_44 (by decide) (by decide) (by decide) rfl (by decide) ?_
      exact law_case_14 hm hX hbl hbA hxs hst htr (by omega) (by omega) hok hho hmo hpa htn htb hk hw hl
    · refine k_tsw (x := 15) (tgt := 1125) hm dL_law_44 (by decide) (by decide) (by decide) rfl (by decide) ?_
      exact law_case_15 hm hX hbl hbA hxs hst htr (by omega) (by omega) hok hho hmo hpa htn htb hk hw hl
    · refine k_tsw (x := 16) (tgt := 1181) hm dL_law_44 (by decide) (by decide) (by decide) rfl (by decide) ?_
      exact law_case_16 hm hX hbl hbA hxs hst htr (by omega) (by omega) hok hho hmo hpa htn htb hk hw hl
    · refine k_tsw (x := 17) (tgt := 1261) hm dL_law_44 (by decide) (by decide) (by decide) rfl (by decide) ?_
      exact law_case_17 hm hX hbl hbA hxs hst htr (by omega) (by omega) hok hho hmo hpa htn htb hk hw hl
    · refine k_tsw (x := 18) (tgt := 1329) hm dL_law_44 (by decide) (by decide) (by decide) rfl (by decide) ?_
      exact law_case_18 hm hX hbl hbA hxs hst htr (by omega) (by omega) hok hho hmo hpa htn htb hk hw hl
    · refine k_tsw (x := 19) (tgt := 1397) hm dL_law_44 (by decide) (by decide) (by decide) rfl (by decide) ?_
      exact law_case_19 hm hX hbl hbA hxs hst htr (by omega) (by omega) hok hho hmo hpa htn htb hk hw hl
    · refine k_tsw (x := 20) (tgt := 1410) hm dL_law_44 (by decide) (by decide) (by decide) rfl (by decide) ?_
      exact law_case_20 hm hX hbl hbA hxs hst htr (by omega) (by omega) hok hho hmo hpa htn htb hk hw hl
    · refine k_tsw (x := 21) (tgt := 1487) hm dL_law_44 (by decide) (by decide) (by decide) rfl (by decide) ?_
      exact law_case_21 hm hX hbl hbA hxs hst htr (by omega) (by omega) hok hho hmo hpa htn htb hk hw hl
    · refine k_tsw (x := 22) (tgt := 1543) hm dL_law_44 (by decide) (by decide) (by decide) rfl (by decide) ?_
      exact law_case_22 hm hX hbl hbA hxs hst htr (by omega) (by omega) hok hho hmo hpa htn htb hk hw hl
    · refine k_tsw (x := 23) (tgt := 1556) hm dL_law_44 (by decide) (by decide) (by decide) rfl (by decide) ?_
      exact law_case_23 hm hX hbl hbA hxs hst htr (by omega) (by omega) hok hho hmo hpa htn htb hk hw hl
    · refine k_tsw (x := 24) (tgt := 1569) hm dL_law_44 (by decide) (by decide) (by decide) rfl (by decide) ?_
      exact law_case_24 hm hX hbl hbA hxs hst htr (by omega) (by omega) hok hho hmo hpa htn htb hk hw hl
    · refine k_tsw (x := 25) (tgt := 1582) hm dL_law_44 (by decide) (by decide) (by decide) rfl (by decide) ?_
      exact law_case_25 hm hX hbl hbA hxs hst htr (by omega) (by omega) hok hho hmo hpa htn htb hk hw hl
    · refine k_tsw (x := 26) (tgt := 1626) hm dL_law_44 (by decide) (by decide) (by decide) rfl (by decide) ?_
      exact law_case_26 hm hX hbl hbA hxs hst htr (by omega) (by omega) hok hho hmo hpa htn htb hk hw hl
    · refine k_tsd (x := 27) (tgt := 1640) hm dL_law_44 (by decide) (by decide) (by decide) ?_
      exact hk _ _ gk gw gt gy R sp ak aw au ay aR aS nx sz tb tk tc tn ti tt tu tm tp te f wk sd kd mf sa pa rf7 ro7 wk7 mb7 so7 kd7 nu7 it7 ti7 rd7 ad7 fo fd7 K w y sv hok hho hmo hpa htn htb (by omega) (by omega) _ _ _ hw hl
    · refine k_tsd (x := 28) (tgt := 1640) hm dL_law_44 (by decide) (by decide) (by decide) ?_
      exact hk _ _ gk gw gt gy R sp ak aw au ay aR aS nx sz tb tk tc tn ti tt tu tm tp te f wk sd kd mf sa pa rf7 ro7 wk7 mb7 so7 kd7 nu7 it7 ti7 rd7 ad7 fo fd7 K w y sv hok hho hmo hpa htn htb (by omega) (by omega) _ _ _ hw hl
    · refine k_tsd (x := 29) (tgt := 1640) hm dL_law_44 (by decide) (by decide) (by decide) ?_
      exact hk _ _ gk gw gt gy R sp ak aw au ay aR aS nx sz tb tk tc tn ti tt tu tm tp te f wk sd kd mf sa pa rf7 ro7 wk7 mb7 so7 kd7 nu7 it7 ti7 rd7 ad7 fo fd7 K w y sv hok hho hmo hpa htn htb (by omega) (by omega) _ _ _ hw hl
    · refine k_tsd (x := 30) (tgt := 1640) hm dL_law_44 (by decide) (by decide) (by decide) ?_
      exact hk _ _ gk gw gt gy R sp ak aw au ay aR aS nx sz tb tk tc tn ti tt tu tm tp te f wk sd kd mf sa pa rf7 ro7 wk7 mb7 so7 kd7 nu7 it7 ti7 rd7 ad7 fo fd7 K w y sv hok hho hmo hpa htn htb (by omega) (by omega) _ _ _ hw hl
    · refine k_tsd (x := 31) (tgt := 1640) hm dL_law_44 (by decide) (by decide) (by decide) ?_
      exact hk _ _ gk gw gt gy R sp ak aw au ay aR aS nx sz tb tk tc tn ti tt tu tm tp te f wk sd kd mf sa pa rf7 ro7 wk7 mb7 so7 kd7 nu7 it7 ti7 rd7 ad7 fo fd7 K w y sv hok hho hmo hpa htn htb (by omega) (by omega) _ _ _ hw hl
set_option maxHeartbeats 8000000 in
set_option maxRecDepth 100000 in
theorem whole_start {p : Program} {e : Env} {s : State} {m : MethodId} {below : List Frame} {meth : Method} {c : Code} (l : Launch) (hflags : l.flags = flags0) {b L : Nat} {xs : Nat → Int32} (hL : L ≤ 2048) (C0 : lw_At p s m meth c b L xs) : W p l e room_1 s m #[Value.ref b] below meth c s.heap [] 0 0 (lw_Z below #[Value.ref b] s) (entryFrame m ([Value.ref b] : List Value).toArray 9) := by
  obtain ⟨hx, hb, hr, hml, hown, hts0, hX, hbl, hlocks, hgv⟩ := id C0
  have htr : l.stackTraces = false := by unfold Launch.stackTraces; rw [hflags]; decide
  obtain ⟨G, hK⟩ := law_K hts0
  obtain ⟨hxs, hst⟩ := law_X hts0 hgv
  obtain ⟨A, hA0⟩ : ∃ A : Nat → Prop, A = fun q : Nat => s.heap.size ≤ q := ⟨_, rfl⟩
  rw [← hA0] at hst
  have hbA : ¬ A b := by rw [hA0]; exact Nat.not_le.mpr hbl
  have hm : kM p m c cL_law 9 s #[Value.ref b] wsL_law RL meth ret := ⟨hx, hb, hml, hown, fun w h => hts0 w (wsL_law_in w h), hr, hlocks⟩
  have hw : kW G A s [] s.heap [] := ⟨fun k q h => by simp at h, ⟨fun i j p q h => by simp at h, fun k q h => by simp at h⟩, va_S.rf, hK, fun q h => by rw [hA0]; exact h⟩
  have hl := lv_entry ([.ref b]) (n := 9) (Nat.le_of_ble_eq_true rfl)
  rw [lg_entry_eq]
  generalize (lg_sl ([.ref b]) ++ List.replicate (9 - (lg_sl ([.ref b])).length) Slot.unset).toArray = ls at hl ⊢
  have hl : lv_has ls 9 [(0, .ref (b))] := hl
  have i6 := inlX6
  have i7 := inlX7
  refine k_new (T := TX6) (fs := [.null, .null, .null, .null, .null]) hm hw i6 tyX6 tyX6_ok (by decide +kernel) (by decide +kernel) (by decide +kernel) (ci := 6) rfl (fun j hj => by rcases (show j = 0 ∨ j = 1 ∨ j = 2 ∨ j = 3 ∨ j = 4 by omega) with rfl | rfl | rfl | rfl | rfl <;> rfl) (Nat.le_of_ble_eq_true rfl) (Nat.le_of_ble_eq_true rfl) dL_law_0 (fun q_1 H hw => ?_)
  have hw : kW G A s ([(q_1, .inr (6, [.null, .null, .null, .null, .null]))]) _ _ := hw
  refine k_dup hm dL_law_3 rfl ?_
  refine k_callI (n := 0) (As := []) (rest := [.ref (q_1)]) (wr := []) hm hw hl (c_main_init l G q_1) gL_law_X6_init rfl (by decide +kernel) (by decide +kernel) (by decide +kernel) rfl (by decide +kernel) ⟨by decide, by decide⟩ [0] [] (by decide) rfl rfl (by decide) (by decide) rfl rfl (by simp [Value.category]) ⟨Nat.le_of_ble_eq_true rfl, Nat.le_of_ble_eq_true rfl⟩ dL_law_4 (fun v w1 H locs hp hw => ?_)
  obtain ⟨P_3, h_4, hs_5, Q_6, T_7, L_8, M_9, gk2_10, gw2_11, gt2_12, rfl, rfl, hok_13⟩ := hp
  have hw : kW G A s (wMain G q_1 P_3 h_4 T_7 L_8 M_9 ++ (wPiece G P_3 gk2_10 gw2_11 gt2_12 yy0 1 false ++ (wHist G h_4 hs_5 Q_6 (fun _ _ => 0) (fun _ _ => 0) (fun _ _ => 0) (fun _ _ => 0) (fun _ => 0) (fun _ => false) 0 0 ++ (wPat G T_7 (fun _ => 0) (fun _ => 0) (fun _ => 0) 0 0 0 0 0 0 0 ++ (wPlan G L_8 (fun _ => 0) 0 0 0 ++ wMk G M_9 (fun _ => 0)))))) _ _ := hw
  refine W.eq (g2 := F0 m 7 ls [.ref (q_1)]) rfl ?_
  refine k_astore_n hm hl [(1, .ref (q_1)), (0, .ref (b))] (by decide) rfl dL_law_7 (fun ls hl => ?_)
  refine k_new (T := TX7) (fs := [.null, .null, vN (0), .null, vN (0), vN (0), .null, vN (0), .null, vN (0), .null, .null, vN (0), vN (0), vN (0), .null]) hm hw i7 tyX7 tyX7_ok (by decide +kernel) (by decide +kernel) (by decide +kernel) (ci := 7) rfl (fun j hj => by rcases (show j = 0 ∨ j = 1 ∨ j = 2 ∨ j = 3 ∨ j = 4 ∨ j = 5 ∨ j = 6 ∨ j = 7 ∨ j = 8 ∨ j = 9 ∨ j = 10 ∨ j = 11 ∨ j = 12 ∨ j = 13 ∨ j = 14 ∨ j = 15 by omega) with rfl | rfl | rfl | rfl | rfl | rfl | rfl | rfl | rfl | rfl | rfl | rfl | rfl | rfl | rfl | rfl <;> rfl) (Nat.le_of_ble_eq_true rfl) (Nat.le_of_ble_eq_true rfl) dL_law_8 (fun q_14 H hw => ?_)
  have hw : kW G A s (wMain G q_1 P_3 h_4 T_7 L_8 M_9 ++ (wPiece G P_3 gk2_10 gw2_11 gt2_12 yy0 1 false ++ (wHist G h_4 hs_5 Q_6 (fun _ _ => 0) (fun _ _ => 0) (fun _ _ => 0) (fun _ _ => 0) (fun _ => 0) (fun _ => false) 0 0 ++ (wPat G T_7 (fun _ => 0) (fun _ => 0) (fun _ => 0) 0 0 0 0 0 0 0 ++ (wPlan G L_8 (fun _ => 0) 0 0 0 ++ (wMk G M_9 (fun _ => 0) ++ [(q_14, .inr (7, [.null, .null, vN (0), .null, vN (0), vN (0), .null, vN (0), .null, vN (0), .null, .null, vN (0), vN (0), vN (0), .null]))])))))) _ _ := hw
  refine k_dup hm dL_law_11 rfl ?_
  refine k_callI (n := 0) (As := []) (rest := [.ref (q_14)]) (wr := [(q_1, .inr (6, [.ref (P_3 0), .ref (h_4), .ref (T_7 0), .ref (L_8 0), .ref (M_9 0)])), (P_3 0, .inr (4, [.ref (P_3 1), .ref (P_3 3), .ref (P_3 5), .ref (P_3 7), vN (1), vB (false)])), (P_3 1, .inr (2, [.ref (P_3 2)])), (P_3 2, .inl (G.2 0, 4800, .inl (nF gk2_10))), (P_3 3, .inr (2, [.ref (P_3 4)])), (P_3 4, .inl (G.2 0, 40, .inl (nF gw2_11))), (P_3 5, .inr (2, [.ref (P_3 6)])), (P_3 6, .inl (G.2 0, 40, .inl (nF gt2_12))), (P_3 7, .inr (2, [.ref (P_3 8)])), (P_3 8, .inl (G.2 0, 3, .inl (nF yy0))), (h_4, .inr (0, [.ref (hs_5), vN (0), vN (0)])), (hs_5, .inl (G.2 2, 4, .inr (.inr (.inr (.inr (fun j => some (Q_6 j 0))))))), ((Q_6 0) 0, .inr (4, [.ref ((Q_6 0) 1), .ref ((Q_6 0) 3), .ref ((Q_6 0) 5), .ref ((Q_6 0) 7), vN ((fun _ => 0) 0), vB ((fun _ => false) 0)])), ((Q_6 0) 1, .inr (2, [.ref ((Q_6 0) 2)])), ((Q_6 0) 2, .inl (G.2 0, 4800, .inl (nF ((fun _ _ => 0) 0)))), ((Q_6 0) 3, .inr (2, [.ref ((Q_6 0) 4)])), ((Q_6 0) 4, .inl (G.2 0, 40, .inl (nF ((fun _ _ => 0) 0)))), ((Q_6 0) 5, .inr (2, [.ref ((Q_6 0) 6)])), ((Q_6 0) 6, .inl (G.2 0, 40, .inl (nF ((fun _ _ => 0) 0)))), ((Q_6 0) 7, .inr (2, [.ref ((Q_6 0) 8)])), ((Q_6 0) 8, .inl (G.2 0, 3, .inl (nF ((fun _ _ => 0) 0)))), ((Q_6 1) 0, .inr (4, [.ref ((Q_6 1) 1), .ref ((Q_6 1) 3), .ref ((Q_6 1) 5), .ref ((Q_6 1) 7), vN ((fun _ => 0) 1), vB ((fun _ => false) 1)])), ((Q_6 1) 1, .inr (2, [.ref ((Q_6 1) 2)])), ((Q_6 1) 2, .inl (G.2 0, 4800, .inl (nF ((fun _ _ => 0) 1)))), ((Q_6 1) 3, .inr (2, [.ref ((Q_6 1) 4)])), ((Q_6 1) 4, .inl (G.2 0, 40, .inl (nF ((fun _ _ => 0) 1)))), ((Q_6 1) 5, .inr (2, [.ref ((Q_6 1) 6)])), ((Q_6 1) 6, .inl (G.2 0, 40, .inl (nF ((fun _ _ => 0) 1)))), ((Q_6 1) 7, .inr (2, [.ref ((Q_6 1) 8)])), ((Q_6 1) 8, .inl (G.2 0, 3, .inl (nF ((fun _ _ => 0) 1)))), ((Q_6 2) 0, .inr (4, [.ref ((Q_6 2) 1), .ref ((Q_6 2) 3), .ref ((Q_6 2) 5), .ref ((Q_6 2) 7), vN ((fun _ => 0) 2), vB ((fun _ => false) 2)])), ((Q_6 2) 1, .inr (2, [.ref ((Q_6 2) 2)])), ((Q_6 2) 2, .inl (G.2 0, 4800, .inl (nF ((fun _ _ => 0) 2)))), ((Q_6 2) 3, .inr (2, [.ref ((Q_6 2) 4)])), ((Q_6 2) 4, .inl (G.2 0, 40, .inl (nF ((fun _ _ => 0) 2)))), ((Q_6 2) 5, .inr (2, [.ref ((Q_6 2) 6)])), ((Q_6 2) 6, .inl (G.2 0, 40, .inl (nF ((fun _ _ => 0) 2)))), ((Q_6 2) 7, .inr (2, [.ref ((Q_6 2) 8)])), ((Q_6 2) 8, .inl (G.2 0, 3, .inl (nF ((fun _ _ => 0) 2)))), ((Q_6 3) 0, .inr (4, [.ref ((Q_6 3) 1), .ref ((Q_6 3) 3), .ref ((Q_6 3) 5), .ref ((Q_6 3) 7), vN ((fun _ => 0) 3), vB ((fun _ => false) 3)])), ((Q_6 3) 1, .inr (2, [.ref ((Q_6 3) 2)])), ((Q_6 3) 2, .inl (G.2 0, 4800, .inl (nF ((fun _ _ => 0) 3)))), ((Q_6 3) 3, .inr (2, [.ref ((Q_6 3) 4)])), ((Q_6 3) 4, .inl (G.2 0, 40, .inl (nF ((fun _ _ => 0) 3)))), ((Q_6 3) 5, .inr (2, [.ref ((Q_6 3) 6)])), ((Q_6 3) 6, .inl (G.2 0, 40, .inl (nF ((fun _ _ => 0) 3)))), ((Q_6 3) 7, .inr (2, [.ref ((Q_6 3) 8)])), ((Q_6 3) 8, .inl (G.2 0, 3, .inl (nF ((fun _ _ => 0) 3)))), (T_7 0, .inr (3, [.ref (T_7 1), .ref (T_7 3), .ref (T_7 5), vN (0), vN (0), vN (0), vN (0), vN (0), vN (0), vZ (0)])), (T_7 1, .inr (2, [.ref (T_7 2)])), (T_7 2, .inl (G.2 0, 120, .inl (nF (fun _ => 0)))), (T_7 3, .inr (2, [.ref (T_7 4)])), (T_7 4, .inl (G.2 0, 60, .inl (iF (fun _ => 0)))), (T_7 5, .inr (2, [.ref (T_7 6)])), (T_7 6, .inl (G.2 0, 60, .inl (nF (fun _ => 0)))), (L_8 0, .inr (5, [.ref (L_8 1), vN (0), vN (0), vN (0)])), (L_8 1, .inr (2, [.ref (L_8 2)])), (L_8 2, .inl (G.2 0, 120, .inl (nF (fun _ => 0)))), (M_9 0, .inr (1, [.ref (M_9 1)])), (M_9 1, .inr (2, [.ref (M_9 2)])), (M_9 2, .inl (G.2 0, 120, .inl (nF (fun _ => 0))))]) hm hw hl (c_m_init l G q_14) gL_law_X7_init rfl (by decide +kernel) (by decide +kernel) (by decide +kernel) rfl (by decide +kernel) ⟨by decide, by decide⟩ [61] [0, 1, 2, 3, 4, 5, 6, 7, 8, 9, 10, 11, 12, 13, 14, 15, 16, 17, 18, 19, 20, 21, 22, 23, 24, 25, 26, 27, 28, 29, 30, 31, 32, 33, 34, 35, 36, 37, 38, 39, 40, 41, 42, 43, 44, 45, 46, 47, 48, 49, 50, 51, 52, 53, 54, 55, 56, 57, 58, 59, 60] (by decide) rfl rfl (by decide) (by decide) rfl rfl (by simp [Value.category]) ⟨Nat.le_of_ble_eq_true rfl, Nat.le_of_ble_eq_true rfl⟩ dL_law_12 (fun v w1 H locs hp hw => ?_)
  obtain ⟨D_16, sa2_17, rfl, rfl, hP0_18, hmo_19⟩ := hp
  have hw : kW G A s (wMain G q_1 P_3 h_4 T_7 L_8 M_9 ++ (wPiece G P_3 gk2_10 gw2_11 gt2_12 yy0 1 false ++ (wHist G h_4 hs_5 Q_6 (fun _ _ => 0) (fun _ _ => 0) (fun _ _ => 0) (fun _ _ => 0) (fun _ => 0) (fun _ => false) 0 0 ++ (wPat G T_7 (fun _ => 0) (fun _ => 0) (fun _ => 0) 0 0 0 0 0 0 0 ++ (wPlan G L_8 (fun _ => 0) 0 0 0 ++ (wMk G M_9 (fun _ => 0) ++ wMod G D_16 sa2_17 (fun _ => 0) 0 (fun _ => 0) 0 0 (fun _ => 0) 0 (fun _ => 0) 0 (fun _ => 0) (fun _ => 0) 0 0 0 (fun _ => 0))))))) _ _ := hw
  refine W.eq (g2 := F0 m 15 ls [.ref (q_14)]) rfl ?_
  have hmo9 := hmo_19
  have hwN := hw
  subst hP0_18
  have hw := hwN
  refine k_astore_n hm hl [(2, .ref (D_16 0)), (1, .ref (q_1)), (0, .ref (b))] (by decide) rfl dL_law_15 (fun ls hl => ?_)
  refine k_iconstN hm 1 dL_law_16 ?_
  refine k_newL (n := 1) hm hw (by decide +kernel) (by omega) (Nat.le_of_ble_eq_true rfl) (Nat.le_of_ble_eq_true rfl) dL_law_17 (fun q_20 H hw => ?_)
  have hw : kW G A s (wMain G q_1 P_3 h_4 T_7 L_8 M_9 ++ (wPiece G P_3 gk2_10 gw2_11 gt2_12 yy0 1 false ++ (wHist G h_4 hs_5 Q_6 (fun _ _ => 0) (fun _ _ => 0) (fun _ _ => 0) (fun _ _ => 0) (fun _ => 0) (fun _ => false) 0 0 ++ (wPat G T_7 (fun _ => 0) (fun _ => 0) (fun _ => 0) 0 0 0 0 0 0 0 ++ (wPlan G L_8 (fun _ => 0) 0 0 0 ++ (wMk G M_9 (fun _ => 0) ++ (wMod G D_16 sa2_17 (fun _ => 0) 0 (fun _ => 0) 0 0 (fun _ => 0) 0 (fun _ => 0) 0 (fun _ => 0) (fun _ => 0) 0 0 0 (fun _ => 0) ++ [(q_20, .inl (G.2 1, 1, .inr (.inl (fun _ => 0))))]))))))) _ _ := hw
  refine k_astore_n hm hl [(3, .ref (q_20)), (2, .ref (D_16 0)), (1, .ref (q_1)), (0, .ref (b))] (by decide) rfl dL_law_19 (fun ls hl => ?_)
  refine k_iconstN hm 1 dL_law_20 ?_
  refine k_newD (n := 1) hm hw (by decide +kernel) (by omega) (Nat.le_of_ble_eq_true rfl) (Nat.le_of_ble_eq_true rfl) dL_law_21 (fun q_21 H hw => ?_)
  have hw : kW G A s (wMain G q_1 P_3 h_4 T_7 L_8 M_9 ++ (wPiece G P_3 gk2_10 gw2_11 gt2_12 yy0 1 false ++ (wHist G h_4 hs_5 Q_6 (fun _ _ => 0) (fun _ _ => 0) (fun _ _ => 0) (fun _ _ => 0) (fun _ => 0) (fun _ => false) 0 0 ++ (wPat G T_7 (fun _ => 0) (fun _ => 0) (fun _ => 0) 0 0 0 0 0 0 0 ++ (wPlan G L_8 (fun _ => 0) 0 0 0 ++ (wMk G M_9 (fun _ => 0) ++ (wMod G D_16 sa2_17 (fun _ => 0) 0 (fun _ => 0) 0 0 (fun _ => 0) 0 (fun _ => 0) 0 (fun _ => 0) (fun _ => 0) 0 0 0 (fun _ => 0) ++ ([(q_20, .inl (G.2 1, 1, .inr (.inl (fun _ => 0))))] ++ [(q_21, .inl (G.2 3, 1, .inr (.inr (.inr (.inl (fun _ => 0))))))])))))))) _ _ := hw
  refine k_astore hm hl [(4, .ref (q_21)), (3, .ref (q_20)), (2, .ref (D_16 0)), (1, .ref (q_1)), (0, .ref (b))] (by decide) rfl dL_law_23 (fun ls hl => ?_)
  refine k_iconstN hm 0 dL_law_25 ?_
  refine k_istore hm hl [(5, vN (0)), (4, .ref (q_21)), (3, .ref (q_20)), (2, .ref (D_16 0)), (1, .ref (q_1)), (0, .ref (b))] (by decide) rfl dL_law_26 (fun ls hl => ?_)
  exact law_loop (G := G) (Ln := L) rfl hA0 hm hX hbl hbA hxs hst htr hL 601 0 _ _ gk2_10 gw2_11 gt2_12 yy0 1 false (fun _ _ => 0) (fun _ _ => 0) (fun _ _ => 0) (fun _ _ => 0) (fun _ => 0) (fun _ => false) 0 0 (fun _ => 0) (fun _ => 0) (fun _ => 0) 0 0 0 0 0 0 0 (fun _ => 0) 0 0 0 (fun _ => 0) sa2_17 (fun _ => 0) 0 (fun _ => 0) 0 (fun _ => 0) 0 (fun _ => 0) (fun _ => 0) 0 0 0 (fun _ => 0) (fun _ => 0) (fun _ => 0) (fun _ _ => 0) (fun _ => 6) yy0 (fun _ => (0, false, fun _ _ => 0, fun _ => 0, fun _ => 0)) hok_13 ⟨by decide, by decide, fun i hi => absurd hi (Nat.not_lt_zero _)⟩ hmo9 ⟨by decide, fun i hi => absurd hi (Nat.not_lt_zero _)⟩ (by decide) (fun i hi => absurd hi (Nat.not_lt_zero _)) (by decide) (by omega) (by decide) (by decide) _ _ _ hw (lv_sub hl [5, 4, 3, 2, 1, 0] rfl)
set_option maxHeartbeats 4000000 in
theorem lw_walk (l : Launch) (hflags : l.flags = flags0) (b : Addr) (xs : List Int32) : MetFree l x (headSpec (Jvm.Cond.code x code maxLocals ret :: tables_1) room_1) (lw_P b xs) (fun _ _ _ _ _ => True) lw_Q := by
  refine MetFree.of_bodyS (code := code) (maxLocals := maxLocals) (ret := ret) (by decide) ?_ ?_
  · intro args s m h hn
    obtain ⟨meth, c, h1, h2, h3, h4, h5, h6, -, -⟩ := Cond.code_spec hn (atoms_spec (ws := Jvm.Cond.code x code maxLocals ret :: tables_1) h _ List.mem_cons_self)
    exact ⟨meth, c, h1, h2, h3, h4, h5, h6⟩
  · intro p e s m args below meth c s₁ B hml0 hP _
    obtain ⟨rfl, hx, hbd, hgv⟩ := hP
    obtain ⟨scr, harrAt, hlist, hof, hsmall⟩ := hx
    obtain ⟨hcb, hkn, -, -⟩ := State.arrayAt?_spec harrAt
    have hown : s.vm.findClass R_law = some m.cls := findClass_of_methodNamed B.named
    have hts0 : ∀ c ∈ (Jvm.Cond.code x code maxLocals ret :: tables_1), c.before #[Value.ref b] s = true := atoms_spec (ws := Jvm.Cond.code x code maxLocals ret :: tables_1) B.pre
    have hts : ∀ w ∈ lw_tbl, w.before #[Value.ref b] s = true := k2_hts_sels lw_privs (fun w hw => hts0 w (List.mem_cons_of_mem _ hw)) lw_privs_ok
    have hml : c.maxLocals = 9 := B.maxLocals_eq (hts0 _ List.mem_cons_self)
    have X₀ : Stand p l e room_1 s m #[Value.ref b] below meth c s₁ [] 0 0 := Stand.of_body B
    have hh0 : s₁.heap = s.heap := by rw [B.state]; rfl
    have hsz : scr.slots.size = xs.length := by rw [← Array.length_toList, hlist, List.length_map]
    have hval : ∀ j : Nat, j < xs.length → scr.slots[j]? = some (.int (xs.getD j 0)) := fun j hj => by
      rw [← Array.getElem?_toList, hlist]
      simp [hj]
    have hbl : b < s.heap.size := (Array.getElem?_eq_some_iff.mp hcb).1
    have hX : va_X b xs.length (fun j => xs.getD j 0) s s.heap := ⟨scr, hcb, hof, hkn, hsz, hval⟩
    have K : W p l e room_1 s m #[Value.ref b] below meth c s₁.heap [] 0 0 (lw_Z below #[Value.ref b] s) (entryFrame m ([Value.ref b] : List Value).toArray 9) := by
      rw [hh0]
      exact whole_start l hflags hbd ⟨B.exec, B.bytes, B.returns, hml, hown, hts, hX, hbl, B.notSynchronized, hgv⟩
    obtain ⟨t, a1, o, b1, b2, b3⟩ := K s₁ rfl X₀
    exact ⟨t, o, a1, b1, b2, b3⟩
theorem lw_pre_spec {args : Array Value} {s : State} (h : (Jvm.Cond.and given_1 narrow_1).before args s = true) (hr : rest_1_c.before args s = true) : ∃ (b : Addr) (xs : List Int32), lw_P b xs args s := by
  have hs := flat_of_before _ h
  have hq := flat_of_before _ hr
  have hc : (Cond.count 1).before args s = true := hs _ (by decide +kernel)
  have harr : (Cond.arrayOf (.arg 0) .int).before args s = true := hs _ (by decide +kernel)
  have hle : (Cond.le (.length (.arg 0)) (.int 2048)).before args s = true := hs _ (by decide +kernel)
  have hlen : (Cond.isInt (.length (.arg 0))).before args s = true := hq _ (by decide +kernel)
  have hall : (Cond.all (.arg 0) (.isInt (.elem (.arg 0) (.index 0)))).before args s = true := hq _ (by decide +kernel)
  obtain ⟨b, xs, hb, hx⟩ := State.ints_of_pre rfl harr hlen hall
  have hsm : xs.length < 2 ^ 31 := hx.choose_spec.2.2.2
  have hev : (Term.length (.arg 0)).eval args s none [] s = some (.int xs.length.toInt32) := hx.length_eval hb
  have hv := Cond.le_ints hev (show (Term.int 2048).eval args s none [] s = some (.int 2048) from rfl)
  have hd : xs.length.toInt32 ≤ 2048 := by
    simpa [Cond.before, Cond.holds, hv] using hle
  have hN : xs.length ≤ 2048 := (Int32.ofNat_le_ofNat hsm (by decide)).mp (show Int32.ofNat xs.length ≤ Int32.ofNat 2048 from hd)
  exact ⟨b, xs, Cond.one_arg hc (show args[0]? = some (.ref b) from hb), hx, hN, h⟩
theorem lw_comes (l : Launch) (hflags : l.flags = flags0) : Comes l x (Jvm.Cond.code x code maxLocals ret :: tables_1) room_1 (fun tb e args s => Calls_1 tb e args s ∧ rest_1 tb e args s ∧ Pre_1 tb e args s)
    (fun _ _ args s o t => lw_Q args s o t) := by
  intro p e ha hc hk s m args below hf hfit hheap happ hpre
  obtain ⟨b, xs, hP⟩ := lw_pre_spec hpre.2.2 hpre.2.1
  obtain ⟨k, o, h1, h2, h3, hQ⟩ := lw_walk l hflags b xs p e ha hc hk s m args below hf ((Spec.applies_iff_loose hf).mp happ).1 hP trivial
  exact ⟨k, o, h1, h2, h3, hQ⟩
theorem lw_frame {s t : State} {o : Outcome} {args : Array Value} (h : State.butDraws s t lw_cs (fun t1 => Framed s o t1 [] 601024 7293034)) :
    State.butDraws s t [Jvm.Choice.named "NaN.bits"] (fun t1 => Framed s o t1 (fieldLocs frame_1_writes args s ++ arrayLocs frame_1_arrays args s ++ staticLocs frame_1_statics s) 601024 7293034) := h
theorem lw_limb (L : Cond) (hL : ∀ (args : Array Value) (s t : State), L.after args s (.returned (some (.int 1))) t = true) :
    ArmFor flags0 classFile x code maxLocals ret World_1 tables_1 room_1 Calls_1 rest_1 Pre_1
      (fun tb e a s o t => postC L tb e a s o t ∧ State.butDraws s t [Jvm.Choice.named "NaN.bits"] (fun t1 => Framed s o t1 (fieldLocs frame_1_writes a s ++ arrayLocs frame_1_arrays a s ++ staticLocs frame_1_statics s) 601024 7293034)) := by
  intro l hflags _ _ p e ha hc hk s m args below hf hfit hheap happ hpre
  obtain ⟨k, o, h1, h2, h3, rfl, hF⟩ := lw_comes l hflags p e ha hc hk s m args below hf hfit hheap happ hpre
  exact ⟨k, _, h1, h2, h3, hL args s _, lw_frame hF⟩
theorem i_vc : Claimed_1_1 ∧ Claimed_1_2 := ⟨lw_limb limb_1_1 (fun args s t => by simp [limb_1_1, Cond.after, Cond.holds, Cond.value]), lw_limb limb_1_2 (fun args s t => Cond.after_iff.mpr (by
  first | (rw [show limb_1_2 = Cond.eq .result (.int 1) from rfl, Cond.eq_ints (x := 1) (y := 1) rfl rfl]; simp; done) | (simp [limb_1_2, Cond.value, Term.eval]; done)))⟩

