section KROWZ
variable {p : Program} {l : Launch} {e : Env} {R : Room} {s : State} {m : MethodId} {args : Array Value} {below : List Frame} {meth : Method} {c : Code} {H : Heap} {locs : List Loc} {cells slots : Nat} {Q : State → Prop}
variable {cc : ByteArray} {pc nL : Nat} {ls : Array Slot} {rest : List Value} {Ts : List Cond} {own : String} {ret : Option FieldType} {G : kG} {A : Nat → Prop} {ws : va_W} {ll : List (Nat × Value)}
theorem rem2_t : ∀ q : Fin 261, ∃ z : Fin 3, iI ((q.val : Int) - 130) - iI ((q.val : Int) - 130) / iI ((2 : Nat) : Int) * iI ((2 : Nat) : Int) = iI ((z.val : Int) - 1) ∧ ((z.val : Int) - 1 = 0 ↔ ((q.val : Int) - 130) % 2 = 0) := by decide +kernel
theorem rem2 {x : Int} (h : -130 ≤ x ∧ x ≤ 130) : ∃ z : Int, iI x - iI x / iI ((2 : Nat) : Int) * iI ((2 : Nat) : Int) = iI z ∧ (-1 ≤ z ∧ z ≤ 1) ∧ (z = 0 ↔ x % 2 = 0) := by
  obtain ⟨z, h1, h2⟩ := rem2_t ⟨(x + 130).toNat, by omega⟩
  have e : (((x + 130).toNat : Nat) : Int) - 130 = x := by omega
  simp only [e] at h1 h2
  exact ⟨(z.val : Int) - 1, h1, by have := z.isLt; omega, h2⟩
theorem k_irem2 (hm : kM p m c cc nL s args Ts own meth ret) {x : Int} (hdg : decode cc pc = .ok (.irem, 1)) (h : -130 ≤ x ∧ x ≤ 130) (k : ∀ z : Int, (-1 ≤ z ∧ z ≤ 1) → (z = 0 ↔ x % 2 = 0) → W p l e R s m args below meth c H locs cells slots Q (F0 m (pc + 1) ls (.int (iI z) :: rest))) : W p l e R s m args below meth c H locs cells slots Q (F0 m pc ls (.int (iI ((2 : Nat) : Int)) :: .int (iI x) :: rest)) := by
  obtain ⟨z, h1, h2, h3⟩ := rem2 h
  exact lv_irem hm.1 hm.2.1 hdg (iI_ne0 (by omega) (by omega)) (by rw [h1]; exact k z h2 h3)
end KROWZ
theorem PVd_add {R m : Nat} {K : Nat → Nat → Nat} {w y row : Nat → Nat} (hv : PVd R K w y) (hR : R < 40) (h1 : 1 ≤ m ∧ m ≤ 120) (h2 : ∀ i, i < m → row i ≤ 2) (h3 : 3 ≤ sumM row m ∧ sumM row m ≤ 120) (h4 : sumU row m = sumM (K (R - 1)) (w (R - 1))) : PVd (R + 1) (fup K R row) (fup w R m) y := by
  obtain ⟨v1, v2, v3, v4, v5⟩ := hv
  refine ⟨by omega, fun r hr => ?_, fun r hr => ?_, v4, ?_⟩
  · by_cases q : r = R
    · subst q; simp only [fup_s]; exact ⟨h1, h3, h2⟩
    · simp only [fup_n q]; exact v2 r (by omega)
  · by_cases q : r + 1 = R
    · have q2 : r = R - 1 := by omega
      rw [q]; simp only [fup_s]; rw [fup_n (by omega), fup_n (by omega), h4, q2]
    · rw [fup_n q, fup_n q, fup_n (by omega), fup_n (by omega)]; exact v3 r (by omega)
  · rw [fup_n (by omega), fup_n (by omega)]; exact v5
set_option maxHeartbeats 32000000 in
set_option maxRecDepth 100000 in
theorem c_l_acts (l : Launch) (G : kG) (o : Nat) (P : Nat → Nat) (h : Nat) (T : Nat → Nat) (L : Nat → Nat) (M : Nat → Nat) (hs : Nat) (Q : Nat → Nat → Nat) (ga : Nat) (ma : Nat) (wa : Nat) (gk : Nat → Nat) (gw : Nat → Nat) (gt : Nat → Nat) (gy : Nat → Nat) (R : Nat) (sp : Bool) (ak : Nat → Nat → Nat) (aw : Nat → Nat → Nat) (au : Nat → Nat → Nat) (ay : Nat → Nat → Nat) (aR : Nat → Nat) (aS : Nat → Bool) (nx : Nat) (sz : Nat) (f : Nat → Nat) (wk : Nat) (sd : Nat) (kd : Nat) (mf : Nat → Nat) (gf : Nat → Nat) (mg : Nat → Nat) (wf : Nat → Int64) (K : Nat → Nat → Nat) (w : Nat → Nat) (y : Nat → Nat) (sv : Nat → PSt) (z : Int32) (htr : l.stackTraces = false) (hok : POk gk gw gt gy R K w y) (hho : HOk ak aw au ay aR aS nx sz sv) (hlo : LOk gf mg wf R sp K w y) : kCX l yL_acts wsL_acts 10 175 3 18 G [.ref (o), .ref (ga), .ref (ma), .ref (wa), .int (z)] (wMain G o P h T L M ++ (wPiece G P gk gw gt gy R sp ++ (wHist G h hs Q ak aw au ay aR aS nx sz ++ (wPlan G L f wk sd kd ++ (wMk G M mf ++ ([(ga, .inl (G.2 0, 5, .inl (nF gf)))] ++ ([(ma, .inl (G.2 0, 16, .inl (nF mg)))] ++ [(wa, .inl (G.2 1, 64, .inr (.inl wf)))]))))))) (fun vv uu => ∃ (gk2 : Nat → Nat), ∃ (gw2 : Nat → Nat), ∃ (gt2 : Nat → Nat), ∃ (gy2 : Nat → Nat), ∃ (R2 : Nat), ∃ (sp2 : Bool), ∃ (ak2 : Nat → Nat → Nat), ∃ (aw2 : Nat → Nat → Nat), ∃ (au2 : Nat → Nat → Nat), ∃ (ay2 : Nat → Nat → Nat), ∃ (aR2 : Nat → Nat), ∃ (aS2 : Nat → Bool), ∃ (nx2 : Nat), ∃ (sz2 : Nat), ∃ (f2 : Nat → Nat), ∃ (wk2 : Nat), ∃ (sd2 : Nat), ∃ (kd2 : Nat), ∃ (mf2 : Nat → Nat), ∃ (gf2 : Nat → Nat), ∃ (mg2 : Nat → Nat), ∃ (wf2 : Nat → Int64), ∃ (K2 : Nat → Nat → Nat), ∃ (w2 : Nat → Nat), ∃ (y2 : Nat → Nat), ∃ (sv2 : Nat → PSt), vv = some (vB (true)) ∧ uu = wMain G o P h T L M ++ (wPiece G P gk2 gw2 gt2 gy2 R2 sp2 ++ (wHist G h hs Q ak2 aw2 au2 ay2 aR2 aS2 nx2 sz2 ++ (wPlan G L f2 wk2 sd2 kd2 ++ (wMk G M mf2 ++ ([(ga, .inl (G.2 0, 5, .inl (nF gf2)))] ++ ([(ma, .inl (G.2 0, 16, .inl (nF mg2)))] ++ [(wa, .inl (G.2 1, 64, .inr (.inl wf2)))])))))) ∧ (POk gk2 gw2 gt2 gy2 R2 K2 w2 y2) ∧ (HOk ak2 aw2 au2 ay2 aR2 aS2 nx2 sz2 sv2) ∧ (LOk gf2 mg2 wf2 R2 sp2 K2 w2 y2)) := by
  refine kCX.ofC (cc := cL_acts) (maxL := 15) (ret := (some .boolean)) (by decide) rfl (Nat.le_of_ble_eq_true rfl) ?_
  intro p e s m args below meth c A ls Qz hQ hxs hst hm hw hl
  have hl : lv_has ls 15 [(0, .ref (o)), (1, .ref (ga)), (2, .ref (ma)), (3, .ref (wa)), (4, .int (z))] := hl
  have hR := hok.1.1
  have hR14 := hlo.1.1
  have hg : gf 0 = R := hlo.1.2.1
  have hll := PVd_last hok.1
  have hlk := hlo.2 (R - 1) (by omega)
  refine k_iload hm hl 4 rfl dL_acts_0 ?_
  refine k_iconstN hm 5 dL_acts_2 ?_
  refine lv_ishr hm.1 hm.2.1 dL_acts_3 ?_
  refine lv_ldc hm.1 hm.2.1 (own := RL) hm.2.2.2.1 (hm.2.2.2.2.1 (.constant RL 66 (iI ((10000000 : Nat) : Int))) (by decide +kernel)) dL_acts_4 ?_
  refine k_callSr (n := 2) (As := [.int (z >>> (iI ((5 : Nat) : Int) &&& 31)), vN (10000000)]) (rest := []) hm hw hl (c_l_low l G (z >>> (iI ((5 : Nat) : Int) &&& 31)) 10000000 (by first | assumption | omega)) gL_acts_L_low rfl (by decide +kernel) ⟨by decide, by decide⟩ [] (by decide) rfl rfl rfl (by simp [Value.category]) ⟨(by show _ ≤ 3; omega), (by show _ ≤ 18; omega)⟩ dL_acts_6 (fun v H locs hp hw => ?_)
  obtain ⟨q_2, rfl, hq_3⟩ := hp
  refine W.eq (g2 := F0 m 9 ls [vN (q_2)]) rfl ?_
  have hv9 := hq_3
  refine k_istore hm hl [(5, vN (q_2)), (0, .ref (o)), (1, .ref (ga)), (2, .ref (ma)), (3, .ref (wa)), (4, .int (z))] (by decide) rfl dL_acts_9 (fun ls hl => ?_)
  refine k_iload hm hl 5 rfl dL_acts_11 ?_
  refine k_bipushN hm 20 dL_acts_13 rfl ?_
  refine k_callSr (n := 2) (As := [.int (z), vN (20)]) (rest := []) hm hw hl (c_l_low l G z 20 (by first | assumption | omega)) gL_acts_L_low rfl (by decide +kernel) ⟨by decide, by decide⟩ [] (by decide) rfl rfl rfl (by simp [Value.category]) ⟨(by show _ ≤ 3; omega), (by show _ ≤ 18; omega)⟩ dL_acts_15 (fun v H locs hp hw => ?_)
  obtain ⟨q_5, rfl, hq_6⟩ := hp
  refine W.eq (g2 := F0 m 18 ls [vN (q_5)]) rfl ?_
  have hw9 := hq_6
  refine k_istore hm hl [(6, vN (q_5)), (5, vN (q_2)), (0, .ref (o)), (1, .ref (ga)), (2, .ref (ma)), (3, .ref (wa)), (4, .int (z))] (by decide) rfl dL_acts_18 (fun ls hl => ?_)
  refine k_aload_n hm hl 4 rfl dL_acts_20 ?_
  refine k_aload_n hm hl 5 rfl dL_acts_21 ?_
  refine k_aload_n hm hl 3 rfl dL_acts_22 ?_
  refine k_iconstN hm 0 dL_acts_23 ?_
  refine k_ialdN hm hw 54 rfl (by omega) dL_acts_24 ?_
  refine k_rwV (y := vN (R)) (by rw [hg]) ?_
  refine k_iconstN hm 1 dL_acts_25 ?_
  refine k_isubN hm (by omega) dL_acts_26 ?_
  refine k_callSr (n := 3) (As := [.ref (ma), .ref (wa), vN (R - 1)]) (rest := []) hm hw hl (c_l_total l G ma mg wa wf (R - 1) (K (R - 1)) (w (R - 1)) hlk.1 hlk.2 (by omega)) gL_acts_L_total rfl (by decide +kernel) ⟨by decide, by decide⟩ [55, 56] (by decide) rfl rfl rfl (by simp [Value.category]) ⟨(by show _ ≤ 3; omega), (by show _ ≤ 18; omega)⟩ dL_acts_27 (fun v H locs hp hw => ?_)
  obtain rfl := hp
  refine W.eq (g2 := F0 m 30 ls [vN (sumM (K (R - 1)) (w (R - 1)))]) rfl ?_
  refine k_istore hm hl [(7, vN (sumM (K (R - 1)) (w (R - 1)))), (6, vN (q_5)), (5, vN (q_2)), (0, .ref (o)), (1, .ref (ga)), (2, .ref (ma)), (3, .ref (wa)), (4, .int (z))] (by decide) rfl dL_acts_30 (fun ls hl => ?_)
  have join_92 : ∀ (t : Nat) (ht : 3 ≤ t ∧ t ≤ 120) (H : Heap) (locs : List Loc) (ls : Array Slot), kW G A s (wMain G o P h T L M ++ (wPiece G P gk gw gt gy R sp ++ (wHist G h hs Q ak aw au ay aR aS nx sz ++ (wPlan G L f wk sd kd ++ (wMk G M mf ++ ([(ga, .inl (G.2 0, 5, .inl (nF gf)))] ++ ([(ma, .inl (G.2 0, 16, .inl (nF mg)))] ++ [(wa, .inl (G.2 1, 64, .inr (.inl wf)))]))))))) H locs → lv_has ls 15 [(0, .ref (o)), (1, .ref (ga)), (2, .ref (ma)), (3, .ref (wa)), (4, .int (z)), (5, vN (q_2)), (6, vN (q_5)), (7, vN (sumM (K (R - 1)) (w (R - 1)))), (8, vN (t))] → W p l e { frames := 10, cells := 3, slots := 18, locals := 175 } s m args below meth c H locs 0 0 Qz (F0 m 92 ls []) := by
    intro t ht H locs ls hw hl
    refine k_iload hm hl 6 rfl dL_acts_92 ?_
    refine k_ifne (tgt := 157) hm dL_acts_94 (by decide) (by omega) (fun c_8 => ?_) (fun c_8 => ?_)
    · refine k_iload hm hl 6 rfl dL_acts_157 ?_
      refine k_iconstN hm 1 dL_acts_159 ?_
      refine k_icmpne (tgt := 215) hm dL_acts_160 (by decide) (by omega) (fun c_9 => ?_) (fun c_9 => ?_)
      · refine k_iload hm hl 6 rfl dL_acts_215 ?_
        refine k_iconstN hm 2 dL_acts_217 ?_
        refine k_icmpne (tgt := 270) hm dL_acts_218 (by decide) (by omega) (fun c_10 => ?_) (fun c_10 => ?_)
        · have join_284 : ∀ (H : Heap) (locs : List Loc) (ls : Array Slot), kW G A s (wMain G o P h T L M ++ (wPiece G P gk gw gt gy R sp ++ (wHist G h hs Q ak aw au ay aR aS nx sz ++ (wPlan G L f wk sd kd ++ (wMk G M mf ++ ([(ga, .inl (G.2 0, 5, .inl (nF gf)))] ++ ([(ma, .inl (G.2 0, 16, .inl (nF mg)))] ++ [(wa, .inl (G.2 1, 64, .inr (.inl wf)))]))))))) H locs → lv_has ls 15 [(0, .ref (o)), (1, .ref (ga)), (2, .ref (ma)), (3, .ref (wa)), (4, .int (z)), (5, vN (q_2)), (6, vN (q_5)), (7, vN (sumM (K (R - 1)) (w (R - 1)))), (8, vN (t))] → W p l e { frames := 10, cells := 3, slots := 18, locals := 175 } s m args below meth c H locs 0 0 Qz (F0 m 284 ls []) := by
            intro  H locs ls hw hl
            have join_305 : ∀ (of1 : Nat) (hof : 1 ≤ of1 ∧ of1 ≤ 9) (H : Heap) (locs : List Loc) (ls : Array Slot), kW G A s (wMain G o P h T L M ++ (wPiece G P gk gw gt gy R sp ++ (wHist G h hs Q ak aw au ay aR aS nx sz ++ (wPlan G L f wk sd kd ++ (wMk G M mf ++ ([(ga, .inl (G.2 0, 5, .inl (nF gf)))] ++ ([(ma, .inl (G.2 0, 16, .inl (nF mg)))] ++ [(wa, .inl (G.2 1, 64, .inr (.inl wf)))]))))))) H locs → lv_has ls 15 [(0, .ref (o)), (1, .ref (ga)), (2, .ref (ma)), (3, .ref (wa)), (4, .int (z)), (5, vN (q_2)), (6, vN (q_5)), (7, vN (sumM (K (R - 1)) (w (R - 1)))), (8, vN (t)), (9, vN (of1))] → W p l e { frames := 10, cells := 3, slots := 18, locals := 175 } s m args below meth c H locs 0 0 Qz (F0 m 305 ls []) := by
              intro of1 hof H locs ls hw hl
              refine k_iload hm hl 9 rfl dL_acts_305 ?_
              refine k_aload_n hm hl 1 rfl dL_acts_307 ?_
              refine k_iconstN hm 0 dL_acts_308 ?_
              refine k_ialdN hm hw 54 rfl (by omega) dL_acts_309 ?_
              refine k_rwV (y := vN (R)) (by rw [hg]) ?_
              refine k_icmplt (tgt := 331) hm dL_acts_310 (by decide) (by omega) (fun c_11 => ?_) (fun c_11 => ?_)
              · have hlx := hlo.2 (R - of1 - 1) (by omega)
                have hbo := (hok.1.2.1 (R - of1 - 1) (by omega)).2.1
                refine k_aload_n hm hl 1 rfl dL_acts_331 ?_
                refine k_iconstN hm 0 dL_acts_332 ?_
                refine lv_dup2_11 hm.1 hm.2.1 dL_acts_333 rfl rfl ?_
                refine k_ialdN hm hw 54 rfl (by omega) dL_acts_334 ?_
                refine k_rwV (y := vN (R)) (by rw [hg]) ?_
                refine k_iload hm hl 9 rfl dL_acts_335 ?_
                refine k_isubN hm (by omega) dL_acts_337 ?_
                refine k_iastN hm hw 54 (wMain G o P h T L M ++ (wPiece G P gk gw gt gy R sp ++ (wHist G h hs Q ak aw au ay aR aS nx sz ++ (wPlan G L f wk sd kd ++ (wMk G M mf ++ ([(ga, .inl (G.2 0, 5, .inl (nF (nU gf 0 (R - of1)))))] ++ ([(ma, .inl (G.2 0, 16, .inl (nF mg)))] ++ [(wa, .inl (G.2 1, 64, .inr (.inl wf)))]))))))) rfl (by omega) rfl dL_acts_338 (fun H locs hw => ?_)
                refine k_aload_n hm hl 0 rfl dL_acts_339 ?_
                refine k_iload hm hl 9 rfl dL_acts_340 ?_
                refine k_callSX (n := 2) (As := [.ref (o), vN (of1)]) (rest := []) (wr := [(L 0, .inr (5, [.ref (L 1), vN (wk), vN (sd), vN (kd)])), (L 1, .inr (2, [.ref (L 2)])), (L 2, .inl (G.2 0, 120, .inl (nF f))), (M 0, .inr (1, [.ref (M 1)])), (M 1, .inr (2, [.ref (M 2)])), (M 2, .inl (G.2 0, 120, .inl (nF mf))), (ga, .inl (G.2 0, 5, .inl (nF (nU gf 0 (R - of1))))), (ma, .inl (G.2 0, 16, .inl (nF mg))), (wa, .inl (G.2 1, 64, .inr (.inl wf)))]) hm hw hl hxs hst (c_w_rip_ok l G o T L M P gk gw gt gy R sp h hs Q ak aw au ay aR aS nx sz K w y sv of1 (by first | assumption | omega) (by first | assumption | omega) (by first | assumption | omega)) gL_acts_L_rips rfl (by decide +kernel) ⟨by decide, by decide⟩ [0, 1, 2, 3, 4, 5, 6, 7, 8, 9, 10, 11, 12, 13, 14, 15, 16, 17, 18, 19, 20, 21, 22, 23, 24, 25, 26, 27, 28, 29, 30, 31, 32, 33, 34, 35, 36, 37, 38, 39, 40, 41, 42, 43, 44, 45, 46, 47] [48, 49, 50, 51, 52, 53, 54, 55, 56] (by decide) rfl rfl (by decide) (by decide) rfl rfl (by simp [Value.category]) ⟨(by show _ ≤ 3; omega), (by show _ ≤ 18; omega)⟩ dL_acts_342 (fun v w1 H locs hp hw => ?_)
                obtain ⟨ak2_13, aw2_14, au2_15, ay2_16, aR2_17, aS2_18, rfl, rfl, hok2_19, hho2_20⟩ := hp
                have hw := hw.sub (ws' := wMain G o P h T L M ++ (wPiece G P gk gw gt gy (R - of1) sp ++ (wHist G h hs Q ak2_13 aw2_14 au2_15 ay2_16 aR2_17 aS2_18 ((nx + 1) % 4) (Nat.min (sz + 1) 4) ++ (wPlan G L f wk sd kd ++ (wMk G M mf ++ ([(ga, .inl (G.2 0, 5, .inl (nF (nU gf 0 (R - of1)))))] ++ ([(ma, .inl (G.2 0, 16, .inl (nF mg)))] ++ [(wa, .inl (G.2 1, 64, .inr (.inl wf)))]))))))) [9, 10, 11, 12, 13, 14, 15, 16, 17, 18, 19, 20, 21, 22, 23, 24, 25, 26, 27, 28, 29, 30, 31, 32, 33, 34, 35, 36, 37, 38, 39, 40, 41, 42, 43, 44, 45, 46, 47, 48, 49, 50, 51, 52, 53, 54, 55, 56, 0, 1, 2, 3, 4, 5, 6, 7, 8] (by decide) rfl
                refine W.eq (g2 := F0 m 345 ls [vN (sumM (K (R - of1 - 1)) (w (R - of1 - 1)))]) rfl ?_
                refine k_aload_n hm hl 2 rfl dL_acts_345 ?_
                refine k_aload_n hm hl 3 rfl dL_acts_346 ?_
                refine k_aload_n hm hl 1 rfl dL_acts_347 ?_
                refine k_iconstN hm 0 dL_acts_348 ?_
                refine k_ialdN hm hw 54 rfl (by omega) dL_acts_349 ?_
                refine k_rwV (y := vN (R - of1)) (by rw [nU_s]) ?_
                refine k_iconstN hm 1 dL_acts_350 ?_
                refine k_isubN hm (by omega) dL_acts_351 ?_
                refine k_callSr (n := 3) (As := [.ref (ma), .ref (wa), vN ((R - of1) - 1)]) (rest := [vN (sumM (K (R - of1 - 1)) (w (R - of1 - 1)))]) hm hw hl (c_l_total l G ma mg wa wf ((R - of1) - 1) (K (R - of1 - 1)) (w (R - of1 - 1)) hlx.1 hlx.2 (by omega)) gL_acts_L_total rfl (by decide +kernel) ⟨by decide, by decide⟩ [55, 56] (by decide) rfl rfl rfl (by simp [Value.category]) ⟨(by show _ ≤ 3; omega), (by show _ ≤ 18; omega)⟩ dL_acts_352 (fun v H locs hp hw => ?_)
                obtain rfl := hp
                refine W.eq (g2 := F0 m 355 ls [vN (sumM (K (R - of1 - 1)) (w (R - of1 - 1))), vN (sumM (K (R - of1 - 1)) (w (R - of1 - 1)))]) rfl ?_
                refine k_icmpne (tgt := 362) hm dL_acts_355 (by decide) (by omega) (fun c_22 => absurd c_22 (by omega)) (fun c_22 => ?_)
                refine k_iconstN hm 1 dL_acts_358 ?_
                refine k_goto (tgt := 363) hm dL_acts_359 (by decide) ?_
                exact k_iret (post := _) hm hQ rfl (kN_bool true) hw (⟨_, _, _, _, _, _, _, _, _, _, _, _, _, _, _, _, _, _, _, _, _, _, _, _, _, _, rfl, rfl, hok2_19, hho2_20, LOk_rip hlo⟩) (by omega) (by omega) dL_acts_363
              · refine k_aload_n hm hl 0 rfl dL_acts_313 ?_
                refine k_iload hm hl 9 rfl dL_acts_314 ?_
                refine k_callSX (n := 2) (As := [.ref (o), vN (of1)]) (rest := []) (wr := [(h, .inr (0, [.ref (hs), vN (nx), vN (sz)])), (hs, .inl (G.2 2, 4, .inr (.inr (.inr (.inr (fun j => some (Q j 0))))))), ((Q 0) 0, .inr (4, [.ref ((Q 0) 1), .ref ((Q 0) 3), .ref ((Q 0) 5), .ref ((Q 0) 7), vN (aR 0), vB (aS 0)])), ((Q 0) 1, .inr (2, [.ref ((Q 0) 2)])), ((Q 0) 2, .inl (G.2 0, 4800, .inl (nF (ak 0)))), ((Q 0) 3, .inr (2, [.ref ((Q 0) 4)])), ((Q 0) 4, .inl (G.2 0, 40, .inl (nF (aw 0)))), ((Q 0) 5, .inr (2, [.ref ((Q 0) 6)])), ((Q 0) 6, .inl (G.2 0, 40, .inl (nF (au 0)))), ((Q 0) 7, .inr (2, [.ref ((Q 0) 8)])), ((Q 0) 8, .inl (G.2 0, 3, .inl (nF (ay 0)))), ((Q 1) 0, .inr (4, [.ref ((Q 1) 1), .ref ((Q 1) 3), .ref ((Q 1) 5), .ref ((Q 1) 7), vN (aR 1), vB (aS 1)])), ((Q 1) 1, .inr (2, [.ref ((Q 1) 2)])), ((Q 1) 2, .inl (G.2 0, 4800, .inl (nF (ak 1)))), ((Q 1) 3, .inr (2, [.ref ((Q 1) 4)])), ((Q 1) 4, .inl (G.2 0, 40, .inl (nF (aw 1)))), ((Q 1) 5, .inr (2, [.ref ((Q 1) 6)])), ((Q 1) 6, .inl (G.2 0, 40, .inl (nF (au 1)))), ((Q 1) 7, .inr (2, [.ref ((Q 1) 8)])), ((Q 1) 8, .inl (G.2 0, 3, .inl (nF (ay 1)))), ((Q 2) 0, .inr (4, [.ref ((Q 2) 1), .ref ((Q 2) 3), .ref ((Q 2) 5), .ref ((Q 2) 7), vN (aR 2), vB (aS 2)])), ((Q 2) 1, .inr (2, [.ref ((Q 2) 2)])), ((Q 2) 2, .inl (G.2 0, 4800, .inl (nF (ak 2)))), ((Q 2) 3, .inr (2, [.ref ((Q 2) 4)])), ((Q 2) 4, .inl (G.2 0, 40, .inl (nF (aw 2)))), ((Q 2) 5, .inr (2, [.ref ((Q 2) 6)])), ((Q 2) 6, .inl (G.2 0, 40, .inl (nF (au 2)))), ((Q 2) 7, .inr (2, [.ref ((Q 2) 8)])), ((Q 2) 8, .inl (G.2 0, 3, .inl (nF (ay 2)))), ((Q 3) 0, .inr (4, [.ref ((Q 3) 1), .ref ((Q 3) 3), .ref ((Q 3) 5), .ref ((Q 3) 7), vN (aR 3), vB (aS 3)])), ((Q 3) 1, .inr (2, [.ref ((Q 3) 2)])), ((Q 3) 2, .inl (G.2 0, 4800, .inl (nF (ak 3)))), ((Q 3) 3, .inr (2, [.ref ((Q 3) 4)])), ((Q 3) 4, .inl (G.2 0, 40, .inl (nF (aw 3)))), ((Q 3) 5, .inr (2, [.ref ((Q 3) 6)])), ((Q 3) 6, .inl (G.2 0, 40, .inl (nF (au 3)))), ((Q 3) 7, .inr (2, [.ref ((Q 3) 8)])), ((Q 3) 8, .inl (G.2 0, 3, .inl (nF (ay 3)))), (L 0, .inr (5, [.ref (L 1), vN (wk), vN (sd), vN (kd)])), (L 1, .inr (2, [.ref (L 2)])), (L 2, .inl (G.2 0, 120, .inl (nF f))), (M 0, .inr (1, [.ref (M 1)])), (M 1, .inr (2, [.ref (M 2)])), (M 2, .inl (G.2 0, 120, .inl (nF mf))), (ga, .inl (G.2 0, 5, .inl (nF gf))), (ma, .inl (G.2 0, 16, .inl (nF mg))), (wa, .inl (G.2 1, 64, .inr (.inl wf)))]) hm hw hl hxs hst (c_w_rip_x2 l G o h T L M P gk gw gt gy R sp ((of1 : Nat) : Int) (by first | assumption | omega) (by first | assumption | omega) (by first | assumption | omega)) gL_acts_L_rips rfl (by decide +kernel) ⟨by decide, by decide⟩ [0, 1, 2, 3, 4, 5, 6, 7, 8, 9] [10, 11, 12, 13, 14, 15, 16, 17, 18, 19, 20, 21, 22, 23, 24, 25, 26, 27, 28, 29, 30, 31, 32, 33, 34, 35, 36, 37, 38, 39, 40, 41, 42, 43, 44, 45, 46, 47, 48, 49, 50, 51, 52, 53, 54, 55, 56] (by decide) rfl rfl (by decide) (by decide) rfl rfl (by simp [Value.category]) ⟨(by show _ ≤ 3; omega), (by show _ ≤ 18; omega)⟩ dL_acts_316 (fun v w1 H locs hp hw => ?_)
                obtain ⟨rfl, rfl⟩ := hp
                have hw := hw.sub (ws' := wMain G o P h T L M ++ (wPiece G P gk gw gt gy R sp ++ (wHist G h hs Q ak aw au ay aR aS nx sz ++ (wPlan G L f wk sd kd ++ (wMk G M mf ++ ([(ga, .inl (G.2 0, 5, .inl (nF gf)))] ++ ([(ma, .inl (G.2 0, 16, .inl (nF mg)))] ++ [(wa, .inl (G.2 1, 64, .inr (.inl wf)))]))))))) [47, 48, 49, 50, 51, 52, 53, 54, 55, 56, 0, 1, 2, 3, 4, 5, 6, 7, 8, 9, 10, 11, 12, 13, 14, 15, 16, 17, 18, 19, 20, 21, 22, 23, 24, 25, 26, 27, 28, 29, 30, 31, 32, 33, 34, 35, 36, 37, 38, 39, 40, 41, 42, 43, 44, 45, 46] (by decide) rfl
                refine W.eq (g2 := F0 m 319 ls [vZ (-30002)]) rfl ?_
                refine k_sipush (n := -30002) hm dL_acts_319 rfl ?_
                refine k_icmpne (tgt := 329) hm dL_acts_322 (by decide) (by omega) (fun c_24 => absurd c_24 (by omega)) (fun c_24 => ?_)
                refine k_iconstN hm 1 dL_acts_325 ?_
                refine k_goto (tgt := 330) hm dL_acts_326 (by decide) ?_
                exact k_iret (post := _) hm hQ rfl (kN_bool true) hw (⟨_, _, _, _, _, _, _, _, _, _, _, _, _, _, _, _, _, _, _, _, _, _, _, _, _, _, rfl, rfl, hok, hho, hlo⟩) (by omega) (by omega) dL_acts_330
            refine k_iconstN hm 1 dL_acts_284 ?_
            refine k_iload hm hl 5 rfl dL_acts_285 ?_
            refine k_aload_n hm hl 1 rfl dL_acts_287 ?_
            refine k_iconstN hm 0 dL_acts_288 ?_
            refine k_ialdN hm hw 54 rfl (by omega) dL_acts_289 ?_
            refine k_rwV (y := vN (R)) (by rw [hg]) ?_
            refine k_bipushN hm 8 dL_acts_290 rfl ?_
            refine k_icmple (tgt := 300) hm dL_acts_292 (by decide) (by omega) (fun c_25 => ?_) (fun c_25 => ?_)
            · refine k_iconstN hm 3 dL_acts_300 ?_
              refine k_iremN hm (by omega) dL_acts_301 ?_
              refine k_iaddN hm dL_acts_302 ?_
              refine k_istore hm hl [(9, vN (1 + (q_2 % 3))), (0, .ref (o)), (1, .ref (ga)), (2, .ref (ma)), (3, .ref (wa)), (4, .int (z)), (5, vN (q_2)), (6, vN (q_5)), (7, vN (sumM (K (R - 1)) (w (R - 1)))), (8, vN (t))] (by decide) rfl dL_acts_303 (fun ls hl => ?_)
              exact join_305  (1 + (q_2 % 3)) (by omega) _ _ _ hw (lv_sub hl [1, 2, 3, 4, 5, 6, 7, 8, 9, 0] rfl)
            · refine k_bipushN hm 9 dL_acts_295 rfl ?_
              refine k_goto (tgt := 301) hm dL_acts_297 (by decide) ?_
              refine k_iremN hm (by omega) dL_acts_301 ?_
              refine k_iaddN hm dL_acts_302 ?_
              refine k_istore hm hl [(9, vN (1 + (q_2 % 9))), (0, .ref (o)), (1, .ref (ga)), (2, .ref (ma)), (3, .ref (wa)), (4, .int (z)), (5, vN (q_2)), (6, vN (q_5)), (7, vN (sumM (K (R - 1)) (w (R - 1)))), (8, vN (t))] (by decide) rfl dL_acts_303 (fun ls hl => ?_)
              exact join_305  (1 + (q_2 % 9)) (by omega) _ _ _ hw (lv_sub hl [1, 2, 3, 4, 5, 6, 7, 8, 9, 0] rfl)
          refine k_iload hm hl 6 rfl dL_acts_270 ?_
          refine k_iconstN hm 5 dL_acts_272 ?_
          refine k_icmplt (tgt := 284) hm dL_acts_273 (by decide) (by omega) (fun c_26 => ?_) (fun c_26 => ?_)
          · exact join_284   _ _ _ hw (lv_sub hl [0, 1, 2, 3, 4, 5, 6, 7, 8] rfl)
          · refine k_aload_n hm hl 1 rfl dL_acts_276 ?_
            refine k_iconstN hm 0 dL_acts_277 ?_
            refine k_ialdN hm hw 54 rfl (by omega) dL_acts_278 ?_
            refine k_rwV (y := vN (R)) (by rw [hg]) ?_
            refine k_bipushN hm 11 dL_acts_279 rfl ?_
            refine k_icmple (tgt := 364) hm dL_acts_281 (by decide) (by omega) (fun c_27 => ?_) (fun c_27 => ?_)
            · refine k_iload hm hl 6 rfl dL_acts_364 ?_
              refine k_iconstN hm 5 dL_acts_366 ?_
              refine k_icmpne (tgt := 488) hm dL_acts_367 (by decide) (by omega) (fun c_28 => ?_) (fun c_28 => ?_)
              · refine k_iload hm hl 8 rfl dL_acts_488 ?_
                refine k_iload hm hl 7 rfl dL_acts_490 ?_
                refine k_callSr (n := 2) (As := [vN (t), vN (sumM (K (R - 1)) (w (R - 1)))]) (rest := []) hm hw hl (c_l_canBe l G t (sumM (K (R - 1)) (w (R - 1))) (by first | assumption | omega)) gL_acts_L_canBe rfl (by decide +kernel) ⟨by decide, by decide⟩ [] (by decide) rfl rfl rfl (by simp [Value.category]) ⟨(by show _ ≤ 3; omega), (by show _ ≤ 18; omega)⟩ dL_acts_492 (fun v H locs hp hw => ?_)
                obtain ⟨b_30, rfl, hb_31⟩ := hp
                refine W.eq (g2 := F0 m 495 ls [vB (b_30)]) rfl ?_
                have hcb := hb_31
                refine k_ifneB (tgt := 541) hm dL_acts_495 (by decide) (fun c_32 => ?_) (fun c_32 => ?_)
                · have hpo := hcb.mp c_32
                  have hpm := pm_le (n := sumM (K (R - 1)) (w (R - 1))) (t := t) (by omega)
                  refine k_iload hm hl 6 rfl dL_acts_541 ?_
                  refine k_bipushN hm 9 dL_acts_543 rfl ?_
                  refine k_icmpge (tgt := 617) hm dL_acts_545 (by decide) (by omega) (fun c_33 => ?_) (fun c_33 => ?_)
                  · refine k_iload hm hl 6 rfl dL_acts_617 ?_
                    refine k_bipushN hm 12 dL_acts_619 rfl ?_
                    refine k_icmpge (tgt := 716) hm dL_acts_621 (by decide) (by omega) (fun c_34 => ?_) (fun c_34 => ?_)
                    · refine k_aload_n hm hl 1 rfl dL_acts_716 ?_
                      refine k_aload_n hm hl 2 rfl dL_acts_717 ?_
                      refine k_aload_n hm hl 3 rfl dL_acts_718 ?_
                      refine k_iload hm hl 8 rfl dL_acts_719 ?_
                      refine k_callS (n := 4) (As := [.ref (ga), .ref (ma), .ref (wa), vN (t)]) (rest := []) (wr := [(o, .inr (6, [.ref (P 0), .ref (h), .ref (T 0), .ref (L 0), .ref (M 0)])), (P 0, .inr (4, [.ref (P 1), .ref (P 3), .ref (P 5), .ref (P 7), vN (R), vB (sp)])), (P 1, .inr (2, [.ref (P 2)])), (P 2, .inl (G.2 0, 4800, .inl (nF gk))), (P 3, .inr (2, [.ref (P 4)])), (P 4, .inl (G.2 0, 40, .inl (nF gw))), (P 5, .inr (2, [.ref (P 6)])), (P 6, .inl (G.2 0, 40, .inl (nF gt))), (P 7, .inr (2, [.ref (P 8)])), (P 8, .inl (G.2 0, 3, .inl (nF gy))), (h, .inr (0, [.ref (hs), vN (nx), vN (sz)])), (hs, .inl (G.2 2, 4, .inr (.inr (.inr (.inr (fun j => some (Q j 0))))))), ((Q 0) 0, .inr (4, [.ref ((Q 0) 1), .ref ((Q 0) 3), .ref ((Q 0) 5), .ref ((Q 0) 7), vN (aR 0), vB (aS 0)])), ((Q 0) 1, .inr (2, [.ref ((Q 0) 2)])), ((Q 0) 2, .inl (G.2 0, 4800, .inl (nF (ak 0)))), ((Q 0) 3, .inr (2, [.ref ((Q 0) 4)])), ((Q 0) 4, .inl (G.2 0, 40, .inl (nF (aw 0)))), ((Q 0) 5, .inr (2, [.ref ((Q 0) 6)])), ((Q 0) 6, .inl (G.2 0, 40, .inl (nF (au 0)))), ((Q 0) 7, .inr (2, [.ref ((Q 0) 8)])), ((Q 0) 8, .inl (G.2 0, 3, .inl (nF (ay 0)))), ((Q 1) 0, .inr (4, [.ref ((Q 1) 1), .ref ((Q 1) 3), .ref ((Q 1) 5), .ref ((Q 1) 7), vN (aR 1), vB (aS 1)])), ((Q 1) 1, .inr (2, [.ref ((Q 1) 2)])), ((Q 1) 2, .inl (G.2 0, 4800, .inl (nF (ak 1)))), ((Q 1) 3, .inr (2, [.ref ((Q 1) 4)])), ((Q 1) 4, .inl (G.2 0, 40, .inl (nF (aw 1)))), ((Q 1) 5, .inr (2, [.ref ((Q 1) 6)])), ((Q 1) 6, .inl (G.2 0, 40, .inl (nF (au 1)))), ((Q 1) 7, .inr (2, [.ref ((Q 1) 8)])), ((Q 1) 8, .inl (G.2 0, 3, .inl (nF (ay 1)))), ((Q 2) 0, .inr (4, [.ref ((Q 2) 1), .ref ((Q 2) 3), .ref ((Q 2) 5), .ref ((Q 2) 7), vN (aR 2), vB (aS 2)])), ((Q 2) 1, .inr (2, [.ref ((Q 2) 2)])), ((Q 2) 2, .inl (G.2 0, 4800, .inl (nF (ak 2)))), ((Q 2) 3, .inr (2, [.ref ((Q 2) 4)])), ((Q 2) 4, .inl (G.2 0, 40, .inl (nF (aw 2)))), ((Q 2) 5, .inr (2, [.ref ((Q 2) 6)])), ((Q 2) 6, .inl (G.2 0, 40, .inl (nF (au 2)))), ((Q 2) 7, .inr (2, [.ref ((Q 2) 8)])), ((Q 2) 8, .inl (G.2 0, 3, .inl (nF (ay 2)))), ((Q 3) 0, .inr (4, [.ref ((Q 3) 1), .ref ((Q 3) 3), .ref ((Q 3) 5), .ref ((Q 3) 7), vN (aR 3), vB (aS 3)])), ((Q 3) 1, .inr (2, [.ref ((Q 3) 2)])), ((Q 3) 2, .inl (G.2 0, 4800, .inl (nF (ak 3)))), ((Q 3) 3, .inr (2, [.ref ((Q 3) 4)])), ((Q 3) 4, .inl (G.2 0, 40, .inl (nF (aw 3)))), ((Q 3) 5, .inr (2, [.ref ((Q 3) 6)])), ((Q 3) 6, .inl (G.2 0, 40, .inl (nF (au 3)))), ((Q 3) 7, .inr (2, [.ref ((Q 3) 8)])), ((Q 3) 8, .inl (G.2 0, 3, .inl (nF (ay 3)))), (L 0, .inr (5, [.ref (L 1), vN (wk), vN (sd), vN (kd)])), (L 1, .inr (2, [.ref (L 2)])), (L 2, .inl (G.2 0, 120, .inl (nF f))), (M 0, .inr (1, [.ref (M 1)])), (M 1, .inr (2, [.ref (M 2)])), (M 2, .inl (G.2 0, 120, .inl (nF mf)))]) hm hw hl (c_l_best l G ga gf ma mg wa wf R t (K (R - 1)) (w (R - 1)) (sumM (K (R - 1)) (w (R - 1))) hg (by omega) hlk.1 hlk.2 rfl (by omega) hpo) gL_acts_L_best rfl (by decide +kernel) ⟨by decide, by decide⟩ [54, 55, 56] [0, 1, 2, 3, 4, 5, 6, 7, 8, 9, 10, 11, 12, 13, 14, 15, 16, 17, 18, 19, 20, 21, 22, 23, 24, 25, 26, 27, 28, 29, 30, 31, 32, 33, 34, 35, 36, 37, 38, 39, 40, 41, 42, 43, 44, 45, 46, 47, 48, 49, 50, 51, 52, 53] (by decide) rfl rfl (by decide) (by decide) rfl rfl (by simp [Value.category]) ⟨(by show _ ≤ 3; omega), (by show _ ≤ 18; omega)⟩ dL_acts_721 (fun v w1 H locs hp hw => ?_)
                      obtain ⟨b_36, mg2_37, wf2_38, rfl, rfl, hb_39, hrow_40, hmr_41, hm2_42, hold_43⟩ := hp
                      have hw := hw.sub (ws' := wMain G o P h T L M ++ (wPiece G P gk gw gt gy R sp ++ (wHist G h hs Q ak aw au ay aR aS nx sz ++ (wPlan G L f wk sd kd ++ (wMk G M mf ++ ([(ga, .inl (G.2 0, 5, .inl (nF (nU gf 0 (R + 1)))))] ++ ([(ma, .inl (G.2 0, 16, .inl (nF mg2_37)))] ++ [(wa, .inl (G.2 1, 64, .inr (.inl wf2_38)))]))))))) [0, 1, 2, 3, 4, 5, 6, 7, 8, 9, 10, 11, 12, 13, 14, 15, 16, 17, 18, 19, 20, 21, 22, 23, 24, 25, 26, 27, 28, 29, 30, 31, 32, 33, 34, 35, 36, 37, 38, 39, 40, 41, 42, 43, 44, 45, 46, 47, 48, 49, 50, 51, 52, 53, 54, 55, 56] (by decide) rfl
                      refine W.eq (g2 := F0 m 724 ls [vN (b_36)]) rfl ?_
                      have hb9 := hb_39
                      have hrow9 := hrow_40
                      have hmr9 := hmr_41
                      have hm29 := hm2_42
                      have hold9 := hold_43
                      refine k_istore hm hl [(9, vN (b_36)), (0, .ref (o)), (1, .ref (ga)), (2, .ref (ma)), (3, .ref (wa)), (4, .int (z)), (5, vN (q_2)), (6, vN (q_5)), (7, vN (sumM (K (R - 1)) (w (R - 1)))), (8, vN (t))] (by decide) rfl dL_acts_724 (fun ls hl => ?_)
                      refine k_aload_n hm hl 1 rfl dL_acts_726 ?_
                      refine k_iload hm hl 9 rfl dL_acts_727 ?_
                      refine k_callSX (n := 2) (As := [.ref (o), vN (t)]) (rest := []) (wr := [(ga, .inl (G.2 0, 5, .inl (nF (nU gf 0 (R + 1))))), (ma, .inl (G.2 0, 16, .inl (nF mg2_37))), (wa, .inl (G.2 1, 64, .inr (.inl wf2_38)))]) hm hw hl hxs hst (c_w_addRound_ok l G o T L M P gk gw gt gy R sp h hs Q ak aw au ay aR aS nx sz f wk sd kd mf K w y sv t (by first | assumption | omega) (by first | assumption | omega) (by omega) (by first | assumption | omega) hpo) gL_acts_L_adds rfl (by decide +kernel) ⟨by decide, by decide⟩ [0, 1, 2, 3, 4, 5, 6, 7, 8, 9, 10, 11, 12, 13, 14, 15, 16, 17, 18, 19, 20, 21, 22, 23, 24, 25, 26, 27, 28, 29, 30, 31, 32, 33, 34, 35, 36, 37, 38, 39, 40, 41, 42, 43, 44, 45, 46, 47, 48, 49, 50, 51, 52, 53] [54, 55, 56] (by decide) rfl rfl (by decide) (by decide) rfl rfl (by simp [Value.category]) ⟨(by show _ ≤ 3; omega), (by show _ ≤ 18; omega)⟩ dL_acts_729 (fun v w1 H locs hp hw => ?_)
                      obtain ⟨b_45, gk2_46, gw2_47, gt2_48, ak2_49, aw2_50, au2_51, ay2_52, aR2_53, aS2_54, f2_55, mf2_56, rfl, rfl, hbst_57, hok2_58, hho2_59⟩ := hp
                      have hw := hw.sub (ws' := wMain G o P h T L M ++ (wPiece G P gk2_46 gw2_47 gt2_48 gy (R + 1) sp ++ (wHist G h hs Q ak2_49 aw2_50 au2_51 ay2_52 aR2_53 aS2_54 ((nx + 1) % 4) (Nat.min (sz + 1) 4) ++ (wPlan G L f2_55 (pm (sumM (K (R - 1)) (w (R - 1))) t) (pd (sumM (K (R - 1)) (w (R - 1))) t) (pk (sumM (K (R - 1)) (w (R - 1))) t) ++ (wMk G M mf2_56 ++ ([(ga, .inl (G.2 0, 5, .inl (nF (nU gf 0 (R + 1)))))] ++ ([(ma, .inl (G.2 0, 16, .inl (nF mg2_37)))] ++ [(wa, .inl (G.2 1, 64, .inr (.inl wf2_38)))]))))))) [3, 4, 5, 6, 7, 8, 9, 10, 11, 12, 13, 14, 15, 16, 17, 18, 19, 20, 21, 22, 23, 24, 25, 26, 27, 28, 29, 30, 31, 32, 33, 34, 35, 36, 37, 38, 39, 40, 41, 42, 43, 44, 45, 46, 47, 48, 49, 50, 51, 52, 53, 54, 55, 56, 0, 1, 2] (by decide) rfl
                      refine W.eq (g2 := F0 m 732 ls [vN (b_45)]) rfl ?_
                      have e9 := isBst_u hbst_57 hb9
                      have hbl := hb9.1
                      refine k_iload hm hl 0 rfl dL_acts_732 ?_
                      refine k_icmpne (tgt := 741) hm dL_acts_734 (by decide) (by omega) (fun c_60 => absurd c_60 (by omega)) (fun c_60 => ?_)
                      refine k_iconstN hm 1 dL_acts_737 ?_
                      refine k_goto (tgt := 742) hm dL_acts_738 (by decide) ?_
                      exact k_iret (post := _) hm hQ rfl (kN_bool true) hw (⟨_, _, _, _, _, _, _, _, _, _, _, _, _, _, _, _, _, _, _, _, _, _, _, _, _, _, rfl, rfl, hok2_58, hho2_59, by rw [e9]; exact LOk_add hlo (by omega) hrow9 hmr9 hm29 hold9⟩) (by omega) (by omega) dL_acts_742
                    · refine k_iload hm hl 8 rfl dL_acts_624 ?_
                      refine k_iload hm hl 7 rfl dL_acts_626 ?_
                      refine k_icmpge (tgt := 636) hm dL_acts_628 (by decide) (by omega) (fun c_61 => ?_) (fun c_61 => ?_)
                      · refine k_iload hm hl 7 rfl dL_acts_636 ?_
                        refine k_rwV (y := vN (pm (sumM (K (R - 1)) (w (R - 1))) t)) (by unfold pm; rw [if_pos (by omega)]) ?_
                        refine k_istore hm hl [(9, vN (pm (sumM (K (R - 1)) (w (R - 1))) t)), (0, .ref (o)), (1, .ref (ga)), (2, .ref (ma)), (3, .ref (wa)), (4, .int (z)), (5, vN (q_2)), (6, vN (q_5)), (7, vN (sumM (K (R - 1)) (w (R - 1)))), (8, vN (t))] (by decide) rfl dL_acts_638 (fun ls hl => ?_)
                        have hpd2 : pd (sumM (K (R - 1)) (w (R - 1))) t % 2 = (t + sumM (K (R - 1)) (w (R - 1))) % 2 := by unfold pd; split <;> omega
                        have join_675 : ∀ (hpm2 : ¬ (pd (sumM (K (R - 1)) (w (R - 1))) t % 2 = 1 ∧ pm (sumM (K (R - 1)) (w (R - 1))) t % 2 = 0)) (H : Heap) (locs : List Loc) (ls : Array Slot), kW G A s (wMain G o P h T L M ++ (wPiece G P gk gw gt gy R sp ++ (wHist G h hs Q ak aw au ay aR aS nx sz ++ (wPlan G L f wk sd kd ++ (wMk G M mf ++ ([(ga, .inl (G.2 0, 5, .inl (nF gf)))] ++ ([(ma, .inl (G.2 0, 16, .inl (nF mg)))] ++ [(wa, .inl (G.2 1, 64, .inr (.inl wf)))]))))))) H locs → lv_has ls 15 [(0, .ref (o)), (1, .ref (ga)), (2, .ref (ma)), (3, .ref (wa)), (4, .int (z)), (5, vN (q_2)), (6, vN (q_5)), (7, vN (sumM (K (R - 1)) (w (R - 1)))), (8, vN (t)), (9, vN (pm (sumM (K (R - 1)) (w (R - 1))) t))] → W p l e { frames := 10, cells := 3, slots := 18, locals := 175 } s m args below meth c H locs 0 0 Qz (F0 m 675 ls []) := by
                          intro hpm2 H locs ls hw hl
                          refine k_aload_n hm hl 1 rfl dL_acts_675 ?_
                          refine k_aload_n hm hl 2 rfl dL_acts_676 ?_
                          refine k_aload_n hm hl 3 rfl dL_acts_677 ?_
                          refine k_iload hm hl 8 rfl dL_acts_678 ?_
                          refine k_iconst (n := -1) hm dL_acts_680 ?_
                          refine k_callS (n := 5) (As := [.ref (ga), .ref (ma), .ref (wa), vN (t), vZ (-1)]) (rest := []) (wr := [(o, .inr (6, [.ref (P 0), .ref (h), .ref (T 0), .ref (L 0), .ref (M 0)])), (P 0, .inr (4, [.ref (P 1), .ref (P 3), .ref (P 5), .ref (P 7), vN (R), vB (sp)])), (P 1, .inr (2, [.ref (P 2)])), (P 2, .inl (G.2 0, 4800, .inl (nF gk))), (P 3, .inr (2, [.ref (P 4)])), (P 4, .inl (G.2 0, 40, .inl (nF gw))), (P 5, .inr (2, [.ref (P 6)])), (P 6, .inl (G.2 0, 40, .inl (nF gt))), (P 7, .inr (2, [.ref (P 8)])), (P 8, .inl (G.2 0, 3, .inl (nF gy))), (h, .inr (0, [.ref (hs), vN (nx), vN (sz)])), (hs, .inl (G.2 2, 4, .inr (.inr (.inr (.inr (fun j => some (Q j 0))))))), ((Q 0) 0, .inr (4, [.ref ((Q 0) 1), .ref ((Q 0) 3), .ref ((Q 0) 5), .ref ((Q 0) 7), vN (aR 0), vB (aS 0)])), ((Q 0) 1, .inr (2, [.ref ((Q 0) 2)])), ((Q 0) 2, .inl (G.2 0, 4800, .inl (nF (ak 0)))), ((Q 0) 3, .inr (2, [.ref ((Q 0) 4)])), ((Q 0) 4, .inl (G.2 0, 40, .inl (nF (aw 0)))), ((Q 0) 5, .inr (2, [.ref ((Q 0) 6)])), ((Q 0) 6, .inl (G.2 0, 40, .inl (nF (au 0)))), ((Q 0) 7, .inr (2, [.ref ((Q 0) 8)])), ((Q 0) 8, .inl (G.2 0, 3, .inl (nF (ay 0)))), ((Q 1) 0, .inr (4, [.ref ((Q 1) 1), .ref ((Q 1) 3), .ref ((Q 1) 5), .ref ((Q 1) 7), vN (aR 1), vB (aS 1)])), ((Q 1) 1, .inr (2, [.ref ((Q 1) 2)])), ((Q 1) 2, .inl (G.2 0, 4800, .inl (nF (ak 1)))), ((Q 1) 3, .inr (2, [.ref ((Q 1) 4)])), ((Q 1) 4, .inl (G.2 0, 40, .inl (nF (aw 1)))), ((Q 1) 5, .inr (2, [.ref ((Q 1) 6)])), ((Q 1) 6, .inl (G.2 0, 40, .inl (nF (au 1)))), ((Q 1) 7, .inr (2, [.ref ((Q 1) 8)])), ((Q 1) 8, .inl (G.2 0, 3, .inl (nF (ay 1)))), ((Q 2) 0, .inr (4, [.ref ((Q 2) 1), .ref ((Q 2) 3), .ref ((Q 2) 5), .ref ((Q 2) 7), vN (aR 2), vB (aS 2)])), ((Q 2) 1, .inr (2, [.ref ((Q 2) 2)])), ((Q 2) 2, .inl (G.2 0, 4800, .inl (nF (ak 2)))), ((Q 2) 3, .inr (2, [.ref ((Q 2) 4)])), ((Q 2) 4, .inl (G.2 0, 40, .inl (nF (aw 2)))), ((Q 2) 5, .inr (2, [.ref ((Q 2) 6)])), ((Q 2) 6, .inl (G.2 0, 40, .inl (nF (au 2)))), ((Q 2) 7, .inr (2, [.ref ((Q 2) 8)])), ((Q 2) 8, .inl (G.2 0, 3, .inl (nF (ay 2)))), ((Q 3) 0, .inr (4, [.ref ((Q 3) 1), .ref ((Q 3) 3), .ref ((Q 3) 5), .ref ((Q 3) 7), vN (aR 3), vB (aS 3)])), ((Q 3) 1, .inr (2, [.ref ((Q 3) 2)])), ((Q 3) 2, .inl (G.2 0, 4800, .inl (nF (ak 3)))), ((Q 3) 3, .inr (2, [.ref ((Q 3) 4)])), ((Q 3) 4, .inl (G.2 0, 40, .inl (nF (aw 3)))), ((Q 3) 5, .inr (2, [.ref ((Q 3) 6)])), ((Q 3) 6, .inl (G.2 0, 40, .inl (nF (au 3)))), ((Q 3) 7, .inr (2, [.ref ((Q 3) 8)])), ((Q 3) 8, .inl (G.2 0, 3, .inl (nF (ay 3)))), (L 0, .inr (5, [.ref (L 1), vN (wk), vN (sd), vN (kd)])), (L 1, .inr (2, [.ref (L 2)])), (L 2, .inl (G.2 0, 120, .inl (nF f))), (M 0, .inr (1, [.ref (M 1)])), (M 1, .inr (2, [.ref (M 2)])), (M 2, .inl (G.2 0, 120, .inl (nF mf)))]) hm hw hl (c_l_lays_m l G ga gf ma mg wa wf R t (K (R - 1)) (w (R - 1)) (sumM (K (R - 1)) (w (R - 1))) hg (by omega) hlk.1 hlk.2 rfl (by omega)) gL_acts_L_lays rfl (by decide +kernel) ⟨by decide, by decide⟩ [54, 55, 56] [0, 1, 2, 3, 4, 5, 6, 7, 8, 9, 10, 11, 12, 13, 14, 15, 16, 17, 18, 19, 20, 21, 22, 23, 24, 25, 26, 27, 28, 29, 30, 31, 32, 33, 34, 35, 36, 37, 38, 39, 40, 41, 42, 43, 44, 45, 46, 47, 48, 49, 50, 51, 52, 53] (by decide) rfl rfl (by decide) (by decide) rfl rfl (by simp [Value.category]) ⟨(by show _ ≤ 3; omega), (by show _ ≤ 18; omega)⟩ dL_acts_681 (fun v w1 H locs hp hw => ?_)
                          obtain ⟨wf2_63, rfl, rfl, hrow_64, hold_65⟩ := hp
                          have hw := hw.sub (ws' := wMain G o P h T L M ++ (wPiece G P gk gw gt gy R sp ++ (wHist G h hs Q ak aw au ay aR aS nx sz ++ (wPlan G L f wk sd kd ++ (wMk G M mf ++ ([(ga, .inl (G.2 0, 5, .inl (nF gf)))] ++ ([(ma, .inl (G.2 0, 16, .inl (nF (nU mg R (pm (sumM (K (R - 1)) (w (R - 1))) t)))))] ++ [(wa, .inl (G.2 1, 64, .inr (.inl wf2_63)))]))))))) [0, 1, 2, 3, 4, 5, 6, 7, 8, 9, 10, 11, 12, 13, 14, 15, 16, 17, 18, 19, 20, 21, 22, 23, 24, 25, 26, 27, 28, 29, 30, 31, 32, 33, 34, 35, 36, 37, 38, 39, 40, 41, 42, 43, 44, 45, 46, 47, 48, 49, 50, 51, 52, 53, 54, 55, 56] (by decide) rfl
                          refine W.eq (g2 := F0 m 684 ls []) rfl ?_
                          have hrow9 := hrow_64
                          have hold9 := hold_65
                          refine k_aload_n hm hl 1 rfl dL_acts_684 ?_
                          refine k_iconstN hm 0 dL_acts_685 ?_
                          refine lv_dup2_11 hm.1 hm.2.1 dL_acts_686 rfl rfl ?_
                          refine k_ialdN hm hw 54 rfl (by omega) dL_acts_687 ?_
                          refine k_rwV (y := vN (R)) (by rw [hg]) ?_
                          refine k_iconstN hm 1 dL_acts_688 ?_
                          refine k_iaddN hm dL_acts_689 ?_
                          refine k_iastN hm hw 54 (wMain G o P h T L M ++ (wPiece G P gk gw gt gy R sp ++ (wHist G h hs Q ak aw au ay aR aS nx sz ++ (wPlan G L f wk sd kd ++ (wMk G M mf ++ ([(ga, .inl (G.2 0, 5, .inl (nF (nU gf 0 (R + 1)))))] ++ ([(ma, .inl (G.2 0, 16, .inl (nF (nU mg R (pm (sumM (K (R - 1)) (w (R - 1))) t)))))] ++ [(wa, .inl (G.2 1, 64, .inr (.inl wf2_63)))]))))))) rfl (by omega) rfl dL_acts_690 (fun H locs hw => ?_)
                          refine k_aload_n hm hl 0 rfl dL_acts_691 ?_
                          refine k_iload hm hl 8 rfl dL_acts_692 ?_
                          refine k_callSX (n := 2) (As := [.ref (o), vN (t)]) (rest := []) (wr := [(ga, .inl (G.2 0, 5, .inl (nF (nU gf 0 (R + 1))))), (ma, .inl (G.2 0, 16, .inl (nF (nU mg R (pm (sumM (K (R - 1)) (w (R - 1))) t))))), (wa, .inl (G.2 1, 64, .inr (.inl wf2_63)))]) hm hw hl hxs hst (c_w_addMirrored_ok l G o T L M P gk gw gt gy R sp h hs Q ak aw au ay aR aS nx sz f wk sd kd mf K w y sv t (by first | assumption | omega) (by first | assumption | omega) (by omega) (by first | assumption | omega) ⟨hpo, hpm2⟩) gL_acts_L_mirrors rfl (by decide +kernel) ⟨by decide, by decide⟩ [0, 1, 2, 3, 4, 5, 6, 7, 8, 9, 10, 11, 12, 13, 14, 15, 16, 17, 18, 19, 20, 21, 22, 23, 24, 25, 26, 27, 28, 29, 30, 31, 32, 33, 34, 35, 36, 37, 38, 39, 40, 41, 42, 43, 44, 45, 46, 47, 48, 49, 50, 51, 52, 53] [54, 55, 56] (by decide) rfl rfl (by decide) (by decide) rfl rfl (by simp [Value.category]) ⟨(by show _ ≤ 3; omega), (by show _ ≤ 18; omega)⟩ dL_acts_694 (fun v w1 H locs hp hw => ?_)
                          obtain ⟨gk2_67, gw2_68, gt2_69, ak2_70, aw2_71, au2_72, ay2_73, aR2_74, aS2_75, f2_76, mf2_77, rfl, rfl, hok2_78, hho2_79⟩ := hp
                          have hw := hw.sub (ws' := wMain G o P h T L M ++ (wPiece G P gk2_67 gw2_68 gt2_69 gy (R + 1) sp ++ (wHist G h hs Q ak2_70 aw2_71 au2_72 ay2_73 aR2_74 aS2_75 ((nx + 1) % 4) (Nat.min (sz + 1) 4) ++ (wPlan G L f2_76 (pm (sumM (K (R - 1)) (w (R - 1))) t) (pd (sumM (K (R - 1)) (w (R - 1))) t) (pk (sumM (K (R - 1)) (w (R - 1))) t) ++ (wMk G M mf2_77 ++ ([(ga, .inl (G.2 0, 5, .inl (nF (nU gf 0 (R + 1)))))] ++ ([(ma, .inl (G.2 0, 16, .inl (nF (nU mg R (pm (sumM (K (R - 1)) (w (R - 1))) t)))))] ++ [(wa, .inl (G.2 1, 64, .inr (.inl wf2_63)))]))))))) [3, 4, 5, 6, 7, 8, 9, 10, 11, 12, 13, 14, 15, 16, 17, 18, 19, 20, 21, 22, 23, 24, 25, 26, 27, 28, 29, 30, 31, 32, 33, 34, 35, 36, 37, 38, 39, 40, 41, 42, 43, 44, 45, 46, 47, 48, 49, 50, 51, 52, 53, 54, 55, 56, 0, 1, 2] (by decide) rfl
                          refine W.eq (g2 := F0 m 697 ls [vN (nstk (mkF (K (R - 1)) (w (R - 1))) (miR (sumM (K (R - 1)) (w (R - 1))) t) (pm (sumM (K (R - 1)) (w (R - 1))) t))]) rfl ?_
                          refine k_aload_n hm hl 2 rfl dL_acts_697 ?_
                          refine k_aload_n hm hl 3 rfl dL_acts_698 ?_
                          refine k_aload_n hm hl 1 rfl dL_acts_699 ?_
                          refine k_iconstN hm 0 dL_acts_700 ?_
                          refine k_ialdN hm hw 54 rfl (by omega) dL_acts_701 ?_
                          refine k_rwV (y := vN (R + 1)) (by rw [nU_s]) ?_
                          refine k_iconstN hm 1 dL_acts_702 ?_
                          refine k_isubN hm (by omega) dL_acts_703 ?_
                          refine k_rwV (y := vN (R)) (by rw [Nat.add_sub_cancel]) ?_
                          have hso9 := miR_ok hpo hpm2
                          refine k_callSr (n := 3) (As := [.ref (ma), .ref (wa), vN (R)]) (rest := [vN (nstk (mkF (K (R - 1)) (w (R - 1))) (miR (sumM (K (R - 1)) (w (R - 1))) t) (pm (sumM (K (R - 1)) (w (R - 1))) t))]) hm hw hl (c_l_stacked l G ma (nU mg R (pm (sumM (K (R - 1)) (w (R - 1))) t)) wa wf2_63 R (miR (sumM (K (R - 1)) (w (R - 1))) t) (pm (sumM (K (R - 1)) (w (R - 1))) t) (K (R - 1)) (w (R - 1)) nU_s hrow9 (by omega) (Or.inr ⟨by rw [nU_n (by omega)]; exact hlk.1, RwB_ext hlk.2 (fun q z1 => hold9 q (by omega)), by rw [hso9.2.1], by omega⟩)) gL_acts_L_stacked rfl (by decide +kernel) ⟨by decide, by decide⟩ [55, 56] (by decide) rfl rfl rfl (by simp [Value.category]) ⟨(by show _ ≤ 3; omega), (by show _ ≤ 18; omega)⟩ dL_acts_704 (fun v H locs hp hw => ?_)
                          obtain rfl := hp
                          refine W.eq (g2 := F0 m 707 ls [vN (if R = 0 then 0 else nstk (mkF (K (R - 1)) (w (R - 1))) (miR (sumM (K (R - 1)) (w (R - 1))) t) (pm (sumM (K (R - 1)) (w (R - 1))) t)), vN (nstk (mkF (K (R - 1)) (w (R - 1))) (miR (sumM (K (R - 1)) (w (R - 1))) t) (pm (sumM (K (R - 1)) (w (R - 1))) t))]) rfl ?_
                          refine k_rwV (y := vN (nstk (mkF (K (R - 1)) (w (R - 1))) (miR (sumM (K (R - 1)) (w (R - 1))) t) (pm (sumM (K (R - 1)) (w (R - 1))) t))) (by rw [if_neg (by omega)]) ?_
                          have hsl : nstk (mkF (K (R - 1)) (w (R - 1))) (miR (sumM (K (R - 1)) (w (R - 1))) t) (pm (sumM (K (R - 1)) (w (R - 1))) t) ≤ pm (sumM (K (R - 1)) (w (R - 1))) t := nstk_le _ _ _
                          refine k_icmpne (tgt := 714) hm dL_acts_707 (by decide) (by omega) (fun c_81 => absurd c_81 (by omega)) (fun c_81 => ?_)
                          refine k_iconstN hm 1 dL_acts_710 ?_
                          refine k_goto (tgt := 715) hm dL_acts_711 (by decide) ?_
                          exact k_iret (post := _) hm hQ rfl (kN_bool true) hw (⟨_, _, _, _, _, _, _, _, _, _, _, _, _, _, _, _, _, _, _, _, _, _, _, _, _, _, rfl, rfl, hok2_78, hho2_79, LOk_add hlo (by omega) hrow9 nU_s (fun q z1 => nU_n (by omega)) hold9⟩) (by omega) (by omega) dL_acts_715
                        refine k_iload hm hl 9 rfl dL_acts_640 ?_
                        refine k_iload hm hl 8 rfl dL_acts_642 ?_
                        refine k_isub hm dL_acts_644 ?_
                        refine k_iconstN hm 2 dL_acts_645 ?_
                        refine k_irem2 hm dL_acts_646 (by omega) (fun zr_82 hzr_82 gzr_82 => ?_)
                        refine k_ifeq (tgt := 675) hm dL_acts_647 (by decide) (by omega) (fun c_83 => ?_) (fun c_83 => ?_)
                        · exact join_675  (by omega) _ _ _ hw (lv_sub hl [1, 2, 3, 4, 5, 6, 7, 8, 9, 0] rfl)
                        · refine k_iload hm hl 0 rfl dL_acts_650 ?_
                          refine k_iconstN hm 2 dL_acts_652 ?_
                          refine k_iremN hm (by omega) dL_acts_653 ?_
                          refine k_ifne (tgt := 675) hm dL_acts_654 (by decide) (by omega) (fun c_84 => ?_) (fun c_84 => ?_)
                          · exact join_675  (by omega) _ _ _ hw (lv_sub hl [1, 2, 3, 4, 5, 6, 7, 8, 9, 0] rfl)
                          · refine k_aload_n hm hl 1 rfl dL_acts_657 ?_
                            refine k_iload hm hl 9 rfl dL_acts_658 ?_
                            refine k_callSX (n := 2) (As := [.ref (o), vN (t)]) (rest := []) (wr := [(h, .inr (0, [.ref (hs), vN (nx), vN (sz)])), (hs, .inl (G.2 2, 4, .inr (.inr (.inr (.inr (fun j => some (Q j 0))))))), ((Q 0) 0, .inr (4, [.ref ((Q 0) 1), .ref ((Q 0) 3), .ref ((Q 0) 5), .ref ((Q 0) 7), vN (aR 0), vB (aS 0)])), ((Q 0) 1, .inr (2, [.ref ((Q 0) 2)])), ((Q 0) 2, .inl (G.2 0, 4800, .inl (nF (ak 0)))), ((Q 0) 3, .inr (2, [.ref ((Q 0) 4)])), ((Q 0) 4, .inl (G.2 0, 40, .inl (nF (aw 0)))), ((Q 0) 5, .inr (2, [.ref ((Q 0) 6)])), ((Q 0) 6, .inl (G.2 0, 40, .inl (nF (au 0)))), ((Q 0) 7, .inr (2, [.ref ((Q 0) 8)])), ((Q 0) 8, .inl (G.2 0, 3, .inl (nF (ay 0)))), ((Q 1) 0, .inr (4, [.ref ((Q 1) 1), .ref ((Q 1) 3), .ref ((Q 1) 5), .ref ((Q 1) 7), vN (aR 1), vB (aS 1)])), ((Q 1) 1, .inr (2, [.ref ((Q 1) 2)])), ((Q 1) 2, .inl (G.2 0, 4800, .inl (nF (ak 1)))), ((Q 1) 3, .inr (2, [.ref ((Q 1) 4)])), ((Q 1) 4, .inl (G.2 0, 40, .inl (nF (aw 1)))), ((Q 1) 5, .inr (2, [.ref ((Q 1) 6)])), ((Q 1) 6, .inl (G.2 0, 40, .inl (nF (au 1)))), ((Q 1) 7, .inr (2, [.ref ((Q 1) 8)])), ((Q 1) 8, .inl (G.2 0, 3, .inl (nF (ay 1)))), ((Q 2) 0, .inr (4, [.ref ((Q 2) 1), .ref ((Q 2) 3), .ref ((Q 2) 5), .ref ((Q 2) 7), vN (aR 2), vB (aS 2)])), ((Q 2) 1, .inr (2, [.ref ((Q 2) 2)])), ((Q 2) 2, .inl (G.2 0, 4800, .inl (nF (ak 2)))), ((Q 2) 3, .inr (2, [.ref ((Q 2) 4)])), ((Q 2) 4, .inl (G.2 0, 40, .inl (nF (aw 2)))), ((Q 2) 5, .inr (2, [.ref ((Q 2) 6)])), ((Q 2) 6, .inl (G.2 0, 40, .inl (nF (au 2)))), ((Q 2) 7, .inr (2, [.ref ((Q 2) 8)])), ((Q 2) 8, .inl (G.2 0, 3, .inl (nF (ay 2)))), ((Q 3) 0, .inr (4, [.ref ((Q 3) 1), .ref ((Q 3) 3), .ref ((Q 3) 5), .ref ((Q 3) 7), vN (aR 3), vB (aS 3)])), ((Q 3) 1, .inr (2, [.ref ((Q 3) 2)])), ((Q 3) 2, .inl (G.2 0, 4800, .inl (nF (ak 3)))), ((Q 3) 3, .inr (2, [.ref ((Q 3) 4)])), ((Q 3) 4, .inl (G.2 0, 40, .inl (nF (aw 3)))), ((Q 3) 5, .inr (2, [.ref ((Q 3) 6)])), ((Q 3) 6, .inl (G.2 0, 40, .inl (nF (au 3)))), ((Q 3) 7, .inr (2, [.ref ((Q 3) 8)])), ((Q 3) 8, .inl (G.2 0, 3, .inl (nF (ay 3)))), (M 0, .inr (1, [.ref (M 1)])), (M 1, .inr (2, [.ref (M 2)])), (M 2, .inl (G.2 0, 120, .inl (nF mf))), (ga, .inl (G.2 0, 5, .inl (nF gf))), (ma, .inl (G.2 0, 16, .inl (nF mg))), (wa, .inl (G.2 1, 64, .inr (.inl wf)))]) hm hw hl hxs hst (c_w_addMirrored_x3 l G o h T L M P gk gw gt gy R sp f wk sd kd K w y t (by first | assumption | omega) (by first | assumption | omega) ht (by omega) (fun q => q.2 (by omega))) gL_acts_L_mirrors rfl (by decide +kernel) ⟨by decide, by decide⟩ [0, 1, 2, 3, 4, 5, 6, 7, 8, 9, 48, 49, 50] [10, 11, 12, 13, 14, 15, 16, 17, 18, 19, 20, 21, 22, 23, 24, 25, 26, 27, 28, 29, 30, 31, 32, 33, 34, 35, 36, 37, 38, 39, 40, 41, 42, 43, 44, 45, 46, 47, 51, 52, 53, 54, 55, 56] (by decide) rfl rfl (by decide) (by decide) rfl rfl (by simp [Value.category]) ⟨(by show _ ≤ 3; omega), (by show _ ≤ 18; omega)⟩ dL_acts_660 (fun v w1 H locs hp hw => ?_)
                            obtain ⟨f2_86, rfl, rfl⟩ := hp
                            have hw := hw.sub (ws' := wMain G o P h T L M ++ (wPiece G P gk gw gt gy R sp ++ (wHist G h hs Q ak aw au ay aR aS nx sz ++ (wPlan G L f2_86 (pm (sumM (K (R - 1)) (w (R - 1))) t) (pd (sumM (K (R - 1)) (w (R - 1))) t) (pk (sumM (K (R - 1)) (w (R - 1))) t) ++ (wMk G M mf ++ ([(ga, .inl (G.2 0, 5, .inl (nF gf)))] ++ ([(ma, .inl (G.2 0, 16, .inl (nF mg)))] ++ [(wa, .inl (G.2 1, 64, .inr (.inl wf)))]))))))) [44, 45, 46, 47, 48, 49, 50, 51, 52, 53, 0, 1, 2, 3, 4, 5, 6, 7, 8, 9, 10, 11, 12, 13, 14, 15, 16, 17, 18, 19, 20, 21, 22, 23, 24, 25, 26, 27, 28, 29, 30, 31, 32, 33, 34, 35, 36, 37, 54, 55, 56, 38, 39, 40, 41, 42, 43] (by decide) rfl
                            refine W.eq (g2 := F0 m 663 ls [vZ (-30003)]) rfl ?_
                            refine k_sipush (n := -30003) hm dL_acts_663 rfl ?_
                            refine k_icmpne (tgt := 673) hm dL_acts_666 (by decide) (by omega) (fun c_87 => absurd c_87 (by omega)) (fun c_87 => ?_)
                            refine k_iconstN hm 1 dL_acts_669 ?_
                            refine k_goto (tgt := 674) hm dL_acts_670 (by decide) ?_
                            exact k_iret (post := _) hm hQ rfl (kN_bool true) hw (⟨_, _, _, _, _, _, _, _, _, _, _, _, _, _, _, _, _, _, _, _, _, _, _, _, _, _, rfl, rfl, hok, hho, hlo⟩) (by omega) (by omega) dL_acts_674
                      · refine k_iload hm hl 8 rfl dL_acts_631 ?_
                        refine k_goto (tgt := 638) hm dL_acts_633 (by decide) ?_
                        refine k_rwV (y := vN (pm (sumM (K (R - 1)) (w (R - 1))) t)) (by unfold pm; rw [if_neg (by omega)]) ?_
                        refine k_istore hm hl [(9, vN (pm (sumM (K (R - 1)) (w (R - 1))) t)), (0, .ref (o)), (1, .ref (ga)), (2, .ref (ma)), (3, .ref (wa)), (4, .int (z)), (5, vN (q_2)), (6, vN (q_5)), (7, vN (sumM (K (R - 1)) (w (R - 1)))), (8, vN (t))] (by decide) rfl dL_acts_638 (fun ls hl => ?_)
                        have hpd2 : pd (sumM (K (R - 1)) (w (R - 1))) t % 2 = (t + sumM (K (R - 1)) (w (R - 1))) % 2 := by unfold pd; split <;> omega
                        have join_675 : ∀ (hpm2 : ¬ (pd (sumM (K (R - 1)) (w (R - 1))) t % 2 = 1 ∧ pm (sumM (K (R - 1)) (w (R - 1))) t % 2 = 0)) (H : Heap) (locs : List Loc) (ls : Array Slot), kW G A s (wMain G o P h T L M ++ (wPiece G P gk gw gt gy R sp ++ (wHist G h hs Q ak aw au ay aR aS nx sz ++ (wPlan G L f wk sd kd ++ (wMk G M mf ++ ([(ga, .inl (G.2 0, 5, .inl (nF gf)))] ++ ([(ma, .inl (G.2 0, 16, .inl (nF mg)))] ++ [(wa, .inl (G.2 1, 64, .inr (.inl wf)))]))))))) H locs → lv_has ls 15 [(0, .ref (o)), (1, .ref (ga)), (2, .ref (ma)), (3, .ref (wa)), (4, .int (z)), (5, vN (q_2)), (6, vN (q_5)), (7, vN (sumM (K (R - 1)) (w (R - 1)))), (8, vN (t)), (9, vN (pm (sumM (K (R - 1)) (w (R - 1))) t))] → W p l e { frames := 10, cells := 3, slots := 18, locals := 175 } s m args below meth c H locs 0 0 Qz (F0 m 675 ls []) := by
                          intro hpm2 H locs ls hw hl
                          refine k_aload_n hm hl 1 rfl dL_acts_675 ?_
                          refine k_aload_n hm hl 2 rfl dL_acts_676 ?_
                          refine k_aload_n hm hl 3 rfl dL_acts_677 ?_
                          refine k_iload hm hl 8 rfl dL_acts_678 ?_
                          refine k_iconst (n := -1) hm dL_acts_680 ?_
                          refine k_callS (n := 5) (As := [.ref (ga), .ref (ma), .ref (wa), vN (t), vZ (-1)]) (rest := []) (wr := [(o, .inr (6, [.ref (P 0), .ref (h), .ref (T 0), .ref (L 0), .ref (M 0)])), (P 0, .inr (4, [.ref (P 1), .ref (P 3), .ref (P 5), .ref (P 7), vN (R), vB (sp)])), (P 1, .inr (2, [.ref (P 2)])), (P 2, .inl (G.2 0, 4800, .inl (nF gk))), (P 3, .inr (2, [.ref (P 4)])), (P 4, .inl (G.2 0, 40, .inl (nF gw))), (P 5, .inr (2, [.ref (P 6)])), (P 6, .inl (G.2 0, 40, .inl (nF gt))), (P 7, .inr (2, [.ref (P 8)])), (P 8, .inl (G.2 0, 3, .inl (nF gy))), (h, .inr (0, [.ref (hs), vN (nx), vN (sz)])), (hs, .inl (G.2 2, 4, .inr (.inr (.inr (.inr (fun j => some (Q j 0))))))), ((Q 0) 0, .inr (4, [.ref ((Q 0) 1), .ref ((Q 0) 3), .ref ((Q 0) 5), .ref ((Q 0) 7), vN (aR 0), vB (aS 0)])), ((Q 0) 1, .inr (2, [.ref ((Q 0) 2)])), ((Q 0) 2, .inl (G.2 0, 4800, .inl (nF (ak 0)))), ((Q 0) 3, .inr (2, [.ref ((Q 0) 4)])), ((Q 0) 4, .inl (G.2 0, 40, .inl (nF (aw 0)))), ((Q 0) 5, .inr (2, [.ref ((Q 0) 6)])), ((Q 0) 6, .inl (G.2 0, 40, .inl (nF (au 0)))), ((Q 0) 7, .inr (2, [.ref ((Q 0) 8)])), ((Q 0) 8, .inl (G.2 0, 3, .inl (nF (ay 0)))), ((Q 1) 0, .inr (4, [.ref ((Q 1) 1), .ref ((Q 1) 3), .ref ((Q 1) 5), .ref ((Q 1) 7), vN (aR 1), vB (aS 1)])), ((Q 1) 1, .inr (2, [.ref ((Q 1) 2)])), ((Q 1) 2, .inl (G.2 0, 4800, .inl (nF (ak 1)))), ((Q 1) 3, .inr (2, [.ref ((Q 1) 4)])), ((Q 1) 4, .inl (G.2 0, 40, .inl (nF (aw 1)))), ((Q 1) 5, .inr (2, [.ref ((Q 1) 6)])), ((Q 1) 6, .inl (G.2 0, 40, .inl (nF (au 1)))), ((Q 1) 7, .inr (2, [.ref ((Q 1) 8)])), ((Q 1) 8, .inl (G.2 0, 3, .inl (nF (ay 1)))), ((Q 2) 0, .inr (4, [.ref ((Q 2) 1), .ref ((Q 2) 3), .ref ((Q 2) 5), .ref ((Q 2) 7), vN (aR 2), vB (aS 2)])), ((Q 2) 1, .inr (2, [.ref ((Q 2) 2)])), ((Q 2) 2, .inl (G.2 0, 4800, .inl (nF (ak 2)))), ((Q 2) 3, .inr (2, [.ref ((Q 2) 4)])), ((Q 2) 4, .inl (G.2 0, 40, .inl (nF (aw 2)))), ((Q 2) 5, .inr (2, [.ref ((Q 2) 6)])), ((Q 2) 6, .inl (G.2 0, 40, .inl (nF (au 2)))), ((Q 2) 7, .inr (2, [.ref ((Q 2) 8)])), ((Q 2) 8, .inl (G.2 0, 3, .inl (nF (ay 2)))), ((Q 3) 0, .inr (4, [.ref ((Q 3) 1), .ref ((Q 3) 3), .ref ((Q 3) 5), .ref ((Q 3) 7), vN (aR 3), vB (aS 3)])), ((Q 3) 1, .inr (2, [.ref ((Q 3) 2)])), ((Q 3) 2, .inl (G.2 0, 4800, .inl (nF (ak 3)))), ((Q 3) 3, .inr (2, [.ref ((Q 3) 4)])), ((Q 3) 4, .inl (G.2 0, 40, .inl (nF (aw 3)))), ((Q 3) 5, .inr (2, [.ref ((Q 3) 6)])), ((Q 3) 6, .inl (G.2 0, 40, .inl (nF (au 3)))), ((Q 3) 7, .inr (2, [.ref ((Q 3) 8)])), ((Q 3) 8, .inl (G.2 0, 3, .inl (nF (ay 3)))), (L 0, .inr (5, [.ref (L 1), vN (wk), vN (sd), vN (kd)])), (L 1, .inr (2, [.ref (L 2)])), (L 2, .inl (G.2 0, 120, .inl (nF f))), (M 0, .inr (1, [.ref (M 1)])), (M 1, .inr (2, [.ref (M 2)])), (M 2, .inl (G.2 0, 120, .inl (nF mf)))]) hm hw hl (c_l_lays_m l G ga gf ma mg wa wf R t (K (R - 1)) (w (R - 1)) (sumM (K (R - 1)) (w (R - 1))) hg (by omega) hlk.1 hlk.2 rfl (by omega)) gL_acts_L_lays rfl (by decide +kernel) ⟨by decide, by decide⟩ [54, 55, 56] [0, 1, 2, 3, 4, 5, 6, 7, 8, 9, 10, 11, 12, 13, 14, 15, 16, 17, 18, 19, 20, 21, 22, 23, 24, 25, 26, 27, 28, 29, 30, 31, 32, 33, 34, 35, 36, 37, 38, 39, 40, 41, 42, 43, 44, 45, 46, 47, 48, 49, 50, 51, 52, 53] (by decide) rfl rfl (by decide) (by decide) rfl rfl (by simp [Value.category]) ⟨(by show _ ≤ 3; omega), (by show _ ≤ 18; omega)⟩ dL_acts_681 (fun v w1 H locs hp hw => ?_)
                          obtain ⟨wf2_89, rfl, rfl, hrow_90, hold_91⟩ := hp
                          have hw := hw.sub (ws' := wMain G o P h T L M ++ (wPiece G P gk gw gt gy R sp ++ (wHist G h hs Q ak aw au ay aR aS nx sz ++ (wPlan G L f wk sd kd ++ (wMk G M mf ++ ([(ga, .inl (G.2 0, 5, .inl (nF gf)))] ++ ([(ma, .inl (G.2 0, 16, .inl (nF (nU mg R (pm (sumM (K (R - 1)) (w (R - 1))) t)))))] ++ [(wa, .inl (G.2 1, 64, .inr (.inl wf2_89)))]))))))) [0, 1, 2, 3, 4, 5, 6, 7, 8, 9, 10, 11, 12, 13, 14, 15, 16, 17, 18, 19, 20, 21, 22, 23, 24, 25, 26, 27, 28, 29, 30, 31, 32, 33, 34, 35, 36, 37, 38, 39, 40, 41, 42, 43, 44, 45, 46, 47, 48, 49, 50, 51, 52, 53, 54, 55, 56] (by decide) rfl
                          refine W.eq (g2 := F0 m 684 ls []) rfl ?_
                          have hrow9 := hrow_90
                          have hold9 := hold_91
                          refine k_aload_n hm hl 1 rfl dL_acts_684 ?_
                          refine k_iconstN hm 0 dL_acts_685 ?_
                          refine lv_dup2_11 hm.1 hm.2.1 dL_acts_686 rfl rfl ?_
                          refine k_ialdN hm hw 54 rfl (by omega) dL_acts_687 ?_
                          refine k_rwV (y := vN (R)) (by rw [hg]) ?_
                          refine k_iconstN hm 1 dL_acts_688 ?_
                          refine k_iaddN hm dL_acts_689 ?_
                          refine k_iastN hm hw 54 (wMain G o P h T L M ++ (wPiece G P gk gw gt gy R sp ++ (wHist G h hs Q ak aw au ay aR aS nx sz ++ (wPlan G L f wk sd kd ++ (wMk G M mf ++ ([(ga, .inl (G.2 0, 5, .inl (nF (nU gf 0 (R + 1)))))] ++ ([(ma, .inl (G.2 0, 16, .inl (nF (nU mg R (pm (sumM (K (R - 1)) (w (R - 1))) t)))))] ++ [(wa, .inl (G.2 1, 64, .inr (.inl wf2_89)))]))))))) rfl (by omega) rfl dL_acts_690 (fun H locs hw => ?_)
                          refine k_aload_n hm hl 0 rfl dL_acts_691 ?_
                          refine k_iload hm hl 8 rfl dL_acts_692 ?_
                          refine k_callSX (n := 2) (As := [.ref (o), vN (t)]) (rest := []) (wr := [(ga, .inl (G.2 0, 5, .inl (nF (nU gf 0 (R + 1))))), (ma, .inl (G.2 0, 16, .inl (nF (nU mg R (pm (sumM (K (R - 1)) (w (R - 1))) t))))), (wa, .inl (G.2 1, 64, .inr (.inl wf2_89)))]) hm hw hl hxs hst (c_w_addMirrored_ok l G o T L M P gk gw gt gy R sp h hs Q ak aw au ay aR aS nx sz f wk sd kd mf K w y sv t (by first | assumption | omega) (by first | assumption | omega) (by omega) (by first | assumption | omega) ⟨hpo, hpm2⟩) gL_acts_L_mirrors rfl (by decide +kernel) ⟨by decide, by decide⟩ [0, 1, 2, 3, 4, 5, 6, 7, 8, 9, 10, 11, 12, 13, 14, 15, 16, 17, 18, 19, 20, 21, 22, 23, 24, 25, 26, 27, 28, 29, 30, 31, 32, 33, 34, 35, 36, 37, 38, 39, 40, 41, 42, 43, 44, 45, 46, 47, 48, 49, 50, 51, 52, 53] [54, 55, 56] (by decide) rfl rfl (by decide) (by decide) rfl rfl (by simp [Value.category]) ⟨(by show _ ≤ 3; omega), (by show _ ≤ 18; omega)⟩ dL_acts_694 (fun v w1 H locs hp hw => ?_)
                          obtain ⟨gk2_93, gw2_94, gt2_95, ak2_96, aw2_97, au2_98, ay2_99, aR2_100, aS2_101, f2_102, mf2_103, rfl, rfl, hok2_104, hho2_105⟩ := hp
                          have hw := hw.sub (ws' := wMain G o P h T L M ++ (wPiece G P gk2_93 gw2_94 gt2_95 gy (R + 1) sp ++ (wHist G h hs Q ak2_96 aw2_97 au2_98 ay2_99 aR2_100 aS2_101 ((nx + 1) % 4) (Nat.min (sz + 1) 4) ++ (wPlan G L f2_102 (pm (sumM (K (R - 1)) (w (R - 1))) t) (pd (sumM (K (R - 1)) (w (R - 1))) t) (pk (sumM (K (R - 1)) (w (R - 1))) t) ++ (wMk G M mf2_103 ++ ([(ga, .inl (G.2 0, 5, .inl (nF (nU gf 0 (R + 1)))))] ++ ([(ma, .inl (G.2 0, 16, .inl (nF (nU mg R (pm (sumM (K (R - 1)) (w (R - 1))) t)))))] ++ [(wa, .inl (G.2 1, 64, .inr (.inl wf2_89)))]))))))) [3, 4, 5, 6, 7, 8, 9, 10, 11, 12, 13, 14, 15, 16, 17, 18, 19, 20, 21, 22, 23, 24, 25, 26, 27, 28, 29, 30, 31, 32, 33, 34, 35, 36, 37, 38, 39, 40, 41, 42, 43, 44, 45, 46, 47, 48, 49, 50, 51, 52, 53, 54, 55, 56, 0, 1, 2] (by decide) rfl
                          refine W.eq (g2 := F0 m 697 ls [vN (nstk (mkF (K (R - 1)) (w (R - 1))) (miR (sumM (K (R - 1)) (w (R - 1))) t) (pm (sumM (K (R - 1)) (w (R - 1))) t))]) rfl ?_
                          refine k_aload_n hm hl 2 rfl dL_acts_697 ?_
                          refine k_aload_n hm hl 3 rfl dL_acts_698 ?_
                          refine k_aload_n hm hl 1 rfl dL_acts_699 ?_
                          refine k_iconstN hm 0 dL_acts_700 ?_
                          refine k_ialdN hm hw 54 rfl (by omega) dL_acts_701 ?_
                          refine k_rwV (y := vN (R + 1)) (by rw [nU_s]) ?_
                          refine k_iconstN hm 1 dL_acts_702 ?_
                          refine k_isubN hm (by omega) dL_acts_703 ?_
                          refine k_rwV (y := vN (R)) (by rw [Nat.add_sub_cancel]) ?_
                          have hso9 := miR_ok hpo hpm2
                          refine k_callSr (n := 3) (As := [.ref (ma), .ref (wa), vN (R)]) (rest := [vN (nstk (mkF (K (R - 1)) (w (R - 1))) (miR (sumM (K (R - 1)) (w (R - 1))) t) (pm (sumM (K (R - 1)) (w (R - 1))) t))]) hm hw hl (c_l_stacked l G ma (nU mg R (pm (sumM (K (R - 1)) (w (R - 1))) t)) wa wf2_89 R (miR (sumM (K (R - 1)) (w (R - 1))) t) (pm (sumM (K (R - 1)) (w (R - 1))) t) (K (R - 1)) (w (R - 1)) nU_s hrow9 (by omega) (Or.inr ⟨by rw [nU_n (by omega)]; exact hlk.1, RwB_ext hlk.2 (fun q z1 => hold9 q (by omega)), by rw [hso9.2.1], by omega⟩)) gL_acts_L_stacked rfl (by decide +kernel) ⟨by decide, by decide⟩ [55, 56] (by decide) rfl rfl rfl (by simp [Value.category]) ⟨(by show _ ≤ 3; omega), (by show _ ≤ 18; omega)⟩ dL_acts_704 (fun v H locs hp hw => ?_)
                          obtain rfl := hp
                          refine W.eq (g2 := F0 m 707 ls [vN (if R = 0 then 0 else nstk (mkF (K (R - 1)) (w (R - 1))) (miR (sumM (K (R - 1)) (w (R - 1))) t) (pm (sumM (K (R - 1)) (w (R - 1))) t)), vN (nstk (mkF (K (R - 1)) (w (R - 1))) (miR (sumM (K (R - 1)) (w (R - 1))) t) (pm (sumM (K (R - 1)) (w (R - 1))) t))]) rfl ?_
                          refine k_rwV (y := vN (nstk (mkF (K (R - 1)) (w (R - 1))) (miR (sumM (K (R - 1)) (w (R - 1))) t) (pm (sumM (K (R - 1)) (w (R - 1))) t))) (by rw [if_neg (by omega)]) ?_
                          have hsl : nstk (mkF (K (R - 1)) (w (R - 1))) (miR (sumM (K (R - 1)) (w (R - 1))) t) (pm (sumM (K (R - 1)) (w (R - 1))) t) ≤ pm (sumM (K (R - 1)) (w (R - 1))) t := nstk_le _ _ _
                          refine k_icmpne (tgt := 714) hm dL_acts_707 (by decide) (by omega) (fun c_107 => absurd c_107 (by omega)) (fun c_107 => ?_)
                          refine k_iconstN hm 1 dL_acts_710 ?_
                          refine k_goto (tgt := 715) hm dL_acts_711 (by decide) ?_
                          exact k_iret (post := _) hm hQ rfl (kN_bool true) hw (⟨_, _, _, _, _, _, _, _, _, _, _, _, _, _, _, _, _, _, _, _, _, _, _, _, _, _, rfl, rfl, hok2_104, hho2_105, LOk_add hlo (by omega) hrow9 nU_s (fun q z1 => nU_n (by omega)) hold9⟩) (by omega) (by omega) dL_acts_715
                        refine k_iload hm hl 9 rfl dL_acts_640 ?_
                        refine k_iload hm hl 8 rfl dL_acts_642 ?_
                        refine k_isub hm dL_acts_644 ?_
                        refine k_iconstN hm 2 dL_acts_645 ?_
                        refine k_irem2 hm dL_acts_646 (by omega) (fun zr_108 hzr_108 gzr_108 => ?_)
                        refine k_ifeq (tgt := 675) hm dL_acts_647 (by decide) (by omega) (fun c_109 => ?_) (fun c_109 => ?_)
                        · exact join_675  (by omega) _ _ _ hw (lv_sub hl [1, 2, 3, 4, 5, 6, 7, 8, 9, 0] rfl)
                        · refine k_iload hm hl 0 rfl dL_acts_650 ?_
                          refine k_iconstN hm 2 dL_acts_652 ?_
                          refine k_iremN hm (by omega) dL_acts_653 ?_
                          refine k_ifne (tgt := 675) hm dL_acts_654 (by decide) (by omega) (fun c_110 => ?_) (fun c_110 => ?_)
                          · exact join_675  (by omega) _ _ _ hw (lv_sub hl [1, 2, 3, 4, 5, 6, 7, 8, 9, 0] rfl)
                          · refine k_aload_n hm hl 1 rfl dL_acts_657 ?_
                            refine k_iload hm hl 9 rfl dL_acts_658 ?_
                            refine k_callSX (n := 2) (As := [.ref (o), vN (t)]) (rest := []) (wr := [(h, .inr (0, [.ref (hs), vN (nx), vN (sz)])), (hs, .inl (G.2 2, 4, .inr (.inr (.inr (.inr (fun j => some (Q j 0))))))), ((Q 0) 0, .inr (4, [.ref ((Q 0) 1), .ref ((Q 0) 3), .ref ((Q 0) 5), .ref ((Q 0) 7), vN (aR 0), vB (aS 0)])), ((Q 0) 1, .inr (2, [.ref ((Q 0) 2)])), ((Q 0) 2, .inl (G.2 0, 4800, .inl (nF (ak 0)))), ((Q 0) 3, .inr (2, [.ref ((Q 0) 4)])), ((Q 0) 4, .inl (G.2 0, 40, .inl (nF (aw 0)))), ((Q 0) 5, .inr (2, [.ref ((Q 0) 6)])), ((Q 0) 6, .inl (G.2 0, 40, .inl (nF (au 0)))), ((Q 0) 7, .inr (2, [.ref ((Q 0) 8)])), ((Q 0) 8, .inl (G.2 0, 3, .inl (nF (ay 0)))), ((Q 1) 0, .inr (4, [.ref ((Q 1) 1), .ref ((Q 1) 3), .ref ((Q 1) 5), .ref ((Q 1) 7), vN (aR 1), vB (aS 1)])), ((Q 1) 1, .inr (2, [.ref ((Q 1) 2)])), ((Q 1) 2, .inl (G.2 0, 4800, .inl (nF (ak 1)))), ((Q 1) 3, .inr (2, [.ref ((Q 1) 4)])), ((Q 1) 4, .inl (G.2 0, 40, .inl (nF (aw 1)))), ((Q 1) 5, .inr (2, [.ref ((Q 1) 6)])), ((Q 1) 6, .inl (G.2 0, 40, .inl (nF (au 1)))), ((Q 1) 7, .inr (2, [.ref ((Q 1) 8)])), ((Q 1) 8, .inl (G.2 0, 3, .inl (nF (ay 1)))), ((Q 2) 0, .inr (4, [.ref ((Q 2) 1), .ref ((Q 2) 3), .ref ((Q 2) 5), .ref ((Q 2) 7), vN (aR 2), vB (aS 2)])), ((Q 2) 1, .inr (2, [.ref ((Q 2) 2)])), ((Q 2) 2, .inl (G.2 0, 4800, .inl (nF (ak 2)))), ((Q 2) 3, .inr (2, [.ref ((Q 2) 4)])), ((Q 2) 4, .inl (G.2 0, 40, .inl (nF (aw 2)))), ((Q 2) 5, .inr (2, [.ref ((Q 2) 6)])), ((Q 2) 6, .inl (G.2 0, 40, .inl (nF (au 2)))), ((Q 2) 7, .inr (2, [.ref ((Q 2) 8)])), ((Q 2) 8, .inl (G.2 0, 3, .inl (nF (ay 2)))), ((Q 3) 0, .inr (4, [.ref ((Q 3) 1), .ref ((Q 3) 3), .ref ((Q 3) 5), .ref ((Q 3) 7), vN (aR 3), vB (aS 3)])), ((Q 3) 1, .inr (2, [.ref ((Q 3) 2)])), ((Q 3) 2, .inl (G.2 0, 4800, .inl (nF (ak 3)))), ((Q 3) 3, .inr (2, [.ref ((Q 3) 4)])), ((Q 3) 4, .inl (G.2 0, 40, .inl (nF (aw 3)))), ((Q 3) 5, .inr (2, [.ref ((Q 3) 6)])), ((Q 3) 6, .inl (G.2 0, 40, .inl (nF (au 3)))), ((Q 3) 7, .inr (2, [.ref ((Q 3) 8)])), ((Q 3) 8, .inl (G.2 0, 3, .inl (nF (ay 3)))), (M 0, .inr (1, [.ref (M 1)])), (M 1, .inr (2, [.ref (M 2)])), (M 2, .inl (G.2 0, 120, .inl (nF mf))), (ga, .inl (G.2 0, 5, .inl (nF gf))), (ma, .inl (G.2 0, 16, .inl (nF mg))), (wa, .inl (G.2 1, 64, .inr (.inl wf)))]) hm hw hl hxs hst (c_w_addMirrored_x3 l G o h T L M P gk gw gt gy R sp f wk sd kd K w y t (by first | assumption | omega) (by first | assumption | omega) ht (by omega) (fun q => q.2 (by omega))) gL_acts_L_mirrors rfl (by decide +kernel) ⟨by decide, by decide⟩ [0, 1, 2, 3, 4, 5, 6, 7, 8, 9, 48, 49, 50] [10, 11, 12, 13, 14, 15, 16, 17, 18, 19, 20, 21, 22, 23, 24, 25, 26, 27, 28, 29, 30, 31, 32, 33, 34, 35, 36, 37, 38, 39, 40, 41, 42, 43, 44, 45, 46, 47, 51, 52, 53, 54, 55, 56] (by decide) rfl rfl (by decide) (by decide) rfl rfl (by simp [Value.category]) ⟨(by show _ ≤ 3; omega), (by show _ ≤ 18; omega)⟩ dL_acts_660 (fun v w1 H locs hp hw => ?_)
                            obtain ⟨f2_112, rfl, rfl⟩ := hp
                            have hw := hw.sub (ws' := wMain G o P h T L M ++ (wPiece G P gk gw gt gy R sp ++ (wHist G h hs Q ak aw au ay aR aS nx sz ++ (wPlan G L f2_112 (pm (sumM (K (R - 1)) (w (R - 1))) t) (pd (sumM (K (R - 1)) (w (R - 1))) t) (pk (sumM (K (R - 1)) (w (R - 1))) t) ++ (wMk G M mf ++ ([(ga, .inl (G.2 0, 5, .inl (nF gf)))] ++ ([(ma, .inl (G.2 0, 16, .inl (nF mg)))] ++ [(wa, .inl (G.2 1, 64, .inr (.inl wf)))]))))))) [44, 45, 46, 47, 48, 49, 50, 51, 52, 53, 0, 1, 2, 3, 4, 5, 6, 7, 8, 9, 10, 11, 12, 13, 14, 15, 16, 17, 18, 19, 20, 21, 22, 23, 24, 25, 26, 27, 28, 29, 30, 31, 32, 33, 34, 35, 36, 37, 54, 55, 56, 38, 39, 40, 41, 42, 43] (by decide) rfl
                            refine W.eq (g2 := F0 m 663 ls [vZ (-30003)]) rfl ?_
                            refine k_sipush (n := -30003) hm dL_acts_663 rfl ?_
                            refine k_icmpne (tgt := 673) hm dL_acts_666 (by decide) (by omega) (fun c_113 => absurd c_113 (by omega)) (fun c_113 => ?_)
                            refine k_iconstN hm 1 dL_acts_669 ?_
                            refine k_goto (tgt := 674) hm dL_acts_670 (by decide) ?_
                            exact k_iret (post := _) hm hQ rfl (kN_bool true) hw (⟨_, _, _, _, _, _, _, _, _, _, _, _, _, _, _, _, _, _, _, _, _, _, _, _, _, _, rfl, rfl, hok, hho, hlo⟩) (by omega) (by omega) dL_acts_674
                  · refine k_iload hm hl 5 rfl dL_acts_548 ?_
                    refine k_bipushN hm 50 dL_acts_550 rfl ?_
                    refine k_idivN hm (by omega) dL_acts_552 ?_
                    refine k_bipushN hm 120 dL_acts_553 rfl ?_
                    refine k_iremN hm (by omega) dL_acts_555 ?_
                    refine k_nmN (fun xs1_114 exs1_114 => ?_)
                    refine k_istore hm hl [(9, vN (xs1_114)), (0, .ref (o)), (1, .ref (ga)), (2, .ref (ma)), (3, .ref (wa)), (4, .int (z)), (5, vN (q_2)), (6, vN (q_5)), (7, vN (sumM (K (R - 1)) (w (R - 1)))), (8, vN (t))] (by decide) rfl dL_acts_556 (fun ls hl => ?_)
                    refine k_aload_n hm hl 2 rfl dL_acts_558 ?_
                    refine k_aload_n hm hl 3 rfl dL_acts_559 ?_
                    refine k_aload_n hm hl 4 rfl dL_acts_560 ?_
                    refine k_iload hm hl 9 rfl dL_acts_561 ?_
                    refine k_iload hm hl 0 rfl dL_acts_563 ?_
                    refine k_iload hm hl 9 rfl dL_acts_565 ?_
                    refine k_iload hm hl 8 rfl dL_acts_567 ?_
                    refine k_icmpge (tgt := 577) hm dL_acts_569 (by decide) (by omega) (fun c_115 => ?_) (fun c_115 => ?_)
                    · refine k_iload hm hl 8 rfl dL_acts_577 ?_
                      refine k_rwV (y := vN (pm (sumM (K (R - 1)) (w (R - 1))) t)) (by unfold pm; rw [if_pos (by omega)]) ?_
                      refine k_iremN hm (by omega) dL_acts_579 ?_
                      have hxm := Nat.mod_lt xs1_114 (show 0 < pm (sumM (K (R - 1)) (w (R - 1))) t by omega)
                      refine k_callS (n := 5) (As := [.ref (ga), .ref (ma), .ref (wa), vN (t), vN (xs1_114 % (pm (sumM (K (R - 1)) (w (R - 1))) t))]) (rest := []) (wr := [(o, .inr (6, [.ref (P 0), .ref (h), .ref (T 0), .ref (L 0), .ref (M 0)])), (P 0, .inr (4, [.ref (P 1), .ref (P 3), .ref (P 5), .ref (P 7), vN (R), vB (sp)])), (P 1, .inr (2, [.ref (P 2)])), (P 2, .inl (G.2 0, 4800, .inl (nF gk))), (P 3, .inr (2, [.ref (P 4)])), (P 4, .inl (G.2 0, 40, .inl (nF gw))), (P 5, .inr (2, [.ref (P 6)])), (P 6, .inl (G.2 0, 40, .inl (nF gt))), (P 7, .inr (2, [.ref (P 8)])), (P 8, .inl (G.2 0, 3, .inl (nF gy))), (h, .inr (0, [.ref (hs), vN (nx), vN (sz)])), (hs, .inl (G.2 2, 4, .inr (.inr (.inr (.inr (fun j => some (Q j 0))))))), ((Q 0) 0, .inr (4, [.ref ((Q 0) 1), .ref ((Q 0) 3), .ref ((Q 0) 5), .ref ((Q 0) 7), vN (aR 0), vB (aS 0)])), ((Q 0) 1, .inr (2, [.ref ((Q 0) 2)])), ((Q 0) 2, .inl (G.2 0, 4800, .inl (nF (ak 0)))), ((Q 0) 3, .inr (2, [.ref ((Q 0) 4)])), ((Q 0) 4, .inl (G.2 0, 40, .inl (nF (aw 0)))), ((Q 0) 5, .inr (2, [.ref ((Q 0) 6)])), ((Q 0) 6, .inl (G.2 0, 40, .inl (nF (au 0)))), ((Q 0) 7, .inr (2, [.ref ((Q 0) 8)])), ((Q 0) 8, .inl (G.2 0, 3, .inl (nF (ay 0)))), ((Q 1) 0, .inr (4, [.ref ((Q 1) 1), .ref ((Q 1) 3), .ref ((Q 1) 5), .ref ((Q 1) 7), vN (aR 1), vB (aS 1)])), ((Q 1) 1, .inr (2, [.ref ((Q 1) 2)])), ((Q 1) 2, .inl (G.2 0, 4800, .inl (nF (ak 1)))), ((Q 1) 3, .inr (2, [.ref ((Q 1) 4)])), ((Q 1) 4, .inl (G.2 0, 40, .inl (nF (aw 1)))), ((Q 1) 5, .inr (2, [.ref ((Q 1) 6)])), ((Q 1) 6, .inl (G.2 0, 40, .inl (nF (au 1)))), ((Q 1) 7, .inr (2, [.ref ((Q 1) 8)])), ((Q 1) 8, .inl (G.2 0, 3, .inl (nF (ay 1)))), ((Q 2) 0, .inr (4, [.ref ((Q 2) 1), .ref ((Q 2) 3), .ref ((Q 2) 5), .ref ((Q 2) 7), vN (aR 2), vB (aS 2)])), ((Q 2) 1, .inr (2, [.ref ((Q 2) 2)])), ((Q 2) 2, .inl (G.2 0, 4800, .inl (nF (ak 2)))), ((Q 2) 3, .inr (2, [.ref ((Q 2) 4)])), ((Q 2) 4, .inl (G.2 0, 40, .inl (nF (aw 2)))), ((Q 2) 5, .inr (2, [.ref ((Q 2) 6)])), ((Q 2) 6, .inl (G.2 0, 40, .inl (nF (au 2)))), ((Q 2) 7, .inr (2, [.ref ((Q 2) 8)])), ((Q 2) 8, .inl (G.2 0, 3, .inl (nF (ay 2)))), ((Q 3) 0, .inr (4, [.ref ((Q 3) 1), .ref ((Q 3) 3), .ref ((Q 3) 5), .ref ((Q 3) 7), vN (aR 3), vB (aS 3)])), ((Q 3) 1, .inr (2, [.ref ((Q 3) 2)])), ((Q 3) 2, .inl (G.2 0, 4800, .inl (nF (ak 3)))), ((Q 3) 3, .inr (2, [.ref ((Q 3) 4)])), ((Q 3) 4, .inl (G.2 0, 40, .inl (nF (aw 3)))), ((Q 3) 5, .inr (2, [.ref ((Q 3) 6)])), ((Q 3) 6, .inl (G.2 0, 40, .inl (nF (au 3)))), ((Q 3) 7, .inr (2, [.ref ((Q 3) 8)])), ((Q 3) 8, .inl (G.2 0, 3, .inl (nF (ay 3)))), (L 0, .inr (5, [.ref (L 1), vN (wk), vN (sd), vN (kd)])), (L 1, .inr (2, [.ref (L 2)])), (L 2, .inl (G.2 0, 120, .inl (nF f))), (M 0, .inr (1, [.ref (M 1)])), (M 1, .inr (2, [.ref (M 2)])), (M 2, .inl (G.2 0, 120, .inl (nF mf)))]) hm hw hl (c_l_lays_s l G ga gf ma mg wa wf R t (xs1_114 % (pm (sumM (K (R - 1)) (w (R - 1))) t)) (K (R - 1)) (w (R - 1)) (sumM (K (R - 1)) (w (R - 1))) hg (by omega) hlk.1 hlk.2 rfl (by omega)) gL_acts_L_lays rfl (by decide +kernel) ⟨by decide, by decide⟩ [54, 55, 56] [0, 1, 2, 3, 4, 5, 6, 7, 8, 9, 10, 11, 12, 13, 14, 15, 16, 17, 18, 19, 20, 21, 22, 23, 24, 25, 26, 27, 28, 29, 30, 31, 32, 33, 34, 35, 36, 37, 38, 39, 40, 41, 42, 43, 44, 45, 46, 47, 48, 49, 50, 51, 52, 53] (by decide) rfl rfl (by decide) (by decide) rfl rfl (by simp [Value.category]) ⟨(by show _ ≤ 3; omega), (by show _ ≤ 18; omega)⟩ dL_acts_580 (fun v w1 H locs hp hw => ?_)
                      obtain ⟨wf2_117, rfl, rfl, hrow_118, hold_119⟩ := hp
                      have hw := hw.sub (ws' := wMain G o P h T L M ++ (wPiece G P gk gw gt gy R sp ++ (wHist G h hs Q ak aw au ay aR aS nx sz ++ (wPlan G L f wk sd kd ++ (wMk G M mf ++ ([(ga, .inl (G.2 0, 5, .inl (nF gf)))] ++ ([(ma, .inl (G.2 0, 16, .inl (nF (nU mg R (pm (sumM (K (R - 1)) (w (R - 1))) t)))))] ++ [(wa, .inl (G.2 1, 64, .inr (.inl wf2_117)))]))))))) [0, 1, 2, 3, 4, 5, 6, 7, 8, 9, 10, 11, 12, 13, 14, 15, 16, 17, 18, 19, 20, 21, 22, 23, 24, 25, 26, 27, 28, 29, 30, 31, 32, 33, 34, 35, 36, 37, 38, 39, 40, 41, 42, 43, 44, 45, 46, 47, 48, 49, 50, 51, 52, 53, 54, 55, 56] (by decide) rfl
                      refine W.eq (g2 := F0 m 583 ls []) rfl ?_
                      have hrow9 := hrow_118
                      rw [spR_mod] at hrow9
                      have hold9 := hold_119
                      refine k_aload_n hm hl 2 rfl dL_acts_583 ?_
                      refine k_iconstN hm 0 dL_acts_584 ?_
                      refine lv_dup2_11 hm.1 hm.2.1 dL_acts_585 rfl rfl ?_
                      refine k_ialdN hm hw 54 rfl (by omega) dL_acts_586 ?_
                      refine k_rwV (y := vN (R)) (by rw [hg]) ?_
                      refine k_iconstN hm 1 dL_acts_587 ?_
                      refine k_iaddN hm dL_acts_588 ?_
                      refine k_iastN hm hw 54 (wMain G o P h T L M ++ (wPiece G P gk gw gt gy R sp ++ (wHist G h hs Q ak aw au ay aR aS nx sz ++ (wPlan G L f wk sd kd ++ (wMk G M mf ++ ([(ga, .inl (G.2 0, 5, .inl (nF (nU gf 0 (R + 1)))))] ++ ([(ma, .inl (G.2 0, 16, .inl (nF (nU mg R (pm (sumM (K (R - 1)) (w (R - 1))) t)))))] ++ [(wa, .inl (G.2 1, 64, .inr (.inl wf2_117)))]))))))) rfl (by omega) rfl dL_acts_589 (fun H locs hw => ?_)
                      refine k_aload_n hm hl 1 rfl dL_acts_590 ?_
                      refine k_iload hm hl 9 rfl dL_acts_591 ?_
                      refine k_iload hm hl 0 rfl dL_acts_593 ?_
                      refine k_callSX (n := 3) (As := [.ref (o), vN (t), vN (xs1_114)]) (rest := []) (wr := [(ga, .inl (G.2 0, 5, .inl (nF (nU gf 0 (R + 1))))), (ma, .inl (G.2 0, 16, .inl (nF (nU mg R (pm (sumM (K (R - 1)) (w (R - 1))) t))))), (wa, .inl (G.2 1, 64, .inr (.inl wf2_117)))]) hm hw hl hxs hst (c_w_addShifted_ok l G o T L M P gk gw gt gy R sp h hs Q ak aw au ay aR aS nx sz f wk sd kd mf K w y sv t xs1_114 (by first | assumption | omega) (by first | assumption | omega) (by omega) (by first | assumption | omega) hpo (by omega)) gL_acts_L_shifts rfl (by decide +kernel) ⟨by decide, by decide⟩ [0, 1, 2, 3, 4, 5, 6, 7, 8, 9, 10, 11, 12, 13, 14, 15, 16, 17, 18, 19, 20, 21, 22, 23, 24, 25, 26, 27, 28, 29, 30, 31, 32, 33, 34, 35, 36, 37, 38, 39, 40, 41, 42, 43, 44, 45, 46, 47, 48, 49, 50, 51, 52, 53] [54, 55, 56] (by decide) rfl rfl (by decide) (by decide) rfl rfl (by simp [Value.category]) ⟨(by show _ ≤ 3; omega), (by show _ ≤ 18; omega)⟩ dL_acts_595 (fun v w1 H locs hp hw => ?_)
                      obtain ⟨gk2_121, gw2_122, gt2_123, ak2_124, aw2_125, au2_126, ay2_127, aR2_128, aS2_129, f2_130, mf2_131, rfl, rfl, hok2_132, hho2_133⟩ := hp
                      have hw := hw.sub (ws' := wMain G o P h T L M ++ (wPiece G P gk2_121 gw2_122 gt2_123 gy (R + 1) sp ++ (wHist G h hs Q ak2_124 aw2_125 au2_126 ay2_127 aR2_128 aS2_129 ((nx + 1) % 4) (Nat.min (sz + 1) 4) ++ (wPlan G L f2_130 (pm (sumM (K (R - 1)) (w (R - 1))) t) (pd (sumM (K (R - 1)) (w (R - 1))) t) (pk (sumM (K (R - 1)) (w (R - 1))) t) ++ (wMk G M mf2_131 ++ ([(ga, .inl (G.2 0, 5, .inl (nF (nU gf 0 (R + 1)))))] ++ ([(ma, .inl (G.2 0, 16, .inl (nF (nU mg R (pm (sumM (K (R - 1)) (w (R - 1))) t)))))] ++ [(wa, .inl (G.2 1, 64, .inr (.inl wf2_117)))]))))))) [3, 4, 5, 6, 7, 8, 9, 10, 11, 12, 13, 14, 15, 16, 17, 18, 19, 20, 21, 22, 23, 24, 25, 26, 27, 28, 29, 30, 31, 32, 33, 34, 35, 36, 37, 38, 39, 40, 41, 42, 43, 44, 45, 46, 47, 48, 49, 50, 51, 52, 53, 54, 55, 56, 0, 1, 2] (by decide) rfl
                      refine W.eq (g2 := F0 m 598 ls [vN (stkC (K (R - 1)) (w (R - 1)) (sumM (K (R - 1)) (w (R - 1))) t xs1_114)]) rfl ?_
                      refine k_aload_n hm hl 3 rfl dL_acts_598 ?_
                      refine k_aload_n hm hl 4 rfl dL_acts_599 ?_
                      refine k_aload_n hm hl 2 rfl dL_acts_600 ?_
                      refine k_iconstN hm 0 dL_acts_601 ?_
                      refine k_ialdN hm hw 54 rfl (by omega) dL_acts_602 ?_
                      refine k_rwV (y := vN (R + 1)) (by rw [nU_s]) ?_
                      refine k_iconstN hm 1 dL_acts_603 ?_
                      refine k_isubN hm (by omega) dL_acts_604 ?_
                      refine k_rwV (y := vN (R)) (by rw [Nat.add_sub_cancel]) ?_
                      have hso9 := spR_ok (x := xs1_114) (show 3 ≤ sumM (K (R - 1)) (w (R - 1)) ∧ sumM (K (R - 1)) (w (R - 1)) ≤ 120 ∧ 3 ≤ t ∧ t ≤ 120 by omega) hpo
                      refine k_callSr (n := 3) (As := [.ref (ma), .ref (wa), vN (R)]) (rest := [vN (stkC (K (R - 1)) (w (R - 1)) (sumM (K (R - 1)) (w (R - 1))) t xs1_114)]) hm hw hl (c_l_stacked l G ma (nU mg R (pm (sumM (K (R - 1)) (w (R - 1))) t)) wa wf2_117 R (spR (sumM (K (R - 1)) (w (R - 1))) t xs1_114) (pm (sumM (K (R - 1)) (w (R - 1))) t) (K (R - 1)) (w (R - 1)) nU_s hrow9 (by omega) (Or.inr ⟨by rw [nU_n (by omega)]; exact hlk.1, RwB_ext hlk.2 (fun q z1 => hold9 q (by omega)), by rw [hso9.2.1], by omega⟩)) gL_acts_L_stacked rfl (by decide +kernel) ⟨by decide, by decide⟩ [55, 56] (by decide) rfl rfl rfl (by simp [Value.category]) ⟨(by show _ ≤ 3; omega), (by show _ ≤ 18; omega)⟩ dL_acts_605 (fun v H locs hp hw => ?_)
                      obtain rfl := hp
                      refine W.eq (g2 := F0 m 608 ls [vN (if R = 0 then 0 else nstk (mkF (K (R - 1)) (w (R - 1))) (spR (sumM (K (R - 1)) (w (R - 1))) t xs1_114) (pm (sumM (K (R - 1)) (w (R - 1))) t)), vN (stkC (K (R - 1)) (w (R - 1)) (sumM (K (R - 1)) (w (R - 1))) t xs1_114)]) rfl ?_
                      refine k_rwV (y := vN (stkC (K (R - 1)) (w (R - 1)) (sumM (K (R - 1)) (w (R - 1))) t xs1_114)) (by rw [if_neg (by omega)]; rfl) ?_
                      have hsl : stkC (K (R - 1)) (w (R - 1)) (sumM (K (R - 1)) (w (R - 1))) t xs1_114 ≤ pm (sumM (K (R - 1)) (w (R - 1))) t := nstk_le _ _ _
                      refine k_icmpne (tgt := 615) hm dL_acts_608 (by decide) (by omega) (fun c_135 => absurd c_135 (by omega)) (fun c_135 => ?_)
                      refine k_iconstN hm 1 dL_acts_611 ?_
                      refine k_goto (tgt := 616) hm dL_acts_612 (by decide) ?_
                      exact k_iret (post := _) hm hQ rfl (kN_bool true) hw (⟨_, _, _, _, _, _, _, _, _, _, _, _, _, _, _, _, _, _, _, _, _, _, _, _, _, _, rfl, rfl, hok2_132, hho2_133, LOk_add hlo (by omega) hrow9 nU_s (fun q z1 => nU_n (by omega)) hold9⟩) (by omega) (by omega) dL_acts_616
                    · refine k_iload hm hl 9 rfl dL_acts_572 ?_
                      refine k_goto (tgt := 579) hm dL_acts_574 (by decide) ?_
                      refine k_rwV (y := vN (pm (sumM (K (R - 1)) (w (R - 1))) t)) (by unfold pm; rw [if_neg (by omega)]) ?_
                      refine k_iremN hm (by omega) dL_acts_579 ?_
                      have hxm := Nat.mod_lt xs1_114 (show 0 < pm (sumM (K (R - 1)) (w (R - 1))) t by omega)
                      refine k_callS (n := 5) (As := [.ref (ga), .ref (ma), .ref (wa), vN (t), vN (xs1_114 % (pm (sumM (K (R - 1)) (w (R - 1))) t))]) (rest := []) (wr := [(o, .inr (6, [.ref (P 0), .ref (h), .ref (T 0), .ref (L 0), .ref (M 0)])), (P 0, .inr (4, [.ref (P 1), .ref (P 3), .ref (P 5), .ref (P 7), vN (R), vB (sp)])), (P 1, .inr (2, [.ref (P 2)])), (P 2, .inl (G.2 0, 4800, .inl (nF gk))), (P 3, .inr (2, [.ref (P 4)])), (P 4, .inl (G.2 0, 40, .inl (nF gw))), (P 5, .inr (2, [.ref (P 6)])), (P 6, .inl (G.2 0, 40, .inl (nF gt))), (P 7, .inr (2, [.ref (P 8)])), (P 8, .inl (G.2 0, 3, .inl (nF gy))), (h, .inr (0, [.ref (hs), vN (nx), vN (sz)])), (hs, .inl (G.2 2, 4, .inr (.inr (.inr (.inr (fun j => some (Q j 0))))))), ((Q 0) 0, .inr (4, [.ref ((Q 0) 1), .ref ((Q 0) 3), .ref ((Q 0) 5), .ref ((Q 0) 7), vN (aR 0), vB (aS 0)])), ((Q 0) 1, .inr (2, [.ref ((Q 0) 2)])), ((Q 0) 2, .inl (G.2 0, 4800, .inl (nF (ak 0)))), ((Q 0) 3, .inr (2, [.ref ((Q 0) 4)])), ((Q 0) 4, .inl (G.2 0, 40, .inl (nF (aw 0)))), ((Q 0) 5, .inr (2, [.ref ((Q 0) 6)])), ((Q 0) 6, .inl (G.2 0, 40, .inl (nF (au 0)))), ((Q 0) 7, .inr (2, [.ref ((Q 0) 8)])), ((Q 0) 8, .inl (G.2 0, 3, .inl (nF (ay 0)))), ((Q 1) 0, .inr (4, [.ref ((Q 1) 1), .ref ((Q 1) 3), .ref ((Q 1) 5), .ref ((Q 1) 7), vN (aR 1), vB (aS 1)])), ((Q 1) 1, .inr (2, [.ref ((Q 1) 2)])), ((Q 1) 2, .inl (G.2 0, 4800, .inl (nF (ak 1)))), ((Q 1) 3, .inr (2, [.ref ((Q 1) 4)])), ((Q 1) 4, .inl (G.2 0, 40, .inl (nF (aw 1)))), ((Q 1) 5, .inr (2, [.ref ((Q 1) 6)])), ((Q 1) 6, .inl (G.2 0, 40, .inl (nF (au 1)))), ((Q 1) 7, .inr (2, [.ref ((Q 1) 8)])), ((Q 1) 8, .inl (G.2 0, 3, .inl (nF (ay 1)))), ((Q 2) 0, .inr (4, [.ref ((Q 2) 1), .ref ((Q 2) 3), .ref ((Q 2) 5), .ref ((Q 2) 7), vN (aR 2), vB (aS 2)])), ((Q 2) 1, .inr (2, [.ref ((Q 2) 2)])), ((Q 2) 2, .inl (G.2 0, 4800, .inl (nF (ak 2)))), ((Q 2) 3, .inr (2, [.ref ((Q 2) 4)])), ((Q 2) 4, .inl (G.2 0, 40, .inl (nF (aw 2)))), ((Q 2) 5, .inr (2, [.ref ((Q 2) 6)])), ((Q 2) 6, .inl (G.2 0, 40, .inl (nF (au 2)))), ((Q 2) 7, .inr (2, [.ref ((Q 2) 8)])), ((Q 2) 8, .inl (G.2 0, 3, .inl (nF (ay 2)))), ((Q 3) 0, .inr (4, [.ref ((Q 3) 1), .ref ((Q 3) 3), .ref ((Q 3) 5), .ref ((Q 3) 7), vN (aR 3), vB (aS 3)])), ((Q 3) 1, .inr (2, [.ref ((Q 3) 2)])), ((Q 3) 2, .inl (G.2 0, 4800, .inl (nF (ak 3)))), ((Q 3) 3, .inr (2, [.ref ((Q 3) 4)])), ((Q 3) 4, .inl (G.2 0, 40, .inl (nF (aw 3)))), ((Q 3) 5, .inr (2, [.ref ((Q 3) 6)])), ((Q 3) 6, .inl (G.2 0, 40, .inl (nF (au 3)))), ((Q 3) 7, .inr (2, [.ref ((Q 3) 8)])), ((Q 3) 8, .inl (G.2 0, 3, .inl (nF (ay 3)))), (L 0, .inr (5, [.ref (L 1), vN (wk), vN (sd), vN (kd)])), (L 1, .inr (2, [.ref (L 2)])), (L 2, .inl (G.2 0, 120, .inl (nF f))), (M 0, .inr (1, [.ref (M 1)])), (M 1, .inr (2, [.ref (M 2)])), (M 2, .inl (G.2 0, 120, .inl (nF mf)))]) hm hw hl (c_l_lays_s l G ga gf ma mg wa wf R t (xs1_114 % (pm (sumM (K (R - 1)) (w (R - 1))) t)) (K (R - 1)) (w (R - 1)) (sumM (K (R - 1)) (w (R - 1))) hg (by omega) hlk.1 hlk.2 rfl (by omega)) gL_acts_L_lays rfl (by decide +kernel) ⟨by decide, by decide⟩ [54, 55, 56] [0, 1, 2, 3, 4, 5, 6, 7, 8, 9, 10, 11, 12, 13, 14, 15, 16, 17, 18, 19, 20, 21, 22, 23, 24, 25, 26, 27, 28, 29, 30, 31, 32, 33, 34, 35, 36, 37, 38, 39, 40, 41, 42, 43, 44, 45, 46, 47, 48, 49, 50, 51, 52, 53] (by decide) rfl rfl (by decide) (by decide) rfl rfl (by simp [Value.category]) ⟨(by show _ ≤ 3; omega), (by show _ ≤ 18; omega)⟩ dL_acts_580 (fun v w1 H locs hp hw => ?_)
                      obtain ⟨wf2_137, rfl, rfl, hrow_138, hold_139⟩ := hp
                      have hw := hw.sub (ws' := wMain G o P h T L M ++ (wPiece G P gk gw gt gy R sp ++ (wHist G h hs Q ak aw au ay aR aS nx sz ++ (wPlan G L f wk sd kd ++ (wMk G M mf ++ ([(ga, .inl (G.2 0, 5, .inl (nF gf)))] ++ ([(ma, .inl (G.2 0, 16, .inl (nF (nU mg R (pm (sumM (K (R - 1)) (w (R - 1))) t)))))] ++ [(wa, .inl (G.2 1, 64, .inr (.inl wf2_137)))]))))))) [0, 1, 2, 3, 4, 5, 6, 7, 8, 9, 10, 11, 12, 13, 14, 15, 16, 17, 18, 19, 20, 21, 22, 23, 24, 25, 26, 27, 28, 29, 30, 31, 32, 33, 34, 35, 36, 37, 38, 39, 40, 41, 42, 43, 44, 45, 46, 47, 48, 49, 50, 51, 52, 53, 54, 55, 56] (by decide) rfl
                      refine W.eq (g2 := F0 m 583 ls []) rfl ?_
                      have hrow9 := hrow_138
                      rw [spR_mod] at hrow9
                      have hold9 := hold_139
                      refine k_aload_n hm hl 2 rfl dL_acts_583 ?_
                      refine k_iconstN hm 0 dL_acts_584 ?_
                      refine lv_dup2_11 hm.1 hm.2.1 dL_acts_585 rfl rfl ?_
                      refine k_ialdN hm hw 54 rfl (by omega) dL_acts_586 ?_
                      refine k_rwV (y := vN (R)) (by rw [hg]) ?_
                      refine k_iconstN hm 1 dL_acts_587 ?_
                      refine k_iaddN hm dL_acts_588 ?_
                      refine k_iastN hm hw 54 (wMain G o P h T L M ++ (wPiece G P gk gw gt gy R sp ++ (wHist G h hs Q ak aw au ay aR aS nx sz ++ (wPlan G L f wk sd kd ++ (wMk G M mf ++ ([(ga, .inl (G.2 0, 5, .inl (nF (nU gf 0 (R + 1)))))] ++ ([(ma, .inl (G.2 0, 16, .inl (nF (nU mg R (pm (sumM (K (R - 1)) (w (R - 1))) t)))))] ++ [(wa, .inl (G.2 1, 64, .inr (.inl wf2_137)))]))))))) rfl (by omega) rfl dL_acts_589 (fun H locs hw => ?_)
                      refine k_aload_n hm hl 1 rfl dL_acts_590 ?_
                      refine k_iload hm hl 9 rfl dL_acts_591 ?_
                      refine k_iload hm hl 0 rfl dL_acts_593 ?_
                      refine k_callSX (n := 3) (As := [.ref (o), vN (t), vN (xs1_114)]) (rest := []) (wr := [(ga, .inl (G.2 0, 5, .inl (nF (nU gf 0 (R + 1))))), (ma, .inl (G.2 0, 16, .inl (nF (nU mg R (pm (sumM (K (R - 1)) (w (R - 1))) t))))), (wa, .inl (G.2 1, 64, .inr (.inl wf2_137)))]) hm hw hl hxs hst (c_w_addShifted_ok l G o T L M P gk gw gt gy R sp h hs Q ak aw au ay aR aS nx sz f wk sd kd mf K w y sv t xs1_114 (by first | assumption | omega) (by first | assumption | omega) (by omega) (by first | assumption | omega) hpo (by omega)) gL_acts_L_shifts rfl (by decide +kernel) ⟨by decide, by decide⟩ [0, 1, 2, 3, 4, 5, 6, 7, 8, 9, 10, 11, 12, 13, 14, 15, 16, 17, 18, 19, 20, 21, 22, 23, 24, 25, 26, 27, 28, 29, 30, 31, 32, 33, 34, 35, 36, 37, 38, 39, 40, 41, 42, 43, 44, 45, 46, 47, 48, 49, 50, 51, 52, 53] [54, 55, 56] (by decide) rfl rfl (by decide) (by decide) rfl rfl (by simp [Value.category]) ⟨(by show _ ≤ 3; omega), (by show _ ≤ 18; omega)⟩ dL_acts_595 (fun v w1 H locs hp hw => ?_)
                      obtain ⟨gk2_141, gw2_142, gt2_143, ak2_144, aw2_145, au2_146, ay2_147, aR2_148, aS2_149, f2_150, mf2_151, rfl, rfl, hok2_152, hho2_153⟩ := hp
                      have hw := hw.sub (ws' := wMain G o P h T L M ++ (wPiece G P gk2_141 gw2_142 gt2_143 gy (R + 1) sp ++ (wHist G h hs Q ak2_144 aw2_145 au2_146 ay2_147 aR2_148 aS2_149 ((nx + 1) % 4) (Nat.min (sz + 1) 4) ++ (wPlan G L f2_150 (pm (sumM (K (R - 1)) (w (R - 1))) t) (pd (sumM (K (R - 1)) (w (R - 1))) t) (pk (sumM (K (R - 1)) (w (R - 1))) t) ++ (wMk G M mf2_151 ++ ([(ga, .inl (G.2 0, 5, .inl (nF (nU gf 0 (R + 1)))))] ++ ([(ma, .inl (G.2 0, 16, .inl (nF (nU mg R (pm (sumM (K (R - 1)) (w (R - 1))) t)))))] ++ [(wa, .inl (G.2 1, 64, .inr (.inl wf2_137)))]))))))) [3, 4, 5, 6, 7, 8, 9, 10, 11, 12, 13, 14, 15, 16, 17, 18, 19, 20, 21, 22, 23, 24, 25, 26, 27, 28, 29, 30, 31, 32, 33, 34, 35, 36, 37, 38, 39, 40, 41, 42, 43, 44, 45, 46, 47, 48, 49, 50, 51, 52, 53, 54, 55, 56, 0, 1, 2] (by decide) rfl
                      refine W.eq (g2 := F0 m 598 ls [vN (stkC (K (R - 1)) (w (R - 1)) (sumM (K (R - 1)) (w (R - 1))) t xs1_114)]) rfl ?_
                      refine k_aload_n hm hl 3 rfl dL_acts_598 ?_
                      refine k_aload_n hm hl 4 rfl dL_acts_599 ?_
                      refine k_aload_n hm hl 2 rfl dL_acts_600 ?_
                      refine k_iconstN hm 0 dL_acts_601 ?_
                      refine k_ialdN hm hw 54 rfl (by omega) dL_acts_602 ?_
                      refine k_rwV (y := vN (R + 1)) (by rw [nU_s]) ?_
                      refine k_iconstN hm 1 dL_acts_603 ?_
                      refine k_isubN hm (by omega) dL_acts_604 ?_
                      refine k_rwV (y := vN (R)) (by rw [Nat.add_sub_cancel]) ?_
                      have hso9 := spR_ok (x := xs1_114) (show 3 ≤ sumM (K (R - 1)) (w (R - 1)) ∧ sumM (K (R - 1)) (w (R - 1)) ≤ 120 ∧ 3 ≤ t ∧ t ≤ 120 by omega) hpo
                      refine k_callSr (n := 3) (As := [.ref (ma), .ref (wa), vN (R)]) (rest := [vN (stkC (K (R - 1)) (w (R - 1)) (sumM (K (R - 1)) (w (R - 1))) t xs1_114)]) hm hw hl (c_l_stacked l G ma (nU mg R (pm (sumM (K (R - 1)) (w (R - 1))) t)) wa wf2_137 R (spR (sumM (K (R - 1)) (w (R - 1))) t xs1_114) (pm (sumM (K (R - 1)) (w (R - 1))) t) (K (R - 1)) (w (R - 1)) nU_s hrow9 (by omega) (Or.inr ⟨by rw [nU_n (by omega)]; exact hlk.1, RwB_ext hlk.2 (fun q z1 => hold9 q (by omega)), by rw [hso9.2.1], by omega⟩)) gL_acts_L_stacked rfl (by decide +kernel) ⟨by decide, by decide⟩ [55, 56] (by decide) rfl rfl rfl (by simp [Value.category]) ⟨(by show _ ≤ 3; omega), (by show _ ≤ 18; omega)⟩ dL_acts_605 (fun v H locs hp hw => ?_)
                      obtain rfl := hp
                      refine W.eq (g2 := F0 m 608 ls [vN (if R = 0 then 0 else nstk (mkF (K (R - 1)) (w (R - 1))) (spR (sumM (K (R - 1)) (w (R - 1))) t xs1_114) (pm (sumM (K (R - 1)) (w (R - 1))) t)), vN (stkC (K (R - 1)) (w (R - 1)) (sumM (K (R - 1)) (w (R - 1))) t xs1_114)]) rfl ?_
                      refine k_rwV (y := vN (stkC (K (R - 1)) (w (R - 1)) (sumM (K (R - 1)) (w (R - 1))) t xs1_114)) (by rw [if_neg (by omega)]; rfl) ?_
                      have hsl : stkC (K (R - 1)) (w (R - 1)) (sumM (K (R - 1)) (w (R - 1))) t xs1_114 ≤ pm (sumM (K (R - 1)) (w (R - 1))) t := nstk_le _ _ _
                      refine k_icmpne (tgt := 615) hm dL_acts_608 (by decide) (by omega) (fun c_155 => absurd c_155 (by omega)) (fun c_155 => ?_)
                      refine k_iconstN hm 1 dL_acts_611 ?_
                      refine k_goto (tgt := 616) hm dL_acts_612 (by decide) ?_
                      exact k_iret (post := _) hm hQ rfl (kN_bool true) hw (⟨_, _, _, _, _, _, _, _, _, _, _, _, _, _, _, _, _, _, _, _, _, _, _, _, _, _, rfl, rfl, hok2_152, hho2_153, LOk_add hlo (by omega) hrow9 nU_s (fun q z1 => nU_n (by omega)) hold9⟩) (by omega) (by omega) dL_acts_616
                · have hno : ¬ isPo (sumM (K (R - 1)) (w (R - 1))) t := fun q => by rw [hcb.mpr q] at c_32; cases c_32
                  refine k_aload_n hm hl 0 rfl dL_acts_498 ?_
                  refine k_iload hm hl 8 rfl dL_acts_499 ?_
                  refine k_callSX (n := 2) (As := [.ref (o), vN (t)]) (rest := []) (wr := [(h, .inr (0, [.ref (hs), vN (nx), vN (sz)])), (hs, .inl (G.2 2, 4, .inr (.inr (.inr (.inr (fun j => some (Q j 0))))))), ((Q 0) 0, .inr (4, [.ref ((Q 0) 1), .ref ((Q 0) 3), .ref ((Q 0) 5), .ref ((Q 0) 7), vN (aR 0), vB (aS 0)])), ((Q 0) 1, .inr (2, [.ref ((Q 0) 2)])), ((Q 0) 2, .inl (G.2 0, 4800, .inl (nF (ak 0)))), ((Q 0) 3, .inr (2, [.ref ((Q 0) 4)])), ((Q 0) 4, .inl (G.2 0, 40, .inl (nF (aw 0)))), ((Q 0) 5, .inr (2, [.ref ((Q 0) 6)])), ((Q 0) 6, .inl (G.2 0, 40, .inl (nF (au 0)))), ((Q 0) 7, .inr (2, [.ref ((Q 0) 8)])), ((Q 0) 8, .inl (G.2 0, 3, .inl (nF (ay 0)))), ((Q 1) 0, .inr (4, [.ref ((Q 1) 1), .ref ((Q 1) 3), .ref ((Q 1) 5), .ref ((Q 1) 7), vN (aR 1), vB (aS 1)])), ((Q 1) 1, .inr (2, [.ref ((Q 1) 2)])), ((Q 1) 2, .inl (G.2 0, 4800, .inl (nF (ak 1)))), ((Q 1) 3, .inr (2, [.ref ((Q 1) 4)])), ((Q 1) 4, .inl (G.2 0, 40, .inl (nF (aw 1)))), ((Q 1) 5, .inr (2, [.ref ((Q 1) 6)])), ((Q 1) 6, .inl (G.2 0, 40, .inl (nF (au 1)))), ((Q 1) 7, .inr (2, [.ref ((Q 1) 8)])), ((Q 1) 8, .inl (G.2 0, 3, .inl (nF (ay 1)))), ((Q 2) 0, .inr (4, [.ref ((Q 2) 1), .ref ((Q 2) 3), .ref ((Q 2) 5), .ref ((Q 2) 7), vN (aR 2), vB (aS 2)])), ((Q 2) 1, .inr (2, [.ref ((Q 2) 2)])), ((Q 2) 2, .inl (G.2 0, 4800, .inl (nF (ak 2)))), ((Q 2) 3, .inr (2, [.ref ((Q 2) 4)])), ((Q 2) 4, .inl (G.2 0, 40, .inl (nF (aw 2)))), ((Q 2) 5, .inr (2, [.ref ((Q 2) 6)])), ((Q 2) 6, .inl (G.2 0, 40, .inl (nF (au 2)))), ((Q 2) 7, .inr (2, [.ref ((Q 2) 8)])), ((Q 2) 8, .inl (G.2 0, 3, .inl (nF (ay 2)))), ((Q 3) 0, .inr (4, [.ref ((Q 3) 1), .ref ((Q 3) 3), .ref ((Q 3) 5), .ref ((Q 3) 7), vN (aR 3), vB (aS 3)])), ((Q 3) 1, .inr (2, [.ref ((Q 3) 2)])), ((Q 3) 2, .inl (G.2 0, 4800, .inl (nF (ak 3)))), ((Q 3) 3, .inr (2, [.ref ((Q 3) 4)])), ((Q 3) 4, .inl (G.2 0, 40, .inl (nF (aw 3)))), ((Q 3) 5, .inr (2, [.ref ((Q 3) 6)])), ((Q 3) 6, .inl (G.2 0, 40, .inl (nF (au 3)))), ((Q 3) 7, .inr (2, [.ref ((Q 3) 8)])), ((Q 3) 8, .inl (G.2 0, 3, .inl (nF (ay 3)))), (M 0, .inr (1, [.ref (M 1)])), (M 1, .inr (2, [.ref (M 2)])), (M 2, .inl (G.2 0, 120, .inl (nF mf))), (ga, .inl (G.2 0, 5, .inl (nF gf))), (ma, .inl (G.2 0, 16, .inl (nF mg))), (wa, .inl (G.2 1, 64, .inr (.inl wf)))]) hm hw hl hxs hst (c_w_addRound_x3 l G o h T L M P gk gw gt gy R sp f wk sd kd K w y t (by first | assumption | omega) (by first | assumption | omega) ht (by omega) hno) gL_acts_L_adds rfl (by decide +kernel) ⟨by decide, by decide⟩ [0, 1, 2, 3, 4, 5, 6, 7, 8, 9, 48, 49, 50] [10, 11, 12, 13, 14, 15, 16, 17, 18, 19, 20, 21, 22, 23, 24, 25, 26, 27, 28, 29, 30, 31, 32, 33, 34, 35, 36, 37, 38, 39, 40, 41, 42, 43, 44, 45, 46, 47, 51, 52, 53, 54, 55, 56] (by decide) rfl rfl (by decide) (by decide) rfl rfl (by simp [Value.category]) ⟨(by show _ ≤ 3; omega), (by show _ ≤ 18; omega)⟩ dL_acts_501 (fun v w1 H locs hp hw => ?_)
                  obtain ⟨f2_157, rfl, rfl⟩ := hp
                  have hw := hw.sub (ws' := wMain G o P h T L M ++ (wPiece G P gk gw gt gy R sp ++ (wHist G h hs Q ak aw au ay aR aS nx sz ++ (wPlan G L f2_157 (pm (sumM (K (R - 1)) (w (R - 1))) t) (pd (sumM (K (R - 1)) (w (R - 1))) t) (pk (sumM (K (R - 1)) (w (R - 1))) t) ++ (wMk G M mf ++ ([(ga, .inl (G.2 0, 5, .inl (nF gf)))] ++ ([(ma, .inl (G.2 0, 16, .inl (nF mg)))] ++ [(wa, .inl (G.2 1, 64, .inr (.inl wf)))]))))))) [44, 45, 46, 47, 48, 49, 50, 51, 52, 53, 0, 1, 2, 3, 4, 5, 6, 7, 8, 9, 10, 11, 12, 13, 14, 15, 16, 17, 18, 19, 20, 21, 22, 23, 24, 25, 26, 27, 28, 29, 30, 31, 32, 33, 34, 35, 36, 37, 54, 55, 56, 38, 39, 40, 41, 42, 43] (by decide) rfl
                  refine W.eq (g2 := F0 m 504 ls [vZ (-30003)]) rfl ?_
                  refine k_sipush (n := -30003) hm dL_acts_504 rfl ?_
                  refine k_icmpne (tgt := 539) hm dL_acts_507 (by decide) (by omega) (fun c_158 => absurd c_158 (by omega)) (fun c_158 => ?_)
                  refine k_aload_n hm hl 0 rfl dL_acts_510 ?_
                  refine k_iload hm hl 8 rfl dL_acts_511 ?_
                  refine k_iconstN hm 1 dL_acts_513 ?_
                  refine k_callSX (n := 3) (As := [.ref (o), vN (t), vN (1)]) (rest := []) (wr := [(h, .inr (0, [.ref (hs), vN (nx), vN (sz)])), (hs, .inl (G.2 2, 4, .inr (.inr (.inr (.inr (fun j => some (Q j 0))))))), ((Q 0) 0, .inr (4, [.ref ((Q 0) 1), .ref ((Q 0) 3), .ref ((Q 0) 5), .ref ((Q 0) 7), vN (aR 0), vB (aS 0)])), ((Q 0) 1, .inr (2, [.ref ((Q 0) 2)])), ((Q 0) 2, .inl (G.2 0, 4800, .inl (nF (ak 0)))), ((Q 0) 3, .inr (2, [.ref ((Q 0) 4)])), ((Q 0) 4, .inl (G.2 0, 40, .inl (nF (aw 0)))), ((Q 0) 5, .inr (2, [.ref ((Q 0) 6)])), ((Q 0) 6, .inl (G.2 0, 40, .inl (nF (au 0)))), ((Q 0) 7, .inr (2, [.ref ((Q 0) 8)])), ((Q 0) 8, .inl (G.2 0, 3, .inl (nF (ay 0)))), ((Q 1) 0, .inr (4, [.ref ((Q 1) 1), .ref ((Q 1) 3), .ref ((Q 1) 5), .ref ((Q 1) 7), vN (aR 1), vB (aS 1)])), ((Q 1) 1, .inr (2, [.ref ((Q 1) 2)])), ((Q 1) 2, .inl (G.2 0, 4800, .inl (nF (ak 1)))), ((Q 1) 3, .inr (2, [.ref ((Q 1) 4)])), ((Q 1) 4, .inl (G.2 0, 40, .inl (nF (aw 1)))), ((Q 1) 5, .inr (2, [.ref ((Q 1) 6)])), ((Q 1) 6, .inl (G.2 0, 40, .inl (nF (au 1)))), ((Q 1) 7, .inr (2, [.ref ((Q 1) 8)])), ((Q 1) 8, .inl (G.2 0, 3, .inl (nF (ay 1)))), ((Q 2) 0, .inr (4, [.ref ((Q 2) 1), .ref ((Q 2) 3), .ref ((Q 2) 5), .ref ((Q 2) 7), vN (aR 2), vB (aS 2)])), ((Q 2) 1, .inr (2, [.ref ((Q 2) 2)])), ((Q 2) 2, .inl (G.2 0, 4800, .inl (nF (ak 2)))), ((Q 2) 3, .inr (2, [.ref ((Q 2) 4)])), ((Q 2) 4, .inl (G.2 0, 40, .inl (nF (aw 2)))), ((Q 2) 5, .inr (2, [.ref ((Q 2) 6)])), ((Q 2) 6, .inl (G.2 0, 40, .inl (nF (au 2)))), ((Q 2) 7, .inr (2, [.ref ((Q 2) 8)])), ((Q 2) 8, .inl (G.2 0, 3, .inl (nF (ay 2)))), ((Q 3) 0, .inr (4, [.ref ((Q 3) 1), .ref ((Q 3) 3), .ref ((Q 3) 5), .ref ((Q 3) 7), vN (aR 3), vB (aS 3)])), ((Q 3) 1, .inr (2, [.ref ((Q 3) 2)])), ((Q 3) 2, .inl (G.2 0, 4800, .inl (nF (ak 3)))), ((Q 3) 3, .inr (2, [.ref ((Q 3) 4)])), ((Q 3) 4, .inl (G.2 0, 40, .inl (nF (aw 3)))), ((Q 3) 5, .inr (2, [.ref ((Q 3) 6)])), ((Q 3) 6, .inl (G.2 0, 40, .inl (nF (au 3)))), ((Q 3) 7, .inr (2, [.ref ((Q 3) 8)])), ((Q 3) 8, .inl (G.2 0, 3, .inl (nF (ay 3)))), (M 0, .inr (1, [.ref (M 1)])), (M 1, .inr (2, [.ref (M 2)])), (M 2, .inl (G.2 0, 120, .inl (nF mf))), (ga, .inl (G.2 0, 5, .inl (nF gf))), (ma, .inl (G.2 0, 16, .inl (nF mg))), (wa, .inl (G.2 1, 64, .inr (.inl wf)))]) hm hw hl hxs hst (c_w_addShifted_x3 l G o h T L M P gk gw gt gy R sp f2_157 (pm (sumM (K (R - 1)) (w (R - 1))) t) (pd (sumM (K (R - 1)) (w (R - 1))) t) (pk (sumM (K (R - 1)) (w (R - 1))) t) K w y t 1 (by first | assumption | omega) (by first | assumption | omega) ht (by omega) (by omega) hno) gL_acts_L_shifts rfl (by decide +kernel) ⟨by decide, by decide⟩ [0, 1, 2, 3, 4, 5, 6, 7, 8, 9, 48, 49, 50] [10, 11, 12, 13, 14, 15, 16, 17, 18, 19, 20, 21, 22, 23, 24, 25, 26, 27, 28, 29, 30, 31, 32, 33, 34, 35, 36, 37, 38, 39, 40, 41, 42, 43, 44, 45, 46, 47, 51, 52, 53, 54, 55, 56] (by decide) rfl rfl (by decide) (by decide) rfl rfl (by simp [Value.category]) ⟨(by show _ ≤ 3; omega), (by show _ ≤ 18; omega)⟩ dL_acts_514 (fun v w1 H locs hp hw => ?_)
                  obtain ⟨f2_160, rfl, rfl⟩ := hp
                  have hw := hw.sub (ws' := wMain G o P h T L M ++ (wPiece G P gk gw gt gy R sp ++ (wHist G h hs Q ak aw au ay aR aS nx sz ++ (wPlan G L f2_160 (pm (sumM (K (R - 1)) (w (R - 1))) t) (pd (sumM (K (R - 1)) (w (R - 1))) t) (pk (sumM (K (R - 1)) (w (R - 1))) t) ++ (wMk G M mf ++ ([(ga, .inl (G.2 0, 5, .inl (nF gf)))] ++ ([(ma, .inl (G.2 0, 16, .inl (nF mg)))] ++ [(wa, .inl (G.2 1, 64, .inr (.inl wf)))]))))))) [44, 45, 46, 47, 48, 49, 50, 51, 52, 53, 0, 1, 2, 3, 4, 5, 6, 7, 8, 9, 10, 11, 12, 13, 14, 15, 16, 17, 18, 19, 20, 21, 22, 23, 24, 25, 26, 27, 28, 29, 30, 31, 32, 33, 34, 35, 36, 37, 54, 55, 56, 38, 39, 40, 41, 42, 43] (by decide) rfl
                  refine W.eq (g2 := F0 m 517 ls [vZ (-30003)]) rfl ?_
                  refine k_sipush (n := -30003) hm dL_acts_517 rfl ?_
                  refine k_icmpne (tgt := 539) hm dL_acts_520 (by decide) (by omega) (fun c_161 => absurd c_161 (by omega)) (fun c_161 => ?_)
                  refine k_aload_n hm hl 0 rfl dL_acts_523 ?_
                  refine k_iload hm hl 8 rfl dL_acts_524 ?_
                  refine k_callSX (n := 2) (As := [.ref (o), vN (t)]) (rest := []) (wr := [(h, .inr (0, [.ref (hs), vN (nx), vN (sz)])), (hs, .inl (G.2 2, 4, .inr (.inr (.inr (.inr (fun j => some (Q j 0))))))), ((Q 0) 0, .inr (4, [.ref ((Q 0) 1), .ref ((Q 0) 3), .ref ((Q 0) 5), .ref ((Q 0) 7), vN (aR 0), vB (aS 0)])), ((Q 0) 1, .inr (2, [.ref ((Q 0) 2)])), ((Q 0) 2, .inl (G.2 0, 4800, .inl (nF (ak 0)))), ((Q 0) 3, .inr (2, [.ref ((Q 0) 4)])), ((Q 0) 4, .inl (G.2 0, 40, .inl (nF (aw 0)))), ((Q 0) 5, .inr (2, [.ref ((Q 0) 6)])), ((Q 0) 6, .inl (G.2 0, 40, .inl (nF (au 0)))), ((Q 0) 7, .inr (2, [.ref ((Q 0) 8)])), ((Q 0) 8, .inl (G.2 0, 3, .inl (nF (ay 0)))), ((Q 1) 0, .inr (4, [.ref ((Q 1) 1), .ref ((Q 1) 3), .ref ((Q 1) 5), .ref ((Q 1) 7), vN (aR 1), vB (aS 1)])), ((Q 1) 1, .inr (2, [.ref ((Q 1) 2)])), ((Q 1) 2, .inl (G.2 0, 4800, .inl (nF (ak 1)))), ((Q 1) 3, .inr (2, [.ref ((Q 1) 4)])), ((Q 1) 4, .inl (G.2 0, 40, .inl (nF (aw 1)))), ((Q 1) 5, .inr (2, [.ref ((Q 1) 6)])), ((Q 1) 6, .inl (G.2 0, 40, .inl (nF (au 1)))), ((Q 1) 7, .inr (2, [.ref ((Q 1) 8)])), ((Q 1) 8, .inl (G.2 0, 3, .inl (nF (ay 1)))), ((Q 2) 0, .inr (4, [.ref ((Q 2) 1), .ref ((Q 2) 3), .ref ((Q 2) 5), .ref ((Q 2) 7), vN (aR 2), vB (aS 2)])), ((Q 2) 1, .inr (2, [.ref ((Q 2) 2)])), ((Q 2) 2, .inl (G.2 0, 4800, .inl (nF (ak 2)))), ((Q 2) 3, .inr (2, [.ref ((Q 2) 4)])), ((Q 2) 4, .inl (G.2 0, 40, .inl (nF (aw 2)))), ((Q 2) 5, .inr (2, [.ref ((Q 2) 6)])), ((Q 2) 6, .inl (G.2 0, 40, .inl (nF (au 2)))), ((Q 2) 7, .inr (2, [.ref ((Q 2) 8)])), ((Q 2) 8, .inl (G.2 0, 3, .inl (nF (ay 2)))), ((Q 3) 0, .inr (4, [.ref ((Q 3) 1), .ref ((Q 3) 3), .ref ((Q 3) 5), .ref ((Q 3) 7), vN (aR 3), vB (aS 3)])), ((Q 3) 1, .inr (2, [.ref ((Q 3) 2)])), ((Q 3) 2, .inl (G.2 0, 4800, .inl (nF (ak 3)))), ((Q 3) 3, .inr (2, [.ref ((Q 3) 4)])), ((Q 3) 4, .inl (G.2 0, 40, .inl (nF (aw 3)))), ((Q 3) 5, .inr (2, [.ref ((Q 3) 6)])), ((Q 3) 6, .inl (G.2 0, 40, .inl (nF (au 3)))), ((Q 3) 7, .inr (2, [.ref ((Q 3) 8)])), ((Q 3) 8, .inl (G.2 0, 3, .inl (nF (ay 3)))), (M 0, .inr (1, [.ref (M 1)])), (M 1, .inr (2, [.ref (M 2)])), (M 2, .inl (G.2 0, 120, .inl (nF mf))), (ga, .inl (G.2 0, 5, .inl (nF gf))), (ma, .inl (G.2 0, 16, .inl (nF mg))), (wa, .inl (G.2 1, 64, .inr (.inl wf)))]) hm hw hl hxs hst (c_w_addMirrored_x3 l G o h T L M P gk gw gt gy R sp f2_160 (pm (sumM (K (R - 1)) (w (R - 1))) t) (pd (sumM (K (R - 1)) (w (R - 1))) t) (pk (sumM (K (R - 1)) (w (R - 1))) t) K w y t (by first | assumption | omega) (by first | assumption | omega) ht (by omega) (fun q => hno q.1)) gL_acts_L_mirrors rfl (by decide +kernel) ⟨by decide, by decide⟩ [0, 1, 2, 3, 4, 5, 6, 7, 8, 9, 48, 49, 50] [10, 11, 12, 13, 14, 15, 16, 17, 18, 19, 20, 21, 22, 23, 24, 25, 26, 27, 28, 29, 30, 31, 32, 33, 34, 35, 36, 37, 38, 39, 40, 41, 42, 43, 44, 45, 46, 47, 51, 52, 53, 54, 55, 56] (by decide) rfl rfl (by decide) (by decide) rfl rfl (by simp [Value.category]) ⟨(by show _ ≤ 3; omega), (by show _ ≤ 18; omega)⟩ dL_acts_526 (fun v w1 H locs hp hw => ?_)
                  obtain ⟨f2_163, rfl, rfl⟩ := hp
                  have hw := hw.sub (ws' := wMain G o P h T L M ++ (wPiece G P gk gw gt gy R sp ++ (wHist G h hs Q ak aw au ay aR aS nx sz ++ (wPlan G L f2_163 (pm (sumM (K (R - 1)) (w (R - 1))) t) (pd (sumM (K (R - 1)) (w (R - 1))) t) (pk (sumM (K (R - 1)) (w (R - 1))) t) ++ (wMk G M mf ++ ([(ga, .inl (G.2 0, 5, .inl (nF gf)))] ++ ([(ma, .inl (G.2 0, 16, .inl (nF mg)))] ++ [(wa, .inl (G.2 1, 64, .inr (.inl wf)))]))))))) [44, 45, 46, 47, 48, 49, 50, 51, 52, 53, 0, 1, 2, 3, 4, 5, 6, 7, 8, 9, 10, 11, 12, 13, 14, 15, 16, 17, 18, 19, 20, 21, 22, 23, 24, 25, 26, 27, 28, 29, 30, 31, 32, 33, 34, 35, 36, 37, 54, 55, 56, 38, 39, 40, 41, 42, 43] (by decide) rfl
                  refine W.eq (g2 := F0 m 529 ls [vZ (-30003)]) rfl ?_
                  refine k_sipush (n := -30003) hm dL_acts_529 rfl ?_
                  refine k_icmpne (tgt := 539) hm dL_acts_532 (by decide) (by omega) (fun c_164 => absurd c_164 (by omega)) (fun c_164 => ?_)
                  refine k_iconstN hm 1 dL_acts_535 ?_
                  refine k_goto (tgt := 540) hm dL_acts_536 (by decide) ?_
                  exact k_iret (post := _) hm hQ rfl (kN_bool true) hw (⟨_, _, _, _, _, _, _, _, _, _, _, _, _, _, _, _, _, _, _, _, _, _, _, _, _, _, rfl, rfl, hok, hho, hlo⟩) (by omega) (by omega) dL_acts_540
              · refine k_iload hm hl 5 rfl dL_acts_370 ?_
                refine k_iconstN hm 5 dL_acts_372 ?_
                refine k_iremN hm (by omega) dL_acts_373 ?_
                refine k_nmN (fun sh1_165 esh1_165 => ?_)
                refine k_istore hm hl [(9, vN (sh1_165)), (0, .ref (o)), (1, .ref (ga)), (2, .ref (ma)), (3, .ref (wa)), (4, .int (z)), (5, vN (q_2)), (6, vN (q_5)), (7, vN (sumM (K (R - 1)) (w (R - 1)))), (8, vN (t))] (by decide) rfl dL_acts_374 (fun ls hl => ?_)
                refine k_iconstN hm 1 dL_acts_376 ?_
                refine k_iload hm hl 6 rfl dL_acts_377 ?_
                refine k_iconstN hm 5 dL_acts_379 ?_
                refine k_idivN hm (by omega) dL_acts_380 ?_
                refine k_bipushN hm 20 dL_acts_381 rfl ?_
                refine k_iremN hm (by omega) dL_acts_383 ?_
                refine k_iaddN hm dL_acts_384 ?_
                refine k_nmN (fun sz1_166 esz1_166 => ?_)
                refine k_istore hm hl [(10, vN (sz1_166)), (9, vN (sh1_165)), (0, .ref (o)), (1, .ref (ga)), (2, .ref (ma)), (3, .ref (wa)), (4, .int (z)), (5, vN (q_2)), (6, vN (q_5)), (7, vN (sumM (K (R - 1)) (w (R - 1)))), (8, vN (t))] (by decide) rfl dL_acts_385 (fun ls hl => ?_)
                refine k_iconstN hm 1 dL_acts_387 ?_
                refine k_iload hm hl 7 rfl dL_acts_388 ?_
                refine k_bipushN hm 100 dL_acts_390 rfl ?_
                refine k_idivN hm (by omega) dL_acts_392 ?_
                refine k_iconstN hm 3 dL_acts_393 ?_
                refine k_iremN hm (by omega) dL_acts_394 ?_
                refine k_iaddN hm dL_acts_395 ?_
                refine k_nmN (fun mn1_167 emn1_167 => ?_)
                refine k_istore hm hl [(11, vN (mn1_167)), (10, vN (sz1_166)), (9, vN (sh1_165)), (0, .ref (o)), (1, .ref (ga)), (2, .ref (ma)), (3, .ref (wa)), (4, .int (z)), (5, vN (q_2)), (6, vN (q_5)), (7, vN (sumM (K (R - 1)) (w (R - 1)))), (8, vN (t))] (by decide) rfl dL_acts_396 (fun ls hl => ?_)
                refine k_iconstN hm 0 dL_acts_398 ?_
                refine k_istore hm hl [(12, vN (0)), (11, vN (mn1_167)), (10, vN (sz1_166)), (9, vN (sh1_165)), (0, .ref (o)), (1, .ref (ga)), (2, .ref (ma)), (3, .ref (wa)), (4, .int (z)), (5, vN (q_2)), (6, vN (q_5)), (7, vN (sumM (K (R - 1)) (w (R - 1)))), (8, vN (t))] (by decide) rfl dL_acts_399 (fun ls hl => ?_)
                refine k_iconstN hm 0 dL_acts_401 ?_
                refine k_istore hm hl [(13, vN (0)), (12, vN (0)), (11, vN (mn1_167)), (10, vN (sz1_166)), (9, vN (sh1_165)), (0, .ref (o)), (1, .ref (ga)), (2, .ref (ma)), (3, .ref (wa)), (4, .int (z)), (5, vN (q_2)), (6, vN (q_5)), (7, vN (sumM (K (R - 1)) (w (R - 1)))), (8, vN (t))] (by decide) rfl dL_acts_402 (fun ls hl => ?_)
                have loop_404 : ∀ (fu : Nat) (dn : Nat) (k1 : Nat) (gf1 : Nat → Nat) (mg1 : Nat → Nat) (wf1 : Nat → Int64) (R1 : Nat) (K1 : Nat → Nat → Nat) (w1 : Nat → Nat) (hk1 : k1 ≤ mn1_167 ∧ dn ≤ k1 ∧ R1 = R + dn) (hl1 : LOk gf1 mg1 wf1 R1 sp K1 w1 y) (hv1 : PVd R1 K1 w1 y) (hss : (dn = k1 ∧ ∀ c2 K2 w2, shS sh1_165 sz1_166 (mn1_167 - k1) R1 K1 w1 c2 K2 w2 → shS sh1_165 sz1_166 mn1_167 R K w (dn + c2) K2 w2) ∨ (dn < k1 ∧ shS sh1_165 sz1_166 mn1_167 R K w dn K1 w1)) (H : Heap) (locs : List Loc) (ls : Array Slot), mn1_167 - k1 < fu → kW G A s (wMain G o P h T L M ++ (wPiece G P gk gw gt gy R sp ++ (wHist G h hs Q ak aw au ay aR aS nx sz ++ (wPlan G L f wk sd kd ++ (wMk G M mf ++ ([(ga, .inl (G.2 0, 5, .inl (nF gf1)))] ++ ([(ma, .inl (G.2 0, 16, .inl (nF mg1)))] ++ [(wa, .inl (G.2 1, 64, .inr (.inl wf1)))]))))))) H locs → lv_has ls 15 [(0, .ref (o)), (1, .ref (ga)), (2, .ref (ma)), (3, .ref (wa)), (4, .int (z)), (5, vN (q_2)), (6, vN (q_5)), (7, vN (sumM (K (R - 1)) (w (R - 1)))), (8, vN (t)), (9, vN (sh1_165)), (10, vN (sz1_166)), (11, vN (mn1_167)), (12, vN (dn)), (13, vN (k1))] → W p l e { frames := 10, cells := 3, slots := 18, locals := 175 } s m args below meth c H locs 0 0 Qz (F0 m 404 ls []) := by
                  intro fu
                  induction fu with
                  | zero => intro dn k1 gf1 mg1 wf1 R1 K1 w1 hk1 hl1 hv1 hss H locs ls hfu; exact absurd hfu (Nat.not_lt_zero _)
                  | succ fu ih_404 =>
                    intro dn k1 gf1 mg1 wf1 R1 K1 w1 hk1 hl1 hv1 hss H locs ls hfu hw hl
                    refine k_iload hm hl 13 rfl dL_acts_404 ?_
                    refine k_iload hm hl 11 rfl dL_acts_406 ?_
                    refine k_icmpge (tgt := 467) hm dL_acts_408 (by decide) (by omega) (fun c_168 => ?_) (fun c_168 => ?_)
                    · have hfin : shS sh1_165 sz1_166 mn1_167 R K w dn K1 w1 := hss.elim (fun z1 => z1.2 0 K1 w1 (shS_0 (Or.inl (by omega)))) (fun z1 => z1.2)
                      refine k_aload_n hm hl 0 rfl dL_acts_467 ?_
                      refine k_iload hm hl 9 rfl dL_acts_468 ?_
                      refine k_iload hm hl 10 rfl dL_acts_470 ?_
                      refine k_iload hm hl 11 rfl dL_acts_472 ?_
                      refine k_callSX (n := 4) (As := [.ref (o), vN (sh1_165), vN (sz1_166), vN (mn1_167)]) (rest := []) (wr := [(ga, .inl (G.2 0, 5, .inl (nF gf1))), (ma, .inl (G.2 0, 16, .inl (nF mg1))), (wa, .inl (G.2 1, 64, .inr (.inl wf1)))]) hm hw hl hxs hst (c_w_addShape_ok l G o T L M P gk gw gt gy R sp h hs Q ak aw au ay aR aS nx sz f wk sd kd mf K w y sv sh1_165 sz1_166 mn1_167 (by first | assumption | omega) (by first | assumption | omega) (by omega)) gL_acts_L_shapes rfl (by decide +kernel) ⟨by decide, by decide⟩ [0, 1, 2, 3, 4, 5, 6, 7, 8, 9, 10, 11, 12, 13, 14, 15, 16, 17, 18, 19, 20, 21, 22, 23, 24, 25, 26, 27, 28, 29, 30, 31, 32, 33, 34, 35, 36, 37, 38, 39, 40, 41, 42, 43, 44, 45, 46, 47, 48, 49, 50, 51, 52, 53] [54, 55, 56] (by decide) rfl rfl (by decide) (by decide) rfl rfl (by simp [Value.category]) ⟨(by show _ ≤ 3; omega), (by show _ ≤ 18; omega)⟩ dL_acts_474 (fun v w1 H locs hp hw => ?_)
                      obtain ⟨q_170, K2_171, w2_172, gk2_173, gw2_174, gt2_175, ak2_176, aw2_177, au2_178, ay2_179, aR2_180, aS2_181, f2_182, wk2_183, sd2_184, kd2_185, mf2_186, rfl, rfl, hsh_187, hok2_188, hho2_189⟩ := hp
                      have hw := hw.sub (ws' := wMain G o P h T L M ++ (wPiece G P gk2_173 gw2_174 gt2_175 gy (R + q_170) sp ++ (wHist G h hs Q ak2_176 aw2_177 au2_178 ay2_179 aR2_180 aS2_181 ((nx + 1) % 4) (Nat.min (sz + 1) 4) ++ (wPlan G L f2_182 wk2_183 sd2_184 kd2_185 ++ (wMk G M mf2_186 ++ ([(ga, .inl (G.2 0, 5, .inl (nF gf1)))] ++ ([(ma, .inl (G.2 0, 16, .inl (nF mg1)))] ++ [(wa, .inl (G.2 1, 64, .inr (.inl wf1)))]))))))) [3, 4, 5, 6, 7, 8, 9, 10, 11, 12, 13, 14, 15, 16, 17, 18, 19, 20, 21, 22, 23, 24, 25, 26, 27, 28, 29, 30, 31, 32, 33, 34, 35, 36, 37, 38, 39, 40, 41, 42, 43, 44, 45, 46, 47, 48, 49, 50, 51, 52, 53, 54, 55, 56, 0, 1, 2] (by decide) rfl
                      refine W.eq (g2 := F0 m 477 ls [vN (q_170)]) rfl ?_
                      obtain ⟨e9, e8, e7⟩ := shS_u hsh_187 hfin
                      refine k_iload hm hl 12 rfl dL_acts_477 ?_
                      refine k_icmpne (tgt := 486) hm dL_acts_479 (by decide) (by omega) (fun c_190 => absurd c_190 (by omega)) (fun c_190 => ?_)
                      refine k_iconstN hm 1 dL_acts_482 ?_
                      refine k_goto (tgt := 487) hm dL_acts_483 (by decide) ?_
                      exact k_iret (post := _) hm hQ rfl (kN_bool true) hw (⟨_, _, _, _, _, _, _, _, _, _, _, _, _, _, _, _, _, _, _, _, _, _, _, _, _, _, rfl, rfl, hok2_188, hho2_189, by rw [e9, e8, e7, ← hk1.2.2]; exact hl1⟩) (by omega) (by omega) dL_acts_487
                    · have ht01 := tot0_rng hv1
                      have hll1 := PVd_last hv1
                      have hg1 := hl1.1.2.1
                      have hlk1 := hl1.2 (R1 - 1) (by omega)
                      have hgr := goalF_rng (sh := sh1_165) (sz := sz1_166) (r := R1) ht01
                      refine k_aload_n hm hl 2 rfl dL_acts_411 ?_
                      refine k_iload hm hl 9 rfl dL_acts_412 ?_
                      refine k_iload hm hl 10 rfl dL_acts_414 ?_
                      refine k_aload_n hm hl 1 rfl dL_acts_416 ?_
                      refine k_iconstN hm 0 dL_acts_417 ?_
                      refine k_ialdN hm hw 54 rfl (by omega) dL_acts_418 ?_
                      refine k_rwV (y := vN (R1)) (by rw [hg1]) ?_
                      refine k_callSr (n := 4) (As := [.ref (ma), vN (sh1_165), vN (sz1_166), vN (R1)]) (rest := []) hm hw hl (c_l_goal l G ma mg1 (sumM (K1 0) (w1 0)) sh1_165 sz1_166 R1 (by omega) (by rw [(hl1.2 0 (by omega)).1, tot0 hv1]) (by omega)) gL_acts_L_goal rfl (by decide +kernel) ⟨by decide, by decide⟩ [55] (by decide) rfl rfl rfl (by simp [Value.category]) ⟨(by show _ ≤ 3; omega), (by show _ ≤ 18; omega)⟩ dL_acts_419 (fun v H locs hp hw => ?_)
                      obtain rfl := hp
                      refine W.eq (g2 := F0 m 422 ls [vN (goalF (sumM (K1 0) (w1 0)) sh1_165 sz1_166 R1)]) rfl ?_
                      refine k_istore hm hl [(14, vN (goalF (sumM (K1 0) (w1 0)) sh1_165 sz1_166 R1)), (0, .ref (o)), (1, .ref (ga)), (2, .ref (ma)), (3, .ref (wa)), (4, .int (z)), (5, vN (q_2)), (6, vN (q_5)), (7, vN (sumM (K (R - 1)) (w (R - 1)))), (8, vN (t)), (9, vN (sh1_165)), (10, vN (sz1_166)), (11, vN (mn1_167)), (12, vN (dn)), (13, vN (k1))] (by decide) rfl dL_acts_422 (fun ls hl => ?_)
                      refine k_iload hm hl 13 rfl dL_acts_424 ?_
                      refine k_iload hm hl 14 rfl dL_acts_426 ?_
                      refine k_icmpne (tgt := 461) hm dL_acts_428 (by decide) (by omega) (fun c_192 => ?_) (fun c_192 => ?_)
                      · refine k_iincN hm hl 14 1 rfl [(13, vN (k1 + 1)), (14, vN (goalF (sumM (K1 0) (w1 0)) sh1_165 sz1_166 R1)), (0, .ref (o)), (1, .ref (ga)), (2, .ref (ma)), (3, .ref (wa)), (4, .int (z)), (5, vN (q_2)), (6, vN (q_5)), (7, vN (sumM (K (R - 1)) (w (R - 1)))), (8, vN (t)), (9, vN (sh1_165)), (10, vN (sz1_166)), (11, vN (mn1_167)), (12, vN (dn))] (by decide) rfl dL_acts_461 (fun ls hl => ?_)
                        refine k_goto (tgt := 404) hm dL_acts_464 (by decide) ?_
                        exact ih_404  dn (k1 + 1) gf1 mg1 wf1 R1 K1 w1 (by omega) hl1 hv1 (by
                              rcases hss with ⟨z1, z2⟩ | ⟨z1, z2⟩
                              · omega
                              · exact Or.inr ⟨by omega, z2⟩) _ _ _ (by omega) hw (lv_sub hl [2, 3, 4, 5, 6, 7, 8, 9, 10, 11, 12, 13, 14, 0] rfl)
                      · refine k_iload hm hl 0 rfl dL_acts_431 ?_
                        refine k_aload_n hm hl 3 rfl dL_acts_433 ?_
                        refine k_aload_n hm hl 4 rfl dL_acts_434 ?_
                        refine k_aload_n hm hl 2 rfl dL_acts_435 ?_
                        refine k_iconstN hm 0 dL_acts_436 ?_
                        refine k_ialdN hm hw 54 rfl (by omega) dL_acts_437 ?_
                        refine k_rwV (y := vN (R1)) (by rw [hg1]) ?_
                        refine k_iconstN hm 1 dL_acts_438 ?_
                        refine k_isubN hm (by omega) dL_acts_439 ?_
                        refine k_callSr (n := 3) (As := [.ref (ma), .ref (wa), vN (R1 - 1)]) (rest := [vN (goalF (sumM (K1 0) (w1 0)) sh1_165 sz1_166 R1)]) hm hw hl (c_l_total l G ma mg1 wa wf1 (R1 - 1) (K1 (R1 - 1)) (w1 (R1 - 1)) hlk1.1 hlk1.2 (by omega)) gL_acts_L_total rfl (by decide +kernel) ⟨by decide, by decide⟩ [55, 56] (by decide) rfl rfl rfl (by simp [Value.category]) ⟨(by show _ ≤ 3; omega), (by show _ ≤ 18; omega)⟩ dL_acts_440 (fun v H locs hp hw => ?_)
                        obtain rfl := hp
                        refine W.eq (g2 := F0 m 443 ls [vN (sumM (K1 (R1 - 1)) (w1 (R1 - 1))), vN (goalF (sumM (K1 0) (w1 0)) sh1_165 sz1_166 R1)]) rfl ?_
                        refine k_callSr (n := 2) (As := [vN (goalF (sumM (K1 0) (w1 0)) sh1_165 sz1_166 R1), vN (sumM (K1 (R1 - 1)) (w1 (R1 - 1)))]) (rest := []) hm hw hl (c_l_canBe l G (goalF (sumM (K1 0) (w1 0)) sh1_165 sz1_166 R1) (sumM (K1 (R1 - 1)) (w1 (R1 - 1))) (by first | assumption | omega)) gL_acts_L_canBe rfl (by decide +kernel) ⟨by decide, by decide⟩ [] (by decide) rfl rfl rfl (by simp [Value.category]) ⟨(by show _ ≤ 3; omega), (by show _ ≤ 18; omega)⟩ dL_acts_443 (fun v H locs hp hw => ?_)
                        obtain ⟨b_195, rfl, hb_196⟩ := hp
                        refine W.eq (g2 := F0 m 446 ls [vB (b_195)]) rfl ?_
                        have hcb := hb_196
                        refine k_ifeqB (tgt := 461) hm dL_acts_446 (by decide) (fun c_197 => ?_) (fun c_197 => ?_)
                        · have hno1 : ¬ isPo (sumM (K1 (R1 - 1)) (w1 (R1 - 1))) (goalF (sumM (K1 0) (w1 0)) sh1_165 sz1_166 R1) := fun q => by rw [hcb.mpr q] at c_197; cases c_197
                          refine k_iincN hm hl 14 1 rfl [(13, vN (k1 + 1)), (14, vN (goalF (sumM (K1 0) (w1 0)) sh1_165 sz1_166 R1)), (0, .ref (o)), (1, .ref (ga)), (2, .ref (ma)), (3, .ref (wa)), (4, .int (z)), (5, vN (q_2)), (6, vN (q_5)), (7, vN (sumM (K (R - 1)) (w (R - 1)))), (8, vN (t)), (9, vN (sh1_165)), (10, vN (sz1_166)), (11, vN (mn1_167)), (12, vN (dn))] (by decide) rfl dL_acts_461 (fun ls hl => ?_)
                          refine k_goto (tgt := 404) hm dL_acts_464 (by decide) ?_
                          exact ih_404  dn (k1 + 1) gf1 mg1 wf1 R1 K1 w1 (by omega) hl1 hv1 (by
                              rcases hss with ⟨z1, z2⟩ | ⟨z1, z2⟩
                              · refine Or.inr ⟨by omega, ?_⟩
                                have z3 := z2 0 K1 w1 (shS_0 (Or.inr (fun z => hno1 z.2)))
                                exact z3
                              · omega) _ _ _ (by omega) hw (lv_sub hl [2, 3, 4, 5, 6, 7, 8, 9, 10, 11, 12, 13, 14, 0] rfl)
                        · have hpo1 := hcb.mp c_197
                          refine k_aload_n hm hl 2 rfl dL_acts_449 ?_
                          refine k_aload_n hm hl 3 rfl dL_acts_450 ?_
                          refine k_aload_n hm hl 4 rfl dL_acts_451 ?_
                          refine k_iload hm hl 0 rfl dL_acts_452 ?_
                          refine k_callS (n := 4) (As := [.ref (ga), .ref (ma), .ref (wa), vN (goalF (sumM (K1 0) (w1 0)) sh1_165 sz1_166 R1)]) (rest := []) (wr := [(o, .inr (6, [.ref (P 0), .ref (h), .ref (T 0), .ref (L 0), .ref (M 0)])), (P 0, .inr (4, [.ref (P 1), .ref (P 3), .ref (P 5), .ref (P 7), vN (R), vB (sp)])), (P 1, .inr (2, [.ref (P 2)])), (P 2, .inl (G.2 0, 4800, .inl (nF gk))), (P 3, .inr (2, [.ref (P 4)])), (P 4, .inl (G.2 0, 40, .inl (nF gw))), (P 5, .inr (2, [.ref (P 6)])), (P 6, .inl (G.2 0, 40, .inl (nF gt))), (P 7, .inr (2, [.ref (P 8)])), (P 8, .inl (G.2 0, 3, .inl (nF gy))), (h, .inr (0, [.ref (hs), vN (nx), vN (sz)])), (hs, .inl (G.2 2, 4, .inr (.inr (.inr (.inr (fun j => some (Q j 0))))))), ((Q 0) 0, .inr (4, [.ref ((Q 0) 1), .ref ((Q 0) 3), .ref ((Q 0) 5), .ref ((Q 0) 7), vN (aR 0), vB (aS 0)])), ((Q 0) 1, .inr (2, [.ref ((Q 0) 2)])), ((Q 0) 2, .inl (G.2 0, 4800, .inl (nF (ak 0)))), ((Q 0) 3, .inr (2, [.ref ((Q 0) 4)])), ((Q 0) 4, .inl (G.2 0, 40, .inl (nF (aw 0)))), ((Q 0) 5, .inr (2, [.ref ((Q 0) 6)])), ((Q 0) 6, .inl (G.2 0, 40, .inl (nF (au 0)))), ((Q 0) 7, .inr (2, [.ref ((Q 0) 8)])), ((Q 0) 8, .inl (G.2 0, 3, .inl (nF (ay 0)))), ((Q 1) 0, .inr (4, [.ref ((Q 1) 1), .ref ((Q 1) 3), .ref ((Q 1) 5), .ref ((Q 1) 7), vN (aR 1), vB (aS 1)])), ((Q 1) 1, .inr (2, [.ref ((Q 1) 2)])), ((Q 1) 2, .inl (G.2 0, 4800, .inl (nF (ak 1)))), ((Q 1) 3, .inr (2, [.ref ((Q 1) 4)])), ((Q 1) 4, .inl (G.2 0, 40, .inl (nF (aw 1)))), ((Q 1) 5, .inr (2, [.ref ((Q 1) 6)])), ((Q 1) 6, .inl (G.2 0, 40, .inl (nF (au 1)))), ((Q 1) 7, .inr (2, [.ref ((Q 1) 8)])), ((Q 1) 8, .inl (G.2 0, 3, .inl (nF (ay 1)))), ((Q 2) 0, .inr (4, [.ref ((Q 2) 1), .ref ((Q 2) 3), .ref ((Q 2) 5), .ref ((Q 2) 7), vN (aR 2), vB (aS 2)])), ((Q 2) 1, .inr (2, [.ref ((Q 2) 2)])), ((Q 2) 2, .inl (G.2 0, 4800, .inl (nF (ak 2)))), ((Q 2) 3, .inr (2, [.ref ((Q 2) 4)])), ((Q 2) 4, .inl (G.2 0, 40, .inl (nF (aw 2)))), ((Q 2) 5, .inr (2, [.ref ((Q 2) 6)])), ((Q 2) 6, .inl (G.2 0, 40, .inl (nF (au 2)))), ((Q 2) 7, .inr (2, [.ref ((Q 2) 8)])), ((Q 2) 8, .inl (G.2 0, 3, .inl (nF (ay 2)))), ((Q 3) 0, .inr (4, [.ref ((Q 3) 1), .ref ((Q 3) 3), .ref ((Q 3) 5), .ref ((Q 3) 7), vN (aR 3), vB (aS 3)])), ((Q 3) 1, .inr (2, [.ref ((Q 3) 2)])), ((Q 3) 2, .inl (G.2 0, 4800, .inl (nF (ak 3)))), ((Q 3) 3, .inr (2, [.ref ((Q 3) 4)])), ((Q 3) 4, .inl (G.2 0, 40, .inl (nF (aw 3)))), ((Q 3) 5, .inr (2, [.ref ((Q 3) 6)])), ((Q 3) 6, .inl (G.2 0, 40, .inl (nF (au 3)))), ((Q 3) 7, .inr (2, [.ref ((Q 3) 8)])), ((Q 3) 8, .inl (G.2 0, 3, .inl (nF (ay 3)))), (L 0, .inr (5, [.ref (L 1), vN (wk), vN (sd), vN (kd)])), (L 1, .inr (2, [.ref (L 2)])), (L 2, .inl (G.2 0, 120, .inl (nF f))), (M 0, .inr (1, [.ref (M 1)])), (M 1, .inr (2, [.ref (M 2)])), (M 2, .inl (G.2 0, 120, .inl (nF mf)))]) hm hw hl (c_l_best l G ga gf1 ma mg1 wa wf1 R1 (goalF (sumM (K1 0) (w1 0)) sh1_165 sz1_166 R1) (K1 (R1 - 1)) (w1 (R1 - 1)) (sumM (K1 (R1 - 1)) (w1 (R1 - 1))) hg1 (by omega) hlk1.1 hlk1.2 rfl (by omega) hpo1) gL_acts_L_best rfl (by decide +kernel) ⟨by decide, by decide⟩ [54, 55, 56] [0, 1, 2, 3, 4, 5, 6, 7, 8, 9, 10, 11, 12, 13, 14, 15, 16, 17, 18, 19, 20, 21, 22, 23, 24, 25, 26, 27, 28, 29, 30, 31, 32, 33, 34, 35, 36, 37, 38, 39, 40, 41, 42, 43, 44, 45, 46, 47, 48, 49, 50, 51, 52, 53] (by decide) rfl rfl (by decide) (by decide) rfl rfl (by simp [Value.category]) ⟨(by show _ ≤ 3; omega), (by show _ ≤ 18; omega)⟩ dL_acts_454 (fun v w1 H locs hp hw => ?_)
                          obtain ⟨b_199, mg2_200, wf2_201, rfl, rfl, hb_202, hrow_203, hmr_204, hm2_205, hold_206⟩ := hp
                          have hw := hw.sub (ws' := wMain G o P h T L M ++ (wPiece G P gk gw gt gy R sp ++ (wHist G h hs Q ak aw au ay aR aS nx sz ++ (wPlan G L f wk sd kd ++ (wMk G M mf ++ ([(ga, .inl (G.2 0, 5, .inl (nF (nU gf1 0 (R1 + 1)))))] ++ ([(ma, .inl (G.2 0, 16, .inl (nF mg2_200)))] ++ [(wa, .inl (G.2 1, 64, .inr (.inl wf2_201)))]))))))) [0, 1, 2, 3, 4, 5, 6, 7, 8, 9, 10, 11, 12, 13, 14, 15, 16, 17, 18, 19, 20, 21, 22, 23, 24, 25, 26, 27, 28, 29, 30, 31, 32, 33, 34, 35, 36, 37, 38, 39, 40, 41, 42, 43, 44, 45, 46, 47, 48, 49, 50, 51, 52, 53, 54, 55, 56] (by decide) rfl
                          refine W.eq (g2 := F0 m 457 ls [vN (b_199)]) rfl ?_
                          have hb9 := hb_202
                          have hrow9 := hrow_203
                          have hmr9 := hmr_204
                          have hm29 := hm2_205
                          have hold9 := hold_206
                          have hso9 := spR_ok (x := b_199) (show 3 ≤ sumM (K1 (R1 - 1)) (w1 (R1 - 1)) ∧ sumM (K1 (R1 - 1)) (w1 (R1 - 1)) ≤ 120 ∧ 3 ≤ goalF (sumM (K1 0) (w1 0)) sh1_165 sz1_166 R1 ∧ goalF (sumM (K1 0) (w1 0)) sh1_165 sz1_166 R1 ≤ 120 by omega) hpo1
                          refine k_pop hm dL_acts_457 rfl ?_
                          refine k_iincN hm hl 13 1 rfl [(12, vN (dn + 1)), (14, vN (goalF (sumM (K1 0) (w1 0)) sh1_165 sz1_166 R1)), (0, .ref (o)), (1, .ref (ga)), (2, .ref (ma)), (3, .ref (wa)), (4, .int (z)), (5, vN (q_2)), (6, vN (q_5)), (7, vN (sumM (K (R - 1)) (w (R - 1)))), (8, vN (t)), (9, vN (sh1_165)), (10, vN (sz1_166)), (11, vN (mn1_167)), (13, vN (k1))] (by decide) rfl dL_acts_458 (fun ls hl => ?_)
                          refine k_iincN hm hl 14 1 rfl [(13, vN (k1 + 1)), (12, vN (dn + 1)), (14, vN (goalF (sumM (K1 0) (w1 0)) sh1_165 sz1_166 R1)), (0, .ref (o)), (1, .ref (ga)), (2, .ref (ma)), (3, .ref (wa)), (4, .int (z)), (5, vN (q_2)), (6, vN (q_5)), (7, vN (sumM (K (R - 1)) (w (R - 1)))), (8, vN (t)), (9, vN (sh1_165)), (10, vN (sz1_166)), (11, vN (mn1_167))] (by decide) rfl dL_acts_461 (fun ls hl => ?_)
                          refine k_goto (tgt := 404) hm dL_acts_464 (by decide) ?_
                          exact ih_404  (dn + 1) (k1 + 1) (nU gf1 0 (R1 + 1)) mg2_200 wf2_201 (R1 + 1) (fup K1 R1 (spR (sumM (K1 (R1 - 1)) (w1 (R1 - 1))) (goalF (sumM (K1 0) (w1 0)) sh1_165 sz1_166 R1) b_199)) (fup w1 R1 (pm (sumM (K1 (R1 - 1)) (w1 (R1 - 1))) (goalF (sumM (K1 0) (w1 0)) sh1_165 sz1_166 R1))) (by omega) (LOk_add hl1 (by omega) hrow9 hmr9 hm29 hold9) (PVd_add hv1 (by omega) (by have := pm_le (n := sumM (K1 (R1 - 1)) (w1 (R1 - 1))) (t := goalF (sumM (K1 0) (w1 0)) sh1_165 sz1_166 R1) (by omega); omega) hso9.1 (by rw [hso9.2.2]; omega) hso9.2.1) (by
                              rcases hss with ⟨z1, z2⟩ | ⟨z1, z2⟩
                              · refine Or.inl ⟨by omega, fun c2 K2 w2 z => ?_⟩
                                have z3 := z2 (c2 + 1) K2 w2 (by
                                  rw [show mn1_167 - k1 = (mn1_167 - (k1 + 1)) + 1 by omega]
                                  exact Or.inr ⟨by omega, hpo1, b_199, c2, hb9, rfl, z⟩)
                                rw [show dn + 1 + c2 = dn + (c2 + 1) by omega]
                                exact z3
                              · omega) _ _ _ (by omega) hw (lv_sub hl [3, 4, 5, 6, 7, 8, 9, 10, 11, 12, 13, 14, 1, 0] rfl)
                exact loop_404 (mn1_167 - 0 + 1) 0 0 gf mg wf R K w (by omega) hlo hok.1 (Or.inl ⟨rfl, fun c2 K2 w2 z1 => by rw [Nat.zero_add]; exact z1⟩) _ _ _ (Nat.lt_succ_self _) hw (lv_sub hl [5, 6, 7, 8, 9, 10, 11, 12, 13, 4, 3, 2, 1, 0] rfl)
            · exact join_284   _ _ _ hw (lv_sub hl [0, 1, 2, 3, 4, 5, 6, 7, 8] rfl)
        · have hb01 := bI_01 sp
          have hsp1 := hlo.1.2.2.1
          refine k_aload_n hm hl 1 rfl dL_acts_221 ?_
          refine k_iconstN hm 1 dL_acts_222 ?_
          refine k_ialdN hm hw 54 rfl (by omega) dL_acts_223 ?_
          refine k_iconstN hm 1 dL_acts_224 ?_
          refine k_icmpne (tgt := 232) hm dL_acts_225 (by decide) (by omega) (fun c_207 => ?_) (fun c_207 => ?_)
          · refine k_iconstN hm 0 dL_acts_232 ?_
            refine k_istore hm hl [(9, vN (0)), (0, .ref (o)), (1, .ref (ga)), (2, .ref (ma)), (3, .ref (wa)), (4, .int (z)), (5, vN (q_2)), (6, vN (q_5)), (7, vN (sumM (K (R - 1)) (w (R - 1)))), (8, vN (t))] (by decide) rfl dL_acts_233 (fun ls hl => ?_)
            refine k_aload_n hm hl 2 rfl dL_acts_235 ?_
            refine k_iconstN hm 1 dL_acts_236 ?_
            refine k_iload hm hl 6 rfl dL_acts_237 ?_
            refine k_iconstN hm 2 dL_acts_239 ?_
            refine k_iremN hm (by omega) dL_acts_240 ?_
            refine k_iastN hm hw 54 (wMain G o P h T L M ++ (wPiece G P gk gw gt gy R sp ++ (wHist G h hs Q ak aw au ay aR aS nx sz ++ (wPlan G L f wk sd kd ++ (wMk G M mf ++ ([(ga, .inl (G.2 0, 5, .inl (nF (nU gf 1 (q_2 % 2)))))] ++ ([(ma, .inl (G.2 0, 16, .inl (nF mg)))] ++ [(wa, .inl (G.2 1, 64, .inr (.inl wf)))]))))))) rfl (by omega) rfl dL_acts_241 (fun H locs hw => ?_)
            refine k_aload_n hm hl 1 rfl dL_acts_242 ?_
            refine k_iload hm hl 6 rfl dL_acts_243 ?_
            refine k_iconstN hm 2 dL_acts_245 ?_
            refine k_iremN hm (by omega) dL_acts_246 ?_
            refine k_iconstN hm 1 dL_acts_247 ?_
            refine k_icmpne (tgt := 255) hm dL_acts_248 (by decide) (by omega) (fun c_208 => ?_) (fun c_208 => ?_)
            · refine k_iconstN hm 0 dL_acts_255 ?_
              refine k_callV (n := 1) (As := [vN (0)]) (rest := []) (wr := [(L 0, .inr (5, [.ref (L 1), vN (wk), vN (sd), vN (kd)])), (L 1, .inr (2, [.ref (L 2)])), (L 2, .inl (G.2 0, 120, .inl (nF f))), (M 0, .inr (1, [.ref (M 1)])), (M 1, .inr (2, [.ref (M 2)])), (M 2, .inl (G.2 0, 120, .inl (nF mf))), (ga, .inl (G.2 0, 5, .inl (nF (nU gf 1 (q_2 % 2))))), (ma, .inl (G.2 0, 16, .inl (nF mg))), (wa, .inl (G.2 1, 64, .inr (.inl wf)))]) hm hw hl (c_setSpiral l G o T L M P gk gw gt gy R sp h hs Q ak aw au ay aR aS nx sz K w y sv false (by first | assumption | omega) (by first | assumption | omega)) gL_acts_X6_setSpiral rfl (by decide +kernel) ⟨by decide, by decide⟩ (ci := 6) rfl 0 rfl [0, 1, 2, 3, 4, 5, 6, 7, 8, 9, 10, 11, 12, 13, 14, 15, 16, 17, 18, 19, 20, 21, 22, 23, 24, 25, 26, 27, 28, 29, 30, 31, 32, 33, 34, 35, 36, 37, 38, 39, 40, 41, 42, 43, 44, 45, 46, 47] [48, 49, 50, 51, 52, 53, 54, 55, 56] (by decide) rfl rfl (by decide) (by decide) rfl rfl (by simp [Value.category]) ⟨(by show _ ≤ 3; omega), (by show _ ≤ 18; omega)⟩ dL_acts_256 (fun v w1 H locs hp hw => ?_)
              obtain ⟨ak2_210, aw2_211, au2_212, ay2_213, aR2_214, aS2_215, rfl, rfl, hho2_216⟩ := hp
              have hw := hw.sub (ws' := wMain G o P h T L M ++ (wPiece G P gk gw gt gy R false ++ (wHist G h hs Q ak2_210 aw2_211 au2_212 ay2_213 aR2_214 aS2_215 ((nx + 1) % 4) (Nat.min (sz + 1) 4) ++ (wPlan G L f wk sd kd ++ (wMk G M mf ++ ([(ga, .inl (G.2 0, 5, .inl (nF (nU gf 1 (q_2 % 2)))))] ++ ([(ma, .inl (G.2 0, 16, .inl (nF mg)))] ++ [(wa, .inl (G.2 1, 64, .inr (.inl wf)))]))))))) [9, 10, 11, 12, 13, 14, 15, 16, 17, 18, 19, 20, 21, 22, 23, 24, 25, 26, 27, 28, 29, 30, 31, 32, 33, 34, 35, 36, 37, 38, 39, 40, 41, 42, 43, 44, 45, 46, 47, 48, 49, 50, 51, 52, 53, 54, 55, 56, 0, 1, 2, 3, 4, 5, 6, 7, 8] (by decide) rfl
              refine W.eq (g2 := F0 m 259 ls [vB (sp)]) rfl ?_
              refine k_iload hm hl 0 rfl dL_acts_259 ?_
              refine k_icmpne (tgt := 268) hm dL_acts_261 (by decide) (by omega) (fun c_217 => absurd c_217 (by omega)) (fun c_217 => ?_)
              refine k_iconstN hm 1 dL_acts_264 ?_
              refine k_goto (tgt := 269) hm dL_acts_265 (by decide) ?_
              exact k_iret (post := _) hm hQ rfl (kN_bool true) hw (⟨_, _, _, _, _, _, _, _, _, _, _, _, _, _, _, _, _, _, _, _, _, _, _, _, _, _, rfl, rfl, hok, hho2_216, LOk_sp hlo (by rw [bI_f]; omega)⟩) (by omega) (by omega) dL_acts_269
            · refine k_iconstN hm 1 dL_acts_251 ?_
              refine k_goto (tgt := 256) hm dL_acts_252 (by decide) ?_
              refine k_callV (n := 1) (As := [vN (1)]) (rest := []) (wr := [(L 0, .inr (5, [.ref (L 1), vN (wk), vN (sd), vN (kd)])), (L 1, .inr (2, [.ref (L 2)])), (L 2, .inl (G.2 0, 120, .inl (nF f))), (M 0, .inr (1, [.ref (M 1)])), (M 1, .inr (2, [.ref (M 2)])), (M 2, .inl (G.2 0, 120, .inl (nF mf))), (ga, .inl (G.2 0, 5, .inl (nF (nU gf 1 (q_2 % 2))))), (ma, .inl (G.2 0, 16, .inl (nF mg))), (wa, .inl (G.2 1, 64, .inr (.inl wf)))]) hm hw hl (c_setSpiral l G o T L M P gk gw gt gy R sp h hs Q ak aw au ay aR aS nx sz K w y sv true (by first | assumption | omega) (by first | assumption | omega)) gL_acts_X6_setSpiral rfl (by decide +kernel) ⟨by decide, by decide⟩ (ci := 6) rfl 0 rfl [0, 1, 2, 3, 4, 5, 6, 7, 8, 9, 10, 11, 12, 13, 14, 15, 16, 17, 18, 19, 20, 21, 22, 23, 24, 25, 26, 27, 28, 29, 30, 31, 32, 33, 34, 35, 36, 37, 38, 39, 40, 41, 42, 43, 44, 45, 46, 47] [48, 49, 50, 51, 52, 53, 54, 55, 56] (by decide) rfl rfl (by decide) (by decide) rfl rfl (by simp [Value.category]) ⟨(by show _ ≤ 3; omega), (by show _ ≤ 18; omega)⟩ dL_acts_256 (fun v w1 H locs hp hw => ?_)
              obtain ⟨ak2_219, aw2_220, au2_221, ay2_222, aR2_223, aS2_224, rfl, rfl, hho2_225⟩ := hp
              have hw := hw.sub (ws' := wMain G o P h T L M ++ (wPiece G P gk gw gt gy R true ++ (wHist G h hs Q ak2_219 aw2_220 au2_221 ay2_222 aR2_223 aS2_224 ((nx + 1) % 4) (Nat.min (sz + 1) 4) ++ (wPlan G L f wk sd kd ++ (wMk G M mf ++ ([(ga, .inl (G.2 0, 5, .inl (nF (nU gf 1 (q_2 % 2)))))] ++ ([(ma, .inl (G.2 0, 16, .inl (nF mg)))] ++ [(wa, .inl (G.2 1, 64, .inr (.inl wf)))]))))))) [9, 10, 11, 12, 13, 14, 15, 16, 17, 18, 19, 20, 21, 22, 23, 24, 25, 26, 27, 28, 29, 30, 31, 32, 33, 34, 35, 36, 37, 38, 39, 40, 41, 42, 43, 44, 45, 46, 47, 48, 49, 50, 51, 52, 53, 54, 55, 56, 0, 1, 2, 3, 4, 5, 6, 7, 8] (by decide) rfl
              refine W.eq (g2 := F0 m 259 ls [vB (sp)]) rfl ?_
              refine k_iload hm hl 0 rfl dL_acts_259 ?_
              refine k_icmpne (tgt := 268) hm dL_acts_261 (by decide) (by omega) (fun c_226 => absurd c_226 (by omega)) (fun c_226 => ?_)
              refine k_iconstN hm 1 dL_acts_264 ?_
              refine k_goto (tgt := 269) hm dL_acts_265 (by decide) ?_
              exact k_iret (post := _) hm hQ rfl (kN_bool true) hw (⟨_, _, _, _, _, _, _, _, _, _, _, _, _, _, _, _, _, _, _, _, _, _, _, _, _, _, rfl, rfl, hok, hho2_225, LOk_sp hlo (by rw [bI_t]; omega)⟩) (by omega) (by omega) dL_acts_269
          · refine k_iconstN hm 1 dL_acts_228 ?_
            refine k_goto (tgt := 233) hm dL_acts_229 (by decide) ?_
            refine k_istore hm hl [(9, vN (1)), (0, .ref (o)), (1, .ref (ga)), (2, .ref (ma)), (3, .ref (wa)), (4, .int (z)), (5, vN (q_2)), (6, vN (q_5)), (7, vN (sumM (K (R - 1)) (w (R - 1)))), (8, vN (t))] (by decide) rfl dL_acts_233 (fun ls hl => ?_)
            refine k_aload_n hm hl 2 rfl dL_acts_235 ?_
            refine k_iconstN hm 1 dL_acts_236 ?_
            refine k_iload hm hl 6 rfl dL_acts_237 ?_
            refine k_iconstN hm 2 dL_acts_239 ?_
            refine k_iremN hm (by omega) dL_acts_240 ?_
            refine k_iastN hm hw 54 (wMain G o P h T L M ++ (wPiece G P gk gw gt gy R sp ++ (wHist G h hs Q ak aw au ay aR aS nx sz ++ (wPlan G L f wk sd kd ++ (wMk G M mf ++ ([(ga, .inl (G.2 0, 5, .inl (nF (nU gf 1 (q_2 % 2)))))] ++ ([(ma, .inl (G.2 0, 16, .inl (nF mg)))] ++ [(wa, .inl (G.2 1, 64, .inr (.inl wf)))]))))))) rfl (by omega) rfl dL_acts_241 (fun H locs hw => ?_)
            refine k_aload_n hm hl 1 rfl dL_acts_242 ?_
            refine k_iload hm hl 6 rfl dL_acts_243 ?_
            refine k_iconstN hm 2 dL_acts_245 ?_
            refine k_iremN hm (by omega) dL_acts_246 ?_
            refine k_iconstN hm 1 dL_acts_247 ?_
            refine k_icmpne (tgt := 255) hm dL_acts_248 (by decide) (by omega) (fun c_227 => ?_) (fun c_227 => ?_)
            · refine k_iconstN hm 0 dL_acts_255 ?_
              refine k_callV (n := 1) (As := [vN (0)]) (rest := []) (wr := [(L 0, .inr (5, [.ref (L 1), vN (wk), vN (sd), vN (kd)])), (L 1, .inr (2, [.ref (L 2)])), (L 2, .inl (G.2 0, 120, .inl (nF f))), (M 0, .inr (1, [.ref (M 1)])), (M 1, .inr (2, [.ref (M 2)])), (M 2, .inl (G.2 0, 120, .inl (nF mf))), (ga, .inl (G.2 0, 5, .inl (nF (nU gf 1 (q_2 % 2))))), (ma, .inl (G.2 0, 16, .inl (nF mg))), (wa, .inl (G.2 1, 64, .inr (.inl wf)))]) hm hw hl (c_setSpiral l G o T L M P gk gw gt gy R sp h hs Q ak aw au ay aR aS nx sz K w y sv false (by first | assumption | omega) (by first | assumption | omega)) gL_acts_X6_setSpiral rfl (by decide +kernel) ⟨by decide, by decide⟩ (ci := 6) rfl 0 rfl [0, 1, 2, 3, 4, 5, 6, 7, 8, 9, 10, 11, 12, 13, 14, 15, 16, 17, 18, 19, 20, 21, 22, 23, 24, 25, 26, 27, 28, 29, 30, 31, 32, 33, 34, 35, 36, 37, 38, 39, 40, 41, 42, 43, 44, 45, 46, 47] [48, 49, 50, 51, 52, 53, 54, 55, 56] (by decide) rfl rfl (by decide) (by decide) rfl rfl (by simp [Value.category]) ⟨(by show _ ≤ 3; omega), (by show _ ≤ 18; omega)⟩ dL_acts_256 (fun v w1 H locs hp hw => ?_)
              obtain ⟨ak2_229, aw2_230, au2_231, ay2_232, aR2_233, aS2_234, rfl, rfl, hho2_235⟩ := hp
              have hw := hw.sub (ws' := wMain G o P h T L M ++ (wPiece G P gk gw gt gy R false ++ (wHist G h hs Q ak2_229 aw2_230 au2_231 ay2_232 aR2_233 aS2_234 ((nx + 1) % 4) (Nat.min (sz + 1) 4) ++ (wPlan G L f wk sd kd ++ (wMk G M mf ++ ([(ga, .inl (G.2 0, 5, .inl (nF (nU gf 1 (q_2 % 2)))))] ++ ([(ma, .inl (G.2 0, 16, .inl (nF mg)))] ++ [(wa, .inl (G.2 1, 64, .inr (.inl wf)))]))))))) [9, 10, 11, 12, 13, 14, 15, 16, 17, 18, 19, 20, 21, 22, 23, 24, 25, 26, 27, 28, 29, 30, 31, 32, 33, 34, 35, 36, 37, 38, 39, 40, 41, 42, 43, 44, 45, 46, 47, 48, 49, 50, 51, 52, 53, 54, 55, 56, 0, 1, 2, 3, 4, 5, 6, 7, 8] (by decide) rfl
              refine W.eq (g2 := F0 m 259 ls [vB (sp)]) rfl ?_
              refine k_iload hm hl 0 rfl dL_acts_259 ?_
              refine k_icmpne (tgt := 268) hm dL_acts_261 (by decide) (by omega) (fun c_236 => absurd c_236 (by omega)) (fun c_236 => ?_)
              refine k_iconstN hm 1 dL_acts_264 ?_
              refine k_goto (tgt := 269) hm dL_acts_265 (by decide) ?_
              exact k_iret (post := _) hm hQ rfl (kN_bool true) hw (⟨_, _, _, _, _, _, _, _, _, _, _, _, _, _, _, _, _, _, _, _, _, _, _, _, _, _, rfl, rfl, hok, hho2_235, LOk_sp hlo (by rw [bI_f]; omega)⟩) (by omega) (by omega) dL_acts_269
            · refine k_iconstN hm 1 dL_acts_251 ?_
              refine k_goto (tgt := 256) hm dL_acts_252 (by decide) ?_
              refine k_callV (n := 1) (As := [vN (1)]) (rest := []) (wr := [(L 0, .inr (5, [.ref (L 1), vN (wk), vN (sd), vN (kd)])), (L 1, .inr (2, [.ref (L 2)])), (L 2, .inl (G.2 0, 120, .inl (nF f))), (M 0, .inr (1, [.ref (M 1)])), (M 1, .inr (2, [.ref (M 2)])), (M 2, .inl (G.2 0, 120, .inl (nF mf))), (ga, .inl (G.2 0, 5, .inl (nF (nU gf 1 (q_2 % 2))))), (ma, .inl (G.2 0, 16, .inl (nF mg))), (wa, .inl (G.2 1, 64, .inr (.inl wf)))]) hm hw hl (c_setSpiral l G o T L M P gk gw gt gy R sp h hs Q ak aw au ay aR aS nx sz K w y sv true (by first | assumption | omega) (by first | assumption | omega)) gL_acts_X6_setSpiral rfl (by decide +kernel) ⟨by decide, by decide⟩ (ci := 6) rfl 0 rfl [0, 1, 2, 3, 4, 5, 6, 7, 8, 9, 10, 11, 12, 13, 14, 15, 16, 17, 18, 19, 20, 21, 22, 23, 24, 25, 26, 27, 28, 29, 30, 31, 32, 33, 34, 35, 36, 37, 38, 39, 40, 41, 42, 43, 44, 45, 46, 47] [48, 49, 50, 51, 52, 53, 54, 55, 56] (by decide) rfl rfl (by decide) (by decide) rfl rfl (by simp [Value.category]) ⟨(by show _ ≤ 3; omega), (by show _ ≤ 18; omega)⟩ dL_acts_256 (fun v w1 H locs hp hw => ?_)
              obtain ⟨ak2_238, aw2_239, au2_240, ay2_241, aR2_242, aS2_243, rfl, rfl, hho2_244⟩ := hp
              have hw := hw.sub (ws' := wMain G o P h T L M ++ (wPiece G P gk gw gt gy R true ++ (wHist G h hs Q ak2_238 aw2_239 au2_240 ay2_241 aR2_242 aS2_243 ((nx + 1) % 4) (Nat.min (sz + 1) 4) ++ (wPlan G L f wk sd kd ++ (wMk G M mf ++ ([(ga, .inl (G.2 0, 5, .inl (nF (nU gf 1 (q_2 % 2)))))] ++ ([(ma, .inl (G.2 0, 16, .inl (nF mg)))] ++ [(wa, .inl (G.2 1, 64, .inr (.inl wf)))]))))))) [9, 10, 11, 12, 13, 14, 15, 16, 17, 18, 19, 20, 21, 22, 23, 24, 25, 26, 27, 28, 29, 30, 31, 32, 33, 34, 35, 36, 37, 38, 39, 40, 41, 42, 43, 44, 45, 46, 47, 48, 49, 50, 51, 52, 53, 54, 55, 56, 0, 1, 2, 3, 4, 5, 6, 7, 8] (by decide) rfl
              refine W.eq (g2 := F0 m 259 ls [vB (sp)]) rfl ?_
              refine k_iload hm hl 0 rfl dL_acts_259 ?_
              refine k_icmpne (tgt := 268) hm dL_acts_261 (by decide) (by omega) (fun c_245 => absurd c_245 (by omega)) (fun c_245 => ?_)
              refine k_iconstN hm 1 dL_acts_264 ?_
              refine k_goto (tgt := 269) hm dL_acts_265 (by decide) ?_
              exact k_iret (post := _) hm hQ rfl (kN_bool true) hw (⟨_, _, _, _, _, _, _, _, _, _, _, _, _, _, _, _, _, _, _, _, _, _, _, _, _, _, rfl, rfl, hok, hho2_244, LOk_sp hlo (by rw [bI_t]; omega)⟩) (by omega) (by omega) dL_acts_269
      · refine k_iload hm hl 5 rfl dL_acts_163 ?_
        refine k_iconstN hm 3 dL_acts_165 ?_
        refine k_iremN hm (by omega) dL_acts_166 ?_
        refine k_nmN (fun kd1_246 ekd1_246 => ?_)
        refine k_istore hm hl [(9, vN (kd1_246)), (0, .ref (o)), (1, .ref (ga)), (2, .ref (ma)), (3, .ref (wa)), (4, .int (z)), (5, vN (q_2)), (6, vN (q_5)), (7, vN (sumM (K (R - 1)) (w (R - 1)))), (8, vN (t))] (by decide) rfl dL_acts_167 (fun ls hl => ?_)
        refine k_aload_n hm hl 2 rfl dL_acts_169 ?_
        refine k_iconstN hm 2 dL_acts_170 ?_
        refine k_iload hm hl 0 rfl dL_acts_171 ?_
        refine k_iaddN hm dL_acts_173 ?_
        refine k_ialdN hm hw 54 rfl (by omega) dL_acts_174 ?_
        refine k_rwV (y := vN (y kd1_246)) (by rw [hlo.1.2.2.2 kd1_246 (by omega)]) ?_
        refine k_istore hm hl [(10, vN (y kd1_246)), (9, vN (kd1_246)), (0, .ref (o)), (1, .ref (ga)), (2, .ref (ma)), (3, .ref (wa)), (4, .int (z)), (5, vN (q_2)), (6, vN (q_5)), (7, vN (sumM (K (R - 1)) (w (R - 1)))), (8, vN (t))] (by decide) rfl dL_acts_175 (fun ls hl => ?_)
        refine k_aload_n hm hl 3 rfl dL_acts_177 ?_
        refine k_iconstN hm 2 dL_acts_178 ?_
        refine k_iload hm hl 1 rfl dL_acts_179 ?_
        refine k_iaddN hm dL_acts_181 ?_
        refine k_iconstN hm 1 dL_acts_182 ?_
        refine k_iload hm hl 7 rfl dL_acts_183 ?_
        refine k_iconstN hm 3 dL_acts_185 ?_
        refine k_idivN hm (by omega) dL_acts_186 ?_
        refine k_bipushN hm 60 dL_acts_187 rfl ?_
        refine k_iremN hm (by omega) dL_acts_189 ?_
        refine k_iaddN hm dL_acts_190 ?_
        refine k_nmN (fun x1_247 ex1_247 => ?_)
        refine k_iastN hm hw 54 (wMain G o P h T L M ++ (wPiece G P gk gw gt gy R sp ++ (wHist G h hs Q ak aw au ay aR aS nx sz ++ (wPlan G L f wk sd kd ++ (wMk G M mf ++ ([(ga, .inl (G.2 0, 5, .inl (nF (nU gf (2 + kd1_246) x1_247))))] ++ ([(ma, .inl (G.2 0, 16, .inl (nF mg)))] ++ [(wa, .inl (G.2 1, 64, .inr (.inl wf)))]))))))) rfl (by omega) rfl dL_acts_191 (fun H locs hw => ?_)
        have hyk := hok.1.2.2.2.1 kd1_246 (by omega)
        refine k_aload_n hm hl 2 rfl dL_acts_192 ?_
        refine k_iload hm hl 1 rfl dL_acts_193 ?_
        refine k_aload_n hm hl 3 rfl dL_acts_195 ?_
        refine k_iconstN hm 2 dL_acts_196 ?_
        refine k_iload hm hl 1 rfl dL_acts_197 ?_
        refine k_iaddN hm dL_acts_199 ?_
        refine k_ialdN hm hw 54 rfl (by omega) dL_acts_200 ?_
        refine k_rwV (y := vN (x1_247)) (by rw [nU_s]) ?_
        refine k_callSX (n := 3) (As := [.ref (o), vN (kd1_246), vN (x1_247)]) (rest := []) (wr := [(L 0, .inr (5, [.ref (L 1), vN (wk), vN (sd), vN (kd)])), (L 1, .inr (2, [.ref (L 2)])), (L 2, .inl (G.2 0, 120, .inl (nF f))), (M 0, .inr (1, [.ref (M 1)])), (M 1, .inr (2, [.ref (M 2)])), (M 2, .inl (G.2 0, 120, .inl (nF mf))), (ga, .inl (G.2 0, 5, .inl (nF (nU gf (2 + kd1_246) x1_247)))), (ma, .inl (G.2 0, 16, .inl (nF mg))), (wa, .inl (G.2 1, 64, .inr (.inl wf)))]) hm hw hl hxs hst (c_w_setYarn_ok l G o T L M P gk gw gt gy R sp h hs Q ak aw au ay aR aS nx sz K w y sv kd1_246 x1_247 (by first | assumption | omega) (by first | assumption | omega) (by omega)) gL_acts_L_yarns rfl (by decide +kernel) ⟨by decide, by decide⟩ [0, 1, 2, 3, 4, 5, 6, 7, 8, 9, 10, 11, 12, 13, 14, 15, 16, 17, 18, 19, 20, 21, 22, 23, 24, 25, 26, 27, 28, 29, 30, 31, 32, 33, 34, 35, 36, 37, 38, 39, 40, 41, 42, 43, 44, 45, 46, 47] [48, 49, 50, 51, 52, 53, 54, 55, 56] (by decide) rfl rfl (by decide) (by decide) rfl rfl (by simp [Value.category]) ⟨(by show _ ≤ 3; omega), (by show _ ≤ 18; omega)⟩ dL_acts_201 (fun v w1 H locs hp hw => ?_)
        obtain ⟨gy2_249, ak2_250, aw2_251, au2_252, ay2_253, aR2_254, aS2_255, rfl, rfl, hok2_256, hho2_257⟩ := hp
        have hw := hw.sub (ws' := wMain G o P h T L M ++ (wPiece G P gk gw gt gy2_249 R sp ++ (wHist G h hs Q ak2_250 aw2_251 au2_252 ay2_253 aR2_254 aS2_255 ((nx + 1) % 4) (Nat.min (sz + 1) 4) ++ (wPlan G L f wk sd kd ++ (wMk G M mf ++ ([(ga, .inl (G.2 0, 5, .inl (nF (nU gf (2 + kd1_246) x1_247))))] ++ ([(ma, .inl (G.2 0, 16, .inl (nF mg)))] ++ [(wa, .inl (G.2 1, 64, .inr (.inl wf)))]))))))) [9, 10, 11, 12, 13, 14, 15, 16, 17, 18, 19, 20, 21, 22, 23, 24, 25, 26, 27, 28, 29, 30, 31, 32, 33, 34, 35, 36, 37, 38, 39, 40, 41, 42, 43, 44, 45, 46, 47, 48, 49, 50, 51, 52, 53, 54, 55, 56, 0, 1, 2, 3, 4, 5, 6, 7, 8] (by decide) rfl
        refine W.eq (g2 := F0 m 204 ls [vN (y kd1_246)]) rfl ?_
        refine k_iload hm hl 0 rfl dL_acts_204 ?_
        refine k_icmpne (tgt := 213) hm dL_acts_206 (by decide) (by omega) (fun c_258 => absurd c_258 (by omega)) (fun c_258 => ?_)
        refine k_iconstN hm 1 dL_acts_209 ?_
        refine k_goto (tgt := 214) hm dL_acts_210 (by decide) ?_
        exact k_iret (post := _) hm hQ rfl (kN_bool true) hw (⟨_, _, _, _, _, _, _, _, _, _, _, _, _, _, _, _, _, _, _, _, _, _, _, _, _, _, rfl, rfl, hok2_256, hho2_257, LOk_yarn hlo⟩) (by omega) (by omega) dL_acts_214
    · refine k_iconstN hm 3 dL_acts_97 ?_
      refine k_iload hm hl 5 rfl dL_acts_98 ?_
      refine k_bipushN hm 10 dL_acts_100 rfl ?_
      refine k_iremN hm (by omega) dL_acts_102 ?_
      refine k_iaddN hm dL_acts_103 ?_
      refine k_nmN (fun n1_259 en1_259 => ?_)
      refine k_istore hm hl [(9, vN (n1_259)), (0, .ref (o)), (1, .ref (ga)), (2, .ref (ma)), (3, .ref (wa)), (4, .int (z)), (5, vN (q_2)), (6, vN (q_5)), (7, vN (sumM (K (R - 1)) (w (R - 1)))), (8, vN (t))] (by decide) rfl dL_acts_104 (fun ls hl => ?_)
      refine k_aload_n hm hl 2 rfl dL_acts_106 ?_
      refine k_iconstN hm 0 dL_acts_107 ?_
      refine k_ialdN hm hw 54 rfl (by omega) dL_acts_108 ?_
      refine k_rwV (y := vN (R)) (by rw [hg]) ?_
      refine k_istore hm hl [(10, vN (R)), (9, vN (n1_259)), (0, .ref (o)), (1, .ref (ga)), (2, .ref (ma)), (3, .ref (wa)), (4, .int (z)), (5, vN (q_2)), (6, vN (q_5)), (7, vN (sumM (K (R - 1)) (w (R - 1)))), (8, vN (t))] (by decide) rfl dL_acts_109 (fun ls hl => ?_)
      refine k_aload_n hm hl 3 rfl dL_acts_111 ?_
      refine k_iconstN hm 0 dL_acts_112 ?_
      refine k_iconstN hm 1 dL_acts_113 ?_
      refine k_iastN hm hw 54 (wMain G o P h T L M ++ (wPiece G P gk gw gt gy R sp ++ (wHist G h hs Q ak aw au ay aR aS nx sz ++ (wPlan G L f wk sd kd ++ (wMk G M mf ++ ([(ga, .inl (G.2 0, 5, .inl (nF (nU gf 0 1))))] ++ ([(ma, .inl (G.2 0, 16, .inl (nF mg)))] ++ [(wa, .inl (G.2 1, 64, .inr (.inl wf)))]))))))) rfl (by omega) rfl dL_acts_114 (fun H locs hw => ?_)
      refine k_aload_n hm hl 4 rfl dL_acts_115 ?_
      refine k_iconstN hm 0 dL_acts_116 ?_
      refine k_iload hm hl 1 rfl dL_acts_117 ?_
      refine k_iastN hm hw 55 (wMain G o P h T L M ++ (wPiece G P gk gw gt gy R sp ++ (wHist G h hs Q ak aw au ay aR aS nx sz ++ (wPlan G L f wk sd kd ++ (wMk G M mf ++ ([(ga, .inl (G.2 0, 5, .inl (nF (nU gf 0 1))))] ++ ([(ma, .inl (G.2 0, 16, .inl (nF (nU mg 0 n1_259))))] ++ [(wa, .inl (G.2 1, 64, .inr (.inl wf)))]))))))) rfl (by omega) rfl dL_acts_119 (fun H locs hw => ?_)
      refine k_iconstN hm 0 dL_acts_120 ?_
      refine k_istore hm hl [(11, vN (0)), (10, vN (R)), (9, vN (n1_259)), (0, .ref (o)), (1, .ref (ga)), (2, .ref (ma)), (3, .ref (wa)), (4, .int (z)), (5, vN (q_2)), (6, vN (q_5)), (7, vN (sumM (K (R - 1)) (w (R - 1)))), (8, vN (t))] (by decide) rfl dL_acts_121 (fun ls hl => ?_)
      have loop_123 : ∀ (fu : Nat) (j : Nat) (g1 : Nat → Int64) (hj : j ≤ 4) (hz : ∀ q, q < j → g1 q = 0) (H : Heap) (locs : List Loc) (ls : Array Slot), 4 - j < fu → kW G A s (wMain G o P h T L M ++ (wPiece G P gk gw gt gy R sp ++ (wHist G h hs Q ak aw au ay aR aS nx sz ++ (wPlan G L f wk sd kd ++ (wMk G M mf ++ ([(ga, .inl (G.2 0, 5, .inl (nF (nU gf 0 1))))] ++ ([(ma, .inl (G.2 0, 16, .inl (nF (nU mg 0 n1_259))))] ++ [(wa, .inl (G.2 1, 64, .inr (.inl g1)))]))))))) H locs → lv_has ls 15 [(0, .ref (o)), (1, .ref (ga)), (2, .ref (ma)), (3, .ref (wa)), (4, .int (z)), (5, vN (q_2)), (6, vN (q_5)), (7, vN (sumM (K (R - 1)) (w (R - 1)))), (8, vN (t)), (9, vN (n1_259)), (10, vN (R)), (11, vN (j))] → W p l e { frames := 10, cells := 3, slots := 18, locals := 175 } s m args below meth c H locs 0 0 Qz (F0 m 123 ls []) := by
        intro fu
        induction fu with
        | zero => intro j g1 hj hz H locs ls hfu; exact absurd hfu (Nat.not_lt_zero _)
        | succ fu ih_123 =>
          intro j g1 hj hz H locs ls hfu hw hl
          refine k_iload hm hl 11 rfl dL_acts_123 ?_
          refine k_iconstN hm 4 dL_acts_125 ?_
          refine k_icmpge (tgt := 140) hm dL_acts_126 (by decide) (by omega) (fun c_260 => ?_) (fun c_260 => ?_)
          · refine k_aload_n hm hl 0 rfl dL_acts_140 ?_
            refine k_iload hm hl 9 rfl dL_acts_141 ?_
            refine k_callSX (n := 2) (As := [.ref (o), vN (n1_259)]) (rest := []) (wr := [(L 0, .inr (5, [.ref (L 1), vN (wk), vN (sd), vN (kd)])), (L 1, .inr (2, [.ref (L 2)])), (L 2, .inl (G.2 0, 120, .inl (nF f))), (M 0, .inr (1, [.ref (M 1)])), (M 1, .inr (2, [.ref (M 2)])), (M 2, .inl (G.2 0, 120, .inl (nF mf))), (ga, .inl (G.2 0, 5, .inl (nF (nU gf 0 1)))), (ma, .inl (G.2 0, 16, .inl (nF (nU mg 0 n1_259)))), (wa, .inl (G.2 1, 64, .inr (.inl g1)))]) hm hw hl hxs hst (c_w_begin_ok l G o T L M P gk gw gt gy R sp h hs Q ak aw au ay aR aS nx sz K w y sv n1_259 (by first | assumption | omega) (by first | assumption | omega) (by first | assumption | omega)) gL_acts_L_begins rfl (by decide +kernel) ⟨by decide, by decide⟩ [0, 1, 2, 3, 4, 5, 6, 7, 8, 9, 10, 11, 12, 13, 14, 15, 16, 17, 18, 19, 20, 21, 22, 23, 24, 25, 26, 27, 28, 29, 30, 31, 32, 33, 34, 35, 36, 37, 38, 39, 40, 41, 42, 43, 44, 45, 46, 47] [48, 49, 50, 51, 52, 53, 54, 55, 56] (by decide) rfl rfl (by decide) (by decide) rfl rfl (by simp [Value.category]) ⟨(by show _ ≤ 3; omega), (by show _ ≤ 18; omega)⟩ dL_acts_143 (fun v w1 H locs hp hw => ?_)
            obtain ⟨gk2_262, gw2_263, gt2_264, ak2_265, aw2_266, au2_267, ay2_268, aR2_269, aS2_270, rfl, rfl, hok2_271, hho2_272⟩ := hp
            have hw := hw.sub (ws' := wMain G o P h T L M ++ (wPiece G P gk2_262 gw2_263 gt2_264 gy 1 sp ++ (wHist G h hs Q ak2_265 aw2_266 au2_267 ay2_268 aR2_269 aS2_270 ((nx + 1) % 4) (Nat.min (sz + 1) 4) ++ (wPlan G L f wk sd kd ++ (wMk G M mf ++ ([(ga, .inl (G.2 0, 5, .inl (nF (nU gf 0 1))))] ++ ([(ma, .inl (G.2 0, 16, .inl (nF (nU mg 0 n1_259))))] ++ [(wa, .inl (G.2 1, 64, .inr (.inl g1)))]))))))) [9, 10, 11, 12, 13, 14, 15, 16, 17, 18, 19, 20, 21, 22, 23, 24, 25, 26, 27, 28, 29, 30, 31, 32, 33, 34, 35, 36, 37, 38, 39, 40, 41, 42, 43, 44, 45, 46, 47, 48, 49, 50, 51, 52, 53, 54, 55, 56, 0, 1, 2, 3, 4, 5, 6, 7, 8] (by decide) rfl
            refine W.eq (g2 := F0 m 146 ls [vN (R)]) rfl ?_
            refine k_iload hm hl 10 rfl dL_acts_146 ?_
            refine k_icmpne (tgt := 155) hm dL_acts_148 (by decide) (by omega) (fun c_273 => absurd c_273 (by omega)) (fun c_273 => ?_)
            refine k_iconstN hm 1 dL_acts_151 ?_
            refine k_goto (tgt := 156) hm dL_acts_152 (by decide) ?_
            exact k_iret (post := _) hm hQ rfl (kN_bool true) hw (⟨_, _, _, _, _, _, _, _, _, _, _, _, _, _, _, _, _, _, _, _, _, _, _, _, _, _, rfl, rfl, hok2_271, hho2_272, LOk_ring hlo (by omega) (fun q z1 => hz q (by omega))⟩) (by omega) (by omega) dL_acts_156
          · refine k_aload_n hm hl 3 rfl dL_acts_129 ?_
            refine k_iload hm hl 11 rfl dL_acts_130 ?_
            refine k_lconst (n := 0) hm dL_acts_132 ?_
            refine k_last hm hw 56 (wMain G o P h T L M ++ (wPiece G P gk gw gt gy R sp ++ (wHist G h hs Q ak aw au ay aR aS nx sz ++ (wPlan G L f wk sd kd ++ (wMk G M mf ++ ([(ga, .inl (G.2 0, 5, .inl (nF (nU gf 0 1))))] ++ ([(ma, .inl (G.2 0, 16, .inl (nF (nU mg 0 n1_259))))] ++ [(wa, .inl (G.2 1, 64, .inr (.inl (vp_updL g1 j (lI 0)))))]))))))) rfl (by omega) rfl dL_acts_133 (fun H locs hw => ?_)
            refine k_iincN hm hl 11 1 rfl [(11, vN (j + 1)), (0, .ref (o)), (1, .ref (ga)), (2, .ref (ma)), (3, .ref (wa)), (4, .int (z)), (5, vN (q_2)), (6, vN (q_5)), (7, vN (sumM (K (R - 1)) (w (R - 1)))), (8, vN (t)), (9, vN (n1_259)), (10, vN (R))] (by decide) rfl dL_acts_134 (fun ls hl => ?_)
            refine k_goto (tgt := 123) hm dL_acts_137 (by decide) ?_
            exact ih_123  (j + 1) (vp_updL g1 j (lI 0)) (by first | assumption | omega) (fun q z1 => by rcases Nat.lt_or_ge q j with z2 | z2; rw [updL_n (by omega)]; exact hz q z2; rw [show q = j by omega, updL_s]; exact lI_0) _ _ _ (by omega) hw (lv_sub hl [1, 2, 3, 4, 5, 6, 7, 8, 9, 10, 11, 0] rfl)
      exact loop_123 (4 - 0 + 1) 0 wf (by first | assumption | omega) (fun q z1 => absurd z1 (by omega)) _ _ _ (Nat.lt_succ_self _) hw (lv_sub hl [3, 4, 5, 6, 7, 8, 9, 10, 11, 2, 1, 0] rfl)
  refine k_iload hm hl 2 rfl dL_acts_32 ?_
  refine k_iconstN hm 3 dL_acts_34 ?_
  refine k_iremN hm (by omega) dL_acts_35 ?_
  refine k_ifne (tgt := 51) hm dL_acts_36 (by decide) (by omega) (fun c_274 => ?_) (fun c_274 => ?_)
  · refine k_iload hm hl 0 rfl dL_acts_51 ?_
    refine k_iload hm hl 2 rfl dL_acts_53 ?_
    refine k_iconstN hm 3 dL_acts_55 ?_
    refine k_idivN hm (by omega) dL_acts_56 ?_
    refine k_bipushN hm 13 dL_acts_57 rfl ?_
    refine k_iremN hm (by omega) dL_acts_59 ?_
    refine k_iaddN hm dL_acts_60 ?_
    refine k_bipushN hm 6 dL_acts_61 rfl ?_
    refine k_isub hm dL_acts_63 ?_
    refine k_istore hm hl [(8, vZ ((((sumM (K (R - 1)) (w (R - 1))) + ((q_2 / 3) % 13) : Nat) : Int) - ((6 : Nat) : Int))), (7, vN (sumM (K (R - 1)) (w (R - 1)))), (6, vN (q_5)), (5, vN (q_2)), (0, .ref (o)), (1, .ref (ga)), (2, .ref (ma)), (3, .ref (wa)), (4, .int (z))] (by decide) rfl dL_acts_64 (fun ls hl => ?_)
    refine k_iload hm hl 0 rfl dL_acts_66 ?_
    refine k_iconstN hm 3 dL_acts_68 ?_
    refine k_icmpge (tgt := 76) hm dL_acts_69 (by decide) (by omega) (fun c_275 => ?_) (fun c_275 => ?_)
    · refine k_iload hm hl 0 rfl dL_acts_76 ?_
      refine k_bipushN hm 120 dL_acts_78 rfl ?_
      refine k_icmple (tgt := 88) hm dL_acts_80 (by decide) (by omega) (fun c_276 => ?_) (fun c_276 => ?_)
      · refine k_iload hm hl 0 rfl dL_acts_88 ?_
        refine k_rwV (y := vN (Int.toNat ((((sumM (K (R - 1)) (w (R - 1))) + ((q_2 / 3) % 13) : Nat) : Int) - ((6 : Nat) : Int)))) (congrArg (fun q : Int => Value.int (iI q)) (Int.toNat_of_nonneg (show 0 ≤ (((sumM (K (R - 1)) (w (R - 1))) + ((q_2 / 3) % 13) : Nat) : Int) - ((6 : Nat) : Int) by omega)).symm) ?_
        refine k_istore hm hl [(8, vN (Int.toNat ((((sumM (K (R - 1)) (w (R - 1))) + ((q_2 / 3) % 13) : Nat) : Int) - ((6 : Nat) : Int)))), (7, vN (sumM (K (R - 1)) (w (R - 1)))), (6, vN (q_5)), (5, vN (q_2)), (0, .ref (o)), (1, .ref (ga)), (2, .ref (ma)), (3, .ref (wa)), (4, .int (z))] (by decide) rfl dL_acts_90 (fun ls hl => ?_)
        exact join_92  (Int.toNat ((((sumM (K (R - 1)) (w (R - 1))) + ((q_2 / 3) % 13) : Nat) : Int) - ((6 : Nat) : Int))) (by omega) _ _ _ hw (lv_sub hl [4, 5, 6, 7, 8, 3, 2, 1, 0] rfl)
      · refine k_bipushN hm 120 dL_acts_83 rfl ?_
        refine k_goto (tgt := 90) hm dL_acts_85 (by decide) ?_
        refine k_istore hm hl [(8, vN (120)), (7, vN (sumM (K (R - 1)) (w (R - 1)))), (6, vN (q_5)), (5, vN (q_2)), (0, .ref (o)), (1, .ref (ga)), (2, .ref (ma)), (3, .ref (wa)), (4, .int (z))] (by decide) rfl dL_acts_90 (fun ls hl => ?_)
        exact join_92  120 (by omega) _ _ _ hw (lv_sub hl [4, 5, 6, 7, 8, 3, 2, 1, 0] rfl)
    · refine k_iconstN hm 3 dL_acts_72 ?_
      refine k_goto (tgt := 90) hm dL_acts_73 (by decide) ?_
      refine k_istore hm hl [(8, vN (3)), (7, vN (sumM (K (R - 1)) (w (R - 1)))), (6, vN (q_5)), (5, vN (q_2)), (0, .ref (o)), (1, .ref (ga)), (2, .ref (ma)), (3, .ref (wa)), (4, .int (z))] (by decide) rfl dL_acts_90 (fun ls hl => ?_)
      exact join_92  3 (by omega) _ _ _ hw (lv_sub hl [4, 5, 6, 7, 8, 3, 2, 1, 0] rfl)
  · refine k_iconstN hm 3 dL_acts_39 ?_
    refine k_iload hm hl 2 rfl dL_acts_40 ?_
    refine k_iconstN hm 3 dL_acts_42 ?_
    refine k_idivN hm (by omega) dL_acts_43 ?_
    refine k_bipushN hm 118 dL_acts_44 rfl ?_
    refine k_iremN hm (by omega) dL_acts_46 ?_
    refine k_iaddN hm dL_acts_47 ?_
    refine k_goto (tgt := 64) hm dL_acts_48 (by decide) ?_
    refine k_istore hm hl [(8, vN (3 + ((q_2 / 3) % 118))), (7, vN (sumM (K (R - 1)) (w (R - 1)))), (6, vN (q_5)), (5, vN (q_2)), (0, .ref (o)), (1, .ref (ga)), (2, .ref (ma)), (3, .ref (wa)), (4, .int (z))] (by decide) rfl dL_acts_64 (fun ls hl => ?_)
    refine k_iload hm hl 0 rfl dL_acts_66 ?_
    refine k_iconstN hm 3 dL_acts_68 ?_
    refine k_icmpge (tgt := 76) hm dL_acts_69 (by decide) (by omega) (fun c_277 => ?_) (fun c_277 => ?_)
    · refine k_iload hm hl 0 rfl dL_acts_76 ?_
      refine k_bipushN hm 120 dL_acts_78 rfl ?_
      refine k_icmple (tgt := 88) hm dL_acts_80 (by decide) (by omega) (fun c_278 => ?_) (fun c_278 => ?_)
      · refine k_iload hm hl 0 rfl dL_acts_88 ?_
        refine k_istore hm hl [(8, vN (3 + ((q_2 / 3) % 118))), (7, vN (sumM (K (R - 1)) (w (R - 1)))), (6, vN (q_5)), (5, vN (q_2)), (0, .ref (o)), (1, .ref (ga)), (2, .ref (ma)), (3, .ref (wa)), (4, .int (z))] (by decide) rfl dL_acts_90 (fun ls hl => ?_)
        exact join_92  (3 + ((q_2 / 3) % 118)) (by omega) _ _ _ hw (lv_sub hl [4, 5, 6, 7, 8, 3, 2, 1, 0] rfl)
      · refine k_bipushN hm 120 dL_acts_83 rfl ?_
        refine k_goto (tgt := 90) hm dL_acts_85 (by decide) ?_
        refine k_istore hm hl [(8, vN (120)), (7, vN (sumM (K (R - 1)) (w (R - 1)))), (6, vN (q_5)), (5, vN (q_2)), (0, .ref (o)), (1, .ref (ga)), (2, .ref (ma)), (3, .ref (wa)), (4, .int (z))] (by decide) rfl dL_acts_90 (fun ls hl => ?_)
        exact join_92  120 (by omega) _ _ _ hw (lv_sub hl [4, 5, 6, 7, 8, 3, 2, 1, 0] rfl)
    · refine k_iconstN hm 3 dL_acts_72 ?_
      refine k_goto (tgt := 90) hm dL_acts_73 (by decide) ?_
      refine k_istore hm hl [(8, vN (3)), (7, vN (sumM (K (R - 1)) (w (R - 1)))), (6, vN (q_5)), (5, vN (q_2)), (0, .ref (o)), (1, .ref (ga)), (2, .ref (ma)), (3, .ref (wa)), (4, .int (z))] (by decide) rfl dL_acts_90 (fun ls hl => ?_)
      exact join_92  3 (by omega) _ _ _ hw (lv_sub hl [4, 5, 6, 7, 8, 3, 2, 1, 0] rfl)
