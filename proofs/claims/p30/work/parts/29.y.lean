set_option maxHeartbeats 16000000 in
set_option maxRecDepth 100000 in
theorem c_l_isSo (l : Launch) (G : kG) (o : Nat) (h : Nat) (T : Nat → Nat) (L : Nat → Nat) (M : Nat → Nat) (mf : Nat → Nat) (P : Nat → Nat) (gk : Nat → Nat) (gw : Nat → Nat) (gt : Nat → Nat) (gy : Nat → Nat) (R : Nat) (sp : Bool) (K : Nat → Nat → Nat) (w : Nat → Nat) (y : Nat → Nat) (ga : Nat) (gf : Nat → Nat) (ma : Nat) (mg : Nat → Nat) (wa : Nat) (wf : Nat → Int64) (htr : l.stackTraces = false) (hok : POk gk gw gt gy R K w y) (hlo : LOk gf mg wf R sp K w y) : kCX l yL_isSo wsL_isSo 10 194 30 180 G [.ref (o), .ref (ga), .ref (ma), .ref (wa)] (wMain G o P h T L M ++ (wPiece G P gk gw gt gy R sp ++ (wMk G M mf ++ ([(ga, .inl (G.2 0, 5, .inl (nF gf)))] ++ ([(ma, .inl (G.2 0, 16, .inl (nF mg)))] ++ [(wa, .inl (G.2 1, 64, .inr (.inl wf)))]))))) (fun vv uu => ∃ (mf2 : Nat → Nat), vv = some (vB (true)) ∧ uu = wMain G o P h T L M ++ (wPiece G P gk gw gt gy R sp ++ (wMk G M mf2 ++ ([(ga, .inl (G.2 0, 5, .inl (nF gf)))] ++ ([(ma, .inl (G.2 0, 16, .inl (nF mg)))] ++ [(wa, .inl (G.2 1, 64, .inr (.inl wf)))]))))) := by
  refine kCX.ofC (cc := cL_isSo) (maxL := 12) (ret := (some .boolean)) (by decide) rfl (Nat.le_of_ble_eq_true rfl) ?_
  intro p e s m args below meth c A ls Qz hQ hxs hst hm hw hl
  have hl : lv_has ls 12 [(0, .ref (o)), (1, .ref (ga)), (2, .ref (ma)), (3, .ref (wa))] := hl
  have hR := hok.1.1
  have hR14 := hlo.1.1
  have hg : gf 0 = R := hlo.1.2.1
  refine k_iconstN hm 1 dL_isSo_0 ?_
  refine k_istore hm hl [(4, vN (1)), (0, .ref (o)), (1, .ref (ga)), (2, .ref (ma)), (3, .ref (wa))] (by decide) rfl dL_isSo_1 (fun ls hl => ?_)
  refine k_iconstN hm 0 dL_isSo_3 ?_
  refine k_istore hm hl [(5, vN (0)), (4, vN (1)), (0, .ref (o)), (1, .ref (ga)), (2, .ref (ma)), (3, .ref (wa))] (by decide) rfl dL_isSo_4 (fun ls hl => ?_)
  refine k_iconstN hm 0 dL_isSo_6 ?_
  refine k_istore hm hl [(6, vN (0)), (5, vN (0)), (4, vN (1)), (0, .ref (o)), (1, .ref (ga)), (2, .ref (ma)), (3, .ref (wa))] (by decide) rfl dL_isSo_7 (fun ls hl => ?_)
  refine k_iconstN hm 0 dL_isSo_9 ?_
  refine k_istore hm hl [(7, vN (0)), (6, vN (0)), (5, vN (0)), (4, vN (1)), (0, .ref (o)), (1, .ref (ga)), (2, .ref (ma)), (3, .ref (wa))] (by decide) rfl dL_isSo_10 (fun ls hl => ?_)
  refine k_iconstN hm 0 dL_isSo_12 ?_
  refine k_istore hm hl [(8, vN (0)), (7, vN (0)), (6, vN (0)), (5, vN (0)), (4, vN (1)), (0, .ref (o)), (1, .ref (ga)), (2, .ref (ma)), (3, .ref (wa))] (by decide) rfl dL_isSo_13 (fun ls hl => ?_)
  refine k_iconstN hm 0 dL_isSo_15 ?_
  refine k_istore hm hl [(9, vN (0)), (8, vN (0)), (7, vN (0)), (6, vN (0)), (5, vN (0)), (4, vN (1)), (0, .ref (o)), (1, .ref (ga)), (2, .ref (ma)), (3, .ref (wa))] (by decide) rfl dL_isSo_16 (fun ls hl => ?_)
  refine k_iconstN hm 0 dL_isSo_18 ?_
  refine k_istore hm hl [(10, vN (0)), (9, vN (0)), (8, vN (0)), (7, vN (0)), (6, vN (0)), (5, vN (0)), (4, vN (1)), (0, .ref (o)), (1, .ref (ga)), (2, .ref (ma)), (3, .ref (wa))] (by decide) rfl dL_isSo_19 (fun ls hl => ?_)
  have loop_21 : ∀ (fu : Nat) (cl : Nat) (sl : Nat) (wi : Nat) (i : Nat) (mh : Nat → Nat) (hi : i ≤ R) (hcl : cl ≤ 2 * i ∧ sl ≤ 12 * i) (hwi : (i = 0 ∧ wi = 0) ∨ (1 ≤ i ∧ isWd (fun r => sumM (K r) (w r)) i wi)) (H : Heap) (locs : List Loc) (ls : Array Slot), R - i < fu → kW G A s (wMain G o P h T L M ++ (wPiece G P gk gw gt gy R sp ++ (wMk G M mh ++ ([(ga, .inl (G.2 0, 5, .inl (nF gf)))] ++ ([(ma, .inl (G.2 0, 16, .inl (nF mg)))] ++ [(wa, .inl (G.2 1, 64, .inr (.inl wf)))]))))) H locs → lv_has ls 12 [(0, .ref (o)), (1, .ref (ga)), (2, .ref (ma)), (3, .ref (wa)), (4, vN (1)), (5, vN (sumR K w y 0 i)), (6, vN (sumR K w y 7 i)), (7, vN (sumR K w y 5 i)), (8, vN (sumR K w y 6 i)), (9, vN (wi)), (10, vN (i))] → W p l e { frames := 10, cells := 30, slots := 180, locals := 194 } s m args below meth c H locs cl sl Qz (F0 m 21 ls []) := by
    intro fu
    induction fu with
    | zero => intro cl sl wi i mh hi hcl hwi H locs ls hfu; exact absurd hfu (Nat.not_lt_zero _)
    | succ fu ih_21 =>
      intro cl sl wi i mh hi hcl hwi H locs ls hfu hw hl
      refine k_iload hm hl 10 rfl dL_isSo_21 ?_
      refine k_aload_n hm hl 1 rfl dL_isSo_23 ?_
      refine k_iconstN hm 0 dL_isSo_24 ?_
      refine k_ialdN hm hw 13 rfl (by omega) dL_isSo_25 ?_
      refine k_rwV (y := vN (R)) (by rw [hg]) ?_
      refine k_icmpge (tgt := 126) hm dL_isSo_26 (by decide) (by omega) (fun c_1 => ?_) (fun c_1 => ?_)
      · have hiR : i = R := by omega
        subst hiR
        have hwd : wi = wdF (fun r => sumM (K r) (w r)) i := wdF_of (hwi.elim (fun z => by omega) (fun z => z.2))
        have hll := PVd_last hok.1
        have hlk := hlo.2 (i - 1) (by omega)
        have hs0 := sumR_le hok.1 0 (Nat.le_refl i)
        have hs7 := sumR_le hok.1 7 (Nat.le_refl i)
        have hs5 := sumR_le hok.1 5 (Nat.le_refl i)
        have hs6 := sumR_le hok.1 6 (Nat.le_refl i)
        have hwl := wdF_lt (fun r => sumM (K r) (w r)) hR.1
        have hb01 := bI_01 sp
        have hg1 := hlo.1.2.2.1
        refine k_iload hm hl 4 rfl dL_isSo_126 ?_
        refine k_ifeq (tgt := 253) hm dL_isSo_128 (by decide) (by omega) (fun c_2 => absurd c_2 (by omega)) (fun c_2 => ?_)
        refine k_aload_n hm hl 0 rfl dL_isSo_131 ?_
        refine k_aload_n hm hl 1 rfl dL_isSo_132 ?_
        refine k_iconstN hm 0 dL_isSo_133 ?_
        refine k_ialdN hm hw 13 rfl (by omega) dL_isSo_134 ?_
        refine k_rwV (y := vN (i)) (by rw [hg]) ?_
        refine k_iconstN hm 0 dL_isSo_135 ?_
        refine k_callSX (n := 3) (As := [.ref (o), vN (i), vN (0)]) (rest := []) (wr := [(M 0, .inr (1, [.ref (M 1)])), (M 1, .inr (2, [.ref (M 2)])), (M 2, .inl (G.2 0, 120, .inl (nF mh))), (ga, .inl (G.2 0, 5, .inl (nF gf))), (ma, .inl (G.2 0, 16, .inl (nF mg))), (wa, .inl (G.2 1, 64, .inr (.inl wf)))]) hm hw hl hxs hst (c_w_round_x1 l G o h T L M P gk gw gt gy i sp ((i : Nat) : Int) ((0 : Nat) : Int) (by first | assumption | omega) (by first | assumption | omega) (by first | assumption | omega) (by first | assumption | omega) (by first | assumption | omega)) gL_isSo_L_roundOf rfl (by decide +kernel) ⟨by decide, by decide⟩ [0, 1, 2, 3, 4, 5, 6, 7, 8, 9] [10, 11, 12, 13, 14, 15] (by decide) rfl rfl (by decide) (by decide) rfl rfl (by simp [Value.category]) ⟨(by show _ ≤ 30; omega), (by show _ ≤ 180; omega)⟩ dL_isSo_136 (fun v w1 H locs hp hw => ?_)
        obtain ⟨rfl, rfl⟩ := hp
        have hw := hw.sub (ws' := wMain G o P h T L M ++ (wPiece G P gk gw gt gy i sp ++ (wMk G M mh ++ ([(ga, .inl (G.2 0, 5, .inl (nF gf)))] ++ ([(ma, .inl (G.2 0, 16, .inl (nF mg)))] ++ [(wa, .inl (G.2 1, 64, .inr (.inl wf)))]))))) [6, 7, 8, 9, 10, 11, 12, 13, 14, 15, 0, 1, 2, 3, 4, 5] (by decide) rfl
        refine W.eq (g2 := F0 m 139 ls [vZ (-30004)]) rfl ?_
        refine k_sipush (n := -30004) hm dL_isSo_139 rfl ?_
        refine k_icmpne (tgt := 253) hm dL_isSo_142 (by decide) (by omega) (fun c_4 => absurd c_4 (by omega)) (fun c_4 => ?_)
        refine k_aload_n hm hl 0 rfl dL_isSo_145 ?_
        refine k_iconst (n := -1) hm dL_isSo_146 ?_
        refine k_iconstN hm 0 dL_isSo_147 ?_
        refine k_callSX (n := 3) (As := [.ref (o), vZ (-1), vN (0)]) (rest := []) (wr := [(M 0, .inr (1, [.ref (M 1)])), (M 1, .inr (2, [.ref (M 2)])), (M 2, .inl (G.2 0, 120, .inl (nF mh))), (ga, .inl (G.2 0, 5, .inl (nF gf))), (ma, .inl (G.2 0, 16, .inl (nF mg))), (wa, .inl (G.2 1, 64, .inr (.inl wf)))]) hm hw hl hxs hst (c_w_round_x1 l G o h T L M P gk gw gt gy i sp (-1) ((0 : Nat) : Int) (by first | assumption | omega) (by first | assumption | omega) (by first | assumption | omega) (by first | assumption | omega) (by first | assumption | omega)) gL_isSo_L_roundOf rfl (by decide +kernel) ⟨by decide, by decide⟩ [0, 1, 2, 3, 4, 5, 6, 7, 8, 9] [10, 11, 12, 13, 14, 15] (by decide) rfl rfl (by decide) (by decide) rfl rfl (by simp [Value.category]) ⟨(by show _ ≤ 30; omega), (by show _ ≤ 180; omega)⟩ dL_isSo_148 (fun v w1 H locs hp hw => ?_)
        obtain ⟨rfl, rfl⟩ := hp
        have hw := hw.sub (ws' := wMain G o P h T L M ++ (wPiece G P gk gw gt gy i sp ++ (wMk G M mh ++ ([(ga, .inl (G.2 0, 5, .inl (nF gf)))] ++ ([(ma, .inl (G.2 0, 16, .inl (nF mg)))] ++ [(wa, .inl (G.2 1, 64, .inr (.inl wf)))]))))) [6, 7, 8, 9, 10, 11, 12, 13, 14, 15, 0, 1, 2, 3, 4, 5] (by decide) rfl
        refine W.eq (g2 := F0 m 151 ls [vZ (-30004)]) rfl ?_
        refine k_sipush (n := -30004) hm dL_isSo_151 rfl ?_
        refine k_icmpne (tgt := 253) hm dL_isSo_154 (by decide) (by omega) (fun c_6 => absurd c_6 (by omega)) (fun c_6 => ?_)
        refine k_aload_n hm hl 0 rfl dL_isSo_157 ?_
        refine k_iconstN hm 0 dL_isSo_158 ?_
        refine k_callSX (n := 2) (As := [.ref (o), vN (0)]) (rest := []) (wr := [(ga, .inl (G.2 0, 5, .inl (nF gf))), (ma, .inl (G.2 0, 16, .inl (nF mg))), (wa, .inl (G.2 1, 64, .inr (.inl wf)))]) hm hw hl hxs hst (c_w_value_ok l G o h T L M mh P gk gw gt gy i sp K w y 0 (by first | assumption | omega) (by first | assumption | omega)) gL_isSo_L_valueOf rfl (by decide +kernel) ⟨by decide, by decide⟩ [0, 1, 2, 3, 4, 5, 6, 7, 8, 9, 10, 11, 12] [13, 14, 15] (by decide) rfl rfl (by decide) (by decide) rfl rfl (by simp [Value.category]) ⟨(by show _ ≤ 30; omega), (by show _ ≤ 180; omega)⟩ dL_isSo_159 (fun v w1 H locs hp hw => ?_)
        obtain ⟨mf2_8, rfl, rfl⟩ := hp
        have hw := hw.sub (ws' := wMain G o P h T L M ++ (wPiece G P gk gw gt gy i sp ++ (wMk G M mf2_8 ++ ([(ga, .inl (G.2 0, 5, .inl (nF gf)))] ++ ([(ma, .inl (G.2 0, 16, .inl (nF mg)))] ++ [(wa, .inl (G.2 1, 64, .inr (.inl wf)))]))))) [3, 4, 5, 6, 7, 8, 9, 10, 11, 12, 13, 14, 15, 0, 1, 2] (by decide) rfl
        refine W.eq (g2 := F0 m 162 ls [vZ (val K w y i sp 0)]) rfl ?_
        refine k_rwV (y := vN (i)) rfl ?_
        refine k_aload_n hm hl 1 rfl dL_isSo_162 ?_
        refine k_iconstN hm 0 dL_isSo_163 ?_
        refine k_ialdN hm hw 13 rfl (by omega) dL_isSo_164 ?_
        refine k_rwV (y := vN (i)) (by rw [hg]) ?_
        refine k_icmpne (tgt := 253) hm dL_isSo_165 (by decide) (by omega) (fun c_9 => absurd c_9 (by omega)) (fun c_9 => ?_)
        refine k_aload_n hm hl 0 rfl dL_isSo_168 ?_
        refine k_iconstN hm 1 dL_isSo_169 ?_
        refine k_callSX (n := 2) (As := [.ref (o), vN (1)]) (rest := []) (wr := [(ga, .inl (G.2 0, 5, .inl (nF gf))), (ma, .inl (G.2 0, 16, .inl (nF mg))), (wa, .inl (G.2 1, 64, .inr (.inl wf)))]) hm hw hl hxs hst (c_w_value_ok l G o h T L M mf2_8 P gk gw gt gy i sp K w y 1 (by first | assumption | omega) (by first | assumption | omega)) gL_isSo_L_valueOf rfl (by decide +kernel) ⟨by decide, by decide⟩ [0, 1, 2, 3, 4, 5, 6, 7, 8, 9, 10, 11, 12] [13, 14, 15] (by decide) rfl rfl (by decide) (by decide) rfl rfl (by simp [Value.category]) ⟨(by show _ ≤ 30; omega), (by show _ ≤ 180; omega)⟩ dL_isSo_170 (fun v w1 H locs hp hw => ?_)
        obtain ⟨mf2_11, rfl, rfl⟩ := hp
        have hw := hw.sub (ws' := wMain G o P h T L M ++ (wPiece G P gk gw gt gy i sp ++ (wMk G M mf2_11 ++ ([(ga, .inl (G.2 0, 5, .inl (nF gf)))] ++ ([(ma, .inl (G.2 0, 16, .inl (nF mg)))] ++ [(wa, .inl (G.2 1, 64, .inr (.inl wf)))]))))) [3, 4, 5, 6, 7, 8, 9, 10, 11, 12, 13, 14, 15, 0, 1, 2] (by decide) rfl
        refine W.eq (g2 := F0 m 173 ls [vZ (val K w y i sp 1)]) rfl ?_
        refine k_rwV (y := vN (sumM (K (i - 1)) (w (i - 1)))) rfl ?_
        refine k_aload_n hm hl 2 rfl dL_isSo_173 ?_
        refine k_aload_n hm hl 3 rfl dL_isSo_174 ?_
        refine k_aload_n hm hl 1 rfl dL_isSo_175 ?_
        refine k_iconstN hm 0 dL_isSo_176 ?_
        refine k_ialdN hm hw 13 rfl (by omega) dL_isSo_177 ?_
        refine k_rwV (y := vN (i)) (by rw [hg]) ?_
        refine k_iconstN hm 1 dL_isSo_178 ?_
        refine k_isubN hm (by omega) dL_isSo_179 ?_
        refine k_callSr (n := 3) (As := [.ref (ma), .ref (wa), vN (i - 1)]) (rest := [vN (sumM (K (i - 1)) (w (i - 1)))]) hm hw hl (c_l_total l G ma mg wa wf (i - 1) (K (i - 1)) (w (i - 1)) hlk.1 hlk.2 (by omega)) gL_isSo_L_total rfl (by decide +kernel) ⟨by decide, by decide⟩ [14, 15] (by decide) rfl rfl rfl (by simp [Value.category]) ⟨(by show _ ≤ 30; omega), (by show _ ≤ 180; omega)⟩ dL_isSo_180 (fun v H locs hp hw => ?_)
        obtain rfl := hp
        refine W.eq (g2 := F0 m 183 ls [vN (sumM (K (i - 1)) (w (i - 1))), vN (sumM (K (i - 1)) (w (i - 1)))]) rfl ?_
        refine k_icmpne (tgt := 253) hm dL_isSo_183 (by decide) (by omega) (fun c_13 => absurd c_13 (by omega)) (fun c_13 => ?_)
        refine k_aload_n hm hl 0 rfl dL_isSo_186 ?_
        refine k_iconstN hm 2 dL_isSo_187 ?_
        refine k_callSX (n := 2) (As := [.ref (o), vN (2)]) (rest := []) (wr := [(ga, .inl (G.2 0, 5, .inl (nF gf))), (ma, .inl (G.2 0, 16, .inl (nF mg))), (wa, .inl (G.2 1, 64, .inr (.inl wf)))]) hm hw hl hxs hst (c_w_value_ok l G o h T L M mf2_11 P gk gw gt gy i sp K w y 2 (by first | assumption | omega) (by first | assumption | omega)) gL_isSo_L_valueOf rfl (by decide +kernel) ⟨by decide, by decide⟩ [0, 1, 2, 3, 4, 5, 6, 7, 8, 9, 10, 11, 12] [13, 14, 15] (by decide) rfl rfl (by decide) (by decide) rfl rfl (by simp [Value.category]) ⟨(by show _ ≤ 30; omega), (by show _ ≤ 180; omega)⟩ dL_isSo_188 (fun v w1 H locs hp hw => ?_)
        obtain ⟨mf2_15, rfl, rfl⟩ := hp
        have hw := hw.sub (ws' := wMain G o P h T L M ++ (wPiece G P gk gw gt gy i sp ++ (wMk G M mf2_15 ++ ([(ga, .inl (G.2 0, 5, .inl (nF gf)))] ++ ([(ma, .inl (G.2 0, 16, .inl (nF mg)))] ++ [(wa, .inl (G.2 1, 64, .inr (.inl wf)))]))))) [3, 4, 5, 6, 7, 8, 9, 10, 11, 12, 13, 14, 15, 0, 1, 2] (by decide) rfl
        refine W.eq (g2 := F0 m 191 ls [vZ (val K w y i sp 2)]) rfl ?_
        refine k_rwV (y := vN (sumR K w y 0 i)) rfl ?_
        refine k_iload hm hl 5 rfl dL_isSo_191 ?_
        refine k_icmpne (tgt := 253) hm dL_isSo_193 (by decide) (by omega) (fun c_16 => absurd c_16 (by omega)) (fun c_16 => ?_)
        refine k_aload_n hm hl 0 rfl dL_isSo_196 ?_
        refine k_iconstN hm 3 dL_isSo_197 ?_
        refine k_callSX (n := 2) (As := [.ref (o), vN (3)]) (rest := []) (wr := [(ga, .inl (G.2 0, 5, .inl (nF gf))), (ma, .inl (G.2 0, 16, .inl (nF mg))), (wa, .inl (G.2 1, 64, .inr (.inl wf)))]) hm hw hl hxs hst (c_w_value_ok l G o h T L M mf2_15 P gk gw gt gy i sp K w y 3 (by first | assumption | omega) (by first | assumption | omega)) gL_isSo_L_valueOf rfl (by decide +kernel) ⟨by decide, by decide⟩ [0, 1, 2, 3, 4, 5, 6, 7, 8, 9, 10, 11, 12] [13, 14, 15] (by decide) rfl rfl (by decide) (by decide) rfl rfl (by simp [Value.category]) ⟨(by show _ ≤ 30; omega), (by show _ ≤ 180; omega)⟩ dL_isSo_198 (fun v w1 H locs hp hw => ?_)
        obtain ⟨mf2_18, rfl, rfl⟩ := hp
        have hw := hw.sub (ws' := wMain G o P h T L M ++ (wPiece G P gk gw gt gy i sp ++ (wMk G M mf2_18 ++ ([(ga, .inl (G.2 0, 5, .inl (nF gf)))] ++ ([(ma, .inl (G.2 0, 16, .inl (nF mg)))] ++ [(wa, .inl (G.2 1, 64, .inr (.inl wf)))]))))) [3, 4, 5, 6, 7, 8, 9, 10, 11, 12, 13, 14, 15, 0, 1, 2] (by decide) rfl
        refine W.eq (g2 := F0 m 201 ls [vZ (val K w y i sp 3)]) rfl ?_
        refine k_rwV (y := vN (sumR K w y 7 i)) rfl ?_
        refine k_iload hm hl 6 rfl dL_isSo_201 ?_
        refine k_icmpne (tgt := 253) hm dL_isSo_203 (by decide) (by omega) (fun c_19 => absurd c_19 (by omega)) (fun c_19 => ?_)
        refine k_aload_n hm hl 0 rfl dL_isSo_206 ?_
        refine k_iconstN hm 4 dL_isSo_207 ?_
        refine k_callSX (n := 2) (As := [.ref (o), vN (4)]) (rest := []) (wr := [(ga, .inl (G.2 0, 5, .inl (nF gf))), (ma, .inl (G.2 0, 16, .inl (nF mg))), (wa, .inl (G.2 1, 64, .inr (.inl wf)))]) hm hw hl hxs hst (c_w_value_ok l G o h T L M mf2_18 P gk gw gt gy i sp K w y 4 (by first | assumption | omega) (by first | assumption | omega)) gL_isSo_L_valueOf rfl (by decide +kernel) ⟨by decide, by decide⟩ [0, 1, 2, 3, 4, 5, 6, 7, 8, 9, 10, 11, 12] [13, 14, 15] (by decide) rfl rfl (by decide) (by decide) rfl rfl (by simp [Value.category]) ⟨(by show _ ≤ 30; omega), (by show _ ≤ 180; omega)⟩ dL_isSo_208 (fun v w1 H locs hp hw => ?_)
        obtain ⟨mf2_21, rfl, rfl⟩ := hp
        have hw := hw.sub (ws' := wMain G o P h T L M ++ (wPiece G P gk gw gt gy i sp ++ (wMk G M mf2_21 ++ ([(ga, .inl (G.2 0, 5, .inl (nF gf)))] ++ ([(ma, .inl (G.2 0, 16, .inl (nF mg)))] ++ [(wa, .inl (G.2 1, 64, .inr (.inl wf)))]))))) [3, 4, 5, 6, 7, 8, 9, 10, 11, 12, 13, 14, 15, 0, 1, 2] (by decide) rfl
        refine W.eq (g2 := F0 m 211 ls [vZ (val K w y i sp 4)]) rfl ?_
        refine k_rwV (y := vN (sumR K w y 5 i)) rfl ?_
        refine k_iload hm hl 7 rfl dL_isSo_211 ?_
        refine k_icmpne (tgt := 253) hm dL_isSo_213 (by decide) (by omega) (fun c_22 => absurd c_22 (by omega)) (fun c_22 => ?_)
        refine k_aload_n hm hl 0 rfl dL_isSo_216 ?_
        refine k_iconstN hm 5 dL_isSo_217 ?_
        refine k_callSX (n := 2) (As := [.ref (o), vN (5)]) (rest := []) (wr := [(ga, .inl (G.2 0, 5, .inl (nF gf))), (ma, .inl (G.2 0, 16, .inl (nF mg))), (wa, .inl (G.2 1, 64, .inr (.inl wf)))]) hm hw hl hxs hst (c_w_value_ok l G o h T L M mf2_21 P gk gw gt gy i sp K w y 5 (by first | assumption | omega) (by first | assumption | omega)) gL_isSo_L_valueOf rfl (by decide +kernel) ⟨by decide, by decide⟩ [0, 1, 2, 3, 4, 5, 6, 7, 8, 9, 10, 11, 12] [13, 14, 15] (by decide) rfl rfl (by decide) (by decide) rfl rfl (by simp [Value.category]) ⟨(by show _ ≤ 30; omega), (by show _ ≤ 180; omega)⟩ dL_isSo_218 (fun v w1 H locs hp hw => ?_)
        obtain ⟨mf2_24, rfl, rfl⟩ := hp
        have hw := hw.sub (ws' := wMain G o P h T L M ++ (wPiece G P gk gw gt gy i sp ++ (wMk G M mf2_24 ++ ([(ga, .inl (G.2 0, 5, .inl (nF gf)))] ++ ([(ma, .inl (G.2 0, 16, .inl (nF mg)))] ++ [(wa, .inl (G.2 1, 64, .inr (.inl wf)))]))))) [3, 4, 5, 6, 7, 8, 9, 10, 11, 12, 13, 14, 15, 0, 1, 2] (by decide) rfl
        refine W.eq (g2 := F0 m 221 ls [vZ (val K w y i sp 5)]) rfl ?_
        refine k_rwV (y := vN (sumR K w y 6 i)) rfl ?_
        refine k_iload hm hl 8 rfl dL_isSo_221 ?_
        refine k_icmpne (tgt := 253) hm dL_isSo_223 (by decide) (by omega) (fun c_25 => absurd c_25 (by omega)) (fun c_25 => ?_)
        refine k_aload_n hm hl 0 rfl dL_isSo_226 ?_
        refine k_bipushN hm 6 dL_isSo_227 rfl ?_
        refine k_callSX (n := 2) (As := [.ref (o), vN (6)]) (rest := []) (wr := [(ga, .inl (G.2 0, 5, .inl (nF gf))), (ma, .inl (G.2 0, 16, .inl (nF mg))), (wa, .inl (G.2 1, 64, .inr (.inl wf)))]) hm hw hl hxs hst (c_w_value_ok l G o h T L M mf2_24 P gk gw gt gy i sp K w y 6 (by first | assumption | omega) (by first | assumption | omega)) gL_isSo_L_valueOf rfl (by decide +kernel) ⟨by decide, by decide⟩ [0, 1, 2, 3, 4, 5, 6, 7, 8, 9, 10, 11, 12] [13, 14, 15] (by decide) rfl rfl (by decide) (by decide) rfl rfl (by simp [Value.category]) ⟨(by show _ ≤ 30; omega), (by show _ ≤ 180; omega)⟩ dL_isSo_229 (fun v w1 H locs hp hw => ?_)
        obtain ⟨mf2_27, rfl, rfl⟩ := hp
        have hw := hw.sub (ws' := wMain G o P h T L M ++ (wPiece G P gk gw gt gy i sp ++ (wMk G M mf2_27 ++ ([(ga, .inl (G.2 0, 5, .inl (nF gf)))] ++ ([(ma, .inl (G.2 0, 16, .inl (nF mg)))] ++ [(wa, .inl (G.2 1, 64, .inr (.inl wf)))]))))) [3, 4, 5, 6, 7, 8, 9, 10, 11, 12, 13, 14, 15, 0, 1, 2] (by decide) rfl
        refine W.eq (g2 := F0 m 232 ls [vZ (val K w y i sp 6)]) rfl ?_
        refine k_rwV (y := vN (wdF (fun r => sumM (K r) (w r)) i)) rfl ?_
        refine k_iload hm hl 9 rfl dL_isSo_232 ?_
        refine k_icmpne (tgt := 253) hm dL_isSo_234 (by decide) (by omega) (fun c_28 => absurd c_28 (by omega)) (fun c_28 => ?_)
        refine k_aload_n hm hl 0 rfl dL_isSo_237 ?_
        refine k_bipushN hm 7 dL_isSo_238 rfl ?_
        refine k_callSX (n := 2) (As := [.ref (o), vN (7)]) (rest := []) (wr := [(ga, .inl (G.2 0, 5, .inl (nF gf))), (ma, .inl (G.2 0, 16, .inl (nF mg))), (wa, .inl (G.2 1, 64, .inr (.inl wf)))]) hm hw hl hxs hst (c_w_value_ok l G o h T L M mf2_27 P gk gw gt gy i sp K w y 7 (by first | assumption | omega) (by first | assumption | omega)) gL_isSo_L_valueOf rfl (by decide +kernel) ⟨by decide, by decide⟩ [0, 1, 2, 3, 4, 5, 6, 7, 8, 9, 10, 11, 12] [13, 14, 15] (by decide) rfl rfl (by decide) (by decide) rfl rfl (by simp [Value.category]) ⟨(by show _ ≤ 30; omega), (by show _ ≤ 180; omega)⟩ dL_isSo_240 (fun v w1 H locs hp hw => ?_)
        obtain ⟨mf2_30, rfl, rfl⟩ := hp
        have hw := hw.sub (ws' := wMain G o P h T L M ++ (wPiece G P gk gw gt gy i sp ++ (wMk G M mf2_30 ++ ([(ga, .inl (G.2 0, 5, .inl (nF gf)))] ++ ([(ma, .inl (G.2 0, 16, .inl (nF mg)))] ++ [(wa, .inl (G.2 1, 64, .inr (.inl wf)))]))))) [3, 4, 5, 6, 7, 8, 9, 10, 11, 12, 13, 14, 15, 0, 1, 2] (by decide) rfl
        refine W.eq (g2 := F0 m 243 ls [vZ (val K w y i sp 7)]) rfl ?_
        refine k_rwV (y := vZ (bI sp)) rfl ?_
        refine k_aload_n hm hl 1 rfl dL_isSo_243 ?_
        refine k_iconstN hm 1 dL_isSo_244 ?_
        refine k_ialdN hm hw 13 rfl (by omega) dL_isSo_245 ?_
        refine k_icmpne (tgt := 253) hm dL_isSo_246 (by decide) (by omega) (fun c_31 => absurd c_31 (by omega)) (fun c_31 => ?_)
        refine k_iconstN hm 1 dL_isSo_249 ?_
        refine k_goto (tgt := 254) hm dL_isSo_250 (by decide) ?_
        exact k_iret (post := _) hm hQ rfl (kN_bool true) hw (⟨_, rfl, rfl⟩) (by omega) (by omega) dL_isSo_254
      · refine k_iload hm hl 4 rfl dL_isSo_29 ?_
        refine k_ifeq (tgt := 126) hm dL_isSo_31 (by decide) (by omega) (fun c_32 => absurd c_32 (by omega)) (fun c_32 => ?_)
        have hwl : wi < R := hwi.elim (fun z => by omega) (fun z => by have := z.2.1; omega)
        have hki := hlo.2 i (by omega)
        have hbi := (hok.1.2.1 i (by omega)).2.1
        have hkw := hlo.2 wi hwl
        have hbw := (hok.1.2.1 wi hwl).2.1
        refine k_aload_n hm hl 0 rfl dL_isSo_34 ?_
        refine k_aload_n hm hl 1 rfl dL_isSo_35 ?_
        refine k_aload_n hm hl 2 rfl dL_isSo_36 ?_
        refine k_aload_n hm hl 3 rfl dL_isSo_37 ?_
        refine k_iload hm hl 10 rfl dL_isSo_38 ?_
        refine k_callSY (n := 5) (As := [.ref (o), .ref (ga), .ref (ma), .ref (wa), vN (i)]) (rest := []) (wr := []) hm hw hl hxs hst (c_l_isRound l G o h T L M mh P gk gw gt gy R sp K w y ga gf ma mg wa wf i (by first | assumption | omega) (by first | assumption | omega) (by first | assumption | omega) (by omega)) gL_isSo_L_isRound rfl (by decide +kernel) ⟨by decide, by decide⟩ [0, 1, 2, 3, 4, 5, 6, 7, 8, 9, 10, 11, 12, 13, 14, 15] [] (by decide) rfl rfl (by decide) (by decide) rfl rfl (by simp [Value.category]) ⟨(by show _ ≤ 30; omega), (by show _ ≤ 180; omega)⟩ dL_isSo_40 (fun v w1 H locs hp hw => ?_)
        obtain ⟨mf2_34, rfl, rfl⟩ := hp
        have hw := hw.sub (ws' := wMain G o P h T L M ++ (wPiece G P gk gw gt gy R sp ++ (wMk G M mf2_34 ++ ([(ga, .inl (G.2 0, 5, .inl (nF gf)))] ++ ([(ma, .inl (G.2 0, 16, .inl (nF mg)))] ++ [(wa, .inl (G.2 1, 64, .inr (.inl wf)))]))))) [0, 1, 2, 3, 4, 5, 6, 7, 8, 9, 10, 11, 12, 13, 14, 15] (by decide) rfl
        refine W.eq (g2 := F0 m 43 ls [vB (true)]) rfl ?_
        refine k_rwV (y := vN (1)) rfl ?_
        refine k_istore hm hl [(4, vN (1)), (0, .ref (o)), (1, .ref (ga)), (2, .ref (ma)), (3, .ref (wa)), (5, vN (sumR K w y 0 i)), (6, vN (sumR K w y 7 i)), (7, vN (sumR K w y 5 i)), (8, vN (sumR K w y 6 i)), (9, vN (wi)), (10, vN (i))] (by decide) rfl dL_isSo_43 (fun ls hl => ?_)
        refine k_aload_n hm hl 3 rfl dL_isSo_45 ?_
        refine k_aload_n hm hl 4 rfl dL_isSo_46 ?_
        refine k_iload hm hl 10 rfl dL_isSo_47 ?_
        refine k_callSr (n := 3) (As := [.ref (ma), .ref (wa), vN (i)]) (rest := []) hm hw hl (c_l_total l G ma mg wa wf i (K i) (w i) hki.1 hki.2 (by omega)) gL_isSo_L_total rfl (by decide +kernel) ⟨by decide, by decide⟩ [14, 15] (by decide) rfl rfl rfl (by simp [Value.category]) ⟨(by show _ ≤ 30; omega), (by show _ ≤ 180; omega)⟩ dL_isSo_49 (fun v H locs hp hw => ?_)
        obtain rfl := hp
        refine W.eq (g2 := F0 m 52 ls [vN (sumM (K i) (w i))]) rfl ?_
        refine k_istore hm hl [(11, vN (sumM (K i) (w i))), (4, vN (1)), (0, .ref (o)), (1, .ref (ga)), (2, .ref (ma)), (3, .ref (wa)), (5, vN (sumR K w y 0 i)), (6, vN (sumR K w y 7 i)), (7, vN (sumR K w y 5 i)), (8, vN (sumR K w y 6 i)), (9, vN (wi)), (10, vN (i))] (by decide) rfl dL_isSo_52 (fun ls hl => ?_)
        refine k_iload hm hl 6 rfl dL_isSo_54 ?_
        refine k_iload hm hl 0 rfl dL_isSo_56 ?_
        refine k_iaddN hm dL_isSo_58 ?_
        refine k_rwV (y := vN (sumR K w y 0 (i + 1))) rfl ?_
        refine k_istore hm hl [(5, vN (sumR K w y 0 (i + 1))), (11, vN (sumM (K i) (w i))), (4, vN (1)), (0, .ref (o)), (1, .ref (ga)), (2, .ref (ma)), (3, .ref (wa)), (6, vN (sumR K w y 7 i)), (7, vN (sumR K w y 5 i)), (8, vN (sumR K w y 6 i)), (9, vN (wi)), (10, vN (i))] (by decide) rfl dL_isSo_59 (fun ls hl => ?_)
        refine k_iload hm hl 7 rfl dL_isSo_61 ?_
        refine k_aload_n hm hl 3 rfl dL_isSo_63 ?_
        refine k_iload hm hl 11 rfl dL_isSo_64 ?_
        refine k_bipushN hm 7 dL_isSo_66 rfl ?_
        refine k_callSX (n := 3) (As := [.ref (o), vN (i), vN (7)]) (rest := [vN (sumR K w y 7 i)]) (wr := [(ga, .inl (G.2 0, 5, .inl (nF gf))), (ma, .inl (G.2 0, 16, .inl (nF mg))), (wa, .inl (G.2 1, 64, .inr (.inl wf)))]) hm hw hl hxs hst (c_w_round_ok l G o h T L M mf2_34 P gk gw gt gy R sp K w y i 7 (by first | assumption | omega) (by omega) (by first | assumption | omega)) gL_isSo_L_roundOf rfl (by decide +kernel) ⟨by decide, by decide⟩ [0, 1, 2, 3, 4, 5, 6, 7, 8, 9, 10, 11, 12] [13, 14, 15] (by decide) rfl rfl (by decide) (by decide) rfl rfl (by simp [Value.category]) ⟨(by show _ ≤ 30; omega), (by show _ ≤ 180; omega)⟩ dL_isSo_68 (fun v w1 H locs hp hw => ?_)
        obtain ⟨mf2_37, rfl, rfl⟩ := hp
        have hw := hw.sub (ws' := wMain G o P h T L M ++ (wPiece G P gk gw gt gy R sp ++ (wMk G M mf2_37 ++ ([(ga, .inl (G.2 0, 5, .inl (nF gf)))] ++ ([(ma, .inl (G.2 0, 16, .inl (nF mg)))] ++ [(wa, .inl (G.2 1, 64, .inr (.inl wf)))]))))) [3, 4, 5, 6, 7, 8, 9, 10, 11, 12, 13, 14, 15, 0, 1, 2] (by decide) rfl
        refine W.eq (g2 := F0 m 71 ls [vZ (rv K w y i 7), vN (sumR K w y 7 i)]) rfl ?_
        refine k_rwV (y := vN (rvN K w y i 7)) (show Value.int (iI (rv K w y i 7)) = Value.int (iI ((rvN K w y i 7 : Nat) : Int)) from congrArg (fun q : Int => Value.int (iI q)) (rv_lt (by decide))) ?_
        refine k_iaddN hm dL_isSo_71 ?_
        refine k_rwV (y := vN (sumR K w y 7 (i + 1))) rfl ?_
        refine k_istore hm hl [(6, vN (sumR K w y 7 (i + 1))), (5, vN (sumR K w y 0 (i + 1))), (11, vN (sumM (K i) (w i))), (4, vN (1)), (0, .ref (o)), (1, .ref (ga)), (2, .ref (ma)), (3, .ref (wa)), (7, vN (sumR K w y 5 i)), (8, vN (sumR K w y 6 i)), (9, vN (wi)), (10, vN (i))] (by decide) rfl dL_isSo_72 (fun ls hl => ?_)
        refine k_iload hm hl 8 rfl dL_isSo_74 ?_
        refine k_aload_n hm hl 6 rfl dL_isSo_76 ?_
        refine k_aload_n hm hl 7 rfl dL_isSo_77 ?_
        refine k_iload hm hl 11 rfl dL_isSo_78 ?_
        refine k_callSr (n := 3) (As := [.ref (ma), .ref (wa), vN (i)]) (rest := [vN (sumR K w y 5 i)]) hm hw hl (c_l_stacked l G ma mg wa wf i (K i) (w i) (K (i - 1)) (w (i - 1)) hki.1 hki.2 (by omega) (by rcases Nat.eq_zero_or_pos i with q | q; exact Or.inl q; exact Or.inr ⟨(hlo.2 (i - 1) (by omega)).1, (hlo.2 (i - 1) (by omega)).2, by have z := hok.1.2.2.1 (i - 1) (by omega); rw [show i - 1 + 1 = i by omega] at z; exact z, (hok.1.2.1 (i - 1) (by omega)).2.1.2⟩)) gL_isSo_L_stacked rfl (by decide +kernel) ⟨by decide, by decide⟩ [14, 15] (by decide) rfl rfl rfl (by simp [Value.category]) ⟨(by show _ ≤ 30; omega), (by show _ ≤ 180; omega)⟩ dL_isSo_80 (fun v H locs hp hw => ?_)
        obtain rfl := hp
        refine W.eq (g2 := F0 m 83 ls [vN (if i = 0 then 0 else nstk (mkF (K (i - 1)) (w (i - 1))) (K i) (w i)), vN (sumR K w y 5 i)]) rfl ?_
        refine k_iaddN hm dL_isSo_83 ?_
        refine k_rwV (y := vN (sumR K w y 5 (i + 1))) rfl ?_
        refine k_istore hm hl [(7, vN (sumR K w y 5 (i + 1))), (6, vN (sumR K w y 7 (i + 1))), (5, vN (sumR K w y 0 (i + 1))), (11, vN (sumM (K i) (w i))), (4, vN (1)), (0, .ref (o)), (1, .ref (ga)), (2, .ref (ma)), (3, .ref (wa)), (8, vN (sumR K w y 6 i)), (9, vN (wi)), (10, vN (i))] (by decide) rfl dL_isSo_84 (fun ls hl => ?_)
        refine k_iload hm hl 9 rfl dL_isSo_86 ?_
        refine k_aload_n hm hl 5 rfl dL_isSo_88 ?_
        refine k_iload hm hl 11 rfl dL_isSo_89 ?_
        refine k_bipushN hm 6 dL_isSo_91 rfl ?_
        refine k_callSX (n := 3) (As := [.ref (o), vN (i), vN (6)]) (rest := [vN (sumR K w y 6 i)]) (wr := [(ga, .inl (G.2 0, 5, .inl (nF gf))), (ma, .inl (G.2 0, 16, .inl (nF mg))), (wa, .inl (G.2 1, 64, .inr (.inl wf)))]) hm hw hl hxs hst (c_w_round_ok l G o h T L M mf2_37 P gk gw gt gy R sp K w y i 6 (by first | assumption | omega) (by omega) (by first | assumption | omega)) gL_isSo_L_roundOf rfl (by decide +kernel) ⟨by decide, by decide⟩ [0, 1, 2, 3, 4, 5, 6, 7, 8, 9, 10, 11, 12] [13, 14, 15] (by decide) rfl rfl (by decide) (by decide) rfl rfl (by simp [Value.category]) ⟨(by show _ ≤ 30; omega), (by show _ ≤ 180; omega)⟩ dL_isSo_93 (fun v w1 H locs hp hw => ?_)
        obtain ⟨mf2_40, rfl, rfl⟩ := hp
        have hw := hw.sub (ws' := wMain G o P h T L M ++ (wPiece G P gk gw gt gy R sp ++ (wMk G M mf2_40 ++ ([(ga, .inl (G.2 0, 5, .inl (nF gf)))] ++ ([(ma, .inl (G.2 0, 16, .inl (nF mg)))] ++ [(wa, .inl (G.2 1, 64, .inr (.inl wf)))]))))) [3, 4, 5, 6, 7, 8, 9, 10, 11, 12, 13, 14, 15, 0, 1, 2] (by decide) rfl
        refine W.eq (g2 := F0 m 96 ls [vZ (rv K w y i 6), vN (sumR K w y 6 i)]) rfl ?_
        refine k_rwV (y := vN (rvN K w y i 6)) (show Value.int (iI (rv K w y i 6)) = Value.int (iI ((rvN K w y i 6 : Nat) : Int)) from congrArg (fun q : Int => Value.int (iI q)) (rv_lt (by decide))) ?_
        refine k_iaddN hm dL_isSo_96 ?_
        refine k_rwV (y := vN (sumR K w y 6 (i + 1))) rfl ?_
        refine k_istore hm hl [(8, vN (sumR K w y 6 (i + 1))), (7, vN (sumR K w y 5 (i + 1))), (6, vN (sumR K w y 7 (i + 1))), (5, vN (sumR K w y 0 (i + 1))), (11, vN (sumM (K i) (w i))), (4, vN (1)), (0, .ref (o)), (1, .ref (ga)), (2, .ref (ma)), (3, .ref (wa)), (9, vN (wi)), (10, vN (i))] (by decide) rfl dL_isSo_97 (fun ls hl => ?_)
        refine k_iload hm hl 4 rfl dL_isSo_99 ?_
        refine k_aload_n hm hl 8 rfl dL_isSo_101 ?_
        refine k_aload_n hm hl 9 rfl dL_isSo_102 ?_
        refine k_iload hm hl 10 rfl dL_isSo_103 ?_
        refine k_callSr (n := 3) (As := [.ref (ma), .ref (wa), vN (wi)]) (rest := [vN (sumM (K i) (w i))]) hm hw hl (c_l_total l G ma mg wa wf wi (K wi) (w wi) hkw.1 hkw.2 (by omega)) gL_isSo_L_total rfl (by decide +kernel) ⟨by decide, by decide⟩ [14, 15] (by decide) rfl rfl rfl (by simp [Value.category]) ⟨(by show _ ≤ 30; omega), (by show _ ≤ 180; omega)⟩ dL_isSo_105 (fun v H locs hp hw => ?_)
        obtain rfl := hp
        refine W.eq (g2 := F0 m 108 ls [vN (sumM (K wi) (w wi)), vN (sumM (K i) (w i))]) rfl ?_
        refine k_icmple (tgt := 116) hm dL_isSo_108 (by decide) (by omega) (fun c_42 => ?_) (fun c_42 => ?_)
        · refine k_iload hm hl 10 rfl dL_isSo_116 ?_
          refine k_istore hm hl [(9, vN (wi)), (8, vN (sumR K w y 6 (i + 1))), (7, vN (sumR K w y 5 (i + 1))), (6, vN (sumR K w y 7 (i + 1))), (5, vN (sumR K w y 0 (i + 1))), (11, vN (sumM (K i) (w i))), (4, vN (1)), (0, .ref (o)), (1, .ref (ga)), (2, .ref (ma)), (3, .ref (wa)), (10, vN (i))] (by decide) rfl dL_isSo_118 (fun ls hl => ?_)
          refine k_iincN hm hl 11 1 rfl [(10, vN (i + 1)), (9, vN (wi)), (8, vN (sumR K w y 6 (i + 1))), (7, vN (sumR K w y 5 (i + 1))), (6, vN (sumR K w y 7 (i + 1))), (5, vN (sumR K w y 0 (i + 1))), (11, vN (sumM (K i) (w i))), (4, vN (1)), (0, .ref (o)), (1, .ref (ga)), (2, .ref (ma)), (3, .ref (wa))] (by decide) rfl dL_isSo_120 (fun ls hl => ?_)
          refine k_goto (tgt := 21) hm dL_isSo_123 (by decide) ?_
          exact ih_21  _ _ wi (i + 1) mf2_40 (by first | assumption | omega) (by omega) (by
                              rcases hwi with ⟨z1, z2⟩ | ⟨z1, z2⟩
                              · refine Or.inr ⟨by omega, by omega, fun r q => ?_, fun r q => absurd q (by omega)⟩
                                rw [show r = wi by omega]
                                exact Nat.le_refl _
                              · refine Or.inr ⟨by omega, by have := z2.1; omega, fun r q => ?_, z2.2.2⟩
                                rcases Nat.lt_or_ge r i with q2 | q2
                                · exact z2.2.1 r q2
                                · rw [show r = i by omega]
                                  dsimp only
                                  omega) _ _ _ (by omega) hw (lv_sub hl [8, 9, 10, 11, 7, 5, 4, 3, 2, 1, 0] rfl)
        · refine k_iload hm hl 11 rfl dL_isSo_111 ?_
          refine k_goto (tgt := 118) hm dL_isSo_113 (by decide) ?_
          refine k_istore hm hl [(9, vN (i)), (8, vN (sumR K w y 6 (i + 1))), (7, vN (sumR K w y 5 (i + 1))), (6, vN (sumR K w y 7 (i + 1))), (5, vN (sumR K w y 0 (i + 1))), (11, vN (sumM (K i) (w i))), (4, vN (1)), (0, .ref (o)), (1, .ref (ga)), (2, .ref (ma)), (3, .ref (wa)), (10, vN (i))] (by decide) rfl dL_isSo_118 (fun ls hl => ?_)
          refine k_iincN hm hl 11 1 rfl [(10, vN (i + 1)), (9, vN (i)), (8, vN (sumR K w y 6 (i + 1))), (7, vN (sumR K w y 5 (i + 1))), (6, vN (sumR K w y 7 (i + 1))), (5, vN (sumR K w y 0 (i + 1))), (11, vN (sumM (K i) (w i))), (4, vN (1)), (0, .ref (o)), (1, .ref (ga)), (2, .ref (ma)), (3, .ref (wa))] (by decide) rfl dL_isSo_120 (fun ls hl => ?_)
          refine k_goto (tgt := 21) hm dL_isSo_123 (by decide) ?_
          exact ih_21  _ _ i (i + 1) mf2_40 (by first | assumption | omega) (by omega) (by
                              rcases hwi with ⟨z1, z2⟩ | ⟨z1, z2⟩
                              · have e9 : wi = i := by omega
                                subst e9
                                omega
                              · refine Or.inr ⟨by omega, by omega, fun r q => ?_, fun r q => ?_⟩
                                · rcases Nat.lt_or_ge r i with q2 | q2
                                  · have q3 := z2.2.1 r q2
                                    dsimp only at q3 ⊢
                                    omega
                                  · rw [show r = i by omega]
                                    exact Nat.le_refl _
                                · have q3 := z2.2.1 r (by omega)
                                  dsimp only at q3 ⊢
                                  omega) _ _ _ (by omega) hw (lv_sub hl [8, 9, 10, 11, 7, 5, 4, 3, 2, 1, 0] rfl)
  exact loop_21 (R - 0 + 1) _ _ 0 0 mf (by first | assumption | omega) (by omega) (Or.inl ⟨rfl, rfl⟩) _ _ _ (Nat.lt_succ_self _) hw (lv_sub hl [7, 8, 9, 10, 6, 5, 4, 3, 2, 1, 0] rfl)
