set_option maxHeartbeats 4000000 in
set_option maxRecDepth 100000 in
theorem c_l_lays_s (l : Launch) (G : kG) (ga : Nat) (gf : Nat → Nat) (ma : Nat) (mg : Nat → Nat) (wa : Nat) (wf : Nat → Int64) (R : Nat) (t : Nat) (x : Nat) (k0 : Nat → Nat) (n0 : Nat) (nn : Nat) (hg : gf 0 = R) (hR : 1 ≤ R ∧ R ≤ 15) (hm0 : mg (R - 1) = n0) (hr0 : RwB wf (R - 1) k0 n0) (hnn : nn = sumM k0 n0) (h : 3 ≤ t ∧ t ≤ 120 ∧ 3 ≤ nn ∧ nn ≤ 120 ∧ x < 1000) : kCM l yL_lays wsL_lays 2 46 0 0 G [.ref (ga), .ref (ma), .ref (wa), vN (t), vN (x)] ([(ga, .inl (G.2 0, 5, .inl (nF gf)))] ++ ([(ma, .inl (G.2 0, 16, .inl (nF mg)))] ++ [(wa, .inl (G.2 1, 64, .inr (.inl wf)))])) (fun vv uu => ∃ (wf2 : Nat → Int64), vv = none ∧ uu = [(ga, .inl (G.2 0, 5, .inl (nF gf)))] ++ ([(ma, .inl (G.2 0, 16, .inl (nF (nU mg R (pm nn t)))))] ++ [(wa, .inl (G.2 1, 64, .inr (.inl wf2)))]) ∧ (RwB wf2 R (spR nn t x) (pm nn t)) ∧ (∀ q, q < 4 * R → wf2 q = wf q)) := by
  refine kCM.of (cc := cL_lays) (maxL := 14) (ret := none) (by decide) rfl (Nat.le_of_ble_eq_true rfl) ?_
  intro p e s m args below meth c A ls Qz hQ hin hm hw hl
  have hl : lv_has ls 14 [(0, .ref (ga)), (1, .ref (ma)), (2, .ref (wa)), (3, vN (t)), (4, vN (x))] := hl
  have hn := hr0.1
  have hpm : 3 ≤ pm nn t ∧ pm nn t ≤ 120 := by unfold pm; split <;> omega
  have hpd : pd nn t ≤ 120 := by unfold pd; split <;> omega
  have hle : ∀ j, (spR nn t x) j ≤ 2 := fun j => spk_le (pkx_le nn t).2
  refine k_aload_n hm hl 0 rfl dL_lays_0 ?_
  refine k_iconstN hm 0 dL_lays_1 ?_
  refine k_ialdN hm hw 0 rfl (by omega) dL_lays_2 ?_
  refine k_rwV (y := vN (R)) (by rw [hg]) ?_
  refine k_istore hm hl [(5, vN (R)), (0, .ref (ga)), (1, .ref (ma)), (2, .ref (wa)), (3, vN (t)), (4, vN (x))] (by decide) rfl dL_lays_3 (fun ls hl => ?_)
  refine k_aload_n hm hl 2 rfl dL_lays_5 ?_
  refine k_aload_n hm hl 3 rfl dL_lays_6 ?_
  refine k_iload hm hl 0 rfl dL_lays_7 ?_
  refine k_iconstN hm 1 dL_lays_9 ?_
  refine k_isubN hm (by omega) dL_lays_10 ?_
  refine k_callSr (n := 3) (As := [.ref (ma), .ref (wa), vN (R - 1)]) (rest := []) hm hw hl (c_l_total l G ma mg wa wf (R - 1) k0 n0 hm0 hr0 (by first | assumption | omega)) gL_lays_L_total rfl (by decide +kernel) ⟨by decide, by decide⟩ [1, 2] (by decide) rfl rfl rfl (by simp [Value.category]) ⟨by decide, by decide⟩ dL_lays_11 (fun v H locs hp hw => ?_)
  obtain rfl := hp
  refine W.eq (g2 := F0 m 14 ls [vN (sumM k0 n0)]) rfl ?_
  refine k_rwV (y := vN (nn)) (by rw [hnn]) ?_
  refine k_istore hm hl [(6, vN (nn)), (5, vN (R)), (0, .ref (ga)), (1, .ref (ma)), (2, .ref (wa)), (3, vN (t)), (4, vN (x))] (by decide) rfl dL_lays_14 (fun ls hl => ?_)
  have join_49 : ∀ (H : Heap) (locs : List Loc) (ls : Array Slot), kW G A s ([(ga, .inl (G.2 0, 5, .inl (nF gf)))] ++ ([(ma, .inl (G.2 0, 16, .inl (nF mg)))] ++ [(wa, .inl (G.2 1, 64, .inr (.inl wf)))])) H locs → lv_has ls 14 [(0, .ref (ga)), (1, .ref (ma)), (2, .ref (wa)), (3, vN (t)), (4, vN (x)), (5, vN (R)), (6, vN (nn)), (7, vN (pm nn t)), (8, vN (pd nn t))] → W p l e { frames := 2, cells := 0, slots := 0, locals := 46 } s m args below meth c H locs 0 0 Qz (F0 m 49 ls []) := by
    intro  H locs ls hw hl
    refine k_iconstN hm 0 dL_lays_49 ?_
    refine k_istore hm hl [(9, vN (0)), (0, .ref (ga)), (1, .ref (ma)), (2, .ref (wa)), (3, vN (t)), (4, vN (x)), (5, vN (R)), (6, vN (nn)), (7, vN (pm nn t)), (8, vN (pd nn t))] (by decide) rfl dL_lays_50 (fun ls hl => ?_)
    have loop_52 : ∀ (fu : Nat) (j : Nat) (g1 : Nat → Int64) (hj : j ≤ 4) (hz : ∀ q, q < j → g1 (4 * R + q) = 0) (hq : ∀ q, q < 4 * R → g1 q = wf q) (H : Heap) (locs : List Loc) (ls : Array Slot), 4 - j < fu → kW G A s ([(ga, .inl (G.2 0, 5, .inl (nF gf)))] ++ ([(ma, .inl (G.2 0, 16, .inl (nF mg)))] ++ [(wa, .inl (G.2 1, 64, .inr (.inl g1)))])) H locs → lv_has ls 14 [(0, .ref (ga)), (1, .ref (ma)), (2, .ref (wa)), (3, vN (t)), (4, vN (x)), (5, vN (R)), (6, vN (nn)), (7, vN (pm nn t)), (8, vN (pd nn t)), (9, vN (j))] → W p l e { frames := 2, cells := 0, slots := 0, locals := 46 } s m args below meth c H locs 0 0 Qz (F0 m 52 ls []) := by
      intro fu
      induction fu with
      | zero => intro j g1 hj hz hq H locs ls hfu; exact absurd hfu (Nat.not_lt_zero _)
      | succ fu ih_52 =>
        intro j g1 hj hz hq H locs ls hfu hw hl
        refine k_iload hm hl 9 rfl dL_lays_52 ?_
        refine k_iconstN hm 4 dL_lays_54 ?_
        refine k_icmpge (tgt := 74) hm dL_lays_55 (by decide) (by omega) (fun c_2 => ?_) (fun c_2 => ?_)
        · refine k_iconstN hm 0 dL_lays_74 ?_
          refine k_istore hm hl [(9, vN (0)), (0, .ref (ga)), (1, .ref (ma)), (2, .ref (wa)), (3, vN (t)), (4, vN (x)), (5, vN (R)), (6, vN (nn)), (7, vN (pm nn t)), (8, vN (pd nn t))] (by decide) rfl dL_lays_75 (fun ls hl => ?_)
          have loop_77 : ∀ (fu : Nat) (i : Nat) (g2 : Nat → Int64) (hi : i ≤ pm nn t) (ha : ∀ j, j < i → fd (g2 (4 * R + j / 32)) (j % 32) = lI ((spR nn t x) j : Int)) (hb : ∀ j, i ≤ j → j < 128 → fd (g2 (4 * R + j / 32)) (j % 32) = 0) (hq2 : ∀ q, q < 4 * R → g2 q = wf q) (H : Heap) (locs : List Loc) (ls : Array Slot), pm nn t - i < fu → kW G A s ([(ga, .inl (G.2 0, 5, .inl (nF gf)))] ++ ([(ma, .inl (G.2 0, 16, .inl (nF mg)))] ++ [(wa, .inl (G.2 1, 64, .inr (.inl g2)))])) H locs → lv_has ls 14 [(0, .ref (ga)), (1, .ref (ma)), (2, .ref (wa)), (3, vN (t)), (4, vN (x)), (5, vN (R)), (6, vN (nn)), (7, vN (pm nn t)), (8, vN (pd nn t)), (9, vN (i))] → W p l e { frames := 2, cells := 0, slots := 0, locals := 46 } s m args below meth c H locs 0 0 Qz (F0 m 77 ls []) := by
            intro fu
            induction fu with
            | zero => intro i g2 hi ha hb hq2 H locs ls hfu; exact absurd hfu (Nat.not_lt_zero _)
            | succ fu ih_77 =>
              intro i g2 hi ha hb hq2 H locs ls hfu hw hl
              refine k_iload hm hl 9 rfl dL_lays_77 ?_
              refine k_iload hm hl 7 rfl dL_lays_79 ?_
              refine k_icmpge (tgt := 257) hm dL_lays_81 (by decide) (by omega) (fun c_3 => ?_) (fun c_3 => ?_)
              · refine k_aload_n hm hl 1 rfl dL_lays_257 ?_
                refine k_iload hm hl 5 rfl dL_lays_258 ?_
                refine k_iload hm hl 7 rfl dL_lays_260 ?_
                refine k_iastN hm hw 1 ([(ga, .inl (G.2 0, 5, .inl (nF gf)))] ++ ([(ma, .inl (G.2 0, 16, .inl (nF (nU mg R (pm nn t)))))] ++ [(wa, .inl (G.2 1, 64, .inr (.inl g2)))])) rfl (by omega) rfl dL_lays_262 (fun H locs hw => ?_)
                exact k_vret hm hQ rfl hw (⟨_, rfl, rfl, ⟨hpm.2, fun j q => ⟨hle j, ha j (by omega)⟩⟩, hq2⟩) (by omega) (by omega) dL_lays_263
              · have hri2 := hle i
                refine k_iload hm hl 4 rfl dL_lays_84 ?_
                refine k_iflt (tgt := 100) hm dL_lays_86 (by decide) (by omega) (fun c_4 => absurd c_4 (by omega)) (fun c_4 => ?_)
                refine k_iload hm hl 9 rfl dL_lays_89 ?_
                refine k_iload hm hl 4 rfl dL_lays_91 ?_
                refine k_iaddN hm dL_lays_93 ?_
                refine k_iload hm hl 7 rfl dL_lays_94 ?_
                refine k_iremN hm (by omega) dL_lays_96 ?_
                refine k_goto (tgt := 121) hm dL_lays_97 (by decide) ?_
                have hj := Nat.mod_lt (i + x) (show 0 < pm nn t by omega)
                refine k_nmN (fun jx_5 ejx_5 => ?_)
                refine k_istore hm hl [(10, vN (jx_5)), (0, .ref (ga)), (1, .ref (ma)), (2, .ref (wa)), (3, vN (t)), (4, vN (x)), (5, vN (R)), (6, vN (nn)), (7, vN (pm nn t)), (8, vN (pd nn t)), (9, vN (i))] (by decide) rfl dL_lays_121 (fun ls hl => ?_)
                refine k_iload hm hl 5 rfl dL_lays_123 ?_
                refine k_iflt (tgt := 133) hm dL_lays_125 (by decide) (by omega) (fun c_6 => absurd c_6 (by omega)) (fun c_6 => ?_)
                refine k_iload hm hl 8 rfl dL_lays_128 ?_
                refine k_goto (tgt := 137) hm dL_lays_130 (by decide) ?_
                refine k_istore hm hl [(11, vN (pm nn t)), (10, vN (jx_5)), (0, .ref (ga)), (1, .ref (ma)), (2, .ref (wa)), (3, vN (t)), (4, vN (x)), (5, vN (R)), (6, vN (nn)), (7, vN (pm nn t)), (8, vN (pd nn t)), (9, vN (i))] (by decide) rfl dL_lays_137 (fun ls hl => ?_)
                refine k_iload hm hl 6 rfl dL_lays_139 ?_
                refine k_iflt (tgt := 149) hm dL_lays_141 (by decide) (by omega) (fun c_7 => absurd c_7 (by omega)) (fun c_7 => ?_)
                refine k_iload hm hl 10 rfl dL_lays_144 ?_
                refine k_goto (tgt := 153) hm dL_lays_146 (by decide) ?_
                refine k_istore hm hl [(12, vN (pd nn t)), (11, vN (pm nn t)), (10, vN (jx_5)), (0, .ref (ga)), (1, .ref (ma)), (2, .ref (wa)), (3, vN (t)), (4, vN (x)), (5, vN (R)), (6, vN (nn)), (7, vN (pm nn t)), (8, vN (pd nn t)), (9, vN (i))] (by decide) rfl dL_lays_153 (fun ls hl => ?_)
                refine k_iload hm hl 2 rfl dL_lays_155 ?_
                refine k_iload hm hl 1 rfl dL_lays_157 ?_
                refine k_icmplt (tgt := 178) hm dL_lays_159 (by decide) (by omega) (fun c_8 => ?_) (fun c_8 => absurd c_8 (by omega))
                have hp1 : (jx_5 + 1) * (pd nn t) ≤ 121 * 120 := Nat.mul_le_mul (by omega) (by omega)
                have hp2 : jx_5 * (pd nn t) ≤ 120 * 120 := Nat.mul_le_mul (by omega) (by omega)
                have hmo : jx_5 * (pd nn t) / (pm nn t) ≤ (jx_5 + 1) * (pd nn t) / (pm nn t) := Nat.div_le_div_right (Nat.mul_le_mul_right _ (Nat.le_succ jx_5))
                have hd1 := Nat.div_le_self ((jx_5 + 1) * (pd nn t)) (pm nn t)
                have hd2 := Nat.div_le_self (jx_5 * (pd nn t)) (pm nn t)
                refine k_iload hm hl 2 rfl dL_lays_178 ?_
                refine k_iconstN hm 1 dL_lays_180 ?_
                refine k_iaddN hm dL_lays_181 ?_
                refine k_iload hm hl 0 rfl dL_lays_182 ?_
                refine k_imulN hm dL_lays_184 ?_
                refine k_iload hm hl 1 rfl dL_lays_185 ?_
                refine k_idivN hm (by omega) dL_lays_187 ?_
                refine k_nmN (fun qb_9 eqb_9 => ?_)
                refine k_iload hm hl 2 rfl dL_lays_188 ?_
                refine k_iload hm hl 0 rfl dL_lays_190 ?_
                refine k_imulN hm dL_lays_192 ?_
                refine k_iload hm hl 1 rfl dL_lays_193 ?_
                refine k_idivN hm (by omega) dL_lays_195 ?_
                refine k_nmN (fun qa_10 eqa_10 => ?_)
                rw [← eqa_10, ← eqb_9] at hmo; rw [← eqb_9] at hd1; rw [← eqa_10] at hd2
                refine k_icmpeq (tgt := 203) hm dL_lays_196 (by decide) (by omega) (fun c_11 => ?_) (fun c_11 => ?_)
                · refine k_iconstN hm 0 dL_lays_203 ?_
                  refine k_istore hm hl [(13, vN (0)), (12, vN (pd nn t)), (11, vN (pm nn t)), (10, vN (jx_5)), (0, .ref (ga)), (1, .ref (ma)), (2, .ref (wa)), (3, vN (t)), (4, vN (x)), (5, vN (R)), (6, vN (nn)), (7, vN (pm nn t)), (8, vN (pd nn t)), (9, vN (i))] (by decide) rfl dL_lays_204 (fun ls hl => ?_)
                  refine k_aload_n hm hl 6 rfl dL_lays_206 ?_
                  refine k_iconstN hm 4 dL_lays_207 ?_
                  refine k_iload hm hl 9 rfl dL_lays_208 ?_
                  refine k_imulN hm dL_lays_210 ?_
                  refine k_iload hm hl 13 rfl dL_lays_211 ?_
                  refine k_bipushN hm 32 dL_lays_213 rfl ?_
                  refine k_idivN hm (by omega) dL_lays_215 ?_
                  refine k_iaddN hm dL_lays_216 ?_
                  refine lv_dup2_11 hm.1 hm.2.1 dL_lays_217 rfl rfl ?_
                  refine k_lald hm hw 2 rfl (by omega) dL_lays_218 ?_
                  refine k_iload hm hl 0 rfl dL_lays_219 ?_
                  refine k_ifeq (tgt := 240) hm dL_lays_221 (by decide) (by omega) (fun c_12 => ?_) (fun c_12 => absurd c_12 (by omega))
                  refine k_lconst (n := 0) hm dL_lays_240 ?_
                  have hri : (spR nn t x) i = 0 := by show spk (pk nn t) (pd nn t) (pm nn t) ((i + x) % pm nn t) = 0; rw [← ejx_5]; unfold spk; rw [if_neg (by rw [← eqa_10, ← eqb_9]; omega)]
                  refine k_rwV (y := .long (lI (((spR nn t x) i : Nat) : Int))) (by rw [hri]; rfl) ?_
                  refine k_iload hm hl 13 rfl dL_lays_241 ?_
                  refine k_bipushN hm 32 dL_lays_243 rfl ?_
                  refine k_iremN hm (by omega) dL_lays_245 ?_
                  refine k_iconstN hm 2 dL_lays_246 ?_
                  refine k_imulN hm dL_lays_247 ?_
                  refine k_lshl (n := (i % 32) * 2) hm (by omega) dL_lays_248 ?_
                  refine lv_lor hm.1 hm.2.1 dL_lays_249 ?_
                  refine k_last hm hw 2 ([(ga, .inl (G.2 0, 5, .inl (nF gf)))] ++ ([(ma, .inl (G.2 0, 16, .inl (nF mg)))] ++ [(wa, .inl (G.2 1, 64, .inr (.inl (vp_updL g2 ((4 * R) + (i / 32)) ((g2 ((4 * R) + (i / 32))) ||| ((lI (((spR nn t x) i : Nat) : Int)) <<< lI (((i % 32) * 2 : Nat) : Int)))))))])) rfl (by omega) rfl dL_lays_250 (fun H locs hw => ?_)
                  refine k_iincN hm hl 13 1 rfl [(9, vN (i + 1)), (13, vN (0)), (12, vN (pd nn t)), (11, vN (pm nn t)), (10, vN (jx_5)), (0, .ref (ga)), (1, .ref (ma)), (2, .ref (wa)), (3, vN (t)), (4, vN (x)), (5, vN (R)), (6, vN (nn)), (7, vN (pm nn t)), (8, vN (pd nn t))] (by decide) rfl dL_lays_251 (fun ls hl => ?_)
                  refine k_goto (tgt := 77) hm dL_lays_254 (by decide) ?_
                  exact ih_77  (i + 1) (vp_updL g2 ((4 * R) + (i / 32)) ((g2 ((4 * R) + (i / 32))) ||| ((lI (((spR nn t x) i : Nat) : Int)) <<< lI (((i % 32) * 2 : Nat) : Int)))) (by first | assumption | omega) (by
                              intro j q
                              have hst := fun j2 (h2 : j2 < 32) => fd_set (a := g2 (4 * R + i / 32)) (x := (spR nn t x) i) (i := i % 32) (j := j2) (by omega) (by omega) h2 (hb i (Nat.le_refl _) (by omega))
                              by_cases e9 : j / 32 = i / 32
                              · rw [e9, updL_s, hst (j % 32) (by omega)]
                                by_cases e2 : j % 32 = i % 32
                                · rw [if_pos e2, show j = i by omega]
                                · rw [if_neg e2, ← e9]; exact ha j (by omega)
                              · rw [updL_n (by omega)]; exact ha j (by omega)) (by
                              intro j q1 q2
                              have hst := fun j2 (h2 : j2 < 32) => fd_set (a := g2 (4 * R + i / 32)) (x := (spR nn t x) i) (i := i % 32) (j := j2) (by omega) (by omega) h2 (hb i (Nat.le_refl _) (by omega))
                              by_cases e9 : j / 32 = i / 32
                              · rw [e9, updL_s, hst (j % 32) (by omega), if_neg (by omega), ← e9]; exact hb j (by omega) q2
                              · rw [updL_n (by omega)]; exact hb j (by omega) q2) (fun q z => by rw [updL_n (by omega)]; exact hq2 q z) _ _ _ (by omega) hw (lv_sub hl [5, 6, 7, 8, 9, 10, 11, 12, 13, 0] rfl)
                · refine k_iconstN hm 1 dL_lays_199 ?_
                  refine k_goto (tgt := 204) hm dL_lays_200 (by decide) ?_
                  refine k_istore hm hl [(13, vN (1)), (12, vN (pd nn t)), (11, vN (pm nn t)), (10, vN (jx_5)), (0, .ref (ga)), (1, .ref (ma)), (2, .ref (wa)), (3, vN (t)), (4, vN (x)), (5, vN (R)), (6, vN (nn)), (7, vN (pm nn t)), (8, vN (pd nn t)), (9, vN (i))] (by decide) rfl dL_lays_204 (fun ls hl => ?_)
                  refine k_aload_n hm hl 6 rfl dL_lays_206 ?_
                  refine k_iconstN hm 4 dL_lays_207 ?_
                  refine k_iload hm hl 9 rfl dL_lays_208 ?_
                  refine k_imulN hm dL_lays_210 ?_
                  refine k_iload hm hl 13 rfl dL_lays_211 ?_
                  refine k_bipushN hm 32 dL_lays_213 rfl ?_
                  refine k_idivN hm (by omega) dL_lays_215 ?_
                  refine k_iaddN hm dL_lays_216 ?_
                  refine lv_dup2_11 hm.1 hm.2.1 dL_lays_217 rfl rfl ?_
                  refine k_lald hm hw 2 rfl (by omega) dL_lays_218 ?_
                  refine k_iload hm hl 0 rfl dL_lays_219 ?_
                  refine k_ifeq (tgt := 240) hm dL_lays_221 (by decide) (by omega) (fun c_13 => absurd c_13 (by omega)) (fun c_13 => ?_)
                  refine k_iload_n hm hl 7 rfl dL_lays_224 ?_
                  refine k_iload hm hl 10 rfl dL_lays_225 ?_
                  refine k_icmpge (tgt := 236) hm dL_lays_227 (by decide) (by omega) (fun c_14 => ?_) (fun c_14 => ?_)
                  · refine k_lconst (n := 1) hm dL_lays_236 ?_
                    refine k_goto (tgt := 241) hm dL_lays_237 (by decide) ?_
                    have hri : (spR nn t x) i = 1 := by show spk (pk nn t) (pd nn t) (pm nn t) ((i + x) % pm nn t) = 1; rw [← ejx_5]; unfold spk; rw [if_pos (by rw [← eqa_10, ← eqb_9]; omega)]; unfold pk; rw [if_pos (by omega)]
                    refine k_rwV (y := .long (lI (((spR nn t x) i : Nat) : Int))) (by rw [hri]; rfl) ?_
                    refine k_iload hm hl 13 rfl dL_lays_241 ?_
                    refine k_bipushN hm 32 dL_lays_243 rfl ?_
                    refine k_iremN hm (by omega) dL_lays_245 ?_
                    refine k_iconstN hm 2 dL_lays_246 ?_
                    refine k_imulN hm dL_lays_247 ?_
                    refine k_lshl (n := (i % 32) * 2) hm (by omega) dL_lays_248 ?_
                    refine lv_lor hm.1 hm.2.1 dL_lays_249 ?_
                    refine k_last hm hw 2 ([(ga, .inl (G.2 0, 5, .inl (nF gf)))] ++ ([(ma, .inl (G.2 0, 16, .inl (nF mg)))] ++ [(wa, .inl (G.2 1, 64, .inr (.inl (vp_updL g2 ((4 * R) + (i / 32)) ((g2 ((4 * R) + (i / 32))) ||| ((lI (((spR nn t x) i : Nat) : Int)) <<< lI (((i % 32) * 2 : Nat) : Int)))))))])) rfl (by omega) rfl dL_lays_250 (fun H locs hw => ?_)
                    refine k_iincN hm hl 13 1 rfl [(9, vN (i + 1)), (13, vN (1)), (12, vN (pd nn t)), (11, vN (pm nn t)), (10, vN (jx_5)), (0, .ref (ga)), (1, .ref (ma)), (2, .ref (wa)), (3, vN (t)), (4, vN (x)), (5, vN (R)), (6, vN (nn)), (7, vN (pm nn t)), (8, vN (pd nn t))] (by decide) rfl dL_lays_251 (fun ls hl => ?_)
                    refine k_goto (tgt := 77) hm dL_lays_254 (by decide) ?_
                    exact ih_77  (i + 1) (vp_updL g2 ((4 * R) + (i / 32)) ((g2 ((4 * R) + (i / 32))) ||| ((lI (((spR nn t x) i : Nat) : Int)) <<< lI (((i % 32) * 2 : Nat) : Int)))) (by first | assumption | omega) (by
                              intro j q
                              have hst := fun j2 (h2 : j2 < 32) => fd_set (a := g2 (4 * R + i / 32)) (x := (spR nn t x) i) (i := i % 32) (j := j2) (by omega) (by omega) h2 (hb i (Nat.le_refl _) (by omega))
                              by_cases e9 : j / 32 = i / 32
                              · rw [e9, updL_s, hst (j % 32) (by omega)]
                                by_cases e2 : j % 32 = i % 32
                                · rw [if_pos e2, show j = i by omega]
                                · rw [if_neg e2, ← e9]; exact ha j (by omega)
                              · rw [updL_n (by omega)]; exact ha j (by omega)) (by
                              intro j q1 q2
                              have hst := fun j2 (h2 : j2 < 32) => fd_set (a := g2 (4 * R + i / 32)) (x := (spR nn t x) i) (i := i % 32) (j := j2) (by omega) (by omega) h2 (hb i (Nat.le_refl _) (by omega))
                              by_cases e9 : j / 32 = i / 32
                              · rw [e9, updL_s, hst (j % 32) (by omega), if_neg (by omega), ← e9]; exact hb j (by omega) q2
                              · rw [updL_n (by omega)]; exact hb j (by omega) q2) (fun q z => by rw [updL_n (by omega)]; exact hq2 q z) _ _ _ (by omega) hw (lv_sub hl [5, 6, 7, 8, 9, 10, 11, 12, 13, 0] rfl)
                  · refine lv_ldc2 hm.1 hm.2.1 (own := RL) hm.2.2.2.1 (hm.2.2.2.2.1 (.constantLong RL 57 (lI 2)) (by decide +kernel)) dL_lays_230 ?_
                    refine k_goto (tgt := 241) hm dL_lays_233 (by decide) ?_
                    have hri : (spR nn t x) i = 2 := by show spk (pk nn t) (pd nn t) (pm nn t) ((i + x) % pm nn t) = 2; rw [← ejx_5]; unfold spk; rw [if_pos (by rw [← eqa_10, ← eqb_9]; omega)]; unfold pk; rw [if_neg (by omega)]
                    refine k_rwV (y := .long (lI (((spR nn t x) i : Nat) : Int))) (by rw [hri]; rfl) ?_
                    refine k_iload hm hl 13 rfl dL_lays_241 ?_
                    refine k_bipushN hm 32 dL_lays_243 rfl ?_
                    refine k_iremN hm (by omega) dL_lays_245 ?_
                    refine k_iconstN hm 2 dL_lays_246 ?_
                    refine k_imulN hm dL_lays_247 ?_
                    refine k_lshl (n := (i % 32) * 2) hm (by omega) dL_lays_248 ?_
                    refine lv_lor hm.1 hm.2.1 dL_lays_249 ?_
                    refine k_last hm hw 2 ([(ga, .inl (G.2 0, 5, .inl (nF gf)))] ++ ([(ma, .inl (G.2 0, 16, .inl (nF mg)))] ++ [(wa, .inl (G.2 1, 64, .inr (.inl (vp_updL g2 ((4 * R) + (i / 32)) ((g2 ((4 * R) + (i / 32))) ||| ((lI (((spR nn t x) i : Nat) : Int)) <<< lI (((i % 32) * 2 : Nat) : Int)))))))])) rfl (by omega) rfl dL_lays_250 (fun H locs hw => ?_)
                    refine k_iincN hm hl 13 1 rfl [(9, vN (i + 1)), (13, vN (1)), (12, vN (pd nn t)), (11, vN (pm nn t)), (10, vN (jx_5)), (0, .ref (ga)), (1, .ref (ma)), (2, .ref (wa)), (3, vN (t)), (4, vN (x)), (5, vN (R)), (6, vN (nn)), (7, vN (pm nn t)), (8, vN (pd nn t))] (by decide) rfl dL_lays_251 (fun ls hl => ?_)
                    refine k_goto (tgt := 77) hm dL_lays_254 (by decide) ?_
                    exact ih_77  (i + 1) (vp_updL g2 ((4 * R) + (i / 32)) ((g2 ((4 * R) + (i / 32))) ||| ((lI (((spR nn t x) i : Nat) : Int)) <<< lI (((i % 32) * 2 : Nat) : Int)))) (by first | assumption | omega) (by
                              intro j q
                              have hst := fun j2 (h2 : j2 < 32) => fd_set (a := g2 (4 * R + i / 32)) (x := (spR nn t x) i) (i := i % 32) (j := j2) (by omega) (by omega) h2 (hb i (Nat.le_refl _) (by omega))
                              by_cases e9 : j / 32 = i / 32
                              · rw [e9, updL_s, hst (j % 32) (by omega)]
                                by_cases e2 : j % 32 = i % 32
                                · rw [if_pos e2, show j = i by omega]
                                · rw [if_neg e2, ← e9]; exact ha j (by omega)
                              · rw [updL_n (by omega)]; exact ha j (by omega)) (by
                              intro j q1 q2
                              have hst := fun j2 (h2 : j2 < 32) => fd_set (a := g2 (4 * R + i / 32)) (x := (spR nn t x) i) (i := i % 32) (j := j2) (by omega) (by omega) h2 (hb i (Nat.le_refl _) (by omega))
                              by_cases e9 : j / 32 = i / 32
                              · rw [e9, updL_s, hst (j % 32) (by omega), if_neg (by omega), ← e9]; exact hb j (by omega) q2
                              · rw [updL_n (by omega)]; exact hb j (by omega) q2) (fun q z => by rw [updL_n (by omega)]; exact hq2 q z) _ _ _ (by omega) hw (lv_sub hl [5, 6, 7, 8, 9, 10, 11, 12, 13, 0] rfl)
          exact loop_77 (pm nn t - 0 + 1) 0 g1 (by first | assumption | omega) (fun j q => absurd q (by omega)) (fun j _ q => by rw [hz (j / 32) (by omega)]; exact fd_0 (by omega)) hq _ _ _ (Nat.lt_succ_self _) hw (lv_sub hl [1, 2, 3, 4, 5, 6, 7, 8, 9, 0] rfl)
        · refine k_aload_n hm hl 2 rfl dL_lays_58 ?_
          refine k_iconstN hm 4 dL_lays_59 ?_
          refine k_iload hm hl 5 rfl dL_lays_60 ?_
          refine k_imulN hm dL_lays_62 ?_
          refine k_iload hm hl 9 rfl dL_lays_63 ?_
          refine k_iaddN hm dL_lays_65 ?_
          refine k_lconst (n := 0) hm dL_lays_66 ?_
          refine k_last hm hw 2 ([(ga, .inl (G.2 0, 5, .inl (nF gf)))] ++ ([(ma, .inl (G.2 0, 16, .inl (nF mg)))] ++ [(wa, .inl (G.2 1, 64, .inr (.inl (vp_updL g1 ((4 * R) + j) (lI 0)))))])) rfl (by omega) rfl dL_lays_67 (fun H locs hw => ?_)
          refine k_iincN hm hl 9 1 rfl [(9, vN (j + 1)), (0, .ref (ga)), (1, .ref (ma)), (2, .ref (wa)), (3, vN (t)), (4, vN (x)), (5, vN (R)), (6, vN (nn)), (7, vN (pm nn t)), (8, vN (pd nn t))] (by decide) rfl dL_lays_68 (fun ls hl => ?_)
          refine k_goto (tgt := 52) hm dL_lays_71 (by decide) ?_
          exact ih_52  (j + 1) (vp_updL g1 ((4 * R) + j) (lI 0)) (by first | assumption | omega) (fun q z => by rcases Nat.lt_or_ge q j with z2 | z2; rw [updL_n (by omega)]; exact hz q z2; rw [show q = j by omega, updL_s]; exact lI_0) (fun q z => by rw [updL_n (by omega)]; exact hq q z) _ _ _ (by omega) hw (lv_sub hl [1, 2, 3, 4, 5, 6, 7, 8, 9, 0] rfl)
    exact loop_52 (4 - 0 + 1) 0 wf (by first | assumption | omega) (fun q z => absurd z (by omega)) (fun _ _ => rfl) _ _ _ (Nat.lt_succ_self _) hw (lv_sub hl [1, 2, 3, 4, 5, 6, 7, 8, 9, 0] rfl)
  refine k_iload_n hm hl 5 rfl dL_lays_16 ?_
  refine k_iload hm hl 0 rfl dL_lays_17 ?_
  refine k_icmpge (tgt := 26) hm dL_lays_19 (by decide) (by omega) (fun c_15 => ?_) (fun c_15 => ?_)
  · refine k_iload hm hl 0 rfl dL_lays_26 ?_
    refine k_rwV (y := vN (pm nn t)) (by unfold pm; rw [if_pos (by omega)]) ?_
    refine k_istore hm hl [(7, vN (pm nn t)), (6, vN (nn)), (5, vN (R)), (0, .ref (ga)), (1, .ref (ma)), (2, .ref (wa)), (3, vN (t)), (4, vN (x))] (by decide) rfl dL_lays_28 (fun ls hl => ?_)
    refine k_iload_n hm hl 6 rfl dL_lays_30 ?_
    refine k_iload hm hl 1 rfl dL_lays_31 ?_
    refine k_icmpge (tgt := 43) hm dL_lays_33 (by decide) (by omega) (fun c_16 => ?_) (fun c_16 => absurd c_16 (by omega))
    refine k_iload_n hm hl 6 rfl dL_lays_43 ?_
    refine k_iload hm hl 1 rfl dL_lays_44 ?_
    refine k_isubN hm (by omega) dL_lays_46 ?_
    refine k_rwV (y := vN (pd nn t)) (by unfold pd; rw [if_pos (by omega)]) ?_
    refine k_istore hm hl [(8, vN (pd nn t)), (7, vN (pm nn t)), (6, vN (nn)), (5, vN (R)), (0, .ref (ga)), (1, .ref (ma)), (2, .ref (wa)), (3, vN (t)), (4, vN (x))] (by decide) rfl dL_lays_47 (fun ls hl => ?_)
    exact join_49   _ _ _ hw (lv_sub hl [4, 5, 6, 7, 8, 3, 2, 1, 0] rfl)
  · refine k_iload_n hm hl 5 rfl dL_lays_22 ?_
    refine k_goto (tgt := 28) hm dL_lays_23 (by decide) ?_
    refine k_rwV (y := vN (pm nn t)) (by unfold pm; rw [if_neg (by omega)]) ?_
    refine k_istore hm hl [(7, vN (pm nn t)), (6, vN (nn)), (5, vN (R)), (0, .ref (ga)), (1, .ref (ma)), (2, .ref (wa)), (3, vN (t)), (4, vN (x))] (by decide) rfl dL_lays_28 (fun ls hl => ?_)
    refine k_iload_n hm hl 6 rfl dL_lays_30 ?_
    refine k_iload hm hl 1 rfl dL_lays_31 ?_
    refine k_icmpge (tgt := 43) hm dL_lays_33 (by decide) (by omega) (fun c_17 => absurd c_17 (by omega)) (fun c_17 => ?_)
    refine k_iload hm hl 1 rfl dL_lays_36 ?_
    refine k_iload_n hm hl 6 rfl dL_lays_38 ?_
    refine k_isubN hm (by omega) dL_lays_39 ?_
    refine k_goto (tgt := 47) hm dL_lays_40 (by decide) ?_
    refine k_rwV (y := vN (pd nn t)) (by unfold pd; rw [if_neg (by omega)]) ?_
    refine k_istore hm hl [(8, vN (pd nn t)), (7, vN (pm nn t)), (6, vN (nn)), (5, vN (R)), (0, .ref (ga)), (1, .ref (ma)), (2, .ref (wa)), (3, vN (t)), (4, vN (x))] (by decide) rfl dL_lays_47 (fun ls hl => ?_)
    exact join_49   _ _ _ hw (lv_sub hl [4, 5, 6, 7, 8, 3, 2, 1, 0] rfl)
set_option maxHeartbeats 4000000 in
set_option maxRecDepth 100000 in
theorem c_l_lays_m (l : Launch) (G : kG) (ga : Nat) (gf : Nat → Nat) (ma : Nat) (mg : Nat → Nat) (wa : Nat) (wf : Nat → Int64) (R : Nat) (t : Nat) (k0 : Nat → Nat) (n0 : Nat) (nn : Nat) (hg : gf 0 = R) (hR : 1 ≤ R ∧ R ≤ 15) (hm0 : mg (R - 1) = n0) (hr0 : RwB wf (R - 1) k0 n0) (hnn : nn = sumM k0 n0) (h : 3 ≤ t ∧ t ≤ 120 ∧ 3 ≤ nn ∧ nn ≤ 120) : kCM l yL_lays wsL_lays 2 46 0 0 G [.ref (ga), .ref (ma), .ref (wa), vN (t), vZ (-1)] ([(ga, .inl (G.2 0, 5, .inl (nF gf)))] ++ ([(ma, .inl (G.2 0, 16, .inl (nF mg)))] ++ [(wa, .inl (G.2 1, 64, .inr (.inl wf)))])) (fun vv uu => ∃ (wf2 : Nat → Int64), vv = none ∧ uu = [(ga, .inl (G.2 0, 5, .inl (nF gf)))] ++ ([(ma, .inl (G.2 0, 16, .inl (nF (nU mg R (pm nn t)))))] ++ [(wa, .inl (G.2 1, 64, .inr (.inl wf2)))]) ∧ (RwB wf2 R (miR nn t) (pm nn t)) ∧ (∀ q, q < 4 * R → wf2 q = wf q)) := by
  refine kCM.of (cc := cL_lays) (maxL := 14) (ret := none) (by decide) rfl (Nat.le_of_ble_eq_true rfl) ?_
  intro p e s m args below meth c A ls Qz hQ hin hm hw hl
  have hl : lv_has ls 14 [(0, .ref (ga)), (1, .ref (ma)), (2, .ref (wa)), (3, vN (t)), (4, vZ (-1))] := hl
  have hn := hr0.1
  have hpm : 3 ≤ pm nn t ∧ pm nn t ≤ 120 := by unfold pm; split <;> omega
  have hpd : pd nn t ≤ 120 := by unfold pd; split <;> omega
  have hle : ∀ j, (miR nn t) j ≤ 2 := fun j => mik_le (pkx_le nn t).2
  refine k_aload_n hm hl 0 rfl dL_lays_0 ?_
  refine k_iconstN hm 0 dL_lays_1 ?_
  refine k_ialdN hm hw 0 rfl (by omega) dL_lays_2 ?_
  refine k_rwV (y := vN (R)) (by rw [hg]) ?_
  refine k_istore hm hl [(5, vN (R)), (0, .ref (ga)), (1, .ref (ma)), (2, .ref (wa)), (3, vN (t)), (4, vZ (-1))] (by decide) rfl dL_lays_3 (fun ls hl => ?_)
  refine k_aload_n hm hl 2 rfl dL_lays_5 ?_
  refine k_aload_n hm hl 3 rfl dL_lays_6 ?_
  refine k_iload hm hl 0 rfl dL_lays_7 ?_
  refine k_iconstN hm 1 dL_lays_9 ?_
  refine k_isubN hm (by omega) dL_lays_10 ?_
  refine k_callSr (n := 3) (As := [.ref (ma), .ref (wa), vN (R - 1)]) (rest := []) hm hw hl (c_l_total l G ma mg wa wf (R - 1) k0 n0 hm0 hr0 (by first | assumption | omega)) gL_lays_L_total rfl (by decide +kernel) ⟨by decide, by decide⟩ [1, 2] (by decide) rfl rfl rfl (by simp [Value.category]) ⟨by decide, by decide⟩ dL_lays_11 (fun v H locs hp hw => ?_)
  obtain rfl := hp
  refine W.eq (g2 := F0 m 14 ls [vN (sumM k0 n0)]) rfl ?_
  refine k_rwV (y := vN (nn)) (by rw [hnn]) ?_
  refine k_istore hm hl [(6, vN (nn)), (5, vN (R)), (0, .ref (ga)), (1, .ref (ma)), (2, .ref (wa)), (3, vN (t)), (4, vZ (-1))] (by decide) rfl dL_lays_14 (fun ls hl => ?_)
  have join_49 : ∀ (H : Heap) (locs : List Loc) (ls : Array Slot), kW G A s ([(ga, .inl (G.2 0, 5, .inl (nF gf)))] ++ ([(ma, .inl (G.2 0, 16, .inl (nF mg)))] ++ [(wa, .inl (G.2 1, 64, .inr (.inl wf)))])) H locs → lv_has ls 14 [(0, .ref (ga)), (1, .ref (ma)), (2, .ref (wa)), (3, vN (t)), (4, vZ (-1)), (5, vN (R)), (6, vN (nn)), (7, vN (pm nn t)), (8, vN (pd nn t))] → W p l e { frames := 2, cells := 0, slots := 0, locals := 46 } s m args below meth c H locs 0 0 Qz (F0 m 49 ls []) := by
    intro  H locs ls hw hl
    refine k_iconstN hm 0 dL_lays_49 ?_
    refine k_istore hm hl [(9, vN (0)), (0, .ref (ga)), (1, .ref (ma)), (2, .ref (wa)), (3, vN (t)), (4, vZ (-1)), (5, vN (R)), (6, vN (nn)), (7, vN (pm nn t)), (8, vN (pd nn t))] (by decide) rfl dL_lays_50 (fun ls hl => ?_)
    have loop_52 : ∀ (fu : Nat) (j : Nat) (g1 : Nat → Int64) (hj : j ≤ 4) (hz : ∀ q, q < j → g1 (4 * R + q) = 0) (hq : ∀ q, q < 4 * R → g1 q = wf q) (H : Heap) (locs : List Loc) (ls : Array Slot), 4 - j < fu → kW G A s ([(ga, .inl (G.2 0, 5, .inl (nF gf)))] ++ ([(ma, .inl (G.2 0, 16, .inl (nF mg)))] ++ [(wa, .inl (G.2 1, 64, .inr (.inl g1)))])) H locs → lv_has ls 14 [(0, .ref (ga)), (1, .ref (ma)), (2, .ref (wa)), (3, vN (t)), (4, vZ (-1)), (5, vN (R)), (6, vN (nn)), (7, vN (pm nn t)), (8, vN (pd nn t)), (9, vN (j))] → W p l e { frames := 2, cells := 0, slots := 0, locals := 46 } s m args below meth c H locs 0 0 Qz (F0 m 52 ls []) := by
      intro fu
      induction fu with
      | zero => intro j g1 hj hz hq H locs ls hfu; exact absurd hfu (Nat.not_lt_zero _)
      | succ fu ih_52 =>
        intro j g1 hj hz hq H locs ls hfu hw hl
        refine k_iload hm hl 9 rfl dL_lays_52 ?_
        refine k_iconstN hm 4 dL_lays_54 ?_
        refine k_icmpge (tgt := 74) hm dL_lays_55 (by decide) (by omega) (fun c_2 => ?_) (fun c_2 => ?_)
        · refine k_iconstN hm 0 dL_lays_74 ?_
          refine k_istore hm hl [(9, vN (0)), (0, .ref (ga)), (1, .ref (ma)), (2, .ref (wa)), (3, vN (t)), (4, vZ (-1)), (5, vN (R)), (6, vN (nn)), (7, vN (pm nn t)), (8, vN (pd nn t))] (by decide) rfl dL_lays_75 (fun ls hl => ?_)
          have loop_77 : ∀ (fu : Nat) (i : Nat) (g2 : Nat → Int64) (hi : i ≤ pm nn t) (ha : ∀ j, j < i → fd (g2 (4 * R + j / 32)) (j % 32) = lI ((miR nn t) j : Int)) (hb : ∀ j, i ≤ j → j < 128 → fd (g2 (4 * R + j / 32)) (j % 32) = 0) (hq2 : ∀ q, q < 4 * R → g2 q = wf q) (H : Heap) (locs : List Loc) (ls : Array Slot), pm nn t - i < fu → kW G A s ([(ga, .inl (G.2 0, 5, .inl (nF gf)))] ++ ([(ma, .inl (G.2 0, 16, .inl (nF mg)))] ++ [(wa, .inl (G.2 1, 64, .inr (.inl g2)))])) H locs → lv_has ls 14 [(0, .ref (ga)), (1, .ref (ma)), (2, .ref (wa)), (3, vN (t)), (4, vZ (-1)), (5, vN (R)), (6, vN (nn)), (7, vN (pm nn t)), (8, vN (pd nn t)), (9, vN (i))] → W p l e { frames := 2, cells := 0, slots := 0, locals := 46 } s m args below meth c H locs 0 0 Qz (F0 m 77 ls []) := by
            intro fu
            induction fu with
            | zero => intro i g2 hi ha hb hq2 H locs ls hfu; exact absurd hfu (Nat.not_lt_zero _)
            | succ fu ih_77 =>
              intro i g2 hi ha hb hq2 H locs ls hfu hw hl
              refine k_iload hm hl 9 rfl dL_lays_77 ?_
              refine k_iload hm hl 7 rfl dL_lays_79 ?_
              refine k_icmpge (tgt := 257) hm dL_lays_81 (by decide) (by omega) (fun c_3 => ?_) (fun c_3 => ?_)
              · refine k_aload_n hm hl 1 rfl dL_lays_257 ?_
                refine k_iload hm hl 5 rfl dL_lays_258 ?_
                refine k_iload hm hl 7 rfl dL_lays_260 ?_
                refine k_iastN hm hw 1 ([(ga, .inl (G.2 0, 5, .inl (nF gf)))] ++ ([(ma, .inl (G.2 0, 16, .inl (nF (nU mg R (pm nn t)))))] ++ [(wa, .inl (G.2 1, 64, .inr (.inl g2)))])) rfl (by omega) rfl dL_lays_262 (fun H locs hw => ?_)
                exact k_vret hm hQ rfl hw (⟨_, rfl, rfl, ⟨hpm.2, fun j q => ⟨hle j, ha j (by omega)⟩⟩, hq2⟩) (by omega) (by omega) dL_lays_263
              · have hri2 := hle i
                refine k_iload hm hl 4 rfl dL_lays_84 ?_
                refine k_iflt (tgt := 100) hm dL_lays_86 (by decide) (by omega) (fun c_4 => ?_) (fun c_4 => absurd c_4 (by omega))
                refine k_iload hm hl 9 rfl dL_lays_100 ?_
                refine k_iload hm hl 7 rfl dL_lays_102 ?_
                refine k_iconstN hm 2 dL_lays_104 ?_
                refine k_idivN hm (by omega) dL_lays_105 ?_
                refine k_icmpge (tgt := 114) hm dL_lays_106 (by decide) (by omega) (fun c_5 => ?_) (fun c_5 => ?_)
                · refine k_iload hm hl 7 rfl dL_lays_114 ?_
                  refine k_iconstN hm 1 dL_lays_116 ?_
                  refine k_isubN hm (by omega) dL_lays_117 ?_
                  refine k_iload hm hl 9 rfl dL_lays_118 ?_
                  refine k_isubN hm (by omega) dL_lays_120 ?_
                  refine k_nmN (fun jx_6 ejx_6 => ?_)
                  have hj : (if i < pm nn t / 2 then i else pm nn t - 1 - i) = jx_6 := by rw [if_neg (by omega)]; omega
                  refine k_istore hm hl [(10, vN (jx_6)), (0, .ref (ga)), (1, .ref (ma)), (2, .ref (wa)), (3, vN (t)), (4, vZ (-1)), (5, vN (R)), (6, vN (nn)), (7, vN (pm nn t)), (8, vN (pd nn t)), (9, vN (i))] (by decide) rfl dL_lays_121 (fun ls hl => ?_)
                  refine k_iload hm hl 5 rfl dL_lays_123 ?_
                  refine k_iflt (tgt := 133) hm dL_lays_125 (by decide) (by omega) (fun c_7 => ?_) (fun c_7 => absurd c_7 (by omega))
                  refine k_iload hm hl 8 rfl dL_lays_133 ?_
                  refine k_iconstN hm 2 dL_lays_135 ?_
                  refine k_idivN hm (by omega) dL_lays_136 ?_
                  refine k_istore hm hl [(11, vN ((pm nn t) / 2)), (10, vN (jx_6)), (0, .ref (ga)), (1, .ref (ma)), (2, .ref (wa)), (3, vN (t)), (4, vZ (-1)), (5, vN (R)), (6, vN (nn)), (7, vN (pm nn t)), (8, vN (pd nn t)), (9, vN (i))] (by decide) rfl dL_lays_137 (fun ls hl => ?_)
                  refine k_iload hm hl 6 rfl dL_lays_139 ?_
                  refine k_iflt (tgt := 149) hm dL_lays_141 (by decide) (by omega) (fun c_8 => ?_) (fun c_8 => absurd c_8 (by omega))
                  refine k_iload hm hl 10 rfl dL_lays_149 ?_
                  refine k_iconstN hm 2 dL_lays_151 ?_
                  refine k_idivN hm (by omega) dL_lays_152 ?_
                  refine k_istore hm hl [(12, vN ((pd nn t) / 2)), (11, vN ((pm nn t) / 2)), (10, vN (jx_6)), (0, .ref (ga)), (1, .ref (ma)), (2, .ref (wa)), (3, vN (t)), (4, vZ (-1)), (5, vN (R)), (6, vN (nn)), (7, vN (pm nn t)), (8, vN (pd nn t)), (9, vN (i))] (by decide) rfl dL_lays_153 (fun ls hl => ?_)
                  refine k_iload hm hl 2 rfl dL_lays_155 ?_
                  refine k_iload hm hl 1 rfl dL_lays_157 ?_
                  refine k_icmplt (tgt := 178) hm dL_lays_159 (by decide) (by omega) (fun c_9 => ?_) (fun c_9 => ?_)
                  · have hp1 : (jx_6 + 1) * (pd nn t / 2) ≤ 121 * 120 := Nat.mul_le_mul (by omega) (by omega)
                    have hp2 : jx_6 * (pd nn t / 2) ≤ 120 * 120 := Nat.mul_le_mul (by omega) (by omega)
                    have hmo : jx_6 * (pd nn t / 2) / (pm nn t / 2) ≤ (jx_6 + 1) * (pd nn t / 2) / (pm nn t / 2) := Nat.div_le_div_right (Nat.mul_le_mul_right _ (Nat.le_succ jx_6))
                    have hd1 := Nat.div_le_self ((jx_6 + 1) * (pd nn t / 2)) (pm nn t / 2)
                    have hd2 := Nat.div_le_self (jx_6 * (pd nn t / 2)) (pm nn t / 2)
                    refine k_iload hm hl 2 rfl dL_lays_178 ?_
                    refine k_iconstN hm 1 dL_lays_180 ?_
                    refine k_iaddN hm dL_lays_181 ?_
                    refine k_iload hm hl 0 rfl dL_lays_182 ?_
                    refine k_imulN hm dL_lays_184 ?_
                    refine k_iload hm hl 1 rfl dL_lays_185 ?_
                    refine k_idivN hm (by omega) dL_lays_187 ?_
                    refine k_nmN (fun qb_10 eqb_10 => ?_)
                    refine k_iload hm hl 2 rfl dL_lays_188 ?_
                    refine k_iload hm hl 0 rfl dL_lays_190 ?_
                    refine k_imulN hm dL_lays_192 ?_
                    refine k_iload hm hl 1 rfl dL_lays_193 ?_
                    refine k_idivN hm (by omega) dL_lays_195 ?_
                    refine k_nmN (fun qa_11 eqa_11 => ?_)
                    rw [← eqa_11, ← eqb_10] at hmo; rw [← eqb_10] at hd1; rw [← eqa_11] at hd2
                    refine k_icmpeq (tgt := 203) hm dL_lays_196 (by decide) (by omega) (fun c_12 => ?_) (fun c_12 => ?_)
                    · refine k_iconstN hm 0 dL_lays_203 ?_
                      refine k_istore hm hl [(13, vN (0)), (12, vN ((pd nn t) / 2)), (11, vN ((pm nn t) / 2)), (10, vN (jx_6)), (0, .ref (ga)), (1, .ref (ma)), (2, .ref (wa)), (3, vN (t)), (4, vZ (-1)), (5, vN (R)), (6, vN (nn)), (7, vN (pm nn t)), (8, vN (pd nn t)), (9, vN (i))] (by decide) rfl dL_lays_204 (fun ls hl => ?_)
                      refine k_aload_n hm hl 6 rfl dL_lays_206 ?_
                      refine k_iconstN hm 4 dL_lays_207 ?_
                      refine k_iload hm hl 9 rfl dL_lays_208 ?_
                      refine k_imulN hm dL_lays_210 ?_
                      refine k_iload hm hl 13 rfl dL_lays_211 ?_
                      refine k_bipushN hm 32 dL_lays_213 rfl ?_
                      refine k_idivN hm (by omega) dL_lays_215 ?_
                      refine k_iaddN hm dL_lays_216 ?_
                      refine lv_dup2_11 hm.1 hm.2.1 dL_lays_217 rfl rfl ?_
                      refine k_lald hm hw 2 rfl (by omega) dL_lays_218 ?_
                      refine k_iload hm hl 0 rfl dL_lays_219 ?_
                      refine k_ifeq (tgt := 240) hm dL_lays_221 (by decide) (by omega) (fun c_13 => ?_) (fun c_13 => absurd c_13 (by omega))
                      refine k_lconst (n := 0) hm dL_lays_240 ?_
                      have hri : (miR nn t) i = 0 := by unfold miR mik; rw [hj]; rw [if_pos (by omega)]; unfold spk; rw [if_neg (by rw [← eqa_11, ← eqb_10]; omega)]
                      refine k_rwV (y := .long (lI (((miR nn t) i : Nat) : Int))) (by rw [hri]; rfl) ?_
                      refine k_iload hm hl 13 rfl dL_lays_241 ?_
                      refine k_bipushN hm 32 dL_lays_243 rfl ?_
                      refine k_iremN hm (by omega) dL_lays_245 ?_
                      refine k_iconstN hm 2 dL_lays_246 ?_
                      refine k_imulN hm dL_lays_247 ?_
                      refine k_lshl (n := (i % 32) * 2) hm (by omega) dL_lays_248 ?_
                      refine lv_lor hm.1 hm.2.1 dL_lays_249 ?_
                      refine k_last hm hw 2 ([(ga, .inl (G.2 0, 5, .inl (nF gf)))] ++ ([(ma, .inl (G.2 0, 16, .inl (nF mg)))] ++ [(wa, .inl (G.2 1, 64, .inr (.inl (vp_updL g2 ((4 * R) + (i / 32)) ((g2 ((4 * R) + (i / 32))) ||| ((lI (((miR nn t) i : Nat) : Int)) <<< lI (((i % 32) * 2 : Nat) : Int)))))))])) rfl (by omega) rfl dL_lays_250 (fun H locs hw => ?_)
                      refine k_iincN hm hl 13 1 rfl [(9, vN (i + 1)), (13, vN (0)), (12, vN ((pd nn t) / 2)), (11, vN ((pm nn t) / 2)), (10, vN (jx_6)), (0, .ref (ga)), (1, .ref (ma)), (2, .ref (wa)), (3, vN (t)), (4, vZ (-1)), (5, vN (R)), (6, vN (nn)), (7, vN (pm nn t)), (8, vN (pd nn t))] (by decide) rfl dL_lays_251 (fun ls hl => ?_)
                      refine k_goto (tgt := 77) hm dL_lays_254 (by decide) ?_
                      exact ih_77  (i + 1) (vp_updL g2 ((4 * R) + (i / 32)) ((g2 ((4 * R) + (i / 32))) ||| ((lI (((miR nn t) i : Nat) : Int)) <<< lI (((i % 32) * 2 : Nat) : Int)))) (by first | assumption | omega) (by
                              intro j q
                              have hst := fun j2 (h2 : j2 < 32) => fd_set (a := g2 (4 * R + i / 32)) (x := (miR nn t) i) (i := i % 32) (j := j2) (by omega) (by omega) h2 (hb i (Nat.le_refl _) (by omega))
                              by_cases e9 : j / 32 = i / 32
                              · rw [e9, updL_s, hst (j % 32) (by omega)]
                                by_cases e2 : j % 32 = i % 32
                                · rw [if_pos e2, show j = i by omega]
                                · rw [if_neg e2, ← e9]; exact ha j (by omega)
                              · rw [updL_n (by omega)]; exact ha j (by omega)) (by
                              intro j q1 q2
                              have hst := fun j2 (h2 : j2 < 32) => fd_set (a := g2 (4 * R + i / 32)) (x := (miR nn t) i) (i := i % 32) (j := j2) (by omega) (by omega) h2 (hb i (Nat.le_refl _) (by omega))
                              by_cases e9 : j / 32 = i / 32
                              · rw [e9, updL_s, hst (j % 32) (by omega), if_neg (by omega), ← e9]; exact hb j (by omega) q2
                              · rw [updL_n (by omega)]; exact hb j (by omega) q2) (fun q z => by rw [updL_n (by omega)]; exact hq2 q z) _ _ _ (by omega) hw (lv_sub hl [5, 6, 7, 8, 9, 10, 11, 12, 13, 0] rfl)
                    · refine k_iconstN hm 1 dL_lays_199 ?_
                      refine k_goto (tgt := 204) hm dL_lays_200 (by decide) ?_
                      refine k_istore hm hl [(13, vN (1)), (12, vN ((pd nn t) / 2)), (11, vN ((pm nn t) / 2)), (10, vN (jx_6)), (0, .ref (ga)), (1, .ref (ma)), (2, .ref (wa)), (3, vN (t)), (4, vZ (-1)), (5, vN (R)), (6, vN (nn)), (7, vN (pm nn t)), (8, vN (pd nn t)), (9, vN (i))] (by decide) rfl dL_lays_204 (fun ls hl => ?_)
                      refine k_aload_n hm hl 6 rfl dL_lays_206 ?_
                      refine k_iconstN hm 4 dL_lays_207 ?_
                      refine k_iload hm hl 9 rfl dL_lays_208 ?_
                      refine k_imulN hm dL_lays_210 ?_
                      refine k_iload hm hl 13 rfl dL_lays_211 ?_
                      refine k_bipushN hm 32 dL_lays_213 rfl ?_
                      refine k_idivN hm (by omega) dL_lays_215 ?_
                      refine k_iaddN hm dL_lays_216 ?_
                      refine lv_dup2_11 hm.1 hm.2.1 dL_lays_217 rfl rfl ?_
                      refine k_lald hm hw 2 rfl (by omega) dL_lays_218 ?_
                      refine k_iload hm hl 0 rfl dL_lays_219 ?_
                      refine k_ifeq (tgt := 240) hm dL_lays_221 (by decide) (by omega) (fun c_14 => absurd c_14 (by omega)) (fun c_14 => ?_)
                      refine k_iload_n hm hl 7 rfl dL_lays_224 ?_
                      refine k_iload hm hl 10 rfl dL_lays_225 ?_
                      refine k_icmpge (tgt := 236) hm dL_lays_227 (by decide) (by omega) (fun c_15 => ?_) (fun c_15 => ?_)
                      · refine k_lconst (n := 1) hm dL_lays_236 ?_
                        refine k_goto (tgt := 241) hm dL_lays_237 (by decide) ?_
                        have hri : (miR nn t) i = 1 := by unfold miR mik; rw [hj]; rw [if_pos (by omega)]; unfold spk; rw [if_pos (by rw [← eqa_11, ← eqb_10]; omega)]; unfold pk; rw [if_pos (by omega)]
                        refine k_rwV (y := .long (lI (((miR nn t) i : Nat) : Int))) (by rw [hri]; rfl) ?_
                        refine k_iload hm hl 13 rfl dL_lays_241 ?_
                        refine k_bipushN hm 32 dL_lays_243 rfl ?_
                        refine k_iremN hm (by omega) dL_lays_245 ?_
                        refine k_iconstN hm 2 dL_lays_246 ?_
                        refine k_imulN hm dL_lays_247 ?_
                        refine k_lshl (n := (i % 32) * 2) hm (by omega) dL_lays_248 ?_
                        refine lv_lor hm.1 hm.2.1 dL_lays_249 ?_
                        refine k_last hm hw 2 ([(ga, .inl (G.2 0, 5, .inl (nF gf)))] ++ ([(ma, .inl (G.2 0, 16, .inl (nF mg)))] ++ [(wa, .inl (G.2 1, 64, .inr (.inl (vp_updL g2 ((4 * R) + (i / 32)) ((g2 ((4 * R) + (i / 32))) ||| ((lI (((miR nn t) i : Nat) : Int)) <<< lI (((i % 32) * 2 : Nat) : Int)))))))])) rfl (by omega) rfl dL_lays_250 (fun H locs hw => ?_)
                        refine k_iincN hm hl 13 1 rfl [(9, vN (i + 1)), (13, vN (1)), (12, vN ((pd nn t) / 2)), (11, vN ((pm nn t) / 2)), (10, vN (jx_6)), (0, .ref (ga)), (1, .ref (ma)), (2, .ref (wa)), (3, vN (t)), (4, vZ (-1)), (5, vN (R)), (6, vN (nn)), (7, vN (pm nn t)), (8, vN (pd nn t))] (by decide) rfl dL_lays_251 (fun ls hl => ?_)
                        refine k_goto (tgt := 77) hm dL_lays_254 (by decide) ?_
                        exact ih_77  (i + 1) (vp_updL g2 ((4 * R) + (i / 32)) ((g2 ((4 * R) + (i / 32))) ||| ((lI (((miR nn t) i : Nat) : Int)) <<< lI (((i % 32) * 2 : Nat) : Int)))) (by first | assumption | omega) (by
                              intro j q
                              have hst := fun j2 (h2 : j2 < 32) => fd_set (a := g2 (4 * R + i / 32)) (x := (miR nn t) i) (i := i % 32) (j := j2) (by omega) (by omega) h2 (hb i (Nat.le_refl _) (by omega))
                              by_cases e9 : j / 32 = i / 32
                              · rw [e9, updL_s, hst (j % 32) (by omega)]
                                by_cases e2 : j % 32 = i % 32
                                · rw [if_pos e2, show j = i by omega]
                                · rw [if_neg e2, ← e9]; exact ha j (by omega)
                              · rw [updL_n (by omega)]; exact ha j (by omega)) (by
                              intro j q1 q2
                              have hst := fun j2 (h2 : j2 < 32) => fd_set (a := g2 (4 * R + i / 32)) (x := (miR nn t) i) (i := i % 32) (j := j2) (by omega) (by omega) h2 (hb i (Nat.le_refl _) (by omega))
                              by_cases e9 : j / 32 = i / 32
                              · rw [e9, updL_s, hst (j % 32) (by omega), if_neg (by omega), ← e9]; exact hb j (by omega) q2
                              · rw [updL_n (by omega)]; exact hb j (by omega) q2) (fun q z => by rw [updL_n (by omega)]; exact hq2 q z) _ _ _ (by omega) hw (lv_sub hl [5, 6, 7, 8, 9, 10, 11, 12, 13, 0] rfl)
                      · refine lv_ldc2 hm.1 hm.2.1 (own := RL) hm.2.2.2.1 (hm.2.2.2.2.1 (.constantLong RL 57 (lI 2)) (by decide +kernel)) dL_lays_230 ?_
                        refine k_goto (tgt := 241) hm dL_lays_233 (by decide) ?_
                        have hri : (miR nn t) i = 2 := by unfold miR mik; rw [hj]; rw [if_pos (by omega)]; unfold spk; rw [if_pos (by rw [← eqa_11, ← eqb_10]; omega)]; unfold pk; rw [if_neg (by omega)]
                        refine k_rwV (y := .long (lI (((miR nn t) i : Nat) : Int))) (by rw [hri]; rfl) ?_
                        refine k_iload hm hl 13 rfl dL_lays_241 ?_
                        refine k_bipushN hm 32 dL_lays_243 rfl ?_
                        refine k_iremN hm (by omega) dL_lays_245 ?_
                        refine k_iconstN hm 2 dL_lays_246 ?_
                        refine k_imulN hm dL_lays_247 ?_
                        refine k_lshl (n := (i % 32) * 2) hm (by omega) dL_lays_248 ?_
                        refine lv_lor hm.1 hm.2.1 dL_lays_249 ?_
                        refine k_last hm hw 2 ([(ga, .inl (G.2 0, 5, .inl (nF gf)))] ++ ([(ma, .inl (G.2 0, 16, .inl (nF mg)))] ++ [(wa, .inl (G.2 1, 64, .inr (.inl (vp_updL g2 ((4 * R) + (i / 32)) ((g2 ((4 * R) + (i / 32))) ||| ((lI (((miR nn t) i : Nat) : Int)) <<< lI (((i % 32) * 2 : Nat) : Int)))))))])) rfl (by omega) rfl dL_lays_250 (fun H locs hw => ?_)
                        refine k_iincN hm hl 13 1 rfl [(9, vN (i + 1)), (13, vN (1)), (12, vN ((pd nn t) / 2)), (11, vN ((pm nn t) / 2)), (10, vN (jx_6)), (0, .ref (ga)), (1, .ref (ma)), (2, .ref (wa)), (3, vN (t)), (4, vZ (-1)), (5, vN (R)), (6, vN (nn)), (7, vN (pm nn t)), (8, vN (pd nn t))] (by decide) rfl dL_lays_251 (fun ls hl => ?_)
                        refine k_goto (tgt := 77) hm dL_lays_254 (by decide) ?_
                        exact ih_77  (i + 1) (vp_updL g2 ((4 * R) + (i / 32)) ((g2 ((4 * R) + (i / 32))) ||| ((lI (((miR nn t) i : Nat) : Int)) <<< lI (((i % 32) * 2 : Nat) : Int)))) (by first | assumption | omega) (by
                              intro j q
                              have hst := fun j2 (h2 : j2 < 32) => fd_set (a := g2 (4 * R + i / 32)) (x := (miR nn t) i) (i := i % 32) (j := j2) (by omega) (by omega) h2 (hb i (Nat.le_refl _) (by omega))
                              by_cases e9 : j / 32 = i / 32
                              · rw [e9, updL_s, hst (j % 32) (by omega)]
                                by_cases e2 : j % 32 = i % 32
                                · rw [if_pos e2, show j = i by omega]
                                · rw [if_neg e2, ← e9]; exact ha j (by omega)
                              · rw [updL_n (by omega)]; exact ha j (by omega)) (by
                              intro j q1 q2
                              have hst := fun j2 (h2 : j2 < 32) => fd_set (a := g2 (4 * R + i / 32)) (x := (miR nn t) i) (i := i % 32) (j := j2) (by omega) (by omega) h2 (hb i (Nat.le_refl _) (by omega))
                              by_cases e9 : j / 32 = i / 32
                              · rw [e9, updL_s, hst (j % 32) (by omega), if_neg (by omega), ← e9]; exact hb j (by omega) q2
                              · rw [updL_n (by omega)]; exact hb j (by omega) q2) (fun q z => by rw [updL_n (by omega)]; exact hq2 q z) _ _ _ (by omega) hw (lv_sub hl [5, 6, 7, 8, 9, 10, 11, 12, 13, 0] rfl)
                  · refine k_iload hm hl 11 rfl dL_lays_162 ?_
                    refine k_iconstN hm 2 dL_lays_164 ?_
                    refine k_iremN hm (by omega) dL_lays_165 ?_
                    refine k_iconstN hm 1 dL_lays_166 ?_
                    refine k_icmpne (tgt := 174) hm dL_lays_167 (by decide) (by omega) (fun c_16 => ?_) (fun c_16 => ?_)
                    · refine k_iconstN hm 0 dL_lays_174 ?_
                      refine k_goto (tgt := 204) hm dL_lays_175 (by decide) ?_
                      refine k_istore hm hl [(13, vN (0)), (12, vN ((pd nn t) / 2)), (11, vN ((pm nn t) / 2)), (10, vN (jx_6)), (0, .ref (ga)), (1, .ref (ma)), (2, .ref (wa)), (3, vN (t)), (4, vZ (-1)), (5, vN (R)), (6, vN (nn)), (7, vN (pm nn t)), (8, vN (pd nn t)), (9, vN (i))] (by decide) rfl dL_lays_204 (fun ls hl => ?_)
                      refine k_aload_n hm hl 6 rfl dL_lays_206 ?_
                      refine k_iconstN hm 4 dL_lays_207 ?_
                      refine k_iload hm hl 9 rfl dL_lays_208 ?_
                      refine k_imulN hm dL_lays_210 ?_
                      refine k_iload hm hl 13 rfl dL_lays_211 ?_
                      refine k_bipushN hm 32 dL_lays_213 rfl ?_
                      refine k_idivN hm (by omega) dL_lays_215 ?_
                      refine k_iaddN hm dL_lays_216 ?_
                      refine lv_dup2_11 hm.1 hm.2.1 dL_lays_217 rfl rfl ?_
                      refine k_lald hm hw 2 rfl (by omega) dL_lays_218 ?_
                      refine k_iload hm hl 0 rfl dL_lays_219 ?_
                      refine k_ifeq (tgt := 240) hm dL_lays_221 (by decide) (by omega) (fun c_17 => ?_) (fun c_17 => absurd c_17 (by omega))
                      refine k_lconst (n := 0) hm dL_lays_240 ?_
                      have hri : (miR nn t) i = 0 := by unfold miR mik; rw [hj]; rw [if_neg (by omega)]; rw [if_neg (by omega)]
                      refine k_rwV (y := .long (lI (((miR nn t) i : Nat) : Int))) (by rw [hri]; rfl) ?_
                      refine k_iload hm hl 13 rfl dL_lays_241 ?_
                      refine k_bipushN hm 32 dL_lays_243 rfl ?_
                      refine k_iremN hm (by omega) dL_lays_245 ?_
                      refine k_iconstN hm 2 dL_lays_246 ?_
                      refine k_imulN hm dL_lays_247 ?_
                      refine k_lshl (n := (i % 32) * 2) hm (by omega) dL_lays_248 ?_
                      refine lv_lor hm.1 hm.2.1 dL_lays_249 ?_
                      refine k_last hm hw 2 ([(ga, .inl (G.2 0, 5, .inl (nF gf)))] ++ ([(ma, .inl (G.2 0, 16, .inl (nF mg)))] ++ [(wa, .inl (G.2 1, 64, .inr (.inl (vp_updL g2 ((4 * R) + (i / 32)) ((g2 ((4 * R) + (i / 32))) ||| ((lI (((miR nn t) i : Nat) : Int)) <<< lI (((i % 32) * 2 : Nat) : Int)))))))])) rfl (by omega) rfl dL_lays_250 (fun H locs hw => ?_)
                      refine k_iincN hm hl 13 1 rfl [(9, vN (i + 1)), (13, vN (0)), (12, vN ((pd nn t) / 2)), (11, vN ((pm nn t) / 2)), (10, vN (jx_6)), (0, .ref (ga)), (1, .ref (ma)), (2, .ref (wa)), (3, vN (t)), (4, vZ (-1)), (5, vN (R)), (6, vN (nn)), (7, vN (pm nn t)), (8, vN (pd nn t))] (by decide) rfl dL_lays_251 (fun ls hl => ?_)
                      refine k_goto (tgt := 77) hm dL_lays_254 (by decide) ?_
                      exact ih_77  (i + 1) (vp_updL g2 ((4 * R) + (i / 32)) ((g2 ((4 * R) + (i / 32))) ||| ((lI (((miR nn t) i : Nat) : Int)) <<< lI (((i % 32) * 2 : Nat) : Int)))) (by first | assumption | omega) (by
                              intro j q
                              have hst := fun j2 (h2 : j2 < 32) => fd_set (a := g2 (4 * R + i / 32)) (x := (miR nn t) i) (i := i % 32) (j := j2) (by omega) (by omega) h2 (hb i (Nat.le_refl _) (by omega))
                              by_cases e9 : j / 32 = i / 32
                              · rw [e9, updL_s, hst (j % 32) (by omega)]
                                by_cases e2 : j % 32 = i % 32
                                · rw [if_pos e2, show j = i by omega]
                                · rw [if_neg e2, ← e9]; exact ha j (by omega)
                              · rw [updL_n (by omega)]; exact ha j (by omega)) (by
                              intro j q1 q2
                              have hst := fun j2 (h2 : j2 < 32) => fd_set (a := g2 (4 * R + i / 32)) (x := (miR nn t) i) (i := i % 32) (j := j2) (by omega) (by omega) h2 (hb i (Nat.le_refl _) (by omega))
                              by_cases e9 : j / 32 = i / 32
                              · rw [e9, updL_s, hst (j % 32) (by omega), if_neg (by omega), ← e9]; exact hb j (by omega) q2
                              · rw [updL_n (by omega)]; exact hb j (by omega) q2) (fun q z => by rw [updL_n (by omega)]; exact hq2 q z) _ _ _ (by omega) hw (lv_sub hl [5, 6, 7, 8, 9, 10, 11, 12, 13, 0] rfl)
                    · refine k_iconstN hm 1 dL_lays_170 ?_
                      refine k_goto (tgt := 204) hm dL_lays_171 (by decide) ?_
                      refine k_istore hm hl [(13, vN (1)), (12, vN ((pd nn t) / 2)), (11, vN ((pm nn t) / 2)), (10, vN (jx_6)), (0, .ref (ga)), (1, .ref (ma)), (2, .ref (wa)), (3, vN (t)), (4, vZ (-1)), (5, vN (R)), (6, vN (nn)), (7, vN (pm nn t)), (8, vN (pd nn t)), (9, vN (i))] (by decide) rfl dL_lays_204 (fun ls hl => ?_)
                      refine k_aload_n hm hl 6 rfl dL_lays_206 ?_
                      refine k_iconstN hm 4 dL_lays_207 ?_
                      refine k_iload hm hl 9 rfl dL_lays_208 ?_
                      refine k_imulN hm dL_lays_210 ?_
                      refine k_iload hm hl 13 rfl dL_lays_211 ?_
                      refine k_bipushN hm 32 dL_lays_213 rfl ?_
                      refine k_idivN hm (by omega) dL_lays_215 ?_
                      refine k_iaddN hm dL_lays_216 ?_
                      refine lv_dup2_11 hm.1 hm.2.1 dL_lays_217 rfl rfl ?_
                      refine k_lald hm hw 2 rfl (by omega) dL_lays_218 ?_
                      refine k_iload hm hl 0 rfl dL_lays_219 ?_
                      refine k_ifeq (tgt := 240) hm dL_lays_221 (by decide) (by omega) (fun c_18 => absurd c_18 (by omega)) (fun c_18 => ?_)
                      refine k_iload_n hm hl 7 rfl dL_lays_224 ?_
                      refine k_iload hm hl 10 rfl dL_lays_225 ?_
                      refine k_icmpge (tgt := 236) hm dL_lays_227 (by decide) (by omega) (fun c_19 => ?_) (fun c_19 => ?_)
                      · refine k_lconst (n := 1) hm dL_lays_236 ?_
                        refine k_goto (tgt := 241) hm dL_lays_237 (by decide) ?_
                        have hri : (miR nn t) i = 1 := by unfold miR mik; rw [hj]; rw [if_neg (by omega)]; rw [if_pos (by omega)]; unfold pk; rw [if_pos (by omega)]
                        refine k_rwV (y := .long (lI (((miR nn t) i : Nat) : Int))) (by rw [hri]; rfl) ?_
                        refine k_iload hm hl 13 rfl dL_lays_241 ?_
                        refine k_bipushN hm 32 dL_lays_243 rfl ?_
                        refine k_iremN hm (by omega) dL_lays_245 ?_
                        refine k_iconstN hm 2 dL_lays_246 ?_
                        refine k_imulN hm dL_lays_247 ?_
                        refine k_lshl (n := (i % 32) * 2) hm (by omega) dL_lays_248 ?_
                        refine lv_lor hm.1 hm.2.1 dL_lays_249 ?_
                        refine k_last hm hw 2 ([(ga, .inl (G.2 0, 5, .inl (nF gf)))] ++ ([(ma, .inl (G.2 0, 16, .inl (nF mg)))] ++ [(wa, .inl (G.2 1, 64, .inr (.inl (vp_updL g2 ((4 * R) + (i / 32)) ((g2 ((4 * R) + (i / 32))) ||| ((lI (((miR nn t) i : Nat) : Int)) <<< lI (((i % 32) * 2 : Nat) : Int)))))))])) rfl (by omega) rfl dL_lays_250 (fun H locs hw => ?_)
                        refine k_iincN hm hl 13 1 rfl [(9, vN (i + 1)), (13, vN (1)), (12, vN ((pd nn t) / 2)), (11, vN ((pm nn t) / 2)), (10, vN (jx_6)), (0, .ref (ga)), (1, .ref (ma)), (2, .ref (wa)), (3, vN (t)), (4, vZ (-1)), (5, vN (R)), (6, vN (nn)), (7, vN (pm nn t)), (8, vN (pd nn t))] (by decide) rfl dL_lays_251 (fun ls hl => ?_)
                        refine k_goto (tgt := 77) hm dL_lays_254 (by decide) ?_
                        exact ih_77  (i + 1) (vp_updL g2 ((4 * R) + (i / 32)) ((g2 ((4 * R) + (i / 32))) ||| ((lI (((miR nn t) i : Nat) : Int)) <<< lI (((i % 32) * 2 : Nat) : Int)))) (by first | assumption | omega) (by
                              intro j q
                              have hst := fun j2 (h2 : j2 < 32) => fd_set (a := g2 (4 * R + i / 32)) (x := (miR nn t) i) (i := i % 32) (j := j2) (by omega) (by omega) h2 (hb i (Nat.le_refl _) (by omega))
                              by_cases e9 : j / 32 = i / 32
                              · rw [e9, updL_s, hst (j % 32) (by omega)]
                                by_cases e2 : j % 32 = i % 32
                                · rw [if_pos e2, show j = i by omega]
                                · rw [if_neg e2, ← e9]; exact ha j (by omega)
                              · rw [updL_n (by omega)]; exact ha j (by omega)) (by
                              intro j q1 q2
                              have hst := fun j2 (h2 : j2 < 32) => fd_set (a := g2 (4 * R + i / 32)) (x := (miR nn t) i) (i := i % 32) (j := j2) (by omega) (by omega) h2 (hb i (Nat.le_refl _) (by omega))
                              by_cases e9 : j / 32 = i / 32
                              · rw [e9, updL_s, hst (j % 32) (by omega), if_neg (by omega), ← e9]; exact hb j (by omega) q2
                              · rw [updL_n (by omega)]; exact hb j (by omega) q2) (fun q z => by rw [updL_n (by omega)]; exact hq2 q z) _ _ _ (by omega) hw (lv_sub hl [5, 6, 7, 8, 9, 10, 11, 12, 13, 0] rfl)
                      · refine lv_ldc2 hm.1 hm.2.1 (own := RL) hm.2.2.2.1 (hm.2.2.2.2.1 (.constantLong RL 57 (lI 2)) (by decide +kernel)) dL_lays_230 ?_
                        refine k_goto (tgt := 241) hm dL_lays_233 (by decide) ?_
                        have hri : (miR nn t) i = 2 := by unfold miR mik; rw [hj]; rw [if_neg (by omega)]; rw [if_pos (by omega)]; unfold pk; rw [if_neg (by omega)]
                        refine k_rwV (y := .long (lI (((miR nn t) i : Nat) : Int))) (by rw [hri]; rfl) ?_
                        refine k_iload hm hl 13 rfl dL_lays_241 ?_
                        refine k_bipushN hm 32 dL_lays_243 rfl ?_
                        refine k_iremN hm (by omega) dL_lays_245 ?_
                        refine k_iconstN hm 2 dL_lays_246 ?_
                        refine k_imulN hm dL_lays_247 ?_
                        refine k_lshl (n := (i % 32) * 2) hm (by omega) dL_lays_248 ?_
                        refine lv_lor hm.1 hm.2.1 dL_lays_249 ?_
                        refine k_last hm hw 2 ([(ga, .inl (G.2 0, 5, .inl (nF gf)))] ++ ([(ma, .inl (G.2 0, 16, .inl (nF mg)))] ++ [(wa, .inl (G.2 1, 64, .inr (.inl (vp_updL g2 ((4 * R) + (i / 32)) ((g2 ((4 * R) + (i / 32))) ||| ((lI (((miR nn t) i : Nat) : Int)) <<< lI (((i % 32) * 2 : Nat) : Int)))))))])) rfl (by omega) rfl dL_lays_250 (fun H locs hw => ?_)
                        refine k_iincN hm hl 13 1 rfl [(9, vN (i + 1)), (13, vN (1)), (12, vN ((pd nn t) / 2)), (11, vN ((pm nn t) / 2)), (10, vN (jx_6)), (0, .ref (ga)), (1, .ref (ma)), (2, .ref (wa)), (3, vN (t)), (4, vZ (-1)), (5, vN (R)), (6, vN (nn)), (7, vN (pm nn t)), (8, vN (pd nn t))] (by decide) rfl dL_lays_251 (fun ls hl => ?_)
                        refine k_goto (tgt := 77) hm dL_lays_254 (by decide) ?_
                        exact ih_77  (i + 1) (vp_updL g2 ((4 * R) + (i / 32)) ((g2 ((4 * R) + (i / 32))) ||| ((lI (((miR nn t) i : Nat) : Int)) <<< lI (((i % 32) * 2 : Nat) : Int)))) (by first | assumption | omega) (by
                              intro j q
                              have hst := fun j2 (h2 : j2 < 32) => fd_set (a := g2 (4 * R + i / 32)) (x := (miR nn t) i) (i := i % 32) (j := j2) (by omega) (by omega) h2 (hb i (Nat.le_refl _) (by omega))
                              by_cases e9 : j / 32 = i / 32
                              · rw [e9, updL_s, hst (j % 32) (by omega)]
                                by_cases e2 : j % 32 = i % 32
                                · rw [if_pos e2, show j = i by omega]
                                · rw [if_neg e2, ← e9]; exact ha j (by omega)
                              · rw [updL_n (by omega)]; exact ha j (by omega)) (by
                              intro j q1 q2
                              have hst := fun j2 (h2 : j2 < 32) => fd_set (a := g2 (4 * R + i / 32)) (x := (miR nn t) i) (i := i % 32) (j := j2) (by omega) (by omega) h2 (hb i (Nat.le_refl _) (by omega))
                              by_cases e9 : j / 32 = i / 32
                              · rw [e9, updL_s, hst (j % 32) (by omega), if_neg (by omega), ← e9]; exact hb j (by omega) q2
                              · rw [updL_n (by omega)]; exact hb j (by omega) q2) (fun q z => by rw [updL_n (by omega)]; exact hq2 q z) _ _ _ (by omega) hw (lv_sub hl [5, 6, 7, 8, 9, 10, 11, 12, 13, 0] rfl)
                · refine k_iload hm hl 9 rfl dL_lays_109 ?_
                  refine k_goto (tgt := 121) hm dL_lays_111 (by decide) ?_
                  refine k_nmN (fun jx_20 ejx_20 => ?_)
                  have hj : (if i < pm nn t / 2 then i else pm nn t - 1 - i) = jx_20 := by rw [if_pos (by omega)]; omega
                  refine k_istore hm hl [(10, vN (jx_20)), (0, .ref (ga)), (1, .ref (ma)), (2, .ref (wa)), (3, vN (t)), (4, vZ (-1)), (5, vN (R)), (6, vN (nn)), (7, vN (pm nn t)), (8, vN (pd nn t)), (9, vN (i))] (by decide) rfl dL_lays_121 (fun ls hl => ?_)
                  refine k_iload hm hl 5 rfl dL_lays_123 ?_
                  refine k_iflt (tgt := 133) hm dL_lays_125 (by decide) (by omega) (fun c_21 => ?_) (fun c_21 => absurd c_21 (by omega))
                  refine k_iload hm hl 8 rfl dL_lays_133 ?_
                  refine k_iconstN hm 2 dL_lays_135 ?_
                  refine k_idivN hm (by omega) dL_lays_136 ?_
                  refine k_istore hm hl [(11, vN ((pm nn t) / 2)), (10, vN (jx_20)), (0, .ref (ga)), (1, .ref (ma)), (2, .ref (wa)), (3, vN (t)), (4, vZ (-1)), (5, vN (R)), (6, vN (nn)), (7, vN (pm nn t)), (8, vN (pd nn t)), (9, vN (i))] (by decide) rfl dL_lays_137 (fun ls hl => ?_)
                  refine k_iload hm hl 6 rfl dL_lays_139 ?_
                  refine k_iflt (tgt := 149) hm dL_lays_141 (by decide) (by omega) (fun c_22 => ?_) (fun c_22 => absurd c_22 (by omega))
                  refine k_iload hm hl 10 rfl dL_lays_149 ?_
                  refine k_iconstN hm 2 dL_lays_151 ?_
                  refine k_idivN hm (by omega) dL_lays_152 ?_
                  refine k_istore hm hl [(12, vN ((pd nn t) / 2)), (11, vN ((pm nn t) / 2)), (10, vN (jx_20)), (0, .ref (ga)), (1, .ref (ma)), (2, .ref (wa)), (3, vN (t)), (4, vZ (-1)), (5, vN (R)), (6, vN (nn)), (7, vN (pm nn t)), (8, vN (pd nn t)), (9, vN (i))] (by decide) rfl dL_lays_153 (fun ls hl => ?_)
                  refine k_iload hm hl 2 rfl dL_lays_155 ?_
                  refine k_iload hm hl 1 rfl dL_lays_157 ?_
                  refine k_icmplt (tgt := 178) hm dL_lays_159 (by decide) (by omega) (fun c_23 => ?_) (fun c_23 => ?_)
                  · have hp1 : (jx_20 + 1) * (pd nn t / 2) ≤ 121 * 120 := Nat.mul_le_mul (by omega) (by omega)
                    have hp2 : jx_20 * (pd nn t / 2) ≤ 120 * 120 := Nat.mul_le_mul (by omega) (by omega)
                    have hmo : jx_20 * (pd nn t / 2) / (pm nn t / 2) ≤ (jx_20 + 1) * (pd nn t / 2) / (pm nn t / 2) := Nat.div_le_div_right (Nat.mul_le_mul_right _ (Nat.le_succ jx_20))
                    have hd1 := Nat.div_le_self ((jx_20 + 1) * (pd nn t / 2)) (pm nn t / 2)
                    have hd2 := Nat.div_le_self (jx_20 * (pd nn t / 2)) (pm nn t / 2)
                    refine k_iload hm hl 2 rfl dL_lays_178 ?_
                    refine k_iconstN hm 1 dL_lays_180 ?_
                    refine k_iaddN hm dL_lays_181 ?_
                    refine k_iload hm hl 0 rfl dL_lays_182 ?_
                    refine k_imulN hm dL_lays_184 ?_
                    refine k_iload hm hl 1 rfl dL_lays_185 ?_
                    refine k_idivN hm (by omega) dL_lays_187 ?_
                    refine k_nmN (fun qb_24 eqb_24 => ?_)
                    refine k_iload hm hl 2 rfl dL_lays_188 ?_
                    refine k_iload hm hl 0 rfl dL_lays_190 ?_
                    refine k_imulN hm dL_lays_192 ?_
                    refine k_iload hm hl 1 rfl dL_lays_193 ?_
                    refine k_idivN hm (by omega) dL_lays_195 ?_
                    refine k_nmN (fun qa_25 eqa_25 => ?_)
                    rw [← eqa_25, ← eqb_24] at hmo; rw [← eqb_24] at hd1; rw [← eqa_25] at hd2
                    refine k_icmpeq (tgt := 203) hm dL_lays_196 (by decide) (by omega) (fun c_26 => ?_) (fun c_26 => ?_)
                    · refine k_iconstN hm 0 dL_lays_203 ?_
                      refine k_istore hm hl [(13, vN (0)), (12, vN ((pd nn t) / 2)), (11, vN ((pm nn t) / 2)), (10, vN (jx_20)), (0, .ref (ga)), (1, .ref (ma)), (2, .ref (wa)), (3, vN (t)), (4, vZ (-1)), (5, vN (R)), (6, vN (nn)), (7, vN (pm nn t)), (8, vN (pd nn t)), (9, vN (i))] (by decide) rfl dL_lays_204 (fun ls hl => ?_)
                      refine k_aload_n hm hl 6 rfl dL_lays_206 ?_
                      refine k_iconstN hm 4 dL_lays_207 ?_
                      refine k_iload hm hl 9 rfl dL_lays_208 ?_
                      refine k_imulN hm dL_lays_210 ?_
                      refine k_iload hm hl 13 rfl dL_lays_211 ?_
                      refine k_bipushN hm 32 dL_lays_213 rfl ?_
                      refine k_idivN hm (by omega) dL_lays_215 ?_
                      refine k_iaddN hm dL_lays_216 ?_
                      refine lv_dup2_11 hm.1 hm.2.1 dL_lays_217 rfl rfl ?_
                      refine k_lald hm hw 2 rfl (by omega) dL_lays_218 ?_
                      refine k_iload hm hl 0 rfl dL_lays_219 ?_
                      refine k_ifeq (tgt := 240) hm dL_lays_221 (by decide) (by omega) (fun c_27 => ?_) (fun c_27 => absurd c_27 (by omega))
                      refine k_lconst (n := 0) hm dL_lays_240 ?_
                      have hri : (miR nn t) i = 0 := by unfold miR mik; rw [hj]; rw [if_pos (by omega)]; unfold spk; rw [if_neg (by rw [← eqa_25, ← eqb_24]; omega)]
                      refine k_rwV (y := .long (lI (((miR nn t) i : Nat) : Int))) (by rw [hri]; rfl) ?_
                      refine k_iload hm hl 13 rfl dL_lays_241 ?_
                      refine k_bipushN hm 32 dL_lays_243 rfl ?_
                      refine k_iremN hm (by omega) dL_lays_245 ?_
                      refine k_iconstN hm 2 dL_lays_246 ?_
                      refine k_imulN hm dL_lays_247 ?_
                      refine k_lshl (n := (i % 32) * 2) hm (by omega) dL_lays_248 ?_
                      refine lv_lor hm.1 hm.2.1 dL_lays_249 ?_
                      refine k_last hm hw 2 ([(ga, .inl (G.2 0, 5, .inl (nF gf)))] ++ ([(ma, .inl (G.2 0, 16, .inl (nF mg)))] ++ [(wa, .inl (G.2 1, 64, .inr (.inl (vp_updL g2 ((4 * R) + (i / 32)) ((g2 ((4 * R) + (i / 32))) ||| ((lI (((miR nn t) i : Nat) : Int)) <<< lI (((i % 32) * 2 : Nat) : Int)))))))])) rfl (by omega) rfl dL_lays_250 (fun H locs hw => ?_)
                      refine k_iincN hm hl 13 1 rfl [(9, vN (i + 1)), (13, vN (0)), (12, vN ((pd nn t) / 2)), (11, vN ((pm nn t) / 2)), (10, vN (jx_20)), (0, .ref (ga)), (1, .ref (ma)), (2, .ref (wa)), (3, vN (t)), (4, vZ (-1)), (5, vN (R)), (6, vN (nn)), (7, vN (pm nn t)), (8, vN (pd nn t))] (by decide) rfl dL_lays_251 (fun ls hl => ?_)
                      refine k_goto (tgt := 77) hm dL_lays_254 (by decide) ?_
                      exact ih_77  (i + 1) (vp_updL g2 ((4 * R) + (i / 32)) ((g2 ((4 * R) + (i / 32))) ||| ((lI (((miR nn t) i : Nat) : Int)) <<< lI (((i % 32) * 2 : Nat) : Int)))) (by first | assumption | omega) (by
                              intro j q
                              have hst := fun j2 (h2 : j2 < 32) => fd_set (a := g2 (4 * R + i / 32)) (x := (miR nn t) i) (i := i % 32) (j := j2) (by omega) (by omega) h2 (hb i (Nat.le_refl _) (by omega))
                              by_cases e9 : j / 32 = i / 32
                              · rw [e9, updL_s, hst (j % 32) (by omega)]
                                by_cases e2 : j % 32 = i % 32
                                · rw [if_pos e2, show j = i by omega]
                                · rw [if_neg e2, ← e9]; exact ha j (by omega)
                              · rw [updL_n (by omega)]; exact ha j (by omega)) (by
                              intro j q1 q2
                              have hst := fun j2 (h2 : j2 < 32) => fd_set (a := g2 (4 * R + i / 32)) (x := (miR nn t) i) (i := i % 32) (j := j2) (by omega) (by omega) h2 (hb i (Nat.le_refl _) (by omega))
                              by_cases e9 : j / 32 = i / 32
                              · rw [e9, updL_s, hst (j % 32) (by omega), if_neg (by omega), ← e9]; exact hb j (by omega) q2
                              · rw [updL_n (by omega)]; exact hb j (by omega) q2) (fun q z => by rw [updL_n (by omega)]; exact hq2 q z) _ _ _ (by omega) hw (lv_sub hl [5, 6, 7, 8, 9, 10, 11, 12, 13, 0] rfl)
                    · refine k_iconstN hm 1 dL_lays_199 ?_
                      refine k_goto (tgt := 204) hm dL_lays_200 (by decide) ?_
                      refine k_istore hm hl [(13, vN (1)), (12, vN ((pd nn t) / 2)), (11, vN ((pm nn t) / 2)), (10, vN (jx_20)), (0, .ref (ga)), (1, .ref (ma)), (2, .ref (wa)), (3, vN (t)), (4, vZ (-1)), (5, vN (R)), (6, vN (nn)), (7, vN (pm nn t)), (8, vN (pd nn t)), (9, vN (i))] (by decide) rfl dL_lays_204 (fun ls hl => ?_)
                      refine k_aload_n hm hl 6 rfl dL_lays_206 ?_
                      refine k_iconstN hm 4 dL_lays_207 ?_
                      refine k_iload hm hl 9 rfl dL_lays_208 ?_
                      refine k_imulN hm dL_lays_210 ?_
                      refine k_iload hm hl 13 rfl dL_lays_211 ?_
                      refine k_bipushN hm 32 dL_lays_213 rfl ?_
                      refine k_idivN hm (by omega) dL_lays_215 ?_
                      refine k_iaddN hm dL_lays_216 ?_
                      refine lv_dup2_11 hm.1 hm.2.1 dL_lays_217 rfl rfl ?_
                      refine k_lald hm hw 2 rfl (by omega) dL_lays_218 ?_
                      refine k_iload hm hl 0 rfl dL_lays_219 ?_
                      refine k_ifeq (tgt := 240) hm dL_lays_221 (by decide) (by omega) (fun c_28 => absurd c_28 (by omega)) (fun c_28 => ?_)
                      refine k_iload_n hm hl 7 rfl dL_lays_224 ?_
                      refine k_iload hm hl 10 rfl dL_lays_225 ?_
                      refine k_icmpge (tgt := 236) hm dL_lays_227 (by decide) (by omega) (fun c_29 => ?_) (fun c_29 => ?_)
                      · refine k_lconst (n := 1) hm dL_lays_236 ?_
                        refine k_goto (tgt := 241) hm dL_lays_237 (by decide) ?_
                        have hri : (miR nn t) i = 1 := by unfold miR mik; rw [hj]; rw [if_pos (by omega)]; unfold spk; rw [if_pos (by rw [← eqa_25, ← eqb_24]; omega)]; unfold pk; rw [if_pos (by omega)]
                        refine k_rwV (y := .long (lI (((miR nn t) i : Nat) : Int))) (by rw [hri]; rfl) ?_
                        refine k_iload hm hl 13 rfl dL_lays_241 ?_
                        refine k_bipushN hm 32 dL_lays_243 rfl ?_
                        refine k_iremN hm (by omega) dL_lays_245 ?_
                        refine k_iconstN hm 2 dL_lays_246 ?_
                        refine k_imulN hm dL_lays_247 ?_
                        refine k_lshl (n := (i % 32) * 2) hm (by omega) dL_lays_248 ?_
                        refine lv_lor hm.1 hm.2.1 dL_lays_249 ?_
                        refine k_last hm hw 2 ([(ga, .inl (G.2 0, 5, .inl (nF gf)))] ++ ([(ma, .inl (G.2 0, 16, .inl (nF mg)))] ++ [(wa, .inl (G.2 1, 64, .inr (.inl (vp_updL g2 ((4 * R) + (i / 32)) ((g2 ((4 * R) + (i / 32))) ||| ((lI (((miR nn t) i : Nat) : Int)) <<< lI (((i % 32) * 2 : Nat) : Int)))))))])) rfl (by omega) rfl dL_lays_250 (fun H locs hw => ?_)
                        refine k_iincN hm hl 13 1 rfl [(9, vN (i + 1)), (13, vN (1)), (12, vN ((pd nn t) / 2)), (11, vN ((pm nn t) / 2)), (10, vN (jx_20)), (0, .ref (ga)), (1, .ref (ma)), (2, .ref (wa)), (3, vN (t)), (4, vZ (-1)), (5, vN (R)), (6, vN (nn)), (7, vN (pm nn t)), (8, vN (pd nn t))] (by decide) rfl dL_lays_251 (fun ls hl => ?_)
                        refine k_goto (tgt := 77) hm dL_lays_254 (by decide) ?_
                        exact ih_77  (i + 1) (vp_updL g2 ((4 * R) + (i / 32)) ((g2 ((4 * R) + (i / 32))) ||| ((lI (((miR nn t) i : Nat) : Int)) <<< lI (((i % 32) * 2 : Nat) : Int)))) (by first | assumption | omega) (by
                              intro j q
                              have hst := fun j2 (h2 : j2 < 32) => fd_set (a := g2 (4 * R + i / 32)) (x := (miR nn t) i) (i := i % 32) (j := j2) (by omega) (by omega) h2 (hb i (Nat.le_refl _) (by omega))
                              by_cases e9 : j / 32 = i / 32
                              · rw [e9, updL_s, hst (j % 32) (by omega)]
                                by_cases e2 : j % 32 = i % 32
                                · rw [if_pos e2, show j = i by omega]
                                · rw [if_neg e2, ← e9]; exact ha j (by omega)
                              · rw [updL_n (by omega)]; exact ha j (by omega)) (by
                              intro j q1 q2
                              have hst := fun j2 (h2 : j2 < 32) => fd_set (a := g2 (4 * R + i / 32)) (x := (miR nn t) i) (i := i % 32) (j := j2) (by omega) (by omega) h2 (hb i (Nat.le_refl _) (by omega))
                              by_cases e9 : j / 32 = i / 32
                              · rw [e9, updL_s, hst (j % 32) (by omega), if_neg (by omega), ← e9]; exact hb j (by omega) q2
                              · rw [updL_n (by omega)]; exact hb j (by omega) q2) (fun q z => by rw [updL_n (by omega)]; exact hq2 q z) _ _ _ (by omega) hw (lv_sub hl [5, 6, 7, 8, 9, 10, 11, 12, 13, 0] rfl)
                      · refine lv_ldc2 hm.1 hm.2.1 (own := RL) hm.2.2.2.1 (hm.2.2.2.2.1 (.constantLong RL 57 (lI 2)) (by decide +kernel)) dL_lays_230 ?_
                        refine k_goto (tgt := 241) hm dL_lays_233 (by decide) ?_
                        have hri : (miR nn t) i = 2 := by unfold miR mik; rw [hj]; rw [if_pos (by omega)]; unfold spk; rw [if_pos (by rw [← eqa_25, ← eqb_24]; omega)]; unfold pk; rw [if_neg (by omega)]
                        refine k_rwV (y := .long (lI (((miR nn t) i : Nat) : Int))) (by rw [hri]; rfl) ?_
                        refine k_iload hm hl 13 rfl dL_lays_241 ?_
                        refine k_bipushN hm 32 dL_lays_243 rfl ?_
                        refine k_iremN hm (by omega) dL_lays_245 ?_
                        refine k_iconstN hm 2 dL_lays_246 ?_
                        refine k_imulN hm dL_lays_247 ?_
                        refine k_lshl (n := (i % 32) * 2) hm (by omega) dL_lays_248 ?_
                        refine lv_lor hm.1 hm.2.1 dL_lays_249 ?_
                        refine k_last hm hw 2 ([(ga, .inl (G.2 0, 5, .inl (nF gf)))] ++ ([(ma, .inl (G.2 0, 16, .inl (nF mg)))] ++ [(wa, .inl (G.2 1, 64, .inr (.inl (vp_updL g2 ((4 * R) + (i / 32)) ((g2 ((4 * R) + (i / 32))) ||| ((lI (((miR nn t) i : Nat) : Int)) <<< lI (((i % 32) * 2 : Nat) : Int)))))))])) rfl (by omega) rfl dL_lays_250 (fun H locs hw => ?_)
                        refine k_iincN hm hl 13 1 rfl [(9, vN (i + 1)), (13, vN (1)), (12, vN ((pd nn t) / 2)), (11, vN ((pm nn t) / 2)), (10, vN (jx_20)), (0, .ref (ga)), (1, .ref (ma)), (2, .ref (wa)), (3, vN (t)), (4, vZ (-1)), (5, vN (R)), (6, vN (nn)), (7, vN (pm nn t)), (8, vN (pd nn t))] (by decide) rfl dL_lays_251 (fun ls hl => ?_)
                        refine k_goto (tgt := 77) hm dL_lays_254 (by decide) ?_
                        exact ih_77  (i + 1) (vp_updL g2 ((4 * R) + (i / 32)) ((g2 ((4 * R) + (i / 32))) ||| ((lI (((miR nn t) i : Nat) : Int)) <<< lI (((i % 32) * 2 : Nat) : Int)))) (by first | assumption | omega) (by
                              intro j q
                              have hst := fun j2 (h2 : j2 < 32) => fd_set (a := g2 (4 * R + i / 32)) (x := (miR nn t) i) (i := i % 32) (j := j2) (by omega) (by omega) h2 (hb i (Nat.le_refl _) (by omega))
                              by_cases e9 : j / 32 = i / 32
                              · rw [e9, updL_s, hst (j % 32) (by omega)]
                                by_cases e2 : j % 32 = i % 32
                                · rw [if_pos e2, show j = i by omega]
                                · rw [if_neg e2, ← e9]; exact ha j (by omega)
                              · rw [updL_n (by omega)]; exact ha j (by omega)) (by
                              intro j q1 q2
                              have hst := fun j2 (h2 : j2 < 32) => fd_set (a := g2 (4 * R + i / 32)) (x := (miR nn t) i) (i := i % 32) (j := j2) (by omega) (by omega) h2 (hb i (Nat.le_refl _) (by omega))
                              by_cases e9 : j / 32 = i / 32
                              · rw [e9, updL_s, hst (j % 32) (by omega), if_neg (by omega), ← e9]; exact hb j (by omega) q2
                              · rw [updL_n (by omega)]; exact hb j (by omega) q2) (fun q z => by rw [updL_n (by omega)]; exact hq2 q z) _ _ _ (by omega) hw (lv_sub hl [5, 6, 7, 8, 9, 10, 11, 12, 13, 0] rfl)
                  · refine k_iload hm hl 11 rfl dL_lays_162 ?_
                    refine k_iconstN hm 2 dL_lays_164 ?_
                    refine k_iremN hm (by omega) dL_lays_165 ?_
                    refine k_iconstN hm 1 dL_lays_166 ?_
                    refine k_icmpne (tgt := 174) hm dL_lays_167 (by decide) (by omega) (fun c_30 => ?_) (fun c_30 => ?_)
                    · refine k_iconstN hm 0 dL_lays_174 ?_
                      refine k_goto (tgt := 204) hm dL_lays_175 (by decide) ?_
                      refine k_istore hm hl [(13, vN (0)), (12, vN ((pd nn t) / 2)), (11, vN ((pm nn t) / 2)), (10, vN (jx_20)), (0, .ref (ga)), (1, .ref (ma)), (2, .ref (wa)), (3, vN (t)), (4, vZ (-1)), (5, vN (R)), (6, vN (nn)), (7, vN (pm nn t)), (8, vN (pd nn t)), (9, vN (i))] (by decide) rfl dL_lays_204 (fun ls hl => ?_)
                      refine k_aload_n hm hl 6 rfl dL_lays_206 ?_
                      refine k_iconstN hm 4 dL_lays_207 ?_
                      refine k_iload hm hl 9 rfl dL_lays_208 ?_
                      refine k_imulN hm dL_lays_210 ?_
                      refine k_iload hm hl 13 rfl dL_lays_211 ?_
                      refine k_bipushN hm 32 dL_lays_213 rfl ?_
                      refine k_idivN hm (by omega) dL_lays_215 ?_
                      refine k_iaddN hm dL_lays_216 ?_
                      refine lv_dup2_11 hm.1 hm.2.1 dL_lays_217 rfl rfl ?_
                      refine k_lald hm hw 2 rfl (by omega) dL_lays_218 ?_
                      refine k_iload hm hl 0 rfl dL_lays_219 ?_
                      refine k_ifeq (tgt := 240) hm dL_lays_221 (by decide) (by omega) (fun c_31 => ?_) (fun c_31 => absurd c_31 (by omega))
                      refine k_lconst (n := 0) hm dL_lays_240 ?_
                      have hri : (miR nn t) i = 0 := by unfold miR mik; rw [hj]; rw [if_neg (by omega)]; rw [if_neg (by omega)]
                      refine k_rwV (y := .long (lI (((miR nn t) i : Nat) : Int))) (by rw [hri]; rfl) ?_
                      refine k_iload hm hl 13 rfl dL_lays_241 ?_
                      refine k_bipushN hm 32 dL_lays_243 rfl ?_
                      refine k_iremN hm (by omega) dL_lays_245 ?_
                      refine k_iconstN hm 2 dL_lays_246 ?_
                      refine k_imulN hm dL_lays_247 ?_
                      refine k_lshl (n := (i % 32) * 2) hm (by omega) dL_lays_248 ?_
                      refine lv_lor hm.1 hm.2.1 dL_lays_249 ?_
                      refine k_last hm hw 2 ([(ga, .inl (G.2 0, 5, .inl (nF gf)))] ++ ([(ma, .inl (G.2 0, 16, .inl (nF mg)))] ++ [(wa, .inl (G.2 1, 64, .inr (.inl (vp_updL g2 ((4 * R) + (i / 32)) ((g2 ((4 * R) + (i / 32))) ||| ((lI (((miR nn t) i : Nat) : Int)) <<< lI (((i % 32) * 2 : Nat) : Int)))))))])) rfl (by omega) rfl dL_lays_250 (fun H locs hw => ?_)
                      refine k_iincN hm hl 13 1 rfl [(9, vN (i + 1)), (13, vN (0)), (12, vN ((pd nn t) / 2)), (11, vN ((pm nn t) / 2)), (10, vN (jx_20)), (0, .ref (ga)), (1, .ref (ma)), (2, .ref (wa)), (3, vN (t)), (4, vZ (-1)), (5, vN (R)), (6, vN (nn)), (7, vN (pm nn t)), (8, vN (pd nn t))] (by decide) rfl dL_lays_251 (fun ls hl => ?_)
                      refine k_goto (tgt := 77) hm dL_lays_254 (by decide) ?_
                      exact ih_77  (i + 1) (vp_updL g2 ((4 * R) + (i / 32)) ((g2 ((4 * R) + (i / 32))) ||| ((lI (((miR nn t) i : Nat) : Int)) <<< lI (((i % 32) * 2 : Nat) : Int)))) (by first | assumption | omega) (by
                              intro j q
                              have hst := fun j2 (h2 : j2 < 32) => fd_set (a := g2 (4 * R + i / 32)) (x := (miR nn t) i) (i := i % 32) (j := j2) (by omega) (by omega) h2 (hb i (Nat.le_refl _) (by omega))
                              by_cases e9 : j / 32 = i / 32
                              · rw [e9, updL_s, hst (j % 32) (by omega)]
                                by_cases e2 : j % 32 = i % 32
                                · rw [if_pos e2, show j = i by omega]
                                · rw [if_neg e2, ← e9]; exact ha j (by omega)
                              · rw [updL_n (by omega)]; exact ha j (by omega)) (by
                              intro j q1 q2
                              have hst := fun j2 (h2 : j2 < 32) => fd_set (a := g2 (4 * R + i / 32)) (x := (miR nn t) i) (i := i % 32) (j := j2) (by omega) (by omega) h2 (hb i (Nat.le_refl _) (by omega))
                              by_cases e9 : j / 32 = i / 32
                              · rw [e9, updL_s, hst (j % 32) (by omega), if_neg (by omega), ← e9]; exact hb j (by omega) q2
                              · rw [updL_n (by omega)]; exact hb j (by omega) q2) (fun q z => by rw [updL_n (by omega)]; exact hq2 q z) _ _ _ (by omega) hw (lv_sub hl [5, 6, 7, 8, 9, 10, 11, 12, 13, 0] rfl)
                    · refine k_iconstN hm 1 dL_lays_170 ?_
                      refine k_goto (tgt := 204) hm dL_lays_171 (by decide) ?_
                      refine k_istore hm hl [(13, vN (1)), (12, vN ((pd nn t) / 2)), (11, vN ((pm nn t) / 2)), (10, vN (jx_20)), (0, .ref (ga)), (1, .ref (ma)), (2, .ref (wa)), (3, vN (t)), (4, vZ (-1)), (5, vN (R)), (6, vN (nn)), (7, vN (pm nn t)), (8, vN (pd nn t)), (9, vN (i))] (by decide) rfl dL_lays_204 (fun ls hl => ?_)
                      refine k_aload_n hm hl 6 rfl dL_lays_206 ?_
                      refine k_iconstN hm 4 dL_lays_207 ?_
                      refine k_iload hm hl 9 rfl dL_lays_208 ?_
                      refine k_imulN hm dL_lays_210 ?_
                      refine k_iload hm hl 13 rfl dL_lays_211 ?_
                      refine k_bipushN hm 32 dL_lays_213 rfl ?_
                      refine k_idivN hm (by omega) dL_lays_215 ?_
                      refine k_iaddN hm dL_lays_216 ?_
                      refine lv_dup2_11 hm.1 hm.2.1 dL_lays_217 rfl rfl ?_
                      refine k_lald hm hw 2 rfl (by omega) dL_lays_218 ?_
                      refine k_iload hm hl 0 rfl dL_lays_219 ?_
                      refine k_ifeq (tgt := 240) hm dL_lays_221 (by decide) (by omega) (fun c_32 => absurd c_32 (by omega)) (fun c_32 => ?_)
                      refine k_iload_n hm hl 7 rfl dL_lays_224 ?_
                      refine k_iload hm hl 10 rfl dL_lays_225 ?_
                      refine k_icmpge (tgt := 236) hm dL_lays_227 (by decide) (by omega) (fun c_33 => ?_) (fun c_33 => ?_)
                      · refine k_lconst (n := 1) hm dL_lays_236 ?_
                        refine k_goto (tgt := 241) hm dL_lays_237 (by decide) ?_
                        have hri : (miR nn t) i = 1 := by unfold miR mik; rw [hj]; rw [if_neg (by omega)]; rw [if_pos (by omega)]; unfold pk; rw [if_pos (by omega)]
                        refine k_rwV (y := .long (lI (((miR nn t) i : Nat) : Int))) (by rw [hri]; rfl) ?_
                        refine k_iload hm hl 13 rfl dL_lays_241 ?_
                        refine k_bipushN hm 32 dL_lays_243 rfl ?_
                        refine k_iremN hm (by omega) dL_lays_245 ?_
                        refine k_iconstN hm 2 dL_lays_246 ?_
                        refine k_imulN hm dL_lays_247 ?_
                        refine k_lshl (n := (i % 32) * 2) hm (by omega) dL_lays_248 ?_
                        refine lv_lor hm.1 hm.2.1 dL_lays_249 ?_
                        refine k_last hm hw 2 ([(ga, .inl (G.2 0, 5, .inl (nF gf)))] ++ ([(ma, .inl (G.2 0, 16, .inl (nF mg)))] ++ [(wa, .inl (G.2 1, 64, .inr (.inl (vp_updL g2 ((4 * R) + (i / 32)) ((g2 ((4 * R) + (i / 32))) ||| ((lI (((miR nn t) i : Nat) : Int)) <<< lI (((i % 32) * 2 : Nat) : Int)))))))])) rfl (by omega) rfl dL_lays_250 (fun H locs hw => ?_)
                        refine k_iincN hm hl 13 1 rfl [(9, vN (i + 1)), (13, vN (1)), (12, vN ((pd nn t) / 2)), (11, vN ((pm nn t) / 2)), (10, vN (jx_20)), (0, .ref (ga)), (1, .ref (ma)), (2, .ref (wa)), (3, vN (t)), (4, vZ (-1)), (5, vN (R)), (6, vN (nn)), (7, vN (pm nn t)), (8, vN (pd nn t))] (by decide) rfl dL_lays_251 (fun ls hl => ?_)
                        refine k_goto (tgt := 77) hm dL_lays_254 (by decide) ?_
                        exact ih_77  (i + 1) (vp_updL g2 ((4 * R) + (i / 32)) ((g2 ((4 * R) + (i / 32))) ||| ((lI (((miR nn t) i : Nat) : Int)) <<< lI (((i % 32) * 2 : Nat) : Int)))) (by first | assumption | omega) (by
                              intro j q
                              have hst := fun j2 (h2 : j2 < 32) => fd_set (a := g2 (4 * R + i / 32)) (x := (miR nn t) i) (i := i % 32) (j := j2) (by omega) (by omega) h2 (hb i (Nat.le_refl _) (by omega))
                              by_cases e9 : j / 32 = i / 32
                              · rw [e9, updL_s, hst (j % 32) (by omega)]
                                by_cases e2 : j % 32 = i % 32
                                · rw [if_pos e2, show j = i by omega]
                                · rw [if_neg e2, ← e9]; exact ha j (by omega)
                              · rw [updL_n (by omega)]; exact ha j (by omega)) (by
                              intro j q1 q2
                              have hst := fun j2 (h2 : j2 < 32) => fd_set (a := g2 (4 * R + i / 32)) (x := (miR nn t) i) (i := i % 32) (j := j2) (by omega) (by omega) h2 (hb i (Nat.le_refl _) (by omega))
                              by_cases e9 : j / 32 = i / 32
                              · rw [e9, updL_s, hst (j % 32) (by omega), if_neg (by omega), ← e9]; exact hb j (by omega) q2
                              · rw [updL_n (by omega)]; exact hb j (by omega) q2) (fun q z => by rw [updL_n (by omega)]; exact hq2 q z) _ _ _ (by omega) hw (lv_sub hl [5, 6, 7, 8, 9, 10, 11, 12, 13, 0] rfl)
                      · refine lv_ldc2 hm.1 hm.2.1 (own := RL) hm.2.2.2.1 (hm.2.2.2.2.1 (.constantLong RL 57 (lI 2)) (by decide +kernel)) dL_lays_230 ?_
                        refine k_goto (tgt := 241) hm dL_lays_233 (by decide) ?_
                        have hri : (miR nn t) i = 2 := by unfold miR mik; rw [hj]; rw [if_neg (by omega)]; rw [if_pos (by omega)]; unfold pk; rw [if_neg (by omega)]
                        refine k_rwV (y := .long (lI (((miR nn t) i : Nat) : Int))) (by rw [hri]; rfl) ?_
                        refine k_iload hm hl 13 rfl dL_lays_241 ?_
                        refine k_bipushN hm 32 dL_lays_243 rfl ?_
                        refine k_iremN hm (by omega) dL_lays_245 ?_
                        refine k_iconstN hm 2 dL_lays_246 ?_
                        refine k_imulN hm dL_lays_247 ?_
                        refine k_lshl (n := (i % 32) * 2) hm (by omega) dL_lays_248 ?_
                        refine lv_lor hm.1 hm.2.1 dL_lays_249 ?_
                        refine k_last hm hw 2 ([(ga, .inl (G.2 0, 5, .inl (nF gf)))] ++ ([(ma, .inl (G.2 0, 16, .inl (nF mg)))] ++ [(wa, .inl (G.2 1, 64, .inr (.inl (vp_updL g2 ((4 * R) + (i / 32)) ((g2 ((4 * R) + (i / 32))) ||| ((lI (((miR nn t) i : Nat) : Int)) <<< lI (((i % 32) * 2 : Nat) : Int)))))))])) rfl (by omega) rfl dL_lays_250 (fun H locs hw => ?_)
                        refine k_iincN hm hl 13 1 rfl [(9, vN (i + 1)), (13, vN (1)), (12, vN ((pd nn t) / 2)), (11, vN ((pm nn t) / 2)), (10, vN (jx_20)), (0, .ref (ga)), (1, .ref (ma)), (2, .ref (wa)), (3, vN (t)), (4, vZ (-1)), (5, vN (R)), (6, vN (nn)), (7, vN (pm nn t)), (8, vN (pd nn t))] (by decide) rfl dL_lays_251 (fun ls hl => ?_)
                        refine k_goto (tgt := 77) hm dL_lays_254 (by decide) ?_
                        exact ih_77  (i + 1) (vp_updL g2 ((4 * R) + (i / 32)) ((g2 ((4 * R) + (i / 32))) ||| ((lI (((miR nn t) i : Nat) : Int)) <<< lI (((i % 32) * 2 : Nat) : Int)))) (by first | assumption | omega) (by
                              intro j q
                              have hst := fun j2 (h2 : j2 < 32) => fd_set (a := g2 (4 * R + i / 32)) (x := (miR nn t) i) (i := i % 32) (j := j2) (by omega) (by omega) h2 (hb i (Nat.le_refl _) (by omega))
                              by_cases e9 : j / 32 = i / 32
                              · rw [e9, updL_s, hst (j % 32) (by omega)]
                                by_cases e2 : j % 32 = i % 32
                                · rw [if_pos e2, show j = i by omega]
                                · rw [if_neg e2, ← e9]; exact ha j (by omega)
                              · rw [updL_n (by omega)]; exact ha j (by omega)) (by
                              intro j q1 q2
                              have hst := fun j2 (h2 : j2 < 32) => fd_set (a := g2 (4 * R + i / 32)) (x := (miR nn t) i) (i := i % 32) (j := j2) (by omega) (by omega) h2 (hb i (Nat.le_refl _) (by omega))
                              by_cases e9 : j / 32 = i / 32
                              · rw [e9, updL_s, hst (j % 32) (by omega), if_neg (by omega), ← e9]; exact hb j (by omega) q2
                              · rw [updL_n (by omega)]; exact hb j (by omega) q2) (fun q z => by rw [updL_n (by omega)]; exact hq2 q z) _ _ _ (by omega) hw (lv_sub hl [5, 6, 7, 8, 9, 10, 11, 12, 13, 0] rfl)
          exact loop_77 (pm nn t - 0 + 1) 0 g1 (by first | assumption | omega) (fun j q => absurd q (by omega)) (fun j _ q => by rw [hz (j / 32) (by omega)]; exact fd_0 (by omega)) hq _ _ _ (Nat.lt_succ_self _) hw (lv_sub hl [1, 2, 3, 4, 5, 6, 7, 8, 9, 0] rfl)
        · refine k_aload_n hm hl 2 rfl dL_lays_58 ?_
          refine k_iconstN hm 4 dL_lays_59 ?_
          refine k_iload hm hl 5 rfl dL_lays_60 ?_
          refine k_imulN hm dL_lays_62 ?_
          refine k_iload hm hl 9 rfl dL_lays_63 ?_
          refine k_iaddN hm dL_lays_65 ?_
          refine k_lconst (n := 0) hm dL_lays_66 ?_
          refine k_last hm hw 2 ([(ga, .inl (G.2 0, 5, .inl (nF gf)))] ++ ([(ma, .inl (G.2 0, 16, .inl (nF mg)))] ++ [(wa, .inl (G.2 1, 64, .inr (.inl (vp_updL g1 ((4 * R) + j) (lI 0)))))])) rfl (by omega) rfl dL_lays_67 (fun H locs hw => ?_)
          refine k_iincN hm hl 9 1 rfl [(9, vN (j + 1)), (0, .ref (ga)), (1, .ref (ma)), (2, .ref (wa)), (3, vN (t)), (4, vZ (-1)), (5, vN (R)), (6, vN (nn)), (7, vN (pm nn t)), (8, vN (pd nn t))] (by decide) rfl dL_lays_68 (fun ls hl => ?_)
          refine k_goto (tgt := 52) hm dL_lays_71 (by decide) ?_
          exact ih_52  (j + 1) (vp_updL g1 ((4 * R) + j) (lI 0)) (by first | assumption | omega) (fun q z => by rcases Nat.lt_or_ge q j with z2 | z2; rw [updL_n (by omega)]; exact hz q z2; rw [show q = j by omega, updL_s]; exact lI_0) (fun q z => by rw [updL_n (by omega)]; exact hq q z) _ _ _ (by omega) hw (lv_sub hl [1, 2, 3, 4, 5, 6, 7, 8, 9, 0] rfl)
    exact loop_52 (4 - 0 + 1) 0 wf (by first | assumption | omega) (fun q z => absurd z (by omega)) (fun _ _ => rfl) _ _ _ (Nat.lt_succ_self _) hw (lv_sub hl [1, 2, 3, 4, 5, 6, 7, 8, 9, 0] rfl)
  refine k_iload_n hm hl 5 rfl dL_lays_16 ?_
  refine k_iload hm hl 0 rfl dL_lays_17 ?_
  refine k_icmpge (tgt := 26) hm dL_lays_19 (by decide) (by omega) (fun c_34 => ?_) (fun c_34 => ?_)
  · refine k_iload hm hl 0 rfl dL_lays_26 ?_
    refine k_rwV (y := vN (pm nn t)) (by unfold pm; rw [if_pos (by omega)]) ?_
    refine k_istore hm hl [(7, vN (pm nn t)), (6, vN (nn)), (5, vN (R)), (0, .ref (ga)), (1, .ref (ma)), (2, .ref (wa)), (3, vN (t)), (4, vZ (-1))] (by decide) rfl dL_lays_28 (fun ls hl => ?_)
    refine k_iload_n hm hl 6 rfl dL_lays_30 ?_
    refine k_iload hm hl 1 rfl dL_lays_31 ?_
    refine k_icmpge (tgt := 43) hm dL_lays_33 (by decide) (by omega) (fun c_35 => ?_) (fun c_35 => absurd c_35 (by omega))
    refine k_iload_n hm hl 6 rfl dL_lays_43 ?_
    refine k_iload hm hl 1 rfl dL_lays_44 ?_
    refine k_isubN hm (by omega) dL_lays_46 ?_
    refine k_rwV (y := vN (pd nn t)) (by unfold pd; rw [if_pos (by omega)]) ?_
    refine k_istore hm hl [(8, vN (pd nn t)), (7, vN (pm nn t)), (6, vN (nn)), (5, vN (R)), (0, .ref (ga)), (1, .ref (ma)), (2, .ref (wa)), (3, vN (t)), (4, vZ (-1))] (by decide) rfl dL_lays_47 (fun ls hl => ?_)
    exact join_49   _ _ _ hw (lv_sub hl [4, 5, 6, 7, 8, 3, 2, 1, 0] rfl)
  · refine k_iload_n hm hl 5 rfl dL_lays_22 ?_
    refine k_goto (tgt := 28) hm dL_lays_23 (by decide) ?_
    refine k_rwV (y := vN (pm nn t)) (by unfold pm; rw [if_neg (by omega)]) ?_
    refine k_istore hm hl [(7, vN (pm nn t)), (6, vN (nn)), (5, vN (R)), (0, .ref (ga)), (1, .ref (ma)), (2, .ref (wa)), (3, vN (t)), (4, vZ (-1))] (by decide) rfl dL_lays_28 (fun ls hl => ?_)
    refine k_iload_n hm hl 6 rfl dL_lays_30 ?_
    refine k_iload hm hl 1 rfl dL_lays_31 ?_
    refine k_icmpge (tgt := 43) hm dL_lays_33 (by decide) (by omega) (fun c_36 => absurd c_36 (by omega)) (fun c_36 => ?_)
    refine k_iload hm hl 1 rfl dL_lays_36 ?_
    refine k_iload_n hm hl 6 rfl dL_lays_38 ?_
    refine k_isubN hm (by omega) dL_lays_39 ?_
    refine k_goto (tgt := 47) hm dL_lays_40 (by decide) ?_
    refine k_rwV (y := vN (pd nn t)) (by unfold pd; rw [if_neg (by omega)]) ?_
    refine k_istore hm hl [(8, vN (pd nn t)), (7, vN (pm nn t)), (6, vN (nn)), (5, vN (R)), (0, .ref (ga)), (1, .ref (ma)), (2, .ref (wa)), (3, vN (t)), (4, vZ (-1))] (by decide) rfl dL_lays_47 (fun ls hl => ?_)
    exact join_49   _ _ _ hw (lv_sub hl [4, 5, 6, 7, 8, 3, 2, 1, 0] rfl)
set_option maxHeartbeats 4000000 in
set_option maxRecDepth 100000 in
theorem c_l_best (l : Launch) (G : kG) (ga : Nat) (gf : Nat → Nat) (ma : Nat) (mg : Nat → Nat) (wa : Nat) (wf : Nat → Int64) (R : Nat) (t : Nat) (k0 : Nat → Nat) (n0 : Nat) (nn : Nat) (hg : gf 0 = R) (hR : 1 ≤ R ∧ R ≤ 15) (hm0 : mg (R - 1) = n0) (hr0 : RwB wf (R - 1) k0 n0) (hnn : nn = sumM k0 n0) (h : 3 ≤ t ∧ t ≤ 120 ∧ 3 ≤ nn ∧ nn ≤ 120) (hpo : isPo nn t) : kCM l yL_best wsL_best 3 79 0 0 G [.ref (ga), .ref (ma), .ref (wa), vN (t)] ([(ga, .inl (G.2 0, 5, .inl (nF gf)))] ++ ([(ma, .inl (G.2 0, 16, .inl (nF mg)))] ++ [(wa, .inl (G.2 1, 64, .inr (.inl wf)))])) (fun vv uu => ∃ (b : Nat), ∃ (mg2 : Nat → Nat), ∃ (wf2 : Nat → Int64), vv = some (vN (b)) ∧ uu = [(ga, .inl (G.2 0, 5, .inl (nF (nU gf 0 (R + 1)))))] ++ ([(ma, .inl (G.2 0, 16, .inl (nF mg2)))] ++ [(wa, .inl (G.2 1, 64, .inr (.inl wf2)))]) ∧ (isBst (stkC k0 n0 nn t) (pm nn t) b) ∧ (RwB wf2 R (spR nn t b) (pm nn t)) ∧ (mg2 R = pm nn t) ∧ (∀ q, q < R → mg2 q = mg q) ∧ (∀ q, q < 4 * R → wf2 q = wf q)) := by
  refine kCM.of (cc := cL_best) (maxL := 9) (ret := (some .int)) (by decide) rfl (Nat.le_of_ble_eq_true rfl) ?_
  intro p e s m args below meth c A ls Qz hQ hin hm hw hl
  have hl : lv_has ls 9 [(0, .ref (ga)), (1, .ref (ma)), (2, .ref (wa)), (3, vN (t))] := hl
  have hn := hr0.1
  have hpm : 3 ≤ pm nn t ∧ pm nn t ≤ 120 := by unfold pm; split <;> omega
  refine k_aload_n hm hl 1 rfl dL_best_0 ?_
  refine k_aload_n hm hl 2 rfl dL_best_1 ?_
  refine k_aload_n hm hl 0 rfl dL_best_2 ?_
  refine k_iconstN hm 0 dL_best_3 ?_
  refine k_ialdN hm hw 0 rfl (by omega) dL_best_4 ?_
  refine k_rwV (y := vN (R)) (by rw [hg]) ?_
  refine k_iconstN hm 1 dL_best_5 ?_
  refine k_isubN hm (by omega) dL_best_6 ?_
  refine k_callSr (n := 3) (As := [.ref (ma), .ref (wa), vN (R - 1)]) (rest := []) hm hw hl (c_l_total l G ma mg wa wf (R - 1) k0 n0 hm0 hr0 (by first | assumption | omega)) gL_best_L_total rfl (by decide +kernel) ⟨by decide, by decide⟩ [1, 2] (by decide) rfl rfl rfl (by simp [Value.category]) ⟨by decide, by decide⟩ dL_best_7 (fun v H locs hp hw => ?_)
  obtain rfl := hp
  refine W.eq (g2 := F0 m 10 ls [vN (sumM k0 n0)]) rfl ?_
  refine k_rwV (y := vN (nn)) (by rw [hnn]) ?_
  refine k_istore hm hl [(4, vN (nn)), (0, .ref (ga)), (1, .ref (ma)), (2, .ref (wa)), (3, vN (t))] (by decide) rfl dL_best_10 (fun ls hl => ?_)
  refine k_iconstN hm 0 dL_best_12 ?_
  refine k_istore hm hl [(5, vN (0)), (4, vN (nn)), (0, .ref (ga)), (1, .ref (ma)), (2, .ref (wa)), (3, vN (t))] (by decide) rfl dL_best_13 (fun ls hl => ?_)
  refine k_sipushN hm 999 dL_best_15 rfl ?_
  refine k_istore hm hl [(6, vN (999)), (5, vN (0)), (4, vN (nn)), (0, .ref (ga)), (1, .ref (ma)), (2, .ref (wa)), (3, vN (t))] (by decide) rfl dL_best_18 (fun ls hl => ?_)
  refine k_iconstN hm 0 dL_best_20 ?_
  refine k_istore hm hl [(7, vN (0)), (6, vN (999)), (5, vN (0)), (4, vN (nn)), (0, .ref (ga)), (1, .ref (ma)), (2, .ref (wa)), (3, vN (t))] (by decide) rfl dL_best_21 (fun ls hl => ?_)
  have loop_23 : ∀ (fu : Nat) (bf : Nat) (fw : Nat) (z : Nat) (mg1 : Nat → Nat) (wf1 : Nat → Int64) (hz : z ≤ pm nn t ∧ fw ≤ 999) (hiv : (z = 0 ∧ bf = 0 ∧ fw = 999) ∨ (1 ≤ z ∧ fw = stkC k0 n0 nn t bf ∧ isBst (stkC k0 n0 nn t) z bf)) (hm1 : ∀ q, q < R → mg1 q = mg q) (hw1 : ∀ q, q < 4 * R → wf1 q = wf q) (H : Heap) (locs : List Loc) (ls : Array Slot), pm nn t - z < fu → kW G A s ([(ga, .inl (G.2 0, 5, .inl (nF gf)))] ++ ([(ma, .inl (G.2 0, 16, .inl (nF mg1)))] ++ [(wa, .inl (G.2 1, 64, .inr (.inl wf1)))])) H locs → lv_has ls 9 [(0, .ref (ga)), (1, .ref (ma)), (2, .ref (wa)), (3, vN (t)), (4, vN (nn)), (5, vN (bf)), (6, vN (fw)), (7, vN (z))] → W p l e { frames := 3, cells := 0, slots := 0, locals := 79 } s m args below meth c H locs 0 0 Qz (F0 m 23 ls []) := by
    intro fu
    induction fu with
    | zero => intro bf fw z mg1 wf1 hz hiv hm1 hw1 H locs ls hfu; exact absurd hfu (Nat.not_lt_zero _)
    | succ fu ih_23 =>
      intro bf fw z mg1 wf1 hz hiv hm1 hw1 H locs ls hfu hw hl
      refine k_iload hm hl 7 rfl dL_best_23 ?_
      refine k_iload_n hm hl 3 rfl dL_best_25 ?_
      refine k_iload hm hl 4 rfl dL_best_26 ?_
      refine k_icmpge (tgt := 35) hm dL_best_28 (by decide) (by omega) (fun c_2 => ?_) (fun c_2 => ?_)
      · refine k_iload hm hl 4 rfl dL_best_35 ?_
        refine k_rwV (y := vN (pm nn t)) (by unfold pm; rw [if_pos (by omega)]) ?_
        refine k_icmpge (tgt := 102) hm dL_best_37 (by decide) (by omega) (fun c_3 => ?_) (fun c_3 => ?_)
        · have hbst : isBst (stkC k0 n0 nn t) (pm nn t) bf := hiv.elim (fun z1 => by omega) (fun z1 => by rw [show pm nn t = z by omega]; exact z1.2.2)
          have hbb := hbst.1
          refine k_aload_n hm hl 0 rfl dL_best_102 ?_
          refine k_aload_n hm hl 1 rfl dL_best_103 ?_
          refine k_aload_n hm hl 2 rfl dL_best_104 ?_
          refine k_iload_n hm hl 3 rfl dL_best_105 ?_
          refine k_iload hm hl 5 rfl dL_best_106 ?_
          refine k_callS (n := 5) (As := [.ref (ga), .ref (ma), .ref (wa), vN (t), vN (bf)]) (rest := []) (wr := []) hm hw hl (c_l_lays_s l G ga gf ma mg1 wa wf1 R t bf k0 n0 nn hg (by first | assumption | omega) (by rw [hm1 _ (by omega)]; exact hm0) (RwB_ext hr0 (fun q z1 => hw1 q (by omega))) hnn (by omega)) gL_best_L_lays rfl (by decide +kernel) ⟨by decide, by decide⟩ [0, 1, 2] [] (by decide) rfl rfl (by decide) (by decide) rfl rfl (by simp [Value.category]) ⟨by decide, by decide⟩ dL_best_108 (fun v w1 H locs hp hw => ?_)
          obtain ⟨wf2_5, rfl, rfl, hrow_6, hold_7⟩ := hp
          have hw := hw.sub (ws' := [(ga, .inl (G.2 0, 5, .inl (nF gf)))] ++ ([(ma, .inl (G.2 0, 16, .inl (nF (nU mg1 R (pm nn t)))))] ++ [(wa, .inl (G.2 1, 64, .inr (.inl wf2_5)))])) [0, 1, 2] (by decide) rfl
          refine W.eq (g2 := F0 m 111 ls []) rfl ?_
          refine k_aload_n hm hl 0 rfl dL_best_111 ?_
          refine k_iconstN hm 0 dL_best_112 ?_
          refine lv_dup2_11 hm.1 hm.2.1 dL_best_113 rfl rfl ?_
          refine k_ialdN hm hw 0 rfl (by omega) dL_best_114 ?_
          refine k_rwV (y := vN (R)) (by rw [hg]) ?_
          refine k_iconstN hm 1 dL_best_115 ?_
          refine k_iaddN hm dL_best_116 ?_
          refine k_iastN hm hw 0 ([(ga, .inl (G.2 0, 5, .inl (nF (nU gf 0 (R + 1)))))] ++ ([(ma, .inl (G.2 0, 16, .inl (nF (nU mg1 R (pm nn t)))))] ++ [(wa, .inl (G.2 1, 64, .inr (.inl wf2_5)))])) rfl (by omega) rfl dL_best_117 (fun H locs hw => ?_)
          refine k_iload hm hl 5 rfl dL_best_118 ?_
          exact k_iret (post := _) hm hQ rfl rfl hw (⟨bf, _, _, rfl, rfl, hbst, hrow_6, nU_s, fun q z1 => by rw [nU_n (by omega)]; exact hm1 q z1, fun q z1 => by rw [hold_7 q z1]; exact hw1 q z1⟩) (by omega) (by omega) dL_best_120
        · refine k_iload hm hl 6 rfl dL_best_40 ?_
          refine k_ifle (tgt := 102) hm dL_best_42 (by decide) (by omega) (fun c_8 => ?_) (fun c_8 => ?_)
          · have hbst : isBst (stkC k0 n0 nn t) (pm nn t) bf := hiv.elim (fun z1 => by omega) (fun z1 => ⟨by have := z1.2.2.1; omega, fun y1 _ => by omega, z1.2.2.2.2⟩)
            have hbb := hbst.1
            refine k_aload_n hm hl 0 rfl dL_best_102 ?_
            refine k_aload_n hm hl 1 rfl dL_best_103 ?_
            refine k_aload_n hm hl 2 rfl dL_best_104 ?_
            refine k_iload_n hm hl 3 rfl dL_best_105 ?_
            refine k_iload hm hl 5 rfl dL_best_106 ?_
            refine k_callS (n := 5) (As := [.ref (ga), .ref (ma), .ref (wa), vN (t), vN (bf)]) (rest := []) (wr := []) hm hw hl (c_l_lays_s l G ga gf ma mg1 wa wf1 R t bf k0 n0 nn hg (by first | assumption | omega) (by rw [hm1 _ (by omega)]; exact hm0) (RwB_ext hr0 (fun q z1 => hw1 q (by omega))) hnn (by omega)) gL_best_L_lays rfl (by decide +kernel) ⟨by decide, by decide⟩ [0, 1, 2] [] (by decide) rfl rfl (by decide) (by decide) rfl rfl (by simp [Value.category]) ⟨by decide, by decide⟩ dL_best_108 (fun v w1 H locs hp hw => ?_)
            obtain ⟨wf2_10, rfl, rfl, hrow_11, hold_12⟩ := hp
            have hw := hw.sub (ws' := [(ga, .inl (G.2 0, 5, .inl (nF gf)))] ++ ([(ma, .inl (G.2 0, 16, .inl (nF (nU mg1 R (pm nn t)))))] ++ [(wa, .inl (G.2 1, 64, .inr (.inl wf2_10)))])) [0, 1, 2] (by decide) rfl
            refine W.eq (g2 := F0 m 111 ls []) rfl ?_
            refine k_aload_n hm hl 0 rfl dL_best_111 ?_
            refine k_iconstN hm 0 dL_best_112 ?_
            refine lv_dup2_11 hm.1 hm.2.1 dL_best_113 rfl rfl ?_
            refine k_ialdN hm hw 0 rfl (by omega) dL_best_114 ?_
            refine k_rwV (y := vN (R)) (by rw [hg]) ?_
            refine k_iconstN hm 1 dL_best_115 ?_
            refine k_iaddN hm dL_best_116 ?_
            refine k_iastN hm hw 0 ([(ga, .inl (G.2 0, 5, .inl (nF (nU gf 0 (R + 1)))))] ++ ([(ma, .inl (G.2 0, 16, .inl (nF (nU mg1 R (pm nn t)))))] ++ [(wa, .inl (G.2 1, 64, .inr (.inl wf2_10)))])) rfl (by omega) rfl dL_best_117 (fun H locs hw => ?_)
            refine k_iload hm hl 5 rfl dL_best_118 ?_
            exact k_iret (post := _) hm hQ rfl rfl hw (⟨bf, _, _, rfl, rfl, hbst, hrow_11, nU_s, fun q z1 => by rw [nU_n (by omega)]; exact hm1 q z1, fun q z1 => by rw [hold_12 q z1]; exact hw1 q z1⟩) (by omega) (by omega) dL_best_120
          · have hso := spR_ok (x := z) (show 3 ≤ nn ∧ nn ≤ 120 ∧ 3 ≤ t ∧ t ≤ 120 by omega) hpo
            have hsl : stkC k0 n0 nn t z ≤ pm nn t := nstk_le _ _ _
            refine k_aload_n hm hl 0 rfl dL_best_45 ?_
            refine k_aload_n hm hl 1 rfl dL_best_46 ?_
            refine k_aload_n hm hl 2 rfl dL_best_47 ?_
            refine k_iload_n hm hl 3 rfl dL_best_48 ?_
            refine k_iload hm hl 7 rfl dL_best_49 ?_
            refine k_callS (n := 5) (As := [.ref (ga), .ref (ma), .ref (wa), vN (t), vN (z)]) (rest := []) (wr := []) hm hw hl (c_l_lays_s l G ga gf ma mg1 wa wf1 R t z k0 n0 nn hg (by first | assumption | omega) (by rw [hm1 _ (by omega)]; exact hm0) (RwB_ext hr0 (fun q z1 => hw1 q (by omega))) hnn (by omega)) gL_best_L_lays rfl (by decide +kernel) ⟨by decide, by decide⟩ [0, 1, 2] [] (by decide) rfl rfl (by decide) (by decide) rfl rfl (by simp [Value.category]) ⟨by decide, by decide⟩ dL_best_51 (fun v w1 H locs hp hw => ?_)
            obtain ⟨wf2_14, rfl, rfl, hrow_15, hold_16⟩ := hp
            have hw := hw.sub (ws' := [(ga, .inl (G.2 0, 5, .inl (nF gf)))] ++ ([(ma, .inl (G.2 0, 16, .inl (nF (nU mg1 R (pm nn t)))))] ++ [(wa, .inl (G.2 1, 64, .inr (.inl wf2_14)))])) [0, 1, 2] (by decide) rfl
            refine W.eq (g2 := F0 m 54 ls []) rfl ?_
            refine k_aload_n hm hl 1 rfl dL_best_54 ?_
            refine k_aload_n hm hl 2 rfl dL_best_55 ?_
            refine k_aload_n hm hl 0 rfl dL_best_56 ?_
            refine k_iconstN hm 0 dL_best_57 ?_
            refine k_ialdN hm hw 0 rfl (by omega) dL_best_58 ?_
            refine k_rwV (y := vN (R)) (by rw [hg]) ?_
            refine k_callSr (n := 3) (As := [.ref (ma), .ref (wa), vN (R)]) (rest := []) hm hw hl (c_l_stacked l G ma (nU mg1 R (pm nn t)) wa wf2_14 R (spR nn t z) (pm nn t) k0 n0 nU_s hrow_15 (by omega) (Or.inr ⟨by rw [nU_n (by omega), hm1 _ (by omega)]; exact hm0, RwB_ext hr0 (fun q z1 => by rw [hold_16 q (by omega)]; exact hw1 q (by omega)), by rw [hso.2.1]; exact hnn, by omega⟩)) gL_best_L_stacked rfl (by decide +kernel) ⟨by decide, by decide⟩ [1, 2] (by decide) rfl rfl rfl (by simp [Value.category]) ⟨by decide, by decide⟩ dL_best_59 (fun v H locs hp hw => ?_)
            obtain rfl := hp
            refine W.eq (g2 := F0 m 62 ls [vN (if R = 0 then 0 else nstk (mkF k0 n0) (spR nn t z) (pm nn t))]) rfl ?_
            refine k_rwV (y := vN (stkC k0 n0 nn t z)) (by rw [if_neg (by omega)]; rfl) ?_
            refine k_istore hm hl [(8, vN (stkC k0 n0 nn t z)), (0, .ref (ga)), (1, .ref (ma)), (2, .ref (wa)), (3, vN (t)), (4, vN (nn)), (5, vN (bf)), (6, vN (fw)), (7, vN (z))] (by decide) rfl dL_best_62 (fun ls hl => ?_)
            refine k_iload hm hl 0 rfl dL_best_64 ?_
            refine k_iload hm hl 7 rfl dL_best_66 ?_
            refine k_icmpge (tgt := 76) hm dL_best_68 (by decide) (by omega) (fun c_18 => ?_) (fun c_18 => ?_)
            · refine k_iload hm hl 6 rfl dL_best_76 ?_
              refine k_istore hm hl [(5, vN (bf)), (8, vN (stkC k0 n0 nn t z)), (0, .ref (ga)), (1, .ref (ma)), (2, .ref (wa)), (3, vN (t)), (4, vN (nn)), (6, vN (fw)), (7, vN (z))] (by decide) rfl dL_best_78 (fun ls hl => ?_)
              refine k_iload hm hl 1 rfl dL_best_80 ?_
              refine k_iload hm hl 7 rfl dL_best_82 ?_
              refine k_icmpge (tgt := 92) hm dL_best_84 (by decide) (by omega) (fun c_19 => ?_) (fun c_19 => absurd c_19 (by omega))
              refine k_iload hm hl 7 rfl dL_best_92 ?_
              refine k_istore hm hl [(6, vN (fw)), (5, vN (bf)), (8, vN (stkC k0 n0 nn t z)), (0, .ref (ga)), (1, .ref (ma)), (2, .ref (wa)), (3, vN (t)), (4, vN (nn)), (7, vN (z))] (by decide) rfl dL_best_94 (fun ls hl => ?_)
              refine k_iincN hm hl 8 1 rfl [(7, vN (z + 1)), (6, vN (fw)), (5, vN (bf)), (8, vN (stkC k0 n0 nn t z)), (0, .ref (ga)), (1, .ref (ma)), (2, .ref (wa)), (3, vN (t)), (4, vN (nn))] (by decide) rfl dL_best_96 (fun ls hl => ?_)
              refine k_goto (tgt := 23) hm dL_best_99 (by decide) ?_
              exact ih_23  bf fw (z + 1) (nU mg1 R (pm nn t)) wf2_14 (by omega) (by
                              rcases hiv with ⟨q1, q2, q3⟩ | ⟨q1, q2, q3⟩
                              · omega
                              · refine Or.inr ⟨by omega, q2, ⟨by have := q3.1; omega, fun y1 z1 => ?_, q3.2.2⟩⟩
                                by_cases q4 : y1 = z
                                · rw [q4]; omega
                                · exact q3.2.1 y1 (by omega)) (fun q z1 => by rw [nU_n (by omega)]; exact hm1 q z1) (fun q z1 => by rw [hold_16 q z1]; exact hw1 q z1) _ _ _ (by omega) hw (lv_sub hl [4, 5, 6, 7, 8, 2, 1, 0] rfl)
            · refine k_iload hm hl 8 rfl dL_best_71 ?_
              refine k_goto (tgt := 78) hm dL_best_73 (by decide) ?_
              refine k_istore hm hl [(5, vN (z)), (8, vN (stkC k0 n0 nn t z)), (0, .ref (ga)), (1, .ref (ma)), (2, .ref (wa)), (3, vN (t)), (4, vN (nn)), (6, vN (fw)), (7, vN (z))] (by decide) rfl dL_best_78 (fun ls hl => ?_)
              refine k_iload hm hl 1 rfl dL_best_80 ?_
              refine k_iload hm hl 7 rfl dL_best_82 ?_
              refine k_icmpge (tgt := 92) hm dL_best_84 (by decide) (by omega) (fun c_20 => absurd c_20 (by omega)) (fun c_20 => ?_)
              refine k_iload hm hl 1 rfl dL_best_87 ?_
              refine k_goto (tgt := 94) hm dL_best_89 (by decide) ?_
              refine k_istore hm hl [(6, vN (stkC k0 n0 nn t z)), (5, vN (z)), (8, vN (stkC k0 n0 nn t z)), (0, .ref (ga)), (1, .ref (ma)), (2, .ref (wa)), (3, vN (t)), (4, vN (nn)), (7, vN (z))] (by decide) rfl dL_best_94 (fun ls hl => ?_)
              refine k_iincN hm hl 8 1 rfl [(7, vN (z + 1)), (6, vN (stkC k0 n0 nn t z)), (5, vN (z)), (8, vN (stkC k0 n0 nn t z)), (0, .ref (ga)), (1, .ref (ma)), (2, .ref (wa)), (3, vN (t)), (4, vN (nn))] (by decide) rfl dL_best_96 (fun ls hl => ?_)
              refine k_goto (tgt := 23) hm dL_best_99 (by decide) ?_
              exact ih_23  z (stkC k0 n0 nn t z) (z + 1) (nU mg1 R (pm nn t)) wf2_14 (by omega) (by
                              refine Or.inr ⟨by omega, rfl, ?_⟩
                              rcases hiv with ⟨q1, q2, q3⟩ | ⟨q1, q2, q3⟩
                              · exact ⟨by omega, fun y1 z1 => by rw [show y1 = z by omega]; exact Nat.le_refl _, fun y1 z1 => absurd z1 (by omega)⟩
                              · refine ⟨by omega, fun y1 z1 => ?_, fun y1 z1 => ?_⟩
                                · by_cases q4 : y1 = z
                                  · rw [q4]; exact Nat.le_refl _
                                  · have := q3.2.1 y1 (by omega); omega
                                · have := q3.2.1 y1 (by omega); omega) (fun q z1 => by rw [nU_n (by omega)]; exact hm1 q z1) (fun q z1 => by rw [hold_16 q z1]; exact hw1 q z1) _ _ _ (by omega) hw (lv_sub hl [4, 5, 6, 7, 8, 2, 1, 0] rfl)
      · refine k_iload_n hm hl 3 rfl dL_best_31 ?_
        refine k_goto (tgt := 37) hm dL_best_32 (by decide) ?_
        refine k_rwV (y := vN (pm nn t)) (by unfold pm; rw [if_neg (by omega)]) ?_
        refine k_icmpge (tgt := 102) hm dL_best_37 (by decide) (by omega) (fun c_21 => ?_) (fun c_21 => ?_)
        · have hbst : isBst (stkC k0 n0 nn t) (pm nn t) bf := hiv.elim (fun z1 => by omega) (fun z1 => by rw [show pm nn t = z by omega]; exact z1.2.2)
          have hbb := hbst.1
          refine k_aload_n hm hl 0 rfl dL_best_102 ?_
          refine k_aload_n hm hl 1 rfl dL_best_103 ?_
          refine k_aload_n hm hl 2 rfl dL_best_104 ?_
          refine k_iload_n hm hl 3 rfl dL_best_105 ?_
          refine k_iload hm hl 5 rfl dL_best_106 ?_
          refine k_callS (n := 5) (As := [.ref (ga), .ref (ma), .ref (wa), vN (t), vN (bf)]) (rest := []) (wr := []) hm hw hl (c_l_lays_s l G ga gf ma mg1 wa wf1 R t bf k0 n0 nn hg (by first | assumption | omega) (by rw [hm1 _ (by omega)]; exact hm0) (RwB_ext hr0 (fun q z1 => hw1 q (by omega))) hnn (by omega)) gL_best_L_lays rfl (by decide +kernel) ⟨by decide, by decide⟩ [0, 1, 2] [] (by decide) rfl rfl (by decide) (by decide) rfl rfl (by simp [Value.category]) ⟨by decide, by decide⟩ dL_best_108 (fun v w1 H locs hp hw => ?_)
          obtain ⟨wf2_23, rfl, rfl, hrow_24, hold_25⟩ := hp
          have hw := hw.sub (ws' := [(ga, .inl (G.2 0, 5, .inl (nF gf)))] ++ ([(ma, .inl (G.2 0, 16, .inl (nF (nU mg1 R (pm nn t)))))] ++ [(wa, .inl (G.2 1, 64, .inr (.inl wf2_23)))])) [0, 1, 2] (by decide) rfl
          refine W.eq (g2 := F0 m 111 ls []) rfl ?_
          refine k_aload_n hm hl 0 rfl dL_best_111 ?_
          refine k_iconstN hm 0 dL_best_112 ?_
          refine lv_dup2_11 hm.1 hm.2.1 dL_best_113 rfl rfl ?_
          refine k_ialdN hm hw 0 rfl (by omega) dL_best_114 ?_
          refine k_rwV (y := vN (R)) (by rw [hg]) ?_
          refine k_iconstN hm 1 dL_best_115 ?_
          refine k_iaddN hm dL_best_116 ?_
          refine k_iastN hm hw 0 ([(ga, .inl (G.2 0, 5, .inl (nF (nU gf 0 (R + 1)))))] ++ ([(ma, .inl (G.2 0, 16, .inl (nF (nU mg1 R (pm nn t)))))] ++ [(wa, .inl (G.2 1, 64, .inr (.inl wf2_23)))])) rfl (by omega) rfl dL_best_117 (fun H locs hw => ?_)
          refine k_iload hm hl 5 rfl dL_best_118 ?_
          exact k_iret (post := _) hm hQ rfl rfl hw (⟨bf, _, _, rfl, rfl, hbst, hrow_24, nU_s, fun q z1 => by rw [nU_n (by omega)]; exact hm1 q z1, fun q z1 => by rw [hold_25 q z1]; exact hw1 q z1⟩) (by omega) (by omega) dL_best_120
        · refine k_iload hm hl 6 rfl dL_best_40 ?_
          refine k_ifle (tgt := 102) hm dL_best_42 (by decide) (by omega) (fun c_26 => ?_) (fun c_26 => ?_)
          · have hbst : isBst (stkC k0 n0 nn t) (pm nn t) bf := hiv.elim (fun z1 => by omega) (fun z1 => ⟨by have := z1.2.2.1; omega, fun y1 _ => by omega, z1.2.2.2.2⟩)
            have hbb := hbst.1
            refine k_aload_n hm hl 0 rfl dL_best_102 ?_
            refine k_aload_n hm hl 1 rfl dL_best_103 ?_
            refine k_aload_n hm hl 2 rfl dL_best_104 ?_
            refine k_iload_n hm hl 3 rfl dL_best_105 ?_
            refine k_iload hm hl 5 rfl dL_best_106 ?_
            refine k_callS (n := 5) (As := [.ref (ga), .ref (ma), .ref (wa), vN (t), vN (bf)]) (rest := []) (wr := []) hm hw hl (c_l_lays_s l G ga gf ma mg1 wa wf1 R t bf k0 n0 nn hg (by first | assumption | omega) (by rw [hm1 _ (by omega)]; exact hm0) (RwB_ext hr0 (fun q z1 => hw1 q (by omega))) hnn (by omega)) gL_best_L_lays rfl (by decide +kernel) ⟨by decide, by decide⟩ [0, 1, 2] [] (by decide) rfl rfl (by decide) (by decide) rfl rfl (by simp [Value.category]) ⟨by decide, by decide⟩ dL_best_108 (fun v w1 H locs hp hw => ?_)
            obtain ⟨wf2_28, rfl, rfl, hrow_29, hold_30⟩ := hp
            have hw := hw.sub (ws' := [(ga, .inl (G.2 0, 5, .inl (nF gf)))] ++ ([(ma, .inl (G.2 0, 16, .inl (nF (nU mg1 R (pm nn t)))))] ++ [(wa, .inl (G.2 1, 64, .inr (.inl wf2_28)))])) [0, 1, 2] (by decide) rfl
            refine W.eq (g2 := F0 m 111 ls []) rfl ?_
            refine k_aload_n hm hl 0 rfl dL_best_111 ?_
            refine k_iconstN hm 0 dL_best_112 ?_
            refine lv_dup2_11 hm.1 hm.2.1 dL_best_113 rfl rfl ?_
            refine k_ialdN hm hw 0 rfl (by omega) dL_best_114 ?_
            refine k_rwV (y := vN (R)) (by rw [hg]) ?_
            refine k_iconstN hm 1 dL_best_115 ?_
            refine k_iaddN hm dL_best_116 ?_
            refine k_iastN hm hw 0 ([(ga, .inl (G.2 0, 5, .inl (nF (nU gf 0 (R + 1)))))] ++ ([(ma, .inl (G.2 0, 16, .inl (nF (nU mg1 R (pm nn t)))))] ++ [(wa, .inl (G.2 1, 64, .inr (.inl wf2_28)))])) rfl (by omega) rfl dL_best_117 (fun H locs hw => ?_)
            refine k_iload hm hl 5 rfl dL_best_118 ?_
            exact k_iret (post := _) hm hQ rfl rfl hw (⟨bf, _, _, rfl, rfl, hbst, hrow_29, nU_s, fun q z1 => by rw [nU_n (by omega)]; exact hm1 q z1, fun q z1 => by rw [hold_30 q z1]; exact hw1 q z1⟩) (by omega) (by omega) dL_best_120
          · have hso := spR_ok (x := z) (show 3 ≤ nn ∧ nn ≤ 120 ∧ 3 ≤ t ∧ t ≤ 120 by omega) hpo
            have hsl : stkC k0 n0 nn t z ≤ pm nn t := nstk_le _ _ _
            refine k_aload_n hm hl 0 rfl dL_best_45 ?_
            refine k_aload_n hm hl 1 rfl dL_best_46 ?_
            refine k_aload_n hm hl 2 rfl dL_best_47 ?_
            refine k_iload_n hm hl 3 rfl dL_best_48 ?_
            refine k_iload hm hl 7 rfl dL_best_49 ?_
            refine k_callS (n := 5) (As := [.ref (ga), .ref (ma), .ref (wa), vN (t), vN (z)]) (rest := []) (wr := []) hm hw hl (c_l_lays_s l G ga gf ma mg1 wa wf1 R t z k0 n0 nn hg (by first | assumption | omega) (by rw [hm1 _ (by omega)]; exact hm0) (RwB_ext hr0 (fun q z1 => hw1 q (by omega))) hnn (by omega)) gL_best_L_lays rfl (by decide +kernel) ⟨by decide, by decide⟩ [0, 1, 2] [] (by decide) rfl rfl (by decide) (by decide) rfl rfl (by simp [Value.category]) ⟨by decide, by decide⟩ dL_best_51 (fun v w1 H locs hp hw => ?_)
            obtain ⟨wf2_32, rfl, rfl, hrow_33, hold_34⟩ := hp
            have hw := hw.sub (ws' := [(ga, .inl (G.2 0, 5, .inl (nF gf)))] ++ ([(ma, .inl (G.2 0, 16, .inl (nF (nU mg1 R (pm nn t)))))] ++ [(wa, .inl (G.2 1, 64, .inr (.inl wf2_32)))])) [0, 1, 2] (by decide) rfl
            refine W.eq (g2 := F0 m 54 ls []) rfl ?_
            refine k_aload_n hm hl 1 rfl dL_best_54 ?_
            refine k_aload_n hm hl 2 rfl dL_best_55 ?_
            refine k_aload_n hm hl 0 rfl dL_best_56 ?_
            refine k_iconstN hm 0 dL_best_57 ?_
            refine k_ialdN hm hw 0 rfl (by omega) dL_best_58 ?_
            refine k_rwV (y := vN (R)) (by rw [hg]) ?_
            refine k_callSr (n := 3) (As := [.ref (ma), .ref (wa), vN (R)]) (rest := []) hm hw hl (c_l_stacked l G ma (nU mg1 R (pm nn t)) wa wf2_32 R (spR nn t z) (pm nn t) k0 n0 nU_s hrow_33 (by omega) (Or.inr ⟨by rw [nU_n (by omega), hm1 _ (by omega)]; exact hm0, RwB_ext hr0 (fun q z1 => by rw [hold_34 q (by omega)]; exact hw1 q (by omega)), by rw [hso.2.1]; exact hnn, by omega⟩)) gL_best_L_stacked rfl (by decide +kernel) ⟨by decide, by decide⟩ [1, 2] (by decide) rfl rfl rfl (by simp [Value.category]) ⟨by decide, by decide⟩ dL_best_59 (fun v H locs hp hw => ?_)
            obtain rfl := hp
            refine W.eq (g2 := F0 m 62 ls [vN (if R = 0 then 0 else nstk (mkF k0 n0) (spR nn t z) (pm nn t))]) rfl ?_
            refine k_rwV (y := vN (stkC k0 n0 nn t z)) (by rw [if_neg (by omega)]; rfl) ?_
            refine k_istore hm hl [(8, vN (stkC k0 n0 nn t z)), (0, .ref (ga)), (1, .ref (ma)), (2, .ref (wa)), (3, vN (t)), (4, vN (nn)), (5, vN (bf)), (6, vN (fw)), (7, vN (z))] (by decide) rfl dL_best_62 (fun ls hl => ?_)
            refine k_iload hm hl 0 rfl dL_best_64 ?_
            refine k_iload hm hl 7 rfl dL_best_66 ?_
            refine k_icmpge (tgt := 76) hm dL_best_68 (by decide) (by omega) (fun c_36 => ?_) (fun c_36 => ?_)
            · refine k_iload hm hl 6 rfl dL_best_76 ?_
              refine k_istore hm hl [(5, vN (bf)), (8, vN (stkC k0 n0 nn t z)), (0, .ref (ga)), (1, .ref (ma)), (2, .ref (wa)), (3, vN (t)), (4, vN (nn)), (6, vN (fw)), (7, vN (z))] (by decide) rfl dL_best_78 (fun ls hl => ?_)
              refine k_iload hm hl 1 rfl dL_best_80 ?_
              refine k_iload hm hl 7 rfl dL_best_82 ?_
              refine k_icmpge (tgt := 92) hm dL_best_84 (by decide) (by omega) (fun c_37 => ?_) (fun c_37 => absurd c_37 (by omega))
              refine k_iload hm hl 7 rfl dL_best_92 ?_
              refine k_istore hm hl [(6, vN (fw)), (5, vN (bf)), (8, vN (stkC k0 n0 nn t z)), (0, .ref (ga)), (1, .ref (ma)), (2, .ref (wa)), (3, vN (t)), (4, vN (nn)), (7, vN (z))] (by decide) rfl dL_best_94 (fun ls hl => ?_)
              refine k_iincN hm hl 8 1 rfl [(7, vN (z + 1)), (6, vN (fw)), (5, vN (bf)), (8, vN (stkC k0 n0 nn t z)), (0, .ref (ga)), (1, .ref (ma)), (2, .ref (wa)), (3, vN (t)), (4, vN (nn))] (by decide) rfl dL_best_96 (fun ls hl => ?_)
              refine k_goto (tgt := 23) hm dL_best_99 (by decide) ?_
              exact ih_23  bf fw (z + 1) (nU mg1 R (pm nn t)) wf2_32 (by omega) (by
                              rcases hiv with ⟨q1, q2, q3⟩ | ⟨q1, q2, q3⟩
                              · omega
                              · refine Or.inr ⟨by omega, q2, ⟨by have := q3.1; omega, fun y1 z1 => ?_, q3.2.2⟩⟩
                                by_cases q4 : y1 = z
                                · rw [q4]; omega
                                · exact q3.2.1 y1 (by omega)) (fun q z1 => by rw [nU_n (by omega)]; exact hm1 q z1) (fun q z1 => by rw [hold_34 q z1]; exact hw1 q z1) _ _ _ (by omega) hw (lv_sub hl [4, 5, 6, 7, 8, 2, 1, 0] rfl)
            · refine k_iload hm hl 8 rfl dL_best_71 ?_
              refine k_goto (tgt := 78) hm dL_best_73 (by decide) ?_
              refine k_istore hm hl [(5, vN (z)), (8, vN (stkC k0 n0 nn t z)), (0, .ref (ga)), (1, .ref (ma)), (2, .ref (wa)), (3, vN (t)), (4, vN (nn)), (6, vN (fw)), (7, vN (z))] (by decide) rfl dL_best_78 (fun ls hl => ?_)
              refine k_iload hm hl 1 rfl dL_best_80 ?_
              refine k_iload hm hl 7 rfl dL_best_82 ?_
              refine k_icmpge (tgt := 92) hm dL_best_84 (by decide) (by omega) (fun c_38 => absurd c_38 (by omega)) (fun c_38 => ?_)
              refine k_iload hm hl 1 rfl dL_best_87 ?_
              refine k_goto (tgt := 94) hm dL_best_89 (by decide) ?_
              refine k_istore hm hl [(6, vN (stkC k0 n0 nn t z)), (5, vN (z)), (8, vN (stkC k0 n0 nn t z)), (0, .ref (ga)), (1, .ref (ma)), (2, .ref (wa)), (3, vN (t)), (4, vN (nn)), (7, vN (z))] (by decide) rfl dL_best_94 (fun ls hl => ?_)
              refine k_iincN hm hl 8 1 rfl [(7, vN (z + 1)), (6, vN (stkC k0 n0 nn t z)), (5, vN (z)), (8, vN (stkC k0 n0 nn t z)), (0, .ref (ga)), (1, .ref (ma)), (2, .ref (wa)), (3, vN (t)), (4, vN (nn))] (by decide) rfl dL_best_96 (fun ls hl => ?_)
              refine k_goto (tgt := 23) hm dL_best_99 (by decide) ?_
              exact ih_23  z (stkC k0 n0 nn t z) (z + 1) (nU mg1 R (pm nn t)) wf2_32 (by omega) (by
                              refine Or.inr ⟨by omega, rfl, ?_⟩
                              rcases hiv with ⟨q1, q2, q3⟩ | ⟨q1, q2, q3⟩
                              · exact ⟨by omega, fun y1 z1 => by rw [show y1 = z by omega]; exact Nat.le_refl _, fun y1 z1 => absurd z1 (by omega)⟩
                              · refine ⟨by omega, fun y1 z1 => ?_, fun y1 z1 => ?_⟩
                                · by_cases q4 : y1 = z
                                  · rw [q4]; exact Nat.le_refl _
                                  · have := q3.2.1 y1 (by omega); omega
                                · have := q3.2.1 y1 (by omega); omega) (fun q z1 => by rw [nU_n (by omega)]; exact hm1 q z1) (fun q z1 => by rw [hold_34 q z1]; exact hw1 q z1) _ _ _ (by omega) hw (lv_sub hl [4, 5, 6, 7, 8, 2, 1, 0] rfl)
  exact loop_23 (pm nn t - 0 + 1) 0 999 0 mg wf (by first | assumption | omega) (Or.inl ⟨rfl, rfl, rfl⟩) (fun _ _ => rfl) (fun _ _ => rfl) _ _ _ (Nat.lt_succ_self _) hw (lv_sub hl [4, 5, 6, 7, 3, 2, 1, 0] rfl)
set_option maxHeartbeats 4000000 in
set_option maxRecDepth 100000 in
theorem c_l_goal_0 (l : Launch) (G : kG) (ma : Nat) (mg : Nat → Nat) (f : Nat) (sz : Nat) (r : Nat) (hf : mg 0 = f) (h : 3 ≤ f ∧ f ≤ 12 ∧ 1 ≤ sz ∧ sz ≤ 20 ∧ r ≤ 40) : kCR l yL_goal wsL_goal 0 0 G [.ref (ma), vN (0), vN (sz), vN (r)] ([(ma, .inl (G.2 0, 16, .inl (nF mg)))]) (fun vv => vv = some (vN (goalF f 0 sz r))) := by
  refine kCM.of (cc := cL_goal) (maxL := 6) (ret := (some .int)) (by decide) rfl (Nat.le_of_ble_eq_true rfl) ?_
  intro p e s m args below meth c A ls Qz hQ hin hm hw hl
  have hl : lv_has ls 6 [(0, .ref (ma)), (1, vN (0)), (2, vN (sz)), (3, vN (r))] := hl
  have p1 : f * (r + 1) ≤ 12 * 41 := Nat.mul_le_mul h.2.1 (by omega)
  have p2 : r * sz ≤ 41 * 20 := Nat.mul_le_mul (by omega) (by omega)
  have p3 : f * Nat.min (r + 1) sz ≤ 12 * 20 := Nat.mul_le_mul h.2.1 (Nat.le_trans (Nat.min_le_right _ _) (by omega))
  have q1 := (gs1_rng h).1
  have q2 := (gs1_rng h).2
  have e1 : Nat.min (r + 1) sz = min (r + 1) sz := rfl
  refine k_aload_n hm hl 0 rfl dL_goal_0 ?_
  refine k_iconstN hm 0 dL_goal_1 ?_
  refine k_ialdN hm hw 0 rfl (by omega) dL_goal_2 ?_
  refine k_rwV (y := vN (f)) (by rw [hf]) ?_
  refine k_istore hm hl [(4, vN (f)), (0, .ref (ma)), (1, vN (0)), (2, vN (sz)), (3, vN (r))] (by decide) rfl dL_goal_3 (fun ls hl => ?_)
  refine k_iload_n hm hl 2 rfl dL_goal_5 ?_
  refine k_iconstN hm 2 dL_goal_6 ?_
  refine k_icmpne (tgt := 42) hm dL_goal_7 (by decide) (by omega) (fun c_1 => ?_) (fun c_1 => absurd c_1 (by omega))
  refine k_iload_n hm hl 2 rfl dL_goal_42 ?_
  refine k_iconstN hm 3 dL_goal_43 ?_
  refine k_icmpne (tgt := 58) hm dL_goal_44 (by decide) (by omega) (fun c_2 => ?_) (fun c_2 => absurd c_2 (by omega))
  refine k_iload_n hm hl 2 rfl dL_goal_58 ?_
  refine k_ifle (tgt := 71) hm dL_goal_59 (by decide) (by omega) (fun c_3 => ?_) (fun c_3 => absurd c_3 (by omega))
  refine k_iload_n hm hl 4 rfl dL_goal_71 ?_
  refine k_iconstN hm 1 dL_goal_72 ?_
  refine k_iaddN hm dL_goal_73 ?_
  refine k_istore hm hl [(5, vN (r + 1)), (4, vN (f)), (0, .ref (ma)), (1, vN (0)), (2, vN (sz)), (3, vN (r))] (by decide) rfl dL_goal_74 (fun ls hl => ?_)
  refine k_iload_n hm hl 3 rfl dL_goal_76 ?_
  refine k_iconstN hm 1 dL_goal_77 ?_
  refine k_icmpne (tgt := 99) hm dL_goal_78 (by decide) (by omega) (fun c_4 => ?_) (fun c_4 => absurd c_4 (by omega))
  refine k_iload hm hl 0 rfl dL_goal_99 ?_
  refine k_istore hm hl [(5, vN (r + 1)), (4, vN (f)), (0, .ref (ma)), (1, vN (0)), (2, vN (sz)), (3, vN (r))] (by decide) rfl dL_goal_101 (fun ls hl => ?_)
  refine k_iload hm hl 1 rfl dL_goal_103 ?_
  refine k_iload hm hl 0 rfl dL_goal_105 ?_
  refine k_imulN hm dL_goal_107 ?_
  refine k_istore hm hl [(4, vN (f * (r + 1))), (5, vN (r + 1)), (0, .ref (ma)), (1, vN (0)), (2, vN (sz)), (3, vN (r))] (by decide) rfl dL_goal_108 (fun ls hl => ?_)
  have hgv : goalF f 0 sz r = gz (((f * (r + 1) : Nat) : Int)) := by unfold goalF; rw [if_pos rfl]
  have hgz := gz_z (((f * (r + 1) : Nat) : Int))
  refine k_iload hm hl 0 rfl dL_goal_110 ?_
  refine k_bipushN hm 120 dL_goal_112 rfl ?_
  refine k_icmple (tgt := 122) hm dL_goal_114 (by decide) (by omega) (fun c_5 => ?_) (fun c_5 => ?_)
  · refine k_iload hm hl 0 rfl dL_goal_122 ?_
    refine k_iconstN hm 3 dL_goal_124 ?_
    refine k_icmpge (tgt := 132) hm dL_goal_125 (by decide) (by omega) (fun c_6 => ?_) (fun c_6 => ?_)
    · refine k_iload hm hl 0 rfl dL_goal_132 ?_
      exact k_iret (post := _) hm hQ rfl rfl hw (⟨congrArg (fun q : Int => some (Value.int (iI q))) (show ((f * (r + 1) : Nat) : Int) = ((goalF f 0 sz r : Nat) : Int) from by rw [hgv]; split at hgz <;> split at hgz <;> omega), rfl⟩) (by omega) (by omega) dL_goal_134
    · refine k_iconstN hm 3 dL_goal_128 ?_
      refine k_goto (tgt := 134) hm dL_goal_129 (by decide) ?_
      exact k_iret (post := _) hm hQ rfl rfl hw (⟨congrArg (fun q : Int => some (Value.int (iI q))) (show ((3 : Nat) : Int) = ((goalF f 0 sz r : Nat) : Int) from by rw [hgv]; split at hgz <;> split at hgz <;> omega), rfl⟩) (by omega) (by omega) dL_goal_134
  · refine k_bipushN hm 120 dL_goal_117 rfl ?_
    refine k_goto (tgt := 134) hm dL_goal_119 (by decide) ?_
    exact k_iret (post := _) hm hQ rfl rfl hw (⟨congrArg (fun q : Int => some (Value.int (iI q))) (show ((120 : Nat) : Int) = ((goalF f 0 sz r : Nat) : Int) from by rw [hgv]; split at hgz <;> split at hgz <;> omega), rfl⟩) (by omega) (by omega) dL_goal_134
set_option maxHeartbeats 4000000 in
set_option maxRecDepth 100000 in
theorem c_l_goal_1 (l : Launch) (G : kG) (ma : Nat) (mg : Nat → Nat) (f : Nat) (sz : Nat) (r : Nat) (hf : mg 0 = f) (h : 3 ≤ f ∧ f ≤ 12 ∧ 1 ≤ sz ∧ sz ≤ 20 ∧ r ≤ 40) : kCR l yL_goal wsL_goal 0 0 G [.ref (ma), vN (1), vN (sz), vN (r)] ([(ma, .inl (G.2 0, 16, .inl (nF mg)))]) (fun vv => vv = some (vN (goalF f 1 sz r))) := by
  refine kCM.of (cc := cL_goal) (maxL := 6) (ret := (some .int)) (by decide) rfl (Nat.le_of_ble_eq_true rfl) ?_
  intro p e s m args below meth c A ls Qz hQ hin hm hw hl
  have hl : lv_has ls 6 [(0, .ref (ma)), (1, vN (1)), (2, vN (sz)), (3, vN (r))] := hl
  have p1 : f * (r + 1) ≤ 12 * 41 := Nat.mul_le_mul h.2.1 (by omega)
  have p2 : r * sz ≤ 41 * 20 := Nat.mul_le_mul (by omega) (by omega)
  have p3 : f * Nat.min (r + 1) sz ≤ 12 * 20 := Nat.mul_le_mul h.2.1 (Nat.le_trans (Nat.min_le_right _ _) (by omega))
  have q1 := (gs1_rng h).1
  have q2 := (gs1_rng h).2
  have e1 : Nat.min (r + 1) sz = min (r + 1) sz := rfl
  refine k_aload_n hm hl 0 rfl dL_goal_0 ?_
  refine k_iconstN hm 0 dL_goal_1 ?_
  refine k_ialdN hm hw 0 rfl (by omega) dL_goal_2 ?_
  refine k_rwV (y := vN (f)) (by rw [hf]) ?_
  refine k_istore hm hl [(4, vN (f)), (0, .ref (ma)), (1, vN (1)), (2, vN (sz)), (3, vN (r))] (by decide) rfl dL_goal_3 (fun ls hl => ?_)
  refine k_iload_n hm hl 2 rfl dL_goal_5 ?_
  refine k_iconstN hm 2 dL_goal_6 ?_
  refine k_icmpne (tgt := 42) hm dL_goal_7 (by decide) (by omega) (fun c_1 => ?_) (fun c_1 => absurd c_1 (by omega))
  refine k_iload_n hm hl 2 rfl dL_goal_42 ?_
  refine k_iconstN hm 3 dL_goal_43 ?_
  refine k_icmpne (tgt := 58) hm dL_goal_44 (by decide) (by omega) (fun c_2 => ?_) (fun c_2 => absurd c_2 (by omega))
  refine k_iload_n hm hl 2 rfl dL_goal_58 ?_
  refine k_ifle (tgt := 71) hm dL_goal_59 (by decide) (by omega) (fun c_3 => absurd c_3 (by omega)) (fun c_3 => ?_)
  refine k_iload_n hm hl 3 rfl dL_goal_62 ?_
  refine k_iload_n hm hl 4 rfl dL_goal_63 ?_
  refine k_icmpgt (tgt := 71) hm dL_goal_64 (by decide) (by omega) (fun c_4 => ?_) (fun c_4 => ?_)
  · refine k_iload_n hm hl 4 rfl dL_goal_71 ?_
    refine k_iconstN hm 1 dL_goal_72 ?_
    refine k_iaddN hm dL_goal_73 ?_
    refine k_rwV (y := vN (Nat.min (r + 1) sz)) (by rw [show Nat.min (r + 1) sz = r + 1 from by rw [e1]; omega]) ?_
    refine k_istore hm hl [(5, vN (Nat.min (r + 1) sz)), (4, vN (f)), (0, .ref (ma)), (1, vN (1)), (2, vN (sz)), (3, vN (r))] (by decide) rfl dL_goal_74 (fun ls hl => ?_)
    refine k_iload_n hm hl 3 rfl dL_goal_76 ?_
    refine k_iconstN hm 1 dL_goal_77 ?_
    refine k_icmpne (tgt := 99) hm dL_goal_78 (by decide) (by omega) (fun c_5 => absurd c_5 (by omega)) (fun c_5 => ?_)
    refine k_iconstN hm 3 dL_goal_81 ?_
    refine k_iload_n hm hl 4 rfl dL_goal_82 ?_
    refine k_imulN hm dL_goal_83 ?_
    refine k_iload_n hm hl 5 rfl dL_goal_84 ?_
    refine k_isub hm dL_goal_85 ?_
    refine k_iload hm hl 0 rfl dL_goal_86 ?_
    refine k_icmpge (tgt := 99) hm dL_goal_88 (by decide) (by omega) (fun c_6 => ?_) (fun c_6 => ?_)
    · refine k_iload hm hl 0 rfl dL_goal_99 ?_
      refine k_istore hm hl [(5, vN (Nat.min (r + 1) sz)), (4, vN (f)), (0, .ref (ma)), (1, vN (1)), (2, vN (sz)), (3, vN (r))] (by decide) rfl dL_goal_101 (fun ls hl => ?_)
      refine k_iload hm hl 1 rfl dL_goal_103 ?_
      refine k_iload hm hl 0 rfl dL_goal_105 ?_
      refine k_imulN hm dL_goal_107 ?_
      refine k_rwV (y := vZ (gs1 f sz r)) (congrArg (fun q : Int => Value.int (iI q)) (show ((f * (Nat.min (r + 1) sz) : Nat) : Int) = gs1 f sz r from by unfold gs1; rw [if_pos (by omega)]; exact Int.natCast_mul _ _)) ?_
      refine k_istore hm hl [(4, vZ (gs1 f sz r)), (5, vN (Nat.min (r + 1) sz)), (0, .ref (ma)), (1, vN (1)), (2, vN (sz)), (3, vN (r))] (by decide) rfl dL_goal_108 (fun ls hl => ?_)
      have hgv : goalF f 1 sz r = gz ((gs1 f sz r)) := by unfold goalF; rw [if_neg (by decide), if_pos rfl]
      have hgz := gz_z ((gs1 f sz r))
      refine k_iload hm hl 0 rfl dL_goal_110 ?_
      refine k_bipushN hm 120 dL_goal_112 rfl ?_
      refine k_icmple (tgt := 122) hm dL_goal_114 (by decide) (by omega) (fun c_7 => ?_) (fun c_7 => ?_)
      · refine k_iload hm hl 0 rfl dL_goal_122 ?_
        refine k_iconstN hm 3 dL_goal_124 ?_
        refine k_icmpge (tgt := 132) hm dL_goal_125 (by decide) (by omega) (fun c_8 => ?_) (fun c_8 => ?_)
        · refine k_iload hm hl 0 rfl dL_goal_132 ?_
          exact k_iret (post := _) hm hQ rfl rfl hw (⟨congrArg (fun q : Int => some (Value.int (iI q))) (show (gs1 f sz r) = ((goalF f 1 sz r : Nat) : Int) from by rw [hgv]; split at hgz <;> split at hgz <;> omega), rfl⟩) (by omega) (by omega) dL_goal_134
        · refine k_iconstN hm 3 dL_goal_128 ?_
          refine k_goto (tgt := 134) hm dL_goal_129 (by decide) ?_
          exact k_iret (post := _) hm hQ rfl rfl hw (⟨congrArg (fun q : Int => some (Value.int (iI q))) (show ((3 : Nat) : Int) = ((goalF f 1 sz r : Nat) : Int) from by rw [hgv]; split at hgz <;> split at hgz <;> omega), rfl⟩) (by omega) (by omega) dL_goal_134
      · refine k_bipushN hm 120 dL_goal_117 rfl ?_
        refine k_goto (tgt := 134) hm dL_goal_119 (by decide) ?_
        exact k_iret (post := _) hm hQ rfl rfl hw (⟨congrArg (fun q : Int => some (Value.int (iI q))) (show ((120 : Nat) : Int) = ((goalF f 1 sz r : Nat) : Int) from by rw [hgv]; split at hgz <;> split at hgz <;> omega), rfl⟩) (by omega) (by omega) dL_goal_134
    · refine k_iconstN hm 3 dL_goal_91 ?_
      refine k_iload_n hm hl 4 rfl dL_goal_92 ?_
      refine k_imulN hm dL_goal_93 ?_
      refine k_iload_n hm hl 5 rfl dL_goal_94 ?_
      refine k_isub hm dL_goal_95 ?_
      refine k_goto (tgt := 101) hm dL_goal_96 (by decide) ?_
      refine k_istore hm hl [(5, vZ (((3 * sz : Nat) : Int) - ((r : Nat) : Int))), (4, vN (f)), (0, .ref (ma)), (1, vN (1)), (2, vN (sz)), (3, vN (r))] (by decide) rfl dL_goal_101 (fun ls hl => ?_)
      refine k_iload hm hl 1 rfl dL_goal_103 ?_
      refine k_iload hm hl 0 rfl dL_goal_105 ?_
      refine k_imul hm dL_goal_107 ?_
      refine k_rwV (y := vZ (gs1 f sz r)) (congrArg (fun q : Int => Value.int (iI q)) (show (((f : Nat) : Int) * (((3 * sz : Nat) : Int) - ((r : Nat) : Int))) = gs1 f sz r from by unfold gs1; rw [if_neg (by omega)])) ?_
      refine k_istore hm hl [(4, vZ (gs1 f sz r)), (5, vZ (((3 * sz : Nat) : Int) - ((r : Nat) : Int))), (0, .ref (ma)), (1, vN (1)), (2, vN (sz)), (3, vN (r))] (by decide) rfl dL_goal_108 (fun ls hl => ?_)
      have hgv : goalF f 1 sz r = gz ((gs1 f sz r)) := by unfold goalF; rw [if_neg (by decide), if_pos rfl]
      have hgz := gz_z ((gs1 f sz r))
      refine k_iload hm hl 0 rfl dL_goal_110 ?_
      refine k_bipushN hm 120 dL_goal_112 rfl ?_
      refine k_icmple (tgt := 122) hm dL_goal_114 (by decide) (by omega) (fun c_9 => ?_) (fun c_9 => ?_)
      · refine k_iload hm hl 0 rfl dL_goal_122 ?_
        refine k_iconstN hm 3 dL_goal_124 ?_
        refine k_icmpge (tgt := 132) hm dL_goal_125 (by decide) (by omega) (fun c_10 => ?_) (fun c_10 => ?_)
        · refine k_iload hm hl 0 rfl dL_goal_132 ?_
          exact k_iret (post := _) hm hQ rfl rfl hw (⟨congrArg (fun q : Int => some (Value.int (iI q))) (show (gs1 f sz r) = ((goalF f 1 sz r : Nat) : Int) from by rw [hgv]; split at hgz <;> split at hgz <;> omega), rfl⟩) (by omega) (by omega) dL_goal_134
        · refine k_iconstN hm 3 dL_goal_128 ?_
          refine k_goto (tgt := 134) hm dL_goal_129 (by decide) ?_
          exact k_iret (post := _) hm hQ rfl rfl hw (⟨congrArg (fun q : Int => some (Value.int (iI q))) (show ((3 : Nat) : Int) = ((goalF f 1 sz r : Nat) : Int) from by rw [hgv]; split at hgz <;> split at hgz <;> omega), rfl⟩) (by omega) (by omega) dL_goal_134
      · refine k_bipushN hm 120 dL_goal_117 rfl ?_
        refine k_goto (tgt := 134) hm dL_goal_119 (by decide) ?_
        exact k_iret (post := _) hm hQ rfl rfl hw (⟨congrArg (fun q : Int => some (Value.int (iI q))) (show ((120 : Nat) : Int) = ((goalF f 1 sz r : Nat) : Int) from by rw [hgv]; split at hgz <;> split at hgz <;> omega), rfl⟩) (by omega) (by omega) dL_goal_134
  · refine k_iload_n hm hl 3 rfl dL_goal_67 ?_
    refine k_goto (tgt := 74) hm dL_goal_68 (by decide) ?_
    refine k_rwV (y := vN (Nat.min (r + 1) sz)) (by rw [show Nat.min (r + 1) sz = sz from by rw [e1]; omega]) ?_
    refine k_istore hm hl [(5, vN (Nat.min (r + 1) sz)), (4, vN (f)), (0, .ref (ma)), (1, vN (1)), (2, vN (sz)), (3, vN (r))] (by decide) rfl dL_goal_74 (fun ls hl => ?_)
    refine k_iload_n hm hl 3 rfl dL_goal_76 ?_
    refine k_iconstN hm 1 dL_goal_77 ?_
    refine k_icmpne (tgt := 99) hm dL_goal_78 (by decide) (by omega) (fun c_11 => absurd c_11 (by omega)) (fun c_11 => ?_)
    refine k_iconstN hm 3 dL_goal_81 ?_
    refine k_iload_n hm hl 4 rfl dL_goal_82 ?_
    refine k_imulN hm dL_goal_83 ?_
    refine k_iload_n hm hl 5 rfl dL_goal_84 ?_
    refine k_isub hm dL_goal_85 ?_
    refine k_iload hm hl 0 rfl dL_goal_86 ?_
    refine k_icmpge (tgt := 99) hm dL_goal_88 (by decide) (by omega) (fun c_12 => ?_) (fun c_12 => ?_)
    · refine k_iload hm hl 0 rfl dL_goal_99 ?_
      refine k_istore hm hl [(5, vN (Nat.min (r + 1) sz)), (4, vN (f)), (0, .ref (ma)), (1, vN (1)), (2, vN (sz)), (3, vN (r))] (by decide) rfl dL_goal_101 (fun ls hl => ?_)
      refine k_iload hm hl 1 rfl dL_goal_103 ?_
      refine k_iload hm hl 0 rfl dL_goal_105 ?_
      refine k_imulN hm dL_goal_107 ?_
      refine k_rwV (y := vZ (gs1 f sz r)) (congrArg (fun q : Int => Value.int (iI q)) (show ((f * (Nat.min (r + 1) sz) : Nat) : Int) = gs1 f sz r from by unfold gs1; rw [if_pos (by omega)]; exact Int.natCast_mul _ _)) ?_
      refine k_istore hm hl [(4, vZ (gs1 f sz r)), (5, vN (Nat.min (r + 1) sz)), (0, .ref (ma)), (1, vN (1)), (2, vN (sz)), (3, vN (r))] (by decide) rfl dL_goal_108 (fun ls hl => ?_)
      have hgv : goalF f 1 sz r = gz ((gs1 f sz r)) := by unfold goalF; rw [if_neg (by decide), if_pos rfl]
      have hgz := gz_z ((gs1 f sz r))
      refine k_iload hm hl 0 rfl dL_goal_110 ?_
      refine k_bipushN hm 120 dL_goal_112 rfl ?_
      refine k_icmple (tgt := 122) hm dL_goal_114 (by decide) (by omega) (fun c_13 => ?_) (fun c_13 => ?_)
      · refine k_iload hm hl 0 rfl dL_goal_122 ?_
        refine k_iconstN hm 3 dL_goal_124 ?_
        refine k_icmpge (tgt := 132) hm dL_goal_125 (by decide) (by omega) (fun c_14 => ?_) (fun c_14 => ?_)
        · refine k_iload hm hl 0 rfl dL_goal_132 ?_
          exact k_iret (post := _) hm hQ rfl rfl hw (⟨congrArg (fun q : Int => some (Value.int (iI q))) (show (gs1 f sz r) = ((goalF f 1 sz r : Nat) : Int) from by rw [hgv]; split at hgz <;> split at hgz <;> omega), rfl⟩) (by omega) (by omega) dL_goal_134
        · refine k_iconstN hm 3 dL_goal_128 ?_
          refine k_goto (tgt := 134) hm dL_goal_129 (by decide) ?_
          exact k_iret (post := _) hm hQ rfl rfl hw (⟨congrArg (fun q : Int => some (Value.int (iI q))) (show ((3 : Nat) : Int) = ((goalF f 1 sz r : Nat) : Int) from by rw [hgv]; split at hgz <;> split at hgz <;> omega), rfl⟩) (by omega) (by omega) dL_goal_134
      · refine k_bipushN hm 120 dL_goal_117 rfl ?_
        refine k_goto (tgt := 134) hm dL_goal_119 (by decide) ?_
        exact k_iret (post := _) hm hQ rfl rfl hw (⟨congrArg (fun q : Int => some (Value.int (iI q))) (show ((120 : Nat) : Int) = ((goalF f 1 sz r : Nat) : Int) from by rw [hgv]; split at hgz <;> split at hgz <;> omega), rfl⟩) (by omega) (by omega) dL_goal_134
    · refine k_iconstN hm 3 dL_goal_91 ?_
      refine k_iload_n hm hl 4 rfl dL_goal_92 ?_
      refine k_imulN hm dL_goal_93 ?_
      refine k_iload_n hm hl 5 rfl dL_goal_94 ?_
      refine k_isub hm dL_goal_95 ?_
      refine k_goto (tgt := 101) hm dL_goal_96 (by decide) ?_
      refine k_istore hm hl [(5, vZ (((3 * sz : Nat) : Int) - ((r : Nat) : Int))), (4, vN (f)), (0, .ref (ma)), (1, vN (1)), (2, vN (sz)), (3, vN (r))] (by decide) rfl dL_goal_101 (fun ls hl => ?_)
      refine k_iload hm hl 1 rfl dL_goal_103 ?_
      refine k_iload hm hl 0 rfl dL_goal_105 ?_
      refine k_imul hm dL_goal_107 ?_
      refine k_rwV (y := vZ (gs1 f sz r)) (congrArg (fun q : Int => Value.int (iI q)) (show (((f : Nat) : Int) * (((3 * sz : Nat) : Int) - ((r : Nat) : Int))) = gs1 f sz r from by unfold gs1; rw [if_neg (by omega)])) ?_
      refine k_istore hm hl [(4, vZ (gs1 f sz r)), (5, vZ (((3 * sz : Nat) : Int) - ((r : Nat) : Int))), (0, .ref (ma)), (1, vN (1)), (2, vN (sz)), (3, vN (r))] (by decide) rfl dL_goal_108 (fun ls hl => ?_)
      have hgv : goalF f 1 sz r = gz ((gs1 f sz r)) := by unfold goalF; rw [if_neg (by decide), if_pos rfl]
      have hgz := gz_z ((gs1 f sz r))
      refine k_iload hm hl 0 rfl dL_goal_110 ?_
      refine k_bipushN hm 120 dL_goal_112 rfl ?_
      refine k_icmple (tgt := 122) hm dL_goal_114 (by decide) (by omega) (fun c_15 => ?_) (fun c_15 => ?_)
      · refine k_iload hm hl 0 rfl dL_goal_122 ?_
        refine k_iconstN hm 3 dL_goal_124 ?_
        refine k_icmpge (tgt := 132) hm dL_goal_125 (by decide) (by omega) (fun c_16 => ?_) (fun c_16 => ?_)
        · refine k_iload hm hl 0 rfl dL_goal_132 ?_
          exact k_iret (post := _) hm hQ rfl rfl hw (⟨congrArg (fun q : Int => some (Value.int (iI q))) (show (gs1 f sz r) = ((goalF f 1 sz r : Nat) : Int) from by rw [hgv]; split at hgz <;> split at hgz <;> omega), rfl⟩) (by omega) (by omega) dL_goal_134
        · refine k_iconstN hm 3 dL_goal_128 ?_
          refine k_goto (tgt := 134) hm dL_goal_129 (by decide) ?_
          exact k_iret (post := _) hm hQ rfl rfl hw (⟨congrArg (fun q : Int => some (Value.int (iI q))) (show ((3 : Nat) : Int) = ((goalF f 1 sz r : Nat) : Int) from by rw [hgv]; split at hgz <;> split at hgz <;> omega), rfl⟩) (by omega) (by omega) dL_goal_134
      · refine k_bipushN hm 120 dL_goal_117 rfl ?_
        refine k_goto (tgt := 134) hm dL_goal_119 (by decide) ?_
        exact k_iret (post := _) hm hQ rfl rfl hw (⟨congrArg (fun q : Int => some (Value.int (iI q))) (show ((120 : Nat) : Int) = ((goalF f 1 sz r : Nat) : Int) from by rw [hgv]; split at hgz <;> split at hgz <;> omega), rfl⟩) (by omega) (by omega) dL_goal_134
set_option maxHeartbeats 4000000 in
set_option maxRecDepth 100000 in
theorem c_l_goal_2 (l : Launch) (G : kG) (ma : Nat) (mg : Nat → Nat) (f : Nat) (sz : Nat) (r : Nat) (hf : mg 0 = f) (h : 3 ≤ f ∧ f ≤ 12 ∧ 1 ≤ sz ∧ sz ≤ 20 ∧ r ≤ 40) : kCR l yL_goal wsL_goal 0 0 G [.ref (ma), vN (2), vN (sz), vN (r)] ([(ma, .inl (G.2 0, 16, .inl (nF mg)))]) (fun vv => vv = some (vN (goalF f 2 sz r))) := by
  refine kCM.of (cc := cL_goal) (maxL := 6) (ret := (some .int)) (by decide) rfl (Nat.le_of_ble_eq_true rfl) ?_
  intro p e s m args below meth c A ls Qz hQ hin hm hw hl
  have hl : lv_has ls 6 [(0, .ref (ma)), (1, vN (2)), (2, vN (sz)), (3, vN (r))] := hl
  have p1 : f * (r + 1) ≤ 12 * 41 := Nat.mul_le_mul h.2.1 (by omega)
  have p2 : r * sz ≤ 41 * 20 := Nat.mul_le_mul (by omega) (by omega)
  have p3 : f * Nat.min (r + 1) sz ≤ 12 * 20 := Nat.mul_le_mul h.2.1 (Nat.le_trans (Nat.min_le_right _ _) (by omega))
  have q1 := (gs1_rng h).1
  have q2 := (gs1_rng h).2
  have e1 : Nat.min (r + 1) sz = min (r + 1) sz := rfl
  refine k_aload_n hm hl 0 rfl dL_goal_0 ?_
  refine k_iconstN hm 0 dL_goal_1 ?_
  refine k_ialdN hm hw 0 rfl (by omega) dL_goal_2 ?_
  refine k_rwV (y := vN (f)) (by rw [hf]) ?_
  refine k_istore hm hl [(4, vN (f)), (0, .ref (ma)), (1, vN (2)), (2, vN (sz)), (3, vN (r))] (by decide) rfl dL_goal_3 (fun ls hl => ?_)
  refine k_iload_n hm hl 2 rfl dL_goal_5 ?_
  refine k_iconstN hm 2 dL_goal_6 ?_
  refine k_icmpne (tgt := 42) hm dL_goal_7 (by decide) (by omega) (fun c_1 => absurd c_1 (by omega)) (fun c_1 => ?_)
  refine k_iconstN hm 0 dL_goal_10 ?_
  refine k_istore hm hl [(5, vN (0)), (4, vN (f)), (0, .ref (ma)), (1, vN (2)), (2, vN (sz)), (3, vN (r))] (by decide) rfl dL_goal_11 (fun ls hl => ?_)
  have loop_13 : ∀ (fu : Nat) (v : Nat) (i : Nat) (hi : i ≤ r) (hv : min 120 v = ruf f i ∧ 3 ≤ v ∧ v ≤ 240) (H : Heap) (locs : List Loc) (ls : Array Slot), r - i < fu → kW G A s ([(ma, .inl (G.2 0, 16, .inl (nF mg)))]) H locs → lv_has ls 6 [(0, .ref (ma)), (1, vN (2)), (2, vN (sz)), (3, vN (r)), (4, vN (v)), (5, vN (i))] → W p l e { frames := 0, cells := 0, slots := 0, locals := 0 } s m args below meth c H locs 0 0 Qz (F0 m 13 ls []) := by
    intro fu
    induction fu with
    | zero => intro v i hi hv H locs ls hfu; exact absurd hfu (Nat.not_lt_zero _)
    | succ fu ih_13 =>
      intro v i hi hv H locs ls hfu hw hl
      refine k_iload hm hl 5 rfl dL_goal_13 ?_
      refine k_iload_n hm hl 3 rfl dL_goal_15 ?_
      refine k_icmpge (tgt := 39) hm dL_goal_16 (by decide) (by omega) (fun c_2 => ?_) (fun c_2 => ?_)
      · refine k_goto (tgt := 110) hm dL_goal_39 (by decide) ?_
        have hfin : min 120 v = goalF f 2 sz r := by unfold goalF; rw [if_neg (by decide), if_neg (by decide), if_pos rfl]; rw [show r = i by omega]; exact hv.1
        refine k_iload hm hl 4 rfl dL_goal_110 ?_
        refine k_bipushN hm 120 dL_goal_112 rfl ?_
        refine k_icmple (tgt := 122) hm dL_goal_114 (by decide) (by omega) (fun c_3 => ?_) (fun c_3 => ?_)
        · refine k_iload hm hl 4 rfl dL_goal_122 ?_
          refine k_iconstN hm 3 dL_goal_124 ?_
          refine k_icmpge (tgt := 132) hm dL_goal_125 (by decide) (by omega) (fun c_4 => ?_) (fun c_4 => ?_)
          · refine k_iload hm hl 4 rfl dL_goal_132 ?_
            exact k_iret (post := _) hm hQ rfl rfl hw (⟨congrArg (fun q : Nat => some (vN q)) (show v = goalF f 2 sz r from by omega), rfl⟩) (by omega) (by omega) dL_goal_134
          · refine k_iconstN hm 3 dL_goal_128 ?_
            refine k_goto (tgt := 134) hm dL_goal_129 (by decide) ?_
            exact k_iret (post := _) hm hQ rfl rfl hw (⟨congrArg (fun q : Nat => some (vN q)) (show 3 = goalF f 2 sz r from by omega), rfl⟩) (by omega) (by omega) dL_goal_134
        · refine k_bipushN hm 120 dL_goal_117 rfl ?_
          refine k_goto (tgt := 134) hm dL_goal_119 (by decide) ?_
          exact k_iret (post := _) hm hQ rfl rfl hw (⟨congrArg (fun q : Nat => some (vN q)) (show 120 = goalF f 2 sz r from by omega), rfl⟩) (by omega) (by omega) dL_goal_134
      · refine k_iload hm hl 4 rfl dL_goal_19 ?_
        refine k_bipushN hm 120 dL_goal_21 rfl ?_
        refine k_icmpge (tgt := 39) hm dL_goal_23 (by decide) (by omega) (fun c_5 => ?_) (fun c_5 => ?_)
        · refine k_goto (tgt := 110) hm dL_goal_39 (by decide) ?_
          have hfin : min 120 v = goalF f 2 sz r := by unfold goalF; rw [if_neg (by decide), if_neg (by decide), if_pos rfl]; rw [ruf_top hi (by omega) (by omega)]; omega
          refine k_iload hm hl 4 rfl dL_goal_110 ?_
          refine k_bipushN hm 120 dL_goal_112 rfl ?_
          refine k_icmple (tgt := 122) hm dL_goal_114 (by decide) (by omega) (fun c_6 => ?_) (fun c_6 => ?_)
          · refine k_iload hm hl 4 rfl dL_goal_122 ?_
            refine k_iconstN hm 3 dL_goal_124 ?_
            refine k_icmpge (tgt := 132) hm dL_goal_125 (by decide) (by omega) (fun c_7 => ?_) (fun c_7 => ?_)
            · refine k_iload hm hl 4 rfl dL_goal_132 ?_
              exact k_iret (post := _) hm hQ rfl rfl hw (⟨congrArg (fun q : Nat => some (vN q)) (show v = goalF f 2 sz r from by omega), rfl⟩) (by omega) (by omega) dL_goal_134
            · refine k_iconstN hm 3 dL_goal_128 ?_
              refine k_goto (tgt := 134) hm dL_goal_129 (by decide) ?_
              exact k_iret (post := _) hm hQ rfl rfl hw (⟨congrArg (fun q : Nat => some (vN q)) (show 3 = goalF f 2 sz r from by omega), rfl⟩) (by omega) (by omega) dL_goal_134
          · refine k_bipushN hm 120 dL_goal_117 rfl ?_
            refine k_goto (tgt := 134) hm dL_goal_119 (by decide) ?_
            exact k_iret (post := _) hm hQ rfl rfl hw (⟨congrArg (fun q : Nat => some (vN q)) (show 120 = goalF f 2 sz r from by omega), rfl⟩) (by omega) (by omega) dL_goal_134
        · refine k_iload hm hl 4 rfl dL_goal_26 ?_
          refine k_iload hm hl 4 rfl dL_goal_28 ?_
          refine k_iaddN hm dL_goal_30 ?_
          refine k_istore hm hl [(4, vN (v + v)), (0, .ref (ma)), (1, vN (2)), (2, vN (sz)), (3, vN (r)), (5, vN (i))] (by decide) rfl dL_goal_31 (fun ls hl => ?_)
          refine k_iincN hm hl 5 1 rfl [(5, vN (i + 1)), (4, vN (v + v)), (0, .ref (ma)), (1, vN (2)), (2, vN (sz)), (3, vN (r))] (by decide) rfl dL_goal_33 (fun ls hl => ?_)
          refine k_goto (tgt := 13) hm dL_goal_36 (by decide) ?_
          exact ih_13  (v + v) (i + 1) (by first | assumption | omega) (by
                              have e9 : Nat.min 120 (2 * ruf f i) = min 120 (2 * ruf f i) := rfl
                              simp only [ruf]
                              rw [e9]
                              omega) _ _ _ (by omega) hw (lv_sub hl [2, 3, 4, 5, 1, 0] rfl)
  exact loop_13 (r - 0 + 1) f 0 (by first | assumption | omega) (by simp only [ruf]; omega) _ _ _ (Nat.lt_succ_self _) hw (lv_sub hl [2, 3, 4, 5, 1, 0] rfl)
set_option maxHeartbeats 4000000 in
set_option maxRecDepth 100000 in
theorem c_l_goal_3 (l : Launch) (G : kG) (ma : Nat) (mg : Nat → Nat) (f : Nat) (sz : Nat) (r : Nat) (hf : mg 0 = f) (h : 3 ≤ f ∧ f ≤ 12 ∧ 1 ≤ sz ∧ sz ≤ 20 ∧ r ≤ 40) : kCR l yL_goal wsL_goal 0 0 G [.ref (ma), vN (3), vN (sz), vN (r)] ([(ma, .inl (G.2 0, 16, .inl (nF mg)))]) (fun vv => vv = some (vN (goalF f 3 sz r))) := by
  refine kCM.of (cc := cL_goal) (maxL := 6) (ret := (some .int)) (by decide) rfl (Nat.le_of_ble_eq_true rfl) ?_
  intro p e s m args below meth c A ls Qz hQ hin hm hw hl
  have hl : lv_has ls 6 [(0, .ref (ma)), (1, vN (3)), (2, vN (sz)), (3, vN (r))] := hl
  have p1 : f * (r + 1) ≤ 12 * 41 := Nat.mul_le_mul h.2.1 (by omega)
  have p2 : r * sz ≤ 41 * 20 := Nat.mul_le_mul (by omega) (by omega)
  have p3 : f * Nat.min (r + 1) sz ≤ 12 * 20 := Nat.mul_le_mul h.2.1 (Nat.le_trans (Nat.min_le_right _ _) (by omega))
  have q1 := (gs1_rng h).1
  have q2 := (gs1_rng h).2
  have e1 : Nat.min (r + 1) sz = min (r + 1) sz := rfl
  refine k_aload_n hm hl 0 rfl dL_goal_0 ?_
  refine k_iconstN hm 0 dL_goal_1 ?_
  refine k_ialdN hm hw 0 rfl (by omega) dL_goal_2 ?_
  refine k_rwV (y := vN (f)) (by rw [hf]) ?_
  refine k_istore hm hl [(4, vN (f)), (0, .ref (ma)), (1, vN (3)), (2, vN (sz)), (3, vN (r))] (by decide) rfl dL_goal_3 (fun ls hl => ?_)
  refine k_iload_n hm hl 2 rfl dL_goal_5 ?_
  refine k_iconstN hm 2 dL_goal_6 ?_
  refine k_icmpne (tgt := 42) hm dL_goal_7 (by decide) (by omega) (fun c_1 => ?_) (fun c_1 => absurd c_1 (by omega))
  refine k_iload_n hm hl 2 rfl dL_goal_42 ?_
  refine k_iconstN hm 3 dL_goal_43 ?_
  refine k_icmpne (tgt := 58) hm dL_goal_44 (by decide) (by omega) (fun c_2 => absurd c_2 (by omega)) (fun c_2 => ?_)
  refine k_iload hm hl 0 rfl dL_goal_47 ?_
  refine k_iload_n hm hl 4 rfl dL_goal_49 ?_
  refine k_iload_n hm hl 3 rfl dL_goal_50 ?_
  refine k_imulN hm dL_goal_51 ?_
  refine k_iaddN hm dL_goal_52 ?_
  refine k_istore hm hl [(4, vN (f + (r * sz))), (0, .ref (ma)), (1, vN (3)), (2, vN (sz)), (3, vN (r))] (by decide) rfl dL_goal_53 (fun ls hl => ?_)
  refine k_goto (tgt := 110) hm dL_goal_55 (by decide) ?_
  have hgv : goalF f 3 sz r = gz (((f + (r * sz) : Nat) : Int)) := by unfold goalF; rw [if_neg (by decide), if_neg (by decide), if_neg (by decide), if_pos rfl]
  have hgz := gz_z (((f + (r * sz) : Nat) : Int))
  refine k_iload hm hl 0 rfl dL_goal_110 ?_
  refine k_bipushN hm 120 dL_goal_112 rfl ?_
  refine k_icmple (tgt := 122) hm dL_goal_114 (by decide) (by omega) (fun c_3 => ?_) (fun c_3 => ?_)
  · refine k_iload hm hl 0 rfl dL_goal_122 ?_
    refine k_iconstN hm 3 dL_goal_124 ?_
    refine k_icmpge (tgt := 132) hm dL_goal_125 (by decide) (by omega) (fun c_4 => ?_) (fun c_4 => ?_)
    · refine k_iload hm hl 0 rfl dL_goal_132 ?_
      exact k_iret (post := _) hm hQ rfl rfl hw (⟨congrArg (fun q : Int => some (Value.int (iI q))) (show ((f + (r * sz) : Nat) : Int) = ((goalF f 3 sz r : Nat) : Int) from by rw [hgv]; split at hgz <;> split at hgz <;> omega), rfl⟩) (by omega) (by omega) dL_goal_134
    · refine k_iconstN hm 3 dL_goal_128 ?_
      refine k_goto (tgt := 134) hm dL_goal_129 (by decide) ?_
      exact k_iret (post := _) hm hQ rfl rfl hw (⟨congrArg (fun q : Int => some (Value.int (iI q))) (show ((3 : Nat) : Int) = ((goalF f 3 sz r : Nat) : Int) from by rw [hgv]; split at hgz <;> split at hgz <;> omega), rfl⟩) (by omega) (by omega) dL_goal_134
  · refine k_bipushN hm 120 dL_goal_117 rfl ?_
    refine k_goto (tgt := 134) hm dL_goal_119 (by decide) ?_
    exact k_iret (post := _) hm hQ rfl rfl hw (⟨congrArg (fun q : Int => some (Value.int (iI q))) (show ((120 : Nat) : Int) = ((goalF f 3 sz r : Nat) : Int) from by rw [hgv]; split at hgz <;> split at hgz <;> omega), rfl⟩) (by omega) (by omega) dL_goal_134
set_option maxHeartbeats 4000000 in
set_option maxRecDepth 100000 in
theorem c_l_goal_4 (l : Launch) (G : kG) (ma : Nat) (mg : Nat → Nat) (f : Nat) (sz : Nat) (r : Nat) (hf : mg 0 = f) (h : 3 ≤ f ∧ f ≤ 12 ∧ 1 ≤ sz ∧ sz ≤ 20 ∧ r ≤ 40) : kCR l yL_goal wsL_goal 0 0 G [.ref (ma), vN (4), vN (sz), vN (r)] ([(ma, .inl (G.2 0, 16, .inl (nF mg)))]) (fun vv => vv = some (vN (goalF f 4 sz r))) := by
  refine kCM.of (cc := cL_goal) (maxL := 6) (ret := (some .int)) (by decide) rfl (Nat.le_of_ble_eq_true rfl) ?_
  intro p e s m args below meth c A ls Qz hQ hin hm hw hl
  have hl : lv_has ls 6 [(0, .ref (ma)), (1, vN (4)), (2, vN (sz)), (3, vN (r))] := hl
  have p1 : f * (r + 1) ≤ 12 * 41 := Nat.mul_le_mul h.2.1 (by omega)
  have p2 : r * sz ≤ 41 * 20 := Nat.mul_le_mul (by omega) (by omega)
  have p3 : f * Nat.min (r + 1) sz ≤ 12 * 20 := Nat.mul_le_mul h.2.1 (Nat.le_trans (Nat.min_le_right _ _) (by omega))
  have q1 := (gs1_rng h).1
  have q2 := (gs1_rng h).2
  have e1 : Nat.min (r + 1) sz = min (r + 1) sz := rfl
  refine k_aload_n hm hl 0 rfl dL_goal_0 ?_
  refine k_iconstN hm 0 dL_goal_1 ?_
  refine k_ialdN hm hw 0 rfl (by omega) dL_goal_2 ?_
  refine k_rwV (y := vN (f)) (by rw [hf]) ?_
  refine k_istore hm hl [(4, vN (f)), (0, .ref (ma)), (1, vN (4)), (2, vN (sz)), (3, vN (r))] (by decide) rfl dL_goal_3 (fun ls hl => ?_)
  refine k_iload_n hm hl 2 rfl dL_goal_5 ?_
  refine k_iconstN hm 2 dL_goal_6 ?_
  refine k_icmpne (tgt := 42) hm dL_goal_7 (by decide) (by omega) (fun c_1 => ?_) (fun c_1 => absurd c_1 (by omega))
  refine k_iload_n hm hl 2 rfl dL_goal_42 ?_
  refine k_iconstN hm 3 dL_goal_43 ?_
  refine k_icmpne (tgt := 58) hm dL_goal_44 (by decide) (by omega) (fun c_2 => ?_) (fun c_2 => absurd c_2 (by omega))
  refine k_iload_n hm hl 2 rfl dL_goal_58 ?_
  refine k_ifle (tgt := 71) hm dL_goal_59 (by decide) (by omega) (fun c_3 => absurd c_3 (by omega)) (fun c_3 => ?_)
  refine k_iload_n hm hl 3 rfl dL_goal_62 ?_
  refine k_iload_n hm hl 4 rfl dL_goal_63 ?_
  refine k_icmpgt (tgt := 71) hm dL_goal_64 (by decide) (by omega) (fun c_4 => ?_) (fun c_4 => ?_)
  · refine k_iload_n hm hl 4 rfl dL_goal_71 ?_
    refine k_iconstN hm 1 dL_goal_72 ?_
    refine k_iaddN hm dL_goal_73 ?_
    refine k_rwV (y := vN (Nat.min (r + 1) sz)) (by rw [show Nat.min (r + 1) sz = r + 1 from by rw [e1]; omega]) ?_
    refine k_istore hm hl [(5, vN (Nat.min (r + 1) sz)), (4, vN (f)), (0, .ref (ma)), (1, vN (4)), (2, vN (sz)), (3, vN (r))] (by decide) rfl dL_goal_74 (fun ls hl => ?_)
    refine k_iload_n hm hl 3 rfl dL_goal_76 ?_
    refine k_iconstN hm 1 dL_goal_77 ?_
    refine k_icmpne (tgt := 99) hm dL_goal_78 (by decide) (by omega) (fun c_5 => ?_) (fun c_5 => absurd c_5 (by omega))
    refine k_iload hm hl 0 rfl dL_goal_99 ?_
    refine k_istore hm hl [(5, vN (Nat.min (r + 1) sz)), (4, vN (f)), (0, .ref (ma)), (1, vN (4)), (2, vN (sz)), (3, vN (r))] (by decide) rfl dL_goal_101 (fun ls hl => ?_)
    refine k_iload hm hl 1 rfl dL_goal_103 ?_
    refine k_iload hm hl 0 rfl dL_goal_105 ?_
    refine k_imulN hm dL_goal_107 ?_
    refine k_istore hm hl [(4, vN (f * (Nat.min (r + 1) sz))), (5, vN (Nat.min (r + 1) sz)), (0, .ref (ma)), (1, vN (4)), (2, vN (sz)), (3, vN (r))] (by decide) rfl dL_goal_108 (fun ls hl => ?_)
    have hgv : goalF f 4 sz r = gz (((f * (Nat.min (r + 1) sz) : Nat) : Int)) := by unfold goalF; rw [if_neg (by decide), if_neg (by decide), if_neg (by decide), if_neg (by decide)]
    have hgz := gz_z (((f * (Nat.min (r + 1) sz) : Nat) : Int))
    refine k_iload hm hl 0 rfl dL_goal_110 ?_
    refine k_bipushN hm 120 dL_goal_112 rfl ?_
    refine k_icmple (tgt := 122) hm dL_goal_114 (by decide) (by omega) (fun c_6 => ?_) (fun c_6 => ?_)
    · refine k_iload hm hl 0 rfl dL_goal_122 ?_
      refine k_iconstN hm 3 dL_goal_124 ?_
      refine k_icmpge (tgt := 132) hm dL_goal_125 (by decide) (by omega) (fun c_7 => ?_) (fun c_7 => ?_)
      · refine k_iload hm hl 0 rfl dL_goal_132 ?_
        exact k_iret (post := _) hm hQ rfl rfl hw (⟨congrArg (fun q : Int => some (Value.int (iI q))) (show ((f * (Nat.min (r + 1) sz) : Nat) : Int) = ((goalF f 4 sz r : Nat) : Int) from by rw [hgv]; split at hgz <;> split at hgz <;> omega), rfl⟩) (by omega) (by omega) dL_goal_134
      · refine k_iconstN hm 3 dL_goal_128 ?_
        refine k_goto (tgt := 134) hm dL_goal_129 (by decide) ?_
        exact k_iret (post := _) hm hQ rfl rfl hw (⟨congrArg (fun q : Int => some (Value.int (iI q))) (show ((3 : Nat) : Int) = ((goalF f 4 sz r : Nat) : Int) from by rw [hgv]; split at hgz <;> split at hgz <;> omega), rfl⟩) (by omega) (by omega) dL_goal_134
    · refine k_bipushN hm 120 dL_goal_117 rfl ?_
      refine k_goto (tgt := 134) hm dL_goal_119 (by decide) ?_
      exact k_iret (post := _) hm hQ rfl rfl hw (⟨congrArg (fun q : Int => some (Value.int (iI q))) (show ((120 : Nat) : Int) = ((goalF f 4 sz r : Nat) : Int) from by rw [hgv]; split at hgz <;> split at hgz <;> omega), rfl⟩) (by omega) (by omega) dL_goal_134
  · refine k_iload_n hm hl 3 rfl dL_goal_67 ?_
    refine k_goto (tgt := 74) hm dL_goal_68 (by decide) ?_
    refine k_rwV (y := vN (Nat.min (r + 1) sz)) (by rw [show Nat.min (r + 1) sz = sz from by rw [e1]; omega]) ?_
    refine k_istore hm hl [(5, vN (Nat.min (r + 1) sz)), (4, vN (f)), (0, .ref (ma)), (1, vN (4)), (2, vN (sz)), (3, vN (r))] (by decide) rfl dL_goal_74 (fun ls hl => ?_)
    refine k_iload_n hm hl 3 rfl dL_goal_76 ?_
    refine k_iconstN hm 1 dL_goal_77 ?_
    refine k_icmpne (tgt := 99) hm dL_goal_78 (by decide) (by omega) (fun c_8 => ?_) (fun c_8 => absurd c_8 (by omega))
    refine k_iload hm hl 0 rfl dL_goal_99 ?_
    refine k_istore hm hl [(5, vN (Nat.min (r + 1) sz)), (4, vN (f)), (0, .ref (ma)), (1, vN (4)), (2, vN (sz)), (3, vN (r))] (by decide) rfl dL_goal_101 (fun ls hl => ?_)
    refine k_iload hm hl 1 rfl dL_goal_103 ?_
    refine k_iload hm hl 0 rfl dL_goal_105 ?_
    refine k_imulN hm dL_goal_107 ?_
    refine k_istore hm hl [(4, vN (f * (Nat.min (r + 1) sz))), (5, vN (Nat.min (r + 1) sz)), (0, .ref (ma)), (1, vN (4)), (2, vN (sz)), (3, vN (r))] (by decide) rfl dL_goal_108 (fun ls hl => ?_)
    have hgv : goalF f 4 sz r = gz (((f * (Nat.min (r + 1) sz) : Nat) : Int)) := by unfold goalF; rw [if_neg (by decide), if_neg (by decide), if_neg (by decide), if_neg (by decide)]
    have hgz := gz_z (((f * (Nat.min (r + 1) sz) : Nat) : Int))
    refine k_iload hm hl 0 rfl dL_goal_110 ?_
    refine k_bipushN hm 120 dL_goal_112 rfl ?_
    refine k_icmple (tgt := 122) hm dL_goal_114 (by decide) (by omega) (fun c_9 => ?_) (fun c_9 => ?_)
    · refine k_iload hm hl 0 rfl dL_goal_122 ?_
      refine k_iconstN hm 3 dL_goal_124 ?_
      refine k_icmpge (tgt := 132) hm dL_goal_125 (by decide) (by omega) (fun c_10 => ?_) (fun c_10 => ?_)
      · refine k_iload hm hl 0 rfl dL_goal_132 ?_
        exact k_iret (post := _) hm hQ rfl rfl hw (⟨congrArg (fun q : Int => some (Value.int (iI q))) (show ((f * (Nat.min (r + 1) sz) : Nat) : Int) = ((goalF f 4 sz r : Nat) : Int) from by rw [hgv]; split at hgz <;> split at hgz <;> omega), rfl⟩) (by omega) (by omega) dL_goal_134
      · refine k_iconstN hm 3 dL_goal_128 ?_
        refine k_goto (tgt := 134) hm dL_goal_129 (by decide) ?_
        exact k_iret (post := _) hm hQ rfl rfl hw (⟨congrArg (fun q : Int => some (Value.int (iI q))) (show ((3 : Nat) : Int) = ((goalF f 4 sz r : Nat) : Int) from by rw [hgv]; split at hgz <;> split at hgz <;> omega), rfl⟩) (by omega) (by omega) dL_goal_134
    · refine k_bipushN hm 120 dL_goal_117 rfl ?_
      refine k_goto (tgt := 134) hm dL_goal_119 (by decide) ?_
      exact k_iret (post := _) hm hQ rfl rfl hw (⟨congrArg (fun q : Int => some (Value.int (iI q))) (show ((120 : Nat) : Int) = ((goalF f 4 sz r : Nat) : Int) from by rw [hgv]; split at hgz <;> split at hgz <;> omega), rfl⟩) (by omega) (by omega) dL_goal_134
set_option maxHeartbeats 4000000 in
set_option maxRecDepth 100000 in
theorem c_l_goal (l : Launch) (G : kG) (ma : Nat) (mg : Nat → Nat) (f : Nat) (sh : Nat) (sz : Nat) (r : Nat) (hsh : sh < 5) (hf : mg 0 = f) (h : 3 ≤ f ∧ f ≤ 12 ∧ 1 ≤ sz ∧ sz ≤ 20 ∧ r ≤ 40) : kCR l yL_goal wsL_goal 0 0 G [.ref (ma), vN (sh), vN (sz), vN (r)] ([(ma, .inl (G.2 0, 16, .inl (nF mg)))]) (fun vv => vv = some (vN (goalF f sh sz r))) := by
  rcases (show sh = 0 ∨ sh = 1 ∨ sh = 2 ∨ sh = 3 ∨ sh = 4 by omega) with rfl | rfl | rfl | rfl | rfl
  · exact c_l_goal_0 l G ma mg f sz r hf h
  · exact c_l_goal_1 l G ma mg f sz r hf h
  · exact c_l_goal_2 l G ma mg f sz r hf h
  · exact c_l_goal_3 l G ma mg f sz r hf h
  · exact c_l_goal_4 l G ma mg f sz r hf h
