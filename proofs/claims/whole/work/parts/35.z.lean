set_option maxHeartbeats 4000000 in
set_option maxRecDepth 100000 in
theorem c_m_mirrors (l : Launch) (G : kG) (D : Nat → Nat) (sa : Nat → Int64) (pa : Nat → Int64) (pn : Nat) (tx : Nat → Nat) (tn : Nat) (rf : Nat) (ro : Nat → Nat) (wk : Nat) (mb : Nat → Nat) (so : Nat) (kd : Nat → Nat) (nu : Nat → Nat) (it : Nat) (ti : Nat) (rd : Nat) (ad : Nat → Int64) (t : Nat) (n : Nat) (h : 3 ≤ t ∧ t ≤ 120 ∧ 3 ≤ n ∧ n ≤ 120) : kCM l yX7_mirrors wsX7_mirrors 1 22 0 0 G [.ref (D 0), vN (t), vN (n)] (wMod G D sa pa pn tx tn rf ro wk mb so kd nu it ti rd ad) (fun vv uu => ∃ (ro2 : Nat → Nat), vv = none ∧ uu = wMod G D sa pa pn tx tn rf ro2 (pm n t) mb so kd nu it ti rd ad ∧ (∀ i, i < pm n t → ro2 i = miR n t i)) := by
  refine kCM.of (cc := cX7_mirrors) (maxL := 8) (ret := none) (by decide) rfl (Nat.le_of_ble_eq_true rfl) ?_
  intro p e s m args below meth c A ls Qz hQ hin hm hw hl
  have hl : lv_has ls 8 [(0, .ref (D 0)), (1, vN (t)), (2, vN (n))] := hl
  have i7 : ∀ w ∈ wsX70, w ∈ wsX7_mirrors := by decide +kernel
  have hpm : 3 ≤ pm n t ∧ pm n t ≤ 120 := by unfold pm; split <;> omega
  have hpd : pd n t ≤ 120 := by unfold pd; split <;> omega
  refine k_aload_n hm hl 0 rfl dX7_mirrors_0 ?_
  refine k_iload_n hm hl 1 rfl dX7_mirrors_1 ?_
  refine k_iload_n hm hl 2 rfl dX7_mirrors_2 ?_
  refine k_icmplt (tgt := 10) hm dX7_mirrors_3 (by decide) (by omega) (fun c_1 => ?_) (fun c_1 => ?_)
  · refine k_iload_n hm hl 1 rfl dX7_mirrors_10 ?_
    refine k_rwV (y := vN (pm n t)) (by unfold pm; rw [if_neg (by omega)]) ?_
    refine k_put (T := TX7) hm hw 0 7 (wMod G D sa pa pn tx tn rf ro (pm n t) mb so kd nu it ti rd ad) i7 tyX7 tyX7_ok nmX7 rfl rfl (by decide) (by decide +kernel) rfl (tyX7_ok 7 (by decide)) rfl rfl (Nat.le_of_ble_eq_true rfl) rfl dX7_mirrors_11 (fun H locs hw => ?_)
    refine k_iload_n hm hl 1 rfl dX7_mirrors_14 ?_
    refine k_iload_n hm hl 2 rfl dX7_mirrors_15 ?_
    refine k_icmplt (tgt := 25) hm dX7_mirrors_16 (by decide) (by omega) (fun c_2 => ?_) (fun c_2 => absurd c_2 (by omega))
    refine k_iload_n hm hl 2 rfl dX7_mirrors_25 ?_
    refine k_iload_n hm hl 1 rfl dX7_mirrors_26 ?_
    refine k_isubN hm (by omega) dX7_mirrors_27 ?_
    refine k_rwV (y := vN (pd n t)) (by unfold pd; rw [if_neg (by omega)]) ?_
    refine k_istore_n hm hl [(3, vN (pd n t)), (0, .ref (D 0)), (1, vN (t)), (2, vN (n))] (by decide) rfl dX7_mirrors_28 (fun ls hl => ?_)
    refine k_aload_n hm hl 1 rfl dX7_mirrors_29 ?_
    refine k_get (T := TX7) hm hw 0 7 i7 rfl rfl (by decide) (by decide +kernel) rfl dX7_mirrors_30 ?_
    refine k_iconstN hm 2 dX7_mirrors_33 ?_
    refine k_idivN hm (by omega) dX7_mirrors_34 ?_
    refine k_istore hm hl [(4, vN ((pm n t) / 2)), (3, vN (pd n t)), (0, .ref (D 0)), (1, vN (t)), (2, vN (n))] (by decide) rfl dX7_mirrors_35 (fun ls hl => ?_)
    refine k_iconstN hm 0 dX7_mirrors_37 ?_
    refine k_istore hm hl [(5, vN (0)), (4, vN ((pm n t) / 2)), (3, vN (pd n t)), (0, .ref (D 0)), (1, vN (t)), (2, vN (n))] (by decide) rfl dX7_mirrors_38 (fun ls hl => ?_)
    have loop_40 : ∀ (fu : Nat) (i : Nat) (g : Nat → Nat) (hi : i ≤ pm n t) (hg : ∀ j, j < i → g j = miR n t j) (H : Heap) (locs : List Loc) (ls : Array Slot), pm n t - i < fu → kW G A s (wMod G D sa pa pn tx tn rf g (pm n t) mb so kd nu it ti rd ad) H locs → lv_has ls 8 [(0, .ref (D 0)), (1, vN (t)), (2, vN (n)), (3, vN (pd n t)), (4, vN (pm n t / 2)), (5, vN (i))] → W p l e { frames := 1, cells := 0, slots := 0, locals := 22 } s m args below meth c H locs 0 0 Qz (F0 m 40 ls []) := by
      intro fu
      induction fu with
      | zero => intro i g hi hg H locs ls hfu; exact absurd hfu (Nat.not_lt_zero _)
      | succ fu ih_40 =>
        intro i g hi hg H locs ls hfu hw hl
        refine k_iload hm hl 5 rfl dX7_mirrors_40 ?_
        refine k_aload_n hm hl 0 rfl dX7_mirrors_42 ?_
        refine k_get (T := TX7) hm hw 0 7 i7 rfl rfl (by decide) (by decide +kernel) rfl dX7_mirrors_43 ?_
        refine k_icmpge (tgt := 138) hm dX7_mirrors_46 (by decide) (by omega) (fun c_3 => ?_) (fun c_3 => ?_)
        · exact k_vret hm hQ rfl hw (⟨g, rfl, rfl, fun j q => hg j (by omega)⟩) (by omega) (by omega) dX7_mirrors_138
        · refine k_iload hm hl 5 rfl dX7_mirrors_49 ?_
          refine k_iload hm hl 4 rfl dX7_mirrors_51 ?_
          refine k_icmpge (tgt := 61) hm dX7_mirrors_53 (by decide) (by omega) (fun c_4 => ?_) (fun c_4 => ?_)
          · refine k_aload_n hm hl 0 rfl dX7_mirrors_61 ?_
            refine k_get (T := TX7) hm hw 0 7 i7 rfl rfl (by decide) (by decide +kernel) rfl dX7_mirrors_62 ?_
            refine k_iconstN hm 1 dX7_mirrors_65 ?_
            refine k_isubN hm (by omega) dX7_mirrors_66 ?_
            refine k_iload hm hl 5 rfl dX7_mirrors_67 ?_
            refine k_isubN hm (by omega) dX7_mirrors_69 ?_
            refine k_istore hm hl [(6, vN (((pm n t) - 1) - i)), (0, .ref (D 0)), (1, vN (t)), (2, vN (n)), (3, vN (pd n t)), (4, vN (pm n t / 2)), (5, vN (i))] (by decide) rfl dX7_mirrors_70 (fun ls hl => ?_)
            have hj : (if i < pm n t / 2 then i else pm n t - 1 - i) = ((pm n t) - 1) - i := by rw [if_neg (by omega)]
            refine k_iload hm hl 0 rfl dX7_mirrors_72 ?_
            refine k_iload hm hl 5 rfl dX7_mirrors_74 ?_
            refine k_icmpge (tgt := 92) hm dX7_mirrors_76 (by decide) (by omega) (fun c_5 => ?_) (fun c_5 => ?_)
            · refine k_iload_n hm hl 4 rfl dX7_mirrors_92 ?_
              refine k_iconstN hm 2 dX7_mirrors_93 ?_
              refine k_iremN hm (by omega) dX7_mirrors_94 ?_
              refine k_iconstN hm 1 dX7_mirrors_95 ?_
              refine k_icmpne (tgt := 103) hm dX7_mirrors_96 (by decide) (by omega) (fun c_6 => ?_) (fun c_6 => ?_)
              · refine k_iconstN hm 0 dX7_mirrors_103 ?_
                refine k_istore hm hl [(7, vN (0)), (6, vN (((pm n t) - 1) - i)), (0, .ref (D 0)), (1, vN (t)), (2, vN (n)), (3, vN (pd n t)), (4, vN (pm n t / 2)), (5, vN (i))] (by decide) rfl dX7_mirrors_104 (fun ls hl => ?_)
                refine k_aload_n hm hl 2 rfl dX7_mirrors_106 ?_
                refine k_get (T := TX7) hm hw 0 6 i7 rfl rfl (by decide) (by decide +kernel) rfl dX7_mirrors_107 ?_
                refine k_iload hm hl 7 rfl dX7_mirrors_110 ?_
                refine k_iload hm hl 0 rfl dX7_mirrors_112 ?_
                refine k_ifne (tgt := 121) hm dX7_mirrors_114 (by decide) (by omega) (fun c_7 => absurd c_7 (by omega)) (fun c_7 => ?_)
                refine k_iconstN hm 0 dX7_mirrors_117 ?_
                refine k_goto (tgt := 131) hm dX7_mirrors_118 (by decide) ?_
                refine k_iastN hm hw 4 (wMod G D sa pa pn tx tn rf (nU g i 0) (pm n t) mb so kd nu it ti rd ad) rfl (by omega) rfl dX7_mirrors_131 (fun H locs hw => ?_)
                refine k_iincN hm hl 7 1 rfl [(5, vN (i + 1)), (7, vN (0)), (6, vN (((pm n t) - 1) - i)), (0, .ref (D 0)), (1, vN (t)), (2, vN (n)), (3, vN (pd n t)), (4, vN (pm n t / 2))] (by decide) rfl dX7_mirrors_132 (fun ls hl => ?_)
                refine k_goto (tgt := 40) hm dX7_mirrors_135 (by decide) ?_
                exact ih_40  (i + 1) (nU g i 0) (by first | assumption | omega) (fun j q => by rcases Nat.lt_or_ge j i with z | z; rw [nU_n (by omega)]; exact hg j z; rw [show j = i by omega, nU_s]; unfold miR mik; rw [hj]; rw [if_neg (by omega)]; rw [if_neg (by omega)]) _ _ _ (by omega) hw (lv_sub hl [3, 4, 5, 6, 7, 0] rfl)
              · refine k_iconstN hm 1 dX7_mirrors_99 ?_
                refine k_goto (tgt := 104) hm dX7_mirrors_100 (by decide) ?_
                refine k_istore hm hl [(7, vN (1)), (6, vN (((pm n t) - 1) - i)), (0, .ref (D 0)), (1, vN (t)), (2, vN (n)), (3, vN (pd n t)), (4, vN (pm n t / 2)), (5, vN (i))] (by decide) rfl dX7_mirrors_104 (fun ls hl => ?_)
                refine k_aload_n hm hl 2 rfl dX7_mirrors_106 ?_
                refine k_get (T := TX7) hm hw 0 6 i7 rfl rfl (by decide) (by decide +kernel) rfl dX7_mirrors_107 ?_
                refine k_iload hm hl 7 rfl dX7_mirrors_110 ?_
                refine k_iload hm hl 0 rfl dX7_mirrors_112 ?_
                refine k_ifne (tgt := 121) hm dX7_mirrors_114 (by decide) (by omega) (fun c_8 => ?_) (fun c_8 => absurd c_8 (by omega))
                refine k_iload_n hm hl 3 rfl dX7_mirrors_121 ?_
                refine k_iload_n hm hl 4 rfl dX7_mirrors_122 ?_
                refine k_icmplt (tgt := 130) hm dX7_mirrors_123 (by decide) (by omega) (fun c_9 => ?_) (fun c_9 => ?_)
                · refine k_iconstN hm 2 dX7_mirrors_130 ?_
                  refine k_iastN hm hw 4 (wMod G D sa pa pn tx tn rf (nU g i 2) (pm n t) mb so kd nu it ti rd ad) rfl (by omega) rfl dX7_mirrors_131 (fun H locs hw => ?_)
                  refine k_iincN hm hl 7 1 rfl [(5, vN (i + 1)), (7, vN (1)), (6, vN (((pm n t) - 1) - i)), (0, .ref (D 0)), (1, vN (t)), (2, vN (n)), (3, vN (pd n t)), (4, vN (pm n t / 2))] (by decide) rfl dX7_mirrors_132 (fun ls hl => ?_)
                  refine k_goto (tgt := 40) hm dX7_mirrors_135 (by decide) ?_
                  exact ih_40  (i + 1) (nU g i 2) (by first | assumption | omega) (fun j q => by rcases Nat.lt_or_ge j i with z | z; rw [nU_n (by omega)]; exact hg j z; rw [show j = i by omega, nU_s]; unfold miR mik; rw [hj]; rw [if_neg (by omega)]; unfold pk; rw [if_pos (by omega), if_neg (by omega)]) _ _ _ (by omega) hw (lv_sub hl [3, 4, 5, 6, 7, 0] rfl)
                · refine k_iconstN hm 1 dX7_mirrors_126 ?_
                  refine k_goto (tgt := 131) hm dX7_mirrors_127 (by decide) ?_
                  refine k_iastN hm hw 4 (wMod G D sa pa pn tx tn rf (nU g i 1) (pm n t) mb so kd nu it ti rd ad) rfl (by omega) rfl dX7_mirrors_131 (fun H locs hw => ?_)
                  refine k_iincN hm hl 7 1 rfl [(5, vN (i + 1)), (7, vN (1)), (6, vN (((pm n t) - 1) - i)), (0, .ref (D 0)), (1, vN (t)), (2, vN (n)), (3, vN (pd n t)), (4, vN (pm n t / 2))] (by decide) rfl dX7_mirrors_132 (fun ls hl => ?_)
                  refine k_goto (tgt := 40) hm dX7_mirrors_135 (by decide) ?_
                  exact ih_40  (i + 1) (nU g i 1) (by first | assumption | omega) (fun j q => by rcases Nat.lt_or_ge j i with z | z; rw [nU_n (by omega)]; exact hg j z; rw [show j = i by omega, nU_s]; unfold miR mik; rw [hj]; rw [if_neg (by omega)]; unfold pk; rw [if_pos (by omega), if_pos (by omega)]) _ _ _ (by omega) hw (lv_sub hl [3, 4, 5, 6, 7, 0] rfl)
            · refine k_iload hm hl 0 rfl dX7_mirrors_79 ?_
              refine k_iload_n hm hl 4 rfl dX7_mirrors_81 ?_
              refine k_iconstN hm 2 dX7_mirrors_82 ?_
              refine k_idivN hm (by omega) dX7_mirrors_83 ?_
              refine k_iload hm hl 5 rfl dX7_mirrors_84 ?_
              refine k_callSr (n := 3) (As := [vN (((pm n t) - 1) - i), vN ((pd n t) / 2), vN (pm n t / 2)]) (rest := []) hm hw hl (c_m_isShaped l G (((pm n t) - 1) - i) ((pd n t) / 2) (pm n t / 2) (by first | assumption | omega)) gX7_mirrors_X7_isShaped rfl (by decide +kernel) ⟨by decide, by decide⟩ [] (by decide) rfl rfl rfl (by simp [Value.category]) ⟨by decide, by decide⟩ dX7_mirrors_86 (fun v H locs hp hw => ?_)
              obtain rfl := hp
              refine W.eq (g2 := F0 m 89 ls [vB (decide ((((pm n t) - 1) - i) * ((pd n t) / 2) / (pm n t / 2) < ((((pm n t) - 1) - i) + 1) * ((pd n t) / 2) / (pm n t / 2)))]) rfl ?_
              refine k_goto (tgt := 104) hm dX7_mirrors_89 (by decide) ?_
              refine k_istore hm hl [(7, vB (decide ((((pm n t) - 1) - i) * ((pd n t) / 2) / (pm n t / 2) < ((((pm n t) - 1) - i) + 1) * ((pd n t) / 2) / (pm n t / 2)))), (6, vN (((pm n t) - 1) - i)), (0, .ref (D 0)), (1, vN (t)), (2, vN (n)), (3, vN (pd n t)), (4, vN (pm n t / 2)), (5, vN (i))] (by decide) rfl dX7_mirrors_104 (fun ls hl => ?_)
              refine k_aload_n hm hl 2 rfl dX7_mirrors_106 ?_
              refine k_get (T := TX7) hm hw 0 6 i7 rfl rfl (by decide) (by decide +kernel) rfl dX7_mirrors_107 ?_
              refine k_iload hm hl 7 rfl dX7_mirrors_110 ?_
              refine k_iload hm hl 0 rfl dX7_mirrors_112 ?_
              refine k_ifneB (tgt := 121) hm dX7_mirrors_114 (by decide) (fun c_11 => ?_) (fun c_11 => ?_)
              · have c_11d := of_decide_eq_true c_11
                have hsp := of_decide_eq_true c_11
                refine k_iload_n hm hl 3 rfl dX7_mirrors_121 ?_
                refine k_iload_n hm hl 4 rfl dX7_mirrors_122 ?_
                refine k_icmplt (tgt := 130) hm dX7_mirrors_123 (by decide) (by omega) (fun c_12 => ?_) (fun c_12 => ?_)
                · refine k_iconstN hm 2 dX7_mirrors_130 ?_
                  refine k_iastN hm hw 4 (wMod G D sa pa pn tx tn rf (nU g i 2) (pm n t) mb so kd nu it ti rd ad) rfl (by omega) rfl dX7_mirrors_131 (fun H locs hw => ?_)
                  refine k_iincN hm hl 7 1 rfl [(5, vN (i + 1)), (7, vB (decide ((((pm n t) - 1) - i) * ((pd n t) / 2) / (pm n t / 2) < ((((pm n t) - 1) - i) + 1) * ((pd n t) / 2) / (pm n t / 2)))), (6, vN (((pm n t) - 1) - i)), (0, .ref (D 0)), (1, vN (t)), (2, vN (n)), (3, vN (pd n t)), (4, vN (pm n t / 2))] (by decide) rfl dX7_mirrors_132 (fun ls hl => ?_)
                  refine k_goto (tgt := 40) hm dX7_mirrors_135 (by decide) ?_
                  exact ih_40  (i + 1) (nU g i 2) (by first | assumption | omega) (fun j q => by rcases Nat.lt_or_ge j i with z | z; rw [nU_n (by omega)]; exact hg j z; rw [show j = i by omega, nU_s]; unfold miR mik; rw [hj]; rw [if_pos (by omega)]; unfold spk pk; rw [if_pos hsp, if_neg (by omega)]) _ _ _ (by omega) hw (lv_sub hl [3, 4, 5, 6, 7, 0] rfl)
                · refine k_iconstN hm 1 dX7_mirrors_126 ?_
                  refine k_goto (tgt := 131) hm dX7_mirrors_127 (by decide) ?_
                  refine k_iastN hm hw 4 (wMod G D sa pa pn tx tn rf (nU g i 1) (pm n t) mb so kd nu it ti rd ad) rfl (by omega) rfl dX7_mirrors_131 (fun H locs hw => ?_)
                  refine k_iincN hm hl 7 1 rfl [(5, vN (i + 1)), (7, vB (decide ((((pm n t) - 1) - i) * ((pd n t) / 2) / (pm n t / 2) < ((((pm n t) - 1) - i) + 1) * ((pd n t) / 2) / (pm n t / 2)))), (6, vN (((pm n t) - 1) - i)), (0, .ref (D 0)), (1, vN (t)), (2, vN (n)), (3, vN (pd n t)), (4, vN (pm n t / 2))] (by decide) rfl dX7_mirrors_132 (fun ls hl => ?_)
                  refine k_goto (tgt := 40) hm dX7_mirrors_135 (by decide) ?_
                  exact ih_40  (i + 1) (nU g i 1) (by first | assumption | omega) (fun j q => by rcases Nat.lt_or_ge j i with z | z; rw [nU_n (by omega)]; exact hg j z; rw [show j = i by omega, nU_s]; unfold miR mik; rw [hj]; rw [if_pos (by omega)]; unfold spk pk; rw [if_pos hsp, if_pos (by omega)]) _ _ _ (by omega) hw (lv_sub hl [3, 4, 5, 6, 7, 0] rfl)
              · have c_11d := of_decide_eq_false c_11
                have hsp := of_decide_eq_false c_11
                refine k_iconstN hm 0 dX7_mirrors_117 ?_
                refine k_goto (tgt := 131) hm dX7_mirrors_118 (by decide) ?_
                refine k_iastN hm hw 4 (wMod G D sa pa pn tx tn rf (nU g i 0) (pm n t) mb so kd nu it ti rd ad) rfl (by omega) rfl dX7_mirrors_131 (fun H locs hw => ?_)
                refine k_iincN hm hl 7 1 rfl [(5, vN (i + 1)), (7, vB (decide ((((pm n t) - 1) - i) * ((pd n t) / 2) / (pm n t / 2) < ((((pm n t) - 1) - i) + 1) * ((pd n t) / 2) / (pm n t / 2)))), (6, vN (((pm n t) - 1) - i)), (0, .ref (D 0)), (1, vN (t)), (2, vN (n)), (3, vN (pd n t)), (4, vN (pm n t / 2))] (by decide) rfl dX7_mirrors_132 (fun ls hl => ?_)
                refine k_goto (tgt := 40) hm dX7_mirrors_135 (by decide) ?_
                exact ih_40  (i + 1) (nU g i 0) (by first | assumption | omega) (fun j q => by rcases Nat.lt_or_ge j i with z | z; rw [nU_n (by omega)]; exact hg j z; rw [show j = i by omega, nU_s]; unfold miR mik; rw [hj]; rw [if_pos (by omega)]; unfold spk pk; rw [if_neg hsp]) _ _ _ (by omega) hw (lv_sub hl [3, 4, 5, 6, 7, 0] rfl)
          · refine k_iload hm hl 5 rfl dX7_mirrors_56 ?_
            refine k_goto (tgt := 70) hm dX7_mirrors_58 (by decide) ?_
            refine k_istore hm hl [(6, vN (i)), (0, .ref (D 0)), (1, vN (t)), (2, vN (n)), (3, vN (pd n t)), (4, vN (pm n t / 2)), (5, vN (i))] (by decide) rfl dX7_mirrors_70 (fun ls hl => ?_)
            have hj : (if i < pm n t / 2 then i else pm n t - 1 - i) = i := by rw [if_pos (by omega)]
            refine k_iload hm hl 0 rfl dX7_mirrors_72 ?_
            refine k_iload hm hl 5 rfl dX7_mirrors_74 ?_
            refine k_icmpge (tgt := 92) hm dX7_mirrors_76 (by decide) (by omega) (fun c_13 => ?_) (fun c_13 => ?_)
            · refine k_iload_n hm hl 4 rfl dX7_mirrors_92 ?_
              refine k_iconstN hm 2 dX7_mirrors_93 ?_
              refine k_iremN hm (by omega) dX7_mirrors_94 ?_
              refine k_iconstN hm 1 dX7_mirrors_95 ?_
              refine k_icmpne (tgt := 103) hm dX7_mirrors_96 (by decide) (by omega) (fun c_14 => ?_) (fun c_14 => ?_)
              · refine k_iconstN hm 0 dX7_mirrors_103 ?_
                refine k_istore hm hl [(7, vN (0)), (6, vN (i)), (0, .ref (D 0)), (1, vN (t)), (2, vN (n)), (3, vN (pd n t)), (4, vN (pm n t / 2)), (5, vN (i))] (by decide) rfl dX7_mirrors_104 (fun ls hl => ?_)
                refine k_aload_n hm hl 2 rfl dX7_mirrors_106 ?_
                refine k_get (T := TX7) hm hw 0 6 i7 rfl rfl (by decide) (by decide +kernel) rfl dX7_mirrors_107 ?_
                refine k_iload hm hl 7 rfl dX7_mirrors_110 ?_
                refine k_iload hm hl 0 rfl dX7_mirrors_112 ?_
                refine k_ifne (tgt := 121) hm dX7_mirrors_114 (by decide) (by omega) (fun c_15 => absurd c_15 (by omega)) (fun c_15 => ?_)
                refine k_iconstN hm 0 dX7_mirrors_117 ?_
                refine k_goto (tgt := 131) hm dX7_mirrors_118 (by decide) ?_
                refine k_iastN hm hw 4 (wMod G D sa pa pn tx tn rf (nU g i 0) (pm n t) mb so kd nu it ti rd ad) rfl (by omega) rfl dX7_mirrors_131 (fun H locs hw => ?_)
                refine k_iincN hm hl 7 1 rfl [(5, vN (i + 1)), (7, vN (0)), (6, vN (i)), (0, .ref (D 0)), (1, vN (t)), (2, vN (n)), (3, vN (pd n t)), (4, vN (pm n t / 2))] (by decide) rfl dX7_mirrors_132 (fun ls hl => ?_)
                refine k_goto (tgt := 40) hm dX7_mirrors_135 (by decide) ?_
                exact ih_40  (i + 1) (nU g i 0) (by first | assumption | omega) (fun j q => by rcases Nat.lt_or_ge j i with z | z; rw [nU_n (by omega)]; exact hg j z; rw [show j = i by omega, nU_s]; unfold miR mik; rw [hj]; rw [if_neg (by omega)]; rw [if_neg (by omega)]) _ _ _ (by omega) hw (lv_sub hl [3, 4, 5, 6, 7, 0] rfl)
              · refine k_iconstN hm 1 dX7_mirrors_99 ?_
                refine k_goto (tgt := 104) hm dX7_mirrors_100 (by decide) ?_
                refine k_istore hm hl [(7, vN (1)), (6, vN (i)), (0, .ref (D 0)), (1, vN (t)), (2, vN (n)), (3, vN (pd n t)), (4, vN (pm n t / 2)), (5, vN (i))] (by decide) rfl dX7_mirrors_104 (fun ls hl => ?_)
                refine k_aload_n hm hl 2 rfl dX7_mirrors_106 ?_
                refine k_get (T := TX7) hm hw 0 6 i7 rfl rfl (by decide) (by decide +kernel) rfl dX7_mirrors_107 ?_
                refine k_iload hm hl 7 rfl dX7_mirrors_110 ?_
                refine k_iload hm hl 0 rfl dX7_mirrors_112 ?_
                refine k_ifne (tgt := 121) hm dX7_mirrors_114 (by decide) (by omega) (fun c_16 => ?_) (fun c_16 => absurd c_16 (by omega))
                refine k_iload_n hm hl 3 rfl dX7_mirrors_121 ?_
                refine k_iload_n hm hl 4 rfl dX7_mirrors_122 ?_
                refine k_icmplt (tgt := 130) hm dX7_mirrors_123 (by decide) (by omega) (fun c_17 => ?_) (fun c_17 => ?_)
                · refine k_iconstN hm 2 dX7_mirrors_130 ?_
                  refine k_iastN hm hw 4 (wMod G D sa pa pn tx tn rf (nU g i 2) (pm n t) mb so kd nu it ti rd ad) rfl (by omega) rfl dX7_mirrors_131 (fun H locs hw => ?_)
                  refine k_iincN hm hl 7 1 rfl [(5, vN (i + 1)), (7, vN (1)), (6, vN (i)), (0, .ref (D 0)), (1, vN (t)), (2, vN (n)), (3, vN (pd n t)), (4, vN (pm n t / 2))] (by decide) rfl dX7_mirrors_132 (fun ls hl => ?_)
                  refine k_goto (tgt := 40) hm dX7_mirrors_135 (by decide) ?_
                  exact ih_40  (i + 1) (nU g i 2) (by first | assumption | omega) (fun j q => by rcases Nat.lt_or_ge j i with z | z; rw [nU_n (by omega)]; exact hg j z; rw [show j = i by omega, nU_s]; unfold miR mik; rw [hj]; rw [if_neg (by omega)]; unfold pk; rw [if_pos (by omega), if_neg (by omega)]) _ _ _ (by omega) hw (lv_sub hl [3, 4, 5, 6, 7, 0] rfl)
                · refine k_iconstN hm 1 dX7_mirrors_126 ?_
                  refine k_goto (tgt := 131) hm dX7_mirrors_127 (by decide) ?_
                  refine k_iastN hm hw 4 (wMod G D sa pa pn tx tn rf (nU g i 1) (pm n t) mb so kd nu it ti rd ad) rfl (by omega) rfl dX7_mirrors_131 (fun H locs hw => ?_)
                  refine k_iincN hm hl 7 1 rfl [(5, vN (i + 1)), (7, vN (1)), (6, vN (i)), (0, .ref (D 0)), (1, vN (t)), (2, vN (n)), (3, vN (pd n t)), (4, vN (pm n t / 2))] (by decide) rfl dX7_mirrors_132 (fun ls hl => ?_)
                  refine k_goto (tgt := 40) hm dX7_mirrors_135 (by decide) ?_
                  exact ih_40  (i + 1) (nU g i 1) (by first | assumption | omega) (fun j q => by rcases Nat.lt_or_ge j i with z | z; rw [nU_n (by omega)]; exact hg j z; rw [show j = i by omega, nU_s]; unfold miR mik; rw [hj]; rw [if_neg (by omega)]; unfold pk; rw [if_pos (by omega), if_pos (by omega)]) _ _ _ (by omega) hw (lv_sub hl [3, 4, 5, 6, 7, 0] rfl)
            · refine k_iload hm hl 0 rfl dX7_mirrors_79 ?_
              refine k_iload_n hm hl 4 rfl dX7_mirrors_81 ?_
              refine k_iconstN hm 2 dX7_mirrors_82 ?_
              refine k_idivN hm (by omega) dX7_mirrors_83 ?_
              refine k_iload hm hl 5 rfl dX7_mirrors_84 ?_
              refine k_callSr (n := 3) (As := [vN (i), vN ((pd n t) / 2), vN (pm n t / 2)]) (rest := []) hm hw hl (c_m_isShaped l G i ((pd n t) / 2) (pm n t / 2) (by first | assumption | omega)) gX7_mirrors_X7_isShaped rfl (by decide +kernel) ⟨by decide, by decide⟩ [] (by decide) rfl rfl rfl (by simp [Value.category]) ⟨by decide, by decide⟩ dX7_mirrors_86 (fun v H locs hp hw => ?_)
              obtain rfl := hp
              refine W.eq (g2 := F0 m 89 ls [vB (decide (i * ((pd n t) / 2) / (pm n t / 2) < (i + 1) * ((pd n t) / 2) / (pm n t / 2)))]) rfl ?_
              refine k_goto (tgt := 104) hm dX7_mirrors_89 (by decide) ?_
              refine k_istore hm hl [(7, vB (decide (i * ((pd n t) / 2) / (pm n t / 2) < (i + 1) * ((pd n t) / 2) / (pm n t / 2)))), (6, vN (i)), (0, .ref (D 0)), (1, vN (t)), (2, vN (n)), (3, vN (pd n t)), (4, vN (pm n t / 2)), (5, vN (i))] (by decide) rfl dX7_mirrors_104 (fun ls hl => ?_)
              refine k_aload_n hm hl 2 rfl dX7_mirrors_106 ?_
              refine k_get (T := TX7) hm hw 0 6 i7 rfl rfl (by decide) (by decide +kernel) rfl dX7_mirrors_107 ?_
              refine k_iload hm hl 7 rfl dX7_mirrors_110 ?_
              refine k_iload hm hl 0 rfl dX7_mirrors_112 ?_
              refine k_ifneB (tgt := 121) hm dX7_mirrors_114 (by decide) (fun c_19 => ?_) (fun c_19 => ?_)
              · have c_19d := of_decide_eq_true c_19
                have hsp := of_decide_eq_true c_19
                refine k_iload_n hm hl 3 rfl dX7_mirrors_121 ?_
                refine k_iload_n hm hl 4 rfl dX7_mirrors_122 ?_
                refine k_icmplt (tgt := 130) hm dX7_mirrors_123 (by decide) (by omega) (fun c_20 => ?_) (fun c_20 => ?_)
                · refine k_iconstN hm 2 dX7_mirrors_130 ?_
                  refine k_iastN hm hw 4 (wMod G D sa pa pn tx tn rf (nU g i 2) (pm n t) mb so kd nu it ti rd ad) rfl (by omega) rfl dX7_mirrors_131 (fun H locs hw => ?_)
                  refine k_iincN hm hl 7 1 rfl [(5, vN (i + 1)), (7, vB (decide (i * ((pd n t) / 2) / (pm n t / 2) < (i + 1) * ((pd n t) / 2) / (pm n t / 2)))), (6, vN (i)), (0, .ref (D 0)), (1, vN (t)), (2, vN (n)), (3, vN (pd n t)), (4, vN (pm n t / 2))] (by decide) rfl dX7_mirrors_132 (fun ls hl => ?_)
                  refine k_goto (tgt := 40) hm dX7_mirrors_135 (by decide) ?_
                  exact ih_40  (i + 1) (nU g i 2) (by first | assumption | omega) (fun j q => by rcases Nat.lt_or_ge j i with z | z; rw [nU_n (by omega)]; exact hg j z; rw [show j = i by omega, nU_s]; unfold miR mik; rw [hj]; rw [if_pos (by omega)]; unfold spk pk; rw [if_pos hsp, if_neg (by omega)]) _ _ _ (by omega) hw (lv_sub hl [3, 4, 5, 6, 7, 0] rfl)
                · refine k_iconstN hm 1 dX7_mirrors_126 ?_
                  refine k_goto (tgt := 131) hm dX7_mirrors_127 (by decide) ?_
                  refine k_iastN hm hw 4 (wMod G D sa pa pn tx tn rf (nU g i 1) (pm n t) mb so kd nu it ti rd ad) rfl (by omega) rfl dX7_mirrors_131 (fun H locs hw => ?_)
                  refine k_iincN hm hl 7 1 rfl [(5, vN (i + 1)), (7, vB (decide (i * ((pd n t) / 2) / (pm n t / 2) < (i + 1) * ((pd n t) / 2) / (pm n t / 2)))), (6, vN (i)), (0, .ref (D 0)), (1, vN (t)), (2, vN (n)), (3, vN (pd n t)), (4, vN (pm n t / 2))] (by decide) rfl dX7_mirrors_132 (fun ls hl => ?_)
                  refine k_goto (tgt := 40) hm dX7_mirrors_135 (by decide) ?_
                  exact ih_40  (i + 1) (nU g i 1) (by first | assumption | omega) (fun j q => by rcases Nat.lt_or_ge j i with z | z; rw [nU_n (by omega)]; exact hg j z; rw [show j = i by omega, nU_s]; unfold miR mik; rw [hj]; rw [if_pos (by omega)]; unfold spk pk; rw [if_pos hsp, if_pos (by omega)]) _ _ _ (by omega) hw (lv_sub hl [3, 4, 5, 6, 7, 0] rfl)
              · have c_19d := of_decide_eq_false c_19
                have hsp := of_decide_eq_false c_19
                refine k_iconstN hm 0 dX7_mirrors_117 ?_
                refine k_goto (tgt := 131) hm dX7_mirrors_118 (by decide) ?_
                refine k_iastN hm hw 4 (wMod G D sa pa pn tx tn rf (nU g i 0) (pm n t) mb so kd nu it ti rd ad) rfl (by omega) rfl dX7_mirrors_131 (fun H locs hw => ?_)
                refine k_iincN hm hl 7 1 rfl [(5, vN (i + 1)), (7, vB (decide (i * ((pd n t) / 2) / (pm n t / 2) < (i + 1) * ((pd n t) / 2) / (pm n t / 2)))), (6, vN (i)), (0, .ref (D 0)), (1, vN (t)), (2, vN (n)), (3, vN (pd n t)), (4, vN (pm n t / 2))] (by decide) rfl dX7_mirrors_132 (fun ls hl => ?_)
                refine k_goto (tgt := 40) hm dX7_mirrors_135 (by decide) ?_
                exact ih_40  (i + 1) (nU g i 0) (by first | assumption | omega) (fun j q => by rcases Nat.lt_or_ge j i with z | z; rw [nU_n (by omega)]; exact hg j z; rw [show j = i by omega, nU_s]; unfold miR mik; rw [hj]; rw [if_pos (by omega)]; unfold spk pk; rw [if_neg hsp]) _ _ _ (by omega) hw (lv_sub hl [3, 4, 5, 6, 7, 0] rfl)
    exact loop_40 (pm n t - 0 + 1) 0 ro (by first | assumption | omega) (fun i q => absurd q (by omega)) _ _ _ (Nat.lt_succ_self _) hw (lv_sub hl [3, 4, 5, 2, 1, 0] rfl)
  · refine k_iload_n hm hl 2 rfl dX7_mirrors_6 ?_
    refine k_goto (tgt := 11) hm dX7_mirrors_7 (by decide) ?_
    refine k_rwV (y := vN (pm n t)) (by unfold pm; rw [if_pos (by omega)]) ?_
    refine k_put (T := TX7) hm hw 0 7 (wMod G D sa pa pn tx tn rf ro (pm n t) mb so kd nu it ti rd ad) i7 tyX7 tyX7_ok nmX7 rfl rfl (by decide) (by decide +kernel) rfl (tyX7_ok 7 (by decide)) rfl rfl (Nat.le_of_ble_eq_true rfl) rfl dX7_mirrors_11 (fun H locs hw => ?_)
    refine k_iload_n hm hl 1 rfl dX7_mirrors_14 ?_
    refine k_iload_n hm hl 2 rfl dX7_mirrors_15 ?_
    refine k_icmplt (tgt := 25) hm dX7_mirrors_16 (by decide) (by omega) (fun c_21 => absurd c_21 (by omega)) (fun c_21 => ?_)
    refine k_iload_n hm hl 1 rfl dX7_mirrors_19 ?_
    refine k_iload_n hm hl 2 rfl dX7_mirrors_20 ?_
    refine k_isubN hm (by omega) dX7_mirrors_21 ?_
    refine k_goto (tgt := 28) hm dX7_mirrors_22 (by decide) ?_
    refine k_rwV (y := vN (pd n t)) (by unfold pd; rw [if_pos (by omega)]) ?_
    refine k_istore_n hm hl [(3, vN (pd n t)), (0, .ref (D 0)), (1, vN (t)), (2, vN (n))] (by decide) rfl dX7_mirrors_28 (fun ls hl => ?_)
    refine k_aload_n hm hl 1 rfl dX7_mirrors_29 ?_
    refine k_get (T := TX7) hm hw 0 7 i7 rfl rfl (by decide) (by decide +kernel) rfl dX7_mirrors_30 ?_
    refine k_iconstN hm 2 dX7_mirrors_33 ?_
    refine k_idivN hm (by omega) dX7_mirrors_34 ?_
    refine k_istore hm hl [(4, vN ((pm n t) / 2)), (3, vN (pd n t)), (0, .ref (D 0)), (1, vN (t)), (2, vN (n))] (by decide) rfl dX7_mirrors_35 (fun ls hl => ?_)
    refine k_iconstN hm 0 dX7_mirrors_37 ?_
    refine k_istore hm hl [(5, vN (0)), (4, vN ((pm n t) / 2)), (3, vN (pd n t)), (0, .ref (D 0)), (1, vN (t)), (2, vN (n))] (by decide) rfl dX7_mirrors_38 (fun ls hl => ?_)
    have loop_40 : ∀ (fu : Nat) (i : Nat) (g : Nat → Nat) (hi : i ≤ pm n t) (hg : ∀ j, j < i → g j = miR n t j) (H : Heap) (locs : List Loc) (ls : Array Slot), pm n t - i < fu → kW G A s (wMod G D sa pa pn tx tn rf g (pm n t) mb so kd nu it ti rd ad) H locs → lv_has ls 8 [(0, .ref (D 0)), (1, vN (t)), (2, vN (n)), (3, vN (pd n t)), (4, vN (pm n t / 2)), (5, vN (i))] → W p l e { frames := 1, cells := 0, slots := 0, locals := 22 } s m args below meth c H locs 0 0 Qz (F0 m 40 ls []) := by
      intro fu
      induction fu with
      | zero => intro i g hi hg H locs ls hfu; exact absurd hfu (Nat.not_lt_zero _)
      | succ fu ih_40 =>
        intro i g hi hg H locs ls hfu hw hl
        refine k_iload hm hl 5 rfl dX7_mirrors_40 ?_
        refine k_aload_n hm hl 0 rfl dX7_mirrors_42 ?_
        refine k_get (T := TX7) hm hw 0 7 i7 rfl rfl (by decide) (by decide +kernel) rfl dX7_mirrors_43 ?_
        refine k_icmpge (tgt := 138) hm dX7_mirrors_46 (by decide) (by omega) (fun c_22 => ?_) (fun c_22 => ?_)
        · exact k_vret hm hQ rfl hw (⟨g, rfl, rfl, fun j q => hg j (by omega)⟩) (by omega) (by omega) dX7_mirrors_138
        · refine k_iload hm hl 5 rfl dX7_mirrors_49 ?_
          refine k_iload hm hl 4 rfl dX7_mirrors_51 ?_
          refine k_icmpge (tgt := 61) hm dX7_mirrors_53 (by decide) (by omega) (fun c_23 => ?_) (fun c_23 => ?_)
          · refine k_aload_n hm hl 0 rfl dX7_mirrors_61 ?_
            refine k_get (T := TX7) hm hw 0 7 i7 rfl rfl (by decide) (by decide +kernel) rfl dX7_mirrors_62 ?_
            refine k_iconstN hm 1 dX7_mirrors_65 ?_
            refine k_isubN hm (by omega) dX7_mirrors_66 ?_
            refine k_iload hm hl 5 rfl dX7_mirrors_67 ?_
            refine k_isubN hm (by omega) dX7_mirrors_69 ?_
            refine k_istore hm hl [(6, vN (((pm n t) - 1) - i)), (0, .ref (D 0)), (1, vN (t)), (2, vN (n)), (3, vN (pd n t)), (4, vN (pm n t / 2)), (5, vN (i))] (by decide) rfl dX7_mirrors_70 (fun ls hl => ?_)
            have hj : (if i < pm n t / 2 then i else pm n t - 1 - i) = ((pm n t) - 1) - i := by rw [if_neg (by omega)]
            refine k_iload hm hl 0 rfl dX7_mirrors_72 ?_
            refine k_iload hm hl 5 rfl dX7_mirrors_74 ?_
            refine k_icmpge (tgt := 92) hm dX7_mirrors_76 (by decide) (by omega) (fun c_24 => ?_) (fun c_24 => ?_)
            · refine k_iload_n hm hl 4 rfl dX7_mirrors_92 ?_
              refine k_iconstN hm 2 dX7_mirrors_93 ?_
              refine k_iremN hm (by omega) dX7_mirrors_94 ?_
              refine k_iconstN hm 1 dX7_mirrors_95 ?_
              refine k_icmpne (tgt := 103) hm dX7_mirrors_96 (by decide) (by omega) (fun c_25 => ?_) (fun c_25 => ?_)
              · refine k_iconstN hm 0 dX7_mirrors_103 ?_
                refine k_istore hm hl [(7, vN (0)), (6, vN (((pm n t) - 1) - i)), (0, .ref (D 0)), (1, vN (t)), (2, vN (n)), (3, vN (pd n t)), (4, vN (pm n t / 2)), (5, vN (i))] (by decide) rfl dX7_mirrors_104 (fun ls hl => ?_)
                refine k_aload_n hm hl 2 rfl dX7_mirrors_106 ?_
                refine k_get (T := TX7) hm hw 0 6 i7 rfl rfl (by decide) (by decide +kernel) rfl dX7_mirrors_107 ?_
                refine k_iload hm hl 7 rfl dX7_mirrors_110 ?_
                refine k_iload hm hl 0 rfl dX7_mirrors_112 ?_
                refine k_ifne (tgt := 121) hm dX7_mirrors_114 (by decide) (by omega) (fun c_26 => absurd c_26 (by omega)) (fun c_26 => ?_)
                refine k_iconstN hm 0 dX7_mirrors_117 ?_
                refine k_goto (tgt := 131) hm dX7_mirrors_118 (by decide) ?_
                refine k_iastN hm hw 4 (wMod G D sa pa pn tx tn rf (nU g i 0) (pm n t) mb so kd nu it ti rd ad) rfl (by omega) rfl dX7_mirrors_131 (fun H locs hw => ?_)
                refine k_iincN hm hl 7 1 rfl [(5, vN (i + 1)), (7, vN (0)), (6, vN (((pm n t) - 1) - i)), (0, .ref (D 0)), (1, vN (t)), (2, vN (n)), (3, vN (pd n t)), (4, vN (pm n t / 2))] (by decide) rfl dX7_mirrors_132 (fun ls hl => ?_)
                refine k_goto (tgt := 40) hm dX7_mirrors_135 (by decide) ?_
                exact ih_40  (i + 1) (nU g i 0) (by first | assumption | omega) (fun j q => by rcases Nat.lt_or_ge j i with z | z; rw [nU_n (by omega)]; exact hg j z; rw [show j = i by omega, nU_s]; unfold miR mik; rw [hj]; rw [if_neg (by omega)]; rw [if_neg (by omega)]) _ _ _ (by omega) hw (lv_sub hl [3, 4, 5, 6, 7, 0] rfl)
              · refine k_iconstN hm 1 dX7_mirrors_99 ?_
                refine k_goto (tgt := 104) hm dX7_mirrors_100 (by decide) ?_
                refine k_istore hm hl [(7, vN (1)), (6, vN (((pm n t) - 1) - i)), (0, .ref (D 0)), (1, vN (t)), (2, vN (n)), (3, vN (pd n t)), (4, vN (pm n t / 2)), (5, vN (i))] (by decide) rfl dX7_mirrors_104 (fun ls hl => ?_)
                refine k_aload_n hm hl 2 rfl dX7_mirrors_106 ?_
                refine k_get (T := TX7) hm hw 0 6 i7 rfl rfl (by decide) (by decide +kernel) rfl dX7_mirrors_107 ?_
                refine k_iload hm hl 7 rfl dX7_mirrors_110 ?_
                refine k_iload hm hl 0 rfl dX7_mirrors_112 ?_
                refine k_ifne (tgt := 121) hm dX7_mirrors_114 (by decide) (by omega) (fun c_27 => ?_) (fun c_27 => absurd c_27 (by omega))
                refine k_iload_n hm hl 3 rfl dX7_mirrors_121 ?_
                refine k_iload_n hm hl 4 rfl dX7_mirrors_122 ?_
                refine k_icmplt (tgt := 130) hm dX7_mirrors_123 (by decide) (by omega) (fun c_28 => ?_) (fun c_28 => ?_)
                · refine k_iconstN hm 2 dX7_mirrors_130 ?_
                  refine k_iastN hm hw 4 (wMod G D sa pa pn tx tn rf (nU g i 2) (pm n t) mb so kd nu it ti rd ad) rfl (by omega) rfl dX7_mirrors_131 (fun H locs hw => ?_)
                  refine k_iincN hm hl 7 1 rfl [(5, vN (i + 1)), (7, vN (1)), (6, vN (((pm n t) - 1) - i)), (0, .ref (D 0)), (1, vN (t)), (2, vN (n)), (3, vN (pd n t)), (4, vN (pm n t / 2))] (by decide) rfl dX7_mirrors_132 (fun ls hl => ?_)
                  refine k_goto (tgt := 40) hm dX7_mirrors_135 (by decide) ?_
                  exact ih_40  (i + 1) (nU g i 2) (by first | assumption | omega) (fun j q => by rcases Nat.lt_or_ge j i with z | z; rw [nU_n (by omega)]; exact hg j z; rw [show j = i by omega, nU_s]; unfold miR mik; rw [hj]; rw [if_neg (by omega)]; unfold pk; rw [if_pos (by omega), if_neg (by omega)]) _ _ _ (by omega) hw (lv_sub hl [3, 4, 5, 6, 7, 0] rfl)
                · refine k_iconstN hm 1 dX7_mirrors_126 ?_
                  refine k_goto (tgt := 131) hm dX7_mirrors_127 (by decide) ?_
                  refine k_iastN hm hw 4 (wMod G D sa pa pn tx tn rf (nU g i 1) (pm n t) mb so kd nu it ti rd ad) rfl (by omega) rfl dX7_mirrors_131 (fun H locs hw => ?_)
                  refine k_iincN hm hl 7 1 rfl [(5, vN (i + 1)), (7, vN (1)), (6, vN (((pm n t) - 1) - i)), (0, .ref (D 0)), (1, vN (t)), (2, vN (n)), (3, vN (pd n t)), (4, vN (pm n t / 2))] (by decide) rfl dX7_mirrors_132 (fun ls hl => ?_)
                  refine k_goto (tgt := 40) hm dX7_mirrors_135 (by decide) ?_
                  exact ih_40  (i + 1) (nU g i 1) (by first | assumption | omega) (fun j q => by rcases Nat.lt_or_ge j i with z | z; rw [nU_n (by omega)]; exact hg j z; rw [show j = i by omega, nU_s]; unfold miR mik; rw [hj]; rw [if_neg (by omega)]; unfold pk; rw [if_pos (by omega), if_pos (by omega)]) _ _ _ (by omega) hw (lv_sub hl [3, 4, 5, 6, 7, 0] rfl)
            · refine k_iload hm hl 0 rfl dX7_mirrors_79 ?_
              refine k_iload_n hm hl 4 rfl dX7_mirrors_81 ?_
              refine k_iconstN hm 2 dX7_mirrors_82 ?_
              refine k_idivN hm (by omega) dX7_mirrors_83 ?_
              refine k_iload hm hl 5 rfl dX7_mirrors_84 ?_
              refine k_callSr (n := 3) (As := [vN (((pm n t) - 1) - i), vN ((pd n t) / 2), vN (pm n t / 2)]) (rest := []) hm hw hl (c_m_isShaped l G (((pm n t) - 1) - i) ((pd n t) / 2) (pm n t / 2) (by first | assumption | omega)) gX7_mirrors_X7_isShaped rfl (by decide +kernel) ⟨by decide, by decide⟩ [] (by decide) rfl rfl rfl (by simp [Value.category]) ⟨by decide, by decide⟩ dX7_mirrors_86 (fun v H locs hp hw => ?_)
              obtain rfl := hp
              refine W.eq (g2 := F0 m 89 ls [vB (decide ((((pm n t) - 1) - i) * ((pd n t) / 2) / (pm n t / 2) < ((((pm n t) - 1) - i) + 1) * ((pd n t) / 2) / (pm n t / 2)))]) rfl ?_
              refine k_goto (tgt := 104) hm dX7_mirrors_89 (by decide) ?_
              refine k_istore hm hl [(7, vB (decide ((((pm n t) - 1) - i) * ((pd n t) / 2) / (pm n t / 2) < ((((pm n t) - 1) - i) + 1) * ((pd n t) / 2) / (pm n t / 2)))), (6, vN (((pm n t) - 1) - i)), (0, .ref (D 0)), (1, vN (t)), (2, vN (n)), (3, vN (pd n t)), (4, vN (pm n t / 2)), (5, vN (i))] (by decide) rfl dX7_mirrors_104 (fun ls hl => ?_)
              refine k_aload_n hm hl 2 rfl dX7_mirrors_106 ?_
              refine k_get (T := TX7) hm hw 0 6 i7 rfl rfl (by decide) (by decide +kernel) rfl dX7_mirrors_107 ?_
              refine k_iload hm hl 7 rfl dX7_mirrors_110 ?_
              refine k_iload hm hl 0 rfl dX7_mirrors_112 ?_
              refine k_ifneB (tgt := 121) hm dX7_mirrors_114 (by decide) (fun c_30 => ?_) (fun c_30 => ?_)
              · have c_30d := of_decide_eq_true c_30
                have hsp := of_decide_eq_true c_30
                refine k_iload_n hm hl 3 rfl dX7_mirrors_121 ?_
                refine k_iload_n hm hl 4 rfl dX7_mirrors_122 ?_
                refine k_icmplt (tgt := 130) hm dX7_mirrors_123 (by decide) (by omega) (fun c_31 => ?_) (fun c_31 => ?_)
                · refine k_iconstN hm 2 dX7_mirrors_130 ?_
                  refine k_iastN hm hw 4 (wMod G D sa pa pn tx tn rf (nU g i 2) (pm n t) mb so kd nu it ti rd ad) rfl (by omega) rfl dX7_mirrors_131 (fun H locs hw => ?_)
                  refine k_iincN hm hl 7 1 rfl [(5, vN (i + 1)), (7, vB (decide ((((pm n t) - 1) - i) * ((pd n t) / 2) / (pm n t / 2) < ((((pm n t) - 1) - i) + 1) * ((pd n t) / 2) / (pm n t / 2)))), (6, vN (((pm n t) - 1) - i)), (0, .ref (D 0)), (1, vN (t)), (2, vN (n)), (3, vN (pd n t)), (4, vN (pm n t / 2))] (by decide) rfl dX7_mirrors_132 (fun ls hl => ?_)
                  refine k_goto (tgt := 40) hm dX7_mirrors_135 (by decide) ?_
                  exact ih_40  (i + 1) (nU g i 2) (by first | assumption | omega) (fun j q => by rcases Nat.lt_or_ge j i with z | z; rw [nU_n (by omega)]; exact hg j z; rw [show j = i by omega, nU_s]; unfold miR mik; rw [hj]; rw [if_pos (by omega)]; unfold spk pk; rw [if_pos hsp, if_neg (by omega)]) _ _ _ (by omega) hw (lv_sub hl [3, 4, 5, 6, 7, 0] rfl)
                · refine k_iconstN hm 1 dX7_mirrors_126 ?_
                  refine k_goto (tgt := 131) hm dX7_mirrors_127 (by decide) ?_
                  refine k_iastN hm hw 4 (wMod G D sa pa pn tx tn rf (nU g i 1) (pm n t) mb so kd nu it ti rd ad) rfl (by omega) rfl dX7_mirrors_131 (fun H locs hw => ?_)
                  refine k_iincN hm hl 7 1 rfl [(5, vN (i + 1)), (7, vB (decide ((((pm n t) - 1) - i) * ((pd n t) / 2) / (pm n t / 2) < ((((pm n t) - 1) - i) + 1) * ((pd n t) / 2) / (pm n t / 2)))), (6, vN (((pm n t) - 1) - i)), (0, .ref (D 0)), (1, vN (t)), (2, vN (n)), (3, vN (pd n t)), (4, vN (pm n t / 2))] (by decide) rfl dX7_mirrors_132 (fun ls hl => ?_)
                  refine k_goto (tgt := 40) hm dX7_mirrors_135 (by decide) ?_
                  exact ih_40  (i + 1) (nU g i 1) (by first | assumption | omega) (fun j q => by rcases Nat.lt_or_ge j i with z | z; rw [nU_n (by omega)]; exact hg j z; rw [show j = i by omega, nU_s]; unfold miR mik; rw [hj]; rw [if_pos (by omega)]; unfold spk pk; rw [if_pos hsp, if_pos (by omega)]) _ _ _ (by omega) hw (lv_sub hl [3, 4, 5, 6, 7, 0] rfl)
              · have c_30d := of_decide_eq_false c_30
                have hsp := of_decide_eq_false c_30
                refine k_iconstN hm 0 dX7_mirrors_117 ?_
                refine k_goto (tgt := 131) hm dX7_mirrors_118 (by decide) ?_
                refine k_iastN hm hw 4 (wMod G D sa pa pn tx tn rf (nU g i 0) (pm n t) mb so kd nu it ti rd ad) rfl (by omega) rfl dX7_mirrors_131 (fun H locs hw => ?_)
                refine k_iincN hm hl 7 1 rfl [(5, vN (i + 1)), (7, vB (decide ((((pm n t) - 1) - i) * ((pd n t) / 2) / (pm n t / 2) < ((((pm n t) - 1) - i) + 1) * ((pd n t) / 2) / (pm n t / 2)))), (6, vN (((pm n t) - 1) - i)), (0, .ref (D 0)), (1, vN (t)), (2, vN (n)), (3, vN (pd n t)), (4, vN (pm n t / 2))] (by decide) rfl dX7_mirrors_132 (fun ls hl => ?_)
                refine k_goto (tgt := 40) hm dX7_mirrors_135 (by decide) ?_
                exact ih_40  (i + 1) (nU g i 0) (by first | assumption | omega) (fun j q => by rcases Nat.lt_or_ge j i with z | z; rw [nU_n (by omega)]; exact hg j z; rw [show j = i by omega, nU_s]; unfold miR mik; rw [hj]; rw [if_pos (by omega)]; unfold spk pk; rw [if_neg hsp]) _ _ _ (by omega) hw (lv_sub hl [3, 4, 5, 6, 7, 0] rfl)
          · refine k_iload hm hl 5 rfl dX7_mirrors_56 ?_
            refine k_goto (tgt := 70) hm dX7_mirrors_58 (by decide) ?_
            refine k_istore hm hl [(6, vN (i)), (0, .ref (D 0)), (1, vN (t)), (2, vN (n)), (3, vN (pd n t)), (4, vN (pm n t / 2)), (5, vN (i))] (by decide) rfl dX7_mirrors_70 (fun ls hl => ?_)
            have hj : (if i < pm n t / 2 then i else pm n t - 1 - i) = i := by rw [if_pos (by omega)]
            refine k_iload hm hl 0 rfl dX7_mirrors_72 ?_
            refine k_iload hm hl 5 rfl dX7_mirrors_74 ?_
            refine k_icmpge (tgt := 92) hm dX7_mirrors_76 (by decide) (by omega) (fun c_32 => ?_) (fun c_32 => ?_)
            · refine k_iload_n hm hl 4 rfl dX7_mirrors_92 ?_
              refine k_iconstN hm 2 dX7_mirrors_93 ?_
              refine k_iremN hm (by omega) dX7_mirrors_94 ?_
              refine k_iconstN hm 1 dX7_mirrors_95 ?_
              refine k_icmpne (tgt := 103) hm dX7_mirrors_96 (by decide) (by omega) (fun c_33 => ?_) (fun c_33 => ?_)
              · refine k_iconstN hm 0 dX7_mirrors_103 ?_
                refine k_istore hm hl [(7, vN (0)), (6, vN (i)), (0, .ref (D 0)), (1, vN (t)), (2, vN (n)), (3, vN (pd n t)), (4, vN (pm n t / 2)), (5, vN (i))] (by decide) rfl dX7_mirrors_104 (fun ls hl => ?_)
                refine k_aload_n hm hl 2 rfl dX7_mirrors_106 ?_
                refine k_get (T := TX7) hm hw 0 6 i7 rfl rfl (by decide) (by decide +kernel) rfl dX7_mirrors_107 ?_
                refine k_iload hm hl 7 rfl dX7_mirrors_110 ?_
                refine k_iload hm hl 0 rfl dX7_mirrors_112 ?_
                refine k_ifne (tgt := 121) hm dX7_mirrors_114 (by decide) (by omega) (fun c_34 => absurd c_34 (by omega)) (fun c_34 => ?_)
                refine k_iconstN hm 0 dX7_mirrors_117 ?_
                refine k_goto (tgt := 131) hm dX7_mirrors_118 (by decide) ?_
                refine k_iastN hm hw 4 (wMod G D sa pa pn tx tn rf (nU g i 0) (pm n t) mb so kd nu it ti rd ad) rfl (by omega) rfl dX7_mirrors_131 (fun H locs hw => ?_)
                refine k_iincN hm hl 7 1 rfl [(5, vN (i + 1)), (7, vN (0)), (6, vN (i)), (0, .ref (D 0)), (1, vN (t)), (2, vN (n)), (3, vN (pd n t)), (4, vN (pm n t / 2))] (by decide) rfl dX7_mirrors_132 (fun ls hl => ?_)
                refine k_goto (tgt := 40) hm dX7_mirrors_135 (by decide) ?_
                exact ih_40  (i + 1) (nU g i 0) (by first | assumption | omega) (fun j q => by rcases Nat.lt_or_ge j i with z | z; rw [nU_n (by omega)]; exact hg j z; rw [show j = i by omega, nU_s]; unfold miR mik; rw [hj]; rw [if_neg (by omega)]; rw [if_neg (by omega)]) _ _ _ (by omega) hw (lv_sub hl [3, 4, 5, 6, 7, 0] rfl)
              · refine k_iconstN hm 1 dX7_mirrors_99 ?_
                refine k_goto (tgt := 104) hm dX7_mirrors_100 (by decide) ?_
                refine k_istore hm hl [(7, vN (1)), (6, vN (i)), (0, .ref (D 0)), (1, vN (t)), (2, vN (n)), (3, vN (pd n t)), (4, vN (pm n t / 2)), (5, vN (i))] (by decide) rfl dX7_mirrors_104 (fun ls hl => ?_)
                refine k_aload_n hm hl 2 rfl dX7_mirrors_106 ?_
                refine k_get (T := TX7) hm hw 0 6 i7 rfl rfl (by decide) (by decide +kernel) rfl dX7_mirrors_107 ?_
                refine k_iload hm hl 7 rfl dX7_mirrors_110 ?_
                refine k_iload hm hl 0 rfl dX7_mirrors_112 ?_
                refine k_ifne (tgt := 121) hm dX7_mirrors_114 (by decide) (by omega) (fun c_35 => ?_) (fun c_35 => absurd c_35 (by omega))
                refine k_iload_n hm hl 3 rfl dX7_mirrors_121 ?_
                refine k_iload_n hm hl 4 rfl dX7_mirrors_122 ?_
                refine k_icmplt (tgt := 130) hm dX7_mirrors_123 (by decide) (by omega) (fun c_36 => ?_) (fun c_36 => ?_)
                · refine k_iconstN hm 2 dX7_mirrors_130 ?_
                  refine k_iastN hm hw 4 (wMod G D sa pa pn tx tn rf (nU g i 2) (pm n t) mb so kd nu it ti rd ad) rfl (by omega) rfl dX7_mirrors_131 (fun H locs hw => ?_)
                  refine k_iincN hm hl 7 1 rfl [(5, vN (i + 1)), (7, vN (1)), (6, vN (i)), (0, .ref (D 0)), (1, vN (t)), (2, vN (n)), (3, vN (pd n t)), (4, vN (pm n t / 2))] (by decide) rfl dX7_mirrors_132 (fun ls hl => ?_)
                  refine k_goto (tgt := 40) hm dX7_mirrors_135 (by decide) ?_
                  exact ih_40  (i + 1) (nU g i 2) (by first | assumption | omega) (fun j q => by rcases Nat.lt_or_ge j i with z | z; rw [nU_n (by omega)]; exact hg j z; rw [show j = i by omega, nU_s]; unfold miR mik; rw [hj]; rw [if_neg (by omega)]; unfold pk; rw [if_pos (by omega), if_neg (by omega)]) _ _ _ (by omega) hw (lv_sub hl [3, 4, 5, 6, 7, 0] rfl)
                · refine k_iconstN hm 1 dX7_mirrors_126 ?_
                  refine k_goto (tgt := 131) hm dX7_mirrors_127 (by decide) ?_
                  refine k_iastN hm hw 4 (wMod G D sa pa pn tx tn rf (nU g i 1) (pm n t) mb so kd nu it ti rd ad) rfl (by omega) rfl dX7_mirrors_131 (fun H locs hw => ?_)
                  refine k_iincN hm hl 7 1 rfl [(5, vN (i + 1)), (7, vN (1)), (6, vN (i)), (0, .ref (D 0)), (1, vN (t)), (2, vN (n)), (3, vN (pd n t)), (4, vN (pm n t / 2))] (by decide) rfl dX7_mirrors_132 (fun ls hl => ?_)
                  refine k_goto (tgt := 40) hm dX7_mirrors_135 (by decide) ?_
                  exact ih_40  (i + 1) (nU g i 1) (by first | assumption | omega) (fun j q => by rcases Nat.lt_or_ge j i with z | z; rw [nU_n (by omega)]; exact hg j z; rw [show j = i by omega, nU_s]; unfold miR mik; rw [hj]; rw [if_neg (by omega)]; unfold pk; rw [if_pos (by omega), if_pos (by omega)]) _ _ _ (by omega) hw (lv_sub hl [3, 4, 5, 6, 7, 0] rfl)
            · refine k_iload hm hl 0 rfl dX7_mirrors_79 ?_
              refine k_iload_n hm hl 4 rfl dX7_mirrors_81 ?_
              refine k_iconstN hm 2 dX7_mirrors_82 ?_
              refine k_idivN hm (by omega) dX7_mirrors_83 ?_
              refine k_iload hm hl 5 rfl dX7_mirrors_84 ?_
              refine k_callSr (n := 3) (As := [vN (i), vN ((pd n t) / 2), vN (pm n t / 2)]) (rest := []) hm hw hl (c_m_isShaped l G i ((pd n t) / 2) (pm n t / 2) (by first | assumption | omega)) gX7_mirrors_X7_isShaped rfl (by decide +kernel) ⟨by decide, by decide⟩ [] (by decide) rfl rfl rfl (by simp [Value.category]) ⟨by decide, by decide⟩ dX7_mirrors_86 (fun v H locs hp hw => ?_)
              obtain rfl := hp
              refine W.eq (g2 := F0 m 89 ls [vB (decide (i * ((pd n t) / 2) / (pm n t / 2) < (i + 1) * ((pd n t) / 2) / (pm n t / 2)))]) rfl ?_
              refine k_goto (tgt := 104) hm dX7_mirrors_89 (by decide) ?_
              refine k_istore hm hl [(7, vB (decide (i * ((pd n t) / 2) / (pm n t / 2) < (i + 1) * ((pd n t) / 2) / (pm n t / 2)))), (6, vN (i)), (0, .ref (D 0)), (1, vN (t)), (2, vN (n)), (3, vN (pd n t)), (4, vN (pm n t / 2)), (5, vN (i))] (by decide) rfl dX7_mirrors_104 (fun ls hl => ?_)
              refine k_aload_n hm hl 2 rfl dX7_mirrors_106 ?_
              refine k_get (T := TX7) hm hw 0 6 i7 rfl rfl (by decide) (by decide +kernel) rfl dX7_mirrors_107 ?_
              refine k_iload hm hl 7 rfl dX7_mirrors_110 ?_
              refine k_iload hm hl 0 rfl dX7_mirrors_112 ?_
              refine k_ifneB (tgt := 121) hm dX7_mirrors_114 (by decide) (fun c_38 => ?_) (fun c_38 => ?_)
              · have c_38d := of_decide_eq_true c_38
                have hsp := of_decide_eq_true c_38
                refine k_iload_n hm hl 3 rfl dX7_mirrors_121 ?_
                refine k_iload_n hm hl 4 rfl dX7_mirrors_122 ?_
                refine k_icmplt (tgt := 130) hm dX7_mirrors_123 (by decide) (by omega) (fun c_39 => ?_) (fun c_39 => ?_)
                · refine k_iconstN hm 2 dX7_mirrors_130 ?_
                  refine k_iastN hm hw 4 (wMod G D sa pa pn tx tn rf (nU g i 2) (pm n t) mb so kd nu it ti rd ad) rfl (by omega) rfl dX7_mirrors_131 (fun H locs hw => ?_)
                  refine k_iincN hm hl 7 1 rfl [(5, vN (i + 1)), (7, vB (decide (i * ((pd n t) / 2) / (pm n t / 2) < (i + 1) * ((pd n t) / 2) / (pm n t / 2)))), (6, vN (i)), (0, .ref (D 0)), (1, vN (t)), (2, vN (n)), (3, vN (pd n t)), (4, vN (pm n t / 2))] (by decide) rfl dX7_mirrors_132 (fun ls hl => ?_)
                  refine k_goto (tgt := 40) hm dX7_mirrors_135 (by decide) ?_
                  exact ih_40  (i + 1) (nU g i 2) (by first | assumption | omega) (fun j q => by rcases Nat.lt_or_ge j i with z | z; rw [nU_n (by omega)]; exact hg j z; rw [show j = i by omega, nU_s]; unfold miR mik; rw [hj]; rw [if_pos (by omega)]; unfold spk pk; rw [if_pos hsp, if_neg (by omega)]) _ _ _ (by omega) hw (lv_sub hl [3, 4, 5, 6, 7, 0] rfl)
                · refine k_iconstN hm 1 dX7_mirrors_126 ?_
                  refine k_goto (tgt := 131) hm dX7_mirrors_127 (by decide) ?_
                  refine k_iastN hm hw 4 (wMod G D sa pa pn tx tn rf (nU g i 1) (pm n t) mb so kd nu it ti rd ad) rfl (by omega) rfl dX7_mirrors_131 (fun H locs hw => ?_)
                  refine k_iincN hm hl 7 1 rfl [(5, vN (i + 1)), (7, vB (decide (i * ((pd n t) / 2) / (pm n t / 2) < (i + 1) * ((pd n t) / 2) / (pm n t / 2)))), (6, vN (i)), (0, .ref (D 0)), (1, vN (t)), (2, vN (n)), (3, vN (pd n t)), (4, vN (pm n t / 2))] (by decide) rfl dX7_mirrors_132 (fun ls hl => ?_)
                  refine k_goto (tgt := 40) hm dX7_mirrors_135 (by decide) ?_
                  exact ih_40  (i + 1) (nU g i 1) (by first | assumption | omega) (fun j q => by rcases Nat.lt_or_ge j i with z | z; rw [nU_n (by omega)]; exact hg j z; rw [show j = i by omega, nU_s]; unfold miR mik; rw [hj]; rw [if_pos (by omega)]; unfold spk pk; rw [if_pos hsp, if_pos (by omega)]) _ _ _ (by omega) hw (lv_sub hl [3, 4, 5, 6, 7, 0] rfl)
              · have c_38d := of_decide_eq_false c_38
                have hsp := of_decide_eq_false c_38
                refine k_iconstN hm 0 dX7_mirrors_117 ?_
                refine k_goto (tgt := 131) hm dX7_mirrors_118 (by decide) ?_
                refine k_iastN hm hw 4 (wMod G D sa pa pn tx tn rf (nU g i 0) (pm n t) mb so kd nu it ti rd ad) rfl (by omega) rfl dX7_mirrors_131 (fun H locs hw => ?_)
                refine k_iincN hm hl 7 1 rfl [(5, vN (i + 1)), (7, vB (decide (i * ((pd n t) / 2) / (pm n t / 2) < (i + 1) * ((pd n t) / 2) / (pm n t / 2)))), (6, vN (i)), (0, .ref (D 0)), (1, vN (t)), (2, vN (n)), (3, vN (pd n t)), (4, vN (pm n t / 2))] (by decide) rfl dX7_mirrors_132 (fun ls hl => ?_)
                refine k_goto (tgt := 40) hm dX7_mirrors_135 (by decide) ?_
                exact ih_40  (i + 1) (nU g i 0) (by first | assumption | omega) (fun j q => by rcases Nat.lt_or_ge j i with z | z; rw [nU_n (by omega)]; exact hg j z; rw [show j = i by omega, nU_s]; unfold miR mik; rw [hj]; rw [if_pos (by omega)]; unfold spk pk; rw [if_neg hsp]) _ _ _ (by omega) hw (lv_sub hl [3, 4, 5, 6, 7, 0] rfl)
    exact loop_40 (pm n t - 0 + 1) 0 ro (by first | assumption | omega) (fun i q => absurd q (by omega)) _ _ _ (Nat.lt_succ_self _) hw (lv_sub hl [3, 4, 5, 2, 1, 0] rfl)
