def fK (cc : Nat → Nat) (m k : Nat) : Nat := (k / m) * cS cc m + cS cc (k % m)
theorem fK_nx {cc : Nat → Nat} {m k : Nat} (hm : 1 ≤ m) : fK cc m (k + 1) = fK cc m k + cc (k % m) := by
  have e := Nat.div_add_mod k m
  have hb := Nat.mod_lt k (show 0 < m by omega)
  have e1 : (k + 1) / m = k / m + (k % m + 1) / m := by
    conv => lhs; rw [← e, Nat.add_assoc, Nat.mul_add_div (by omega)]
  have e2 : (k + 1) % m = (k % m + 1) % m := (Nat.mod_add_mod k m 1).symm
  unfold fK
  rw [e1, e2]
  by_cases q : k % m + 1 = m
  · have e4 : cS cc (k % m + 1) = cS cc (k % m) + cc (k % m) := rfl
    have e3 : cS cc m = cS cc (k % m) + cc (k % m) := by rw [q] at e4; exact e4
    rw [q, Nat.div_self (by omega), Nat.mod_self, Nat.add_mul, Nat.one_mul]
    simp only [cS]; omega
  · rw [Nat.div_eq_of_lt (show k % m + 1 < m by omega), Nat.mod_eq_of_lt (show k % m + 1 < m by omega)]
    simp only [cS, Nat.add_zero]; omega
theorem fK_le {cc : Nat → Nat} {m k t : Nat} (hm : 1 ≤ m) (h : k < t * m) : fK cc m k + cc (k % m) ≤ t * cS cc m := by
  have hb := Nat.mod_lt k (show 0 < m by omega)
  have ha : k / m < t := Nat.div_lt_of_lt_mul (by rw [Nat.mul_comm]; exact h)
  have h1 := cS_mono (cc := cc) (show k % m + 1 ≤ m by omega)
  have e : cS cc (k % m + 1) = cS cc (k % m) + cc (k % m) := rfl
  have h2 : (k / m + 1) * cS cc m ≤ t * cS cc m := Nat.mul_le_mul_right _ ha
  rw [Nat.add_mul] at h2
  unfold fK; omega
theorem fK_end {cc : Nat → Nat} {m t : Nat} (hm : 1 ≤ m) : fK cc m (t * m) = t * cS cc m := by
  unfold fK
  rw [Nat.mul_div_cancel _ (by omega), Nat.mul_mod_left]
  simp only [cS]; omega
theorem fK_at {kk cc : Nat → Nat} {m k j : Nat} (hm : 1 ≤ m) (h : j < cc (k % m)) : tR kk cc m (fK cc m k + j) = kk (k % m) := by
  unfold fK; exact tR_at (Nat.mod_lt k (by omega)) h
set_option maxHeartbeats 4000000 in
set_option maxRecDepth 100000 in
theorem c_m_fits (l : Launch) (G : kG) (D : Nat → Nat) (sa : Nat → Int64) (pa : Nat → Int64) (pn : Nat) (tx : Nat → Nat) (tn : Nat) (rf : Nat) (ro : Nat → Nat) (wk : Nat) (mb : Nat → Nat) (so : Nat) (kd : Nat → Nat) (nu : Nat → Nat) (it : Nat) (ti : Nat) (rd : Nat) (ad : Nat → Int64) (R : Nat) (sp : Bool) (K : Nat → Nat → Nat) (w : Nat → Nat) (y : Nat → Nat) (kk : Nat → Nat) (cc : Nat → Nat) (hmo : MOk sa R sp K w y) (hmt : 1 ≤ it ∧ it ≤ 60 ∧ 1 ≤ ti ∧ ti ≤ 60) (hkc : ∀ j, j < it → kd j = kk j ∧ kk j ≤ 2 ∧ nu j = cc j ∧ cc j ≤ 999) : kCM l yX7_fits wsX7_fits 3 65 0 0 G [.ref (D 0)] (wMod G D sa pa pn tx tn rf ro wk mb so kd nu it ti rd ad) (fun vv uu => ∃ (b : Bool), ∃ (ro2 : Nat → Nat), ∃ (wk2 : Nat), vv = some (vB (b)) ∧ uu = wMod G D sa pa pn tx tn rf ro2 wk2 mb so kd nu it ti rd ad ∧ ((b = true ∧ (ti * uK kk cc it = (sumM (K (R - 1)) (w (R - 1))) ∧ (3 ≤ ti * mK kk cc it ∧ ti * mK kk cc it ≤ 120) ∧ R < 40) ∧ wk2 = ti * cS cc it ∧ ∀ i, i < wk2 → ro2 i = tR kk cc it i) ∨ (b = false ∧ ¬ (ti * uK kk cc it = (sumM (K (R - 1)) (w (R - 1))) ∧ (3 ≤ ti * mK kk cc it ∧ ti * mK kk cc it ≤ 120) ∧ R < 40)))) := by
  refine kCM.of (cc := cX7_fits) (maxL := 7) (ret := (some .boolean)) (by decide) rfl (Nat.le_of_ble_eq_true rfl) ?_
  intro p e s m args below meth c A ls Qz hQ hin hm hw hl
  have hl : lv_has ls 7 [(0, .ref (D 0))] := hl
  have i7 : ∀ w ∈ wsX70, w ∈ wsX7_fits := by decide +kernel
  have hR := hmo.1.1
  have hll := PVd_last hmo.1
  have hti : ti * it ≤ 60 * 60 := Nat.mul_le_mul hmt.2.2.2 hmt.2.1
  refine k_aload_n hm hl 0 rfl dX7_fits_0 ?_
  refine k_callVr (n := 0) (As := []) (rest := []) hm hw hl (c_m_last l G D sa pa pn tx tn rf ro wk mb so kd nu it ti rd ad R sp K w y (by first | assumption | omega)) gX7_fits_X7_last rfl (by decide +kernel) ⟨by decide, by decide⟩ (ci := 7) rfl 0 rfl [0, 1, 2, 3, 4, 5, 6, 7, 8] (by decide) rfl rfl rfl (by simp [Value.category]) ⟨by decide, by decide⟩ dX7_fits_1 (fun v H locs hp hw => ?_)
  obtain rfl := hp
  refine W.eq (g2 := F0 m 4 ls [vN (sumM (K (R - 1)) (w (R - 1)))]) rfl ?_
  refine k_istore_n hm hl [(1, vN (sumM (K (R - 1)) (w (R - 1)))), (0, .ref (D 0))] (by decide) rfl dX7_fits_4 (fun ls hl => ?_)
  refine k_aload_n hm hl 1 rfl dX7_fits_5 ?_
  refine k_iconstN hm 0 dX7_fits_6 ?_
  refine k_put (T := TX7) hm hw 0 7 (wMod G D sa pa pn tx tn rf ro 0 mb so kd nu it ti rd ad) i7 tyX7 tyX7_ok nmX7 rfl rfl (by decide) (by decide +kernel) rfl (tyX7_ok 7 (by decide)) rfl rfl (Nat.le_of_ble_eq_true rfl) rfl dX7_fits_7 (fun H locs hw => ?_)
  refine k_iconstN hm 0 dX7_fits_10 ?_
  refine k_istore_n hm hl [(2, vN (0)), (1, vN (sumM (K (R - 1)) (w (R - 1)))), (0, .ref (D 0))] (by decide) rfl dX7_fits_11 (fun ls hl => ?_)
  refine k_iconstN hm 0 dX7_fits_12 ?_
  refine k_istore_n hm hl [(3, vN (0)), (2, vN (0)), (1, vN (sumM (K (R - 1)) (w (R - 1)))), (0, .ref (D 0))] (by decide) rfl dX7_fits_13 (fun ls hl => ?_)
  refine k_iconstN hm 0 dX7_fits_14 ?_
  refine k_istore hm hl [(4, vN (0)), (3, vN (0)), (2, vN (0)), (1, vN (sumM (K (R - 1)) (w (R - 1)))), (0, .ref (D 0))] (by decide) rfl dX7_fits_15 (fun ls hl => ?_)
  have loop_17 : ∀ (fu : Nat) (k : Nat) (u1 : Nat) (v1 : Nat) (g1 : Nat → Nat) (wk1 : Nat) (hk : k ≤ ti * it) (hw1 : wk1 ≤ 121 ∧ wk1 ≤ ti * cS cc it) (hu1 : u1 = sumU (tR kk cc it) wk1) (hv1 : v1 = sumM (tR kk cc it) wk1) (hg1 : ∀ i, i < wk1 → g1 i = tR kk cc it i) (hp1 : wk1 = 121 ∨ wk1 = fK cc it k) (H : Heap) (locs : List Loc) (ls : Array Slot), ti * it - k < fu → kW G A s (wMod G D sa pa pn tx tn rf g1 wk1 mb so kd nu it ti rd ad) H locs → lv_has ls 7 [(0, .ref (D 0)), (1, vN ((sumM (K (R - 1)) (w (R - 1))))), (2, vN (u1)), (3, vN (v1)), (4, vN (k))] → W p l e { frames := 3, cells := 0, slots := 0, locals := 65 } s m args below meth c H locs 0 0 Qz (F0 m 17 ls []) := by
    intro fu
    induction fu with
    | zero => intro k u1 v1 g1 wk1 hk hw1 hu1 hv1 hg1 hp1 H locs ls hfu; exact absurd hfu (Nat.not_lt_zero _)
    | succ fu ih_17 =>
      intro k u1 v1 g1 wk1 hk hw1 hu1 hv1 hg1 hp1 H locs ls hfu hw hl
      refine k_iload hm hl 4 rfl dX7_fits_17 ?_
      have hu8 := sumU_le2 (tR kk cc it) wk1
      have hv8 := sumM_le2 (tR kk cc it) wk1
      refine k_aload_n hm hl 0 rfl dX7_fits_19 ?_
      refine k_get (T := TX7) hm hw 0 13 i7 rfl rfl (by decide) (by decide +kernel) rfl dX7_fits_20 ?_
      refine k_aload_n hm hl 0 rfl dX7_fits_23 ?_
      refine k_get (T := TX7) hm hw 0 12 i7 rfl rfl (by decide) (by decide +kernel) rfl dX7_fits_24 ?_
      refine k_imulN hm dX7_fits_27 ?_
      refine k_icmpge (tgt := 144) hm dX7_fits_28 (by decide) (by omega) (fun c_2 => ?_) (fun c_2 => ?_)
      · refine k_aload_n hm hl 0 rfl dX7_fits_144 ?_
        refine k_get (T := TX7) hm hw 0 7 i7 rfl rfl (by decide) (by decide +kernel) rfl dX7_fits_145 ?_
        have hcm : ti * cS cc it ≤ ti * mK kk cc it := Nat.mul_le_mul_left _ (cS_mK it)
        refine k_bipushN hm 120 dX7_fits_148 rfl ?_
        refine k_icmpgt (tgt := 181) hm dX7_fits_150 (by decide) (by omega) (fun c_3 => ?_) (fun c_3 => ?_)
        · refine k_iconstN hm 0 dX7_fits_181 ?_
          exact k_iret (post := _) hm hQ rfl (kN_bool false) hw (⟨_, _, _, rfl, rfl, Or.inr ⟨rfl, fun z => by have z1 := z.1; have z2 := z.2.1; have z3 := z.2.2; omega⟩⟩) (by omega) (by omega) dX7_fits_182
        · have hwe : wk1 = ti * cS cc it := by rcases hp1 with z | z; omega; rw [z, show k = ti * it by omega, fK_end hmt.1]
          have hu9 : u1 = ti * uK kk cc it := by rw [hu1, hwe]; exact (tR_C _).2
          have hv9 : v1 = ti * mK kk cc it := by rw [hv1, hwe]; exact (tR_C _).1
          refine k_iload_n hm hl 2 rfl dX7_fits_153 ?_
          refine k_iload_n hm hl 1 rfl dX7_fits_154 ?_
          refine k_icmpne (tgt := 181) hm dX7_fits_155 (by decide) (by omega) (fun c_4 => ?_) (fun c_4 => ?_)
          · refine k_iconstN hm 0 dX7_fits_181 ?_
            exact k_iret (post := _) hm hQ rfl (kN_bool false) hw (⟨_, _, _, rfl, rfl, Or.inr ⟨rfl, fun z => by have z1 := z.1; have z2 := z.2.1; have z3 := z.2.2; omega⟩⟩) (by omega) (by omega) dX7_fits_182
          · refine k_iload_n hm hl 3 rfl dX7_fits_158 ?_
            refine k_iconstN hm 3 dX7_fits_159 ?_
            refine k_bipushN hm 120 dX7_fits_160 rfl ?_
            refine k_callSr (n := 3) (As := [vN (v1), vN (3), vN (120)]) (rest := []) hm hw hl (c_m_in l G ((v1 : Nat) : Int) ((3 : Nat) : Int) ((120 : Nat) : Int) (by first | assumption | omega)) gX7_fits_X7_in rfl (by decide +kernel) ⟨by decide, by decide⟩ [] (by decide) rfl rfl rfl (by simp [Value.category]) ⟨by decide, by decide⟩ dX7_fits_162 (fun v H locs hp hw => ?_)
            obtain rfl := hp
            refine W.eq (g2 := F0 m 165 ls [vB (decide (((3 : Nat) : Int) ≤ ((v1 : Nat) : Int) ∧ ((v1 : Nat) : Int) ≤ ((120 : Nat) : Int)))]) rfl ?_
            refine k_ifeqB (tgt := 181) hm dX7_fits_165 (by decide) (fun c_6 => ?_) (fun c_6 => ?_)
            · have c_6d := of_decide_eq_false c_6
              refine k_iconstN hm 0 dX7_fits_181 ?_
              exact k_iret (post := _) hm hQ rfl (kN_bool false) hw (⟨_, _, _, rfl, rfl, Or.inr ⟨rfl, fun z => by have z1 := z.1; have z2 := z.2.1; have z3 := z.2.2; omega⟩⟩) (by omega) (by omega) dX7_fits_182
            · have c_6d := of_decide_eq_true c_6
              refine k_aload_n hm hl 0 rfl dX7_fits_168 ?_
              refine k_callVr (n := 0) (As := []) (rest := []) hm hw hl (c_m_rounds l G D sa pa pn tx tn rf g1 wk1 mb so kd nu it ti rd ad R sp K w y (by first | assumption | omega)) gX7_fits_X7_rounds rfl (by decide +kernel) ⟨by decide, by decide⟩ (ci := 7) rfl 0 rfl [0, 1, 2, 3, 4, 5, 6, 7, 8] (by decide) rfl rfl rfl (by simp [Value.category]) ⟨by decide, by decide⟩ dX7_fits_169 (fun v H locs hp hw => ?_)
              obtain rfl := hp
              refine W.eq (g2 := F0 m 172 ls [vN (R)]) rfl ?_
              refine k_bipushN hm 40 dX7_fits_172 rfl ?_
              refine k_icmpge (tgt := 181) hm dX7_fits_174 (by decide) (by omega) (fun c_8 => ?_) (fun c_8 => ?_)
              · refine k_iconstN hm 0 dX7_fits_181 ?_
                exact k_iret (post := _) hm hQ rfl (kN_bool false) hw (⟨_, _, _, rfl, rfl, Or.inr ⟨rfl, fun z => by have z1 := z.1; have z2 := z.2.1; have z3 := z.2.2; omega⟩⟩) (by omega) (by omega) dX7_fits_182
              · refine k_iconstN hm 1 dX7_fits_177 ?_
                refine k_goto (tgt := 182) hm dX7_fits_178 (by decide) ?_
                exact k_iret (post := _) hm hQ rfl (kN_bool true) hw (⟨_, _, _, rfl, rfl, Or.inl ⟨rfl, ⟨by omega, by omega, by omega⟩, hwe, hg1⟩⟩) (by omega) (by omega) dX7_fits_182
      · refine k_aload_n hm hl 0 rfl dX7_fits_31 ?_
        refine k_get (T := TX7) hm hw 0 7 i7 rfl rfl (by decide) (by decide +kernel) rfl dX7_fits_32 ?_
        refine k_bipushN hm 120 dX7_fits_35 rfl ?_
        refine k_icmpgt (tgt := 144) hm dX7_fits_37 (by decide) (by omega) (fun c_9 => ?_) (fun c_9 => ?_)
        · refine k_aload_n hm hl 0 rfl dX7_fits_144 ?_
          refine k_get (T := TX7) hm hw 0 7 i7 rfl rfl (by decide) (by decide +kernel) rfl dX7_fits_145 ?_
          have hcm : ti * cS cc it ≤ ti * mK kk cc it := Nat.mul_le_mul_left _ (cS_mK it)
          refine k_bipushN hm 120 dX7_fits_148 rfl ?_
          refine k_icmpgt (tgt := 181) hm dX7_fits_150 (by decide) (by omega) (fun c_10 => ?_) (fun c_10 => absurd c_10 (by omega))
          refine k_iconstN hm 0 dX7_fits_181 ?_
          exact k_iret (post := _) hm hQ rfl (kN_bool false) hw (⟨_, _, _, rfl, rfl, Or.inr ⟨rfl, fun z => by have z1 := z.1; have z2 := z.2.1; have z3 := z.2.2; omega⟩⟩) (by omega) (by omega) dX7_fits_182
        · have hml := Nat.mod_lt k (show 0 < it by omega)
          have hkm := hkc (k % it) hml
          have hfl := fK_le (cc := cc) hmt.1 (show k < ti * it by omega)
          refine k_aload_n hm hl 0 rfl dX7_fits_40 ?_
          refine k_get (T := TX7) hm hw 0 10 i7 rfl rfl (by decide) (by decide +kernel) rfl dX7_fits_41 ?_
          refine k_iload hm hl 4 rfl dX7_fits_44 ?_
          refine k_aload_n hm hl 0 rfl dX7_fits_46 ?_
          refine k_get (T := TX7) hm hw 0 12 i7 rfl rfl (by decide) (by decide +kernel) rfl dX7_fits_47 ?_
          refine k_iremN hm (by omega) dX7_fits_50 ?_
          refine k_ialdN hm hw 6 rfl (by omega) dX7_fits_51 ?_
          refine k_rwV (y := vN (kk (k % it))) (by rw [hkm.1]) ?_
          refine k_istore hm hl [(5, vN (kk (k % it))), (0, .ref (D 0)), (1, vN ((sumM (K (R - 1)) (w (R - 1))))), (2, vN (u1)), (3, vN (v1)), (4, vN (k))] (by decide) rfl dX7_fits_52 (fun ls hl => ?_)
          refine k_iconstN hm 0 dX7_fits_54 ?_
          refine k_istore hm hl [(6, vN (0)), (5, vN (kk (k % it))), (0, .ref (D 0)), (1, vN ((sumM (K (R - 1)) (w (R - 1))))), (2, vN (u1)), (3, vN (v1)), (4, vN (k))] (by decide) rfl dX7_fits_55 (fun ls hl => ?_)
          have loop_57 : ∀ (fu : Nat) (j : Nat) (u3 : Nat) (v3 : Nat) (g3 : Nat → Nat) (wk3 : Nat) (hj : j ≤ cc (k % it)) (hw3 : wk3 ≤ 121 ∧ wk3 ≤ ti * cS cc it) (hu3 : u3 = sumU (tR kk cc it) wk3) (hv3 : v3 = sumM (tR kk cc it) wk3) (hg3 : ∀ i, i < wk3 → g3 i = tR kk cc it i) (hp3 : wk3 = 121 ∨ wk3 = fK cc it k + j) (H : Heap) (locs : List Loc) (ls : Array Slot), cc (k % it) - j < fu → kW G A s (wMod G D sa pa pn tx tn rf g3 wk3 mb so kd nu it ti rd ad) H locs → lv_has ls 7 [(0, .ref (D 0)), (1, vN ((sumM (K (R - 1)) (w (R - 1))))), (2, vN (u3)), (3, vN (v3)), (4, vN (k)), (5, vN (kk (k % it))), (6, vN (j))] → W p l e { frames := 3, cells := 0, slots := 0, locals := 65 } s m args below meth c H locs 0 0 Qz (F0 m 57 ls []) := by
            intro fu
            induction fu with
            | zero => intro j u3 v3 g3 wk3 hj hw3 hu3 hv3 hg3 hp3 H locs ls hfu; exact absurd hfu (Nat.not_lt_zero _)
            | succ fu ih_57 =>
              intro j u3 v3 g3 wk3 hj hw3 hu3 hv3 hg3 hp3 H locs ls hfu hw hl
              refine k_iload hm hl 6 rfl dX7_fits_57 ?_
              have hu7 := sumU_le2 (tR kk cc it) wk3
              have hv7 := sumM_le2 (tR kk cc it) wk3
              refine k_aload_n hm hl 0 rfl dX7_fits_59 ?_
              refine k_get (T := TX7) hm hw 0 11 i7 rfl rfl (by decide) (by decide +kernel) rfl dX7_fits_60 ?_
              refine k_iload hm hl 4 rfl dX7_fits_63 ?_
              refine k_aload_n hm hl 0 rfl dX7_fits_65 ?_
              refine k_get (T := TX7) hm hw 0 12 i7 rfl rfl (by decide) (by decide +kernel) rfl dX7_fits_66 ?_
              refine k_iremN hm (by omega) dX7_fits_69 ?_
              refine k_ialdN hm hw 7 rfl (by omega) dX7_fits_70 ?_
              refine k_rwV (y := vN (cc (k % it))) (by rw [hkm.2.2.1]) ?_
              refine k_icmpge (tgt := 138) hm dX7_fits_71 (by decide) (by omega) (fun c_11 => ?_) (fun c_11 => ?_)
              · refine k_iincN hm hl 4 1 rfl [(4, vN (k + 1)), (0, .ref (D 0)), (1, vN ((sumM (K (R - 1)) (w (R - 1))))), (2, vN (u3)), (3, vN (v3)), (5, vN (kk (k % it))), (6, vN (j))] (by decide) rfl dX7_fits_138 (fun ls hl => ?_)
                refine k_goto (tgt := 17) hm dX7_fits_141 (by decide) ?_
                exact ih_17  (k + 1) u3 v3 g3 wk3 (by first | assumption | omega) hw3 hu3 hv3 hg3 (hp3.elim Or.inl (fun z => Or.inr (by rw [fK_nx hmt.1]; omega))) _ _ _ (by omega) hw (lv_sub hl [1, 2, 3, 4, 0] rfl)
              · refine k_aload_n hm hl 0 rfl dX7_fits_74 ?_
                refine k_get (T := TX7) hm hw 0 7 i7 rfl rfl (by decide) (by decide +kernel) rfl dX7_fits_75 ?_
                refine k_bipushN hm 120 dX7_fits_78 rfl ?_
                refine k_icmpgt (tgt := 138) hm dX7_fits_80 (by decide) (by omega) (fun c_12 => ?_) (fun c_12 => ?_)
                · refine k_iincN hm hl 4 1 rfl [(4, vN (k + 1)), (0, .ref (D 0)), (1, vN ((sumM (K (R - 1)) (w (R - 1))))), (2, vN (u3)), (3, vN (v3)), (5, vN (kk (k % it))), (6, vN (j))] (by decide) rfl dX7_fits_138 (fun ls hl => ?_)
                  refine k_goto (tgt := 17) hm dX7_fits_141 (by decide) ?_
                  exact ih_17  (k + 1) u3 v3 g3 wk3 (by first | assumption | omega) hw3 hu3 hv3 hg3 (Or.inl (by omega)) _ _ _ (by omega) hw (lv_sub hl [1, 2, 3, 4, 0] rfl)
                · have hpe : wk3 = fK cc it k + j := by omega
                  have hrow9 : tR kk cc it wk3 = kk (k % it) := by rw [hpe]; exact fK_at hmt.1 (by omega)
                  refine k_aload_n hm hl 0 rfl dX7_fits_83 ?_
                  refine k_get (T := TX7) hm hw 0 6 i7 rfl rfl (by decide) (by decide +kernel) rfl dX7_fits_84 ?_
                  refine k_aload_n hm hl 0 rfl dX7_fits_87 ?_
                  refine k_get (T := TX7) hm hw 0 7 i7 rfl rfl (by decide) (by decide +kernel) rfl dX7_fits_88 ?_
                  refine k_iload hm hl 5 rfl dX7_fits_91 ?_
                  refine k_iastN hm hw 4 (wMod G D sa pa pn tx tn rf (nU g3 wk3 (kk (k % it))) wk3 mb so kd nu it ti rd ad) rfl (by omega) rfl dX7_fits_93 (fun H locs hw => ?_)
                  refine k_aload_n hm hl 0 rfl dX7_fits_94 ?_
                  refine k_dup hm dX7_fits_95 rfl ?_
                  refine k_get (T := TX7) hm hw 0 7 i7 rfl rfl (by decide) (by decide +kernel) rfl dX7_fits_96 ?_
                  refine k_iconstN hm 1 dX7_fits_99 ?_
                  refine k_iaddN hm dX7_fits_100 ?_
                  refine k_put (T := TX7) hm hw 0 7 (wMod G D sa pa pn tx tn rf (nU g3 wk3 (kk (k % it))) (wk3 + 1) mb so kd nu it ti rd ad) i7 tyX7 tyX7_ok nmX7 rfl rfl (by decide) (by decide +kernel) rfl (tyX7_ok 7 (by decide)) rfl rfl (Nat.le_of_ble_eq_true rfl) rfl dX7_fits_101 (fun H locs hw => ?_)
                  refine k_iload_n hm hl 2 rfl dX7_fits_104 ?_
                  refine k_iload hm hl 5 rfl dX7_fits_105 ?_
                  refine k_iconstN hm 2 dX7_fits_107 ?_
                  refine k_icmpne (tgt := 115) hm dX7_fits_108 (by decide) (by omega) (fun c_13 => ?_) (fun c_13 => ?_)
                  · refine k_iconstN hm 1 dX7_fits_115 ?_
                    refine k_iaddN hm dX7_fits_116 ?_
                    refine k_istore_n hm hl [(2, vN (u3 + 1)), (0, .ref (D 0)), (1, vN ((sumM (K (R - 1)) (w (R - 1))))), (3, vN (v3)), (4, vN (k)), (5, vN (kk (k % it))), (6, vN (j))] (by decide) rfl dX7_fits_117 (fun ls hl => ?_)
                    refine k_iload_n hm hl 3 rfl dX7_fits_118 ?_
                    refine k_iload hm hl 5 rfl dX7_fits_119 ?_
                    refine k_iconstN hm 1 dX7_fits_121 ?_
                    refine k_icmpne (tgt := 129) hm dX7_fits_122 (by decide) (by omega) (fun c_14 => ?_) (fun c_14 => ?_)
                    · refine k_iconstN hm 1 dX7_fits_129 ?_
                      refine k_iaddN hm dX7_fits_130 ?_
                      refine k_istore_n hm hl [(3, vN (v3 + 1)), (2, vN (u3 + 1)), (0, .ref (D 0)), (1, vN ((sumM (K (R - 1)) (w (R - 1))))), (4, vN (k)), (5, vN (kk (k % it))), (6, vN (j))] (by decide) rfl dX7_fits_131 (fun ls hl => ?_)
                      refine k_iincN hm hl 6 1 rfl [(6, vN (j + 1)), (3, vN (v3 + 1)), (2, vN (u3 + 1)), (0, .ref (D 0)), (1, vN ((sumM (K (R - 1)) (w (R - 1))))), (4, vN (k)), (5, vN (kk (k % it)))] (by decide) rfl dX7_fits_132 (fun ls hl => ?_)
                      refine k_goto (tgt := 57) hm dX7_fits_135 (by decide) ?_
                      exact ih_57  (j + 1) (u3 + 1) (v3 + 1) (nU g3 wk3 (kk (k % it))) (wk3 + 1) (by first | assumption | omega) ⟨by omega, by omega⟩ (by first | (exfalso; omega) | (simp only [sumU, usB]; rw [hrow9, hu3]; first | rw [if_pos (by omega)] | rw [if_neg (by omega)])) (by first | (exfalso; omega) | (simp only [sumM, mdB]; rw [hrow9, hv3]; first | rw [if_pos (by omega)] | rw [if_neg (by omega)])) (fun i q => by rcases Nat.lt_or_ge i wk3 with z | z; rw [nU_n (by omega)]; exact hg3 i z; rw [show i = wk3 by omega, nU_s, hrow9]) (Or.inr (by omega)) _ _ _ (by omega) hw (lv_sub hl [3, 4, 2, 1, 5, 6, 0] rfl)
                    · refine k_iconstN hm 2 dX7_fits_125 ?_
                      refine k_goto (tgt := 130) hm dX7_fits_126 (by decide) ?_
                      refine k_iaddN hm dX7_fits_130 ?_
                      refine k_istore_n hm hl [(3, vN (v3 + 2)), (2, vN (u3 + 1)), (0, .ref (D 0)), (1, vN ((sumM (K (R - 1)) (w (R - 1))))), (4, vN (k)), (5, vN (kk (k % it))), (6, vN (j))] (by decide) rfl dX7_fits_131 (fun ls hl => ?_)
                      refine k_iincN hm hl 6 1 rfl [(6, vN (j + 1)), (3, vN (v3 + 2)), (2, vN (u3 + 1)), (0, .ref (D 0)), (1, vN ((sumM (K (R - 1)) (w (R - 1))))), (4, vN (k)), (5, vN (kk (k % it)))] (by decide) rfl dX7_fits_132 (fun ls hl => ?_)
                      refine k_goto (tgt := 57) hm dX7_fits_135 (by decide) ?_
                      exact ih_57  (j + 1) (u3 + 1) (v3 + 2) (nU g3 wk3 (kk (k % it))) (wk3 + 1) (by first | assumption | omega) ⟨by omega, by omega⟩ (by first | (exfalso; omega) | (simp only [sumU, usB]; rw [hrow9, hu3]; first | rw [if_pos (by omega)] | rw [if_neg (by omega)])) (by first | (exfalso; omega) | (simp only [sumM, mdB]; rw [hrow9, hv3]; first | rw [if_pos (by omega)] | rw [if_neg (by omega)])) (fun i q => by rcases Nat.lt_or_ge i wk3 with z | z; rw [nU_n (by omega)]; exact hg3 i z; rw [show i = wk3 by omega, nU_s, hrow9]) (Or.inr (by omega)) _ _ _ (by omega) hw (lv_sub hl [3, 4, 2, 1, 5, 6, 0] rfl)
                  · refine k_iconstN hm 2 dX7_fits_111 ?_
                    refine k_goto (tgt := 116) hm dX7_fits_112 (by decide) ?_
                    refine k_iaddN hm dX7_fits_116 ?_
                    refine k_istore_n hm hl [(2, vN (u3 + 2)), (0, .ref (D 0)), (1, vN ((sumM (K (R - 1)) (w (R - 1))))), (3, vN (v3)), (4, vN (k)), (5, vN (kk (k % it))), (6, vN (j))] (by decide) rfl dX7_fits_117 (fun ls hl => ?_)
                    refine k_iload_n hm hl 3 rfl dX7_fits_118 ?_
                    refine k_iload hm hl 5 rfl dX7_fits_119 ?_
                    refine k_iconstN hm 1 dX7_fits_121 ?_
                    refine k_icmpne (tgt := 129) hm dX7_fits_122 (by decide) (by omega) (fun c_15 => ?_) (fun c_15 => ?_)
                    · refine k_iconstN hm 1 dX7_fits_129 ?_
                      refine k_iaddN hm dX7_fits_130 ?_
                      refine k_istore_n hm hl [(3, vN (v3 + 1)), (2, vN (u3 + 2)), (0, .ref (D 0)), (1, vN ((sumM (K (R - 1)) (w (R - 1))))), (4, vN (k)), (5, vN (kk (k % it))), (6, vN (j))] (by decide) rfl dX7_fits_131 (fun ls hl => ?_)
                      refine k_iincN hm hl 6 1 rfl [(6, vN (j + 1)), (3, vN (v3 + 1)), (2, vN (u3 + 2)), (0, .ref (D 0)), (1, vN ((sumM (K (R - 1)) (w (R - 1))))), (4, vN (k)), (5, vN (kk (k % it)))] (by decide) rfl dX7_fits_132 (fun ls hl => ?_)
                      refine k_goto (tgt := 57) hm dX7_fits_135 (by decide) ?_
                      exact ih_57  (j + 1) (u3 + 2) (v3 + 1) (nU g3 wk3 (kk (k % it))) (wk3 + 1) (by first | assumption | omega) ⟨by omega, by omega⟩ (by first | (exfalso; omega) | (simp only [sumU, usB]; rw [hrow9, hu3]; first | rw [if_pos (by omega)] | rw [if_neg (by omega)])) (by first | (exfalso; omega) | (simp only [sumM, mdB]; rw [hrow9, hv3]; first | rw [if_pos (by omega)] | rw [if_neg (by omega)])) (fun i q => by rcases Nat.lt_or_ge i wk3 with z | z; rw [nU_n (by omega)]; exact hg3 i z; rw [show i = wk3 by omega, nU_s, hrow9]) (Or.inr (by omega)) _ _ _ (by omega) hw (lv_sub hl [3, 4, 2, 1, 5, 6, 0] rfl)
                    · refine k_iconstN hm 2 dX7_fits_125 ?_
                      refine k_goto (tgt := 130) hm dX7_fits_126 (by decide) ?_
                      refine k_iaddN hm dX7_fits_130 ?_
                      refine k_istore_n hm hl [(3, vN (v3 + 2)), (2, vN (u3 + 2)), (0, .ref (D 0)), (1, vN ((sumM (K (R - 1)) (w (R - 1))))), (4, vN (k)), (5, vN (kk (k % it))), (6, vN (j))] (by decide) rfl dX7_fits_131 (fun ls hl => ?_)
                      refine k_iincN hm hl 6 1 rfl [(6, vN (j + 1)), (3, vN (v3 + 2)), (2, vN (u3 + 2)), (0, .ref (D 0)), (1, vN ((sumM (K (R - 1)) (w (R - 1))))), (4, vN (k)), (5, vN (kk (k % it)))] (by decide) rfl dX7_fits_132 (fun ls hl => ?_)
                      refine k_goto (tgt := 57) hm dX7_fits_135 (by decide) ?_
                      exact ih_57  (j + 1) (u3 + 2) (v3 + 2) (nU g3 wk3 (kk (k % it))) (wk3 + 1) (by first | assumption | omega) ⟨by omega, by omega⟩ (by first | (exfalso; omega) | (simp only [sumU, usB]; rw [hrow9, hu3]; first | rw [if_pos (by omega)] | rw [if_neg (by omega)])) (by first | (exfalso; omega) | (simp only [sumM, mdB]; rw [hrow9, hv3]; first | rw [if_pos (by omega)] | rw [if_neg (by omega)])) (fun i q => by rcases Nat.lt_or_ge i wk3 with z | z; rw [nU_n (by omega)]; exact hg3 i z; rw [show i = wk3 by omega, nU_s, hrow9]) (Or.inr (by omega)) _ _ _ (by omega) hw (lv_sub hl [3, 4, 2, 1, 5, 6, 0] rfl)
          exact loop_57 (cc (k % it) - 0 + 1) 0 u1 v1 g1 wk1 (by first | assumption | omega) hw1 hu1 hv1 hg1 hp1 _ _ _ (Nat.lt_succ_self _) hw (lv_sub hl [2, 3, 4, 5, 6, 1, 0] rfl)
  exact loop_17 (ti * it - 0 + 1) 0 0 0 ro 0 (Nat.zero_le _) ⟨by omega, Nat.zero_le _⟩ rfl rfl (fun i q => absurd q (by omega)) (Or.inr (by unfold fK; simp [cS])) _ _ _ (Nat.lt_succ_self _) hw (lv_sub hl [4, 3, 2, 1, 0] rfl)
set_option maxHeartbeats 4000000 in
set_option maxRecDepth 100000 in
theorem c_m_addsTold (l : Launch) (G : kG) (D : Nat → Nat) (sa : Nat → Int64) (pa : Nat → Int64) (pn : Nat) (tx : Nat → Nat) (tn : Nat) (rf : Nat) (ro : Nat → Nat) (wk : Nat) (mb : Nat → Nat) (so : Nat) (kd : Nat → Nat) (nu : Nat → Nat) (it : Nat) (ti : Nat) (rd : Nat) (ad : Nat → Int64) (R : Nat) (sp : Bool) (K : Nat → Nat → Nat) (w : Nat → Nat) (y : Nat → Nat) (hmo : MOk sa R sp K w y) (htn : tn ≤ 120) (htb : ∀ i, i < tn → tx i ≤ 127) (hsy : synR tx tn 120 0 (-1)) : kCM l yX7_addsTold wsX7_addsTold 4 91 0 0 G [.ref (D 0)] (wMod G D sa pa pn tx tn rf ro wk mb so kd nu it ti rd ad) (fun vv uu => ∃ (q : Nat), ∃ (K2 : Nat → Nat → Nat), ∃ (w2 : Nat → Nat), ∃ (sa2 : Nat → Int64), ∃ (ro2 : Nat → Nat), ∃ (wk2 : Nat), ∃ (so2 : Nat), ∃ (kd2 : Nat → Nat), ∃ (nu2 : Nat → Nat), ∃ (it2 : Nat), ∃ (ti2 : Nat), ∃ (rd2 : Nat), vv = some (vN (q)) ∧ uu = wMod G D sa2 pa pn tx tn rf ro2 wk2 mb so2 kd2 nu2 it2 ti2 rd2 ad ∧ (ftS tx tn (40 - R) 0 (sumM (K (R - 1)) (w (R - 1))) q) ∧ (cyS tx tn q 0 R K w K2 w2) ∧ (MOk sa2 (R + q) sp K2 w2 y)) := by
  refine kCM.of (cc := cX7_addsTold) (maxL := 3) (ret := (some .int)) (by decide) rfl (Nat.le_of_ble_eq_true rfl) ?_
  intro p e s m args below meth c A ls Qz hQ hin hm hw hl
  have hl : lv_has ls 3 [(0, .ref (D 0))] := hl
  have i7 : ∀ w ∈ wsX70, w ∈ wsX7_addsTold := by decide +kernel
  have hR := hmo.1.1
  refine k_aload_n hm hl 0 rfl dX7_addsTold_0 ?_
  refine k_iconstN hm 0 dX7_addsTold_1 ?_
  refine k_put (T := TX7) hm hw 0 9 (wMod G D sa pa pn tx tn rf ro wk mb 0 kd nu it ti rd ad) i7 tyX7 tyX7_ok nmX7 rfl rfl (by decide) (by decide +kernel) rfl (tyX7_ok 9 (by decide)) rfl rfl (Nat.le_of_ble_eq_true rfl) rfl dX7_addsTold_2 (fun H locs hw => ?_)
  refine k_iconstN hm 0 dX7_addsTold_5 ?_
  refine k_istore_n hm hl [(1, vN (0)), (0, .ref (D 0))] (by decide) rfl dX7_addsTold_6 (fun ls hl => ?_)
  refine k_iconstN hm 1 dX7_addsTold_7 ?_
  refine k_rwV (y := vB (true)) rfl ?_
  refine k_istore_n hm hl [(2, vB (true)), (1, vN (0)), (0, .ref (D 0))] (by decide) rfl dX7_addsTold_8 (fun ls hl => ?_)
  have loop_9 : ∀ (fu : Nat) (cn : Nat) (sa1 : Nat → Int64) (R1 : Nat) (K1 : Nat → Nat → Nat) (w1 : Nat → Nat) (ro1 : Nat → Nat) (wk1 : Nat) (so1 : Nat) (kd1 : Nat → Nat) (nu1 : Nat → Nat) (it1 : Nat) (ti1 : Nat) (rd1 : Nat) (hi : so1 ≤ tn) (hR1 : R1 = R + cn) (hmo1 : MOk sa1 R1 sp K1 w1 y) (hsy1 : synR tx tn (120 - cn) so1 (-1)) (hft : ∀ q, ftS tx tn (40 - R1) so1 (sumM (K1 (R1 - 1)) (w1 (R1 - 1))) q → ftS tx tn (40 - R) 0 (sumM (K (R - 1)) (w (R - 1))) (cn + q)) (hcc : ∀ c2 K2 w2, cyS tx tn c2 so1 R1 K1 w1 K2 w2 → cyS tx tn (cn + c2) 0 R K w K2 w2) (H : Heap) (locs : List Loc) (ls : Array Slot), 41 - cn < fu → kW G A s (wMod G D sa1 pa pn tx tn rf ro1 wk1 mb so1 kd1 nu1 it1 ti1 rd1 ad) H locs → lv_has ls 3 [(0, .ref (D 0)), (1, vN (cn)), (2, vB (true))] → W p l e { frames := 4, cells := 0, slots := 0, locals := 91 } s m args below meth c H locs 0 0 Qz (F0 m 9 ls []) := by
    intro fu
    induction fu with
    | zero => intro cn sa1 R1 K1 w1 ro1 wk1 so1 kd1 nu1 it1 ti1 rd1 hi hR1 hmo1 hsy1 hft hcc H locs ls hfu; exact absurd hfu (Nat.not_lt_zero _)
    | succ fu ih_9 =>
      intro cn sa1 R1 K1 w1 ro1 wk1 so1 kd1 nu1 it1 ti1 rd1 hi hR1 hmo1 hsy1 hft hcc H locs ls hfu hw hl
      refine k_iload_n hm hl 2 rfl dX7_addsTold_9 ?_
      have hR9 := hmo1.1.1
      refine k_ifeqB (tgt := 58) hm dX7_addsTold_10 (by decide) (fun c_1 => absurd c_1 (by decide)) (fun _ => ?_)
      refine k_aload_n hm hl 0 rfl dX7_addsTold_13 ?_
      refine k_get (T := TX7) hm hw 0 9 i7 rfl rfl (by decide) (by decide +kernel) rfl dX7_addsTold_14 ?_
      refine k_aload_n hm hl 0 rfl dX7_addsTold_17 ?_
      refine k_get (T := TX7) hm hw 0 4 i7 rfl rfl (by decide) (by decide +kernel) rfl dX7_addsTold_18 ?_
      refine k_icmpge (tgt := 58) hm dX7_addsTold_21 (by decide) (by omega) (fun c_2 => ?_) (fun c_2 => ?_)
      · refine k_iload_n hm hl 1 rfl dX7_addsTold_58 ?_
        exact k_iret (post := _) hm hQ rfl rfl hw (⟨cn, K1, w1, _, _, _, _, _, _, _, _, _, rfl, rfl, hft 0 (ftS_z (by omega)), hcc 0 K1 w1 ⟨rfl, rfl⟩, by rw [← hR1]; exact hmo1⟩) (by omega) (by omega) dX7_addsTold_59
      · have hlt : so1 < tn := by omega
        refine k_aload_n hm hl 0 rfl dX7_addsTold_24 ?_
        refine k_callV (n := 0) (As := []) (rest := []) (wr := []) hm hw hl (c_m_told l G D sa1 pa pn tx tn rf ro1 wk1 mb so1 kd1 nu1 it1 ti1 rd1 ad (by first | assumption | omega) (by first | assumption | omega) (by first | assumption | omega)) gX7_addsTold_X7_told rfl (by decide +kernel) ⟨by decide, by decide⟩ (ci := 7) rfl 0 rfl [0, 1, 2, 3, 4, 5, 6, 7, 8] [] (by decide) rfl rfl (by decide) (by decide) rfl rfl (by simp [Value.category]) ⟨by decide, by decide⟩ dX7_addsTold_25 (fun v w1 H locs hp hw => ?_)
        obtain ⟨b_4, so2_5, kd2_6, nu2_7, it2_8, ti2_9, rd2_10, rfl, rfl, hz_11⟩ := hp
        have hw := hw.sub (ws' := wMod G D sa1 pa pn tx tn rf ro1 wk1 mb so2_5 kd2_6 nu2_7 it2_8 ti2_9 rd2_10 ad) [0, 1, 2, 3, 4, 5, 6, 7, 8] (by decide) rfl
        refine W.eq (g2 := F0 m 28 ls [vB (b_4)]) rfl ?_
        obtain ⟨m9, t9, q9, hrd, hs9⟩ := synR_ok (k := 119 - cn) (by rw [show 119 - cn + 1 = 120 - cn by omega]; exact hsy1) hlt
        obtain ⟨e1, e2, e3, e4⟩ := hz_11.resolve_right (fun z => rdOk_Er hrd z.2.1)
        rw [← (rdOk_u e2 hrd).2.2] at hs9
        have hq8 := (rdOk_q hi e2).resolve_right (by omega)
        refine k_rwV (y := vB (true)) (by rw [e1]) ?_
        refine k_ifeqB (tgt := 42) hm dX7_addsTold_28 (by decide) (fun c_12 => absurd c_12 (by decide)) (fun _ => ?_)
        refine k_aload_n hm hl 0 rfl dX7_addsTold_31 ?_
        refine k_callV (n := 0) (As := []) (rest := []) (wr := []) hm hw hl (c_m_fits l G D sa1 pa pn tx tn rf ro1 wk1 mb so2_5 kd2_6 nu2_7 it2_8 ti2_9 rd2_10 ad R1 sp K1 w1 y (kkF tx tn so1) (icF tx tn so1) hmo1 ⟨e2.1, hq8.2.2.2.2, hq8.2.2.1, hq8.2.2.2.1⟩ (fun j q => ⟨(e4 j q).1, (told_k (e2.2.1 j q)).2.1, (e4 j q).2, (told_k (e2.2.1 j q)).2.2.1⟩)) gX7_addsTold_X7_fits rfl (by decide +kernel) ⟨by decide, by decide⟩ (ci := 7) rfl 0 rfl [0, 1, 2, 3, 4, 5, 6, 7, 8] [] (by decide) rfl rfl (by decide) (by decide) rfl rfl (by simp [Value.category]) ⟨by decide, by decide⟩ dX7_addsTold_32 (fun v w1 H locs hp hw => ?_)
        obtain ⟨b_14, ro2_15, wk2_16, rfl, rfl, hb_17⟩ := hp
        have hw := hw.sub (ws' := wMod G D sa1 pa pn tx tn rf ro2_15 wk2_16 mb so2_5 kd2_6 nu2_7 it2_8 ti2_9 rd2_10 ad) [0, 1, 2, 3, 4, 5, 6, 7, 8] (by decide) rfl
        refine W.eq (g2 := F0 m 35 ls [vB (b_14)]) rfl ?_
        rcases hb_17 with ⟨f1, hF, f3, f4⟩ | ⟨f1, hF⟩
        · refine k_rwV (y := vB (true)) (by rw [f1]) ?_
          subst f3
          have hms : 3 ≤ mS tx tn so1 it2_8 * ti2_9 ∧ mS tx tn so1 it2_8 * ti2_9 ≤ 120 := by rw [(mS_mK e2.2.1).1, Nat.mul_comm]; exact hF.2.1
          have hfi := told_fit e2 hms hq8.2.2.1
          refine k_ifeqB (tgt := 42) hm dX7_addsTold_35 (by decide) (fun c_18 => absurd c_18 (by decide)) (fun _ => ?_)
          refine k_iconstN hm 1 dX7_addsTold_38 ?_
          refine k_goto (tgt := 43) hm dX7_addsTold_39 (by decide) ?_
          refine k_rwV (y := vB (true)) rfl ?_
          refine k_istore_n hm hl [(2, vB (true)), (0, .ref (D 0)), (1, vN (cn))] (by decide) rfl dX7_addsTold_43 (fun ls hl => ?_)
          refine k_iload_n hm hl 0 rfl dX7_addsTold_44 ?_
          refine k_ifeqB (tgt := 9) hm dX7_addsTold_45 (by decide) (fun c_19 => absurd c_19 (by decide)) (fun _ => ?_)
          refine k_aload_n hm hl 1 rfl dX7_addsTold_48 ?_
          refine k_callV (n := 0) (As := []) (rest := []) (wr := []) hm hw hl (c_m_adds l G D sa1 pa pn tx tn rf ro2_15 (ti2_9 * cS (icF tx tn so1) it2_8) mb so2_5 kd2_6 nu2_7 it2_8 ti2_9 rd2_10 ad R1 sp K1 w1 y (rwT tx tn so1 it2_8) hmo1 hF.2.2 hfi.1 (fun i q => ⟨f4 i q, tR_le e2.1 (fun j q => (told_k (e2.2.1 j q)).2.1) i⟩) (by unfold rwT; rw [(tR_C _).1]; exact hfi.2.1) (by unfold rwT; rw [(tR_C _).2]; exact hF.1)) gX7_addsTold_X7_adds rfl (by decide +kernel) ⟨by decide, by decide⟩ (ci := 7) rfl 0 rfl [0, 1, 2, 3, 4, 5, 6, 7, 8] [] (by decide) rfl rfl (by decide) (by decide) rfl rfl (by simp [Value.category]) ⟨by decide, by decide⟩ dX7_addsTold_49 (fun v w1 H locs hp hw => ?_)
          obtain ⟨sa2_21, rfl, rfl, hmo2_22⟩ := hp
          have hw := hw.sub (ws' := wMod G D sa2_21 pa pn tx tn rf ro2_15 (ti2_9 * cS (icF tx tn so1) it2_8) mb so2_5 kd2_6 nu2_7 it2_8 ti2_9 rd2_10 ad) [0, 1, 2, 3, 4, 5, 6, 7, 8] (by decide) rfl
          refine W.eq (g2 := F0 m 52 ls []) rfl ?_
          have hmo9 := hmo2_22
          refine k_iincN hm hl 2 1 rfl [(1, vN (cn + 1)), (2, vB (true)), (0, .ref (D 0))] (by decide) rfl dX7_addsTold_52 (fun ls hl => ?_)
          refine k_goto (tgt := 9) hm dX7_addsTold_55 (by decide) ?_
          exact ih_9  (cn + 1) sa2_21 (R1 + 1) (fup K1 R1 (rwT tx tn so1 it2_8)) (fup w1 R1 (wdT tx tn so1 it2_8 ti2_9)) ro2_15 (ti2_9 * cS (icF tx tn so1) it2_8) so2_5 kd2_6 nu2_7 it2_8 ti2_9 rd2_10 e3 (by omega) hmo9 (by rw [show 120 - (cn + 1) = 119 - cn by omega]; exact hs9) (by
                              intro q z
                              rw [show cn + 1 + q = cn + (q + 1) by omega]
                              rw [show R1 + 1 - 1 = R1 by omega, fup_s, fup_s] at z
                              unfold rwT wdT at z
                              rw [(tR_C _).1, hfi.2.2.2] at z
                              exact hft (q + 1) (by
                                rw [show 40 - R1 = (40 - (R1 + 1)) + 1 by omega]
                                exact Or.inr ⟨hlt, _, _, _, e2, Or.inr ⟨⟨by rw [← hfi.2.2.1]; exact hF.1, hms.1, hms.2⟩, q, rfl, z⟩⟩)) (by
                              intro c2 K2 w2 z
                              rw [show cn + 1 + c2 = cn + (c2 + 1) by omega]
                              exact hcc (c2 + 1) K2 w2 ⟨_, _, _, e2, z⟩) _ _ _ (by omega) hw (lv_sub hl [2, 0, 1] rfl)
        · refine k_rwV (y := vB (false)) (by rw [f1]) ?_
          refine k_ifeqB (tgt := 42) hm dX7_addsTold_35 (by decide) (fun _ => ?_) (fun c_23 => absurd c_23 (by decide))
          refine k_iconstN hm 0 dX7_addsTold_42 ?_
          refine k_rwV (y := vB (false)) rfl ?_
          refine k_istore_n hm hl [(2, vB (false)), (0, .ref (D 0)), (1, vN (cn))] (by decide) rfl dX7_addsTold_43 (fun ls hl => ?_)
          refine k_iload_n hm hl 0 rfl dX7_addsTold_44 ?_
          refine k_ifeqB (tgt := 9) hm dX7_addsTold_45 (by decide) (fun _ => ?_) (fun c_24 => absurd c_24 (by decide))
          refine k_iload_n hm hl 0 rfl dX7_addsTold_9 ?_
          refine k_ifeqB (tgt := 58) hm dX7_addsTold_10 (by decide) (fun _ => ?_) (fun c_25 => absurd c_25 (by decide))
          refine k_iload_n hm hl 2 rfl dX7_addsTold_58 ?_
          exact k_iret (post := _) hm hQ rfl rfl hw (⟨cn, K1, w1, _, _, _, _, _, _, _, _, _, rfl, rfl, hft 0 (by rcases Nat.lt_or_ge R1 40 with z9 | z9; rw [show 40 - R1 = (40 - (R1 + 1)) + 1 by omega]; exact Or.inr ⟨hlt, _, _, _, e2, Or.inl ⟨fun z => hF ⟨by rw [← (mS_mK e2.2.1).2, Nat.mul_comm]; exact z.1, by rw [← (mS_mK e2.2.1).1, Nat.mul_comm]; exact z.2, z9⟩, rfl⟩⟩; rw [show 40 - R1 = 0 by omega]; exact rfl), hcc 0 K1 w1 ⟨rfl, rfl⟩, by rw [← hR1]; exact hmo1⟩) (by omega) (by omega) dX7_addsTold_59
  exact loop_9 (41 - 0 + 1) 0 sa R K w ro wk 0 kd nu it ti rd (Nat.zero_le _) rfl hmo hsy (fun q z => by rw [Nat.zero_add]; exact z) (fun c2 K2 w2 z => by rw [Nat.zero_add]; exact z) _ _ _ (Nat.lt_succ_self _) hw (lv_sub hl [2, 1, 0] rfl)
set_option maxHeartbeats 4000000 in
set_option maxRecDepth 100000 in
theorem c_m_judged_er (l : Launch) (G : kG) (D : Nat → Nat) (sa : Nat → Int64) (pa : Nat → Int64) (pn : Nat) (tx : Nat → Nat) (tn : Nat) (rf : Nat) (ro : Nat → Nat) (wk : Nat) (mb : Nat → Nat) (so : Nat) (kd : Nat → Nat) (nu : Nat → Nat) (it : Nat) (ti : Nat) (rd : Nat) (ad : Nat → Int64) (z : Int) (htn : tn ≤ 120) (htb : ∀ i, i < tn → tx i ≤ 127) (hsy : synR tx tn 120 0 z) (hz : 0 ≤ z ∧ z ≤ 1000) : kCM l yX7_judged wsX7_judged 5 113 0 0 G [.ref (D 0)] (wMod G D sa pa pn tx tn rf ro wk mb so kd nu it ti rd ad) (fun vv uu => ∃ (so2 : Nat), ∃ (kd2 : Nat → Nat), ∃ (nu2 : Nat → Nat), ∃ (it2 : Nat), ∃ (ti2 : Nat), ∃ (rd2 : Nat), vv = some (vZ (-10 - z)) ∧ uu = wMod G D sa pa pn tx tn 0 ro wk mb so2 kd2 nu2 it2 ti2 rd2 ad) := by
  refine kCM.of (cc := cX7_judged) (maxL := 4) (ret := (some .int)) (by decide) rfl (Nat.le_of_ble_eq_true rfl) ?_
  intro p e s m args below meth c A ls Qz hQ hin hm hw hl
  have hl : lv_has ls 4 [(0, .ref (D 0))] := hl
  have i7 : ∀ w ∈ wsX70, w ∈ wsX7_judged := by decide +kernel
  refine k_aload_n hm hl 0 rfl dX7_judged_0 ?_
  refine k_iconstN hm 0 dX7_judged_1 ?_
  refine k_put (T := TX7) hm hw 0 5 (wMod G D sa pa pn tx tn 0 ro wk mb so kd nu it ti rd ad) i7 tyX7 tyX7_ok nmX7 rfl rfl (by decide) (by decide +kernel) rfl (tyX7_ok 5 (by decide)) rfl rfl (Nat.le_of_ble_eq_true rfl) rfl dX7_judged_2 (fun H locs hw => ?_)
  refine k_aload_n hm hl 0 rfl dX7_judged_5 ?_
  refine k_callV (n := 0) (As := []) (rest := []) (wr := []) hm hw hl (c_m_errorAt l G D sa pa pn tx tn 0 ro wk mb so kd nu it ti rd ad (by first | assumption | omega) (by first | assumption | omega)) gX7_judged_X7_errorAt rfl (by decide +kernel) ⟨by decide, by decide⟩ (ci := 7) rfl 0 rfl [0, 1, 2, 3, 4, 5, 6, 7, 8] [] (by decide) rfl rfl (by decide) (by decide) rfl rfl (by simp [Value.category]) ⟨by decide, by decide⟩ dX7_judged_6 (fun v w1 H locs hp hw => ?_)
  obtain ⟨so2_2, kd2_3, nu2_4, it2_5, ti2_6, rd2_7, z_8, rfl, rfl, hs_9, hz_10⟩ := hp
  have hw := hw.sub (ws' := wMod G D sa pa pn tx tn 0 ro wk mb so2_2 kd2_3 nu2_4 it2_5 ti2_6 rd2_7 ad) [0, 1, 2, 3, 4, 5, 6, 7, 8] (by decide) rfl
  refine W.eq (g2 := F0 m 9 ls [vZ (z_8)]) rfl ?_
  have hs9 := hs_9
  refine k_rwV (y := vZ (z)) (by rw [synR_u hs9 hsy]) ?_
  refine k_istore_n hm hl [(1, vZ (z)), (0, .ref (D 0))] (by decide) rfl dX7_judged_9 (fun ls hl => ?_)
  refine k_iload_n hm hl 0 rfl dX7_judged_10 ?_
  refine k_iconst (n := -1) hm dX7_judged_11 ?_
  refine k_icmpeq (tgt := 20) hm dX7_judged_12 (by decide) (by omega) (fun c_11 => absurd c_11 (by omega)) (fun c_11 => ?_)
  refine k_bipush (n := -10) hm dX7_judged_15 rfl ?_
  refine k_iload_n hm hl 0 rfl dX7_judged_17 ?_
  refine k_isub hm dX7_judged_18 ?_
  exact k_iret (post := _) hm hQ rfl rfl hw (⟨_, _, _, _, _, _, rfl, rfl⟩) (by omega) (by omega) dX7_judged_19
set_option maxHeartbeats 4000000 in
set_option maxRecDepth 100000 in
theorem c_m_carryOut_er (l : Launch) (G : kG) (D : Nat → Nat) (sa : Nat → Int64) (pa : Nat → Int64) (pn : Nat) (tx : Nat → Nat) (tn : Nat) (rf : Nat) (ro : Nat → Nat) (wk : Nat) (mb : Nat → Nat) (so : Nat) (kd : Nat → Nat) (nu : Nat → Nat) (it : Nat) (ti : Nat) (rd : Nat) (ad : Nat → Int64) (z : Int) (htn : tn ≤ 120) (htb : ∀ i, i < tn → tx i ≤ 127) (hsy : synR tx tn 120 0 z) (hz : 0 ≤ z ∧ z ≤ 1000) : kCM l yX7_carryOut wsX7_carryOut 5 113 0 0 G [.ref (D 0)] (wMod G D sa pa pn tx tn rf ro wk mb so kd nu it ti rd ad) (fun vv uu => ∃ (so2 : Nat), ∃ (kd2 : Nat → Nat), ∃ (nu2 : Nat → Nat), ∃ (it2 : Nat), ∃ (ti2 : Nat), ∃ (rd2 : Nat), vv = some (vZ (-10 - z)) ∧ uu = wMod G D sa pa pn tx tn 0 ro wk mb so2 kd2 nu2 it2 ti2 rd2 ad) := by
  refine kCM.of (cc := cX7_carryOut) (maxL := 2) (ret := (some .int)) (by decide) rfl (Nat.le_of_ble_eq_true rfl) ?_
  intro p e s m args below meth c A ls Qz hQ hin hm hw hl
  have hl : lv_has ls 2 [(0, .ref (D 0))] := hl
  have i7 : ∀ w ∈ wsX70, w ∈ wsX7_carryOut := by decide +kernel
  refine k_aload_n hm hl 0 rfl dX7_carryOut_0 ?_
  refine k_iconstN hm 0 dX7_carryOut_1 ?_
  refine k_put (T := TX7) hm hw 0 5 (wMod G D sa pa pn tx tn 0 ro wk mb so kd nu it ti rd ad) i7 tyX7 tyX7_ok nmX7 rfl rfl (by decide) (by decide +kernel) rfl (tyX7_ok 5 (by decide)) rfl rfl (Nat.le_of_ble_eq_true rfl) rfl dX7_carryOut_2 (fun H locs hw => ?_)
  refine k_aload_n hm hl 0 rfl dX7_carryOut_5 ?_
  refine k_callV (n := 0) (As := []) (rest := []) (wr := []) hm hw hl (c_m_errorAt l G D sa pa pn tx tn 0 ro wk mb so kd nu it ti rd ad (by first | assumption | omega) (by first | assumption | omega)) gX7_carryOut_X7_errorAt rfl (by decide +kernel) ⟨by decide, by decide⟩ (ci := 7) rfl 0 rfl [0, 1, 2, 3, 4, 5, 6, 7, 8] [] (by decide) rfl rfl (by decide) (by decide) rfl rfl (by simp [Value.category]) ⟨by decide, by decide⟩ dX7_carryOut_6 (fun v w1 H locs hp hw => ?_)
  obtain ⟨so2_2, kd2_3, nu2_4, it2_5, ti2_6, rd2_7, z_8, rfl, rfl, hs_9, hz_10⟩ := hp
  have hw := hw.sub (ws' := wMod G D sa pa pn tx tn 0 ro wk mb so2_2 kd2_3 nu2_4 it2_5 ti2_6 rd2_7 ad) [0, 1, 2, 3, 4, 5, 6, 7, 8] (by decide) rfl
  refine W.eq (g2 := F0 m 9 ls [vZ (z_8)]) rfl ?_
  have hs9 := hs_9
  refine k_rwV (y := vZ (z)) (by rw [synR_u hs9 hsy]) ?_
  refine k_istore_n hm hl [(1, vZ (z)), (0, .ref (D 0))] (by decide) rfl dX7_carryOut_9 (fun ls hl => ?_)
  refine k_iload_n hm hl 0 rfl dX7_carryOut_10 ?_
  refine k_iconst (n := -1) hm dX7_carryOut_11 ?_
  refine k_icmpeq (tgt := 20) hm dX7_carryOut_12 (by decide) (by omega) (fun c_11 => absurd c_11 (by omega)) (fun c_11 => ?_)
  refine k_bipush (n := -10) hm dX7_carryOut_15 rfl ?_
  refine k_iload_n hm hl 0 rfl dX7_carryOut_17 ?_
  refine k_isub hm dX7_carryOut_18 ?_
  exact k_iret (post := _) hm hQ rfl rfl hw (⟨_, _, _, _, _, _, rfl, rfl⟩) (by omega) (by omega) dX7_carryOut_19
set_option maxHeartbeats 4000000 in
set_option maxRecDepth 100000 in
theorem c_m_carryOut_ok (l : Launch) (G : kG) (D : Nat → Nat) (sa : Nat → Int64) (pa : Nat → Int64) (pn : Nat) (tx : Nat → Nat) (tn : Nat) (rf : Nat) (ro : Nat → Nat) (wk : Nat) (mb : Nat → Nat) (so : Nat) (kd : Nat → Nat) (nu : Nat → Nat) (it : Nat) (ti : Nat) (rd : Nat) (ad : Nat → Int64) (R : Nat) (sp : Bool) (K : Nat → Nat → Nat) (w : Nat → Nat) (y : Nat → Nat) (sv : Nat → PSt) (hmo : MOk sa R sp K w y) (hpa : PaOk pa pn sv) (htn : tn ≤ 120) (htb : ∀ i, i < tn → tx i ≤ 127) (hsy : synR tx tn 120 0 (-1)) : kCM l yX7_carryOut wsX7_carryOut 5 113 0 0 G [.ref (D 0)] (wMod G D sa pa pn tx tn rf ro wk mb so kd nu it ti rd ad) (fun vv uu => ∃ (q : Nat), ∃ (K2 : Nat → Nat → Nat), ∃ (w2 : Nat → Nat), ∃ (sa2 : Nat → Int64), ∃ (pa2 : Nat → Int64), ∃ (ro2 : Nat → Nat), ∃ (wk2 : Nat), ∃ (so2 : Nat), ∃ (kd2 : Nat → Nat), ∃ (nu2 : Nat → Nat), ∃ (it2 : Nat), ∃ (ti2 : Nat), ∃ (rd2 : Nat), vv = some (vN (q)) ∧ uu = wMod G D sa2 pa2 (Nat.min (pn + 1) 4) tx tn 0 ro2 wk2 mb so2 kd2 nu2 it2 ti2 rd2 ad ∧ (ftS tx tn (40 - R) 0 (sumM (K (R - 1)) (w (R - 1))) q) ∧ (cyS tx tn q 0 R K w K2 w2) ∧ (MOk sa2 (R + q) sp K2 w2 y) ∧ (PaOk pa2 (Nat.min (pn + 1) 4) (svPush (R, sp, K, w, y) sv))) := by
  refine kCM.of (cc := cX7_carryOut) (maxL := 2) (ret := (some .int)) (by decide) rfl (Nat.le_of_ble_eq_true rfl) ?_
  intro p e s m args below meth c A ls Qz hQ hin hm hw hl
  have hl : lv_has ls 2 [(0, .ref (D 0))] := hl
  have i7 : ∀ w ∈ wsX70, w ∈ wsX7_carryOut := by decide +kernel
  have hR := hmo.1.1
  refine k_aload_n hm hl 0 rfl dX7_carryOut_0 ?_
  refine k_iconstN hm 0 dX7_carryOut_1 ?_
  refine k_put (T := TX7) hm hw 0 5 (wMod G D sa pa pn tx tn 0 ro wk mb so kd nu it ti rd ad) i7 tyX7 tyX7_ok nmX7 rfl rfl (by decide) (by decide +kernel) rfl (tyX7_ok 5 (by decide)) rfl rfl (Nat.le_of_ble_eq_true rfl) rfl dX7_carryOut_2 (fun H locs hw => ?_)
  refine k_aload_n hm hl 0 rfl dX7_carryOut_5 ?_
  refine k_callV (n := 0) (As := []) (rest := []) (wr := []) hm hw hl (c_m_errorAt l G D sa pa pn tx tn 0 ro wk mb so kd nu it ti rd ad (by first | assumption | omega) (by first | assumption | omega)) gX7_carryOut_X7_errorAt rfl (by decide +kernel) ⟨by decide, by decide⟩ (ci := 7) rfl 0 rfl [0, 1, 2, 3, 4, 5, 6, 7, 8] [] (by decide) rfl rfl (by decide) (by decide) rfl rfl (by simp [Value.category]) ⟨by decide, by decide⟩ dX7_carryOut_6 (fun v w1 H locs hp hw => ?_)
  obtain ⟨so2_2, kd2_3, nu2_4, it2_5, ti2_6, rd2_7, z_8, rfl, rfl, hs_9, hz_10⟩ := hp
  have hw := hw.sub (ws' := wMod G D sa pa pn tx tn 0 ro wk mb so2_2 kd2_3 nu2_4 it2_5 ti2_6 rd2_7 ad) [0, 1, 2, 3, 4, 5, 6, 7, 8] (by decide) rfl
  refine W.eq (g2 := F0 m 9 ls [vZ (z_8)]) rfl ?_
  have hs9 := hs_9
  refine k_rwV (y := vZ (-1)) (by rw [synR_u hs9 hsy]) ?_
  refine k_istore_n hm hl [(1, vZ (-1)), (0, .ref (D 0))] (by decide) rfl dX7_carryOut_9 (fun ls hl => ?_)
  refine k_iload_n hm hl 0 rfl dX7_carryOut_10 ?_
  refine k_iconst (n := -1) hm dX7_carryOut_11 ?_
  refine k_icmpeq (tgt := 20) hm dX7_carryOut_12 (by decide) (by omega) (fun c_11 => ?_) (fun c_11 => absurd c_11 (by omega))
  refine k_aload_n hm hl 1 rfl dX7_carryOut_20 ?_
  refine k_callV (n := 0) (As := []) (rest := []) (wr := []) hm hw hl (c_m_saves l G D sa pa pn tx tn 0 ro wk mb so2_2 kd2_3 nu2_4 it2_5 ti2_6 rd2_7 ad R sp K w y sv (by first | assumption | omega) (by first | assumption | omega)) gX7_carryOut_X7_saves rfl (by decide +kernel) ⟨by decide, by decide⟩ (ci := 7) rfl 0 rfl [0, 1, 2, 3, 4, 5, 6, 7, 8] [] (by decide) rfl rfl (by decide) (by decide) rfl rfl (by simp [Value.category]) ⟨by decide, by decide⟩ dX7_carryOut_21 (fun v w1 H locs hp hw => ?_)
  obtain ⟨pa2_13, rfl, rfl, hpa2_14⟩ := hp
  have hw := hw.sub (ws' := wMod G D sa pa2_13 (Nat.min (pn + 1) 4) tx tn 0 ro wk mb so2_2 kd2_3 nu2_4 it2_5 ti2_6 rd2_7 ad) [0, 1, 2, 3, 4, 5, 6, 7, 8] (by decide) rfl
  refine W.eq (g2 := F0 m 24 ls []) rfl ?_
  have hpa9 := hpa2_14
  refine k_aload_n hm hl 1 rfl dX7_carryOut_24 ?_
  refine k_callV (n := 0) (As := []) (rest := []) (wr := []) hm hw hl (c_m_addsTold l G D sa pa2_13 (Nat.min (pn + 1) 4) tx tn 0 ro wk mb so2_2 kd2_3 nu2_4 it2_5 ti2_6 rd2_7 ad R sp K w y (by first | assumption | omega) (by first | assumption | omega) (by first | assumption | omega) (by first | assumption | omega)) gX7_carryOut_X7_addsTold rfl (by decide +kernel) ⟨by decide, by decide⟩ (ci := 7) rfl 0 rfl [0, 1, 2, 3, 4, 5, 6, 7, 8] [] (by decide) rfl rfl (by decide) (by decide) rfl rfl (by simp [Value.category]) ⟨by decide, by decide⟩ dX7_carryOut_25 (fun v w1 H locs hp hw => ?_)
  obtain ⟨q_16, K2_17, w2_18, sa2_19, ro2_20, wk2_21, so2_22, kd2_23, nu2_24, it2_25, ti2_26, rd2_27, rfl, rfl, hq_28, hcy_29, hmo2_30⟩ := hp
  have hw := hw.sub (ws' := wMod G D sa2_19 pa2_13 (Nat.min (pn + 1) 4) tx tn 0 ro2_20 wk2_21 mb so2_22 kd2_23 nu2_24 it2_25 ti2_26 rd2_27 ad) [0, 1, 2, 3, 4, 5, 6, 7, 8] (by decide) rfl
  refine W.eq (g2 := F0 m 28 ls [vN (q_16)]) rfl ?_
  exact k_iret (post := _) hm hQ rfl rfl hw (⟨_, _, _, _, _, _, _, _, _, _, _, _, _, rfl, rfl, hq_28, hcy_29, hmo2_30, hpa9⟩) (by omega) (by omega) dX7_carryOut_28
set_option maxHeartbeats 4000000 in
set_option maxRecDepth 100000 in
theorem c_m_judged_ok (l : Launch) (G : kG) (D : Nat → Nat) (sa : Nat → Int64) (pa : Nat → Int64) (pn : Nat) (tx : Nat → Nat) (tn : Nat) (rf : Nat) (ro : Nat → Nat) (wk : Nat) (mb : Nat → Nat) (so : Nat) (kd : Nat → Nat) (nu : Nat → Nat) (it : Nat) (ti : Nat) (rd : Nat) (ad : Nat → Int64) (R : Nat) (sp : Bool) (K : Nat → Nat → Nat) (w : Nat → Nat) (y : Nat → Nat) (hmo : MOk sa R sp K w y) (htn : tn ≤ 120) (htb : ∀ i, i < tn → tx i ≤ 127) (hsy : synR tx tn 120 0 (-1)) : kCM l yX7_judged wsX7_judged 5 113 0 0 G [.ref (D 0)] (wMod G D sa pa pn tx tn rf ro wk mb so kd nu it ti rd ad) (fun vv uu => ∃ (q : Nat), ∃ (sa2 : Nat → Int64), ∃ (ad2 : Nat → Int64), ∃ (ro2 : Nat → Nat), ∃ (wk2 : Nat), ∃ (so2 : Nat), ∃ (kd2 : Nat → Nat), ∃ (nu2 : Nat → Nat), ∃ (it2 : Nat), ∃ (ti2 : Nat), ∃ (rd2 : Nat), vv = some (vN (q)) ∧ uu = wMod G D sa2 pa pn tx tn 0 ro2 wk2 mb so2 kd2 nu2 it2 ti2 rd2 ad2 ∧ (ftS tx tn (40 - R) 0 (sumM (K (R - 1)) (w (R - 1))) q) ∧ (MOk sa2 R sp K w y)) := by
  refine kCM.of (cc := cX7_judged) (maxL := 4) (ret := (some .int)) (by decide) rfl (Nat.le_of_ble_eq_true rfl) ?_
  intro p e s m args below meth c A ls Qz hQ hin hm hw hl
  have hl : lv_has ls 4 [(0, .ref (D 0))] := hl
  have i7 : ∀ w ∈ wsX70, w ∈ wsX7_judged := by decide +kernel
  have hR := hmo.1.1
  refine k_aload_n hm hl 0 rfl dX7_judged_0 ?_
  refine k_iconstN hm 0 dX7_judged_1 ?_
  refine k_put (T := TX7) hm hw 0 5 (wMod G D sa pa pn tx tn 0 ro wk mb so kd nu it ti rd ad) i7 tyX7 tyX7_ok nmX7 rfl rfl (by decide) (by decide +kernel) rfl (tyX7_ok 5 (by decide)) rfl rfl (Nat.le_of_ble_eq_true rfl) rfl dX7_judged_2 (fun H locs hw => ?_)
  refine k_aload_n hm hl 0 rfl dX7_judged_5 ?_
  refine k_callV (n := 0) (As := []) (rest := []) (wr := []) hm hw hl (c_m_errorAt l G D sa pa pn tx tn 0 ro wk mb so kd nu it ti rd ad (by first | assumption | omega) (by first | assumption | omega)) gX7_judged_X7_errorAt rfl (by decide +kernel) ⟨by decide, by decide⟩ (ci := 7) rfl 0 rfl [0, 1, 2, 3, 4, 5, 6, 7, 8] [] (by decide) rfl rfl (by decide) (by decide) rfl rfl (by simp [Value.category]) ⟨by decide, by decide⟩ dX7_judged_6 (fun v w1 H locs hp hw => ?_)
  obtain ⟨so2_2, kd2_3, nu2_4, it2_5, ti2_6, rd2_7, z_8, rfl, rfl, hs_9, hz_10⟩ := hp
  have hw := hw.sub (ws' := wMod G D sa pa pn tx tn 0 ro wk mb so2_2 kd2_3 nu2_4 it2_5 ti2_6 rd2_7 ad) [0, 1, 2, 3, 4, 5, 6, 7, 8] (by decide) rfl
  refine W.eq (g2 := F0 m 9 ls [vZ (z_8)]) rfl ?_
  have hs9 := hs_9
  refine k_rwV (y := vZ (-1)) (by rw [synR_u hs9 hsy]) ?_
  refine k_istore_n hm hl [(1, vZ (-1)), (0, .ref (D 0))] (by decide) rfl dX7_judged_9 (fun ls hl => ?_)
  refine k_iload_n hm hl 0 rfl dX7_judged_10 ?_
  refine k_iconst (n := -1) hm dX7_judged_11 ?_
  refine k_icmpeq (tgt := 20) hm dX7_judged_12 (by decide) (by omega) (fun c_11 => ?_) (fun c_11 => absurd c_11 (by omega))
  refine k_iconstN hm 0 dX7_judged_20 ?_
  refine k_istore_n hm hl [(2, vN (0)), (1, vZ (-1)), (0, .ref (D 0))] (by decide) rfl dX7_judged_21 (fun ls hl => ?_)
  have loop_22 : ∀ (fu : Nat) (k : Nat) (g : Nat → Int64) (hk : k ≤ 205) (hz : ∀ j, j < k → g j = sa j) (H : Heap) (locs : List Loc) (ls : Array Slot), 205 - k < fu → kW G A s (wMod G D sa pa pn tx tn 0 ro wk mb so2_2 kd2_3 nu2_4 it2_5 ti2_6 rd2_7 g) H locs → lv_has ls 4 [(0, .ref (D 0)), (2, vN (k))] → W p l e { frames := 5, cells := 0, slots := 0, locals := 113 } s m args below meth c H locs 0 0 Qz (F0 m 22 ls []) := by
    intro fu
    induction fu with
    | zero => intro k g hk hz H locs ls hfu; exact absurd hfu (Nat.not_lt_zero _)
    | succ fu ih_22 =>
      intro k g hk hz H locs ls hfu hw hl
      refine k_iload_n hm hl 1 rfl dX7_judged_22 ?_
      refine k_sipushN hm 205 dX7_judged_23 rfl ?_
      refine k_icmpge (tgt := 47) hm dX7_judged_26 (by decide) (by omega) (fun c_12 => ?_) (fun c_12 => ?_)
      · refine k_aload_n hm hl 0 rfl dX7_judged_47 ?_
        refine k_callV (n := 0) (As := []) (rest := []) (wr := []) hm hw hl (c_m_addsTold l G D sa pa pn tx tn 0 ro wk mb so2_2 kd2_3 nu2_4 it2_5 ti2_6 rd2_7 g R sp K w y (by first | assumption | omega) (by first | assumption | omega) (by first | assumption | omega) (by first | assumption | omega)) gX7_judged_X7_addsTold rfl (by decide +kernel) ⟨by decide, by decide⟩ (ci := 7) rfl 0 rfl [0, 1, 2, 3, 4, 5, 6, 7, 8] [] (by decide) rfl rfl (by decide) (by decide) rfl rfl (by simp [Value.category]) ⟨by decide, by decide⟩ dX7_judged_48 (fun v w1 H locs hp hw => ?_)
        obtain ⟨q_14, K2_15, w2_16, sa2_17, ro2_18, wk2_19, so2_20, kd2_21, nu2_22, it2_23, ti2_24, rd2_25, rfl, rfl, hq_26, hcy_27, hmo2_28⟩ := hp
        have hw := hw.sub (ws' := wMod G D sa2_17 pa pn tx tn 0 ro2_18 wk2_19 mb so2_20 kd2_21 nu2_22 it2_23 ti2_24 rd2_25 g) [0, 1, 2, 3, 4, 5, 6, 7, 8] (by decide) rfl
        refine W.eq (g2 := F0 m 51 ls [vN (q_14)]) rfl ?_
        have hq9 := hq_26
        refine k_istore_n hm hl [(2, vN (q_14)), (0, .ref (D 0))] (by decide) rfl dX7_judged_51 (fun ls hl => ?_)
        refine k_iconstN hm 0 dX7_judged_52 ?_
        refine k_istore_n hm hl [(3, vN (0)), (2, vN (q_14)), (0, .ref (D 0))] (by decide) rfl dX7_judged_53 (fun ls hl => ?_)
        have loop_54 : ∀ (fu : Nat) (k2 : Nat) (g2 : Nat → Int64) (hk2 : k2 ≤ 205) (hz2 : ∀ j, j < k2 → g2 j = g j) (H : Heap) (locs : List Loc) (ls : Array Slot), 205 - k2 < fu → kW G A s (wMod G D g2 pa pn tx tn 0 ro2_18 wk2_19 mb so2_20 kd2_21 nu2_22 it2_23 ti2_24 rd2_25 g) H locs → lv_has ls 4 [(0, .ref (D 0)), (2, vN (q_14)), (3, vN (k2))] → W p l e { frames := 5, cells := 0, slots := 0, locals := 113 } s m args below meth c H locs 0 0 Qz (F0 m 54 ls []) := by
          intro fu
          induction fu with
          | zero => intro k2 g2 hk2 hz2 H locs ls hfu; exact absurd hfu (Nat.not_lt_zero _)
          | succ fu ih_54 =>
            intro k2 g2 hk2 hz2 H locs ls hfu hw hl
            refine k_iload_n hm hl 2 rfl dX7_judged_54 ?_
            refine k_sipushN hm 205 dX7_judged_55 rfl ?_
            refine k_icmpge (tgt := 79) hm dX7_judged_58 (by decide) (by omega) (fun c_29 => ?_) (fun c_29 => ?_)
            · refine k_iload_n hm hl 1 rfl dX7_judged_79 ?_
              exact k_iret (post := _) hm hQ rfl rfl hw (⟨_, _, _, _, _, _, _, _, _, _, _, rfl, rfl, hq9, MOk_ext hmo (fun k q => by rw [hz2 k (by omega), hz k (by omega)])⟩) (by omega) (by omega) dX7_judged_80
            · refine k_aload_n hm hl 0 rfl dX7_judged_61 ?_
              refine k_get (T := TX7) hm hw 0 0 i7 rfl rfl (by decide) (by decide +kernel) rfl dX7_judged_62 ?_
              refine k_iload_n hm hl 2 rfl dX7_judged_65 ?_
              refine k_aload_n hm hl 0 rfl dX7_judged_66 ?_
              refine k_get (T := TX7) hm hw 0 15 i7 rfl rfl (by decide) (by decide +kernel) rfl dX7_judged_67 ?_
              refine k_iload_n hm hl 2 rfl dX7_judged_70 ?_
              refine k_lald hm hw 8 rfl (by omega) dX7_judged_71 ?_
              refine k_last hm hw 1 (wMod G D (vp_updL g2 k2 (g k2)) pa pn tx tn 0 ro2_18 wk2_19 mb so2_20 kd2_21 nu2_22 it2_23 ti2_24 rd2_25 g) rfl (by omega) rfl dX7_judged_72 (fun H locs hw => ?_)
              refine k_iincN hm hl 2 1 rfl [(3, vN (k2 + 1)), (0, .ref (D 0)), (2, vN (q_14))] (by decide) rfl dX7_judged_73 (fun ls hl => ?_)
              refine k_goto (tgt := 54) hm dX7_judged_76 (by decide) ?_
              exact ih_54  (k2 + 1) (vp_updL g2 k2 (g k2)) (by first | assumption | omega) (fun j q => by rcases Nat.lt_or_ge j k2 with z2 | z2; rw [updL_n (by omega)]; exact hz2 j z2; rw [show j = k2 by omega, updL_s]) _ _ _ (by omega) hw (lv_sub hl [1, 2, 0] rfl)
        exact loop_54 (205 - 0 + 1) 0 sa2_17 (by first | assumption | omega) (fun j q => absurd q (by omega)) _ _ _ (Nat.lt_succ_self _) hw (lv_sub hl [2, 1, 0] rfl)
      · refine k_aload_n hm hl 0 rfl dX7_judged_29 ?_
        refine k_get (T := TX7) hm hw 0 15 i7 rfl rfl (by decide) (by decide +kernel) rfl dX7_judged_30 ?_
        refine k_iload_n hm hl 1 rfl dX7_judged_33 ?_
        refine k_aload_n hm hl 0 rfl dX7_judged_34 ?_
        refine k_get (T := TX7) hm hw 0 0 i7 rfl rfl (by decide) (by decide +kernel) rfl dX7_judged_35 ?_
        refine k_iload_n hm hl 1 rfl dX7_judged_38 ?_
        refine k_lald hm hw 1 rfl (by omega) dX7_judged_39 ?_
        refine k_last hm hw 8 (wMod G D sa pa pn tx tn 0 ro wk mb so2_2 kd2_3 nu2_4 it2_5 ti2_6 rd2_7 (vp_updL g k (sa k))) rfl (by omega) rfl dX7_judged_40 (fun H locs hw => ?_)
        refine k_iincN hm hl 1 1 rfl [(2, vN (k + 1)), (0, .ref (D 0))] (by decide) rfl dX7_judged_41 (fun ls hl => ?_)
        refine k_goto (tgt := 22) hm dX7_judged_44 (by decide) ?_
        exact ih_22  (k + 1) (vp_updL g k (sa k)) (by first | assumption | omega) (fun j q => by rcases Nat.lt_or_ge j k with z2 | z2; rw [updL_n (by omega)]; exact hz j z2; rw [show j = k by omega, updL_s]) _ _ _ (by omega) hw (lv_sub hl [1, 0] rfl)
  exact loop_22 (205 - 0 + 1) 0 ad (by first | assumption | omega) (fun j q => absurd q (by omega)) _ _ _ (Nat.lt_succ_self _) hw (lv_sub hl [2, 0] rfl)
