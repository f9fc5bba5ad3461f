section KROWAF
variable {p : Program} {l : Launch} {e : Env} {R : Room} {s : State} {m : MethodId} {args : Array Value} {below : List Frame} {meth : Method} {c : Code} {H : Heap} {locs : List Loc} {cells slots : Nat} {Q : State → Prop}
variable {cc : ByteArray} {pc nL : Nat} {ls : Array Slot} {rest : List Value} {Ts : List Cond} {own : String} {ret : Option FieldType} {G : kG} {A : Nat → Prop} {ws : va_W} {ll : List (Nat × Value)}
theorem k_lcmpB (hm : kM p m c cc nL s args Ts own meth ret) {b : Bool} (hdg : decode cc pc = .ok (.lcmp, 1)) (k : W p l e R s m args below meth c H locs cells slots Q (F0 m (pc + 1) ls (.int (iI (bI b - 1)) :: rest))) : W p l e R s m args below meth c H locs cells slots Q (F0 m pc ls (.long (lI 1) :: .long (lI (bI b)) :: rest)) := by
  refine W.lcmp hm.1 hm.2.1 hdg ?_
  rw [show lg_cmp (lI (bI b)) (lI 1) = iI (bI b - 1) from by cases b <;> decide +kernel]
  exact k
end KROWAF
theorem MOk_spiral {sa : Nat → Int64} {R : Nat} {sp b : Bool} {K : Nat → Nat → Nat} {w y : Nat → Nat} {z : Int64} (h : MOk sa R sp K w y) (hz : z = lI (bI b)) : MOk (vp_updL sa 1 z) R b K w y := by
  obtain ⟨v, a0, a1, a2, a3⟩ := h
  exact ⟨v, by rw [updL_n (by omega)]; exact a0, by rw [updL_s, hz], fun j hj => by rw [updL_n (by omega)]; exact a2 j hj, fun r hr => ⟨by rw [updL_n (by omega)]; exact (a3 r hr).1, fun i hi => by rw [updL_n (by omega)]; exact (a3 r hr).2 i hi⟩⟩
set_option maxHeartbeats 4000000 in
set_option maxRecDepth 100000 in
theorem c_m_setSpiral (l : Launch) (G : kG) (D : Nat → Nat) (sa : Nat → Int64) (pa : Nat → Int64) (pn : Nat) (tx : Nat → Nat) (tn : Nat) (rf : Nat) (ro : Nat → Nat) (wk : Nat) (mb : Nat → Nat) (so : Nat) (kd : Nat → Nat) (nu : Nat → Nat) (it : Nat) (ti : Nat) (rd : Nat) (ad : Nat → Int64) (R : Nat) (sp : Bool) (K : Nat → Nat → Nat) (w : Nat → Nat) (y : Nat → Nat) (sv : Nat → PSt) (b : Bool) (hmo : MOk sa R sp K w y) (hpa : PaOk pa pn sv) : kCM l yX7_setSpiral wsX7_setSpiral 1 21 0 0 G [.ref (D 0), vB (b)] (wMod G D sa pa pn tx tn rf ro wk mb so kd nu it ti rd ad) (fun vv uu => ∃ (sa2 : Nat → Int64), ∃ (pa2 : Nat → Int64), vv = some (vB (sp)) ∧ uu = wMod G D sa2 pa2 (Nat.min (pn + 1) 4) tx tn 0 ro wk mb so kd nu it ti rd ad ∧ (MOk sa2 R b K w y) ∧ (PaOk pa2 (Nat.min (pn + 1) 4) (svPush (R, sp, K, w, y) sv))) := by
  refine kCM.of (cc := cX7_setSpiral) (maxL := 3) (ret := (some .boolean)) (by decide) rfl (Nat.le_of_ble_eq_true rfl) ?_
  intro p e s m args below meth c A ls Qz hQ hin hm hw hl
  have hl : lv_has ls 3 [(0, .ref (D 0)), (1, vB (b))] := hl
  have i7 : ∀ w ∈ wsX70, w ∈ wsX7_setSpiral := by decide +kernel
  have hb01 := bI_01 sp
  refine k_aload_n hm hl 0 rfl dX7_setSpiral_0 ?_
  refine k_iconstN hm 0 dX7_setSpiral_1 ?_
  refine k_put (T := TX7) hm hw 0 5 (wMod G D sa pa pn tx tn 0 ro wk mb so kd nu it ti rd ad) i7 tyX7 tyX7_ok nmX7 rfl rfl (by decide) (by decide +kernel) rfl (tyX7_ok 5 (by decide)) rfl rfl (Nat.le_of_ble_eq_true rfl) rfl dX7_setSpiral_2 (fun H locs hw => ?_)
  refine k_aload_n hm hl 0 rfl dX7_setSpiral_5 ?_
  refine k_callV (n := 0) (As := []) (rest := []) (wr := []) hm hw hl (c_m_saves l G D sa pa pn tx tn 0 ro wk mb so kd nu it ti rd ad R sp K w y sv (by first | assumption | omega) (by first | assumption | omega)) gX7_setSpiral_X7_saves rfl (by decide +kernel) ⟨by decide, by decide⟩ (ci := 7) rfl 0 rfl [0, 1, 2, 3, 4, 5, 6, 7, 8] [] (by decide) rfl rfl (by decide) (by decide) rfl rfl (by simp [Value.category]) ⟨by decide, by decide⟩ dX7_setSpiral_6 (fun v w1 H locs hp hw => ?_)
  obtain ⟨pa2_2, rfl, rfl, hpa2_3⟩ := hp
  have hw := hw.sub (ws' := wMod G D sa pa2_2 (Nat.min (pn + 1) 4) tx tn 0 ro wk mb so kd nu it ti rd ad) [0, 1, 2, 3, 4, 5, 6, 7, 8] (by decide) rfl
  refine W.eq (g2 := F0 m 9 ls []) rfl ?_
  have hpa9 := hpa2_3
  refine k_aload_n hm hl 0 rfl dX7_setSpiral_9 ?_
  refine k_get (T := TX7) hm hw 0 0 i7 rfl rfl (by decide) (by decide +kernel) rfl dX7_setSpiral_10 ?_
  refine k_iconstN hm 1 dX7_setSpiral_13 ?_
  refine k_lald hm hw 1 rfl (by omega) dX7_setSpiral_14 ?_
  rw [show sa 1 = lI (bI sp) from hmo.2.2.1]
  refine k_lconst (n := 1) hm dX7_setSpiral_15 ?_
  refine k_lcmpB (b := sp) hm dX7_setSpiral_16 ?_
  refine k_ifne (tgt := 24) hm dX7_setSpiral_17 (by decide) (by omega) (fun c_4 => ?_) (fun c_4 => ?_)
  · have hsp : sp = false := by
                              have h2 := bI_01 sp
                              cases hq : sp with
                              | true => first | rfl | (exfalso; rw [hq, bI_t] at c_4; omega)
                              | false => first | rfl | (exfalso; rw [hq, bI_f] at c_4; omega)
    refine k_iconstN hm 0 dX7_setSpiral_24 ?_
    refine k_istore_n hm hl [(2, vN (0)), (0, .ref (D 0)), (1, vB (b))] (by decide) rfl dX7_setSpiral_25 (fun ls hl => ?_)
    refine k_aload_n hm hl 1 rfl dX7_setSpiral_26 ?_
    refine k_get (T := TX7) hm hw 0 0 i7 rfl rfl (by decide) (by decide +kernel) rfl dX7_setSpiral_27 ?_
    refine k_iconstN hm 1 dX7_setSpiral_30 ?_
    refine k_iload_n hm hl 2 rfl dX7_setSpiral_31 ?_
    refine k_ifeqB (tgt := 39) hm dX7_setSpiral_32 (by decide) (fun c_5 => ?_) (fun c_5 => ?_)
    · have hb0 : b = false := by cases b with | false => rfl | true => exact absurd c_5 (by decide)
      refine k_lconst (n := 0) hm dX7_setSpiral_39 ?_
      refine k_last hm hw 1 (wMod G D (vp_updL sa 1 (lI 0)) pa2_2 (Nat.min (pn + 1) 4) tx tn 0 ro wk mb so kd nu it ti rd ad) rfl (by omega) rfl dX7_setSpiral_40 (fun H locs hw => ?_)
      refine k_iload_n hm hl 0 rfl dX7_setSpiral_41 ?_
      exact k_iret (post := _) hm hQ rfl (kN_bool false) hw (⟨_, _, by rw [hsp]; rfl, rfl, MOk_spiral hmo (by rw [hb0]; rfl), hpa9⟩) (by omega) (by omega) dX7_setSpiral_42
    · have hb0 : b = true := by cases b with | true => rfl | false => exact absurd c_5 (by decide)
      refine k_lconst (n := 1) hm dX7_setSpiral_35 ?_
      refine k_goto (tgt := 40) hm dX7_setSpiral_36 (by decide) ?_
      refine k_last hm hw 1 (wMod G D (vp_updL sa 1 (lI 1)) pa2_2 (Nat.min (pn + 1) 4) tx tn 0 ro wk mb so kd nu it ti rd ad) rfl (by omega) rfl dX7_setSpiral_40 (fun H locs hw => ?_)
      refine k_iload_n hm hl 0 rfl dX7_setSpiral_41 ?_
      exact k_iret (post := _) hm hQ rfl (kN_bool false) hw (⟨_, _, by rw [hsp]; rfl, rfl, MOk_spiral hmo (by rw [hb0]; rfl), hpa9⟩) (by omega) (by omega) dX7_setSpiral_42
  · have hsp : sp = true := by
                              have h2 := bI_01 sp
                              cases hq : sp with
                              | true => first | rfl | (exfalso; rw [hq, bI_t] at c_4; omega)
                              | false => first | rfl | (exfalso; rw [hq, bI_f] at c_4; omega)
    refine k_iconstN hm 1 dX7_setSpiral_20 ?_
    refine k_goto (tgt := 25) hm dX7_setSpiral_21 (by decide) ?_
    refine k_istore_n hm hl [(2, vN (1)), (0, .ref (D 0)), (1, vB (b))] (by decide) rfl dX7_setSpiral_25 (fun ls hl => ?_)
    refine k_aload_n hm hl 1 rfl dX7_setSpiral_26 ?_
    refine k_get (T := TX7) hm hw 0 0 i7 rfl rfl (by decide) (by decide +kernel) rfl dX7_setSpiral_27 ?_
    refine k_iconstN hm 1 dX7_setSpiral_30 ?_
    refine k_iload_n hm hl 2 rfl dX7_setSpiral_31 ?_
    refine k_ifeqB (tgt := 39) hm dX7_setSpiral_32 (by decide) (fun c_6 => ?_) (fun c_6 => ?_)
    · have hb0 : b = false := by cases b with | false => rfl | true => exact absurd c_6 (by decide)
      refine k_lconst (n := 0) hm dX7_setSpiral_39 ?_
      refine k_last hm hw 1 (wMod G D (vp_updL sa 1 (lI 0)) pa2_2 (Nat.min (pn + 1) 4) tx tn 0 ro wk mb so kd nu it ti rd ad) rfl (by omega) rfl dX7_setSpiral_40 (fun H locs hw => ?_)
      refine k_iload_n hm hl 0 rfl dX7_setSpiral_41 ?_
      exact k_iret (post := _) hm hQ rfl (kN_bool true) hw (⟨_, _, by rw [hsp]; rfl, rfl, MOk_spiral hmo (by rw [hb0]; rfl), hpa9⟩) (by omega) (by omega) dX7_setSpiral_42
    · have hb0 : b = true := by cases b with | true => rfl | false => exact absurd c_6 (by decide)
      refine k_lconst (n := 1) hm dX7_setSpiral_35 ?_
      refine k_goto (tgt := 40) hm dX7_setSpiral_36 (by decide) ?_
      refine k_last hm hw 1 (wMod G D (vp_updL sa 1 (lI 1)) pa2_2 (Nat.min (pn + 1) 4) tx tn 0 ro wk mb so kd nu it ti rd ad) rfl (by omega) rfl dX7_setSpiral_40 (fun H locs hw => ?_)
      refine k_iload_n hm hl 0 rfl dX7_setSpiral_41 ?_
      exact k_iret (post := _) hm hQ rfl (kN_bool true) hw (⟨_, _, by rw [hsp]; rfl, rfl, MOk_spiral hmo (by rw [hb0]; rfl), hpa9⟩) (by omega) (by omega) dX7_setSpiral_42
