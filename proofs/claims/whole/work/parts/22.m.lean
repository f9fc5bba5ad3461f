section KROWM
variable {p : Program} {l : Launch} {e : Env} {R : Room} {s : State} {m : MethodId} {args : Array Value} {below : List Frame} {meth : Method} {c : Code} {H : Heap} {locs : List Loc} {cells slots : Nat} {Q : State → Prop}
variable {cc : ByteArray} {pc nL : Nat} {ls : Array Slot} {rest : List Value} {Ts : List Cond} {own : String} {ret : Option FieldType} {G : kG} {A : Nat → Prop} {ws : va_W} {ll : List (Nat × Value)}
theorem k_ialdZ (hm : kM p m c cc nL s args Ts own meth ret) (hw : kW G A s ws H locs) (q0 : Nat) {a n : Nat} {g : Nat → Int} {i : Nat} (ha : ws[q0]? = some (a, .inl (G.2 0, n, .inl (iF g)))) (hi : i < n ∧ i < 2147483648) (hdg : decode cc pc = .ok (.iaload, 1)) (kk : W p l e R s m args below meth c H locs cells slots Q (F0 m (pc + 1) ls (.int (iI (g i)) :: rest))) : W p l e R s m args below meth c H locs cells slots Q (F0 m pc ls (.int (iI (i : Int)) :: .ref a :: rest)) :=
  k_iald (g := g) hm hw q0 ha (by omega) hdg kk
theorem k_iastZ (hm : kM p m c cc nL s args Ts own meth ret) (hw : kW G A s ws H locs) (q0 : Nat) {a n : Nat} {g : Nat → Int} {i : Nat} {x : Int} (ws2 : va_W) (ha : ws[q0]? = some (a, .inl (G.2 0, n, .inl (iF g)))) (hi : i < n ∧ i < 2147483648) (h2 : ws.set q0 (a, .inl (G.2 0, n, .inl (iF (zU g i x)))) = ws2) (hdg : decode cc pc = .ok (.iastore, 1))
    (kk : ∀ H1 locs1, kW G A s ws2 H1 locs1 → W p l e R s m args below meth c H1 locs1 cells slots Q (F0 m (pc + 1) ls rest)) : W p l e R s m args below meth c H locs cells slots Q (F0 m pc ls (.int (iI x) :: .int (iI (i : Int)) :: .ref a :: rest)) :=
  k_iast (g := g) hm hw q0 ws2 ha (by omega) h2 hdg kk
theorem k_lsw3 (hm : kM p m c cc nL s args Ts own meth ret) {d o1 o2 o3 a1 a2 a3 x : Int} {len t1 t2 t3 t0 : Nat} (hdg : decode cc pc = .ok (.lookupswitch d #[(a1, o1), (a2, o2), (a3, o3)], len)) (hx : -2147483648 ≤ x ∧ x < 2147483648) (hp : ([(a1, o1), (a2, o2), (a3, o3)].zip ([(a1, o1), (a2, o2), (a3, o3)].drop 1)).all (fun (a, next) => a.1 < next.1) = true)
    (h1 : (pc : Int) + o1 = (t1 : Int)) (h2 : (pc : Int) + o2 = (t2 : Int)) (h3 : (pc : Int) + o3 = (t3 : Int)) (h0 : (pc : Int) + d = (t0 : Int))
    (k1 : x = a1 → W p l e R s m args below meth c H locs cells slots Q (F0 m t1 ls rest)) (k2 : x = a2 → W p l e R s m args below meth c H locs cells slots Q (F0 m t2 ls rest)) (k3 : x = a3 → W p l e R s m args below meth c H locs cells slots Q (F0 m t3 ls rest)) (k0 : ¬ x = a1 ∧ ¬ x = a2 ∧ ¬ x = a3 → W p l e R s m args below meth c H locs cells slots Q (F0 m t0 ls rest)) : W p l e R s m args below meth c H locs cells slots Q (F0 m pc ls (.int (iI x) :: rest)) := by
  have q : (iI x).toInt = x := iI_toInt hx.1 hx.2
  by_cases e1 : x = a1
  · exact lv_lookup hm.1 hm.2.1 (off := o1) hdg hp (by rw [q]; simp only [Op.lookupswitch.offset_cons]; rw [if_pos e1.symm]) h1 (k1 e1)
  · by_cases e2 : x = a2
    · exact lv_lookup hm.1 hm.2.1 (off := o2) hdg hp (by rw [q]; simp only [Op.lookupswitch.offset_cons]; rw [if_neg (fun z => e1 z.symm), if_pos e2.symm]) h2 (k2 e2)
    · by_cases e3 : x = a3
      · exact lv_lookup hm.1 hm.2.1 (off := o3) hdg hp (by rw [q]; simp only [Op.lookupswitch.offset_cons]; rw [if_neg (fun z => e1 z.symm), if_neg (fun z => e2 z.symm), if_pos e3.symm]) h3 (k3 e3)
      · exact lv_lookup hm.1 hm.2.1 (off := d) hdg hp (by rw [q]; simp only [Op.lookupswitch.offset_cons]; rw [if_neg (fun z => e1 z.symm), if_neg (fun z => e2 z.symm), if_neg (fun z => e3 z.symm)]; rfl) h0 (k0 ⟨e1, e2, e3⟩)
end KROWM
theorem bt_rng {tb : Nat → Nat} {tn p : Nat} (h : ∀ i, i < tn → tb i ≤ 127) : -1 ≤ bt tb tn p ∧ bt tb tn p ≤ 127 := by
  unfold bt
  by_cases q : p < tn
  · rw [if_pos q]; have := h p q; omega
  · rw [if_neg q]; omega
theorem bt_dg {tb : Nat → Nat} {tn p : Nat} (h : dg tb tn p) : bt tb tn p = (tb p : Int) := by
  unfold bt; rw [if_pos (dg_lt h).1]
theorem isNr_rng {tx : Nat → Nat} {n k p : Nat} {z : Int} (hp : p ≤ n) (h : isNr tx n k p z) : 0 ≤ z ∧ z ≤ n := by
  have := nE_le (tx := tx) (k := k) hp
  rcases h with ⟨_, h⟩ | ⟨_, h⟩ <;> omega
theorem isIr_rng {tx : Nat → Nat} {n p : Nat} {z : Int} (hp : p ≤ n) (h : isIr tx n p z) : 0 ≤ z ∧ z ≤ n := by
  rcases h with ⟨_, h⟩ | ⟨h1, h⟩
  · omega
  · have := kdB_lt h1
    exact isNr_rng (by omega) h
set_option maxHeartbeats 4000000 in
set_option maxRecDepth 100000 in
theorem c_Num_atZ (l : Launch) (G : kG) (a : Nat) (b : Nat) (n : Nat) (f : Nat → Int) (i : Nat) (h : i < n ∧ n < 2147483648) : kCR l yX2_at wsX2_at 0 0 G [.ref (a), vN (i)] ([(a, .inr (2, [.ref (b)])), (b, .inl (G.2 0, n, .inl (iF f)))]) (fun vv => vv = some (vZ (f i))) := by
  refine kCM.of (cc := cX2_at) (maxL := 2) (ret := (some .int)) (by decide) rfl (Nat.le_of_ble_eq_true rfl) ?_
  intro p e s m args below meth c A ls Qz hQ hin hm hw hl
  have hl : lv_has ls 2 [(0, .ref (a)), (1, vN (i))] := hl
  have i2 : ∀ w ∈ wsX20, w ∈ wsX2_at := by decide +kernel
  refine k_iload_n hm hl 1 rfl dX2_at_0 ?_
  refine k_iflt (tgt := 22) hm dX2_at_1 (by decide) (by omega) (fun c_1 => absurd c_1 (by omega)) (fun c_1 => ?_)
  refine k_iload_n hm hl 1 rfl dX2_at_4 ?_
  refine k_aload_n hm hl 0 rfl dX2_at_5 ?_
  refine k_get (T := TX2) hm hw 0 0 i2 rfl rfl (by decide) (by decide +kernel) rfl dX2_at_6 ?_
  refine k_alen hm hw 1 0 rfl rfl dX2_at_9 ?_
  refine k_icmpge (tgt := 22) hm dX2_at_10 (by decide) (by omega) (fun c_2 => absurd c_2 (by omega)) (fun c_2 => ?_)
  refine k_aload_n hm hl 0 rfl dX2_at_13 ?_
  refine k_get (T := TX2) hm hw 0 0 i2 rfl rfl (by decide) (by decide +kernel) rfl dX2_at_14 ?_
  refine k_iload_n hm hl 1 rfl dX2_at_17 ?_
  refine k_ialdZ hm hw 1 rfl (by omega) dX2_at_18 ?_
  refine k_goto (tgt := 23) hm dX2_at_19 (by decide) ?_
  exact k_iret (post := _) hm hQ rfl rfl hw (⟨rfl, rfl⟩) (by omega) (by omega) dX2_at_23
set_option maxHeartbeats 4000000 in
set_option maxRecDepth 100000 in
theorem c_Num_putZ (l : Launch) (G : kG) (a : Nat) (b : Nat) (n : Nat) (f : Nat → Int) (i : Nat) (x : Int) (h : i < n ∧ n < 2147483648) : kCM l yX2_put wsX2_put 0 0 0 0 G [.ref (a), vN (i), vZ (x)] ([(a, .inr (2, [.ref (b)])), (b, .inl (G.2 0, n, .inl (iF f)))]) (fun vv uu => vv = none ∧ uu = [(a, .inr (2, [.ref (b)])), (b, .inl (G.2 0, n, .inl (iF (zU f i x))))]) := by
  refine kCM.of (cc := cX2_put) (maxL := 3) (ret := none) (by decide) rfl (Nat.le_of_ble_eq_true rfl) ?_
  intro p e s m args below meth c A ls Qz hQ hin hm hw hl
  have hl : lv_has ls 3 [(0, .ref (a)), (1, vN (i)), (2, vZ (x))] := hl
  have i2 : ∀ w ∈ wsX20, w ∈ wsX2_put := by decide +kernel
  refine k_iload_n hm hl 1 rfl dX2_put_0 ?_
  refine k_iflt (tgt := 20) hm dX2_put_1 (by decide) (by omega) (fun c_1 => absurd c_1 (by omega)) (fun c_1 => ?_)
  refine k_iload_n hm hl 1 rfl dX2_put_4 ?_
  refine k_aload_n hm hl 0 rfl dX2_put_5 ?_
  refine k_get (T := TX2) hm hw 0 0 i2 rfl rfl (by decide) (by decide +kernel) rfl dX2_put_6 ?_
  refine k_alen hm hw 1 0 rfl rfl dX2_put_9 ?_
  refine k_icmpge (tgt := 20) hm dX2_put_10 (by decide) (by omega) (fun c_2 => absurd c_2 (by omega)) (fun c_2 => ?_)
  refine k_aload_n hm hl 0 rfl dX2_put_13 ?_
  refine k_get (T := TX2) hm hw 0 0 i2 rfl rfl (by decide) (by decide +kernel) rfl dX2_put_14 ?_
  refine k_iload_n hm hl 1 rfl dX2_put_17 ?_
  refine k_iload_n hm hl 2 rfl dX2_put_18 ?_
  refine k_iastZ hm hw 1 ([(a, .inr (2, [.ref (b)])), (b, .inl (G.2 0, n, .inl (iF (zU f i (x)))))]) rfl (by omega) rfl dX2_put_19 (fun H locs hw => ?_)
  exact k_vret hm hQ rfl hw (⟨rfl, rfl⟩) (by omega) (by omega) dX2_put_20
set_option maxHeartbeats 4000000 in
set_option maxRecDepth 100000 in
theorem c_madeByZ (l : Launch) (G : kG) (k : Int) (h : -1 ≤ k ∧ k ≤ 2) : kCR l yX6_madeBy wsX6_madeBy 0 0 G [vZ (k)] ([]) (fun vv => vv = some (vN (mdZ k))) := by
  refine kCM.of (cc := cX6_madeBy) (maxL := 1) (ret := (some .int)) (by decide) rfl (Nat.le_of_ble_eq_true rfl) ?_
  intro p e s m args below meth c A ls Qz hQ hin hm hw hl
  have hl : lv_has ls 1 [(0, vZ (k))] := hl
  refine k_iload_n hm hl 0 rfl dX6_madeBy_0 ?_
  refine k_iconstN hm 1 dX6_madeBy_1 ?_
  refine k_icmpne (tgt := 9) hm dX6_madeBy_2 (by decide) (by omega) (fun c_1 => ?_) (fun c_1 => ?_)
  · refine k_iconstN hm 1 dX6_madeBy_9 ?_
    exact k_iret (post := _) hm hQ rfl rfl hw (⟨by simp only [mdZ]; rw [if_neg (by omega)], rfl⟩) (by omega) (by omega) dX6_madeBy_10
  · refine k_iconstN hm 2 dX6_madeBy_5 ?_
    refine k_goto (tgt := 10) hm dX6_madeBy_6 (by decide) ?_
    exact k_iret (post := _) hm hQ rfl rfl hw (⟨by simp only [mdZ]; rw [if_pos (by omega)], rfl⟩) (by omega) (by omega) dX6_madeBy_10
set_option maxHeartbeats 4000000 in
set_option maxRecDepth 100000 in
theorem c_usedByZ (l : Launch) (G : kG) (k : Int) (h : -1 ≤ k ∧ k ≤ 2) : kCR l yX6_usedBy wsX6_usedBy 0 0 G [vZ (k)] ([]) (fun vv => vv = some (vN (usZ k))) := by
  refine kCM.of (cc := cX6_usedBy) (maxL := 1) (ret := (some .int)) (by decide) rfl (Nat.le_of_ble_eq_true rfl) ?_
  intro p e s m args below meth c A ls Qz hQ hin hm hw hl
  have hl : lv_has ls 1 [(0, vZ (k))] := hl
  refine k_iload_n hm hl 0 rfl dX6_usedBy_0 ?_
  refine k_iconstN hm 2 dX6_usedBy_1 ?_
  refine k_icmpne (tgt := 9) hm dX6_usedBy_2 (by decide) (by omega) (fun c_1 => ?_) (fun c_1 => ?_)
  · refine k_iconstN hm 1 dX6_usedBy_9 ?_
    exact k_iret (post := _) hm hQ rfl rfl hw (⟨by simp only [usZ]; rw [if_neg (by omega)], rfl⟩) (by omega) (by omega) dX6_usedBy_10
  · refine k_iconstN hm 2 dX6_usedBy_5 ?_
    refine k_goto (tgt := 10) hm dX6_usedBy_6 (by decide) ?_
    exact k_iret (post := _) hm hQ rfl rfl hw (⟨by simp only [usZ]; rw [if_pos (by omega)], rfl⟩) (by omega) (by omega) dX6_usedBy_10
set_option maxHeartbeats 4000000 in
set_option maxRecDepth 100000 in
theorem c_rewind (l : Launch) (G : kG) (T : Nat → Nat) (tb : Nat → Nat) (tk : Nat → Int) (tc : Nat → Nat) (tn : Nat) (ti : Nat) (tt : Nat) (tu : Nat) (tm : Nat) (tp : Nat) (te : Int)  : kCM l yX3_rewind wsX3_rewind 0 0 0 0 G [.ref (T 0)] (wPat G T tb tk tc tn ti tt tu tm tp te) (fun vv uu => vv = none ∧ uu = wPat G T tb tk tc tn ti tt tu tm 0 (-1)) := by
  refine kCM.of (cc := cX3_rewind) (maxL := 1) (ret := none) (by decide) rfl (Nat.le_of_ble_eq_true rfl) ?_
  intro p e s m args below meth c A ls Qz hQ hin hm hw hl
  have hl : lv_has ls 1 [(0, .ref (T 0))] := hl
  have i3 : ∀ w ∈ wsX30, w ∈ wsX3_rewind := by decide +kernel
  refine k_aload_n hm hl 0 rfl dX3_rewind_0 ?_
  refine k_iconstN hm 0 dX3_rewind_1 ?_
  refine k_put (T := TX3) hm hw 0 8 (wPat G T tb tk tc tn ti tt tu tm 0 te) i3 tyX3 tyX3_ok nmX3 rfl rfl (by decide) (by decide +kernel) rfl (tyX3_ok 8 (by decide)) rfl rfl (Nat.le_of_ble_eq_true rfl) rfl dX3_rewind_2 (fun H locs hw => ?_)
  refine k_aload_n hm hl 0 rfl dX3_rewind_5 ?_
  refine k_iconst (n := -1) hm dX3_rewind_6 ?_
  refine k_put (T := TX3) hm hw 0 9 (wPat G T tb tk tc tn ti tt tu tm 0 (-1)) i3 tyX3 tyX3_ok nmX3 rfl rfl (by decide) (by decide +kernel) rfl (tyX3_ok 9 (by decide)) rfl rfl (Nat.le_of_ble_eq_true rfl) rfl dX3_rewind_7 (fun H locs hw => ?_)
  exact k_vret hm hQ rfl hw (⟨rfl, rfl⟩) (by omega) (by omega) dX3_rewind_10
set_option maxHeartbeats 4000000 in
set_option maxRecDepth 100000 in
theorem c_hasMore (l : Launch) (G : kG) (T : Nat → Nat) (tb : Nat → Nat) (tk : Nat → Int) (tc : Nat → Nat) (tn : Nat) (ti : Nat) (tt : Nat) (tu : Nat) (tm : Nat) (tp : Nat) (te : Int) (htn : tn ≤ 120) (htp : tp ≤ 1000) : kCR l yX3_hasMore wsX3_hasMore 0 0 G [.ref (T 0)] (wPat G T tb tk tc tn ti tt tu tm tp te) (fun vv => vv = some (vB (decide (tp < tn)))) := by
  refine kCM.of (cc := cX3_hasMore) (maxL := 1) (ret := (some .boolean)) (by decide) rfl (Nat.le_of_ble_eq_true rfl) ?_
  intro p e s m args below meth c A ls Qz hQ hin hm hw hl
  have hl : lv_has ls 1 [(0, .ref (T 0))] := hl
  have i3 : ∀ w ∈ wsX30, w ∈ wsX3_hasMore := by decide +kernel
  refine k_aload_n hm hl 0 rfl dX3_hasMore_0 ?_
  refine k_get (T := TX3) hm hw 0 8 i3 rfl rfl (by decide) (by decide +kernel) rfl dX3_hasMore_1 ?_
  refine k_aload_n hm hl 0 rfl dX3_hasMore_4 ?_
  refine k_get (T := TX3) hm hw 0 3 i3 rfl rfl (by decide) (by decide +kernel) rfl dX3_hasMore_5 ?_
  refine k_icmpge (tgt := 15) hm dX3_hasMore_8 (by decide) (by omega) (fun c_1 => ?_) (fun c_1 => ?_)
  · refine k_iconstN hm 0 dX3_hasMore_15 ?_
    exact k_iret (post := _) hm hQ rfl (kN_bool false) hw (⟨(congrArg (fun b => some (vB b)) (decide_eq_false (by omega))).symm, rfl⟩) (by omega) (by omega) dX3_hasMore_16
  · refine k_iconstN hm 1 dX3_hasMore_11 ?_
    refine k_goto (tgt := 16) hm dX3_hasMore_12 (by decide) ?_
    exact k_iret (post := _) hm hQ rfl (kN_bool true) hw (⟨(congrArg (fun b => some (vB b)) (decide_eq_true (by omega))).symm, rfl⟩) (by omega) (by omega) dX3_hasMore_16
set_option maxHeartbeats 4000000 in
set_option maxRecDepth 100000 in
theorem c_ahead (l : Launch) (G : kG) (T : Nat → Nat) (tb : Nat → Nat) (tk : Nat → Int) (tc : Nat → Nat) (tn : Nat) (ti : Nat) (tt : Nat) (tu : Nat) (tm : Nat) (tp : Nat) (te : Int) (htn : tn ≤ 120) (htp : tp ≤ 1000) : kCR l yX3_ahead wsX3_ahead 1 21 G [.ref (T 0)] (wPat G T tb tk tc tn ti tt tu tm tp te) (fun vv => vv = some (vZ (bt tb tn tp))) := by
  refine kCM.of (cc := cX3_ahead) (maxL := 1) (ret := (some .int)) (by decide) rfl (Nat.le_of_ble_eq_true rfl) ?_
  intro p e s m args below meth c A ls Qz hQ hin hm hw hl
  have hl : lv_has ls 1 [(0, .ref (T 0))] := hl
  have i3 : ∀ w ∈ wsX30, w ∈ wsX3_ahead := by decide +kernel
  refine k_aload_n hm hl 0 rfl dX3_ahead_0 ?_
  refine k_callVr (n := 0) (As := []) (rest := []) hm hw hl (c_hasMore l G T tb tk tc tn ti tt tu tm tp te (by first | assumption | omega) (by first | assumption | omega)) gX3_ahead_X3_hasMore rfl (by decide +kernel) ⟨by decide, by decide⟩ (ci := 3) rfl 0 rfl [0, 1, 2, 3, 4, 5, 6] (by decide) rfl rfl rfl (by simp [Value.category]) ⟨by decide, by decide⟩ dX3_ahead_1 (fun v H locs hp hw => ?_)
  obtain rfl := hp
  refine W.eq (g2 := F0 m 4 ls [vB (decide (tp < tn))]) rfl ?_
  refine k_ifeqB (tgt := 21) hm dX3_ahead_4 (by decide) (fun c_2 => ?_) (fun c_2 => ?_)
  · have c_2d := of_decide_eq_false c_2
    refine k_iconst (n := -1) hm dX3_ahead_21 ?_
    exact k_iret (post := _) hm hQ rfl rfl hw (⟨by unfold bt; rw [if_neg (by omega)], rfl⟩) (by omega) (by omega) dX3_ahead_22
  · have c_2d := of_decide_eq_true c_2
    refine k_aload_n hm hl 0 rfl dX3_ahead_7 ?_
    refine k_get (T := TX3) hm hw 0 0 i3 rfl rfl (by decide) (by decide +kernel) rfl dX3_ahead_8 ?_
    refine k_aload_n hm hl 0 rfl dX3_ahead_11 ?_
    refine k_get (T := TX3) hm hw 0 8 i3 rfl rfl (by decide) (by decide +kernel) rfl dX3_ahead_12 ?_
    refine k_callVr (n := 1) (As := [vN (tp)]) (rest := []) hm hw hl (c_Num_at l G (T 1) (T 2) 120 tb tp (by first | assumption | omega)) gX3_ahead_X2_at rfl (by decide +kernel) ⟨by decide, by decide⟩ (ci := 2) rfl 1 rfl [1, 2] (by decide) rfl rfl rfl (by simp [Value.category]) ⟨by decide, by decide⟩ dX3_ahead_15 (fun v H locs hp hw => ?_)
    obtain rfl := hp
    refine W.eq (g2 := F0 m 18 ls [vN (tb tp)]) rfl ?_
    refine k_goto (tgt := 22) hm dX3_ahead_18 (by decide) ?_
    exact k_iret (post := _) hm hQ rfl rfl hw (⟨by unfold bt; rw [if_pos (by omega)], rfl⟩) (by omega) (by omega) dX3_ahead_22
set_option maxHeartbeats 4000000 in
set_option maxRecDepth 100000 in
theorem c_isDigit (l : Launch) (G : kG) (z : Int) (h : -1 ≤ z ∧ z ≤ 127) : kCR l yX3_isDigit wsX3_isDigit 0 0 G [vZ (z)] ([]) (fun vv => vv = some (vB (decide (48 ≤ z ∧ z ≤ 57)))) := by
  refine kCM.of (cc := cX3_isDigit) (maxL := 1) (ret := (some .boolean)) (by decide) rfl (Nat.le_of_ble_eq_true rfl) ?_
  intro p e s m args below meth c A ls Qz hQ hin hm hw hl
  have hl : lv_has ls 1 [(0, vZ (z))] := hl
  refine k_iload_n hm hl 0 rfl dX3_isDigit_0 ?_
  refine k_bipushN hm 48 dX3_isDigit_1 rfl ?_
  refine k_icmplt (tgt := 16) hm dX3_isDigit_3 (by decide) (by omega) (fun c_1 => ?_) (fun c_1 => ?_)
  · refine k_iconstN hm 0 dX3_isDigit_16 ?_
    exact k_iret (post := _) hm hQ rfl (kN_bool false) hw (⟨(congrArg (fun b => some (vB b)) (decide_eq_false (by omega))).symm, rfl⟩) (by omega) (by omega) dX3_isDigit_17
  · refine k_iload_n hm hl 0 rfl dX3_isDigit_6 ?_
    refine k_bipushN hm 57 dX3_isDigit_7 rfl ?_
    refine k_icmpgt (tgt := 16) hm dX3_isDigit_9 (by decide) (by omega) (fun c_2 => ?_) (fun c_2 => ?_)
    · refine k_iconstN hm 0 dX3_isDigit_16 ?_
      exact k_iret (post := _) hm hQ rfl (kN_bool false) hw (⟨(congrArg (fun b => some (vB b)) (decide_eq_false (by omega))).symm, rfl⟩) (by omega) (by omega) dX3_isDigit_17
    · refine k_iconstN hm 1 dX3_isDigit_12 ?_
      refine k_goto (tgt := 17) hm dX3_isDigit_13 (by decide) ?_
      exact k_iret (post := _) hm hQ rfl (kN_bool true) hw (⟨(congrArg (fun b => some (vB b)) (decide_eq_true (by omega))).symm, rfl⟩) (by omega) (by omega) dX3_isDigit_17
set_option maxHeartbeats 4000000 in
set_option maxRecDepth 100000 in
theorem c_kindOfB (l : Launch) (G : kG) (z : Int) (h : -1 ≤ z ∧ z ≤ 127) : kCR l yX3_kindOf wsX3_kindOf 0 0 G [vZ (z)] ([]) (fun vv => vv = some (vZ (kdB z))) := by
  refine kCM.of (cc := cX3_kindOf) (maxL := 1) (ret := (some .int)) (by decide) rfl (Nat.le_of_ble_eq_true rfl) ?_
  intro p e s m args below meth c A ls Qz hQ hin hm hw hl
  have hl : lv_has ls 1 [(0, vZ (z))] := hl
  refine k_iload_n hm hl 0 rfl dX3_kindOf_0 ?_
  refine k_lsw3 (t1 := 40) (t2 := 38) (t3 := 36) (t0 := 42) hm dX3_kindOf_1 (by omega) (by decide) (by decide) (by decide) (by decide) (by decide) (fun c_1 => ?_) (fun c_1 => ?_) (fun c_1 => ?_) (fun c_1 => ?_)
  · refine k_iconstN hm 2 dX3_kindOf_40 ?_
    exact k_iret (post := _) hm hQ rfl rfl hw (⟨by unfold kdB; rw [if_neg (by omega), if_neg (by omega), if_pos (by omega)]; rfl, rfl⟩) (by omega) (by omega) dX3_kindOf_41
  · refine k_iconstN hm 1 dX3_kindOf_38 ?_
    exact k_iret (post := _) hm hQ rfl rfl hw (⟨by unfold kdB; rw [if_neg (by omega), if_pos (by omega)]; rfl, rfl⟩) (by omega) (by omega) dX3_kindOf_39
  · refine k_iconstN hm 0 dX3_kindOf_36 ?_
    exact k_iret (post := _) hm hQ rfl rfl hw (⟨by unfold kdB; rw [if_pos (by omega)]; rfl, rfl⟩) (by omega) (by omega) dX3_kindOf_37
  · refine k_iconst (n := -1) hm dX3_kindOf_42 ?_
    exact k_iret (post := _) hm hQ rfl rfl hw (⟨by unfold kdB; rw [if_neg (by omega), if_neg (by omega), if_neg (by omega)], rfl⟩) (by omega) (by omega) dX3_kindOf_43
set_option maxHeartbeats 4000000 in
set_option maxRecDepth 100000 in
theorem c_pass_t (l : Launch) (G : kG) (T : Nat → Nat) (tb : Nat → Nat) (tk : Nat → Int) (tc : Nat → Nat) (tn : Nat) (ti : Nat) (tt : Nat) (tu : Nat) (tm : Nat) (tp : Nat) (te : Int)  : kCM l yX3_pass wsX3_pass 0 0 0 0 G [.ref (T 0), vB (true)] (wPat G T tb tk tc tn ti tt tu tm tp (-1)) (fun vv uu => vv = none ∧ uu = wPat G T tb tk tc tn ti tt tu tm (tp + 1) (-1)) := by
  refine kCM.of (cc := cX3_pass) (maxL := 2) (ret := none) (by decide) rfl (Nat.le_of_ble_eq_true rfl) ?_
  intro p e s m args below meth c A ls Qz hQ hin hm hw hl
  have hl : lv_has ls 2 [(0, .ref (T 0)), (1, vB (true))] := hl
  have i3 : ∀ w ∈ wsX30, w ∈ wsX3_pass := by decide +kernel
  refine k_aload_n hm hl 0 rfl dX3_pass_0 ?_
  refine k_get (T := TX3) hm hw 0 9 i3 rfl rfl (by decide) (by decide +kernel) rfl dX3_pass_1 ?_
  refine k_iconst (n := -1) hm dX3_pass_4 ?_
  refine k_icmpeq (tgt := 9) hm dX3_pass_5 (by decide) (by omega) (fun c_1 => ?_) (fun c_1 => absurd c_1 (by omega))
  refine k_iload_n hm hl 1 rfl dX3_pass_9 ?_
  refine k_ifeqB (tgt := 26) hm dX3_pass_10 (by decide) (fun c_2 => absurd c_2 (by decide)) (fun _ => ?_)
  refine k_aload_n hm hl 0 rfl dX3_pass_13 ?_
  refine k_dup hm dX3_pass_14 rfl ?_
  refine k_get (T := TX3) hm hw 0 8 i3 rfl rfl (by decide) (by decide +kernel) rfl dX3_pass_15 ?_
  refine k_iconstN hm 1 dX3_pass_18 ?_
  refine k_iaddN hm dX3_pass_19 ?_
  refine k_put (T := TX3) hm hw 0 8 (wPat G T tb tk tc tn ti tt tu tm (tp + 1) (-1)) i3 tyX3 tyX3_ok nmX3 rfl rfl (by decide) (by decide +kernel) rfl (tyX3_ok 8 (by decide)) rfl rfl (Nat.le_of_ble_eq_true rfl) rfl dX3_pass_20 (fun H locs hw => ?_)
  refine k_goto (tgt := 34) hm dX3_pass_23 (by decide) ?_
  exact k_vret hm hQ rfl hw (⟨rfl, rfl⟩) (by omega) (by omega) dX3_pass_34
set_option maxHeartbeats 4000000 in
set_option maxRecDepth 100000 in
theorem c_pass_f (l : Launch) (G : kG) (T : Nat → Nat) (tb : Nat → Nat) (tk : Nat → Int) (tc : Nat → Nat) (tn : Nat) (ti : Nat) (tt : Nat) (tu : Nat) (tm : Nat) (tp : Nat) (te : Int)  : kCM l yX3_pass wsX3_pass 0 0 0 0 G [.ref (T 0), vB (false)] (wPat G T tb tk tc tn ti tt tu tm tp (-1)) (fun vv uu => vv = none ∧ uu = wPat G T tb tk tc tn ti tt tu tm tp ((tp : Nat) : Int)) := by
  refine kCM.of (cc := cX3_pass) (maxL := 2) (ret := none) (by decide) rfl (Nat.le_of_ble_eq_true rfl) ?_
  intro p e s m args below meth c A ls Qz hQ hin hm hw hl
  have hl : lv_has ls 2 [(0, .ref (T 0)), (1, vB (false))] := hl
  have i3 : ∀ w ∈ wsX30, w ∈ wsX3_pass := by decide +kernel
  refine k_aload_n hm hl 0 rfl dX3_pass_0 ?_
  refine k_get (T := TX3) hm hw 0 9 i3 rfl rfl (by decide) (by decide +kernel) rfl dX3_pass_1 ?_
  refine k_iconst (n := -1) hm dX3_pass_4 ?_
  refine k_icmpeq (tgt := 9) hm dX3_pass_5 (by decide) (by omega) (fun c_1 => ?_) (fun c_1 => absurd c_1 (by omega))
  refine k_iload_n hm hl 1 rfl dX3_pass_9 ?_
  refine k_ifeqB (tgt := 26) hm dX3_pass_10 (by decide) (fun _ => ?_) (fun c_2 => absurd c_2 (by decide))
  refine k_aload_n hm hl 0 rfl dX3_pass_26 ?_
  refine k_aload_n hm hl 0 rfl dX3_pass_27 ?_
  refine k_get (T := TX3) hm hw 0 8 i3 rfl rfl (by decide) (by decide +kernel) rfl dX3_pass_28 ?_
  refine k_put (T := TX3) hm hw 0 9 (wPat G T tb tk tc tn ti tt tu tm tp ((tp : Nat) : Int)) i3 tyX3 tyX3_ok nmX3 rfl rfl (by decide) (by decide +kernel) rfl (tyX3_ok 9 (by decide)) rfl rfl (Nat.le_of_ble_eq_true rfl) rfl dX3_pass_31 (fun H locs hw => ?_)
  exact k_vret hm hQ rfl hw (⟨rfl, rfl⟩) (by omega) (by omega) dX3_pass_34
set_option maxHeartbeats 4000000 in
set_option maxRecDepth 100000 in
theorem c_pass_e (l : Launch) (G : kG) (T : Nat → Nat) (tb : Nat → Nat) (tk : Nat → Int) (tc : Nat → Nat) (tn : Nat) (ti : Nat) (tt : Nat) (tu : Nat) (tm : Nat) (tp : Nat) (te : Int) (b : Bool) (hte : 0 ≤ te ∧ te ≤ 1000) : kCM l yX3_pass wsX3_pass 0 0 0 0 G [.ref (T 0), vB (b)] (wPat G T tb tk tc tn ti tt tu tm tp te) (fun vv uu => vv = none ∧ uu = wPat G T tb tk tc tn ti tt tu tm tp te) := by
  refine kCM.of (cc := cX3_pass) (maxL := 2) (ret := none) (by decide) rfl (Nat.le_of_ble_eq_true rfl) ?_
  intro p e s m args below meth c A ls Qz hQ hin hm hw hl
  have hl : lv_has ls 2 [(0, .ref (T 0)), (1, vB (b))] := hl
  have i3 : ∀ w ∈ wsX30, w ∈ wsX3_pass := by decide +kernel
  refine k_aload_n hm hl 0 rfl dX3_pass_0 ?_
  refine k_get (T := TX3) hm hw 0 9 i3 rfl rfl (by decide) (by decide +kernel) rfl dX3_pass_1 ?_
  refine k_iconst (n := -1) hm dX3_pass_4 ?_
  refine k_icmpeq (tgt := 9) hm dX3_pass_5 (by decide) (by omega) (fun c_1 => absurd c_1 (by omega)) (fun c_1 => ?_)
  exact k_vret hm hQ rfl hw (⟨rfl, rfl⟩) (by omega) (by omega) dX3_pass_8
set_option maxHeartbeats 4000000 in
set_option maxRecDepth 100000 in
theorem c_readNumber_e (l : Launch) (G : kG) (T : Nat → Nat) (tb : Nat → Nat) (tk : Nat → Int) (tc : Nat → Nat) (tn : Nat) (ti : Nat) (tt : Nat) (tu : Nat) (tm : Nat) (tp : Nat) (te : Int) (k : Nat) (hi : Nat) (hte : 0 ≤ te ∧ te ≤ 1000) : kCR l yX3_readNumber wsX3_readNumber 2 41 G [.ref (T 0), vN (k), vN (hi)] (wPat G T tb tk tc tn ti tt tu tm tp te) (fun vv => vv = some (vN (0))) := by
  refine kCM.of (cc := cX3_readNumber) (maxL := 5) (ret := (some .int)) (by decide) rfl (Nat.le_of_ble_eq_true rfl) ?_
  intro p e s m args below meth c A ls Qz hQ hin hm hw hl
  have hl : lv_has ls 5 [(0, .ref (T 0)), (1, vN (k)), (2, vN (hi))] := hl
  have i3 : ∀ w ∈ wsX30, w ∈ wsX3_readNumber := by decide +kernel
  refine k_aload_n hm hl 0 rfl dX3_readNumber_0 ?_
  refine k_get (T := TX3) hm hw 0 9 i3 rfl rfl (by decide) (by decide +kernel) rfl dX3_readNumber_1 ?_
  refine k_iconst (n := -1) hm dX3_readNumber_4 ?_
  refine k_icmpeq (tgt := 10) hm dX3_readNumber_5 (by decide) (by omega) (fun c_1 => absurd c_1 (by omega)) (fun c_1 => ?_)
  refine k_iconstN hm 0 dX3_readNumber_8 ?_
  exact k_iret (post := _) hm hQ rfl rfl hw (⟨rfl, rfl⟩) (by omega) (by omega) dX3_readNumber_9
set_option maxHeartbeats 4000000 in
set_option maxRecDepth 100000 in
theorem c_readNumber_ok (l : Launch) (G : kG) (T : Nat → Nat) (tb : Nat → Nat) (tk : Nat → Int) (tc : Nat → Nat) (tn : Nat) (ti : Nat) (tt : Nat) (tu : Nat) (tm : Nat) (tp : Nat) (te : Int) (k : Nat) (hi : Nat) (htn : tn ≤ 120) (htp : tp ≤ tn) (htb : ∀ i, i < tn → tb i ≤ 127) (hk : 1 ≤ k ∧ k ≤ 3 ∧ 1 ≤ hi ∧ hi ≤ 120) (hok : nOk tb tn k hi tp) : kCM l yX3_readNumber wsX3_readNumber 2 41 0 0 G [.ref (T 0), vN (k), vN (hi)] (wPat G T tb tk tc tn ti tt tu tm tp (-1)) (fun vv uu => vv = some (vN (nV tb tn k tp)) ∧ uu = wPat G T tb tk tc tn ti tt tu tm (nE tb tn k tp) (-1)) := by
  refine kCM.of (cc := cX3_readNumber) (maxL := 5) (ret := (some .int)) (by decide) rfl (Nat.le_of_ble_eq_true rfl) ?_
  intro p e s m args below meth c A ls Qz hQ hin hm hw hl
  have hl : lv_has ls 5 [(0, .ref (T 0)), (1, vN (k)), (2, vN (hi))] := hl
  have i3 : ∀ w ∈ wsX30, w ∈ wsX3_readNumber := by decide +kernel
  refine k_aload_n hm hl 0 rfl dX3_readNumber_0 ?_
  refine k_get (T := TX3) hm hw 0 9 i3 rfl rfl (by decide) (by decide +kernel) rfl dX3_readNumber_1 ?_
  refine k_iconst (n := -1) hm dX3_readNumber_4 ?_
  refine k_icmpeq (tgt := 10) hm dX3_readNumber_5 (by decide) (by omega) (fun c_1 => ?_) (fun c_1 => absurd c_1 (by omega))
  refine k_aload_n hm hl 0 rfl dX3_readNumber_10 ?_
  refine k_get (T := TX3) hm hw 0 8 i3 rfl rfl (by decide) (by decide +kernel) rfl dX3_readNumber_11 ?_
  refine k_istore_n hm hl [(3, vN (tp)), (0, .ref (T 0)), (1, vN (k)), (2, vN (hi))] (by decide) rfl dX3_readNumber_14 (fun ls hl => ?_)
  refine k_iconstN hm 0 dX3_readNumber_15 ?_
  refine k_istore hm hl [(4, vN (0)), (3, vN (tp)), (0, .ref (T 0)), (1, vN (k)), (2, vN (hi))] (by decide) rfl dX3_readNumber_16 (fun ls hl => ?_)
  have loop_18 : ∀ (fu : Nat) (u : Nat) (q : Nat) (hq : q ≤ k ∧ tp + q ≤ tn) (hu : u = dv tb tp q) (hdg : ∀ j, j < q → dg tb tn (tp + j)) (H : Heap) (locs : List Loc) (ls : Array Slot), k - q < fu → kW G A s (wPat G T tb tk tc tn ti tt tu tm (tp + q) (-1)) H locs → lv_has ls 5 [(0, .ref (T 0)), (1, vN (k)), (2, vN (hi)), (3, vN (tp)), (4, vN (u))] → W p l e { frames := 2, cells := 0, slots := 0, locals := 41 } s m args below meth c H locs 0 0 Qz (F0 m 18 ls []) := by
    intro fu
    induction fu with
    | zero => intro u q hq hu hdg H locs ls hfu; exact absurd hfu (Nat.not_lt_zero _)
    | succ fu ih_18 =>
      intro u q hq hu hdg H locs ls hfu hw hl
      refine k_aload_n hm hl 0 rfl dX3_readNumber_18 ?_
      refine k_get (T := TX3) hm hw 0 8 i3 rfl rfl (by decide) (by decide +kernel) rfl dX3_readNumber_19 ?_
      refine k_iload_n hm hl 3 rfl dX3_readNumber_22 ?_
      refine k_iload_n hm hl 1 rfl dX3_readNumber_23 ?_
      refine k_iaddN hm dX3_readNumber_24 ?_
      refine k_icmpge (tgt := 66) hm dX3_readNumber_25 (by decide) (by omega) (fun c_2 => ?_) (fun c_2 => ?_)
      · have hF : ndF tb tn k tp = q := ndF_of ⟨hq.1, hdg, Or.inl (by omega)⟩
        have hE : nE tb tn k tp = tp + q := by unfold nE; rw [hF]
        have hV : nV tb tn k tp = u := by unfold nV; rw [hF, hu]
        have hu9 : u ≤ 999 := by rw [← hV]; exact nV_le (by omega)
        obtain ⟨ho1, ho2, ho3, ho4⟩ := hok
        rw [hF] at ho1
        rw [hE] at ho2
        rw [hV] at ho3 ho4
        refine k_aload_n hm hl 0 rfl dX3_readNumber_66 ?_
        refine k_get (T := TX3) hm hw 0 8 i3 rfl rfl (by decide) (by decide +kernel) rfl dX3_readNumber_67 ?_
        refine k_iload_n hm hl 3 rfl dX3_readNumber_70 ?_
        refine k_icmpeq (tgt := 84) hm dX3_readNumber_71 (by decide) (by omega) (fun c_3 => absurd c_3 (by omega)) (fun c_3 => ?_)
        refine k_aload_n hm hl 0 rfl dX3_readNumber_74 ?_
        refine k_callVr (n := 0) (As := []) (rest := []) hm hw hl (c_ahead l G T tb tk tc tn ti tt tu tm (tp + q) (-1) (by first | assumption | omega) (by first | assumption | omega)) gX3_readNumber_X3_ahead rfl (by decide +kernel) ⟨by decide, by decide⟩ (ci := 3) rfl 0 rfl [0, 1, 2, 3, 4, 5, 6] (by decide) rfl rfl rfl (by simp [Value.category]) ⟨by decide, by decide⟩ dX3_readNumber_75 (fun v H locs hp hw => ?_)
        obtain rfl := hp
        refine W.eq (g2 := F0 m 78 ls [vZ (bt tb tn (tp + q))]) rfl ?_
        refine k_callSr (n := 1) (As := [vZ (bt tb tn (tp + q))]) (rest := []) hm hw hl (c_isDigit l G (bt tb tn (tp + q)) (bt_rng htb)) gX3_readNumber_X3_isDigit rfl (by decide +kernel) ⟨by decide, by decide⟩ [] (by decide) rfl rfl rfl (by simp [Value.category]) ⟨by decide, by decide⟩ dX3_readNumber_78 (fun v H locs hp hw => ?_)
        obtain rfl := hp
        refine W.eq (g2 := F0 m 81 ls [vB (decide (48 ≤ (bt tb tn (tp + q)) ∧ (bt tb tn (tp + q)) ≤ 57))]) rfl ?_
        refine k_ifeqB (tgt := 95) hm dX3_readNumber_81 (by decide) (fun c_6 => ?_) (fun c_6 => False.elim (ho2 (by have z := of_decide_eq_true c_6; exact z)))
        refine k_iload hm hl 4 rfl dX3_readNumber_95 ?_
        refine k_iconstN hm 1 dX3_readNumber_97 ?_
        refine k_icmplt (tgt := 107) hm dX3_readNumber_98 (by decide) (by omega) (fun c_7 => absurd c_7 (by omega)) (fun c_7 => ?_)
        refine k_iload hm hl 4 rfl dX3_readNumber_101 ?_
        refine k_iload_n hm hl 2 rfl dX3_readNumber_103 ?_
        refine k_icmple (tgt := 112) hm dX3_readNumber_104 (by decide) (by omega) (fun c_8 => ?_) (fun c_8 => absurd c_8 (by omega))
        refine k_iload hm hl 4 rfl dX3_readNumber_112 ?_
        exact k_iret (post := _) hm hQ rfl rfl hw (⟨by rw [hV], by rw [hE]⟩) (by omega) (by omega) dX3_readNumber_114
      · refine k_aload_n hm hl 0 rfl dX3_readNumber_28 ?_
        refine k_callVr (n := 0) (As := []) (rest := []) hm hw hl (c_ahead l G T tb tk tc tn ti tt tu tm (tp + q) (-1) (by first | assumption | omega) (by first | assumption | omega)) gX3_readNumber_X3_ahead rfl (by decide +kernel) ⟨by decide, by decide⟩ (ci := 3) rfl 0 rfl [0, 1, 2, 3, 4, 5, 6] (by decide) rfl rfl rfl (by simp [Value.category]) ⟨by decide, by decide⟩ dX3_readNumber_29 (fun v H locs hp hw => ?_)
        obtain rfl := hp
        refine W.eq (g2 := F0 m 32 ls [vZ (bt tb tn (tp + q))]) rfl ?_
        refine k_callSr (n := 1) (As := [vZ (bt tb tn (tp + q))]) (rest := []) hm hw hl (c_isDigit l G (bt tb tn (tp + q)) (bt_rng htb)) gX3_readNumber_X3_isDigit rfl (by decide +kernel) ⟨by decide, by decide⟩ [] (by decide) rfl rfl rfl (by simp [Value.category]) ⟨by decide, by decide⟩ dX3_readNumber_32 (fun v H locs hp hw => ?_)
        obtain rfl := hp
        refine W.eq (g2 := F0 m 35 ls [vB (decide (48 ≤ (bt tb tn (tp + q)) ∧ (bt tb tn (tp + q)) ≤ 57))]) rfl ?_
        refine k_ifeqB (tgt := 66) hm dX3_readNumber_35 (by decide) (fun c_11 => ?_) (fun c_11 => ?_)
        · have c_11d := of_decide_eq_false c_11
          have hF : ndF tb tn k tp = q := ndF_of ⟨hq.1, hdg, Or.inr c_11d⟩
          have hE : nE tb tn k tp = tp + q := by unfold nE; rw [hF]
          have hV : nV tb tn k tp = u := by unfold nV; rw [hF, hu]
          have hu9 : u ≤ 999 := by rw [← hV]; exact nV_le (by omega)
          obtain ⟨ho1, ho2, ho3, ho4⟩ := hok
          rw [hF] at ho1
          rw [hE] at ho2
          rw [hV] at ho3 ho4
          refine k_aload_n hm hl 0 rfl dX3_readNumber_66 ?_
          refine k_get (T := TX3) hm hw 0 8 i3 rfl rfl (by decide) (by decide +kernel) rfl dX3_readNumber_67 ?_
          refine k_iload_n hm hl 3 rfl dX3_readNumber_70 ?_
          refine k_icmpeq (tgt := 84) hm dX3_readNumber_71 (by decide) (by omega) (fun c_12 => absurd c_12 (by omega)) (fun c_12 => ?_)
          refine k_aload_n hm hl 0 rfl dX3_readNumber_74 ?_
          refine k_callVr (n := 0) (As := []) (rest := []) hm hw hl (c_ahead l G T tb tk tc tn ti tt tu tm (tp + q) (-1) (by first | assumption | omega) (by first | assumption | omega)) gX3_readNumber_X3_ahead rfl (by decide +kernel) ⟨by decide, by decide⟩ (ci := 3) rfl 0 rfl [0, 1, 2, 3, 4, 5, 6] (by decide) rfl rfl rfl (by simp [Value.category]) ⟨by decide, by decide⟩ dX3_readNumber_75 (fun v H locs hp hw => ?_)
          obtain rfl := hp
          refine W.eq (g2 := F0 m 78 ls [vZ (bt tb tn (tp + q))]) rfl ?_
          refine k_callSr (n := 1) (As := [vZ (bt tb tn (tp + q))]) (rest := []) hm hw hl (c_isDigit l G (bt tb tn (tp + q)) (bt_rng htb)) gX3_readNumber_X3_isDigit rfl (by decide +kernel) ⟨by decide, by decide⟩ [] (by decide) rfl rfl rfl (by simp [Value.category]) ⟨by decide, by decide⟩ dX3_readNumber_78 (fun v H locs hp hw => ?_)
          obtain rfl := hp
          refine W.eq (g2 := F0 m 81 ls [vB (decide (48 ≤ (bt tb tn (tp + q)) ∧ (bt tb tn (tp + q)) ≤ 57))]) rfl ?_
          refine k_ifeqB (tgt := 95) hm dX3_readNumber_81 (by decide) (fun c_15 => ?_) (fun c_15 => False.elim (ho2 (by have z := of_decide_eq_true c_15; exact z)))
          refine k_iload hm hl 4 rfl dX3_readNumber_95 ?_
          refine k_iconstN hm 1 dX3_readNumber_97 ?_
          refine k_icmplt (tgt := 107) hm dX3_readNumber_98 (by decide) (by omega) (fun c_16 => absurd c_16 (by omega)) (fun c_16 => ?_)
          refine k_iload hm hl 4 rfl dX3_readNumber_101 ?_
          refine k_iload_n hm hl 2 rfl dX3_readNumber_103 ?_
          refine k_icmple (tgt := 112) hm dX3_readNumber_104 (by decide) (by omega) (fun c_17 => ?_) (fun c_17 => absurd c_17 (by omega))
          refine k_iload hm hl 4 rfl dX3_readNumber_112 ?_
          exact k_iret (post := _) hm hQ rfl rfl hw (⟨by rw [hV], by rw [hE]⟩) (by omega) (by omega) dX3_readNumber_114
        · have c_11d := of_decide_eq_true c_11
          have hd1 : dg tb tn (tp + q) := c_11d
          have hd2 := dg_lt hd1
          have hd3 := dv_le hdg
          have hd4 : 10 ^ q ≤ 10 ^ 3 := Nat.pow_le_pow_right (by decide) (by omega)
          refine k_bipushN hm 10 dX3_readNumber_38 rfl ?_
          refine k_iload hm hl 4 rfl dX3_readNumber_40 ?_
          refine k_imulN hm dX3_readNumber_42 ?_
          refine k_aload_n hm hl 0 rfl dX3_readNumber_43 ?_
          refine k_callVr (n := 0) (As := []) (rest := [vN (10 * u)]) hm hw hl (c_ahead l G T tb tk tc tn ti tt tu tm (tp + q) (-1) (by first | assumption | omega) (by first | assumption | omega)) gX3_readNumber_X3_ahead rfl (by decide +kernel) ⟨by decide, by decide⟩ (ci := 3) rfl 0 rfl [0, 1, 2, 3, 4, 5, 6] (by decide) rfl rfl rfl (by simp [Value.category]) ⟨by decide, by decide⟩ dX3_readNumber_44 (fun v H locs hp hw => ?_)
          obtain rfl := hp
          refine W.eq (g2 := F0 m 47 ls [vZ (bt tb tn (tp + q)), vN (10 * u)]) rfl ?_
          refine k_rwV (y := vN (tb (tp + q))) (by rw [bt_dg hd1]) ?_
          refine k_iaddN hm dX3_readNumber_47 ?_
          refine k_bipushN hm 48 dX3_readNumber_48 rfl ?_
          refine k_isubN hm (by omega) dX3_readNumber_50 ?_
          refine k_istore hm hl [(4, vN (((10 * u) + (tb (tp + q))) - 48)), (0, .ref (T 0)), (1, vN (k)), (2, vN (hi)), (3, vN (tp))] (by decide) rfl dX3_readNumber_51 (fun ls hl => ?_)
          refine k_aload_n hm hl 1 rfl dX3_readNumber_53 ?_
          refine k_dup hm dX3_readNumber_54 rfl ?_
          refine k_get (T := TX3) hm hw 0 8 i3 rfl rfl (by decide) (by decide +kernel) rfl dX3_readNumber_55 ?_
          refine k_iconstN hm 1 dX3_readNumber_58 ?_
          refine k_iaddN hm dX3_readNumber_59 ?_
          refine k_put (T := TX3) hm hw 0 8 (wPat G T tb tk tc tn ti tt tu tm ((tp + q) + 1) (-1)) i3 tyX3 tyX3_ok nmX3 rfl rfl (by decide) (by decide +kernel) rfl (tyX3_ok 8 (by decide)) rfl rfl (Nat.le_of_ble_eq_true rfl) rfl dX3_readNumber_60 (fun H locs hw => ?_)
          refine k_goto (tgt := 18) hm dX3_readNumber_63 (by decide) ?_
          exact ih_18  (((10 * u) + (tb (tp + q))) - 48) (q + 1) (by omega) (by simp only [dv]; omega) (fun j z => by rcases Nat.lt_or_ge j q with y | y; exact hdg j y; rw [show j = q by omega]; exact hd1) _ _ _ (by omega) hw (lv_sub hl [1, 2, 3, 4, 0] rfl)
  exact loop_18 (k - 0 + 1) 0 0 (by first | assumption | omega) rfl (fun j z => absurd z (by omega)) _ _ _ (Nat.lt_succ_self _) hw (lv_sub hl [2, 3, 4, 1, 0] rfl)
set_option maxHeartbeats 4000000 in
set_option maxRecDepth 100000 in
theorem c_readNumber_er (l : Launch) (G : kG) (T : Nat → Nat) (tb : Nat → Nat) (tk : Nat → Int) (tc : Nat → Nat) (tn : Nat) (ti : Nat) (tt : Nat) (tu : Nat) (tm : Nat) (tp : Nat) (te : Int) (k : Nat) (hi : Nat) (htn : tn ≤ 120) (htp : tp ≤ tn) (htb : ∀ i, i < tn → tb i ≤ 127) (hk : 1 ≤ k ∧ k ≤ 3 ∧ 1 ≤ hi ∧ hi ≤ 120) (hok : ¬ nOk tb tn k hi tp) : kCM l yX3_readNumber wsX3_readNumber 2 41 0 0 G [.ref (T 0), vN (k), vN (hi)] (wPat G T tb tk tc tn ti tt tu tm tp (-1)) (fun vv uu => ∃ (v2 : Nat), ∃ (p2 : Nat), ∃ (z2 : Int), vv = some (vN (v2)) ∧ uu = wPat G T tb tk tc tn ti tt tu tm p2 z2 ∧ (isNr tb tn k tp z2) ∧ (p2 ≤ tn)) := by
  refine kCM.of (cc := cX3_readNumber) (maxL := 5) (ret := (some .int)) (by decide) rfl (Nat.le_of_ble_eq_true rfl) ?_
  intro p e s m args below meth c A ls Qz hQ hin hm hw hl
  have hl : lv_has ls 5 [(0, .ref (T 0)), (1, vN (k)), (2, vN (hi))] := hl
  have i3 : ∀ w ∈ wsX30, w ∈ wsX3_readNumber := by decide +kernel
  refine k_aload_n hm hl 0 rfl dX3_readNumber_0 ?_
  refine k_get (T := TX3) hm hw 0 9 i3 rfl rfl (by decide) (by decide +kernel) rfl dX3_readNumber_1 ?_
  refine k_iconst (n := -1) hm dX3_readNumber_4 ?_
  refine k_icmpeq (tgt := 10) hm dX3_readNumber_5 (by decide) (by omega) (fun c_1 => ?_) (fun c_1 => absurd c_1 (by omega))
  refine k_aload_n hm hl 0 rfl dX3_readNumber_10 ?_
  refine k_get (T := TX3) hm hw 0 8 i3 rfl rfl (by decide) (by decide +kernel) rfl dX3_readNumber_11 ?_
  refine k_istore_n hm hl [(3, vN (tp)), (0, .ref (T 0)), (1, vN (k)), (2, vN (hi))] (by decide) rfl dX3_readNumber_14 (fun ls hl => ?_)
  refine k_iconstN hm 0 dX3_readNumber_15 ?_
  refine k_istore hm hl [(4, vN (0)), (3, vN (tp)), (0, .ref (T 0)), (1, vN (k)), (2, vN (hi))] (by decide) rfl dX3_readNumber_16 (fun ls hl => ?_)
  have loop_18 : ∀ (fu : Nat) (u : Nat) (q : Nat) (hq : q ≤ k ∧ tp + q ≤ tn) (hu : u = dv tb tp q) (hdg : ∀ j, j < q → dg tb tn (tp + j)) (H : Heap) (locs : List Loc) (ls : Array Slot), k - q < fu → kW G A s (wPat G T tb tk tc tn ti tt tu tm (tp + q) (-1)) H locs → lv_has ls 5 [(0, .ref (T 0)), (1, vN (k)), (2, vN (hi)), (3, vN (tp)), (4, vN (u))] → W p l e { frames := 2, cells := 0, slots := 0, locals := 41 } s m args below meth c H locs 0 0 Qz (F0 m 18 ls []) := by
    intro fu
    induction fu with
    | zero => intro u q hq hu hdg H locs ls hfu; exact absurd hfu (Nat.not_lt_zero _)
    | succ fu ih_18 =>
      intro u q hq hu hdg H locs ls hfu hw hl
      refine k_aload_n hm hl 0 rfl dX3_readNumber_18 ?_
      refine k_get (T := TX3) hm hw 0 8 i3 rfl rfl (by decide) (by decide +kernel) rfl dX3_readNumber_19 ?_
      refine k_iload_n hm hl 3 rfl dX3_readNumber_22 ?_
      refine k_iload_n hm hl 1 rfl dX3_readNumber_23 ?_
      refine k_iaddN hm dX3_readNumber_24 ?_
      refine k_icmpge (tgt := 66) hm dX3_readNumber_25 (by decide) (by omega) (fun c_2 => ?_) (fun c_2 => ?_)
      · have hF : ndF tb tn k tp = q := ndF_of ⟨hq.1, hdg, Or.inl (by omega)⟩
        have hE : nE tb tn k tp = tp + q := by unfold nE; rw [hF]
        have hV : nV tb tn k tp = u := by unfold nV; rw [hF, hu]
        have hu9 : u ≤ 999 := by rw [← hV]; exact nV_le (by omega)
        refine k_aload_n hm hl 0 rfl dX3_readNumber_66 ?_
        refine k_get (T := TX3) hm hw 0 8 i3 rfl rfl (by decide) (by decide +kernel) rfl dX3_readNumber_67 ?_
        refine k_iload_n hm hl 3 rfl dX3_readNumber_70 ?_
        refine k_icmpeq (tgt := 84) hm dX3_readNumber_71 (by decide) (by omega) (fun c_3 => ?_) (fun c_3 => ?_)
        · refine k_aload_n hm hl 0 rfl dX3_readNumber_84 ?_
          refine k_aload_n hm hl 0 rfl dX3_readNumber_85 ?_
          refine k_get (T := TX3) hm hw 0 8 i3 rfl rfl (by decide) (by decide +kernel) rfl dX3_readNumber_86 ?_
          refine k_put (T := TX3) hm hw 0 9 (wPat G T tb tk tc tn ti tt tu tm (tp + q) ((tp + q : Nat) : Int)) i3 tyX3 tyX3_ok nmX3 rfl rfl (by decide) (by decide +kernel) rfl (tyX3_ok 9 (by decide)) rfl rfl (Nat.le_of_ble_eq_true rfl) rfl dX3_readNumber_89 (fun H locs hw => ?_)
          refine k_goto (tgt := 112) hm dX3_readNumber_92 (by decide) ?_
          refine k_iload hm hl 4 rfl dX3_readNumber_112 ?_
          exact k_iret (post := _) hm hQ rfl rfl hw (⟨_, _, _, rfl, rfl, Or.inl ⟨Or.inl (by rw [hF]; omega), by rw [hE]⟩, hq.2⟩) (by omega) (by omega) dX3_readNumber_114
        · refine k_aload_n hm hl 0 rfl dX3_readNumber_74 ?_
          refine k_callVr (n := 0) (As := []) (rest := []) hm hw hl (c_ahead l G T tb tk tc tn ti tt tu tm (tp + q) (-1) (by first | assumption | omega) (by first | assumption | omega)) gX3_readNumber_X3_ahead rfl (by decide +kernel) ⟨by decide, by decide⟩ (ci := 3) rfl 0 rfl [0, 1, 2, 3, 4, 5, 6] (by decide) rfl rfl rfl (by simp [Value.category]) ⟨by decide, by decide⟩ dX3_readNumber_75 (fun v H locs hp hw => ?_)
          obtain rfl := hp
          refine W.eq (g2 := F0 m 78 ls [vZ (bt tb tn (tp + q))]) rfl ?_
          refine k_callSr (n := 1) (As := [vZ (bt tb tn (tp + q))]) (rest := []) hm hw hl (c_isDigit l G (bt tb tn (tp + q)) (bt_rng htb)) gX3_readNumber_X3_isDigit rfl (by decide +kernel) ⟨by decide, by decide⟩ [] (by decide) rfl rfl rfl (by simp [Value.category]) ⟨by decide, by decide⟩ dX3_readNumber_78 (fun v H locs hp hw => ?_)
          obtain rfl := hp
          refine W.eq (g2 := F0 m 81 ls [vB (decide (48 ≤ (bt tb tn (tp + q)) ∧ (bt tb tn (tp + q)) ≤ 57))]) rfl ?_
          refine k_ifeqB (tgt := 95) hm dX3_readNumber_81 (by decide) (fun c_6 => ?_) (fun c_6 => ?_)
          · have c_6d := of_decide_eq_false c_6
            have hd81 : ¬ dg tb tn (tp + q) := c_6d
            refine k_iload hm hl 4 rfl dX3_readNumber_95 ?_
            refine k_iconstN hm 1 dX3_readNumber_97 ?_
            refine k_icmplt (tgt := 107) hm dX3_readNumber_98 (by decide) (by omega) (fun c_7 => ?_) (fun c_7 => ?_)
            · refine k_aload_n hm hl 0 rfl dX3_readNumber_107 ?_
              refine k_iload_n hm hl 3 rfl dX3_readNumber_108 ?_
              refine k_put (T := TX3) hm hw 0 9 (wPat G T tb tk tc tn ti tt tu tm (tp + q) ((tp : Nat) : Int)) i3 tyX3 tyX3_ok nmX3 rfl rfl (by decide) (by decide +kernel) rfl (tyX3_ok 9 (by decide)) rfl rfl (Nat.le_of_ble_eq_true rfl) rfl dX3_readNumber_109 (fun H locs hw => ?_)
              refine k_iload hm hl 4 rfl dX3_readNumber_112 ?_
              exact k_iret (post := _) hm hQ rfl rfl hw (⟨_, _, _, rfl, rfl, Or.inr ⟨by rw [hF, hE]; intro z; rcases z with z | z; omega; exact hd81 z, rfl⟩, hq.2⟩) (by omega) (by omega) dX3_readNumber_114
            · refine k_iload hm hl 4 rfl dX3_readNumber_101 ?_
              refine k_iload_n hm hl 2 rfl dX3_readNumber_103 ?_
              refine k_icmple (tgt := 112) hm dX3_readNumber_104 (by decide) (by omega) (fun c_8 => ?_) (fun c_8 => ?_)
              · refine k_iload hm hl 4 rfl dX3_readNumber_112 ?_
                exact k_iret (post := _) hm hQ rfl rfl hw ((absurd ⟨by rw [hF]; omega, by rw [hE]; exact hd81, by rw [hV]; omega, by rw [hV]; omega⟩ hok)) (by omega) (by omega) dX3_readNumber_114
              · refine k_aload_n hm hl 0 rfl dX3_readNumber_107 ?_
                refine k_iload_n hm hl 3 rfl dX3_readNumber_108 ?_
                refine k_put (T := TX3) hm hw 0 9 (wPat G T tb tk tc tn ti tt tu tm (tp + q) ((tp : Nat) : Int)) i3 tyX3 tyX3_ok nmX3 rfl rfl (by decide) (by decide +kernel) rfl (tyX3_ok 9 (by decide)) rfl rfl (Nat.le_of_ble_eq_true rfl) rfl dX3_readNumber_109 (fun H locs hw => ?_)
                refine k_iload hm hl 4 rfl dX3_readNumber_112 ?_
                exact k_iret (post := _) hm hQ rfl rfl hw (⟨_, _, _, rfl, rfl, Or.inr ⟨by rw [hF, hE]; intro z; rcases z with z | z; omega; exact hd81 z, rfl⟩, hq.2⟩) (by omega) (by omega) dX3_readNumber_114
          · have c_6d := of_decide_eq_true c_6
            have hd81 : dg tb tn (tp + q) := c_6d
            refine k_aload_n hm hl 0 rfl dX3_readNumber_84 ?_
            refine k_aload_n hm hl 0 rfl dX3_readNumber_85 ?_
            refine k_get (T := TX3) hm hw 0 8 i3 rfl rfl (by decide) (by decide +kernel) rfl dX3_readNumber_86 ?_
            refine k_put (T := TX3) hm hw 0 9 (wPat G T tb tk tc tn ti tt tu tm (tp + q) ((tp + q : Nat) : Int)) i3 tyX3 tyX3_ok nmX3 rfl rfl (by decide) (by decide +kernel) rfl (tyX3_ok 9 (by decide)) rfl rfl (Nat.le_of_ble_eq_true rfl) rfl dX3_readNumber_89 (fun H locs hw => ?_)
            refine k_goto (tgt := 112) hm dX3_readNumber_92 (by decide) ?_
            refine k_iload hm hl 4 rfl dX3_readNumber_112 ?_
            exact k_iret (post := _) hm hQ rfl rfl hw (⟨_, _, _, rfl, rfl, Or.inl ⟨Or.inr (by rw [hE]; exact hd81), by rw [hE]⟩, hq.2⟩) (by omega) (by omega) dX3_readNumber_114
      · refine k_aload_n hm hl 0 rfl dX3_readNumber_28 ?_
        refine k_callVr (n := 0) (As := []) (rest := []) hm hw hl (c_ahead l G T tb tk tc tn ti tt tu tm (tp + q) (-1) (by first | assumption | omega) (by first | assumption | omega)) gX3_readNumber_X3_ahead rfl (by decide +kernel) ⟨by decide, by decide⟩ (ci := 3) rfl 0 rfl [0, 1, 2, 3, 4, 5, 6] (by decide) rfl rfl rfl (by simp [Value.category]) ⟨by decide, by decide⟩ dX3_readNumber_29 (fun v H locs hp hw => ?_)
        obtain rfl := hp
        refine W.eq (g2 := F0 m 32 ls [vZ (bt tb tn (tp + q))]) rfl ?_
        refine k_callSr (n := 1) (As := [vZ (bt tb tn (tp + q))]) (rest := []) hm hw hl (c_isDigit l G (bt tb tn (tp + q)) (bt_rng htb)) gX3_readNumber_X3_isDigit rfl (by decide +kernel) ⟨by decide, by decide⟩ [] (by decide) rfl rfl rfl (by simp [Value.category]) ⟨by decide, by decide⟩ dX3_readNumber_32 (fun v H locs hp hw => ?_)
        obtain rfl := hp
        refine W.eq (g2 := F0 m 35 ls [vB (decide (48 ≤ (bt tb tn (tp + q)) ∧ (bt tb tn (tp + q)) ≤ 57))]) rfl ?_
        refine k_ifeqB (tgt := 66) hm dX3_readNumber_35 (by decide) (fun c_11 => ?_) (fun c_11 => ?_)
        · have c_11d := of_decide_eq_false c_11
          have hF : ndF tb tn k tp = q := ndF_of ⟨hq.1, hdg, Or.inr c_11d⟩
          have hE : nE tb tn k tp = tp + q := by unfold nE; rw [hF]
          have hV : nV tb tn k tp = u := by unfold nV; rw [hF, hu]
          have hu9 : u ≤ 999 := by rw [← hV]; exact nV_le (by omega)
          refine k_aload_n hm hl 0 rfl dX3_readNumber_66 ?_
          refine k_get (T := TX3) hm hw 0 8 i3 rfl rfl (by decide) (by decide +kernel) rfl dX3_readNumber_67 ?_
          refine k_iload_n hm hl 3 rfl dX3_readNumber_70 ?_
          refine k_icmpeq (tgt := 84) hm dX3_readNumber_71 (by decide) (by omega) (fun c_12 => ?_) (fun c_12 => ?_)
          · refine k_aload_n hm hl 0 rfl dX3_readNumber_84 ?_
            refine k_aload_n hm hl 0 rfl dX3_readNumber_85 ?_
            refine k_get (T := TX3) hm hw 0 8 i3 rfl rfl (by decide) (by decide +kernel) rfl dX3_readNumber_86 ?_
            refine k_put (T := TX3) hm hw 0 9 (wPat G T tb tk tc tn ti tt tu tm (tp + q) ((tp + q : Nat) : Int)) i3 tyX3 tyX3_ok nmX3 rfl rfl (by decide) (by decide +kernel) rfl (tyX3_ok 9 (by decide)) rfl rfl (Nat.le_of_ble_eq_true rfl) rfl dX3_readNumber_89 (fun H locs hw => ?_)
            refine k_goto (tgt := 112) hm dX3_readNumber_92 (by decide) ?_
            refine k_iload hm hl 4 rfl dX3_readNumber_112 ?_
            exact k_iret (post := _) hm hQ rfl rfl hw (⟨_, _, _, rfl, rfl, Or.inl ⟨Or.inl (by rw [hF]; omega), by rw [hE]⟩, hq.2⟩) (by omega) (by omega) dX3_readNumber_114
          · refine k_aload_n hm hl 0 rfl dX3_readNumber_74 ?_
            refine k_callVr (n := 0) (As := []) (rest := []) hm hw hl (c_ahead l G T tb tk tc tn ti tt tu tm (tp + q) (-1) (by first | assumption | omega) (by first | assumption | omega)) gX3_readNumber_X3_ahead rfl (by decide +kernel) ⟨by decide, by decide⟩ (ci := 3) rfl 0 rfl [0, 1, 2, 3, 4, 5, 6] (by decide) rfl rfl rfl (by simp [Value.category]) ⟨by decide, by decide⟩ dX3_readNumber_75 (fun v H locs hp hw => ?_)
            obtain rfl := hp
            refine W.eq (g2 := F0 m 78 ls [vZ (bt tb tn (tp + q))]) rfl ?_
            refine k_callSr (n := 1) (As := [vZ (bt tb tn (tp + q))]) (rest := []) hm hw hl (c_isDigit l G (bt tb tn (tp + q)) (bt_rng htb)) gX3_readNumber_X3_isDigit rfl (by decide +kernel) ⟨by decide, by decide⟩ [] (by decide) rfl rfl rfl (by simp [Value.category]) ⟨by decide, by decide⟩ dX3_readNumber_78 (fun v H locs hp hw => ?_)
            obtain rfl := hp
            refine W.eq (g2 := F0 m 81 ls [vB (decide (48 ≤ (bt tb tn (tp + q)) ∧ (bt tb tn (tp + q)) ≤ 57))]) rfl ?_
            refine k_ifeqB (tgt := 95) hm dX3_readNumber_81 (by decide) (fun c_15 => ?_) (fun c_15 => ?_)
            · have c_15d := of_decide_eq_false c_15
              have hd81 : ¬ dg tb tn (tp + q) := c_15d
              refine k_iload hm hl 4 rfl dX3_readNumber_95 ?_
              refine k_iconstN hm 1 dX3_readNumber_97 ?_
              refine k_icmplt (tgt := 107) hm dX3_readNumber_98 (by decide) (by omega) (fun c_16 => ?_) (fun c_16 => ?_)
              · refine k_aload_n hm hl 0 rfl dX3_readNumber_107 ?_
                refine k_iload_n hm hl 3 rfl dX3_readNumber_108 ?_
                refine k_put (T := TX3) hm hw 0 9 (wPat G T tb tk tc tn ti tt tu tm (tp + q) ((tp : Nat) : Int)) i3 tyX3 tyX3_ok nmX3 rfl rfl (by decide) (by decide +kernel) rfl (tyX3_ok 9 (by decide)) rfl rfl (Nat.le_of_ble_eq_true rfl) rfl dX3_readNumber_109 (fun H locs hw => ?_)
                refine k_iload hm hl 4 rfl dX3_readNumber_112 ?_
                exact k_iret (post := _) hm hQ rfl rfl hw (⟨_, _, _, rfl, rfl, Or.inr ⟨by rw [hF, hE]; intro z; rcases z with z | z; omega; exact hd81 z, rfl⟩, hq.2⟩) (by omega) (by omega) dX3_readNumber_114
              · refine k_iload hm hl 4 rfl dX3_readNumber_101 ?_
                refine k_iload_n hm hl 2 rfl dX3_readNumber_103 ?_
                refine k_icmple (tgt := 112) hm dX3_readNumber_104 (by decide) (by omega) (fun c_17 => ?_) (fun c_17 => ?_)
                · refine k_iload hm hl 4 rfl dX3_readNumber_112 ?_
                  exact k_iret (post := _) hm hQ rfl rfl hw ((absurd ⟨by rw [hF]; omega, by rw [hE]; exact hd81, by rw [hV]; omega, by rw [hV]; omega⟩ hok)) (by omega) (by omega) dX3_readNumber_114
                · refine k_aload_n hm hl 0 rfl dX3_readNumber_107 ?_
                  refine k_iload_n hm hl 3 rfl dX3_readNumber_108 ?_
                  refine k_put (T := TX3) hm hw 0 9 (wPat G T tb tk tc tn ti tt tu tm (tp + q) ((tp : Nat) : Int)) i3 tyX3 tyX3_ok nmX3 rfl rfl (by decide) (by decide +kernel) rfl (tyX3_ok 9 (by decide)) rfl rfl (Nat.le_of_ble_eq_true rfl) rfl dX3_readNumber_109 (fun H locs hw => ?_)
                  refine k_iload hm hl 4 rfl dX3_readNumber_112 ?_
                  exact k_iret (post := _) hm hQ rfl rfl hw (⟨_, _, _, rfl, rfl, Or.inr ⟨by rw [hF, hE]; intro z; rcases z with z | z; omega; exact hd81 z, rfl⟩, hq.2⟩) (by omega) (by omega) dX3_readNumber_114
            · have c_15d := of_decide_eq_true c_15
              have hd81 : dg tb tn (tp + q) := c_15d
              refine k_aload_n hm hl 0 rfl dX3_readNumber_84 ?_
              refine k_aload_n hm hl 0 rfl dX3_readNumber_85 ?_
              refine k_get (T := TX3) hm hw 0 8 i3 rfl rfl (by decide) (by decide +kernel) rfl dX3_readNumber_86 ?_
              refine k_put (T := TX3) hm hw 0 9 (wPat G T tb tk tc tn ti tt tu tm (tp + q) ((tp + q : Nat) : Int)) i3 tyX3 tyX3_ok nmX3 rfl rfl (by decide) (by decide +kernel) rfl (tyX3_ok 9 (by decide)) rfl rfl (Nat.le_of_ble_eq_true rfl) rfl dX3_readNumber_89 (fun H locs hw => ?_)
              refine k_goto (tgt := 112) hm dX3_readNumber_92 (by decide) ?_
              refine k_iload hm hl 4 rfl dX3_readNumber_112 ?_
              exact k_iret (post := _) hm hQ rfl rfl hw (⟨_, _, _, rfl, rfl, Or.inl ⟨Or.inr (by rw [hE]; exact hd81), by rw [hE]⟩, hq.2⟩) (by omega) (by omega) dX3_readNumber_114
        · have c_11d := of_decide_eq_true c_11
          have hd1 : dg tb tn (tp + q) := c_11d
          have hd2 := dg_lt hd1
          have hd3 := dv_le hdg
          have hd4 : 10 ^ q ≤ 10 ^ 3 := Nat.pow_le_pow_right (by decide) (by omega)
          refine k_bipushN hm 10 dX3_readNumber_38 rfl ?_
          refine k_iload hm hl 4 rfl dX3_readNumber_40 ?_
          refine k_imulN hm dX3_readNumber_42 ?_
          refine k_aload_n hm hl 0 rfl dX3_readNumber_43 ?_
          refine k_callVr (n := 0) (As := []) (rest := [vN (10 * u)]) hm hw hl (c_ahead l G T tb tk tc tn ti tt tu tm (tp + q) (-1) (by first | assumption | omega) (by first | assumption | omega)) gX3_readNumber_X3_ahead rfl (by decide +kernel) ⟨by decide, by decide⟩ (ci := 3) rfl 0 rfl [0, 1, 2, 3, 4, 5, 6] (by decide) rfl rfl rfl (by simp [Value.category]) ⟨by decide, by decide⟩ dX3_readNumber_44 (fun v H locs hp hw => ?_)
          obtain rfl := hp
          refine W.eq (g2 := F0 m 47 ls [vZ (bt tb tn (tp + q)), vN (10 * u)]) rfl ?_
          refine k_rwV (y := vN (tb (tp + q))) (by rw [bt_dg hd1]) ?_
          refine k_iaddN hm dX3_readNumber_47 ?_
          refine k_bipushN hm 48 dX3_readNumber_48 rfl ?_
          refine k_isubN hm (by omega) dX3_readNumber_50 ?_
          refine k_istore hm hl [(4, vN (((10 * u) + (tb (tp + q))) - 48)), (0, .ref (T 0)), (1, vN (k)), (2, vN (hi)), (3, vN (tp))] (by decide) rfl dX3_readNumber_51 (fun ls hl => ?_)
          refine k_aload_n hm hl 1 rfl dX3_readNumber_53 ?_
          refine k_dup hm dX3_readNumber_54 rfl ?_
          refine k_get (T := TX3) hm hw 0 8 i3 rfl rfl (by decide) (by decide +kernel) rfl dX3_readNumber_55 ?_
          refine k_iconstN hm 1 dX3_readNumber_58 ?_
          refine k_iaddN hm dX3_readNumber_59 ?_
          refine k_put (T := TX3) hm hw 0 8 (wPat G T tb tk tc tn ti tt tu tm ((tp + q) + 1) (-1)) i3 tyX3 tyX3_ok nmX3 rfl rfl (by decide) (by decide +kernel) rfl (tyX3_ok 8 (by decide)) rfl rfl (Nat.le_of_ble_eq_true rfl) rfl dX3_readNumber_60 (fun H locs hw => ?_)
          refine k_goto (tgt := 18) hm dX3_readNumber_63 (by decide) ?_
          exact ih_18  (((10 * u) + (tb (tp + q))) - 48) (q + 1) (by omega) (by simp only [dv]; omega) (fun j z => by rcases Nat.lt_or_ge j q with y | y; exact hdg j y; rw [show j = q by omega]; exact hd1) _ _ _ (by omega) hw (lv_sub hl [1, 2, 3, 4, 0] rfl)
  exact loop_18 (k - 0 + 1) 0 0 (by first | assumption | omega) rfl (fun j z => absurd z (by omega)) _ _ _ (Nat.lt_succ_self _) hw (lv_sub hl [2, 3, 4, 1, 0] rfl)
set_option maxHeartbeats 4000000 in
set_option maxRecDepth 100000 in
theorem c_readItem_ok (l : Launch) (G : kG) (T : Nat → Nat) (tb : Nat → Nat) (tk : Nat → Int) (tc : Nat → Nat) (tn : Nat) (ti : Nat) (tt : Nat) (tu : Nat) (tm : Nat) (tp : Nat) (te : Int) (htn : tn ≤ 120) (htp : tp ≤ tn) (htb : ∀ i, i < tn → tb i ≤ 127) (hti : ti < 60) (hok : itOk tb tn tp) : kCM l yX3_readItem wsX3_readItem 3 65 0 0 G [.ref (T 0)] (wPat G T tb tk tc tn ti tt tu tm tp (-1)) (fun vv uu => vv = none ∧ uu = wPat G T tb (zU tk ti (kdB (bt tb tn tp))) (nU tc ti (nV tb tn 3 (tp + 1))) tn (ti + 1) tt (tu + nV tb tn 3 (tp + 1) * usZ (kdB (bt tb tn tp))) (tm + nV tb tn 3 (tp + 1) * mdZ (kdB (bt tb tn tp))) (nxI tb tn tp) (-1)) := by
  refine kCM.of (cc := cX3_readItem) (maxL := 3) (ret := none) (by decide) rfl (Nat.le_of_ble_eq_true rfl) ?_
  intro p e s m args below meth c A ls Qz hQ hin hm hw hl
  have hl : lv_has ls 3 [(0, .ref (T 0))] := hl
  have i3 : ∀ w ∈ wsX30, w ∈ wsX3_readItem := by decide +kernel
  have hk1 := hok.1
  have hk2 := kdB_lt hok.1
  have hk3 := kdB_rng (bt tb tn tp)
  refine k_aload_n hm hl 0 rfl dX3_readItem_0 ?_
  refine k_callVr (n := 0) (As := []) (rest := []) hm hw hl (c_ahead l G T tb tk tc tn ti tt tu tm tp (-1) (by first | assumption | omega) (by first | assumption | omega)) gX3_readItem_X3_ahead rfl (by decide +kernel) ⟨by decide, by decide⟩ (ci := 3) rfl 0 rfl [0, 1, 2, 3, 4, 5, 6] (by decide) rfl rfl rfl (by simp [Value.category]) ⟨by decide, by decide⟩ dX3_readItem_1 (fun v H locs hp hw => ?_)
  obtain rfl := hp
  refine W.eq (g2 := F0 m 4 ls [vZ (bt tb tn tp)]) rfl ?_
  refine k_callSr (n := 1) (As := [vZ (bt tb tn tp)]) (rest := []) hm hw hl (c_kindOfB l G (bt tb tn tp) (bt_rng htb)) gX3_readItem_X3_kindOf rfl (by decide +kernel) ⟨by decide, by decide⟩ [] (by decide) rfl rfl rfl (by simp [Value.category]) ⟨by decide, by decide⟩ dX3_readItem_4 (fun v H locs hp hw => ?_)
  obtain rfl := hp
  refine W.eq (g2 := F0 m 7 ls [vZ (kdB (bt tb tn tp))]) rfl ?_
  refine k_istore_n hm hl [(1, vZ (kdB (bt tb tn tp))), (0, .ref (T 0))] (by decide) rfl dX3_readItem_7 (fun ls hl => ?_)
  refine k_aload_n hm hl 1 rfl dX3_readItem_8 ?_
  refine k_iload_n hm hl 0 rfl dX3_readItem_9 ?_
  refine k_iconst (n := -1) hm dX3_readItem_10 ?_
  refine k_icmpeq (tgt := 18) hm dX3_readItem_11 (by decide) (by omega) (fun c_3 => absurd c_3 (by omega)) (fun c_3 => ?_)
  refine k_iconstN hm 1 dX3_readItem_14 ?_
  refine k_goto (tgt := 19) hm dX3_readItem_15 (by decide) ?_
  refine k_callV (n := 1) (As := [vN (1)]) (rest := []) (wr := []) hm hw hl (c_pass_t l G T tb tk tc tn ti tt tu tm tp te) gX3_readItem_X3_pass rfl (by decide +kernel) ⟨by decide, by decide⟩ (ci := 3) rfl 0 rfl [0, 1, 2, 3, 4, 5, 6] [] (by decide) rfl rfl (by decide) (by decide) rfl rfl (by simp [Value.category]) ⟨by decide, by decide⟩ dX3_readItem_19 (fun v w1 H locs hp hw => ?_)
  obtain ⟨rfl, rfl⟩ := hp
  have hw := hw.sub (ws' := wPat G T tb tk tc tn ti tt tu tm (tp + 1) (-1)) [0, 1, 2, 3, 4, 5, 6] (by decide) rfl
  refine W.eq (g2 := F0 m 22 ls []) rfl ?_
  refine k_aload_n hm hl 1 rfl dX3_readItem_22 ?_
  refine k_iconstN hm 3 dX3_readItem_23 ?_
  refine k_bipushN hm 120 dX3_readItem_24 rfl ?_
  refine k_callV (n := 2) (As := [vN (3), vN (120)]) (rest := []) (wr := []) hm hw hl (c_readNumber_ok l G T tb tk tc tn ti tt tu tm (tp + 1) te 3 120 (by first | assumption | omega) (by first | assumption | omega) (by first | assumption | omega) (by first | assumption | omega) hok.2) gX3_readItem_X3_readNumber rfl (by decide +kernel) ⟨by decide, by decide⟩ (ci := 3) rfl 0 rfl [0, 1, 2, 3, 4, 5, 6] [] (by decide) rfl rfl (by decide) (by decide) rfl rfl (by simp [Value.category]) ⟨by decide, by decide⟩ dX3_readItem_26 (fun v w1 H locs hp hw => ?_)
  obtain ⟨rfl, rfl⟩ := hp
  have hw := hw.sub (ws' := wPat G T tb tk tc tn ti tt tu tm (nE tb tn 3 (tp + 1)) (-1)) [0, 1, 2, 3, 4, 5, 6] (by decide) rfl
  refine W.eq (g2 := F0 m 29 ls [vN (nV tb tn 3 (tp + 1))]) rfl ?_
  refine k_istore_n hm hl [(2, vN (nV tb tn 3 (tp + 1))), (1, vZ (kdB (bt tb tn tp))), (0, .ref (T 0))] (by decide) rfl dX3_readItem_29 (fun ls hl => ?_)
  refine k_aload_n hm hl 2 rfl dX3_readItem_30 ?_
  refine k_get (T := TX3) hm hw 0 1 i3 rfl rfl (by decide) (by decide +kernel) rfl dX3_readItem_31 ?_
  refine k_aload_n hm hl 2 rfl dX3_readItem_34 ?_
  refine k_get (T := TX3) hm hw 0 4 i3 rfl rfl (by decide) (by decide +kernel) rfl dX3_readItem_35 ?_
  refine k_iload_n hm hl 1 rfl dX3_readItem_38 ?_
  refine k_callV (n := 2) (As := [vN (ti), vZ (kdB (bt tb tn tp))]) (rest := []) (wr := [(T 0, .inr (3, [.ref (T 1), .ref (T 3), .ref (T 5), vN (tn), vN (ti), vN (tt), vN (tu), vN (tm), vN (nE tb tn 3 (tp + 1)), vZ (-1)])), (T 1, .inr (2, [.ref (T 2)])), (T 2, .inl (G.2 0, 120, .inl (nF tb))), (T 5, .inr (2, [.ref (T 6)])), (T 6, .inl (G.2 0, 60, .inl (nF tc)))]) hm hw hl (c_Num_putZ l G (T 3) (T 4) 60 tk ti (kdB (bt tb tn tp)) (by first | assumption | omega)) gX3_readItem_X2_put rfl (by decide +kernel) ⟨by decide, by decide⟩ (ci := 2) rfl 3 rfl [3, 4] [0, 1, 2, 5, 6] (by decide) rfl rfl (by decide) (by decide) rfl rfl (by simp [Value.category]) ⟨by decide, by decide⟩ dX3_readItem_39 (fun v w1 H locs hp hw => ?_)
  obtain ⟨rfl, rfl⟩ := hp
  have hw := hw.sub (ws' := wPat G T tb (zU tk ti (kdB (bt tb tn tp))) tc tn ti tt tu tm (nE tb tn 3 (tp + 1)) (-1)) [0, 1, 2, 5, 6, 3, 4] (by decide) rfl
  refine W.eq (g2 := F0 m 42 ls []) rfl ?_
  refine k_aload_n hm hl 2 rfl dX3_readItem_42 ?_
  refine k_get (T := TX3) hm hw 0 2 i3 rfl rfl (by decide) (by decide +kernel) rfl dX3_readItem_43 ?_
  refine k_aload_n hm hl 2 rfl dX3_readItem_46 ?_
  refine k_get (T := TX3) hm hw 0 4 i3 rfl rfl (by decide) (by decide +kernel) rfl dX3_readItem_47 ?_
  refine k_iload_n hm hl 0 rfl dX3_readItem_50 ?_
  refine k_callV (n := 2) (As := [vN (ti), vN (nV tb tn 3 (tp + 1))]) (rest := []) (wr := [(T 0, .inr (3, [.ref (T 1), .ref (T 3), .ref (T 5), vN (tn), vN (ti), vN (tt), vN (tu), vN (tm), vN (nE tb tn 3 (tp + 1)), vZ (-1)])), (T 1, .inr (2, [.ref (T 2)])), (T 2, .inl (G.2 0, 120, .inl (nF tb))), (T 3, .inr (2, [.ref (T 4)])), (T 4, .inl (G.2 0, 60, .inl (iF (zU tk ti (kdB (bt tb tn tp))))))]) hm hw hl (c_Num_put l G (T 5) (T 6) 60 tc ti (nV tb tn 3 (tp + 1)) (by first | assumption | omega)) gX3_readItem_X2_put rfl (by decide +kernel) ⟨by decide, by decide⟩ (ci := 2) rfl 5 rfl [5, 6] [0, 1, 2, 3, 4] (by decide) rfl rfl (by decide) (by decide) rfl rfl (by simp [Value.category]) ⟨by decide, by decide⟩ dX3_readItem_51 (fun v w1 H locs hp hw => ?_)
  obtain ⟨rfl, rfl⟩ := hp
  have hw := hw.sub (ws' := wPat G T tb (zU tk ti (kdB (bt tb tn tp))) (nU tc ti (nV tb tn 3 (tp + 1))) tn ti tt tu tm (nE tb tn 3 (tp + 1)) (-1)) [0, 1, 2, 3, 4, 5, 6] (by decide) rfl
  refine W.eq (g2 := F0 m 54 ls []) rfl ?_
  refine k_aload_n hm hl 2 rfl dX3_readItem_54 ?_
  refine k_dup hm dX3_readItem_55 rfl ?_
  refine k_get (T := TX3) hm hw 0 4 i3 rfl rfl (by decide) (by decide +kernel) rfl dX3_readItem_56 ?_
  refine k_iconstN hm 1 dX3_readItem_59 ?_
  refine k_iaddN hm dX3_readItem_60 ?_
  refine k_put (T := TX3) hm hw 0 4 (wPat G T tb (zU tk ti (kdB (bt tb tn tp))) (nU tc ti (nV tb tn 3 (tp + 1))) tn (ti + 1) tt tu tm (nE tb tn 3 (tp + 1)) (-1)) i3 tyX3 tyX3_ok nmX3 rfl rfl (by decide) (by decide +kernel) rfl (tyX3_ok 4 (by decide)) rfl rfl (Nat.le_of_ble_eq_true rfl) rfl dX3_readItem_61 (fun H locs hw => ?_)
  refine k_aload_n hm hl 2 rfl dX3_readItem_64 ?_
  refine k_dup hm dX3_readItem_65 rfl ?_
  refine k_get (T := TX3) hm hw 0 6 i3 rfl rfl (by decide) (by decide +kernel) rfl dX3_readItem_66 ?_
  refine k_iload_n hm hl 0 rfl dX3_readItem_69 ?_
  refine k_iload_n hm hl 1 rfl dX3_readItem_70 ?_
  refine k_callSNr (n := 1) (As := [vZ (kdB (bt tb tn tp))]) (rest := [vN (nV tb tn 3 (tp + 1)), vN (tu), .ref (T 0)]) hm hw hl (c_usedByZ l G (kdB (bt tb tn tp)) (kdB_rng _)) gX3_readItem_X6_usedBy_n81 (by decide +kernel) (by decide +kernel) 6 rfl rfl (by decide +kernel) ⟨by decide, by decide⟩ [] (by decide) rfl rfl rfl (by simp [Value.category]) ⟨by decide, by decide⟩ dX3_readItem_71 (fun v H locs hp hw => ?_)
  obtain rfl := hp
  refine W.eq (g2 := F0 m 74 ls [vN (usZ (kdB (bt tb tn tp))), vN (nV tb tn 3 (tp + 1)), vN (tu), .ref (T 0)]) rfl ?_
  refine k_imulN hm dX3_readItem_74 ?_
  refine k_iaddN hm dX3_readItem_75 ?_
  refine k_put (T := TX3) hm hw 0 6 (wPat G T tb (zU tk ti (kdB (bt tb tn tp))) (nU tc ti (nV tb tn 3 (tp + 1))) tn (ti + 1) tt (tu + ((nV tb tn 3 (tp + 1)) * (usZ (kdB (bt tb tn tp))))) tm (nE tb tn 3 (tp + 1)) (-1)) i3 tyX3 tyX3_ok nmX3 rfl rfl (by decide) (by decide +kernel) rfl (tyX3_ok 6 (by decide)) rfl rfl (Nat.le_of_ble_eq_true rfl) rfl dX3_readItem_76 (fun H locs hw => ?_)
  refine k_aload_n hm hl 2 rfl dX3_readItem_79 ?_
  refine k_dup hm dX3_readItem_80 rfl ?_
  refine k_get (T := TX3) hm hw 0 7 i3 rfl rfl (by decide) (by decide +kernel) rfl dX3_readItem_81 ?_
  refine k_iload_n hm hl 0 rfl dX3_readItem_84 ?_
  refine k_iload_n hm hl 1 rfl dX3_readItem_85 ?_
  refine k_callSNr (n := 1) (As := [vZ (kdB (bt tb tn tp))]) (rest := [vN (nV tb tn 3 (tp + 1)), vN (tm), .ref (T 0)]) hm hw hl (c_madeByZ l G (kdB (bt tb tn tp)) (kdB_rng _)) gX3_readItem_X6_madeBy_n84 (by decide +kernel) (by decide +kernel) 7 rfl rfl (by decide +kernel) ⟨by decide, by decide⟩ [] (by decide) rfl rfl rfl (by simp [Value.category]) ⟨by decide, by decide⟩ dX3_readItem_86 (fun v H locs hp hw => ?_)
  obtain rfl := hp
  refine W.eq (g2 := F0 m 89 ls [vN (mdZ (kdB (bt tb tn tp))), vN (nV tb tn 3 (tp + 1)), vN (tm), .ref (T 0)]) rfl ?_
  refine k_imulN hm dX3_readItem_89 ?_
  refine k_iaddN hm dX3_readItem_90 ?_
  refine k_put (T := TX3) hm hw 0 7 (wPat G T tb (zU tk ti (kdB (bt tb tn tp))) (nU tc ti (nV tb tn 3 (tp + 1))) tn (ti + 1) tt (tu + ((nV tb tn 3 (tp + 1)) * (usZ (kdB (bt tb tn tp))))) (tm + ((nV tb tn 3 (tp + 1)) * (mdZ (kdB (bt tb tn tp))))) (nE tb tn 3 (tp + 1)) (-1)) i3 tyX3 tyX3_ok nmX3 rfl rfl (by decide) (by decide +kernel) rfl (tyX3_ok 7 (by decide)) rfl rfl (Nat.le_of_ble_eq_true rfl) rfl dX3_readItem_91 (fun H locs hw => ?_)
  exact k_vret hm hQ rfl hw (⟨rfl, rfl⟩) (by omega) (by omega) dX3_readItem_94
set_option maxHeartbeats 4000000 in
set_option maxRecDepth 100000 in
theorem c_readItem_er (l : Launch) (G : kG) (T : Nat → Nat) (tb : Nat → Nat) (tk : Nat → Int) (tc : Nat → Nat) (tn : Nat) (ti : Nat) (tt : Nat) (tu : Nat) (tm : Nat) (tp : Nat) (te : Int) (htn : tn ≤ 120) (htp : tp ≤ tn) (htb : ∀ i, i < tn → tb i ≤ 127) (hti : ti < 60) (hok : ¬ itOk tb tn tp) : kCM l yX3_readItem wsX3_readItem 3 65 0 0 G [.ref (T 0)] (wPat G T tb tk tc tn ti tt tu tm tp (-1)) (fun vv uu => ∃ (tk2 : Nat → Int), ∃ (tc2 : Nat → Nat), ∃ (ti2 : Nat), ∃ (tu2 : Nat), ∃ (tm2 : Nat), ∃ (tp2 : Nat), ∃ (z2 : Int), vv = none ∧ uu = wPat G T tb tk2 tc2 tn ti2 tt tu2 tm2 tp2 z2 ∧ (isIr tb tn tp z2) ∧ (tp2 ≤ tn)) := by
  refine kCM.of (cc := cX3_readItem) (maxL := 3) (ret := none) (by decide) rfl (Nat.le_of_ble_eq_true rfl) ?_
  intro p e s m args below meth c A ls Qz hQ hin hm hw hl
  have hl : lv_has ls 3 [(0, .ref (T 0))] := hl
  have i3 : ∀ w ∈ wsX30, w ∈ wsX3_readItem := by decide +kernel
  have hk3 := kdB_rng (bt tb tn tp)
  refine k_aload_n hm hl 0 rfl dX3_readItem_0 ?_
  refine k_callVr (n := 0) (As := []) (rest := []) hm hw hl (c_ahead l G T tb tk tc tn ti tt tu tm tp (-1) (by first | assumption | omega) (by first | assumption | omega)) gX3_readItem_X3_ahead rfl (by decide +kernel) ⟨by decide, by decide⟩ (ci := 3) rfl 0 rfl [0, 1, 2, 3, 4, 5, 6] (by decide) rfl rfl rfl (by simp [Value.category]) ⟨by decide, by decide⟩ dX3_readItem_1 (fun v H locs hp hw => ?_)
  obtain rfl := hp
  refine W.eq (g2 := F0 m 4 ls [vZ (bt tb tn tp)]) rfl ?_
  refine k_callSr (n := 1) (As := [vZ (bt tb tn tp)]) (rest := []) hm hw hl (c_kindOfB l G (bt tb tn tp) (bt_rng htb)) gX3_readItem_X3_kindOf rfl (by decide +kernel) ⟨by decide, by decide⟩ [] (by decide) rfl rfl rfl (by simp [Value.category]) ⟨by decide, by decide⟩ dX3_readItem_4 (fun v H locs hp hw => ?_)
  obtain rfl := hp
  refine W.eq (g2 := F0 m 7 ls [vZ (kdB (bt tb tn tp))]) rfl ?_
  refine k_istore_n hm hl [(1, vZ (kdB (bt tb tn tp))), (0, .ref (T 0))] (by decide) rfl dX3_readItem_7 (fun ls hl => ?_)
  refine k_aload_n hm hl 1 rfl dX3_readItem_8 ?_
  refine k_iload_n hm hl 0 rfl dX3_readItem_9 ?_
  refine k_iconst (n := -1) hm dX3_readItem_10 ?_
  refine k_icmpeq (tgt := 18) hm dX3_readItem_11 (by decide) (by omega) (fun c_3 => ?_) (fun c_3 => ?_)
  · refine k_iconstN hm 0 dX3_readItem_18 ?_
    refine k_callV (n := 1) (As := [vN (0)]) (rest := []) (wr := []) hm hw hl (c_pass_f l G T tb tk tc tn ti tt tu tm tp te) gX3_readItem_X3_pass rfl (by decide +kernel) ⟨by decide, by decide⟩ (ci := 3) rfl 0 rfl [0, 1, 2, 3, 4, 5, 6] [] (by decide) rfl rfl (by decide) (by decide) rfl rfl (by simp [Value.category]) ⟨by decide, by decide⟩ dX3_readItem_19 (fun v w1 H locs hp hw => ?_)
    obtain ⟨rfl, rfl⟩ := hp
    have hw := hw.sub (ws' := wPat G T tb tk tc tn ti tt tu tm tp ((tp : Nat) : Int)) [0, 1, 2, 3, 4, 5, 6] (by decide) rfl
    refine W.eq (g2 := F0 m 22 ls []) rfl ?_
    refine k_aload_n hm hl 1 rfl dX3_readItem_22 ?_
    refine k_iconstN hm 3 dX3_readItem_23 ?_
    refine k_bipushN hm 120 dX3_readItem_24 rfl ?_
    refine k_callVr (n := 2) (As := [vN (3), vN (120)]) (rest := []) hm hw hl (c_readNumber_e l G T tb tk tc tn ti tt tu tm tp ((tp : Nat) : Int) 3 120 (by first | assumption | omega)) gX3_readItem_X3_readNumber rfl (by decide +kernel) ⟨by decide, by decide⟩ (ci := 3) rfl 0 rfl [0, 1, 2, 3, 4, 5, 6] (by decide) rfl rfl rfl (by simp [Value.category]) ⟨by decide, by decide⟩ dX3_readItem_26 (fun v H locs hp hw => ?_)
    obtain rfl := hp
    refine W.eq (g2 := F0 m 29 ls [vN (0)]) rfl ?_
    refine k_istore_n hm hl [(2, vN (0)), (1, vZ (kdB (bt tb tn tp))), (0, .ref (T 0))] (by decide) rfl dX3_readItem_29 (fun ls hl => ?_)
    refine k_aload_n hm hl 2 rfl dX3_readItem_30 ?_
    refine k_get (T := TX3) hm hw 0 1 i3 rfl rfl (by decide) (by decide +kernel) rfl dX3_readItem_31 ?_
    refine k_aload_n hm hl 2 rfl dX3_readItem_34 ?_
    refine k_get (T := TX3) hm hw 0 4 i3 rfl rfl (by decide) (by decide +kernel) rfl dX3_readItem_35 ?_
    refine k_iload_n hm hl 1 rfl dX3_readItem_38 ?_
    refine k_callV (n := 2) (As := [vN (ti), vZ (kdB (bt tb tn tp))]) (rest := []) (wr := [(T 0, .inr (3, [.ref (T 1), .ref (T 3), .ref (T 5), vN (tn), vN (ti), vN (tt), vN (tu), vN (tm), vN (tp), vZ (((tp : Nat) : Int))])), (T 1, .inr (2, [.ref (T 2)])), (T 2, .inl (G.2 0, 120, .inl (nF tb))), (T 5, .inr (2, [.ref (T 6)])), (T 6, .inl (G.2 0, 60, .inl (nF tc)))]) hm hw hl (c_Num_putZ l G (T 3) (T 4) 60 tk ti (kdB (bt tb tn tp)) (by first | assumption | omega)) gX3_readItem_X2_put rfl (by decide +kernel) ⟨by decide, by decide⟩ (ci := 2) rfl 3 rfl [3, 4] [0, 1, 2, 5, 6] (by decide) rfl rfl (by decide) (by decide) rfl rfl (by simp [Value.category]) ⟨by decide, by decide⟩ dX3_readItem_39 (fun v w1 H locs hp hw => ?_)
    obtain ⟨rfl, rfl⟩ := hp
    have hw := hw.sub (ws' := wPat G T tb (zU tk ti (kdB (bt tb tn tp))) tc tn ti tt tu tm tp ((tp : Nat) : Int)) [0, 1, 2, 5, 6, 3, 4] (by decide) rfl
    refine W.eq (g2 := F0 m 42 ls []) rfl ?_
    refine k_aload_n hm hl 2 rfl dX3_readItem_42 ?_
    refine k_get (T := TX3) hm hw 0 2 i3 rfl rfl (by decide) (by decide +kernel) rfl dX3_readItem_43 ?_
    refine k_aload_n hm hl 2 rfl dX3_readItem_46 ?_
    refine k_get (T := TX3) hm hw 0 4 i3 rfl rfl (by decide) (by decide +kernel) rfl dX3_readItem_47 ?_
    refine k_iload_n hm hl 0 rfl dX3_readItem_50 ?_
    refine k_callV (n := 2) (As := [vN (ti), vN (0)]) (rest := []) (wr := [(T 0, .inr (3, [.ref (T 1), .ref (T 3), .ref (T 5), vN (tn), vN (ti), vN (tt), vN (tu), vN (tm), vN (tp), vZ (((tp : Nat) : Int))])), (T 1, .inr (2, [.ref (T 2)])), (T 2, .inl (G.2 0, 120, .inl (nF tb))), (T 3, .inr (2, [.ref (T 4)])), (T 4, .inl (G.2 0, 60, .inl (iF (zU tk ti (kdB (bt tb tn tp))))))]) hm hw hl (c_Num_put l G (T 5) (T 6) 60 tc ti 0 (by first | assumption | omega)) gX3_readItem_X2_put rfl (by decide +kernel) ⟨by decide, by decide⟩ (ci := 2) rfl 5 rfl [5, 6] [0, 1, 2, 3, 4] (by decide) rfl rfl (by decide) (by decide) rfl rfl (by simp [Value.category]) ⟨by decide, by decide⟩ dX3_readItem_51 (fun v w1 H locs hp hw => ?_)
    obtain ⟨rfl, rfl⟩ := hp
    have hw := hw.sub (ws' := wPat G T tb (zU tk ti (kdB (bt tb tn tp))) (nU tc ti 0) tn ti tt tu tm tp ((tp : Nat) : Int)) [0, 1, 2, 3, 4, 5, 6] (by decide) rfl
    refine W.eq (g2 := F0 m 54 ls []) rfl ?_
    refine k_aload_n hm hl 2 rfl dX3_readItem_54 ?_
    refine k_dup hm dX3_readItem_55 rfl ?_
    refine k_get (T := TX3) hm hw 0 4 i3 rfl rfl (by decide) (by decide +kernel) rfl dX3_readItem_56 ?_
    refine k_iconstN hm 1 dX3_readItem_59 ?_
    refine k_iaddN hm dX3_readItem_60 ?_
    refine k_put (T := TX3) hm hw 0 4 (wPat G T tb (zU tk ti (kdB (bt tb tn tp))) (nU tc ti 0) tn (ti + 1) tt tu tm tp ((tp : Nat) : Int)) i3 tyX3 tyX3_ok nmX3 rfl rfl (by decide) (by decide +kernel) rfl (tyX3_ok 4 (by decide)) rfl rfl (Nat.le_of_ble_eq_true rfl) rfl dX3_readItem_61 (fun H locs hw => ?_)
    refine k_aload_n hm hl 2 rfl dX3_readItem_64 ?_
    refine k_dup hm dX3_readItem_65 rfl ?_
    refine k_get (T := TX3) hm hw 0 6 i3 rfl rfl (by decide) (by decide +kernel) rfl dX3_readItem_66 ?_
    refine k_iload_n hm hl 0 rfl dX3_readItem_69 ?_
    refine k_iload_n hm hl 1 rfl dX3_readItem_70 ?_
    refine k_callSNr (n := 1) (As := [vZ (kdB (bt tb tn tp))]) (rest := [vN (0), vN (tu), .ref (T 0)]) hm hw hl (c_usedByZ l G (kdB (bt tb tn tp)) (kdB_rng _)) gX3_readItem_X6_usedBy_n81 (by decide +kernel) (by decide +kernel) 6 rfl rfl (by decide +kernel) ⟨by decide, by decide⟩ [] (by decide) rfl rfl rfl (by simp [Value.category]) ⟨by decide, by decide⟩ dX3_readItem_71 (fun v H locs hp hw => ?_)
    obtain rfl := hp
    refine W.eq (g2 := F0 m 74 ls [vN (usZ (kdB (bt tb tn tp))), vN (0), vN (tu), .ref (T 0)]) rfl ?_
    refine k_imulN hm dX3_readItem_74 ?_
    refine k_iaddN hm dX3_readItem_75 ?_
    refine k_put (T := TX3) hm hw 0 6 (wPat G T tb (zU tk ti (kdB (bt tb tn tp))) (nU tc ti 0) tn (ti + 1) tt (tu + (0 * (usZ (kdB (bt tb tn tp))))) tm tp ((tp : Nat) : Int)) i3 tyX3 tyX3_ok nmX3 rfl rfl (by decide) (by decide +kernel) rfl (tyX3_ok 6 (by decide)) rfl rfl (Nat.le_of_ble_eq_true rfl) rfl dX3_readItem_76 (fun H locs hw => ?_)
    refine k_aload_n hm hl 2 rfl dX3_readItem_79 ?_
    refine k_dup hm dX3_readItem_80 rfl ?_
    refine k_get (T := TX3) hm hw 0 7 i3 rfl rfl (by decide) (by decide +kernel) rfl dX3_readItem_81 ?_
    refine k_iload_n hm hl 0 rfl dX3_readItem_84 ?_
    refine k_iload_n hm hl 1 rfl dX3_readItem_85 ?_
    refine k_callSNr (n := 1) (As := [vZ (kdB (bt tb tn tp))]) (rest := [vN (0), vN (tm), .ref (T 0)]) hm hw hl (c_madeByZ l G (kdB (bt tb tn tp)) (kdB_rng _)) gX3_readItem_X6_madeBy_n84 (by decide +kernel) (by decide +kernel) 7 rfl rfl (by decide +kernel) ⟨by decide, by decide⟩ [] (by decide) rfl rfl rfl (by simp [Value.category]) ⟨by decide, by decide⟩ dX3_readItem_86 (fun v H locs hp hw => ?_)
    obtain rfl := hp
    refine W.eq (g2 := F0 m 89 ls [vN (mdZ (kdB (bt tb tn tp))), vN (0), vN (tm), .ref (T 0)]) rfl ?_
    refine k_imulN hm dX3_readItem_89 ?_
    refine k_iaddN hm dX3_readItem_90 ?_
    refine k_put (T := TX3) hm hw 0 7 (wPat G T tb (zU tk ti (kdB (bt tb tn tp))) (nU tc ti 0) tn (ti + 1) tt (tu + (0 * (usZ (kdB (bt tb tn tp))))) (tm + (0 * (mdZ (kdB (bt tb tn tp))))) tp ((tp : Nat) : Int)) i3 tyX3 tyX3_ok nmX3 rfl rfl (by decide) (by decide +kernel) rfl (tyX3_ok 7 (by decide)) rfl rfl (Nat.le_of_ble_eq_true rfl) rfl dX3_readItem_91 (fun H locs hw => ?_)
    exact k_vret hm hQ rfl hw (⟨_, _, _, _, _, _, _, rfl, rfl, Or.inl ⟨by omega, rfl⟩, htp⟩) (by omega) (by omega) dX3_readItem_94
  · have hk2 := kdB_lt (show kdB (bt tb tn tp) ≠ -1 by omega)
    refine k_iconstN hm 1 dX3_readItem_14 ?_
    refine k_goto (tgt := 19) hm dX3_readItem_15 (by decide) ?_
    refine k_callV (n := 1) (As := [vN (1)]) (rest := []) (wr := []) hm hw hl (c_pass_t l G T tb tk tc tn ti tt tu tm tp te) gX3_readItem_X3_pass rfl (by decide +kernel) ⟨by decide, by decide⟩ (ci := 3) rfl 0 rfl [0, 1, 2, 3, 4, 5, 6] [] (by decide) rfl rfl (by decide) (by decide) rfl rfl (by simp [Value.category]) ⟨by decide, by decide⟩ dX3_readItem_19 (fun v w1 H locs hp hw => ?_)
    obtain ⟨rfl, rfl⟩ := hp
    have hw := hw.sub (ws' := wPat G T tb tk tc tn ti tt tu tm (tp + 1) (-1)) [0, 1, 2, 3, 4, 5, 6] (by decide) rfl
    refine W.eq (g2 := F0 m 22 ls []) rfl ?_
    refine k_aload_n hm hl 1 rfl dX3_readItem_22 ?_
    refine k_iconstN hm 3 dX3_readItem_23 ?_
    refine k_bipushN hm 120 dX3_readItem_24 rfl ?_
    refine k_callV (n := 2) (As := [vN (3), vN (120)]) (rest := []) (wr := []) hm hw hl (c_readNumber_er l G T tb tk tc tn ti tt tu tm (tp + 1) te 3 120 (by first | assumption | omega) (by first | assumption | omega) (by first | assumption | omega) (by first | assumption | omega) (fun z => hok ⟨by omega, z⟩)) gX3_readItem_X3_readNumber rfl (by decide +kernel) ⟨by decide, by decide⟩ (ci := 3) rfl 0 rfl [0, 1, 2, 3, 4, 5, 6] [] (by decide) rfl rfl (by decide) (by decide) rfl rfl (by simp [Value.category]) ⟨by decide, by decide⟩ dX3_readItem_26 (fun v w1 H locs hp hw => ?_)
    obtain ⟨v2_12, p2_13, z2_14, rfl, rfl, hz_15, hp2_16⟩ := hp
    have hw := hw.sub (ws' := wPat G T tb tk tc tn ti tt tu tm p2_13 z2_14) [0, 1, 2, 3, 4, 5, 6] (by decide) rfl
    refine W.eq (g2 := F0 m 29 ls [vN (v2_12)]) rfl ?_
    have hz := hz_15; have hp9 := hp2_16
    refine k_istore_n hm hl [(2, vN (v2_12)), (1, vZ (kdB (bt tb tn tp))), (0, .ref (T 0))] (by decide) rfl dX3_readItem_29 (fun ls hl => ?_)
    refine k_aload_n hm hl 2 rfl dX3_readItem_30 ?_
    refine k_get (T := TX3) hm hw 0 1 i3 rfl rfl (by decide) (by decide +kernel) rfl dX3_readItem_31 ?_
    refine k_aload_n hm hl 2 rfl dX3_readItem_34 ?_
    refine k_get (T := TX3) hm hw 0 4 i3 rfl rfl (by decide) (by decide +kernel) rfl dX3_readItem_35 ?_
    refine k_iload_n hm hl 1 rfl dX3_readItem_38 ?_
    refine k_callV (n := 2) (As := [vN (ti), vZ (kdB (bt tb tn tp))]) (rest := []) (wr := [(T 0, .inr (3, [.ref (T 1), .ref (T 3), .ref (T 5), vN (tn), vN (ti), vN (tt), vN (tu), vN (tm), vN (p2_13), vZ (z2_14)])), (T 1, .inr (2, [.ref (T 2)])), (T 2, .inl (G.2 0, 120, .inl (nF tb))), (T 5, .inr (2, [.ref (T 6)])), (T 6, .inl (G.2 0, 60, .inl (nF tc)))]) hm hw hl (c_Num_putZ l G (T 3) (T 4) 60 tk ti (kdB (bt tb tn tp)) (by first | assumption | omega)) gX3_readItem_X2_put rfl (by decide +kernel) ⟨by decide, by decide⟩ (ci := 2) rfl 3 rfl [3, 4] [0, 1, 2, 5, 6] (by decide) rfl rfl (by decide) (by decide) rfl rfl (by simp [Value.category]) ⟨by decide, by decide⟩ dX3_readItem_39 (fun v w1 H locs hp hw => ?_)
    obtain ⟨rfl, rfl⟩ := hp
    have hw := hw.sub (ws' := wPat G T tb (zU tk ti (kdB (bt tb tn tp))) tc tn ti tt tu tm p2_13 z2_14) [0, 1, 2, 5, 6, 3, 4] (by decide) rfl
    refine W.eq (g2 := F0 m 42 ls []) rfl ?_
    refine k_aload_n hm hl 2 rfl dX3_readItem_42 ?_
    refine k_get (T := TX3) hm hw 0 2 i3 rfl rfl (by decide) (by decide +kernel) rfl dX3_readItem_43 ?_
    refine k_aload_n hm hl 2 rfl dX3_readItem_46 ?_
    refine k_get (T := TX3) hm hw 0 4 i3 rfl rfl (by decide) (by decide +kernel) rfl dX3_readItem_47 ?_
    refine k_iload_n hm hl 0 rfl dX3_readItem_50 ?_
    refine k_callV (n := 2) (As := [vN (ti), vN (v2_12)]) (rest := []) (wr := [(T 0, .inr (3, [.ref (T 1), .ref (T 3), .ref (T 5), vN (tn), vN (ti), vN (tt), vN (tu), vN (tm), vN (p2_13), vZ (z2_14)])), (T 1, .inr (2, [.ref (T 2)])), (T 2, .inl (G.2 0, 120, .inl (nF tb))), (T 3, .inr (2, [.ref (T 4)])), (T 4, .inl (G.2 0, 60, .inl (iF (zU tk ti (kdB (bt tb tn tp))))))]) hm hw hl (c_Num_put l G (T 5) (T 6) 60 tc ti v2_12 (by first | assumption | omega)) gX3_readItem_X2_put rfl (by decide +kernel) ⟨by decide, by decide⟩ (ci := 2) rfl 5 rfl [5, 6] [0, 1, 2, 3, 4] (by decide) rfl rfl (by decide) (by decide) rfl rfl (by simp [Value.category]) ⟨by decide, by decide⟩ dX3_readItem_51 (fun v w1 H locs hp hw => ?_)
    obtain ⟨rfl, rfl⟩ := hp
    have hw := hw.sub (ws' := wPat G T tb (zU tk ti (kdB (bt tb tn tp))) (nU tc ti v2_12) tn ti tt tu tm p2_13 z2_14) [0, 1, 2, 3, 4, 5, 6] (by decide) rfl
    refine W.eq (g2 := F0 m 54 ls []) rfl ?_
    refine k_aload_n hm hl 2 rfl dX3_readItem_54 ?_
    refine k_dup hm dX3_readItem_55 rfl ?_
    refine k_get (T := TX3) hm hw 0 4 i3 rfl rfl (by decide) (by decide +kernel) rfl dX3_readItem_56 ?_
    refine k_iconstN hm 1 dX3_readItem_59 ?_
    refine k_iaddN hm dX3_readItem_60 ?_
    refine k_put (T := TX3) hm hw 0 4 (wPat G T tb (zU tk ti (kdB (bt tb tn tp))) (nU tc ti v2_12) tn (ti + 1) tt tu tm p2_13 z2_14) i3 tyX3 tyX3_ok nmX3 rfl rfl (by decide) (by decide +kernel) rfl (tyX3_ok 4 (by decide)) rfl rfl (Nat.le_of_ble_eq_true rfl) rfl dX3_readItem_61 (fun H locs hw => ?_)
    refine k_aload_n hm hl 2 rfl dX3_readItem_64 ?_
    refine k_dup hm dX3_readItem_65 rfl ?_
    refine k_get (T := TX3) hm hw 0 6 i3 rfl rfl (by decide) (by decide +kernel) rfl dX3_readItem_66 ?_
    refine k_iload_n hm hl 0 rfl dX3_readItem_69 ?_
    refine k_iload_n hm hl 1 rfl dX3_readItem_70 ?_
    refine k_callSNr (n := 1) (As := [vZ (kdB (bt tb tn tp))]) (rest := [vN (v2_12), vN (tu), .ref (T 0)]) hm hw hl (c_usedByZ l G (kdB (bt tb tn tp)) (kdB_rng _)) gX3_readItem_X6_usedBy_n81 (by decide +kernel) (by decide +kernel) 6 rfl rfl (by decide +kernel) ⟨by decide, by decide⟩ [] (by decide) rfl rfl rfl (by simp [Value.category]) ⟨by decide, by decide⟩ dX3_readItem_71 (fun v H locs hp hw => ?_)
    obtain rfl := hp
    refine W.eq (g2 := F0 m 74 ls [vN (usZ (kdB (bt tb tn tp))), vN (v2_12), vN (tu), .ref (T 0)]) rfl ?_
    refine k_imulN hm dX3_readItem_74 ?_
    refine k_iaddN hm dX3_readItem_75 ?_
    refine k_put (T := TX3) hm hw 0 6 (wPat G T tb (zU tk ti (kdB (bt tb tn tp))) (nU tc ti v2_12) tn (ti + 1) tt (tu + (v2_12 * (usZ (kdB (bt tb tn tp))))) tm p2_13 z2_14) i3 tyX3 tyX3_ok nmX3 rfl rfl (by decide) (by decide +kernel) rfl (tyX3_ok 6 (by decide)) rfl rfl (Nat.le_of_ble_eq_true rfl) rfl dX3_readItem_76 (fun H locs hw => ?_)
    refine k_aload_n hm hl 2 rfl dX3_readItem_79 ?_
    refine k_dup hm dX3_readItem_80 rfl ?_
    refine k_get (T := TX3) hm hw 0 7 i3 rfl rfl (by decide) (by decide +kernel) rfl dX3_readItem_81 ?_
    refine k_iload_n hm hl 0 rfl dX3_readItem_84 ?_
    refine k_iload_n hm hl 1 rfl dX3_readItem_85 ?_
    refine k_callSNr (n := 1) (As := [vZ (kdB (bt tb tn tp))]) (rest := [vN (v2_12), vN (tm), .ref (T 0)]) hm hw hl (c_madeByZ l G (kdB (bt tb tn tp)) (kdB_rng _)) gX3_readItem_X6_madeBy_n84 (by decide +kernel) (by decide +kernel) 7 rfl rfl (by decide +kernel) ⟨by decide, by decide⟩ [] (by decide) rfl rfl rfl (by simp [Value.category]) ⟨by decide, by decide⟩ dX3_readItem_86 (fun v H locs hp hw => ?_)
    obtain rfl := hp
    refine W.eq (g2 := F0 m 89 ls [vN (mdZ (kdB (bt tb tn tp))), vN (v2_12), vN (tm), .ref (T 0)]) rfl ?_
    refine k_imulN hm dX3_readItem_89 ?_
    refine k_iaddN hm dX3_readItem_90 ?_
    refine k_put (T := TX3) hm hw 0 7 (wPat G T tb (zU tk ti (kdB (bt tb tn tp))) (nU tc ti v2_12) tn (ti + 1) tt (tu + (v2_12 * (usZ (kdB (bt tb tn tp))))) (tm + (v2_12 * (mdZ (kdB (bt tb tn tp))))) p2_13 z2_14) i3 tyX3 tyX3_ok nmX3 rfl rfl (by decide) (by decide +kernel) rfl (tyX3_ok 7 (by decide)) rfl rfl (Nat.le_of_ble_eq_true rfl) rfl dX3_readItem_91 (fun H locs hw => ?_)
    exact k_vret hm hQ rfl hw (⟨_, _, _, _, _, _, _, rfl, rfl, Or.inr ⟨by omega, hz⟩, hp9⟩) (by omega) (by omega) dX3_readItem_94
