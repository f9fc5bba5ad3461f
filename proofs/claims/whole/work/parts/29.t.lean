section KROWT
variable {p : Program} {l : Launch} {e : Env} {R : Room} {s : State} {m : MethodId} {args : Array Value} {below : List Frame} {meth : Method} {c : Code} {H : Heap} {locs : List Loc} {cells slots : Nat} {Q : State → Prop}
variable {cc : ByteArray} {pc nL : Nat} {ls : Array Slot} {rest : List Value} {Ts : List Cond} {own : String} {ret : Option FieldType} {G : kG} {A : Nat → Prop} {ws : va_W} {ll : List (Nat × Value)}
theorem sh63 {n : Nat} (h : n < 64) : (iI (n : Int)).toInt64 &&& 63 = lI (n : Int) := by
  have q : ∀ k : Fin 64, (iI ((k.val : Nat) : Int)).toInt64 &&& 63 = lI ((k.val : Nat) : Int) := by decide +kernel
  exact q ⟨n, h⟩
theorem k_lshr (hm : kM p m c cc nL s args Ts own meth ret) {x : Int64} {n : Nat} (hn : n < 64) (hdg : decode cc pc = .ok (.lshr, 1)) (k : W p l e R s m args below meth c H locs cells slots Q (F0 m (pc + 1) ls (.long (x >>> lI (n : Int)) :: rest))) : W p l e R s m args below meth c H locs cells slots Q (F0 m pc ls (.int (iI (n : Int)) :: .long x :: rest)) :=
  lv_lshr hm.1 hm.2.1 hdg (by rw [sh63 hn]) k
theorem k_lshl (hm : kM p m c cc nL s args Ts own meth ret) {x : Int64} {n : Nat} (hn : n < 64) (hdg : decode cc pc = .ok (.lshl, 1)) (k : W p l e R s m args below meth c H locs cells slots Q (F0 m (pc + 1) ls (.long (x <<< lI (n : Int)) :: rest))) : W p l e R s m args below meth c H locs cells slots Q (F0 m pc ls (.int (iI (n : Int)) :: .long x :: rest)) :=
  lv_lshl hm.1 hm.2.1 hdg (by rw [sh63 hn]) k
end KROWT
/-- the kind at a place of a packed word -/
def fd (a : Int64) (j : Nat) : Int64 := (a >>> lI ((2 * j : Nat) : Int)) &&& lI 3
theorem fd_0 {j : Nat} (h : j < 32) : fd 0 j = 0 := by
  have q : ∀ k : Fin 32, fd 0 k.val = 0 := by decide +kernel
  exact q ⟨j, h⟩
theorem fd_x {x i j : Nat} (hx : x < 3) (hi : i < 32) (hj : j < 32) : fd (lI (x : Int) <<< lI ((2 * i : Nat) : Int)) j = if j = i then lI (x : Int) else 0 := by
  have q : ∀ (x : Fin 3) (i j : Fin 32), fd (lI ((x.val : Nat) : Int) <<< lI ((2 * i.val : Nat) : Int)) j.val = if j.val = i.val then lI ((x.val : Nat) : Int) else 0 := by decide +kernel
  exact q ⟨x, hx⟩ ⟨i, hi⟩ ⟨j, hj⟩
theorem fd_or (a b : Int64) (j : Nat) : fd (a ||| b) j = fd a j ||| fd b j := by
  unfold fd
  apply Int64.toBitVec_inj.mp
  simp only [Int64.toBitVec_and, Int64.toBitVec_or, Int64.toBitVec_shiftRight, BitVec.sshiftRight', BitVec.sshiftRight_or_distrib]
  generalize a.toBitVec.sshiftRight _ = u
  generalize b.toBitVec.sshiftRight _ = v
  generalize (lI 3).toBitVec = t
  ext i hi
  simp [Bool.and_or_distrib_right]
theorem fd_set {a : Int64} {x i j : Nat} (hx : x < 3) (hi : i < 32) (hj : j < 32) (h0 : fd a i = 0) : fd (a ||| (lI (x : Int) <<< lI ((2 * i : Nat) : Int))) j = if j = i then lI (x : Int) else fd a j := by
  rw [fd_or, fd_x hx hi hj]
  by_cases q : j = i
  · rw [if_pos q, if_pos q, q, h0]
    apply Int64.toBitVec_inj.mp
    simp
  · rw [if_neg q, if_neg q]
    apply Int64.toBitVec_inj.mp
    simp
/-- the numbers that the rounds lie in -/
def MOk (sa : Nat → Int64) (R : Nat) (sp : Bool) (K : Nat → Nat → Nat) (w y : Nat → Nat) : Prop :=
  PVd R K w y ∧ sa 0 = lI (R : Int) ∧ sa 1 = lI (bI sp) ∧ (∀ k, k < 3 → sa (2 + k) = lI (y k : Int)) ∧ ∀ r, r < R → sa (5 + r) = lI (w r : Int) ∧ ∀ i, i < w r → fd (sa (45 + 4 * r + i / 32)) (i % 32) = lI (K r i : Int)
def PaOk (pa : Nat → Int64) (n : Nat) (sv : Nat → PSt) : Prop :=
  n ≤ 4 ∧ ∀ i, i < n → MOk (fun k => pa (205 * (n - 1 - i) + k)) (sv i).1 (sv i).2.1 (sv i).2.2.1 (sv i).2.2.2.1 (sv i).2.2.2.2
def wMod (G : kG) (D : Nat → Nat) (sa pa : Nat → Int64) (pn : Nat) (tx : Nat → Nat) (tn rf : Nat) (ro : Nat → Nat) (wk : Nat) (mb : Nat → Nat) (so : Nat) (kd nu : Nat → Nat) (it ti rd : Nat) (ad : Nat → Int64) : va_W :=
  [(D 0, .inr (7, [.ref (D 1), .ref (D 2), vN pn, .ref (D 3), vN tn, vN rf, .ref (D 4), vN wk, .ref (D 5), vN so, .ref (D 6), .ref (D 7), vN it, vN ti, vN rd, .ref (D 8)])), (D 1, .inl (G.2 1, 205, .inr (.inl sa))), (D 2, .inl (G.2 1, 820, .inr (.inl pa))), (D 3, .inl (G.2 0, 120, .inl (nF tx))), (D 4, .inl (G.2 0, 121, .inl (nF ro))), (D 5, .inl (G.2 0, 120, .inl (nF mb))), (D 6, .inl (G.2 0, 60, .inl (nF kd))), (D 7, .inl (G.2 0, 60, .inl (nF nu))), (D 8, .inl (G.2 1, 205, .inr (.inl ad)))]
set_option maxHeartbeats 4000000 in
set_option maxRecDepth 100000 in
theorem c_m_thrown (l : Launch) (G : kG) (D : Nat → Nat) (sa : Nat → Int64) (pa : Nat → Int64) (pn : Nat) (tx : Nat → Nat) (tn : Nat) (rf : Nat) (ro : Nat → Nat) (wk : Nat) (mb : Nat → Nat) (so : Nat) (kd : Nat → Nat) (nu : Nat → Nat) (it : Nat) (ti : Nat) (rd : Nat) (ad : Nat → Int64)  : kCR l yX7_thrown wsX7_thrown 0 0 G [.ref (D 0)] (wMod G D sa pa pn tx tn rf ro wk mb so kd nu it ti rd ad) (fun vv => vv = some (vN (rf))) := by
  refine kCM.of (cc := cX7_thrown) (maxL := 1) (ret := (some .int)) (by decide) rfl (Nat.le_of_ble_eq_true rfl) ?_
  intro p e s m args below meth c A ls Qz hQ hin hm hw hl
  have hl : lv_has ls 1 [(0, .ref (D 0))] := hl
  have i7 : ∀ w ∈ wsX70, w ∈ wsX7_thrown := by decide +kernel
  refine k_aload_n hm hl 0 rfl dX7_thrown_0 ?_
  refine k_get (T := TX7) hm hw 0 5 i7 rfl rfl (by decide) (by decide +kernel) rfl dX7_thrown_1 ?_
  exact k_iret (post := _) hm hQ rfl rfl hw (⟨rfl, rfl⟩) (by omega) (by omega) dX7_thrown_4
set_option maxHeartbeats 4000000 in
set_option maxRecDepth 100000 in
theorem c_m_in (l : Launch) (G : kG) (v : Int) (lo : Int) (hi : Int) (hz : (-2147483648 ≤ v ∧ v < 2147483648) ∧ (-2147483648 ≤ lo ∧ lo < 2147483648) ∧ (-2147483648 ≤ hi ∧ hi < 2147483648)) : kCR l yX7_in wsX7_in 0 0 G [vZ (v), vZ (lo), vZ (hi)] ([]) (fun vv => vv = some (vB (decide (lo ≤ v ∧ v ≤ hi)))) := by
  refine kCM.of (cc := cX7_in) (maxL := 3) (ret := (some .boolean)) (by decide) rfl (Nat.le_of_ble_eq_true rfl) ?_
  intro p e s m args below meth c A ls Qz hQ hin hm hw hl
  have hl : lv_has ls 3 [(0, vZ (v)), (1, vZ (lo)), (2, vZ (hi))] := hl
  refine k_iload_n hm hl 0 rfl dX7_in_0 ?_
  refine k_iload_n hm hl 1 rfl dX7_in_1 ?_
  refine k_icmplt (tgt := 14) hm dX7_in_2 (by decide) (by omega) (fun c_1 => ?_) (fun c_1 => ?_)
  · refine k_iconstN hm 0 dX7_in_14 ?_
    exact k_iret (post := _) hm hQ rfl (kN_bool false) hw (⟨(congrArg (fun b => some (vB b)) (decide_eq_false (by omega))).symm, rfl⟩) (by omega) (by omega) dX7_in_15
  · refine k_iload_n hm hl 0 rfl dX7_in_5 ?_
    refine k_iload_n hm hl 2 rfl dX7_in_6 ?_
    refine k_icmpgt (tgt := 14) hm dX7_in_7 (by decide) (by omega) (fun c_2 => ?_) (fun c_2 => ?_)
    · refine k_iconstN hm 0 dX7_in_14 ?_
      exact k_iret (post := _) hm hQ rfl (kN_bool false) hw (⟨(congrArg (fun b => some (vB b)) (decide_eq_false (by omega))).symm, rfl⟩) (by omega) (by omega) dX7_in_15
    · refine k_iconstN hm 1 dX7_in_10 ?_
      refine k_goto (tgt := 15) hm dX7_in_11 (by decide) ?_
      exact k_iret (post := _) hm hQ rfl (kN_bool true) hw (⟨(congrArg (fun b => some (vB b)) (decide_eq_true (by omega))).symm, rfl⟩) (by omega) (by omega) dX7_in_15
set_option maxHeartbeats 4000000 in
set_option maxRecDepth 100000 in
theorem c_m_throwsAt (l : Launch) (G : kG) (D : Nat → Nat) (sa : Nat → Int64) (pa : Nat → Int64) (pn : Nat) (tx : Nat → Nat) (tn : Nat) (rf : Nat) (ro : Nat → Nat) (wk : Nat) (mb : Nat → Nat) (so : Nat) (kd : Nat → Nat) (nu : Nat → Nat) (it : Nat) (ti : Nat) (rd : Nat) (ad : Nat → Int64) (k : Nat) (hk : k ≤ 3) : kCM l yX7_throwsAt wsX7_throwsAt 0 0 0 0 G [.ref (D 0), vN (k)] (wMod G D sa pa pn tx tn rf ro wk mb so kd nu it ti rd ad) (fun vv uu => vv = some (vB (decide (0 < k))) ∧ uu = wMod G D sa pa pn tx tn k ro wk mb so kd nu it ti rd ad) := by
  refine kCM.of (cc := cX7_throwsAt) (maxL := 2) (ret := (some .boolean)) (by decide) rfl (Nat.le_of_ble_eq_true rfl) ?_
  intro p e s m args below meth c A ls Qz hQ hin hm hw hl
  have hl : lv_has ls 2 [(0, .ref (D 0)), (1, vN (k))] := hl
  have i7 : ∀ w ∈ wsX70, w ∈ wsX7_throwsAt := by decide +kernel
  refine k_aload_n hm hl 0 rfl dX7_throwsAt_0 ?_
  refine k_iload_n hm hl 1 rfl dX7_throwsAt_1 ?_
  refine k_put (T := TX7) hm hw 0 5 (wMod G D sa pa pn tx tn k ro wk mb so kd nu it ti rd ad) i7 tyX7 tyX7_ok nmX7 rfl rfl (by decide) (by decide +kernel) rfl (tyX7_ok 5 (by decide)) rfl rfl (Nat.le_of_ble_eq_true rfl) rfl dX7_throwsAt_2 (fun H locs hw => ?_)
  refine k_iload_n hm hl 1 rfl dX7_throwsAt_5 ?_
  refine k_ifle (tgt := 13) hm dX7_throwsAt_6 (by decide) (by omega) (fun c_1 => ?_) (fun c_1 => ?_)
  · refine k_iconstN hm 0 dX7_throwsAt_13 ?_
    exact k_iret (post := _) hm hQ rfl (kN_bool false) hw (⟨(congrArg (fun b => some (vB b)) (decide_eq_false (by omega))).symm, rfl⟩) (by omega) (by omega) dX7_throwsAt_14
  · refine k_iconstN hm 1 dX7_throwsAt_9 ?_
    refine k_goto (tgt := 14) hm dX7_throwsAt_10 (by decide) ?_
    exact k_iret (post := _) hm hQ rfl (kN_bool true) hw (⟨(congrArg (fun b => some (vB b)) (decide_eq_true (by omega))).symm, rfl⟩) (by omega) (by omega) dX7_throwsAt_14
set_option maxHeartbeats 4000000 in
set_option maxRecDepth 100000 in
theorem c_m_rounds (l : Launch) (G : kG) (D : Nat → Nat) (sa : Nat → Int64) (pa : Nat → Int64) (pn : Nat) (tx : Nat → Nat) (tn : Nat) (rf : Nat) (ro : Nat → Nat) (wk : Nat) (mb : Nat → Nat) (so : Nat) (kd : Nat → Nat) (nu : Nat → Nat) (it : Nat) (ti : Nat) (rd : Nat) (ad : Nat → Int64) (R : Nat) (sp : Bool) (K : Nat → Nat → Nat) (w : Nat → Nat) (y : Nat → Nat) (hmo : MOk sa R sp K w y) : kCR l yX7_rounds wsX7_rounds 0 0 G [.ref (D 0)] (wMod G D sa pa pn tx tn rf ro wk mb so kd nu it ti rd ad) (fun vv => vv = some (vN (R))) := by
  refine kCM.of (cc := cX7_rounds) (maxL := 1) (ret := (some .int)) (by decide) rfl (Nat.le_of_ble_eq_true rfl) ?_
  intro p e s m args below meth c A ls Qz hQ hin hm hw hl
  have hl : lv_has ls 1 [(0, .ref (D 0))] := hl
  have i7 : ∀ w ∈ wsX70, w ∈ wsX7_rounds := by decide +kernel
  refine k_aload_n hm hl 0 rfl dX7_rounds_0 ?_
  refine k_get (T := TX7) hm hw 0 0 i7 rfl rfl (by decide) (by decide +kernel) rfl dX7_rounds_1 ?_
  refine k_iconstN hm 0 dX7_rounds_4 ?_
  refine k_lald hm hw 1 rfl (by omega) dX7_rounds_5 ?_
  rw [show sa 0 = lI (R : Int) from hmo.2.1]
  refine k_l2i hm dX7_rounds_6 ?_
  exact k_iret (post := _) hm hQ rfl rfl hw (⟨rfl, rfl⟩) (by omega) (by omega) dX7_rounds_7
set_option maxHeartbeats 4000000 in
set_option maxRecDepth 100000 in
theorem c_m_worksOf (l : Launch) (G : kG) (D : Nat → Nat) (sa : Nat → Int64) (pa : Nat → Int64) (pn : Nat) (tx : Nat → Nat) (tn : Nat) (rf : Nat) (ro : Nat → Nat) (wk : Nat) (mb : Nat → Nat) (so : Nat) (kd : Nat → Nat) (nu : Nat → Nat) (it : Nat) (ti : Nat) (rd : Nat) (ad : Nat → Int64) (R : Nat) (sp : Bool) (K : Nat → Nat → Nat) (w : Nat → Nat) (y : Nat → Nat) (r : Nat) (hmo : MOk sa R sp K w y) (hr : r < R) : kCR l yX7_worksOf wsX7_worksOf 0 0 G [.ref (D 0), vN (r)] (wMod G D sa pa pn tx tn rf ro wk mb so kd nu it ti rd ad) (fun vv => vv = some (vN (w r))) := by
  refine kCM.of (cc := cX7_worksOf) (maxL := 2) (ret := (some .int)) (by decide) rfl (Nat.le_of_ble_eq_true rfl) ?_
  intro p e s m args below meth c A ls Qz hQ hin hm hw hl
  have hl : lv_has ls 2 [(0, .ref (D 0)), (1, vN (r))] := hl
  have i7 : ∀ w ∈ wsX70, w ∈ wsX7_worksOf := by decide +kernel
  have hR := hmo.1.1
  refine k_aload_n hm hl 0 rfl dX7_worksOf_0 ?_
  refine k_get (T := TX7) hm hw 0 0 i7 rfl rfl (by decide) (by decide +kernel) rfl dX7_worksOf_1 ?_
  refine k_iconstN hm 5 dX7_worksOf_4 ?_
  refine k_iload_n hm hl 1 rfl dX7_worksOf_5 ?_
  refine k_iaddN hm dX7_worksOf_6 ?_
  refine k_lald hm hw 1 rfl (by omega) dX7_worksOf_7 ?_
  rw [show sa (5 + r) = lI (w r : Int) from (hmo.2.2.2.2 r hr).1]
  refine k_l2i hm dX7_worksOf_8 ?_
  exact k_iret (post := _) hm hQ rfl rfl hw (⟨rfl, rfl⟩) (by omega) (by omega) dX7_worksOf_9
set_option maxHeartbeats 4000000 in
set_option maxRecDepth 100000 in
theorem c_m_kindOf (l : Launch) (G : kG) (D : Nat → Nat) (sa : Nat → Int64) (pa : Nat → Int64) (pn : Nat) (tx : Nat → Nat) (tn : Nat) (rf : Nat) (ro : Nat → Nat) (wk : Nat) (mb : Nat → Nat) (so : Nat) (kd : Nat → Nat) (nu : Nat → Nat) (it : Nat) (ti : Nat) (rd : Nat) (ad : Nat → Int64) (R : Nat) (sp : Bool) (K : Nat → Nat → Nat) (w : Nat → Nat) (y : Nat → Nat) (r : Nat) (i : Nat) (hmo : MOk sa R sp K w y) (hr : r < R) (hi : i < w r) : kCR l yX7_kindOf wsX7_kindOf 0 0 G [.ref (D 0), vN (r), vN (i)] (wMod G D sa pa pn tx tn rf ro wk mb so kd nu it ti rd ad) (fun vv => vv = some (vN (K r i))) := by
  refine kCM.of (cc := cX7_kindOf) (maxL := 3) (ret := (some .int)) (by decide) rfl (Nat.le_of_ble_eq_true rfl) ?_
  intro p e s m args below meth c A ls Qz hQ hin hm hw hl
  have hl : lv_has ls 3 [(0, .ref (D 0)), (1, vN (r)), (2, vN (i))] := hl
  have i7 : ∀ w ∈ wsX70, w ∈ wsX7_kindOf := by decide +kernel
  have hR := hmo.1.1
  have hb := hmo.1.2.1 r hr
  have hk := (hmo.2.2.2.2 r hr).2 i hi
  refine k_aload_n hm hl 0 rfl dX7_kindOf_0 ?_
  refine k_get (T := TX7) hm hw 0 0 i7 rfl rfl (by decide) (by decide +kernel) rfl dX7_kindOf_1 ?_
  refine k_bipushN hm 45 dX7_kindOf_4 rfl ?_
  refine k_iconstN hm 4 dX7_kindOf_6 ?_
  refine k_iload_n hm hl 1 rfl dX7_kindOf_7 ?_
  refine k_imulN hm dX7_kindOf_8 ?_
  refine k_iaddN hm dX7_kindOf_9 ?_
  refine k_iload_n hm hl 2 rfl dX7_kindOf_10 ?_
  refine k_bipushN hm 32 dX7_kindOf_11 rfl ?_
  refine k_idivN hm (by omega) dX7_kindOf_13 ?_
  refine k_iaddN hm dX7_kindOf_14 ?_
  refine k_lald hm hw 1 rfl (by omega) dX7_kindOf_15 ?_
  refine k_iconstN hm 2 dX7_kindOf_16 ?_
  refine k_iload_n hm hl 2 rfl dX7_kindOf_17 ?_
  refine k_bipushN hm 32 dX7_kindOf_18 rfl ?_
  refine k_iremN hm (by omega) dX7_kindOf_20 ?_
  refine k_imulN hm dX7_kindOf_21 ?_
  refine k_lshr (n := 2 * (i % 32)) hm (by omega) dX7_kindOf_22 ?_
  refine lv_ldc2 hm.1 hm.2.1 (own := RX7) hm.2.2.2.1 (hm.2.2.2.2.1 (.constantLong RX7 52 (lI 3)) (by decide +kernel)) dX7_kindOf_23 ?_
  refine lv_land hm.1 hm.2.1 dX7_kindOf_26 ?_
  rw [show ((sa ((45 + (4 * r)) + (i / 32))) >>> lI ((2 * (i % 32) : Nat) : Int)) &&& (lI 3) = lI (K r i : Int) from hk]
  refine k_l2i hm dX7_kindOf_27 ?_
  exact k_iret (post := _) hm hQ rfl rfl hw (⟨rfl, rfl⟩) (by omega) (by omega) dX7_kindOf_28
