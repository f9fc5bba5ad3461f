/-- the class's arrays hold the piece -/
def POk (gk gw gt gy : Nat → Nat) (R : Nat) (K : Nat → Nat → Nat) (w y : Nat → Nat) : Prop :=
  PVd R K w y ∧ (∀ r, r < R → gw r = w r ∧ gt r = sumM (K r) (w r) ∧ ∀ i, i < w r → gk (r * 120 + i) = K r i) ∧ (∀ k, k < 3 → gy k = y k)
def wPiece (G : kG) (P : Nat → Nat) (gk gw gt gy : Nat → Nat) (R : Nat) (sp : Bool) : va_W :=
  [(P 0, .inr (4, [.ref (P 1), .ref (P 3), .ref (P 5), .ref (P 7), vN R, vB sp])), (P 1, .inr (2, [.ref (P 2)])), (P 2, .inl (G.2 0, 4800, .inl (nF gk))), (P 3, .inr (2, [.ref (P 4)])), (P 4, .inl (G.2 0, 40, .inl (nF gw))), (P 5, .inr (2, [.ref (P 6)])), (P 6, .inl (G.2 0, 40, .inl (nF gt))), (P 7, .inr (2, [.ref (P 8)])), (P 8, .inl (G.2 0, 3, .inl (nF gy)))]
set_option maxHeartbeats 4000000 in
set_option maxRecDepth 100000 in
theorem c_Num_at (l : Launch) (G : kG) (a : Nat) (b : Nat) (n : Nat) (f : Nat → Nat) (i : Nat) (h : i < n ∧ n < 2147483648) : kCR l yX2_at wsX2_at 0 0 G [.ref (a), vN (i)] ([(a, .inr (2, [.ref (b)])), (b, .inl (G.2 0, n, .inl (nF f)))]) (fun vv => vv = some (vN (f i))) := by
  refine kCM.of (cc := cX2_at) (maxL := 2) (ret := (some .int)) (by decide) rfl (Nat.le_of_ble_eq_true rfl) ?_
  intro p e s m args below meth c A ls Qz hQ hin hm hw hl
  have hl : lv_has ls 2 [(0, .ref (a)), (1, vN (i))] := hl
  have i2 : ∀ w ∈ wsX20, w ∈ wsX2_at := by decide +kernel
  refine k_iload_n hm hl 1 rfl dX2_at_0 ?_
  refine k_iflt (tgt := 22) hm dX2_at_1 (by decide) (by omega) (fun c_1 => absurd c_1 (by omega)) (fun c_1 => ?_)
  refine k_iload_n hm hl 1 rfl dX2_at_4 ?_
  refine k_aload_n hm hl 0 rfl dX2_at_5 ?_
  refine k_get (T := TX2) hm hw 0 0 i2 rfl rfl (by decide) (by decide +kernel) rfl dX2_at_6 ?_
  refine k_alen hm hw 1 0 rfl rfl dX2_at_9 ?_
  refine k_icmpge (tgt := 22) hm dX2_at_10 (by decide) (by omega) (fun c_2 => absurd c_2 (by omega)) (fun c_2 => ?_)
  refine k_aload_n hm hl 0 rfl dX2_at_13 ?_
  refine k_get (T := TX2) hm hw 0 0 i2 rfl rfl (by decide) (by decide +kernel) rfl dX2_at_14 ?_
  refine k_iload_n hm hl 1 rfl dX2_at_17 ?_
  refine k_ialdN hm hw 1 rfl (by omega) dX2_at_18 ?_
  refine k_goto (tgt := 23) hm dX2_at_19 (by decide) ?_
  exact k_iret (post := _) hm hQ rfl rfl hw (⟨rfl, rfl⟩) (by omega) (by omega) dX2_at_23
set_option maxHeartbeats 4000000 in
set_option maxRecDepth 100000 in
theorem c_Num_put (l : Launch) (G : kG) (a : Nat) (b : Nat) (n : Nat) (f : Nat → Nat) (i : Nat) (x : Nat) (h : i < n ∧ n < 2147483648) : kCM l yX2_put wsX2_put 0 0 0 0 G [.ref (a), vN (i), vN (x)] ([(a, .inr (2, [.ref (b)])), (b, .inl (G.2 0, n, .inl (nF f)))]) (fun vv uu => vv = none ∧ uu = [(a, .inr (2, [.ref (b)])), (b, .inl (G.2 0, n, .inl (nF (nU f i x))))]) := by
  refine kCM.of (cc := cX2_put) (maxL := 3) (ret := none) (by decide) rfl (Nat.le_of_ble_eq_true rfl) ?_
  intro p e s m args below meth c A ls Qz hQ hin hm hw hl
  have hl : lv_has ls 3 [(0, .ref (a)), (1, vN (i)), (2, vN (x))] := hl
  have i2 : ∀ w ∈ wsX20, w ∈ wsX2_put := by decide +kernel
  refine k_iload_n hm hl 1 rfl dX2_put_0 ?_
  refine k_iflt (tgt := 20) hm dX2_put_1 (by decide) (by omega) (fun c_1 => absurd c_1 (by omega)) (fun c_1 => ?_)
  refine k_iload_n hm hl 1 rfl dX2_put_4 ?_
  refine k_aload_n hm hl 0 rfl dX2_put_5 ?_
  refine k_get (T := TX2) hm hw 0 0 i2 rfl rfl (by decide) (by decide +kernel) rfl dX2_put_6 ?_
  refine k_alen hm hw 1 0 rfl rfl dX2_put_9 ?_
  refine k_icmpge (tgt := 20) hm dX2_put_10 (by decide) (by omega) (fun c_2 => absurd c_2 (by omega)) (fun c_2 => ?_)
  refine k_aload_n hm hl 0 rfl dX2_put_13 ?_
  refine k_get (T := TX2) hm hw 0 0 i2 rfl rfl (by decide) (by decide +kernel) rfl dX2_put_14 ?_
  refine k_iload_n hm hl 1 rfl dX2_put_17 ?_
  refine k_iload_n hm hl 2 rfl dX2_put_18 ?_
  refine k_iastN hm hw 1 ([(a, .inr (2, [.ref (b)])), (b, .inl (G.2 0, n, .inl (nF (nU f i x))))]) rfl (by omega) rfl dX2_put_19 (fun H locs hw => ?_)
  exact k_vret hm hQ rfl hw (⟨rfl, rfl⟩) (by omega) (by omega) dX2_put_20
set_option maxHeartbeats 4000000 in
set_option maxRecDepth 100000 in
theorem c_madeBy (l : Launch) (G : kG) (k : Nat) (h : k < 2147483648) : kCR l yX6_madeBy wsX6_madeBy 0 0 G [vN (k)] ([]) (fun vv => vv = some (vN (mdB k))) := by
  refine kCM.of (cc := cX6_madeBy) (maxL := 1) (ret := (some .int)) (by decide) rfl (Nat.le_of_ble_eq_true rfl) ?_
  intro p e s m args below meth c A ls Qz hQ hin hm hw hl
  have hl : lv_has ls 1 [(0, vN (k))] := hl
  refine k_iload_n hm hl 0 rfl dX6_madeBy_0 ?_
  refine k_iconstN hm 1 dX6_madeBy_1 ?_
  refine k_icmpne (tgt := 9) hm dX6_madeBy_2 (by decide) (by omega) (fun c_1 => ?_) (fun c_1 => ?_)
  · refine k_iconstN hm 1 dX6_madeBy_9 ?_
    exact k_iret (post := _) hm hQ rfl rfl hw (⟨by simp only [mdB]; rw [if_neg (by omega)], rfl⟩) (by omega) (by omega) dX6_madeBy_10
  · refine k_iconstN hm 2 dX6_madeBy_5 ?_
    refine k_goto (tgt := 10) hm dX6_madeBy_6 (by decide) ?_
    exact k_iret (post := _) hm hQ rfl rfl hw (⟨by simp only [mdB]; rw [if_pos (by omega)], rfl⟩) (by omega) (by omega) dX6_madeBy_10
set_option maxHeartbeats 4000000 in
set_option maxRecDepth 100000 in
theorem c_usedBy (l : Launch) (G : kG) (k : Nat) (h : k < 2147483648) : kCR l yX6_usedBy wsX6_usedBy 0 0 G [vN (k)] ([]) (fun vv => vv = some (vN (usB k))) := by
  refine kCM.of (cc := cX6_usedBy) (maxL := 1) (ret := (some .int)) (by decide) rfl (Nat.le_of_ble_eq_true rfl) ?_
  intro p e s m args below meth c A ls Qz hQ hin hm hw hl
  have hl : lv_has ls 1 [(0, vN (k))] := hl
  refine k_iload_n hm hl 0 rfl dX6_usedBy_0 ?_
  refine k_iconstN hm 2 dX6_usedBy_1 ?_
  refine k_icmpne (tgt := 9) hm dX6_usedBy_2 (by decide) (by omega) (fun c_1 => ?_) (fun c_1 => ?_)
  · refine k_iconstN hm 1 dX6_usedBy_9 ?_
    exact k_iret (post := _) hm hQ rfl rfl hw (⟨by simp only [usB]; rw [if_neg (by omega)], rfl⟩) (by omega) (by omega) dX6_usedBy_10
  · refine k_iconstN hm 2 dX6_usedBy_5 ?_
    refine k_goto (tgt := 10) hm dX6_usedBy_6 (by decide) ?_
    exact k_iret (post := _) hm hQ rfl rfl hw (⟨by simp only [usB]; rw [if_pos (by omega)], rfl⟩) (by omega) (by omega) dX6_usedBy_10
set_option maxHeartbeats 4000000 in
set_option maxRecDepth 100000 in
theorem c_kindOf (l : Launch) (G : kG) (P : Nat → Nat) (gk : Nat → Nat) (gw : Nat → Nat) (gt : Nat → Nat) (gy : Nat → Nat) (R : Nat) (sp : Bool) (K : Nat → Nat → Nat) (w : Nat → Nat) (y : Nat → Nat) (r : Nat) (i : Nat) (hok : POk gk gw gt gy R K w y) (hr : r < R) (hi : i < w r) : kCR l yX4_kindOf wsX4_kindOf 1 21 G [.ref (P 0), vN (r), vN (i)] (wPiece G P gk gw gt gy R sp) (fun vv => vv = some (vN (K r i))) := by
  refine kCM.of (cc := cX4_kindOf) (maxL := 3) (ret := (some .int)) (by decide) rfl (Nat.le_of_ble_eq_true rfl) ?_
  intro p e s m args below meth c A ls Qz hQ hin hm hw hl
  have hl : lv_has ls 3 [(0, .ref (P 0)), (1, vN (r)), (2, vN (i))] := hl
  have i4 : ∀ w ∈ wsX40, w ∈ wsX4_kindOf := by decide +kernel
  have hb := hok.1.2.1 r hr
  have hR := hok.1.1
  have hk := (hok.2.1 r hr).2.2 i hi
  refine k_aload_n hm hl 0 rfl dX4_kindOf_0 ?_
  refine k_get (T := TX4) hm hw 0 0 i4 rfl rfl (by decide) (by decide +kernel) rfl dX4_kindOf_1 ?_
  refine k_iload_n hm hl 1 rfl dX4_kindOf_4 ?_
  refine k_bipushN hm 120 dX4_kindOf_5 rfl ?_
  refine k_imulN hm dX4_kindOf_7 ?_
  refine k_iload_n hm hl 2 rfl dX4_kindOf_8 ?_
  refine k_iaddN hm dX4_kindOf_9 ?_
  refine k_callVr (n := 1) (As := [vN ((r * 120) + i)]) (rest := []) hm hw hl (c_Num_at l G (P 1) (P 2) 4800 gk ((r * 120) + i) (by first | assumption | omega)) gX4_kindOf_X2_at rfl (by decide +kernel) ⟨by decide, by decide⟩ (ci := 2) rfl 1 rfl [1, 2] (by decide) rfl rfl rfl (by simp [Value.category]) ⟨by decide, by decide⟩ dX4_kindOf_10 (fun v H locs hp hw => ?_)
  obtain rfl := hp
  refine W.eq (g2 := F0 m 13 ls [vN (gk ((r * 120) + i))]) rfl ?_
  exact k_iret (post := _) hm hQ rfl rfl hw (⟨by rw [hk], rfl⟩) (by omega) (by omega) dX4_kindOf_13
set_option maxHeartbeats 4000000 in
set_option maxRecDepth 100000 in
theorem c_lastTotal (l : Launch) (G : kG) (P : Nat → Nat) (gk : Nat → Nat) (gw : Nat → Nat) (gt : Nat → Nat) (gy : Nat → Nat) (R : Nat) (sp : Bool) (K : Nat → Nat → Nat) (w : Nat → Nat) (y : Nat → Nat) (hok : POk gk gw gt gy R K w y) : kCR l yX4_lastTotal wsX4_lastTotal 1 21 G [.ref (P 0)] (wPiece G P gk gw gt gy R sp) (fun vv => vv = some (vN (sumM (K (R - 1)) (w (R - 1))))) := by
  refine kCM.of (cc := cX4_lastTotal) (maxL := 1) (ret := (some .int)) (by decide) rfl (Nat.le_of_ble_eq_true rfl) ?_
  intro p e s m args below meth c A ls Qz hQ hin hm hw hl
  have hl : lv_has ls 1 [(0, .ref (P 0))] := hl
  have i4 : ∀ w ∈ wsX40, w ∈ wsX4_lastTotal := by decide +kernel
  have hR := hok.1.1
  have hk := (hok.2.1 (R - 1) (by omega)).2.1
  refine k_aload_n hm hl 0 rfl dX4_lastTotal_0 ?_
  refine k_get (T := TX4) hm hw 0 2 i4 rfl rfl (by decide) (by decide +kernel) rfl dX4_lastTotal_1 ?_
  refine k_aload_n hm hl 0 rfl dX4_lastTotal_4 ?_
  refine k_get (T := TX4) hm hw 0 4 i4 rfl rfl (by decide) (by decide +kernel) rfl dX4_lastTotal_5 ?_
  refine k_iconstN hm 1 dX4_lastTotal_8 ?_
  refine k_isubN hm (by omega) dX4_lastTotal_9 ?_
  refine k_callVr (n := 1) (As := [vN (R - 1)]) (rest := []) hm hw hl (c_Num_at l G (P 5) (P 6) 40 gt (R - 1) (by first | assumption | omega)) gX4_lastTotal_X2_at rfl (by decide +kernel) ⟨by decide, by decide⟩ (ci := 2) rfl 5 rfl [5, 6] (by decide) rfl rfl rfl (by simp [Value.category]) ⟨by decide, by decide⟩ dX4_lastTotal_10 (fun v H locs hp hw => ?_)
  obtain rfl := hp
  refine W.eq (g2 := F0 m 13 ls [vN (gt (R - 1))]) rfl ?_
  exact k_iret (post := _) hm hQ rfl rfl hw (⟨by rw [hk], rfl⟩) (by omega) (by omega) dX4_lastTotal_13
