theorem kCM.post {l : Launch} {y : MethodName} {ws : List Cond} {fr lo mc ms : Nat} {G : kG} {av : List Value} {wp : va_W} {q1 q2 : Option Value → va_W → Prop} (h : kCM l y ws fr lo mc ms G av wp q1) (hq : ∀ v u, q1 v u → q2 v u) : kCM l y ws fr lo mc ms G av wp q2 := by
  intro sz
  refine MetFree.mono (h sz) (fun _ _ q => q) (fun _ _ _ _ _ q => q) ?_
  rintro a st o t - ⟨⟨⟨v, wq, h1, h2, h3⟩, h4⟩, h5⟩
  exact ⟨⟨⟨v, wq, h1, hq v wq h2, h3⟩, h4⟩, h5⟩
/-- a saved piece: rounds, spiral, kinds, works, yarn -/
abbrev PSt : Type := Nat × Bool × (Nat → Nat → Nat) × (Nat → Nat) × (Nat → Nat)
def HOk (ak aw au ay : Nat → Nat → Nat) (aR : Nat → Nat) (aS : Nat → Bool) (nx sz : Nat) (sv : Nat → PSt) : Prop :=
  nx < 4 ∧ sz ≤ 4 ∧ ∀ i, i < sz → aR ((nx + 3 - i) % 4) = (sv i).1 ∧ aS ((nx + 3 - i) % 4) = (sv i).2.1 ∧ POk (ak ((nx + 3 - i) % 4)) (aw ((nx + 3 - i) % 4)) (au ((nx + 3 - i) % 4)) (ay ((nx + 3 - i) % 4)) (sv i).1 (sv i).2.2.1 (sv i).2.2.2.1 (sv i).2.2.2.2
def svPush (c : PSt) (sv : Nat → PSt) : Nat → PSt := fun i => if i = 0 then c else sv (i - 1)
def svPop (sv : Nat → PSt) : Nat → PSt := fun i => sv (i + 1)
def wH2 (G : kG) (h hs : Nat) (Q : Nat → Nat → Nat) (nx sz : Nat) : va_W :=
  [(h, .inr (0, [.ref hs, vN nx, vN sz])), (hs, .inl (G.2 2, 4, .inr (.inr (.inr (.inr (fun j => some (Q j 0)))))))]
def wHist (G : kG) (h hs : Nat) (Q : Nat → Nat → Nat) (ak aw au ay : Nat → Nat → Nat) (aR : Nat → Nat) (aS : Nat → Bool) (nx sz : Nat) : va_W :=
  wH2 G h hs Q nx sz ++ (wPiece G (Q 0) (ak 0) (aw 0) (au 0) (ay 0) (aR 0) (aS 0) ++ (wPiece G (Q 1) (ak 1) (aw 1) (au 1) (ay 1) (aR 1) (aS 1) ++ (wPiece G (Q 2) (ak 2) (aw 2) (au 2) (ay 2) (aR 2) (aS 2) ++ wPiece G (Q 3) (ak 3) (aw 3) (au 3) (ay 3) (aR 3) (aS 3))))
def fup {α : Type} (f : Nat → α) (k : Nat) (x : α) : Nat → α := fun j => if j = k then x else f j
theorem fup_s {α : Type} {f : Nat → α} {k : Nat} {x : α} : fup f k x k = x := if_pos rfl
theorem fup_n {α : Type} {f : Nat → α} {k j : Nat} {x : α} (h : j ≠ k) : fup f k x j = f j := if_neg h
theorem HOk_keep {ak aw au ay : Nat → Nat → Nat} {aR : Nat → Nat} {aS : Nat → Bool} {nx sz : Nat} {sv : Nat → PSt} (h : HOk ak aw au ay aR aS nx sz sv) {gk gw gt gy y w : Nat → Nat} {K : Nat → Nat → Nat} {R : Nat} {sp : Bool} (hp : POk gk gw gt gy R K w y) : HOk (fup ak nx gk) (fup aw nx gw) (fup au nx gt) (fup ay nx gy) (fup aR nx R) (fup aS nx sp) ((nx + 1) % 4) (Nat.min (sz + 1) 4) (svPush (R, sp, K, w, y) sv) := by
  obtain ⟨h1, h2, h3⟩ := h
  have hm : Nat.min (sz + 1) 4 = min (sz + 1) 4 := rfl
  refine ⟨Nat.mod_lt _ (by decide), by omega, fun i hi => ?_⟩
  by_cases q : i = 0
  · subst q
    have e : ((nx + 1) % 4 + 3 - 0) % 4 = nx := by omega
    rw [e]
    simp only [fup_s, svPush, if_true]
    exact ⟨trivial, trivial, hp⟩
  · have e : ((nx + 1) % 4 + 3 - i) % 4 = (nx + 3 - (i - 1)) % 4 := by omega
    have ne : (nx + 3 - (i - 1)) % 4 ≠ nx := by omega
    rw [e]
    simp only [fup_n ne, svPush, if_neg q]
    exact h3 (i - 1) (by omega)
set_option maxHeartbeats 4000000 in
set_option maxRecDepth 100000 in
theorem c_slotAt (l : Launch) (G : kG) (h : Nat) (hs : Nat) (Q : Nat → Nat → Nat) (nx : Nat) (sz : Nat) (i : Nat) (hi : i < 4) : kCR l yX0_slotAt wsX0_slotAt 0 0 G [.ref (h), vN (i)] (wH2 G h hs Q nx sz) (fun vv => vv = some (.ref ((Q i) 0))) := by
  refine kCM.of (cc := cX0_slotAt) (maxL := 2) (ret := (some (.object "CrochetRounds$Piece"))) (by decide) rfl (Nat.le_of_ble_eq_true rfl) ?_
  intro p e s m args below meth c A ls Qz hQ hin hm hw hl
  have hl : lv_has ls 2 [(0, .ref (h)), (1, vN (i))] := hl
  have i0 : ∀ w ∈ wsX00, w ∈ wsX0_slotAt := by decide +kernel
  refine k_iload_n hm hl 1 rfl dX0_slotAt_0 ?_
  refine k_iflt (tgt := 22) hm dX0_slotAt_1 (by decide) (by omega) (fun c_1 => absurd c_1 (by omega)) (fun c_1 => ?_)
  refine k_iload_n hm hl 1 rfl dX0_slotAt_4 ?_
  refine k_aload_n hm hl 0 rfl dX0_slotAt_5 ?_
  refine k_get (T := TX0) hm hw 0 0 i0 rfl rfl (by decide) (by decide +kernel) rfl dX0_slotAt_6 ?_
  refine k_alen hm hw 1 2 rfl rfl dX0_slotAt_9 ?_
  refine k_icmpge (tgt := 22) hm dX0_slotAt_10 (by decide) (by omega) (fun c_2 => absurd c_2 (by omega)) (fun c_2 => ?_)
  refine k_aload_n hm hl 0 rfl dX0_slotAt_13 ?_
  refine k_get (T := TX0) hm hw 0 0 i0 rfl rfl (by decide) (by decide +kernel) rfl dX0_slotAt_14 ?_
  refine k_iload_n hm hl 1 rfl dX0_slotAt_17 ?_
  refine k_aldq hm hw 1 rfl (by omega) dX0_slotAt_18 ?_
  refine k_goto (tgt := 23) hm dX0_slotAt_19 (by decide) ?_
  exact k_aret hm hQ rfl (Or.inl ⟨_, rfl⟩) (Or.inr ⟨_, rfl⟩) hw (⟨rfl, rfl⟩) (by omega) (by omega) dX0_slotAt_23
set_option maxHeartbeats 4000000 in
set_option maxRecDepth 100000 in
theorem c_keep_0 (l : Launch) (G : kG) (h : Nat) (hs : Nat) (Q : Nat → Nat → Nat) (ak : Nat → Nat → Nat) (aw : Nat → Nat → Nat) (au : Nat → Nat → Nat) (ay : Nat → Nat → Nat) (aR : Nat → Nat) (aS : Nat → Bool) (sz : Nat) (P : Nat → Nat) (gk : Nat → Nat) (gw : Nat → Nat) (gt : Nat → Nat) (gy : Nat → Nat) (R : Nat) (sp : Bool) (K : Nat → Nat → Nat) (w : Nat → Nat) (y : Nat → Nat) (hsz : sz ≤ 4) (hok : POk gk gw gt gy R K w y) : kCM l yX0_keep wsX0_keep 3 68 0 0 G [.ref (h), .ref (P 0)] (wH2 G h hs Q 0 sz ++ (wPiece G (Q 0) (ak 0) (aw 0) (au 0) (ay 0) (aR 0) (aS 0) ++ (wPiece G (Q 1) (ak 1) (aw 1) (au 1) (ay 1) (aR 1) (aS 1) ++ (wPiece G (Q 2) (ak 2) (aw 2) (au 2) (ay 2) (aR 2) (aS 2) ++ (wPiece G (Q 3) (ak 3) (aw 3) (au 3) (ay 3) (aR 3) (aS 3) ++ wPiece G P gk gw gt gy R sp))))) (fun vv uu => ∃ (gk3 : Nat → Nat), ∃ (gw3 : Nat → Nat), ∃ (gt3 : Nat → Nat), ∃ (gy3 : Nat → Nat), vv = none ∧ uu = wH2 G h hs Q ((0 + 1) % 4) (Nat.min (sz + 1) 4) ++ (wPiece G (Q 0) gk3 gw3 gt3 gy3 R sp ++ (wPiece G (Q 1) (ak 1) (aw 1) (au 1) (ay 1) (aR 1) (aS 1) ++ (wPiece G (Q 2) (ak 2) (aw 2) (au 2) (ay 2) (aR 2) (aS 2) ++ (wPiece G (Q 3) (ak 3) (aw 3) (au 3) (ay 3) (aR 3) (aS 3) ++ wPiece G P gk gw gt gy R sp)))) ∧ (POk gk3 gw3 gt3 gy3 R K w y)) := by
  refine kCM.of (cc := cX0_keep) (maxL := 3) (ret := none) (by decide) rfl (Nat.le_of_ble_eq_true rfl) ?_
  intro p e s m args below meth c A ls Qz hQ hin hm hw hl
  have hl : lv_has ls 3 [(0, .ref (h)), (1, .ref (P 0))] := hl
  have i0 : ∀ w ∈ wsX00, w ∈ wsX0_keep := by decide +kernel
  refine k_aload_n hm hl 0 rfl dX0_keep_0 ?_
  refine k_aload_n hm hl 0 rfl dX0_keep_1 ?_
  refine k_get (T := TX0) hm hw 0 1 i0 rfl rfl (by decide) (by decide +kernel) rfl dX0_keep_2 ?_
  refine k_callVr (n := 1) (As := [vN (0)]) (rest := []) hm hw hl (c_slotAt l G h hs Q 0 sz 0 (by first | assumption | omega)) gX0_keep_X0_slotAt rfl (by decide +kernel) ⟨by decide, by decide⟩ (ci := 0) rfl 0 rfl [0, 1] (by decide) rfl rfl rfl (by simp [Value.category]) ⟨by decide, by decide⟩ dX0_keep_5 (fun v H locs hp hw => ?_)
  obtain rfl := hp
  refine W.eq (g2 := F0 m 8 ls [.ref ((Q 0) 0)]) rfl ?_
  refine k_astore_n hm hl [(2, .ref ((Q 0) 0)), (0, .ref (h)), (1, .ref (P 0))] (by decide) rfl dX0_keep_8 (fun ls hl => ?_)
  refine k_aload_n hm hl 0 rfl dX0_keep_9 ?_
  refine lv_ifnull hm.1 hm.2.1 dX0_keep_10 ?_
  refine k_aload_n hm hl 0 rfl dX0_keep_13 ?_
  refine k_aload_n hm hl 2 rfl dX0_keep_14 ?_
  refine k_callV (n := 1) (As := [.ref (P 0)]) (rest := []) (wr := [(h, .inr (0, [.ref (hs), vN (0), vN (sz)])), (hs, .inl (G.2 2, 4, .inr (.inr (.inr (.inr (fun j => some (Q j 0))))))), ((Q 1) 0, .inr (4, [.ref ((Q 1) 1), .ref ((Q 1) 3), .ref ((Q 1) 5), .ref ((Q 1) 7), vN (aR 1), vB (aS 1)])), ((Q 1) 1, .inr (2, [.ref ((Q 1) 2)])), ((Q 1) 2, .inl (G.2 0, 4800, .inl (nF (ak 1)))), ((Q 1) 3, .inr (2, [.ref ((Q 1) 4)])), ((Q 1) 4, .inl (G.2 0, 40, .inl (nF (aw 1)))), ((Q 1) 5, .inr (2, [.ref ((Q 1) 6)])), ((Q 1) 6, .inl (G.2 0, 40, .inl (nF (au 1)))), ((Q 1) 7, .inr (2, [.ref ((Q 1) 8)])), ((Q 1) 8, .inl (G.2 0, 3, .inl (nF (ay 1)))), ((Q 2) 0, .inr (4, [.ref ((Q 2) 1), .ref ((Q 2) 3), .ref ((Q 2) 5), .ref ((Q 2) 7), vN (aR 2), vB (aS 2)])), ((Q 2) 1, .inr (2, [.ref ((Q 2) 2)])), ((Q 2) 2, .inl (G.2 0, 4800, .inl (nF (ak 2)))), ((Q 2) 3, .inr (2, [.ref ((Q 2) 4)])), ((Q 2) 4, .inl (G.2 0, 40, .inl (nF (aw 2)))), ((Q 2) 5, .inr (2, [.ref ((Q 2) 6)])), ((Q 2) 6, .inl (G.2 0, 40, .inl (nF (au 2)))), ((Q 2) 7, .inr (2, [.ref ((Q 2) 8)])), ((Q 2) 8, .inl (G.2 0, 3, .inl (nF (ay 2)))), ((Q 3) 0, .inr (4, [.ref ((Q 3) 1), .ref ((Q 3) 3), .ref ((Q 3) 5), .ref ((Q 3) 7), vN (aR 3), vB (aS 3)])), ((Q 3) 1, .inr (2, [.ref ((Q 3) 2)])), ((Q 3) 2, .inl (G.2 0, 4800, .inl (nF (ak 3)))), ((Q 3) 3, .inr (2, [.ref ((Q 3) 4)])), ((Q 3) 4, .inl (G.2 0, 40, .inl (nF (aw 3)))), ((Q 3) 5, .inr (2, [.ref ((Q 3) 6)])), ((Q 3) 6, .inl (G.2 0, 40, .inl (nF (au 3)))), ((Q 3) 7, .inr (2, [.ref ((Q 3) 8)])), ((Q 3) 8, .inl (G.2 0, 3, .inl (nF (ay 3))))]) hm hw hl (c_takeOver l G (Q 0) (ak 0) (aw 0) (au 0) (ay 0) (aR 0) (aS 0) P gk gw gt gy R sp K w y (by first | assumption | omega)) gX0_keep_X4_takeOver rfl (by decide +kernel) ⟨by decide, by decide⟩ (ci := 4) rfl 2 rfl [2, 3, 4, 5, 6, 7, 8, 9, 10, 38, 39, 40, 41, 42, 43, 44, 45, 46] [0, 1, 11, 12, 13, 14, 15, 16, 17, 18, 19, 20, 21, 22, 23, 24, 25, 26, 27, 28, 29, 30, 31, 32, 33, 34, 35, 36, 37] (by decide) rfl rfl (by decide) (by decide) rfl rfl (by simp [Value.category]) ⟨by decide, by decide⟩ dX0_keep_15 (fun v w1 H locs hp hw => ?_)
  obtain ⟨gk3_3, gw3_4, gt3_5, gy3_6, rfl, rfl, hok3_7⟩ := hp
  have hw := hw.sub (ws' := wH2 G h hs Q 0 sz ++ (wPiece G (Q 0) gk3_3 gw3_4 gt3_5 gy3_6 R sp ++ (wPiece G (Q 1) (ak 1) (aw 1) (au 1) (ay 1) (aR 1) (aS 1) ++ (wPiece G (Q 2) (ak 2) (aw 2) (au 2) (ay 2) (aR 2) (aS 2) ++ (wPiece G (Q 3) (ak 3) (aw 3) (au 3) (ay 3) (aR 3) (aS 3) ++ wPiece G P gk gw gt gy R sp))))) [0, 1, 29, 30, 31, 32, 33, 34, 35, 36, 37, 2, 3, 4, 5, 6, 7, 8, 9, 10, 11, 12, 13, 14, 15, 16, 17, 18, 19, 20, 21, 22, 23, 24, 25, 26, 27, 28, 38, 39, 40, 41, 42, 43, 44, 45, 46] (by decide) rfl
  refine W.eq (g2 := F0 m 18 ls []) rfl ?_
  have hok3 := hok3_7
  refine k_aload_n hm hl 1 rfl dX0_keep_18 ?_
  refine k_aload_n hm hl 1 rfl dX0_keep_19 ?_
  refine k_get (T := TX0) hm hw 0 1 i0 rfl rfl (by decide) (by decide +kernel) rfl dX0_keep_20 ?_
  refine k_iconstN hm 1 dX0_keep_23 ?_
  refine k_iaddN hm dX0_keep_24 ?_
  refine k_iconstN hm 4 dX0_keep_25 ?_
  refine k_iremN hm (by omega) dX0_keep_26 ?_
  refine k_put (T := TX0) hm hw 0 1 (wH2 G h hs Q ((0 + 1) % 4) sz ++ (wPiece G (Q 0) gk3_3 gw3_4 gt3_5 gy3_6 R sp ++ (wPiece G (Q 1) (ak 1) (aw 1) (au 1) (ay 1) (aR 1) (aS 1) ++ (wPiece G (Q 2) (ak 2) (aw 2) (au 2) (ay 2) (aR 2) (aS 2) ++ (wPiece G (Q 3) (ak 3) (aw 3) (au 3) (ay 3) (aR 3) (aS 3) ++ wPiece G P gk gw gt gy R sp))))) i0 tyX0 tyX0_ok nmX0 rfl rfl (by decide) (by decide +kernel) rfl (tyX0_ok 1 (by decide)) rfl rfl (Nat.le_of_ble_eq_true rfl) rfl dX0_keep_27 (fun H locs hw => ?_)
  refine k_aload_n hm hl 1 rfl dX0_keep_30 ?_
  refine k_aload_n hm hl 1 rfl dX0_keep_31 ?_
  refine k_get (T := TX0) hm hw 0 2 i0 rfl rfl (by decide) (by decide +kernel) rfl dX0_keep_32 ?_
  refine k_iconstN hm 1 dX0_keep_35 ?_
  refine k_iaddN hm dX0_keep_36 ?_
  refine k_iconstN hm 4 dX0_keep_37 ?_
  refine k_mminN hm hl (by decide +kernel) (by decide +kernel) (by decide +kernel) (by decide +kernel) (by decide) (by simp [Value.category]) (by decide) (by decide) (by omega) dX0_keep_38 ?_
  refine k_put (T := TX0) hm hw 0 2 (wH2 G h hs Q ((0 + 1) % 4) (Nat.min (sz + 1) 4) ++ (wPiece G (Q 0) gk3_3 gw3_4 gt3_5 gy3_6 R sp ++ (wPiece G (Q 1) (ak 1) (aw 1) (au 1) (ay 1) (aR 1) (aS 1) ++ (wPiece G (Q 2) (ak 2) (aw 2) (au 2) (ay 2) (aR 2) (aS 2) ++ (wPiece G (Q 3) (ak 3) (aw 3) (au 3) (ay 3) (aR 3) (aS 3) ++ wPiece G P gk gw gt gy R sp))))) i0 tyX0 tyX0_ok nmX0 rfl rfl (by decide) (by decide +kernel) rfl (tyX0_ok 2 (by decide)) rfl rfl (Nat.le_of_ble_eq_true rfl) rfl dX0_keep_41 (fun H locs hw => ?_)
  exact k_vret hm hQ rfl hw (⟨_, _, _, _, rfl, rfl, hok3⟩) (by omega) (by omega) dX0_keep_44
set_option maxHeartbeats 4000000 in
set_option maxRecDepth 100000 in
theorem c_keep_1 (l : Launch) (G : kG) (h : Nat) (hs : Nat) (Q : Nat → Nat → Nat) (ak : Nat → Nat → Nat) (aw : Nat → Nat → Nat) (au : Nat → Nat → Nat) (ay : Nat → Nat → Nat) (aR : Nat → Nat) (aS : Nat → Bool) (sz : Nat) (P : Nat → Nat) (gk : Nat → Nat) (gw : Nat → Nat) (gt : Nat → Nat) (gy : Nat → Nat) (R : Nat) (sp : Bool) (K : Nat → Nat → Nat) (w : Nat → Nat) (y : Nat → Nat) (hsz : sz ≤ 4) (hok : POk gk gw gt gy R K w y) : kCM l yX0_keep wsX0_keep 3 68 0 0 G [.ref (h), .ref (P 0)] (wH2 G h hs Q 1 sz ++ (wPiece G (Q 0) (ak 0) (aw 0) (au 0) (ay 0) (aR 0) (aS 0) ++ (wPiece G (Q 1) (ak 1) (aw 1) (au 1) (ay 1) (aR 1) (aS 1) ++ (wPiece G (Q 2) (ak 2) (aw 2) (au 2) (ay 2) (aR 2) (aS 2) ++ (wPiece G (Q 3) (ak 3) (aw 3) (au 3) (ay 3) (aR 3) (aS 3) ++ wPiece G P gk gw gt gy R sp))))) (fun vv uu => ∃ (gk3 : Nat → Nat), ∃ (gw3 : Nat → Nat), ∃ (gt3 : Nat → Nat), ∃ (gy3 : Nat → Nat), vv = none ∧ uu = wH2 G h hs Q ((1 + 1) % 4) (Nat.min (sz + 1) 4) ++ (wPiece G (Q 0) (ak 0) (aw 0) (au 0) (ay 0) (aR 0) (aS 0) ++ (wPiece G (Q 1) gk3 gw3 gt3 gy3 R sp ++ (wPiece G (Q 2) (ak 2) (aw 2) (au 2) (ay 2) (aR 2) (aS 2) ++ (wPiece G (Q 3) (ak 3) (aw 3) (au 3) (ay 3) (aR 3) (aS 3) ++ wPiece G P gk gw gt gy R sp)))) ∧ (POk gk3 gw3 gt3 gy3 R K w y)) := by
  refine kCM.of (cc := cX0_keep) (maxL := 3) (ret := none) (by decide) rfl (Nat.le_of_ble_eq_true rfl) ?_
  intro p e s m args below meth c A ls Qz hQ hin hm hw hl
  have hl : lv_has ls 3 [(0, .ref (h)), (1, .ref (P 0))] := hl
  have i0 : ∀ w ∈ wsX00, w ∈ wsX0_keep := by decide +kernel
  refine k_aload_n hm hl 0 rfl dX0_keep_0 ?_
  refine k_aload_n hm hl 0 rfl dX0_keep_1 ?_
  refine k_get (T := TX0) hm hw 0 1 i0 rfl rfl (by decide) (by decide +kernel) rfl dX0_keep_2 ?_
  refine k_callVr (n := 1) (As := [vN (1)]) (rest := []) hm hw hl (c_slotAt l G h hs Q 1 sz 1 (by first | assumption | omega)) gX0_keep_X0_slotAt rfl (by decide +kernel) ⟨by decide, by decide⟩ (ci := 0) rfl 0 rfl [0, 1] (by decide) rfl rfl rfl (by simp [Value.category]) ⟨by decide, by decide⟩ dX0_keep_5 (fun v H locs hp hw => ?_)
  obtain rfl := hp
  refine W.eq (g2 := F0 m 8 ls [.ref ((Q 1) 0)]) rfl ?_
  refine k_astore_n hm hl [(2, .ref ((Q 1) 0)), (0, .ref (h)), (1, .ref (P 0))] (by decide) rfl dX0_keep_8 (fun ls hl => ?_)
  refine k_aload_n hm hl 0 rfl dX0_keep_9 ?_
  refine lv_ifnull hm.1 hm.2.1 dX0_keep_10 ?_
  refine k_aload_n hm hl 0 rfl dX0_keep_13 ?_
  refine k_aload_n hm hl 2 rfl dX0_keep_14 ?_
  refine k_callV (n := 1) (As := [.ref (P 0)]) (rest := []) (wr := [(h, .inr (0, [.ref (hs), vN (1), vN (sz)])), (hs, .inl (G.2 2, 4, .inr (.inr (.inr (.inr (fun j => some (Q j 0))))))), ((Q 0) 0, .inr (4, [.ref ((Q 0) 1), .ref ((Q 0) 3), .ref ((Q 0) 5), .ref ((Q 0) 7), vN (aR 0), vB (aS 0)])), ((Q 0) 1, .inr (2, [.ref ((Q 0) 2)])), ((Q 0) 2, .inl (G.2 0, 4800, .inl (nF (ak 0)))), ((Q 0) 3, .inr (2, [.ref ((Q 0) 4)])), ((Q 0) 4, .inl (G.2 0, 40, .inl (nF (aw 0)))), ((Q 0) 5, .inr (2, [.ref ((Q 0) 6)])), ((Q 0) 6, .inl (G.2 0, 40, .inl (nF (au 0)))), ((Q 0) 7, .inr (2, [.ref ((Q 0) 8)])), ((Q 0) 8, .inl (G.2 0, 3, .inl (nF (ay 0)))), ((Q 2) 0, .inr (4, [.ref ((Q 2) 1), .ref ((Q 2) 3), .ref ((Q 2) 5), .ref ((Q 2) 7), vN (aR 2), vB (aS 2)])), ((Q 2) 1, .inr (2, [.ref ((Q 2) 2)])), ((Q 2) 2, .inl (G.2 0, 4800, .inl (nF (ak 2)))), ((Q 2) 3, .inr (2, [.ref ((Q 2) 4)])), ((Q 2) 4, .inl (G.2 0, 40, .inl (nF (aw 2)))), ((Q 2) 5, .inr (2, [.ref ((Q 2) 6)])), ((Q 2) 6, .inl (G.2 0, 40, .inl (nF (au 2)))), ((Q 2) 7, .inr (2, [.ref ((Q 2) 8)])), ((Q 2) 8, .inl (G.2 0, 3, .inl (nF (ay 2)))), ((Q 3) 0, .inr (4, [.ref ((Q 3) 1), .ref ((Q 3) 3), .ref ((Q 3) 5), .ref ((Q 3) 7), vN (aR 3), vB (aS 3)])), ((Q 3) 1, .inr (2, [.ref ((Q 3) 2)])), ((Q 3) 2, .inl (G.2 0, 4800, .inl (nF (ak 3)))), ((Q 3) 3, .inr (2, [.ref ((Q 3) 4)])), ((Q 3) 4, .inl (G.2 0, 40, .inl (nF (aw 3)))), ((Q 3) 5, .inr (2, [.ref ((Q 3) 6)])), ((Q 3) 6, .inl (G.2 0, 40, .inl (nF (au 3)))), ((Q 3) 7, .inr (2, [.ref ((Q 3) 8)])), ((Q 3) 8, .inl (G.2 0, 3, .inl (nF (ay 3))))]) hm hw hl (c_takeOver l G (Q 1) (ak 1) (aw 1) (au 1) (ay 1) (aR 1) (aS 1) P gk gw gt gy R sp K w y (by first | assumption | omega)) gX0_keep_X4_takeOver rfl (by decide +kernel) ⟨by decide, by decide⟩ (ci := 4) rfl 11 rfl [11, 12, 13, 14, 15, 16, 17, 18, 19, 38, 39, 40, 41, 42, 43, 44, 45, 46] [0, 1, 2, 3, 4, 5, 6, 7, 8, 9, 10, 20, 21, 22, 23, 24, 25, 26, 27, 28, 29, 30, 31, 32, 33, 34, 35, 36, 37] (by decide) rfl rfl (by decide) (by decide) rfl rfl (by simp [Value.category]) ⟨by decide, by decide⟩ dX0_keep_15 (fun v w1 H locs hp hw => ?_)
  obtain ⟨gk3_3, gw3_4, gt3_5, gy3_6, rfl, rfl, hok3_7⟩ := hp
  have hw := hw.sub (ws' := wH2 G h hs Q 1 sz ++ (wPiece G (Q 0) (ak 0) (aw 0) (au 0) (ay 0) (aR 0) (aS 0) ++ (wPiece G (Q 1) gk3_3 gw3_4 gt3_5 gy3_6 R sp ++ (wPiece G (Q 2) (ak 2) (aw 2) (au 2) (ay 2) (aR 2) (aS 2) ++ (wPiece G (Q 3) (ak 3) (aw 3) (au 3) (ay 3) (aR 3) (aS 3) ++ wPiece G P gk gw gt gy R sp))))) [0, 1, 2, 3, 4, 5, 6, 7, 8, 9, 10, 29, 30, 31, 32, 33, 34, 35, 36, 37, 11, 12, 13, 14, 15, 16, 17, 18, 19, 20, 21, 22, 23, 24, 25, 26, 27, 28, 38, 39, 40, 41, 42, 43, 44, 45, 46] (by decide) rfl
  refine W.eq (g2 := F0 m 18 ls []) rfl ?_
  have hok3 := hok3_7
  refine k_aload_n hm hl 1 rfl dX0_keep_18 ?_
  refine k_aload_n hm hl 1 rfl dX0_keep_19 ?_
  refine k_get (T := TX0) hm hw 0 1 i0 rfl rfl (by decide) (by decide +kernel) rfl dX0_keep_20 ?_
  refine k_iconstN hm 1 dX0_keep_23 ?_
  refine k_iaddN hm dX0_keep_24 ?_
  refine k_iconstN hm 4 dX0_keep_25 ?_
  refine k_iremN hm (by omega) dX0_keep_26 ?_
  refine k_put (T := TX0) hm hw 0 1 (wH2 G h hs Q ((1 + 1) % 4) sz ++ (wPiece G (Q 0) (ak 0) (aw 0) (au 0) (ay 0) (aR 0) (aS 0) ++ (wPiece G (Q 1) gk3_3 gw3_4 gt3_5 gy3_6 R sp ++ (wPiece G (Q 2) (ak 2) (aw 2) (au 2) (ay 2) (aR 2) (aS 2) ++ (wPiece G (Q 3) (ak 3) (aw 3) (au 3) (ay 3) (aR 3) (aS 3) ++ wPiece G P gk gw gt gy R sp))))) i0 tyX0 tyX0_ok nmX0 rfl rfl (by decide) (by decide +kernel) rfl (tyX0_ok 1 (by decide)) rfl rfl (Nat.le_of_ble_eq_true rfl) rfl dX0_keep_27 (fun H locs hw => ?_)
  refine k_aload_n hm hl 1 rfl dX0_keep_30 ?_
  refine k_aload_n hm hl 1 rfl dX0_keep_31 ?_
  refine k_get (T := TX0) hm hw 0 2 i0 rfl rfl (by decide) (by decide +kernel) rfl dX0_keep_32 ?_
  refine k_iconstN hm 1 dX0_keep_35 ?_
  refine k_iaddN hm dX0_keep_36 ?_
  refine k_iconstN hm 4 dX0_keep_37 ?_
  refine k_mminN hm hl (by decide +kernel) (by decide +kernel) (by decide +kernel) (by decide +kernel) (by decide) (by simp [Value.category]) (by decide) (by decide) (by omega) dX0_keep_38 ?_
  refine k_put (T := TX0) hm hw 0 2 (wH2 G h hs Q ((1 + 1) % 4) (Nat.min (sz + 1) 4) ++ (wPiece G (Q 0) (ak 0) (aw 0) (au 0) (ay 0) (aR 0) (aS 0) ++ (wPiece G (Q 1) gk3_3 gw3_4 gt3_5 gy3_6 R sp ++ (wPiece G (Q 2) (ak 2) (aw 2) (au 2) (ay 2) (aR 2) (aS 2) ++ (wPiece G (Q 3) (ak 3) (aw 3) (au 3) (ay 3) (aR 3) (aS 3) ++ wPiece G P gk gw gt gy R sp))))) i0 tyX0 tyX0_ok nmX0 rfl rfl (by decide) (by decide +kernel) rfl (tyX0_ok 2 (by decide)) rfl rfl (Nat.le_of_ble_eq_true rfl) rfl dX0_keep_41 (fun H locs hw => ?_)
  exact k_vret hm hQ rfl hw (⟨_, _, _, _, rfl, rfl, hok3⟩) (by omega) (by omega) dX0_keep_44
set_option maxHeartbeats 4000000 in
set_option maxRecDepth 100000 in
theorem c_keep_2 (l : Launch) (G : kG) (h : Nat) (hs : Nat) (Q : Nat → Nat → Nat) (ak : Nat → Nat → Nat) (aw : Nat → Nat → Nat) (au : Nat → Nat → Nat) (ay : Nat → Nat → Nat) (aR : Nat → Nat) (aS : Nat → Bool) (sz : Nat) (P : Nat → Nat) (gk : Nat → Nat) (gw : Nat → Nat) (gt : Nat → Nat) (gy : Nat → Nat) (R : Nat) (sp : Bool) (K : Nat → Nat → Nat) (w : Nat → Nat) (y : Nat → Nat) (hsz : sz ≤ 4) (hok : POk gk gw gt gy R K w y) : kCM l yX0_keep wsX0_keep 3 68 0 0 G [.ref (h), .ref (P 0)] (wH2 G h hs Q 2 sz ++ (wPiece G (Q 0) (ak 0) (aw 0) (au 0) (ay 0) (aR 0) (aS 0) ++ (wPiece G (Q 1) (ak 1) (aw 1) (au 1) (ay 1) (aR 1) (aS 1) ++ (wPiece G (Q 2) (ak 2) (aw 2) (au 2) (ay 2) (aR 2) (aS 2) ++ (wPiece G (Q 3) (ak 3) (aw 3) (au 3) (ay 3) (aR 3) (aS 3) ++ wPiece G P gk gw gt gy R sp))))) (fun vv uu => ∃ (gk3 : Nat → Nat), ∃ (gw3 : Nat → Nat), ∃ (gt3 : Nat → Nat), ∃ (gy3 : Nat → Nat), vv = none ∧ uu = wH2 G h hs Q ((2 + 1) % 4) (Nat.min (sz + 1) 4) ++ (wPiece G (Q 0) (ak 0) (aw 0) (au 0) (ay 0) (aR 0) (aS 0) ++ (wPiece G (Q 1) (ak 1) (aw 1) (au 1) (ay 1) (aR 1) (aS 1) ++ (wPiece G (Q 2) gk3 gw3 gt3 gy3 R sp ++ (wPiece G (Q 3) (ak 3) (aw 3) (au 3) (ay 3) (aR 3) (aS 3) ++ wPiece G P gk gw gt gy R sp)))) ∧ (POk gk3 gw3 gt3 gy3 R K w y)) := by
  refine kCM.of (cc := cX0_keep) (maxL := 3) (ret := none) (by decide) rfl (Nat.le_of_ble_eq_true rfl) ?_
  intro p e s m args below meth c A ls Qz hQ hin hm hw hl
  have hl : lv_has ls 3 [(0, .ref (h)), (1, .ref (P 0))] := hl
  have i0 : ∀ w ∈ wsX00, w ∈ wsX0_keep := by decide +kernel
  refine k_aload_n hm hl 0 rfl dX0_keep_0 ?_
  refine k_aload_n hm hl 0 rfl dX0_keep_1 ?_
  refine k_get (T := TX0) hm hw 0 1 i0 rfl rfl (by decide) (by decide +kernel) rfl dX0_keep_2 ?_
  refine k_callVr (n := 1) (As := [vN (2)]) (rest := []) hm hw hl (c_slotAt l G h hs Q 2 sz 2 (by first | assumption | omega)) gX0_keep_X0_slotAt rfl (by decide +kernel) ⟨by decide, by decide⟩ (ci := 0) rfl 0 rfl [0, 1] (by decide) rfl rfl rfl (by simp [Value.category]) ⟨by decide, by decide⟩ dX0_keep_5 (fun v H locs hp hw => ?_)
  obtain rfl := hp
  refine W.eq (g2 := F0 m 8 ls [.ref ((Q 2) 0)]) rfl ?_
  refine k_astore_n hm hl [(2, .ref ((Q 2) 0)), (0, .ref (h)), (1, .ref (P 0))] (by decide) rfl dX0_keep_8 (fun ls hl => ?_)
  refine k_aload_n hm hl 0 rfl dX0_keep_9 ?_
  refine lv_ifnull hm.1 hm.2.1 dX0_keep_10 ?_
  refine k_aload_n hm hl 0 rfl dX0_keep_13 ?_
  refine k_aload_n hm hl 2 rfl dX0_keep_14 ?_
  refine k_callV (n := 1) (As := [.ref (P 0)]) (rest := []) (wr := [(h, .inr (0, [.ref (hs), vN (2), vN (sz)])), (hs, .inl (G.2 2, 4, .inr (.inr (.inr (.inr (fun j => some (Q j 0))))))), ((Q 0) 0, .inr (4, [.ref ((Q 0) 1), .ref ((Q 0) 3), .ref ((Q 0) 5), .ref ((Q 0) 7), vN (aR 0), vB (aS 0)])), ((Q 0) 1, .inr (2, [.ref ((Q 0) 2)])), ((Q 0) 2, .inl (G.2 0, 4800, .inl (nF (ak 0)))), ((Q 0) 3, .inr (2, [.ref ((Q 0) 4)])), ((Q 0) 4, .inl (G.2 0, 40, .inl (nF (aw 0)))), ((Q 0) 5, .inr (2, [.ref ((Q 0) 6)])), ((Q 0) 6, .inl (G.2 0, 40, .inl (nF (au 0)))), ((Q 0) 7, .inr (2, [.ref ((Q 0) 8)])), ((Q 0) 8, .inl (G.2 0, 3, .inl (nF (ay 0)))), ((Q 1) 0, .inr (4, [.ref ((Q 1) 1), .ref ((Q 1) 3), .ref ((Q 1) 5), .ref ((Q 1) 7), vN (aR 1), vB (aS 1)])), ((Q 1) 1, .inr (2, [.ref ((Q 1) 2)])), ((Q 1) 2, .inl (G.2 0, 4800, .inl (nF (ak 1)))), ((Q 1) 3, .inr (2, [.ref ((Q 1) 4)])), ((Q 1) 4, .inl (G.2 0, 40, .inl (nF (aw 1)))), ((Q 1) 5, .inr (2, [.ref ((Q 1) 6)])), ((Q 1) 6, .inl (G.2 0, 40, .inl (nF (au 1)))), ((Q 1) 7, .inr (2, [.ref ((Q 1) 8)])), ((Q 1) 8, .inl (G.2 0, 3, .inl (nF (ay 1)))), ((Q 3) 0, .inr (4, [.ref ((Q 3) 1), .ref ((Q 3) 3), .ref ((Q 3) 5), .ref ((Q 3) 7), vN (aR 3), vB (aS 3)])), ((Q 3) 1, .inr (2, [.ref ((Q 3) 2)])), ((Q 3) 2, .inl (G.2 0, 4800, .inl (nF (ak 3)))), ((Q 3) 3, .inr (2, [.ref ((Q 3) 4)])), ((Q 3) 4, .inl (G.2 0, 40, .inl (nF (aw 3)))), ((Q 3) 5, .inr (2, [.ref ((Q 3) 6)])), ((Q 3) 6, .inl (G.2 0, 40, .inl (nF (au 3)))), ((Q 3) 7, .inr (2, [.ref ((Q 3) 8)])), ((Q 3) 8, .inl (G.2 0, 3, .inl (nF (ay 3))))]) hm hw hl (c_takeOver l G (Q 2) (ak 2) (aw 2) (au 2) (ay 2) (aR 2) (aS 2) P gk gw gt gy R sp K w y (by first | assumption | omega)) gX0_keep_X4_takeOver rfl (by decide +kernel) ⟨by decide, by decide⟩ (ci := 4) rfl 20 rfl [20, 21, 22, 23, 24, 25, 26, 27, 28, 38, 39, 40, 41, 42, 43, 44, 45, 46] [0, 1, 2, 3, 4, 5, 6, 7, 8, 9, 10, 11, 12, 13, 14, 15, 16, 17, 18, 19, 29, 30, 31, 32, 33, 34, 35, 36, 37] (by decide) rfl rfl (by decide) (by decide) rfl rfl (by simp [Value.category]) ⟨by decide, by decide⟩ dX0_keep_15 (fun v w1 H locs hp hw => ?_)
  obtain ⟨gk3_3, gw3_4, gt3_5, gy3_6, rfl, rfl, hok3_7⟩ := hp
  have hw := hw.sub (ws' := wH2 G h hs Q 2 sz ++ (wPiece G (Q 0) (ak 0) (aw 0) (au 0) (ay 0) (aR 0) (aS 0) ++ (wPiece G (Q 1) (ak 1) (aw 1) (au 1) (ay 1) (aR 1) (aS 1) ++ (wPiece G (Q 2) gk3_3 gw3_4 gt3_5 gy3_6 R sp ++ (wPiece G (Q 3) (ak 3) (aw 3) (au 3) (ay 3) (aR 3) (aS 3) ++ wPiece G P gk gw gt gy R sp))))) [0, 1, 2, 3, 4, 5, 6, 7, 8, 9, 10, 11, 12, 13, 14, 15, 16, 17, 18, 19, 29, 30, 31, 32, 33, 34, 35, 36, 37, 20, 21, 22, 23, 24, 25, 26, 27, 28, 38, 39, 40, 41, 42, 43, 44, 45, 46] (by decide) rfl
  refine W.eq (g2 := F0 m 18 ls []) rfl ?_
  have hok3 := hok3_7
  refine k_aload_n hm hl 1 rfl dX0_keep_18 ?_
  refine k_aload_n hm hl 1 rfl dX0_keep_19 ?_
  refine k_get (T := TX0) hm hw 0 1 i0 rfl rfl (by decide) (by decide +kernel) rfl dX0_keep_20 ?_
  refine k_iconstN hm 1 dX0_keep_23 ?_
  refine k_iaddN hm dX0_keep_24 ?_
  refine k_iconstN hm 4 dX0_keep_25 ?_
  refine k_iremN hm (by omega) dX0_keep_26 ?_
  refine k_put (T := TX0) hm hw 0 1 (wH2 G h hs Q ((2 + 1) % 4) sz ++ (wPiece G (Q 0) (ak 0) (aw 0) (au 0) (ay 0) (aR 0) (aS 0) ++ (wPiece G (Q 1) (ak 1) (aw 1) (au 1) (ay 1) (aR 1) (aS 1) ++ (wPiece G (Q 2) gk3_3 gw3_4 gt3_5 gy3_6 R sp ++ (wPiece G (Q 3) (ak 3) (aw 3) (au 3) (ay 3) (aR 3) (aS 3) ++ wPiece G P gk gw gt gy R sp))))) i0 tyX0 tyX0_ok nmX0 rfl rfl (by decide) (by decide +kernel) rfl (tyX0_ok 1 (by decide)) rfl rfl (Nat.le_of_ble_eq_true rfl) rfl dX0_keep_27 (fun H locs hw => ?_)
  refine k_aload_n hm hl 1 rfl dX0_keep_30 ?_
  refine k_aload_n hm hl 1 rfl dX0_keep_31 ?_
  refine k_get (T := TX0) hm hw 0 2 i0 rfl rfl (by decide) (by decide +kernel) rfl dX0_keep_32 ?_
  refine k_iconstN hm 1 dX0_keep_35 ?_
  refine k_iaddN hm dX0_keep_36 ?_
  refine k_iconstN hm 4 dX0_keep_37 ?_
  refine k_mminN hm hl (by decide +kernel) (by decide +kernel) (by decide +kernel) (by decide +kernel) (by decide) (by simp [Value.category]) (by decide) (by decide) (by omega) dX0_keep_38 ?_
  refine k_put (T := TX0) hm hw 0 2 (wH2 G h hs Q ((2 + 1) % 4) (Nat.min (sz + 1) 4) ++ (wPiece G (Q 0) (ak 0) (aw 0) (au 0) (ay 0) (aR 0) (aS 0) ++ (wPiece G (Q 1) (ak 1) (aw 1) (au 1) (ay 1) (aR 1) (aS 1) ++ (wPiece G (Q 2) gk3_3 gw3_4 gt3_5 gy3_6 R sp ++ (wPiece G (Q 3) (ak 3) (aw 3) (au 3) (ay 3) (aR 3) (aS 3) ++ wPiece G P gk gw gt gy R sp))))) i0 tyX0 tyX0_ok nmX0 rfl rfl (by decide) (by decide +kernel) rfl (tyX0_ok 2 (by decide)) rfl rfl (Nat.le_of_ble_eq_true rfl) rfl dX0_keep_41 (fun H locs hw => ?_)
  exact k_vret hm hQ rfl hw (⟨_, _, _, _, rfl, rfl, hok3⟩) (by omega) (by omega) dX0_keep_44
set_option maxHeartbeats 4000000 in
set_option maxRecDepth 100000 in
theorem c_keep_3 (l : Launch) (G : kG) (h : Nat) (hs : Nat) (Q : Nat → Nat → Nat) (ak : Nat → Nat → Nat) (aw : Nat → Nat → Nat) (au : Nat → Nat → Nat) (ay : Nat → Nat → Nat) (aR : Nat → Nat) (aS : Nat → Bool) (sz : Nat) (P : Nat → Nat) (gk : Nat → Nat) (gw : Nat → Nat) (gt : Nat → Nat) (gy : Nat → Nat) (R : Nat) (sp : Bool) (K : Nat → Nat → Nat) (w : Nat → Nat) (y : Nat → Nat) (hsz : sz ≤ 4) (hok : POk gk gw gt gy R K w y) : kCM l yX0_keep wsX0_keep 3 68 0 0 G [.ref (h), .ref (P 0)] (wH2 G h hs Q 3 sz ++ (wPiece G (Q 0) (ak 0) (aw 0) (au 0) (ay 0) (aR 0) (aS 0) ++ (wPiece G (Q 1) (ak 1) (aw 1) (au 1) (ay 1) (aR 1) (aS 1) ++ (wPiece G (Q 2) (ak 2) (aw 2) (au 2) (ay 2) (aR 2) (aS 2) ++ (wPiece G (Q 3) (ak 3) (aw 3) (au 3) (ay 3) (aR 3) (aS 3) ++ wPiece G P gk gw gt gy R sp))))) (fun vv uu => ∃ (gk3 : Nat → Nat), ∃ (gw3 : Nat → Nat), ∃ (gt3 : Nat → Nat), ∃ (gy3 : Nat → Nat), vv = none ∧ uu = wH2 G h hs Q ((3 + 1) % 4) (Nat.min (sz + 1) 4) ++ (wPiece G (Q 0) (ak 0) (aw 0) (au 0) (ay 0) (aR 0) (aS 0) ++ (wPiece G (Q 1) (ak 1) (aw 1) (au 1) (ay 1) (aR 1) (aS 1) ++ (wPiece G (Q 2) (ak 2) (aw 2) (au 2) (ay 2) (aR 2) (aS 2) ++ (wPiece G (Q 3) gk3 gw3 gt3 gy3 R sp ++ wPiece G P gk gw gt gy R sp)))) ∧ (POk gk3 gw3 gt3 gy3 R K w y)) := by
  refine kCM.of (cc := cX0_keep) (maxL := 3) (ret := none) (by decide) rfl (Nat.le_of_ble_eq_true rfl) ?_
  intro p e s m args below meth c A ls Qz hQ hin hm hw hl
  have hl : lv_has ls 3 [(0, .ref (h)), (1, .ref (P 0))] := hl
  have i0 : ∀ w ∈ wsX00, w ∈ wsX0_keep := by decide +kernel
  refine k_aload_n hm hl 0 rfl dX0_keep_0 ?_
  refine k_aload_n hm hl 0 rfl dX0_keep_1 ?_
  refine k_get (T := TX0) hm hw 0 1 i0 rfl rfl (by decide) (by decide +kernel) rfl dX0_keep_2 ?_
  refine k_callVr (n := 1) (As := [vN (3)]) (rest := []) hm hw hl (c_slotAt l G h hs Q 3 sz 3 (by first | assumption | omega)) gX0_keep_X0_slotAt rfl (by decide +kernel) ⟨by decide, by decide⟩ (ci := 0) rfl 0 rfl [0, 1] (by decide) rfl rfl rfl (by simp [Value.category]) ⟨by decide, by decide⟩ dX0_keep_5 (fun v H locs hp hw => ?_)
  obtain rfl := hp
  refine W.eq (g2 := F0 m 8 ls [.ref ((Q 3) 0)]) rfl ?_
  refine k_astore_n hm hl [(2, .ref ((Q 3) 0)), (0, .ref (h)), (1, .ref (P 0))] (by decide) rfl dX0_keep_8 (fun ls hl => ?_)
  refine k_aload_n hm hl 0 rfl dX0_keep_9 ?_
  refine lv_ifnull hm.1 hm.2.1 dX0_keep_10 ?_
  refine k_aload_n hm hl 0 rfl dX0_keep_13 ?_
  refine k_aload_n hm hl 2 rfl dX0_keep_14 ?_
  refine k_callV (n := 1) (As := [.ref (P 0)]) (rest := []) (wr := [(h, .inr (0, [.ref (hs), vN (3), vN (sz)])), (hs, .inl (G.2 2, 4, .inr (.inr (.inr (.inr (fun j => some (Q j 0))))))), ((Q 0) 0, .inr (4, [.ref ((Q 0) 1), .ref ((Q 0) 3), .ref ((Q 0) 5), .ref ((Q 0) 7), vN (aR 0), vB (aS 0)])), ((Q 0) 1, .inr (2, [.ref ((Q 0) 2)])), ((Q 0) 2, .inl (G.2 0, 4800, .inl (nF (ak 0)))), ((Q 0) 3, .inr (2, [.ref ((Q 0) 4)])), ((Q 0) 4, .inl (G.2 0, 40, .inl (nF (aw 0)))), ((Q 0) 5, .inr (2, [.ref ((Q 0) 6)])), ((Q 0) 6, .inl (G.2 0, 40, .inl (nF (au 0)))), ((Q 0) 7, .inr (2, [.ref ((Q 0) 8)])), ((Q 0) 8, .inl (G.2 0, 3, .inl (nF (ay 0)))), ((Q 1) 0, .inr (4, [.ref ((Q 1) 1), .ref ((Q 1) 3), .ref ((Q 1) 5), .ref ((Q 1) 7), vN (aR 1), vB (aS 1)])), ((Q 1) 1, .inr (2, [.ref ((Q 1) 2)])), ((Q 1) 2, .inl (G.2 0, 4800, .inl (nF (ak 1)))), ((Q 1) 3, .inr (2, [.ref ((Q 1) 4)])), ((Q 1) 4, .inl (G.2 0, 40, .inl (nF (aw 1)))), ((Q 1) 5, .inr (2, [.ref ((Q 1) 6)])), ((Q 1) 6, .inl (G.2 0, 40, .inl (nF (au 1)))), ((Q 1) 7, .inr (2, [.ref ((Q 1) 8)])), ((Q 1) 8, .inl (G.2 0, 3, .inl (nF (ay 1)))), ((Q 2) 0, .inr (4, [.ref ((Q 2) 1), .ref ((Q 2) 3), .ref ((Q 2) 5), .ref ((Q 2) 7), vN (aR 2), vB (aS 2)])), ((Q 2) 1, .inr (2, [.ref ((Q 2) 2)])), ((Q 2) 2, .inl (G.2 0, 4800, .inl (nF (ak 2)))), ((Q 2) 3, .inr (2, [.ref ((Q 2) 4)])), ((Q 2) 4, .inl (G.2 0, 40, .inl (nF (aw 2)))), ((Q 2) 5, .inr (2, [.ref ((Q 2) 6)])), ((Q 2) 6, .inl (G.2 0, 40, .inl (nF (au 2)))), ((Q 2) 7, .inr (2, [.ref ((Q 2) 8)])), ((Q 2) 8, .inl (G.2 0, 3, .inl (nF (ay 2))))]) hm hw hl (c_takeOver l G (Q 3) (ak 3) (aw 3) (au 3) (ay 3) (aR 3) (aS 3) P gk gw gt gy R sp K w y (by first | assumption | omega)) gX0_keep_X4_takeOver rfl (by decide +kernel) ⟨by decide, by decide⟩ (ci := 4) rfl 29 rfl [29, 30, 31, 32, 33, 34, 35, 36, 37, 38, 39, 40, 41, 42, 43, 44, 45, 46] [0, 1, 2, 3, 4, 5, 6, 7, 8, 9, 10, 11, 12, 13, 14, 15, 16, 17, 18, 19, 20, 21, 22, 23, 24, 25, 26, 27, 28] (by decide) rfl rfl (by decide) (by decide) rfl rfl (by simp [Value.category]) ⟨by decide, by decide⟩ dX0_keep_15 (fun v w1 H locs hp hw => ?_)
  obtain ⟨gk3_3, gw3_4, gt3_5, gy3_6, rfl, rfl, hok3_7⟩ := hp
  have hw := hw.sub (ws' := wH2 G h hs Q 3 sz ++ (wPiece G (Q 0) (ak 0) (aw 0) (au 0) (ay 0) (aR 0) (aS 0) ++ (wPiece G (Q 1) (ak 1) (aw 1) (au 1) (ay 1) (aR 1) (aS 1) ++ (wPiece G (Q 2) (ak 2) (aw 2) (au 2) (ay 2) (aR 2) (aS 2) ++ (wPiece G (Q 3) gk3_3 gw3_4 gt3_5 gy3_6 R sp ++ wPiece G P gk gw gt gy R sp))))) [0, 1, 2, 3, 4, 5, 6, 7, 8, 9, 10, 11, 12, 13, 14, 15, 16, 17, 18, 19, 20, 21, 22, 23, 24, 25, 26, 27, 28, 29, 30, 31, 32, 33, 34, 35, 36, 37, 38, 39, 40, 41, 42, 43, 44, 45, 46] (by decide) rfl
  refine W.eq (g2 := F0 m 18 ls []) rfl ?_
  have hok3 := hok3_7
  refine k_aload_n hm hl 1 rfl dX0_keep_18 ?_
  refine k_aload_n hm hl 1 rfl dX0_keep_19 ?_
  refine k_get (T := TX0) hm hw 0 1 i0 rfl rfl (by decide) (by decide +kernel) rfl dX0_keep_20 ?_
  refine k_iconstN hm 1 dX0_keep_23 ?_
  refine k_iaddN hm dX0_keep_24 ?_
  refine k_iconstN hm 4 dX0_keep_25 ?_
  refine k_iremN hm (by omega) dX0_keep_26 ?_
  refine k_put (T := TX0) hm hw 0 1 (wH2 G h hs Q ((3 + 1) % 4) sz ++ (wPiece G (Q 0) (ak 0) (aw 0) (au 0) (ay 0) (aR 0) (aS 0) ++ (wPiece G (Q 1) (ak 1) (aw 1) (au 1) (ay 1) (aR 1) (aS 1) ++ (wPiece G (Q 2) (ak 2) (aw 2) (au 2) (ay 2) (aR 2) (aS 2) ++ (wPiece G (Q 3) gk3_3 gw3_4 gt3_5 gy3_6 R sp ++ wPiece G P gk gw gt gy R sp))))) i0 tyX0 tyX0_ok nmX0 rfl rfl (by decide) (by decide +kernel) rfl (tyX0_ok 1 (by decide)) rfl rfl (Nat.le_of_ble_eq_true rfl) rfl dX0_keep_27 (fun H locs hw => ?_)
  refine k_aload_n hm hl 1 rfl dX0_keep_30 ?_
  refine k_aload_n hm hl 1 rfl dX0_keep_31 ?_
  refine k_get (T := TX0) hm hw 0 2 i0 rfl rfl (by decide) (by decide +kernel) rfl dX0_keep_32 ?_
  refine k_iconstN hm 1 dX0_keep_35 ?_
  refine k_iaddN hm dX0_keep_36 ?_
  refine k_iconstN hm 4 dX0_keep_37 ?_
  refine k_mminN hm hl (by decide +kernel) (by decide +kernel) (by decide +kernel) (by decide +kernel) (by decide) (by simp [Value.category]) (by decide) (by decide) (by omega) dX0_keep_38 ?_
  refine k_put (T := TX0) hm hw 0 2 (wH2 G h hs Q ((3 + 1) % 4) (Nat.min (sz + 1) 4) ++ (wPiece G (Q 0) (ak 0) (aw 0) (au 0) (ay 0) (aR 0) (aS 0) ++ (wPiece G (Q 1) (ak 1) (aw 1) (au 1) (ay 1) (aR 1) (aS 1) ++ (wPiece G (Q 2) (ak 2) (aw 2) (au 2) (ay 2) (aR 2) (aS 2) ++ (wPiece G (Q 3) gk3_3 gw3_4 gt3_5 gy3_6 R sp ++ wPiece G P gk gw gt gy R sp))))) i0 tyX0 tyX0_ok nmX0 rfl rfl (by decide) (by decide +kernel) rfl (tyX0_ok 2 (by decide)) rfl rfl (Nat.le_of_ble_eq_true rfl) rfl dX0_keep_41 (fun H locs hw => ?_)
  exact k_vret hm hQ rfl hw (⟨_, _, _, _, rfl, rfl, hok3⟩) (by omega) (by omega) dX0_keep_44
set_option maxHeartbeats 4000000 in
set_option maxRecDepth 100000 in
theorem c_keep (l : Launch) (G : kG) (h hs : Nat) (Q : Nat → Nat → Nat) (ak aw au ay : Nat → Nat → Nat) (aR : Nat → Nat) (aS : Nat → Bool) (nx sz : Nat) (P gk gw gt gy : Nat → Nat) (R : Nat) (sp : Bool) (K : Nat → Nat → Nat) (w y : Nat → Nat) (sv : Nat → PSt) (hho : HOk ak aw au ay aR aS nx sz sv) (hok : POk gk gw gt gy R K w y) :
    kCM l yX0_keep wsX0_keep 3 68 0 0 G [.ref h, .ref (P 0)] (wHist G h hs Q ak aw au ay aR aS nx sz ++ wPiece G P gk gw gt gy R sp) (fun v u => ∃ (ak2 aw2 au2 ay2 : Nat → Nat → Nat) (aR2 : Nat → Nat) (aS2 : Nat → Bool), v = none ∧ u = wHist G h hs Q ak2 aw2 au2 ay2 aR2 aS2 ((nx + 1) % 4) (Nat.min (sz + 1) 4) ++ wPiece G P gk gw gt gy R sp ∧ HOk ak2 aw2 au2 ay2 aR2 aS2 ((nx + 1) % 4) (Nat.min (sz + 1) 4) (svPush (R, sp, K, w, y) sv)) := by
  have h4 := hho.1
  rcases (show nx = 0 ∨ nx = 1 ∨ nx = 2 ∨ nx = 3 by omega) with rfl | rfl | rfl | rfl
  · refine (c_keep_0 l G h hs Q ak aw au ay aR aS sz P gk gw gt gy R sp K w y hho.2.1 hok).post ?_
    rintro v u ⟨gk3, gw3, gt3, gy3, rfl, rfl, h3⟩
    exact ⟨_, _, _, _, _, _, rfl, rfl, HOk_keep (sp := sp) hho h3⟩
  · refine (c_keep_1 l G h hs Q ak aw au ay aR aS sz P gk gw gt gy R sp K w y hho.2.1 hok).post ?_
    rintro v u ⟨gk3, gw3, gt3, gy3, rfl, rfl, h3⟩
    exact ⟨_, _, _, _, _, _, rfl, rfl, HOk_keep (sp := sp) hho h3⟩
  · refine (c_keep_2 l G h hs Q ak aw au ay aR aS sz P gk gw gt gy R sp K w y hho.2.1 hok).post ?_
    rintro v u ⟨gk3, gw3, gt3, gy3, rfl, rfl, h3⟩
    exact ⟨_, _, _, _, _, _, rfl, rfl, HOk_keep (sp := sp) hho h3⟩
  · refine (c_keep_3 l G h hs Q ak aw au ay aR aS sz P gk gw gt gy R sp K w y hho.2.1 hok).post ?_
    rintro v u ⟨gk3, gw3, gt3, gy3, rfl, rfl, h3⟩
    exact ⟨_, _, _, _, _, _, rfl, rfl, HOk_keep (sp := sp) hho h3⟩
