/-- the law's way to the distances -/
def dLw (k : Nat → Nat) (i : Nat) (fi la : Int) (fa ne : Nat) : Prop := (fi = -1 ∧ la = -1 ∧ fa = 0 ∧ ne = 999 ∧ ∀ j, j < i → k j = 0) ∨
  ∃ a b cn : Nat, fi = (a : Int) ∧ la = (b : Int) ∧ dSome k true i a b fa ∧ dSome k false i a b cn ∧ ne = (if cn = 0 then 999 else cn) ∧ (fa ≤ 120 ∧ cn ≤ 120) ∧ (a = b → cnt k 1 i + cnt k 2 i = 1) ∧ (a ≠ b → 2 ≤ cnt k 1 i + cnt k 2 i)
theorem dLw_0 (k : Nat → Nat) : dLw k 0 (-1) (-1) 0 999 := Or.inl ⟨rfl, rfl, rfl, rfl, fun j q => absurd q (by omega)⟩
theorem cnt_z {k : Nat → Nat} {i : Nat} (h : k i = 0) : cnt k 1 (i + 1) + cnt k 2 (i + 1) = cnt k 1 i + cnt k 2 i := by
  simp only [cnt]; rw [h]; simp
theorem cnt_p {k : Nat → Nat} {i : Nat} (h : k i ≠ 0) (h2 : k i ≤ 2) : cnt k 1 (i + 1) + cnt k 2 (i + 1) = cnt k 1 i + cnt k 2 i + 1 := by
  simp only [cnt]
  rcases (show k i = 1 ∨ k i = 2 by omega) with q | q <;> rw [q] <;> simp <;> omega
theorem dLw_skip {k : Nat → Nat} {i : Nat} {fi la : Int} {fa ne : Nat} (h : dLw k i fi la fa ne) (hk : k i = 0) : dLw k (i + 1) fi la fa ne := by
  rcases h with ⟨h1, h2, h3, h4, h5⟩ | ⟨a, b, cn, h1, h2, h3, h4, h5, h6, h7, h8⟩
  · exact Or.inl ⟨h1, h2, h3, h4, fun j q => by rcases Nat.lt_or_ge j i with z | z; exact h5 j z; rw [show j = i by omega]; exact hk⟩
  · exact Or.inr ⟨a, b, cn, h1, h2, dSome_skip h3 hk, dSome_skip h4 hk, h5, h6, by rw [cnt_z hk]; exact h7, by rw [cnt_z hk]; exact h8⟩
theorem dLw_first {k : Nat → Nat} {i : Nat} (h : ∀ j, j < i → k j = 0) (hk : k i ≠ 0) (h2 : k i ≤ 2) : dLw k (i + 1) (i : Int) (i : Int) 0 999 := by
  have c1 : cnt k 1 i = 0 := cnt_none (fun j q => by rw [h j q]; decide)
  have c2 : cnt k 2 i = 0 := cnt_none (fun j q => by rw [h j q]; decide)
  exact Or.inr ⟨i, i, 0, rfl, rfl, dSome_0 hk h, dSome_0 hk h, rfl, by omega, fun _ => by rw [cnt_p hk h2, c1, c2], fun q => absurd rfl q⟩
theorem dLw_rng {k : Nat → Nat} {i : Nat} {fi la : Int} {fa ne : Nat} (h : dLw k i fi la fa ne) (hi : i ≤ 120) : (-1 ≤ fi ∧ fi ≤ 120) ∧ (-1 ≤ la ∧ la ≤ 120) ∧ fa ≤ 120 ∧ ne ≤ 999 := by
  rcases h with ⟨h1, h2, h3, h4, h5⟩ | ⟨a, b, cn, h1, h2, h3, h4, h5, h6, h7, h8⟩
  · omega
  · have hb : b < i := h3.2.1
    have hab : a ≤ b := h3.1
    have : ne ≤ 999 := by rw [h5]; split <;> omega
    omega
theorem dLw_add {k : Nat → Nat} {i a b fa cn ne : Nat} (h3 : dSome k true i a b fa) (h4 : dSome k false i a b cn) (h5 : ne = (if cn = 0 then 999 else cn)) (h6 : fa ≤ 120 ∧ cn ≤ 120) (h7 : a = b → cnt k 1 i + cnt k 2 i = 1) (h8 : a ≠ b → 2 ≤ cnt k 1 i + cnt k 2 i) (hk : k i ≠ 0) (h2 : k i ≤ 2) (hi : i < 120) {fa2 ne2 : Nat} (e1 : fa2 = if fa < i - b then i - b else fa) (e2 : ne2 = if i - b < ne then i - b else ne) : dLw k (i + 1) (a : Int) (i : Int) fa2 ne2 := by
  have hb : b < i := h3.2.1
  have hab : a ≤ b := h3.1
  have x1 : Nat.max fa (i - b) = max fa (i - b) := rfl
  have x2 : Nat.min cn (i - b) = min cn (i - b) := rfl
  have f1 : fur fa (i - b) true = fa2 := by
    unfold fur; rw [if_pos rfl, x1, e1]
    split <;> split <;> omega
  have z : fur cn (i - b) false = if cn = 0 then i - b else min cn (i - b) := by
    unfold fur; rw [if_neg (show ¬ (false = true) by decide), x2]
  have f2 : ne2 = if fur cn (i - b) false = 0 then 999 else fur cn (i - b) false := by
    rw [e2, h5]
    by_cases q : cn = 0
    · rw [if_pos q] at z
      rw [if_pos q, z, if_pos (by omega), if_neg (by omega)]
    · rw [if_neg q] at z
      rw [if_neg q, z, if_neg (show ¬ (min cn (i - b) = 0) by omega)]
      split <;> omega
  have l1 := fur_le (c := fa) (f := i - b) (g := true) h6.1 (by omega)
  have l2 := fur_le (c := cn) (f := i - b) (g := false) h6.2 (by omega)
  rw [f1] at l1
  refine Or.inr ⟨a, i, fur cn (i - b) false, rfl, rfl, by rw [← f1]; exact dSome_add h3 hk, dSome_add h4 hk, f2, ⟨l1, l2⟩, fun q => by omega, fun _ => ?_⟩
  rw [cnt_p hk h2]
  by_cases q : a = b
  · have := h7 q; omega
  · have := h8 q; omega
theorem dLw_end {k : Nat → Nat} {m a b fa cn ne : Nat} (h3 : dSome k true m a b fa) (h4 : dSome k false m a b cn) (h5 : ne = (if cn = 0 then 999 else cn)) (hm : m ≤ 120) (h6 : fa ≤ 120 ∧ cn ≤ 120) (hab : a ≠ b) : dsF k m true = (if fa < a + m - b then a + m - b else fa) ∧ dsF k m false = (if a + m - b < ne then a + m - b else ne) := by
  have hb : b < m := h3.2.1
  have hle : a ≤ b := h3.1
  have x1 : Nat.max fa (a + m - b) = max fa (a + m - b) := rfl
  have x2 : Nat.min cn (a + m - b) = min cn (a + m - b) := rfl
  rw [← dsF_of ((dSome_end h3).2 hab), ← dsF_of ((dSome_end h4).2 hab)]
  have z : fur cn (a + m - b) false = if cn = 0 then a + m - b else min cn (a + m - b) := by
    unfold fur; rw [if_neg (show ¬ (false = true) by decide), x2]
  constructor
  · unfold fur; rw [if_pos rfl, x1]; split <;> split <;> omega
  · rw [z, h5]
    by_cases q : cn = 0
    · rw [if_pos q, if_pos q, if_pos (by omega)]
    · rw [if_neg q, if_neg q]; split <;> omega
theorem miN_eq {k : Nat → Nat} {m mi : Nat} (h : mi ≤ 1 ∧ (mi = 1 ↔ ∀ j, j < m → k j = k (m - 1 - j))) : miN k m = mi := by
  unfold miN
  by_cases q : isMi k m
  · rw [if_pos q]; have := h.2.mpr q; omega
  · rw [if_neg q]; have : ¬ mi = 1 := fun z => q (h.2.mp z); omega
theorem rv_10 {K : Nat → Nat → Nat} {w y : Nat → Nat} {r : Nat} : rv K w y r 10 = (sumM (K r) (w r) : Int) - ((sumM (K 0) (w 0) * (r + 1) : Nat) : Int) := by
  unfold rv; rw [if_pos rfl, Int.natCast_mul]
set_option maxHeartbeats 16000000 in
set_option maxRecDepth 100000 in
theorem c_l_isRound (l : Launch) (G : kG) (o : Nat) (h : Nat) (T : Nat → Nat) (L : Nat → Nat) (M : Nat → Nat) (mf : Nat → Nat) (P : Nat → Nat) (gk : Nat → Nat) (gw : Nat → Nat) (gt : Nat → Nat) (gy : Nat → Nat) (R : Nat) (sp : Bool) (K : Nat → Nat → Nat) (w : Nat → Nat) (y : Nat → Nat) (ga : Nat) (gf : Nat → Nat) (ma : Nat) (mg : Nat → Nat) (wa : Nat) (wf : Nat → Int64) (r : Nat) (htr : l.stackTraces = false) (hok : POk gk gw gt gy R K w y) (hlo : LOk gf mg wf R sp K w y) (hr : r < R) : kCX l yL_isRound wsL_isRound 9 156 2 12 G [.ref (o), .ref (ga), .ref (ma), .ref (wa), vN (r)] (wMain G o P h T L M ++ (wPiece G P gk gw gt gy R sp ++ (wMk G M mf ++ ([(ga, .inl (G.2 0, 5, .inl (nF gf)))] ++ ([(ma, .inl (G.2 0, 16, .inl (nF mg)))] ++ [(wa, .inl (G.2 1, 64, .inr (.inl wf)))]))))) (fun vv uu => ∃ (mf2 : Nat → Nat), vv = some (vB (true)) ∧ uu = wMain G o P h T L M ++ (wPiece G P gk gw gt gy R sp ++ (wMk G M mf2 ++ ([(ga, .inl (G.2 0, 5, .inl (nF gf)))] ++ ([(ma, .inl (G.2 0, 16, .inl (nF mg)))] ++ [(wa, .inl (G.2 1, 64, .inr (.inl wf)))]))))) := by
  refine kCX.ofC (cc := cL_isRound) (maxL := 19) (ret := (some .boolean)) (by decide) rfl (Nat.le_of_ble_eq_true rfl) ?_
  intro p e s m args below meth c A ls Qz hQ hxs hst hm hw hl
  have hl : lv_has ls 19 [(0, .ref (o)), (1, .ref (ga)), (2, .ref (ma)), (3, .ref (wa)), (4, vN (r))] := hl
  have hk := hlo.2 r hr
  have hb := hok.1.2.1 r hr
  have hR := hok.1.1
  have hR14 := hlo.1.1
  have hy0 : gf 2 = y 0 := hlo.1.2.2.2 0 (by omega)
  have hy1 : gf 3 = y 1 := hlo.1.2.2.2 1 (by omega)
  have hy2 : gf 4 = y 2 := hlo.1.2.2.2 2 (by omega)
  refine k_aload_n hm hl 2 rfl dL_isRound_0 ?_
  refine k_aload_n hm hl 3 rfl dL_isRound_1 ?_
  refine k_iload hm hl 4 rfl dL_isRound_2 ?_
  refine k_callSr (n := 3) (As := [.ref (ma), .ref (wa), vN (r)]) (rest := []) hm hw hl (c_l_total l G ma mg wa wf r (K r) (w r) hk.1 hk.2 (by omega)) gL_isRound_L_total rfl (by decide +kernel) ⟨by decide, by decide⟩ [14, 15] (by decide) rfl rfl rfl (by simp [Value.category]) ⟨(by show _ ≤ 2; omega), (by show _ ≤ 12; omega)⟩ dL_isRound_4 (fun v H locs hp hw => ?_)
  obtain rfl := hp
  refine W.eq (g2 := F0 m 7 ls [vN (sumM (K r) (w r))]) rfl ?_
  refine k_istore hm hl [(5, vN (sumM (K r) (w r))), (0, .ref (o)), (1, .ref (ga)), (2, .ref (ma)), (3, .ref (wa)), (4, vN (r))] (by decide) rfl dL_isRound_7 (fun ls hl => ?_)
  refine k_iconstN hm 0 dL_isRound_9 ?_
  refine k_istore hm hl [(6, vN (0)), (5, vN (sumM (K r) (w r))), (0, .ref (o)), (1, .ref (ga)), (2, .ref (ma)), (3, .ref (wa)), (4, vN (r))] (by decide) rfl dL_isRound_10 (fun ls hl => ?_)
  refine k_iconstN hm 0 dL_isRound_12 ?_
  refine k_istore hm hl [(7, vN (0)), (6, vN (0)), (5, vN (sumM (K r) (w r))), (0, .ref (o)), (1, .ref (ga)), (2, .ref (ma)), (3, .ref (wa)), (4, vN (r))] (by decide) rfl dL_isRound_13 (fun ls hl => ?_)
  refine k_iconst (n := -1) hm dL_isRound_15 ?_
  refine k_istore hm hl [(8, vZ (-1)), (7, vN (0)), (6, vN (0)), (5, vN (sumM (K r) (w r))), (0, .ref (o)), (1, .ref (ga)), (2, .ref (ma)), (3, .ref (wa)), (4, vN (r))] (by decide) rfl dL_isRound_16 (fun ls hl => ?_)
  refine k_iconst (n := -1) hm dL_isRound_18 ?_
  refine k_istore hm hl [(9, vZ (-1)), (8, vZ (-1)), (7, vN (0)), (6, vN (0)), (5, vN (sumM (K r) (w r))), (0, .ref (o)), (1, .ref (ga)), (2, .ref (ma)), (3, .ref (wa)), (4, vN (r))] (by decide) rfl dL_isRound_19 (fun ls hl => ?_)
  refine k_iconstN hm 0 dL_isRound_21 ?_
  refine k_istore hm hl [(10, vN (0)), (9, vZ (-1)), (8, vZ (-1)), (7, vN (0)), (6, vN (0)), (5, vN (sumM (K r) (w r))), (0, .ref (o)), (1, .ref (ga)), (2, .ref (ma)), (3, .ref (wa)), (4, vN (r))] (by decide) rfl dL_isRound_22 (fun ls hl => ?_)
  refine k_sipushN hm 999 dL_isRound_24 rfl ?_
  refine k_istore hm hl [(11, vN (999)), (10, vN (0)), (9, vZ (-1)), (8, vZ (-1)), (7, vN (0)), (6, vN (0)), (5, vN (sumM (K r) (w r))), (0, .ref (o)), (1, .ref (ga)), (2, .ref (ma)), (3, .ref (wa)), (4, vN (r))] (by decide) rfl dL_isRound_27 (fun ls hl => ?_)
  refine k_iconstN hm 1 dL_isRound_29 ?_
  refine k_istore hm hl [(12, vN (1)), (11, vN (999)), (10, vN (0)), (9, vZ (-1)), (8, vZ (-1)), (7, vN (0)), (6, vN (0)), (5, vN (sumM (K r) (w r))), (0, .ref (o)), (1, .ref (ga)), (2, .ref (ma)), (3, .ref (wa)), (4, vN (r))] (by decide) rfl dL_isRound_30 (fun ls hl => ?_)
  refine k_iconstN hm 1 dL_isRound_32 ?_
  refine k_istore hm hl [(13, vN (1)), (12, vN (1)), (11, vN (999)), (10, vN (0)), (9, vZ (-1)), (8, vZ (-1)), (7, vN (0)), (6, vN (0)), (5, vN (sumM (K r) (w r))), (0, .ref (o)), (1, .ref (ga)), (2, .ref (ma)), (3, .ref (wa)), (4, vN (r))] (by decide) rfl dL_isRound_33 (fun ls hl => ?_)
  refine k_iconstN hm 0 dL_isRound_35 ?_
  refine k_istore hm hl [(14, vN (0)), (13, vN (1)), (12, vN (1)), (11, vN (999)), (10, vN (0)), (9, vZ (-1)), (8, vZ (-1)), (7, vN (0)), (6, vN (0)), (5, vN (sumM (K r) (w r))), (0, .ref (o)), (1, .ref (ga)), (2, .ref (ma)), (3, .ref (wa)), (4, vN (r))] (by decide) rfl dL_isRound_36 (fun ls hl => ?_)
  have loop_38 : ∀ (fu : Nat) (fi : Int) (la : Int) (fa : Nat) (ne : Nat) (mi : Nat) (i : Nat) (hi : i ≤ w r) (hd : dLw (K r) i fi la fa ne) (hmi : mi ≤ 1 ∧ (mi = 1 ↔ ∀ j, j < i → K r j = K r (w r - 1 - j))) (H : Heap) (locs : List Loc) (ls : Array Slot), w r - i < fu → kW G A s (wMain G o P h T L M ++ (wPiece G P gk gw gt gy R sp ++ (wMk G M mf ++ ([(ga, .inl (G.2 0, 5, .inl (nF gf)))] ++ ([(ma, .inl (G.2 0, 16, .inl (nF mg)))] ++ [(wa, .inl (G.2 1, 64, .inr (.inl wf)))]))))) H locs → lv_has ls 19 [(0, .ref (o)), (1, .ref (ga)), (2, .ref (ma)), (3, .ref (wa)), (4, vN (r)), (5, vN (sumM (K r) (w r))), (6, vN (cnt (K r) 1 i)), (7, vN (cnt (K r) 2 i)), (8, vZ (fi)), (9, vZ (la)), (10, vN (fa)), (11, vN (ne)), (12, vN (mi)), (13, vN (1)), (14, vN (i))] → W p l e { frames := 9, cells := 2, slots := 12, locals := 156 } s m args below meth c H locs 0 0 Qz (F0 m 38 ls []) := by
    intro fu
    induction fu with
    | zero => intro fi la fa ne mi i hi hd hmi H locs ls hfu; exact absurd hfu (Nat.not_lt_zero _)
    | succ fu ih_38 =>
      intro fi la fa ne mi i hi hd hmi H locs ls hfu hw hl
      refine k_iload hm hl 14 rfl dL_isRound_38 ?_
      refine k_aload_n hm hl 2 rfl dL_isRound_40 ?_
      refine k_iload hm hl 4 rfl dL_isRound_41 ?_
      refine k_ialdN hm hw 14 rfl (by omega) dL_isRound_43 ?_
      refine k_rwV (y := vN (w r)) (by rw [hk.1]) ?_
      refine k_icmpge (tgt := 229) hm dL_isRound_44 (by decide) (by omega) (fun c_2 => ?_) (fun c_2 => ?_)
      · have hiw : i = w r := by omega
        subst hiw
        have hmn := miN_eq hmi
        have hrg := dLw_rng hd (by omega)
        have hc1 := cnt_le (K r) 1 (w r)
        have hc2 := cnt_le (K r) 2 (w r)
        have hyc := yrn_cnt (y := y) (k := K r) (n := w r) hb.2.2
        have join_307 : ∀ (H : Heap) (locs : List Loc) (ls : Array Slot), kW G A s (wMain G o P h T L M ++ (wPiece G P gk gw gt gy R sp ++ (wMk G M mf ++ ([(ga, .inl (G.2 0, 5, .inl (nF gf)))] ++ ([(ma, .inl (G.2 0, 16, .inl (nF mg)))] ++ [(wa, .inl (G.2 1, 64, .inr (.inl wf)))]))))) H locs → lv_has ls 19 [(0, .ref (o)), (1, .ref (ga)), (2, .ref (ma)), (3, .ref (wa)), (4, vN (r)), (5, vN (sumM (K r) (w r))), (6, vN (cnt (K r) 1 (w r))), (7, vN (cnt (K r) 2 (w r))), (10, vN (dsF (K r) (w r) true)), (11, vN (dsF (K r) (w r) false)), (12, vN (mi)), (13, vN (1))] → W p l e { frames := 9, cells := 2, slots := 12, locals := 156 } s m args below meth c H locs 0 0 Qz (F0 m 307 ls []) := by
          intro  H locs ls hw hl
          refine k_aload_n hm hl 2 rfl dL_isRound_307 ?_
          refine k_iload hm hl 4 rfl dL_isRound_308 ?_
          refine k_ialdN hm hw 14 rfl (by omega) dL_isRound_310 ?_
          refine k_rwV (y := vN (w r)) (by rw [hk.1]) ?_
          refine k_iload hm hl 6 rfl dL_isRound_311 ?_
          refine k_isubN hm (by omega) dL_isRound_313 ?_
          refine k_iload hm hl 7 rfl dL_isRound_314 ?_
          refine k_isubN hm (by omega) dL_isRound_316 ?_
          refine k_rwV (y := vN (cnt (K r) 0 (w r))) (congrArg (fun q : Nat => vN q) (show _ = cnt (K r) 0 (w r) from by omega)) ?_
          refine k_istore hm hl [(16, vN (cnt (K r) 0 (w r))), (0, .ref (o)), (1, .ref (ga)), (2, .ref (ma)), (3, .ref (wa)), (4, vN (r)), (5, vN (sumM (K r) (w r))), (6, vN (cnt (K r) 1 (w r))), (7, vN (cnt (K r) 2 (w r))), (10, vN (dsF (K r) (w r) true)), (11, vN (dsF (K r) (w r) false)), (12, vN (mi)), (13, vN (1))] (by decide) rfl dL_isRound_317 (fun ls hl => ?_)
          refine k_iload hm hl 0 rfl dL_isRound_319 ?_
          refine k_aload_n hm hl 2 rfl dL_isRound_321 ?_
          refine k_iconstN hm 2 dL_isRound_322 ?_
          refine k_ialdN hm hw 13 rfl (by omega) dL_isRound_323 ?_
          refine k_imulN hm dL_isRound_324 ?_
          refine k_iload hm hl 7 rfl dL_isRound_325 ?_
          refine k_aload_n hm hl 2 rfl dL_isRound_327 ?_
          refine k_iconstN hm 3 dL_isRound_328 ?_
          refine k_ialdN hm hw 13 rfl (by omega) dL_isRound_329 ?_
          refine k_imulN hm dL_isRound_330 ?_
          refine k_iaddN hm dL_isRound_331 ?_
          refine k_iload hm hl 8 rfl dL_isRound_332 ?_
          refine k_aload_n hm hl 2 rfl dL_isRound_334 ?_
          refine k_iconstN hm 4 dL_isRound_335 ?_
          refine k_ialdN hm hw 13 rfl (by omega) dL_isRound_336 ?_
          refine k_imulN hm dL_isRound_337 ?_
          refine k_iaddN hm dL_isRound_338 ?_
          refine k_rwV (y := vN (yrn y (K r) (w r))) (by rw [hyc.1, hy0, hy1, hy2]) ?_
          refine k_istore hm hl [(17, vN (yrn y (K r) (w r))), (16, vN (cnt (K r) 0 (w r))), (0, .ref (o)), (1, .ref (ga)), (2, .ref (ma)), (3, .ref (wa)), (4, vN (r)), (5, vN (sumM (K r) (w r))), (6, vN (cnt (K r) 1 (w r))), (7, vN (cnt (K r) 2 (w r))), (10, vN (dsF (K r) (w r) true)), (11, vN (dsF (K r) (w r) false)), (12, vN (mi)), (13, vN (1))] (by decide) rfl dL_isRound_339 (fun ls hl => ?_)
          have join_375 : ∀ (H : Heap) (locs : List Loc) (ls : Array Slot), kW G A s (wMain G o P h T L M ++ (wPiece G P gk gw gt gy R sp ++ (wMk G M mf ++ ([(ga, .inl (G.2 0, 5, .inl (nF gf)))] ++ ([(ma, .inl (G.2 0, 16, .inl (nF mg)))] ++ [(wa, .inl (G.2 1, 64, .inr (.inl wf)))]))))) H locs → lv_has ls 19 [(0, .ref (o)), (1, .ref (ga)), (2, .ref (ma)), (3, .ref (wa)), (4, vN (r)), (5, vN (sumM (K r) (w r))), (6, vN (cnt (K r) 1 (w r))), (7, vN (cnt (K r) 2 (w r))), (10, vN (dsF (K r) (w r) true)), (11, vN (dsF (K r) (w r) false)), (12, vN (mi)), (13, vN (1)), (16, vN (cnt (K r) 0 (w r))), (17, vN (yrn y (K r) (w r))), (18, vN (1))] → W p l e { frames := 9, cells := 2, slots := 12, locals := 156 } s m args below meth c H locs 0 0 Qz (F0 m 375 ls []) := by
            intro  H locs ls hw hl
            have hr5 := rvN_le hok.1 hr 5
            have hr7 := rvN_le hok.1 hr 7
            have hc0 := cnt_le (K r) 0 (w r)
            have hdt := dsF_le (K r) (w r) true
            have hdf := dsF_le (K r) (w r) false
            have hml := miN_le (K r) (w r)
            have hr5 : stkP K w r ≤ 7200 := hr5
            have hr7 : yrn y (K r) (w r) ≤ 7200 := hr7
            have hp10 : sumM (K 0) (w 0) * (r + 1) ≤ 12 * 41 := Nat.mul_le_mul (tot0_rng hok.1).2 (by omega)
            have h10 := rv_10 (K := K) (w := w) (y := y) (r := r)
            refine k_iload hm hl 11 rfl dL_isRound_375 ?_
            refine k_ifeq (tgt := 580) hm dL_isRound_377 (by decide) (by omega) (fun c_3 => absurd c_3 (by omega)) (fun c_3 => ?_)
            refine k_iload hm hl 14 rfl dL_isRound_380 ?_
            refine k_ifeq (tgt := 580) hm dL_isRound_382 (by decide) (by omega) (fun c_4 => absurd c_4 (by omega)) (fun c_4 => ?_)
            refine k_aload_n hm hl 0 rfl dL_isRound_385 ?_
            refine k_iload hm hl 4 rfl dL_isRound_386 ?_
            refine k_iconstN hm 0 dL_isRound_388 ?_
            refine k_callSX (n := 3) (As := [.ref (o), vN (r), vN (0)]) (rest := []) (wr := [(ga, .inl (G.2 0, 5, .inl (nF gf))), (ma, .inl (G.2 0, 16, .inl (nF mg))), (wa, .inl (G.2 1, 64, .inr (.inl wf)))]) hm hw hl hxs hst (c_w_round_ok l G o h T L M mf P gk gw gt gy R sp K w y r 0 (by first | assumption | omega) (by first | assumption | omega) (by first | assumption | omega)) gL_isRound_L_roundOf rfl (by decide +kernel) ⟨by decide, by decide⟩ [0, 1, 2, 3, 4, 5, 6, 7, 8, 9, 10, 11, 12] [13, 14, 15] (by decide) rfl rfl (by decide) (by decide) rfl rfl (by simp [Value.category]) ⟨(by show _ ≤ 2; omega), (by show _ ≤ 12; omega)⟩ dL_isRound_389 (fun v w1 H locs hp hw => ?_)
            obtain ⟨mf2_6, rfl, rfl⟩ := hp
            have hw := hw.sub (ws' := wMain G o P h T L M ++ (wPiece G P gk gw gt gy R sp ++ (wMk G M mf2_6 ++ ([(ga, .inl (G.2 0, 5, .inl (nF gf)))] ++ ([(ma, .inl (G.2 0, 16, .inl (nF mg)))] ++ [(wa, .inl (G.2 1, 64, .inr (.inl wf)))]))))) [3, 4, 5, 6, 7, 8, 9, 10, 11, 12, 13, 14, 15, 0, 1, 2] (by decide) rfl
            refine W.eq (g2 := F0 m 392 ls [vZ (rv K w y r 0)]) rfl ?_
            refine k_rwV (y := vN (sumM (K r) (w r))) (show Value.int (iI (rv K w y r 0)) = Value.int (iI ((sumM (K r) (w r) : Nat) : Int)) from congrArg (fun q : Int => Value.int (iI q)) (rv_lt (by decide))) ?_
            refine k_iload hm hl 5 rfl dL_isRound_392 ?_
            refine k_icmpne (tgt := 580) hm dL_isRound_394 (by decide) (by omega) (fun c_7 => absurd c_7 (by omega)) (fun c_7 => ?_)
            refine k_aload_n hm hl 0 rfl dL_isRound_397 ?_
            refine k_iload hm hl 4 rfl dL_isRound_398 ?_
            refine k_iconstN hm 1 dL_isRound_400 ?_
            refine k_callSX (n := 3) (As := [.ref (o), vN (r), vN (1)]) (rest := []) (wr := [(ga, .inl (G.2 0, 5, .inl (nF gf))), (ma, .inl (G.2 0, 16, .inl (nF mg))), (wa, .inl (G.2 1, 64, .inr (.inl wf)))]) hm hw hl hxs hst (c_w_round_ok l G o h T L M mf2_6 P gk gw gt gy R sp K w y r 1 (by first | assumption | omega) (by first | assumption | omega) (by first | assumption | omega)) gL_isRound_L_roundOf rfl (by decide +kernel) ⟨by decide, by decide⟩ [0, 1, 2, 3, 4, 5, 6, 7, 8, 9, 10, 11, 12] [13, 14, 15] (by decide) rfl rfl (by decide) (by decide) rfl rfl (by simp [Value.category]) ⟨(by show _ ≤ 2; omega), (by show _ ≤ 12; omega)⟩ dL_isRound_401 (fun v w1 H locs hp hw => ?_)
            obtain ⟨mf2_9, rfl, rfl⟩ := hp
            have hw := hw.sub (ws' := wMain G o P h T L M ++ (wPiece G P gk gw gt gy R sp ++ (wMk G M mf2_9 ++ ([(ga, .inl (G.2 0, 5, .inl (nF gf)))] ++ ([(ma, .inl (G.2 0, 16, .inl (nF mg)))] ++ [(wa, .inl (G.2 1, 64, .inr (.inl wf)))]))))) [3, 4, 5, 6, 7, 8, 9, 10, 11, 12, 13, 14, 15, 0, 1, 2] (by decide) rfl
            refine W.eq (g2 := F0 m 404 ls [vZ (rv K w y r 1)]) rfl ?_
            refine k_rwV (y := vN (w r)) (show Value.int (iI (rv K w y r 1)) = Value.int (iI ((w r : Nat) : Int)) from congrArg (fun q : Int => Value.int (iI q)) (rv_lt (by decide))) ?_
            refine k_aload_n hm hl 2 rfl dL_isRound_404 ?_
            refine k_iload hm hl 4 rfl dL_isRound_405 ?_
            refine k_ialdN hm hw 14 rfl (by omega) dL_isRound_407 ?_
            refine k_rwV (y := vN (w r)) (by rw [hk.1]) ?_
            refine k_icmpne (tgt := 580) hm dL_isRound_408 (by decide) (by omega) (fun c_10 => absurd c_10 (by omega)) (fun c_10 => ?_)
            refine k_aload_n hm hl 0 rfl dL_isRound_411 ?_
            refine k_iload hm hl 4 rfl dL_isRound_412 ?_
            refine k_iconstN hm 2 dL_isRound_414 ?_
            refine k_callSX (n := 3) (As := [.ref (o), vN (r), vN (2)]) (rest := []) (wr := [(ga, .inl (G.2 0, 5, .inl (nF gf))), (ma, .inl (G.2 0, 16, .inl (nF mg))), (wa, .inl (G.2 1, 64, .inr (.inl wf)))]) hm hw hl hxs hst (c_w_round_ok l G o h T L M mf2_9 P gk gw gt gy R sp K w y r 2 (by first | assumption | omega) (by first | assumption | omega) (by first | assumption | omega)) gL_isRound_L_roundOf rfl (by decide +kernel) ⟨by decide, by decide⟩ [0, 1, 2, 3, 4, 5, 6, 7, 8, 9, 10, 11, 12] [13, 14, 15] (by decide) rfl rfl (by decide) (by decide) rfl rfl (by simp [Value.category]) ⟨(by show _ ≤ 2; omega), (by show _ ≤ 12; omega)⟩ dL_isRound_415 (fun v w1 H locs hp hw => ?_)
            obtain ⟨mf2_12, rfl, rfl⟩ := hp
            have hw := hw.sub (ws' := wMain G o P h T L M ++ (wPiece G P gk gw gt gy R sp ++ (wMk G M mf2_12 ++ ([(ga, .inl (G.2 0, 5, .inl (nF gf)))] ++ ([(ma, .inl (G.2 0, 16, .inl (nF mg)))] ++ [(wa, .inl (G.2 1, 64, .inr (.inl wf)))]))))) [3, 4, 5, 6, 7, 8, 9, 10, 11, 12, 13, 14, 15, 0, 1, 2] (by decide) rfl
            refine W.eq (g2 := F0 m 418 ls [vZ (rv K w y r 2)]) rfl ?_
            refine k_rwV (y := vN (cnt (K r) 0 (w r))) (show Value.int (iI (rv K w y r 2)) = Value.int (iI ((cnt (K r) 0 (w r) : Nat) : Int)) from congrArg (fun q : Int => Value.int (iI q)) (rv_lt (by decide))) ?_
            refine k_iload hm hl 12 rfl dL_isRound_418 ?_
            refine k_icmpne (tgt := 580) hm dL_isRound_420 (by decide) (by omega) (fun c_13 => absurd c_13 (by omega)) (fun c_13 => ?_)
            refine k_aload_n hm hl 0 rfl dL_isRound_423 ?_
            refine k_iload hm hl 4 rfl dL_isRound_424 ?_
            refine k_iconstN hm 3 dL_isRound_426 ?_
            refine k_callSX (n := 3) (As := [.ref (o), vN (r), vN (3)]) (rest := []) (wr := [(ga, .inl (G.2 0, 5, .inl (nF gf))), (ma, .inl (G.2 0, 16, .inl (nF mg))), (wa, .inl (G.2 1, 64, .inr (.inl wf)))]) hm hw hl hxs hst (c_w_round_ok l G o h T L M mf2_12 P gk gw gt gy R sp K w y r 3 (by first | assumption | omega) (by first | assumption | omega) (by first | assumption | omega)) gL_isRound_L_roundOf rfl (by decide +kernel) ⟨by decide, by decide⟩ [0, 1, 2, 3, 4, 5, 6, 7, 8, 9, 10, 11, 12] [13, 14, 15] (by decide) rfl rfl (by decide) (by decide) rfl rfl (by simp [Value.category]) ⟨(by show _ ≤ 2; omega), (by show _ ≤ 12; omega)⟩ dL_isRound_427 (fun v w1 H locs hp hw => ?_)
            obtain ⟨mf2_15, rfl, rfl⟩ := hp
            have hw := hw.sub (ws' := wMain G o P h T L M ++ (wPiece G P gk gw gt gy R sp ++ (wMk G M mf2_15 ++ ([(ga, .inl (G.2 0, 5, .inl (nF gf)))] ++ ([(ma, .inl (G.2 0, 16, .inl (nF mg)))] ++ [(wa, .inl (G.2 1, 64, .inr (.inl wf)))]))))) [3, 4, 5, 6, 7, 8, 9, 10, 11, 12, 13, 14, 15, 0, 1, 2] (by decide) rfl
            refine W.eq (g2 := F0 m 430 ls [vZ (rv K w y r 3)]) rfl ?_
            refine k_rwV (y := vN (cnt (K r) 1 (w r))) (show Value.int (iI (rv K w y r 3)) = Value.int (iI ((cnt (K r) 1 (w r) : Nat) : Int)) from congrArg (fun q : Int => Value.int (iI q)) (rv_lt (by decide))) ?_
            refine k_iload hm hl 6 rfl dL_isRound_430 ?_
            refine k_icmpne (tgt := 580) hm dL_isRound_432 (by decide) (by omega) (fun c_16 => absurd c_16 (by omega)) (fun c_16 => ?_)
            refine k_aload_n hm hl 0 rfl dL_isRound_435 ?_
            refine k_iload hm hl 4 rfl dL_isRound_436 ?_
            refine k_iconstN hm 4 dL_isRound_438 ?_
            refine k_callSX (n := 3) (As := [.ref (o), vN (r), vN (4)]) (rest := []) (wr := [(ga, .inl (G.2 0, 5, .inl (nF gf))), (ma, .inl (G.2 0, 16, .inl (nF mg))), (wa, .inl (G.2 1, 64, .inr (.inl wf)))]) hm hw hl hxs hst (c_w_round_ok l G o h T L M mf2_15 P gk gw gt gy R sp K w y r 4 (by first | assumption | omega) (by first | assumption | omega) (by first | assumption | omega)) gL_isRound_L_roundOf rfl (by decide +kernel) ⟨by decide, by decide⟩ [0, 1, 2, 3, 4, 5, 6, 7, 8, 9, 10, 11, 12] [13, 14, 15] (by decide) rfl rfl (by decide) (by decide) rfl rfl (by simp [Value.category]) ⟨(by show _ ≤ 2; omega), (by show _ ≤ 12; omega)⟩ dL_isRound_439 (fun v w1 H locs hp hw => ?_)
            obtain ⟨mf2_18, rfl, rfl⟩ := hp
            have hw := hw.sub (ws' := wMain G o P h T L M ++ (wPiece G P gk gw gt gy R sp ++ (wMk G M mf2_18 ++ ([(ga, .inl (G.2 0, 5, .inl (nF gf)))] ++ ([(ma, .inl (G.2 0, 16, .inl (nF mg)))] ++ [(wa, .inl (G.2 1, 64, .inr (.inl wf)))]))))) [3, 4, 5, 6, 7, 8, 9, 10, 11, 12, 13, 14, 15, 0, 1, 2] (by decide) rfl
            refine W.eq (g2 := F0 m 442 ls [vZ (rv K w y r 4)]) rfl ?_
            refine k_rwV (y := vN (cnt (K r) 2 (w r))) (show Value.int (iI (rv K w y r 4)) = Value.int (iI ((cnt (K r) 2 (w r) : Nat) : Int)) from congrArg (fun q : Int => Value.int (iI q)) (rv_lt (by decide))) ?_
            refine k_iload hm hl 7 rfl dL_isRound_442 ?_
            refine k_icmpne (tgt := 580) hm dL_isRound_444 (by decide) (by omega) (fun c_19 => absurd c_19 (by omega)) (fun c_19 => ?_)
            refine k_aload_n hm hl 0 rfl dL_isRound_447 ?_
            refine k_iload hm hl 4 rfl dL_isRound_448 ?_
            refine k_iconstN hm 5 dL_isRound_450 ?_
            refine k_callSX (n := 3) (As := [.ref (o), vN (r), vN (5)]) (rest := []) (wr := [(ga, .inl (G.2 0, 5, .inl (nF gf))), (ma, .inl (G.2 0, 16, .inl (nF mg))), (wa, .inl (G.2 1, 64, .inr (.inl wf)))]) hm hw hl hxs hst (c_w_round_ok l G o h T L M mf2_18 P gk gw gt gy R sp K w y r 5 (by first | assumption | omega) (by first | assumption | omega) (by first | assumption | omega)) gL_isRound_L_roundOf rfl (by decide +kernel) ⟨by decide, by decide⟩ [0, 1, 2, 3, 4, 5, 6, 7, 8, 9, 10, 11, 12] [13, 14, 15] (by decide) rfl rfl (by decide) (by decide) rfl rfl (by simp [Value.category]) ⟨(by show _ ≤ 2; omega), (by show _ ≤ 12; omega)⟩ dL_isRound_451 (fun v w1 H locs hp hw => ?_)
            obtain ⟨mf2_21, rfl, rfl⟩ := hp
            have hw := hw.sub (ws' := wMain G o P h T L M ++ (wPiece G P gk gw gt gy R sp ++ (wMk G M mf2_21 ++ ([(ga, .inl (G.2 0, 5, .inl (nF gf)))] ++ ([(ma, .inl (G.2 0, 16, .inl (nF mg)))] ++ [(wa, .inl (G.2 1, 64, .inr (.inl wf)))]))))) [3, 4, 5, 6, 7, 8, 9, 10, 11, 12, 13, 14, 15, 0, 1, 2] (by decide) rfl
            refine W.eq (g2 := F0 m 454 ls [vZ (rv K w y r 5)]) rfl ?_
            refine k_rwV (y := vN (stkP K w r)) (show Value.int (iI (rv K w y r 5)) = Value.int (iI ((stkP K w r : Nat) : Int)) from congrArg (fun q : Int => Value.int (iI q)) (rv_lt (by decide))) ?_
            refine k_aload_n hm hl 2 rfl dL_isRound_454 ?_
            refine k_aload_n hm hl 3 rfl dL_isRound_455 ?_
            refine k_iload hm hl 4 rfl dL_isRound_456 ?_
            refine k_callSr (n := 3) (As := [.ref (ma), .ref (wa), vN (r)]) (rest := [vN (stkP K w r)]) hm hw hl (c_l_stacked l G ma mg wa wf r (K r) (w r) (K (r - 1)) (w (r - 1)) hk.1 hk.2 (by omega) (by rcases Nat.eq_zero_or_pos r with q | q; exact Or.inl q; exact Or.inr ⟨(hlo.2 (r - 1) (by omega)).1, (hlo.2 (r - 1) (by omega)).2, by have z := hok.1.2.2.1 (r - 1) (by omega); rw [show r - 1 + 1 = r by omega] at z; exact z, (hok.1.2.1 (r - 1) (by omega)).2.1.2⟩)) gL_isRound_L_stacked rfl (by decide +kernel) ⟨by decide, by decide⟩ [14, 15] (by decide) rfl rfl rfl (by simp [Value.category]) ⟨(by show _ ≤ 2; omega), (by show _ ≤ 12; omega)⟩ dL_isRound_458 (fun v H locs hp hw => ?_)
            obtain rfl := hp
            refine W.eq (g2 := F0 m 461 ls [vN (if r = 0 then 0 else nstk (mkF (K (r - 1)) (w (r - 1))) (K r) (w r)), vN (stkP K w r)]) rfl ?_
            refine k_rwV (y := vN (stkP K w r)) rfl ?_
            refine k_icmpne (tgt := 580) hm dL_isRound_461 (by decide) (by omega) (fun c_23 => absurd c_23 (by omega)) (fun c_23 => ?_)
            have join_485 : ∀ (mh : Nat → Nat) (H : Heap) (locs : List Loc) (ls : Array Slot), kW G A s (wMain G o P h T L M ++ (wPiece G P gk gw gt gy R sp ++ (wMk G M mh ++ ([(ga, .inl (G.2 0, 5, .inl (nF gf)))] ++ ([(ma, .inl (G.2 0, 16, .inl (nF mg)))] ++ [(wa, .inl (G.2 1, 64, .inr (.inl wf)))]))))) H locs → lv_has ls 19 [(0, .ref (o)), (1, .ref (ga)), (2, .ref (ma)), (3, .ref (wa)), (4, vN (r)), (5, vN (sumM (K r) (w r))), (6, vN (cnt (K r) 1 (w r))), (7, vN (cnt (K r) 2 (w r))), (10, vN (dsF (K r) (w r) true)), (11, vN (dsF (K r) (w r) false)), (12, vN (mi)), (13, vN (1)), (16, vN (cnt (K r) 0 (w r))), (17, vN (yrn y (K r) (w r))), (18, vN (1))] → W p l e { frames := 9, cells := 2, slots := 12, locals := 156 } s m args below meth c H locs 0 0 Qz (F0 m 485 ls []) := by
              intro mh H locs ls hw hl
              refine k_aload_n hm hl 0 rfl dL_isRound_485 ?_
              refine k_iload hm hl 4 rfl dL_isRound_486 ?_
              refine k_bipushN hm 7 dL_isRound_488 rfl ?_
              refine k_callSX (n := 3) (As := [.ref (o), vN (r), vN (7)]) (rest := []) (wr := [(ga, .inl (G.2 0, 5, .inl (nF gf))), (ma, .inl (G.2 0, 16, .inl (nF mg))), (wa, .inl (G.2 1, 64, .inr (.inl wf)))]) hm hw hl hxs hst (c_w_round_ok l G o h T L M mh P gk gw gt gy R sp K w y r 7 (by first | assumption | omega) (by first | assumption | omega) (by first | assumption | omega)) gL_isRound_L_roundOf rfl (by decide +kernel) ⟨by decide, by decide⟩ [0, 1, 2, 3, 4, 5, 6, 7, 8, 9, 10, 11, 12] [13, 14, 15] (by decide) rfl rfl (by decide) (by decide) rfl rfl (by simp [Value.category]) ⟨(by show _ ≤ 2; omega), (by show _ ≤ 12; omega)⟩ dL_isRound_490 (fun v w1 H locs hp hw => ?_)
              obtain ⟨mf2_25, rfl, rfl⟩ := hp
              have hw := hw.sub (ws' := wMain G o P h T L M ++ (wPiece G P gk gw gt gy R sp ++ (wMk G M mf2_25 ++ ([(ga, .inl (G.2 0, 5, .inl (nF gf)))] ++ ([(ma, .inl (G.2 0, 16, .inl (nF mg)))] ++ [(wa, .inl (G.2 1, 64, .inr (.inl wf)))]))))) [3, 4, 5, 6, 7, 8, 9, 10, 11, 12, 13, 14, 15, 0, 1, 2] (by decide) rfl
              refine W.eq (g2 := F0 m 493 ls [vZ (rv K w y r 7)]) rfl ?_
              refine k_rwV (y := vN (yrn y (K r) (w r))) (show Value.int (iI (rv K w y r 7)) = Value.int (iI ((yrn y (K r) (w r) : Nat) : Int)) from congrArg (fun q : Int => Value.int (iI q)) (rv_lt (by decide))) ?_
              refine k_iload hm hl 13 rfl dL_isRound_493 ?_
              refine k_icmpne (tgt := 580) hm dL_isRound_495 (by decide) (by omega) (fun c_26 => absurd c_26 (by omega)) (fun c_26 => ?_)
              refine k_aload_n hm hl 0 rfl dL_isRound_498 ?_
              refine k_iload hm hl 4 rfl dL_isRound_499 ?_
              refine k_bipushN hm 8 dL_isRound_501 rfl ?_
              refine k_callSX (n := 3) (As := [.ref (o), vN (r), vN (8)]) (rest := []) (wr := [(ga, .inl (G.2 0, 5, .inl (nF gf))), (ma, .inl (G.2 0, 16, .inl (nF mg))), (wa, .inl (G.2 1, 64, .inr (.inl wf)))]) hm hw hl hxs hst (c_w_round_ok l G o h T L M mf2_25 P gk gw gt gy R sp K w y r 8 (by first | assumption | omega) (by first | assumption | omega) (by first | assumption | omega)) gL_isRound_L_roundOf rfl (by decide +kernel) ⟨by decide, by decide⟩ [0, 1, 2, 3, 4, 5, 6, 7, 8, 9, 10, 11, 12] [13, 14, 15] (by decide) rfl rfl (by decide) (by decide) rfl rfl (by simp [Value.category]) ⟨(by show _ ≤ 2; omega), (by show _ ≤ 12; omega)⟩ dL_isRound_503 (fun v w1 H locs hp hw => ?_)
              obtain ⟨mf2_28, rfl, rfl⟩ := hp
              have hw := hw.sub (ws' := wMain G o P h T L M ++ (wPiece G P gk gw gt gy R sp ++ (wMk G M mf2_28 ++ ([(ga, .inl (G.2 0, 5, .inl (nF gf)))] ++ ([(ma, .inl (G.2 0, 16, .inl (nF mg)))] ++ [(wa, .inl (G.2 1, 64, .inr (.inl wf)))]))))) [3, 4, 5, 6, 7, 8, 9, 10, 11, 12, 13, 14, 15, 0, 1, 2] (by decide) rfl
              refine W.eq (g2 := F0 m 506 ls [vZ (rv K w y r 8)]) rfl ?_
              refine k_rwV (y := vN (dsF (K r) (w r) true)) (show Value.int (iI (rv K w y r 8)) = Value.int (iI ((dsF (K r) (w r) true : Nat) : Int)) from congrArg (fun q : Int => Value.int (iI q)) (rv_lt (by decide))) ?_
              refine k_iload hm hl 8 rfl dL_isRound_506 ?_
              refine k_icmpne (tgt := 580) hm dL_isRound_508 (by decide) (by omega) (fun c_29 => absurd c_29 (by omega)) (fun c_29 => ?_)
              refine k_aload_n hm hl 0 rfl dL_isRound_511 ?_
              refine k_iload hm hl 4 rfl dL_isRound_512 ?_
              refine k_bipushN hm 9 dL_isRound_514 rfl ?_
              refine k_callSX (n := 3) (As := [.ref (o), vN (r), vN (9)]) (rest := []) (wr := [(ga, .inl (G.2 0, 5, .inl (nF gf))), (ma, .inl (G.2 0, 16, .inl (nF mg))), (wa, .inl (G.2 1, 64, .inr (.inl wf)))]) hm hw hl hxs hst (c_w_round_ok l G o h T L M mf2_28 P gk gw gt gy R sp K w y r 9 (by first | assumption | omega) (by first | assumption | omega) (by first | assumption | omega)) gL_isRound_L_roundOf rfl (by decide +kernel) ⟨by decide, by decide⟩ [0, 1, 2, 3, 4, 5, 6, 7, 8, 9, 10, 11, 12] [13, 14, 15] (by decide) rfl rfl (by decide) (by decide) rfl rfl (by simp [Value.category]) ⟨(by show _ ≤ 2; omega), (by show _ ≤ 12; omega)⟩ dL_isRound_516 (fun v w1 H locs hp hw => ?_)
              obtain ⟨mf2_31, rfl, rfl⟩ := hp
              have hw := hw.sub (ws' := wMain G o P h T L M ++ (wPiece G P gk gw gt gy R sp ++ (wMk G M mf2_31 ++ ([(ga, .inl (G.2 0, 5, .inl (nF gf)))] ++ ([(ma, .inl (G.2 0, 16, .inl (nF mg)))] ++ [(wa, .inl (G.2 1, 64, .inr (.inl wf)))]))))) [3, 4, 5, 6, 7, 8, 9, 10, 11, 12, 13, 14, 15, 0, 1, 2] (by decide) rfl
              refine W.eq (g2 := F0 m 519 ls [vZ (rv K w y r 9)]) rfl ?_
              refine k_rwV (y := vN (dsF (K r) (w r) false)) (show Value.int (iI (rv K w y r 9)) = Value.int (iI ((dsF (K r) (w r) false : Nat) : Int)) from congrArg (fun q : Int => Value.int (iI q)) (rv_lt (by decide))) ?_
              refine k_iload hm hl 9 rfl dL_isRound_519 ?_
              refine k_icmpne (tgt := 580) hm dL_isRound_521 (by decide) (by omega) (fun c_32 => absurd c_32 (by omega)) (fun c_32 => ?_)
              refine k_aload_n hm hl 0 rfl dL_isRound_524 ?_
              refine k_iload hm hl 4 rfl dL_isRound_525 ?_
              refine k_bipushN hm 10 dL_isRound_527 rfl ?_
              refine k_callSX (n := 3) (As := [.ref (o), vN (r), vN (10)]) (rest := []) (wr := [(ga, .inl (G.2 0, 5, .inl (nF gf))), (ma, .inl (G.2 0, 16, .inl (nF mg))), (wa, .inl (G.2 1, 64, .inr (.inl wf)))]) hm hw hl hxs hst (c_w_round_ok l G o h T L M mf2_31 P gk gw gt gy R sp K w y r 10 (by first | assumption | omega) (by first | assumption | omega) (by first | assumption | omega)) gL_isRound_L_roundOf rfl (by decide +kernel) ⟨by decide, by decide⟩ [0, 1, 2, 3, 4, 5, 6, 7, 8, 9, 10, 11, 12] [13, 14, 15] (by decide) rfl rfl (by decide) (by decide) rfl rfl (by simp [Value.category]) ⟨(by show _ ≤ 2; omega), (by show _ ≤ 12; omega)⟩ dL_isRound_529 (fun v w1 H locs hp hw => ?_)
              obtain ⟨mf2_34, rfl, rfl⟩ := hp
              have hw := hw.sub (ws' := wMain G o P h T L M ++ (wPiece G P gk gw gt gy R sp ++ (wMk G M mf2_34 ++ ([(ga, .inl (G.2 0, 5, .inl (nF gf)))] ++ ([(ma, .inl (G.2 0, 16, .inl (nF mg)))] ++ [(wa, .inl (G.2 1, 64, .inr (.inl wf)))]))))) [3, 4, 5, 6, 7, 8, 9, 10, 11, 12, 13, 14, 15, 0, 1, 2] (by decide) rfl
              refine W.eq (g2 := F0 m 532 ls [vZ (rv K w y r 10)]) rfl ?_
              refine k_iload hm hl 5 rfl dL_isRound_532 ?_
              refine k_aload_n hm hl 2 rfl dL_isRound_534 ?_
              refine k_iconstN hm 0 dL_isRound_535 ?_
              refine k_ialdN hm hw 14 rfl (by omega) dL_isRound_536 ?_
              refine k_rwV (y := vN (sumM (K 0) (w 0))) (by rw [(hlo.2 0 (by omega)).1, tot0 hok.1]) ?_
              refine k_iload hm hl 4 rfl dL_isRound_537 ?_
              refine k_iconstN hm 1 dL_isRound_539 ?_
              refine k_iaddN hm dL_isRound_540 ?_
              refine k_imulN hm dL_isRound_541 ?_
              refine k_isub hm dL_isRound_542 ?_
              refine k_icmpne (tgt := 580) hm dL_isRound_543 (by decide) (by omega) (fun c_35 => absurd c_35 (by omega)) (fun c_35 => ?_)
              refine k_aload_n hm hl 0 rfl dL_isRound_546 ?_
              refine k_iload hm hl 4 rfl dL_isRound_547 ?_
              refine k_aload_n hm hl 2 rfl dL_isRound_549 ?_
              refine k_iload hm hl 4 rfl dL_isRound_550 ?_
              refine k_ialdN hm hw 14 rfl (by omega) dL_isRound_552 ?_
              refine k_rwV (y := vN (w r)) (by rw [hk.1]) ?_
              refine k_callSX (n := 3) (As := [.ref (o), vN (r), vN (w r)]) (rest := []) (wr := [(M 0, .inr (1, [.ref (M 1)])), (M 1, .inr (2, [.ref (M 2)])), (M 2, .inl (G.2 0, 120, .inl (nF mf2_34))), (ga, .inl (G.2 0, 5, .inl (nF gf))), (ma, .inl (G.2 0, 16, .inl (nF mg))), (wa, .inl (G.2 1, 64, .inr (.inl wf)))]) hm hw hl hxs hst (c_w_work_x2 l G o h T L M P gk gw gt gy R sp K w y r ((w r : Nat) : Int) (by first | assumption | omega) (by first | assumption | omega) (by first | assumption | omega) (by first | assumption | omega) (by first | assumption | omega)) gL_isRound_L_workOf rfl (by decide +kernel) ⟨by decide, by decide⟩ [0, 1, 2, 3, 4, 5, 6, 7, 8, 9] [10, 11, 12, 13, 14, 15] (by decide) rfl rfl (by decide) (by decide) rfl rfl (by simp [Value.category]) ⟨(by show _ ≤ 2; omega), (by show _ ≤ 12; omega)⟩ dL_isRound_553 (fun v w1 H locs hp hw => ?_)
              obtain ⟨rfl, rfl⟩ := hp
              have hw := hw.sub (ws' := wMain G o P h T L M ++ (wPiece G P gk gw gt gy R sp ++ (wMk G M mf2_34 ++ ([(ga, .inl (G.2 0, 5, .inl (nF gf)))] ++ ([(ma, .inl (G.2 0, 16, .inl (nF mg)))] ++ [(wa, .inl (G.2 1, 64, .inr (.inl wf)))]))))) [6, 7, 8, 9, 10, 11, 12, 13, 14, 15, 0, 1, 2, 3, 4, 5] (by decide) rfl
              refine W.eq (g2 := F0 m 556 ls [vZ (-30004)]) rfl ?_
              refine k_sipush (n := -30004) hm dL_isRound_556 rfl ?_
              refine k_icmpne (tgt := 580) hm dL_isRound_559 (by decide) (by omega) (fun c_37 => absurd c_37 (by omega)) (fun c_37 => ?_)
              refine k_aload_n hm hl 0 rfl dL_isRound_562 ?_
              refine k_iload hm hl 4 rfl dL_isRound_563 ?_
              refine k_bipushN hm 11 dL_isRound_565 rfl ?_
              refine k_callSX (n := 3) (As := [.ref (o), vN (r), vN (11)]) (rest := []) (wr := [(M 0, .inr (1, [.ref (M 1)])), (M 1, .inr (2, [.ref (M 2)])), (M 2, .inl (G.2 0, 120, .inl (nF mf2_34))), (ga, .inl (G.2 0, 5, .inl (nF gf))), (ma, .inl (G.2 0, 16, .inl (nF mg))), (wa, .inl (G.2 1, 64, .inr (.inl wf)))]) hm hw hl hxs hst (c_w_round_x2 l G o h T L M P gk gw gt gy R sp r ((11 : Nat) : Int) (by first | assumption | omega) (by first | assumption | omega) (by first | assumption | omega) (by first | assumption | omega) (by first | assumption | omega)) gL_isRound_L_roundOf rfl (by decide +kernel) ⟨by decide, by decide⟩ [0, 1, 2, 3, 4, 5, 6, 7, 8, 9] [10, 11, 12, 13, 14, 15] (by decide) rfl rfl (by decide) (by decide) rfl rfl (by simp [Value.category]) ⟨(by show _ ≤ 2; omega), (by show _ ≤ 12; omega)⟩ dL_isRound_567 (fun v w1 H locs hp hw => ?_)
              obtain ⟨rfl, rfl⟩ := hp
              have hw := hw.sub (ws' := wMain G o P h T L M ++ (wPiece G P gk gw gt gy R sp ++ (wMk G M mf2_34 ++ ([(ga, .inl (G.2 0, 5, .inl (nF gf)))] ++ ([(ma, .inl (G.2 0, 16, .inl (nF mg)))] ++ [(wa, .inl (G.2 1, 64, .inr (.inl wf)))]))))) [6, 7, 8, 9, 10, 11, 12, 13, 14, 15, 0, 1, 2, 3, 4, 5] (by decide) rfl
              refine W.eq (g2 := F0 m 570 ls [vZ (-30001)]) rfl ?_
              refine k_sipush (n := -30001) hm dL_isRound_570 rfl ?_
              refine k_icmpne (tgt := 580) hm dL_isRound_573 (by decide) (by omega) (fun c_39 => absurd c_39 (by omega)) (fun c_39 => ?_)
              refine k_iconstN hm 1 dL_isRound_576 ?_
              refine k_goto (tgt := 581) hm dL_isRound_577 (by decide) ?_
              exact k_iret (post := _) hm hQ rfl (kN_bool true) hw (⟨_, rfl, rfl⟩) (by omega) (by omega) dL_isRound_581
            refine k_aload_n hm hl 0 rfl dL_isRound_464 ?_
            refine k_iload hm hl 4 rfl dL_isRound_465 ?_
            refine k_bipushN hm 6 dL_isRound_467 rfl ?_
            refine k_callSX (n := 3) (As := [.ref (o), vN (r), vN (6)]) (rest := []) (wr := [(ga, .inl (G.2 0, 5, .inl (nF gf))), (ma, .inl (G.2 0, 16, .inl (nF mg))), (wa, .inl (G.2 1, 64, .inr (.inl wf)))]) hm hw hl hxs hst (c_w_round_ok l G o h T L M mf2_21 P gk gw gt gy R sp K w y r 6 (by first | assumption | omega) (by first | assumption | omega) (by first | assumption | omega)) gL_isRound_L_roundOf rfl (by decide +kernel) ⟨by decide, by decide⟩ [0, 1, 2, 3, 4, 5, 6, 7, 8, 9, 10, 11, 12] [13, 14, 15] (by decide) rfl rfl (by decide) (by decide) rfl rfl (by simp [Value.category]) ⟨(by show _ ≤ 2; omega), (by show _ ≤ 12; omega)⟩ dL_isRound_469 (fun v w1 H locs hp hw => ?_)
            obtain ⟨mf2_41, rfl, rfl⟩ := hp
            have hw := hw.sub (ws' := wMain G o P h T L M ++ (wPiece G P gk gw gt gy R sp ++ (wMk G M mf2_41 ++ ([(ga, .inl (G.2 0, 5, .inl (nF gf)))] ++ ([(ma, .inl (G.2 0, 16, .inl (nF mg)))] ++ [(wa, .inl (G.2 1, 64, .inr (.inl wf)))]))))) [3, 4, 5, 6, 7, 8, 9, 10, 11, 12, 13, 14, 15, 0, 1, 2] (by decide) rfl
            refine W.eq (g2 := F0 m 472 ls [vZ (rv K w y r 6)]) rfl ?_
            refine k_rwV (y := vN (miN (K r) (w r))) (show Value.int (iI (rv K w y r 6)) = Value.int (iI ((miN (K r) (w r) : Nat) : Int)) from congrArg (fun q : Int => Value.int (iI q)) (rv_lt (by decide))) ?_
            refine k_iload hm hl 10 rfl dL_isRound_472 ?_
            refine k_ifeq (tgt := 481) hm dL_isRound_474 (by decide) (by omega) (fun c_42 => ?_) (fun c_42 => ?_)
            · refine k_iconstN hm 0 dL_isRound_481 ?_
              refine k_rwV (y := vN (miN (K r) (w r))) (by rw [show miN (K r) (w r) = 0 by omega]) ?_
              refine k_icmpne (tgt := 580) hm dL_isRound_482 (by decide) (by omega) (fun c_43 => absurd c_43 (by omega)) (fun c_43 => ?_)
              exact join_485  mf2_41 _ _ _ hw (lv_sub hl [0, 1, 2, 3, 4, 5, 6, 7, 8, 9, 10, 11, 12, 13, 14] rfl)
            · refine k_iconstN hm 1 dL_isRound_477 ?_
              refine k_goto (tgt := 482) hm dL_isRound_478 (by decide) ?_
              refine k_rwV (y := vN (miN (K r) (w r))) (by rw [show miN (K r) (w r) = 1 by omega]) ?_
              refine k_icmpne (tgt := 580) hm dL_isRound_482 (by decide) (by omega) (fun c_44 => absurd c_44 (by omega)) (fun c_44 => ?_)
              exact join_485  mf2_41 _ _ _ hw (lv_sub hl [0, 1, 2, 3, 4, 5, 6, 7, 8, 9, 10, 11, 12, 13, 14] rfl)
          refine k_iload hm hl 6 rfl dL_isRound_341 ?_
          refine k_ifeq (tgt := 368) hm dL_isRound_343 (by decide) (by omega) (fun c_45 => ?_) (fun c_45 => ?_)
          · refine k_iconstN hm 1 dL_isRound_368 ?_
            refine k_goto (tgt := 373) hm dL_isRound_369 (by decide) ?_
            refine k_istore hm hl [(18, vN (1)), (17, vN (yrn y (K r) (w r))), (16, vN (cnt (K r) 0 (w r))), (0, .ref (o)), (1, .ref (ga)), (2, .ref (ma)), (3, .ref (wa)), (4, vN (r)), (5, vN (sumM (K r) (w r))), (6, vN (cnt (K r) 1 (w r))), (7, vN (cnt (K r) 2 (w r))), (10, vN (dsF (K r) (w r) true)), (11, vN (dsF (K r) (w r) false)), (12, vN (mi)), (13, vN (1))] (by decide) rfl dL_isRound_373 (fun ls hl => ?_)
            exact join_375   _ _ _ hw (lv_sub hl [3, 4, 5, 6, 7, 8, 9, 10, 11, 12, 13, 14, 2, 1, 0] rfl)
          · have hU : sumU (K r) (w r) = sumM (K (r - 1)) (w (r - 1)) := by have q := hok.1.2.2.1 (r - 1) (by omega); rw [show r - 1 + 1 = r by omega] at q; exact q
            rw [sumU_cnt] at hU
            have hb1 := (hok.1.2.1 (r - 1) (by omega)).2.1
            have hkp := hlo.2 (r - 1) (by omega)
            refine k_iload hm hl 1 rfl dL_isRound_346 ?_
            refine k_iload hm hl 8 rfl dL_isRound_348 ?_
            refine k_iaddN hm dL_isRound_350 ?_
            refine k_iconstN hm 2 dL_isRound_351 ?_
            refine k_iload hm hl 9 rfl dL_isRound_352 ?_
            refine k_imulN hm dL_isRound_354 ?_
            refine k_iaddN hm dL_isRound_355 ?_
            refine k_aload_n hm hl 4 rfl dL_isRound_356 ?_
            refine k_aload_n hm hl 5 rfl dL_isRound_357 ?_
            refine k_iload hm hl 6 rfl dL_isRound_358 ?_
            refine k_iconstN hm 1 dL_isRound_360 ?_
            refine k_isubN hm (by omega) dL_isRound_361 ?_
            refine k_callSr (n := 3) (As := [.ref (ma), .ref (wa), vN (r - 1)]) (rest := [vN (((cnt (K r) 0 (w r)) + (cnt (K r) 1 (w r))) + (2 * (cnt (K r) 2 (w r))))]) hm hw hl (c_l_total l G ma mg wa wf (r - 1) (K (r - 1)) (w (r - 1)) hkp.1 hkp.2 (by omega)) gL_isRound_L_total rfl (by decide +kernel) ⟨by decide, by decide⟩ [14, 15] (by decide) rfl rfl rfl (by simp [Value.category]) ⟨(by show _ ≤ 2; omega), (by show _ ≤ 12; omega)⟩ dL_isRound_362 (fun v H locs hp hw => ?_)
            obtain rfl := hp
            refine W.eq (g2 := F0 m 365 ls [vN (sumM (K (r - 1)) (w (r - 1))), vN (((cnt (K r) 0 (w r)) + (cnt (K r) 1 (w r))) + (2 * (cnt (K r) 2 (w r))))]) rfl ?_
            refine k_icmpne (tgt := 372) hm dL_isRound_365 (by decide) (by omega) (fun c_47 => absurd c_47 (by omega)) (fun c_47 => ?_)
            refine k_iconstN hm 1 dL_isRound_368 ?_
            refine k_goto (tgt := 373) hm dL_isRound_369 (by decide) ?_
            refine k_istore hm hl [(18, vN (1)), (17, vN (yrn y (K r) (w r))), (16, vN (cnt (K r) 0 (w r))), (0, .ref (o)), (1, .ref (ga)), (2, .ref (ma)), (3, .ref (wa)), (4, vN (r)), (5, vN (sumM (K r) (w r))), (6, vN (cnt (K r) 1 (w r))), (7, vN (cnt (K r) 2 (w r))), (10, vN (dsF (K r) (w r) true)), (11, vN (dsF (K r) (w r) false)), (12, vN (mi)), (13, vN (1))] (by decide) rfl dL_isRound_373 (fun ls hl => ?_)
            exact join_375   _ _ _ hw (lv_sub hl [3, 4, 5, 6, 7, 8, 9, 10, 11, 12, 13, 14, 2, 1, 0] rfl)
        rcases hd with ⟨rfl, rfl, rfl, rfl, hz0⟩ | ⟨a, b, cn, rfl, rfl, h3, h4, h5, h6, h7, h8⟩
        · have q1 : cnt (K r) 1 (w r) = 0 := cnt_none (fun j q => by rw [hz0 j q]; decide)
          have q2 : cnt (K r) 2 (w r) = 0 := cnt_none (fun j q => by rw [hz0 j q]; decide)
          have qt : 0 = dsF (K r) (w r) true := dsF_of (dNone_end hz0)
          have qf : 0 = dsF (K r) (w r) false := dsF_of (dNone_end hz0)
          refine k_iload hm hl 8 rfl dL_isRound_229 ?_
          refine k_aload_n hm hl 2 rfl dL_isRound_231 ?_
          refine k_iload hm hl 4 rfl dL_isRound_232 ?_
          refine k_ialdN hm hw 14 rfl (by omega) dL_isRound_234 ?_
          refine k_rwV (y := vN (w r)) (by rw [hk.1]) ?_
          refine k_iadd hm dL_isRound_235 ?_
          refine k_iload hm hl 9 rfl dL_isRound_236 ?_
          refine k_isub hm dL_isRound_238 ?_
          refine k_istore hm hl [(14, vZ (((-1) + ((w r : Nat) : Int)) - (-1))), (0, .ref (o)), (1, .ref (ga)), (2, .ref (ma)), (3, .ref (wa)), (4, vN (r)), (5, vN (sumM (K r) (w r))), (6, vN (cnt (K r) 1 (w r))), (7, vN (cnt (K r) 2 (w r))), (8, vZ (-1)), (9, vZ (-1)), (10, vN (0)), (11, vN (999)), (12, vN (mi)), (13, vN (1))] (by decide) rfl dL_isRound_239 (fun ls hl => ?_)
          refine k_iload hm hl 7 rfl dL_isRound_241 ?_
          refine k_iload hm hl 8 rfl dL_isRound_243 ?_
          refine k_iaddN hm dL_isRound_245 ?_
          refine k_iconstN hm 1 dL_isRound_246 ?_
          refine k_icmple (tgt := 254) hm dL_isRound_247 (by decide) (by omega) (fun c_48 => ?_) (fun c_48 => absurd c_48 (by omega))
          refine k_iconstN hm 0 dL_isRound_254 ?_
          refine k_istore hm hl [(15, vN (0)), (14, vZ (((-1) + ((w r : Nat) : Int)) - (-1))), (0, .ref (o)), (1, .ref (ga)), (2, .ref (ma)), (3, .ref (wa)), (4, vN (r)), (5, vN (sumM (K r) (w r))), (6, vN (cnt (K r) 1 (w r))), (7, vN (cnt (K r) 2 (w r))), (8, vZ (-1)), (9, vZ (-1)), (10, vN (0)), (11, vN (999)), (12, vN (mi)), (13, vN (1))] (by decide) rfl dL_isRound_255 (fun ls hl => ?_)
          refine k_iload hm hl 0 rfl dL_isRound_257 ?_
          refine k_ifne (tgt := 266) hm dL_isRound_259 (by decide) (by omega) (fun c_49 => absurd c_49 (by omega)) (fun c_49 => ?_)
          refine k_iconstN hm 0 dL_isRound_262 ?_
          refine k_goto (tgt := 280) hm dL_isRound_263 (by decide) ?_
          refine k_rwV (y := vN (dsF (K r) (w r) true)) (by rw [← qt]) ?_
          refine k_istore hm hl [(10, vN (dsF (K r) (w r) true)), (15, vN (0)), (14, vZ (((-1) + ((w r : Nat) : Int)) - (-1))), (0, .ref (o)), (1, .ref (ga)), (2, .ref (ma)), (3, .ref (wa)), (4, vN (r)), (5, vN (sumM (K r) (w r))), (6, vN (cnt (K r) 1 (w r))), (7, vN (cnt (K r) 2 (w r))), (8, vZ (-1)), (9, vZ (-1)), (11, vN (999)), (12, vN (mi)), (13, vN (1))] (by decide) rfl dL_isRound_280 (fun ls hl => ?_)
          refine k_iload hm hl 1 rfl dL_isRound_282 ?_
          refine k_ifne (tgt := 291) hm dL_isRound_284 (by decide) (by omega) (fun c_50 => absurd c_50 (by omega)) (fun c_50 => ?_)
          refine k_iconstN hm 0 dL_isRound_287 ?_
          refine k_goto (tgt := 305) hm dL_isRound_288 (by decide) ?_
          refine k_rwV (y := vN (dsF (K r) (w r) false)) (by rw [← qf]) ?_
          refine k_istore hm hl [(11, vN (dsF (K r) (w r) false)), (10, vN (dsF (K r) (w r) true)), (15, vN (0)), (14, vZ (((-1) + ((w r : Nat) : Int)) - (-1))), (0, .ref (o)), (1, .ref (ga)), (2, .ref (ma)), (3, .ref (wa)), (4, vN (r)), (5, vN (sumM (K r) (w r))), (6, vN (cnt (K r) 1 (w r))), (7, vN (cnt (K r) 2 (w r))), (8, vZ (-1)), (9, vZ (-1)), (12, vN (mi)), (13, vN (1))] (by decide) rfl dL_isRound_305 (fun ls hl => ?_)
          exact join_307   _ _ _ hw (lv_sub hl [4, 5, 6, 7, 8, 9, 10, 11, 1, 0, 14, 15] rfl)
        · have hbi : b < w r := h3.2.1
          have hab : a ≤ b := h3.1
          by_cases hab2 : a = b
          · have q1 := h7 hab2
            have qt : 0 = dsF (K r) (w r) true := dsF_of ((dSome_end h3).1 hab2)
            have qf : 0 = dsF (K r) (w r) false := dsF_of ((dSome_end h4).1 hab2)
            refine k_iload hm hl 8 rfl dL_isRound_229 ?_
            refine k_aload_n hm hl 2 rfl dL_isRound_231 ?_
            refine k_iload hm hl 4 rfl dL_isRound_232 ?_
            refine k_ialdN hm hw 14 rfl (by omega) dL_isRound_234 ?_
            refine k_rwV (y := vN (w r)) (by rw [hk.1]) ?_
            refine k_iaddN hm dL_isRound_235 ?_
            refine k_iload hm hl 9 rfl dL_isRound_236 ?_
            refine k_isubN hm (by omega) dL_isRound_238 ?_
            refine k_istore hm hl [(14, vN ((a + (w r)) - b)), (0, .ref (o)), (1, .ref (ga)), (2, .ref (ma)), (3, .ref (wa)), (4, vN (r)), (5, vN (sumM (K r) (w r))), (6, vN (cnt (K r) 1 (w r))), (7, vN (cnt (K r) 2 (w r))), (8, vN (a)), (9, vN (b)), (10, vN (fa)), (11, vN (ne)), (12, vN (mi)), (13, vN (1))] (by decide) rfl dL_isRound_239 (fun ls hl => ?_)
            refine k_iload hm hl 7 rfl dL_isRound_241 ?_
            refine k_iload hm hl 8 rfl dL_isRound_243 ?_
            refine k_iaddN hm dL_isRound_245 ?_
            refine k_iconstN hm 1 dL_isRound_246 ?_
            refine k_icmple (tgt := 254) hm dL_isRound_247 (by decide) (by omega) (fun c_51 => ?_) (fun c_51 => absurd c_51 (by omega))
            refine k_iconstN hm 0 dL_isRound_254 ?_
            refine k_istore hm hl [(15, vN (0)), (14, vN ((a + (w r)) - b)), (0, .ref (o)), (1, .ref (ga)), (2, .ref (ma)), (3, .ref (wa)), (4, vN (r)), (5, vN (sumM (K r) (w r))), (6, vN (cnt (K r) 1 (w r))), (7, vN (cnt (K r) 2 (w r))), (8, vN (a)), (9, vN (b)), (10, vN (fa)), (11, vN (ne)), (12, vN (mi)), (13, vN (1))] (by decide) rfl dL_isRound_255 (fun ls hl => ?_)
            refine k_iload hm hl 0 rfl dL_isRound_257 ?_
            refine k_ifne (tgt := 266) hm dL_isRound_259 (by decide) (by omega) (fun c_52 => absurd c_52 (by omega)) (fun c_52 => ?_)
            refine k_iconstN hm 0 dL_isRound_262 ?_
            refine k_goto (tgt := 280) hm dL_isRound_263 (by decide) ?_
            refine k_rwV (y := vN (dsF (K r) (w r) true)) (by rw [← qt]) ?_
            refine k_istore hm hl [(10, vN (dsF (K r) (w r) true)), (15, vN (0)), (14, vN ((a + (w r)) - b)), (0, .ref (o)), (1, .ref (ga)), (2, .ref (ma)), (3, .ref (wa)), (4, vN (r)), (5, vN (sumM (K r) (w r))), (6, vN (cnt (K r) 1 (w r))), (7, vN (cnt (K r) 2 (w r))), (8, vN (a)), (9, vN (b)), (11, vN (ne)), (12, vN (mi)), (13, vN (1))] (by decide) rfl dL_isRound_280 (fun ls hl => ?_)
            refine k_iload hm hl 1 rfl dL_isRound_282 ?_
            refine k_ifne (tgt := 291) hm dL_isRound_284 (by decide) (by omega) (fun c_53 => absurd c_53 (by omega)) (fun c_53 => ?_)
            refine k_iconstN hm 0 dL_isRound_287 ?_
            refine k_goto (tgt := 305) hm dL_isRound_288 (by decide) ?_
            refine k_rwV (y := vN (dsF (K r) (w r) false)) (by rw [← qf]) ?_
            refine k_istore hm hl [(11, vN (dsF (K r) (w r) false)), (10, vN (dsF (K r) (w r) true)), (15, vN (0)), (14, vN ((a + (w r)) - b)), (0, .ref (o)), (1, .ref (ga)), (2, .ref (ma)), (3, .ref (wa)), (4, vN (r)), (5, vN (sumM (K r) (w r))), (6, vN (cnt (K r) 1 (w r))), (7, vN (cnt (K r) 2 (w r))), (8, vN (a)), (9, vN (b)), (12, vN (mi)), (13, vN (1))] (by decide) rfl dL_isRound_305 (fun ls hl => ?_)
            exact join_307   _ _ _ hw (lv_sub hl [4, 5, 6, 7, 8, 9, 10, 11, 1, 0, 14, 15] rfl)
          · have q1 := h8 hab2
            obtain ⟨qt, qf⟩ := dLw_end h3 h4 h5 (by omega) h6 hab2
            refine k_iload hm hl 8 rfl dL_isRound_229 ?_
            refine k_aload_n hm hl 2 rfl dL_isRound_231 ?_
            refine k_iload hm hl 4 rfl dL_isRound_232 ?_
            refine k_ialdN hm hw 14 rfl (by omega) dL_isRound_234 ?_
            refine k_rwV (y := vN (w r)) (by rw [hk.1]) ?_
            refine k_iaddN hm dL_isRound_235 ?_
            refine k_iload hm hl 9 rfl dL_isRound_236 ?_
            refine k_isubN hm (by omega) dL_isRound_238 ?_
            refine k_istore hm hl [(14, vN ((a + (w r)) - b)), (0, .ref (o)), (1, .ref (ga)), (2, .ref (ma)), (3, .ref (wa)), (4, vN (r)), (5, vN (sumM (K r) (w r))), (6, vN (cnt (K r) 1 (w r))), (7, vN (cnt (K r) 2 (w r))), (8, vN (a)), (9, vN (b)), (10, vN (fa)), (11, vN (ne)), (12, vN (mi)), (13, vN (1))] (by decide) rfl dL_isRound_239 (fun ls hl => ?_)
            refine k_iload hm hl 7 rfl dL_isRound_241 ?_
            refine k_iload hm hl 8 rfl dL_isRound_243 ?_
            refine k_iaddN hm dL_isRound_245 ?_
            refine k_iconstN hm 1 dL_isRound_246 ?_
            refine k_icmple (tgt := 254) hm dL_isRound_247 (by decide) (by omega) (fun c_54 => absurd c_54 (by omega)) (fun c_54 => ?_)
            refine k_iconstN hm 1 dL_isRound_250 ?_
            refine k_goto (tgt := 255) hm dL_isRound_251 (by decide) ?_
            refine k_istore hm hl [(15, vN (1)), (14, vN ((a + (w r)) - b)), (0, .ref (o)), (1, .ref (ga)), (2, .ref (ma)), (3, .ref (wa)), (4, vN (r)), (5, vN (sumM (K r) (w r))), (6, vN (cnt (K r) 1 (w r))), (7, vN (cnt (K r) 2 (w r))), (8, vN (a)), (9, vN (b)), (10, vN (fa)), (11, vN (ne)), (12, vN (mi)), (13, vN (1))] (by decide) rfl dL_isRound_255 (fun ls hl => ?_)
            refine k_iload hm hl 0 rfl dL_isRound_257 ?_
            refine k_ifne (tgt := 266) hm dL_isRound_259 (by decide) (by omega) (fun c_55 => ?_) (fun c_55 => absurd c_55 (by omega))
            refine k_iload hm hl 1 rfl dL_isRound_266 ?_
            refine k_iload hm hl 12 rfl dL_isRound_268 ?_
            refine k_icmple (tgt := 278) hm dL_isRound_270 (by decide) (by omega) (fun c_56 => ?_) (fun c_56 => ?_)
            · refine k_iload hm hl 12 rfl dL_isRound_278 ?_
              refine k_rwV (y := vN (dsF (K r) (w r) true)) (by rw [qt, if_neg (by omega)]) ?_
              refine k_istore hm hl [(10, vN (dsF (K r) (w r) true)), (15, vN (1)), (14, vN ((a + (w r)) - b)), (0, .ref (o)), (1, .ref (ga)), (2, .ref (ma)), (3, .ref (wa)), (4, vN (r)), (5, vN (sumM (K r) (w r))), (6, vN (cnt (K r) 1 (w r))), (7, vN (cnt (K r) 2 (w r))), (8, vN (a)), (9, vN (b)), (11, vN (ne)), (12, vN (mi)), (13, vN (1))] (by decide) rfl dL_isRound_280 (fun ls hl => ?_)
              refine k_iload hm hl 1 rfl dL_isRound_282 ?_
              refine k_ifne (tgt := 291) hm dL_isRound_284 (by decide) (by omega) (fun c_57 => ?_) (fun c_57 => absurd c_57 (by omega))
              refine k_iload hm hl 2 rfl dL_isRound_291 ?_
              refine k_iload hm hl 13 rfl dL_isRound_293 ?_
              refine k_icmpge (tgt := 303) hm dL_isRound_295 (by decide) (by omega) (fun c_58 => ?_) (fun c_58 => ?_)
              · refine k_iload hm hl 13 rfl dL_isRound_303 ?_
                refine k_rwV (y := vN (dsF (K r) (w r) false)) (by rw [qf, if_neg (by omega)]) ?_
                refine k_istore hm hl [(11, vN (dsF (K r) (w r) false)), (10, vN (dsF (K r) (w r) true)), (15, vN (1)), (14, vN ((a + (w r)) - b)), (0, .ref (o)), (1, .ref (ga)), (2, .ref (ma)), (3, .ref (wa)), (4, vN (r)), (5, vN (sumM (K r) (w r))), (6, vN (cnt (K r) 1 (w r))), (7, vN (cnt (K r) 2 (w r))), (8, vN (a)), (9, vN (b)), (12, vN (mi)), (13, vN (1))] (by decide) rfl dL_isRound_305 (fun ls hl => ?_)
                exact join_307   _ _ _ hw (lv_sub hl [4, 5, 6, 7, 8, 9, 10, 11, 1, 0, 14, 15] rfl)
              · refine k_iload hm hl 2 rfl dL_isRound_298 ?_
                refine k_goto (tgt := 305) hm dL_isRound_300 (by decide) ?_
                refine k_rwV (y := vN (dsF (K r) (w r) false)) (by rw [qf, if_pos (by omega)]) ?_
                refine k_istore hm hl [(11, vN (dsF (K r) (w r) false)), (10, vN (dsF (K r) (w r) true)), (15, vN (1)), (14, vN ((a + (w r)) - b)), (0, .ref (o)), (1, .ref (ga)), (2, .ref (ma)), (3, .ref (wa)), (4, vN (r)), (5, vN (sumM (K r) (w r))), (6, vN (cnt (K r) 1 (w r))), (7, vN (cnt (K r) 2 (w r))), (8, vN (a)), (9, vN (b)), (12, vN (mi)), (13, vN (1))] (by decide) rfl dL_isRound_305 (fun ls hl => ?_)
                exact join_307   _ _ _ hw (lv_sub hl [4, 5, 6, 7, 8, 9, 10, 11, 1, 0, 14, 15] rfl)
            · refine k_iload hm hl 1 rfl dL_isRound_273 ?_
              refine k_goto (tgt := 280) hm dL_isRound_275 (by decide) ?_
              refine k_rwV (y := vN (dsF (K r) (w r) true)) (by rw [qt, if_pos (by omega)]) ?_
              refine k_istore hm hl [(10, vN (dsF (K r) (w r) true)), (15, vN (1)), (14, vN ((a + (w r)) - b)), (0, .ref (o)), (1, .ref (ga)), (2, .ref (ma)), (3, .ref (wa)), (4, vN (r)), (5, vN (sumM (K r) (w r))), (6, vN (cnt (K r) 1 (w r))), (7, vN (cnt (K r) 2 (w r))), (8, vN (a)), (9, vN (b)), (11, vN (ne)), (12, vN (mi)), (13, vN (1))] (by decide) rfl dL_isRound_280 (fun ls hl => ?_)
              refine k_iload hm hl 1 rfl dL_isRound_282 ?_
              refine k_ifne (tgt := 291) hm dL_isRound_284 (by decide) (by omega) (fun c_59 => ?_) (fun c_59 => absurd c_59 (by omega))
              refine k_iload hm hl 2 rfl dL_isRound_291 ?_
              refine k_iload hm hl 13 rfl dL_isRound_293 ?_
              refine k_icmpge (tgt := 303) hm dL_isRound_295 (by decide) (by omega) (fun c_60 => ?_) (fun c_60 => ?_)
              · refine k_iload hm hl 13 rfl dL_isRound_303 ?_
                refine k_rwV (y := vN (dsF (K r) (w r) false)) (by rw [qf, if_neg (by omega)]) ?_
                refine k_istore hm hl [(11, vN (dsF (K r) (w r) false)), (10, vN (dsF (K r) (w r) true)), (15, vN (1)), (14, vN ((a + (w r)) - b)), (0, .ref (o)), (1, .ref (ga)), (2, .ref (ma)), (3, .ref (wa)), (4, vN (r)), (5, vN (sumM (K r) (w r))), (6, vN (cnt (K r) 1 (w r))), (7, vN (cnt (K r) 2 (w r))), (8, vN (a)), (9, vN (b)), (12, vN (mi)), (13, vN (1))] (by decide) rfl dL_isRound_305 (fun ls hl => ?_)
                exact join_307   _ _ _ hw (lv_sub hl [4, 5, 6, 7, 8, 9, 10, 11, 1, 0, 14, 15] rfl)
              · refine k_iload hm hl 2 rfl dL_isRound_298 ?_
                refine k_goto (tgt := 305) hm dL_isRound_300 (by decide) ?_
                refine k_rwV (y := vN (dsF (K r) (w r) false)) (by rw [qf, if_pos (by omega)]) ?_
                refine k_istore hm hl [(11, vN (dsF (K r) (w r) false)), (10, vN (dsF (K r) (w r) true)), (15, vN (1)), (14, vN ((a + (w r)) - b)), (0, .ref (o)), (1, .ref (ga)), (2, .ref (ma)), (3, .ref (wa)), (4, vN (r)), (5, vN (sumM (K r) (w r))), (6, vN (cnt (K r) 1 (w r))), (7, vN (cnt (K r) 2 (w r))), (8, vN (a)), (9, vN (b)), (12, vN (mi)), (13, vN (1))] (by decide) rfl dL_isRound_305 (fun ls hl => ?_)
                exact join_307   _ _ _ hw (lv_sub hl [4, 5, 6, 7, 8, 9, 10, 11, 1, 0, 14, 15] rfl)
      · refine k_iload hm hl 13 rfl dL_isRound_47 ?_
        refine k_ifeq (tgt := 229) hm dL_isRound_49 (by decide) (by omega) (fun c_61 => absurd c_61 (by omega)) (fun c_61 => ?_)
        refine k_aload_n hm hl 3 rfl dL_isRound_52 ?_
        refine k_iload hm hl 4 rfl dL_isRound_53 ?_
        refine k_iload hm hl 14 rfl dL_isRound_55 ?_
        refine k_callSr (n := 3) (As := [.ref (wa), vN (r), vN (i)]) (rest := []) hm hw hl (c_l_kind l G wa wf r i (K r) (w r) hk.2 (by omega) (by first | assumption | omega)) gL_isRound_L_kind rfl (by decide +kernel) ⟨by decide, by decide⟩ [15] (by decide) rfl rfl rfl (by simp [Value.category]) ⟨(by show _ ≤ 2; omega), (by show _ ≤ 12; omega)⟩ dL_isRound_57 (fun v H locs hp hw => ?_)
        obtain rfl := hp
        refine W.eq (g2 := F0 m 60 ls [vN ((K r) i)]) rfl ?_
        refine k_istore hm hl [(15, vN ((K r) i)), (0, .ref (o)), (1, .ref (ga)), (2, .ref (ma)), (3, .ref (wa)), (4, vN (r)), (5, vN (sumM (K r) (w r))), (6, vN (cnt (K r) 1 i)), (7, vN (cnt (K r) 2 i)), (8, vZ (fi)), (9, vZ (la)), (10, vN (fa)), (11, vN (ne)), (12, vN (mi)), (13, vN (1)), (14, vN (i))] (by decide) rfl dL_isRound_60 (fun ls hl => ?_)
        have hk2 := hb.2.2 i (by omega)
        have hk3 := hb.2.2 (w r - 1 - i) (by omega)
        have hrg := dLw_rng hd (by omega)
        have hc1 := cnt_le (K r) 1 i
        have hc2 := cnt_le (K r) 2 i
        have join_126 : ∀ (mi2 : Nat) (hmi2 : mi2 ≤ 1 ∧ (mi2 = 1 ↔ ∀ j, j < i + 1 → K r j = K r (w r - 1 - j))) (H : Heap) (locs : List Loc) (ls : Array Slot), kW G A s (wMain G o P h T L M ++ (wPiece G P gk gw gt gy R sp ++ (wMk G M mf ++ ([(ga, .inl (G.2 0, 5, .inl (nF gf)))] ++ ([(ma, .inl (G.2 0, 16, .inl (nF mg)))] ++ [(wa, .inl (G.2 1, 64, .inr (.inl wf)))]))))) H locs → lv_has ls 19 [(0, .ref (o)), (1, .ref (ga)), (2, .ref (ma)), (3, .ref (wa)), (4, vN (r)), (5, vN (sumM (K r) (w r))), (6, vN (cnt (K r) 1 (i + 1))), (7, vN (cnt (K r) 2 (i + 1))), (8, vZ (fi)), (9, vZ (la)), (10, vN (fa)), (11, vN (ne)), (12, vN (mi2)), (13, vN (1)), (14, vN (i)), (15, vN (K r i))] → W p l e { frames := 9, cells := 2, slots := 12, locals := 156 } s m args below meth c H locs 0 0 Qz (F0 m 126 ls []) := by
          intro mi2 hmi2 H locs ls hw hl
          have join_203 : ∀ (fi2 : Int) (la2 : Int) (fa2 : Nat) (ne2 : Nat) (hd2 : dLw (K r) (i + 1) fi2 la2 fa2 ne2) (H : Heap) (locs : List Loc) (ls : Array Slot), kW G A s (wMain G o P h T L M ++ (wPiece G P gk gw gt gy R sp ++ (wMk G M mf ++ ([(ga, .inl (G.2 0, 5, .inl (nF gf)))] ++ ([(ma, .inl (G.2 0, 16, .inl (nF mg)))] ++ [(wa, .inl (G.2 1, 64, .inr (.inl wf)))]))))) H locs → lv_has ls 19 [(0, .ref (o)), (1, .ref (ga)), (2, .ref (ma)), (3, .ref (wa)), (4, vN (r)), (5, vN (sumM (K r) (w r))), (6, vN (cnt (K r) 1 (i + 1))), (7, vN (cnt (K r) 2 (i + 1))), (8, vZ (fi2)), (9, vZ (la2)), (10, vN (fa2)), (11, vN (ne2)), (12, vN (mi2)), (13, vN (1)), (14, vN (i)), (15, vN (K r i))] → W p l e { frames := 9, cells := 2, slots := 12, locals := 156 } s m args below meth c H locs 0 0 Qz (F0 m 203 ls []) := by
            intro fi2 la2 fa2 ne2 hd2 H locs ls hw hl
            refine k_aload_n hm hl 0 rfl dL_isRound_203 ?_
            refine k_iload hm hl 4 rfl dL_isRound_204 ?_
            refine k_iload hm hl 14 rfl dL_isRound_206 ?_
            refine k_callSX (n := 3) (As := [.ref (o), vN (r), vN (i)]) (rest := []) (wr := [(M 0, .inr (1, [.ref (M 1)])), (M 1, .inr (2, [.ref (M 2)])), (M 2, .inl (G.2 0, 120, .inl (nF mf))), (ga, .inl (G.2 0, 5, .inl (nF gf))), (ma, .inl (G.2 0, 16, .inl (nF mg))), (wa, .inl (G.2 1, 64, .inr (.inl wf)))]) hm hw hl hxs hst (c_w_work_ok l G o h T L M P gk gw gt gy R sp K w y r i (by first | assumption | omega) (by first | assumption | omega) (by first | assumption | omega)) gL_isRound_L_workOf rfl (by decide +kernel) ⟨by decide, by decide⟩ [0, 1, 2, 3, 4, 5, 6, 7, 8, 9] [10, 11, 12, 13, 14, 15] (by decide) rfl rfl (by decide) (by decide) rfl rfl (by simp [Value.category]) ⟨(by show _ ≤ 2; omega), (by show _ ≤ 12; omega)⟩ dL_isRound_208 (fun v w1 H locs hp hw => ?_)
            obtain ⟨rfl, rfl⟩ := hp
            have hw := hw.sub (ws' := wMain G o P h T L M ++ (wPiece G P gk gw gt gy R sp ++ (wMk G M mf ++ ([(ga, .inl (G.2 0, 5, .inl (nF gf)))] ++ ([(ma, .inl (G.2 0, 16, .inl (nF mg)))] ++ [(wa, .inl (G.2 1, 64, .inr (.inl wf)))]))))) [6, 7, 8, 9, 10, 11, 12, 13, 14, 15, 0, 1, 2, 3, 4, 5] (by decide) rfl
            refine W.eq (g2 := F0 m 211 ls [vN (K r i)]) rfl ?_
            refine k_iload hm hl 15 rfl dL_isRound_211 ?_
            refine k_icmpne (tgt := 220) hm dL_isRound_213 (by decide) (by omega) (fun c_64 => absurd c_64 (by omega)) (fun c_64 => ?_)
            refine k_iconstN hm 1 dL_isRound_216 ?_
            refine k_goto (tgt := 221) hm dL_isRound_217 (by decide) ?_
            refine k_istore hm hl [(13, vN (1)), (0, .ref (o)), (1, .ref (ga)), (2, .ref (ma)), (3, .ref (wa)), (4, vN (r)), (5, vN (sumM (K r) (w r))), (6, vN (cnt (K r) 1 (i + 1))), (7, vN (cnt (K r) 2 (i + 1))), (8, vZ (fi2)), (9, vZ (la2)), (10, vN (fa2)), (11, vN (ne2)), (12, vN (mi2)), (14, vN (i)), (15, vN (K r i))] (by decide) rfl dL_isRound_221 (fun ls hl => ?_)
            refine k_iincN hm hl 14 1 rfl [(14, vN (i + 1)), (13, vN (1)), (0, .ref (o)), (1, .ref (ga)), (2, .ref (ma)), (3, .ref (wa)), (4, vN (r)), (5, vN (sumM (K r) (w r))), (6, vN (cnt (K r) 1 (i + 1))), (7, vN (cnt (K r) 2 (i + 1))), (8, vZ (fi2)), (9, vZ (la2)), (10, vN (fa2)), (11, vN (ne2)), (12, vN (mi2)), (15, vN (K r i))] (by decide) rfl dL_isRound_223 (fun ls hl => ?_)
            refine k_goto (tgt := 38) hm dL_isRound_226 (by decide) ?_
            exact ih_38  fi2 la2 fa2 ne2 mi2 (i + 1) (by omega) hd2 hmi2 _ _ _ (by omega) hw (lv_sub hl [2, 3, 4, 5, 6, 7, 8, 9, 10, 11, 12, 13, 14, 1, 0] rfl)
          refine k_iload hm hl 15 rfl dL_isRound_126 ?_
          refine k_ifle (tgt := 203) hm dL_isRound_128 (by decide) (by omega) (fun c_65 => ?_) (fun c_65 => ?_)
          · exact join_203  fi la fa ne (dLw_skip hd (by omega)) _ _ _ hw (lv_sub hl [0, 1, 2, 3, 4, 5, 6, 7, 8, 9, 10, 11, 12, 13, 14, 15] rfl)
          · refine k_iload hm hl 9 rfl dL_isRound_131 ?_
            refine k_iflt (tgt := 154) hm dL_isRound_133 (by decide) (by omega) (fun c_66 => ?_) (fun c_66 => ?_)
            · obtain ⟨rfl, rfl, rfl, rfl, hz0⟩ := hd.resolve_right (fun ⟨a, b, cn, z1, z2, z3⟩ => by omega)
              refine k_iload hm hl 10 rfl dL_isRound_154 ?_
              refine k_istore hm hl [(10, vN (0)), (0, .ref (o)), (1, .ref (ga)), (2, .ref (ma)), (3, .ref (wa)), (4, vN (r)), (5, vN (sumM (K r) (w r))), (6, vN (cnt (K r) 1 (i + 1))), (7, vN (cnt (K r) 2 (i + 1))), (8, vZ (-1)), (9, vZ (-1)), (11, vN (999)), (12, vN (mi2)), (13, vN (1)), (14, vN (i)), (15, vN (K r i))] (by decide) rfl dL_isRound_156 (fun ls hl => ?_)
              refine k_iload hm hl 10 rfl dL_isRound_158 ?_
              refine k_iflt (tgt := 181) hm dL_isRound_160 (by decide) (by omega) (fun c_67 => ?_) (fun c_67 => absurd c_67 (by omega))
              refine k_iload hm hl 11 rfl dL_isRound_181 ?_
              refine k_istore hm hl [(11, vN (999)), (10, vN (0)), (0, .ref (o)), (1, .ref (ga)), (2, .ref (ma)), (3, .ref (wa)), (4, vN (r)), (5, vN (sumM (K r) (w r))), (6, vN (cnt (K r) 1 (i + 1))), (7, vN (cnt (K r) 2 (i + 1))), (8, vZ (-1)), (9, vZ (-1)), (12, vN (mi2)), (13, vN (1)), (14, vN (i)), (15, vN (K r i))] (by decide) rfl dL_isRound_183 (fun ls hl => ?_)
              refine k_iload hm hl 10 rfl dL_isRound_185 ?_
              refine k_ifge (tgt := 195) hm dL_isRound_187 (by decide) (by omega) (fun c_68 => absurd c_68 (by omega)) (fun c_68 => ?_)
              refine k_iload hm hl 14 rfl dL_isRound_190 ?_
              refine k_goto (tgt := 197) hm dL_isRound_192 (by decide) ?_
              refine k_istore hm hl [(8, vN (i)), (11, vN (999)), (10, vN (0)), (0, .ref (o)), (1, .ref (ga)), (2, .ref (ma)), (3, .ref (wa)), (4, vN (r)), (5, vN (sumM (K r) (w r))), (6, vN (cnt (K r) 1 (i + 1))), (7, vN (cnt (K r) 2 (i + 1))), (9, vZ (-1)), (12, vN (mi2)), (13, vN (1)), (14, vN (i)), (15, vN (K r i))] (by decide) rfl dL_isRound_197 (fun ls hl => ?_)
              refine k_iload hm hl 14 rfl dL_isRound_199 ?_
              refine k_istore hm hl [(9, vN (i)), (8, vN (i)), (11, vN (999)), (10, vN (0)), (0, .ref (o)), (1, .ref (ga)), (2, .ref (ma)), (3, .ref (wa)), (4, vN (r)), (5, vN (sumM (K r) (w r))), (6, vN (cnt (K r) 1 (i + 1))), (7, vN (cnt (K r) 2 (i + 1))), (12, vN (mi2)), (13, vN (1)), (14, vN (i)), (15, vN (K r i))] (by decide) rfl dL_isRound_201 (fun ls hl => ?_)
              exact join_203  ((i : Nat) : Int) ((i : Nat) : Int) 0 999 (dLw_first hz0 (by omega) hk2) _ _ _ hw (lv_sub hl [4, 5, 6, 7, 8, 9, 10, 11, 1, 0, 3, 2, 12, 13, 14, 15] rfl)
            · obtain ⟨a, b, cn, rfl, rfl, h3, h4, h5, h6, h7, h8⟩ := hd.resolve_left (fun z => by omega)
              have hbi : b < i := h3.2.1
              have hab : a ≤ b := h3.1
              refine k_iload hm hl 14 rfl dL_isRound_136 ?_
              refine k_iload hm hl 9 rfl dL_isRound_138 ?_
              refine k_isubN hm (by omega) dL_isRound_140 ?_
              refine k_iload hm hl 10 rfl dL_isRound_141 ?_
              refine k_icmple (tgt := 154) hm dL_isRound_143 (by decide) (by omega) (fun c_69 => ?_) (fun c_69 => ?_)
              · refine k_iload hm hl 10 rfl dL_isRound_154 ?_
                refine k_istore hm hl [(10, vN (fa)), (0, .ref (o)), (1, .ref (ga)), (2, .ref (ma)), (3, .ref (wa)), (4, vN (r)), (5, vN (sumM (K r) (w r))), (6, vN (cnt (K r) 1 (i + 1))), (7, vN (cnt (K r) 2 (i + 1))), (8, vN (a)), (9, vN (b)), (11, vN (ne)), (12, vN (mi2)), (13, vN (1)), (14, vN (i)), (15, vN (K r i))] (by decide) rfl dL_isRound_156 (fun ls hl => ?_)
                refine k_iload hm hl 10 rfl dL_isRound_158 ?_
                refine k_iflt (tgt := 181) hm dL_isRound_160 (by decide) (by omega) (fun c_70 => absurd c_70 (by omega)) (fun c_70 => ?_)
                refine k_iload hm hl 14 rfl dL_isRound_163 ?_
                refine k_iload hm hl 10 rfl dL_isRound_165 ?_
                refine k_isubN hm (by omega) dL_isRound_167 ?_
                refine k_iload hm hl 11 rfl dL_isRound_168 ?_
                refine k_icmpge (tgt := 181) hm dL_isRound_170 (by decide) (by omega) (fun c_71 => ?_) (fun c_71 => ?_)
                · refine k_iload hm hl 11 rfl dL_isRound_181 ?_
                  refine k_istore hm hl [(11, vN (ne)), (10, vN (fa)), (0, .ref (o)), (1, .ref (ga)), (2, .ref (ma)), (3, .ref (wa)), (4, vN (r)), (5, vN (sumM (K r) (w r))), (6, vN (cnt (K r) 1 (i + 1))), (7, vN (cnt (K r) 2 (i + 1))), (8, vN (a)), (9, vN (b)), (12, vN (mi2)), (13, vN (1)), (14, vN (i)), (15, vN (K r i))] (by decide) rfl dL_isRound_183 (fun ls hl => ?_)
                  refine k_iload hm hl 10 rfl dL_isRound_185 ?_
                  refine k_ifge (tgt := 195) hm dL_isRound_187 (by decide) (by omega) (fun c_72 => ?_) (fun c_72 => absurd c_72 (by omega))
                  refine k_iload hm hl 10 rfl dL_isRound_195 ?_
                  refine k_istore hm hl [(8, vN (a)), (11, vN (ne)), (10, vN (fa)), (0, .ref (o)), (1, .ref (ga)), (2, .ref (ma)), (3, .ref (wa)), (4, vN (r)), (5, vN (sumM (K r) (w r))), (6, vN (cnt (K r) 1 (i + 1))), (7, vN (cnt (K r) 2 (i + 1))), (9, vN (b)), (12, vN (mi2)), (13, vN (1)), (14, vN (i)), (15, vN (K r i))] (by decide) rfl dL_isRound_197 (fun ls hl => ?_)
                  refine k_iload hm hl 14 rfl dL_isRound_199 ?_
                  refine k_istore hm hl [(9, vN (i)), (8, vN (a)), (11, vN (ne)), (10, vN (fa)), (0, .ref (o)), (1, .ref (ga)), (2, .ref (ma)), (3, .ref (wa)), (4, vN (r)), (5, vN (sumM (K r) (w r))), (6, vN (cnt (K r) 1 (i + 1))), (7, vN (cnt (K r) 2 (i + 1))), (12, vN (mi2)), (13, vN (1)), (14, vN (i)), (15, vN (K r i))] (by decide) rfl dL_isRound_201 (fun ls hl => ?_)
                  exact join_203  ((a : Nat) : Int) ((i : Nat) : Int) fa ne (dLw_add h3 h4 h5 h6 h7 h8 (by omega) hk2 (by omega) (by rw [if_neg (by omega)]) (by rw [if_neg (by omega)])) _ _ _ hw (lv_sub hl [4, 5, 6, 7, 8, 9, 10, 11, 1, 0, 3, 2, 12, 13, 14, 15] rfl)
                · refine k_iload hm hl 14 rfl dL_isRound_173 ?_
                  refine k_iload hm hl 10 rfl dL_isRound_175 ?_
                  refine k_isubN hm (by omega) dL_isRound_177 ?_
                  refine k_goto (tgt := 183) hm dL_isRound_178 (by decide) ?_
                  refine k_istore hm hl [(11, vN (i - b)), (10, vN (fa)), (0, .ref (o)), (1, .ref (ga)), (2, .ref (ma)), (3, .ref (wa)), (4, vN (r)), (5, vN (sumM (K r) (w r))), (6, vN (cnt (K r) 1 (i + 1))), (7, vN (cnt (K r) 2 (i + 1))), (8, vN (a)), (9, vN (b)), (12, vN (mi2)), (13, vN (1)), (14, vN (i)), (15, vN (K r i))] (by decide) rfl dL_isRound_183 (fun ls hl => ?_)
                  refine k_iload hm hl 10 rfl dL_isRound_185 ?_
                  refine k_ifge (tgt := 195) hm dL_isRound_187 (by decide) (by omega) (fun c_73 => ?_) (fun c_73 => absurd c_73 (by omega))
                  refine k_iload hm hl 10 rfl dL_isRound_195 ?_
                  refine k_istore hm hl [(8, vN (a)), (11, vN (i - b)), (10, vN (fa)), (0, .ref (o)), (1, .ref (ga)), (2, .ref (ma)), (3, .ref (wa)), (4, vN (r)), (5, vN (sumM (K r) (w r))), (6, vN (cnt (K r) 1 (i + 1))), (7, vN (cnt (K r) 2 (i + 1))), (9, vN (b)), (12, vN (mi2)), (13, vN (1)), (14, vN (i)), (15, vN (K r i))] (by decide) rfl dL_isRound_197 (fun ls hl => ?_)
                  refine k_iload hm hl 14 rfl dL_isRound_199 ?_
                  refine k_istore hm hl [(9, vN (i)), (8, vN (a)), (11, vN (i - b)), (10, vN (fa)), (0, .ref (o)), (1, .ref (ga)), (2, .ref (ma)), (3, .ref (wa)), (4, vN (r)), (5, vN (sumM (K r) (w r))), (6, vN (cnt (K r) 1 (i + 1))), (7, vN (cnt (K r) 2 (i + 1))), (12, vN (mi2)), (13, vN (1)), (14, vN (i)), (15, vN (K r i))] (by decide) rfl dL_isRound_201 (fun ls hl => ?_)
                  exact join_203  ((a : Nat) : Int) ((i : Nat) : Int) fa (i - b) (dLw_add h3 h4 h5 h6 h7 h8 (by omega) hk2 (by omega) (by rw [if_neg (by omega)]) (by rw [if_pos (by omega)])) _ _ _ hw (lv_sub hl [4, 5, 6, 7, 8, 9, 10, 11, 1, 0, 3, 2, 12, 13, 14, 15] rfl)
              · refine k_iload hm hl 14 rfl dL_isRound_146 ?_
                refine k_iload hm hl 9 rfl dL_isRound_148 ?_
                refine k_isubN hm (by omega) dL_isRound_150 ?_
                refine k_goto (tgt := 156) hm dL_isRound_151 (by decide) ?_
                refine k_istore hm hl [(10, vN (i - b)), (0, .ref (o)), (1, .ref (ga)), (2, .ref (ma)), (3, .ref (wa)), (4, vN (r)), (5, vN (sumM (K r) (w r))), (6, vN (cnt (K r) 1 (i + 1))), (7, vN (cnt (K r) 2 (i + 1))), (8, vN (a)), (9, vN (b)), (11, vN (ne)), (12, vN (mi2)), (13, vN (1)), (14, vN (i)), (15, vN (K r i))] (by decide) rfl dL_isRound_156 (fun ls hl => ?_)
                refine k_iload hm hl 10 rfl dL_isRound_158 ?_
                refine k_iflt (tgt := 181) hm dL_isRound_160 (by decide) (by omega) (fun c_74 => absurd c_74 (by omega)) (fun c_74 => ?_)
                refine k_iload hm hl 14 rfl dL_isRound_163 ?_
                refine k_iload hm hl 10 rfl dL_isRound_165 ?_
                refine k_isubN hm (by omega) dL_isRound_167 ?_
                refine k_iload hm hl 11 rfl dL_isRound_168 ?_
                refine k_icmpge (tgt := 181) hm dL_isRound_170 (by decide) (by omega) (fun c_75 => ?_) (fun c_75 => ?_)
                · refine k_iload hm hl 11 rfl dL_isRound_181 ?_
                  refine k_istore hm hl [(11, vN (ne)), (10, vN (i - b)), (0, .ref (o)), (1, .ref (ga)), (2, .ref (ma)), (3, .ref (wa)), (4, vN (r)), (5, vN (sumM (K r) (w r))), (6, vN (cnt (K r) 1 (i + 1))), (7, vN (cnt (K r) 2 (i + 1))), (8, vN (a)), (9, vN (b)), (12, vN (mi2)), (13, vN (1)), (14, vN (i)), (15, vN (K r i))] (by decide) rfl dL_isRound_183 (fun ls hl => ?_)
                  refine k_iload hm hl 10 rfl dL_isRound_185 ?_
                  refine k_ifge (tgt := 195) hm dL_isRound_187 (by decide) (by omega) (fun c_76 => ?_) (fun c_76 => absurd c_76 (by omega))
                  refine k_iload hm hl 10 rfl dL_isRound_195 ?_
                  refine k_istore hm hl [(8, vN (a)), (11, vN (ne)), (10, vN (i - b)), (0, .ref (o)), (1, .ref (ga)), (2, .ref (ma)), (3, .ref (wa)), (4, vN (r)), (5, vN (sumM (K r) (w r))), (6, vN (cnt (K r) 1 (i + 1))), (7, vN (cnt (K r) 2 (i + 1))), (9, vN (b)), (12, vN (mi2)), (13, vN (1)), (14, vN (i)), (15, vN (K r i))] (by decide) rfl dL_isRound_197 (fun ls hl => ?_)
                  refine k_iload hm hl 14 rfl dL_isRound_199 ?_
                  refine k_istore hm hl [(9, vN (i)), (8, vN (a)), (11, vN (ne)), (10, vN (i - b)), (0, .ref (o)), (1, .ref (ga)), (2, .ref (ma)), (3, .ref (wa)), (4, vN (r)), (5, vN (sumM (K r) (w r))), (6, vN (cnt (K r) 1 (i + 1))), (7, vN (cnt (K r) 2 (i + 1))), (12, vN (mi2)), (13, vN (1)), (14, vN (i)), (15, vN (K r i))] (by decide) rfl dL_isRound_201 (fun ls hl => ?_)
                  exact join_203  ((a : Nat) : Int) ((i : Nat) : Int) (i - b) ne (dLw_add h3 h4 h5 h6 h7 h8 (by omega) hk2 (by omega) (by rw [if_pos (by omega)]) (by rw [if_neg (by omega)])) _ _ _ hw (lv_sub hl [4, 5, 6, 7, 8, 9, 10, 11, 1, 0, 3, 2, 12, 13, 14, 15] rfl)
                · refine k_iload hm hl 14 rfl dL_isRound_173 ?_
                  refine k_iload hm hl 10 rfl dL_isRound_175 ?_
                  refine k_isubN hm (by omega) dL_isRound_177 ?_
                  refine k_goto (tgt := 183) hm dL_isRound_178 (by decide) ?_
                  refine k_istore hm hl [(11, vN (i - b)), (10, vN (i - b)), (0, .ref (o)), (1, .ref (ga)), (2, .ref (ma)), (3, .ref (wa)), (4, vN (r)), (5, vN (sumM (K r) (w r))), (6, vN (cnt (K r) 1 (i + 1))), (7, vN (cnt (K r) 2 (i + 1))), (8, vN (a)), (9, vN (b)), (12, vN (mi2)), (13, vN (1)), (14, vN (i)), (15, vN (K r i))] (by decide) rfl dL_isRound_183 (fun ls hl => ?_)
                  refine k_iload hm hl 10 rfl dL_isRound_185 ?_
                  refine k_ifge (tgt := 195) hm dL_isRound_187 (by decide) (by omega) (fun c_77 => ?_) (fun c_77 => absurd c_77 (by omega))
                  refine k_iload hm hl 10 rfl dL_isRound_195 ?_
                  refine k_istore hm hl [(8, vN (a)), (11, vN (i - b)), (10, vN (i - b)), (0, .ref (o)), (1, .ref (ga)), (2, .ref (ma)), (3, .ref (wa)), (4, vN (r)), (5, vN (sumM (K r) (w r))), (6, vN (cnt (K r) 1 (i + 1))), (7, vN (cnt (K r) 2 (i + 1))), (9, vN (b)), (12, vN (mi2)), (13, vN (1)), (14, vN (i)), (15, vN (K r i))] (by decide) rfl dL_isRound_197 (fun ls hl => ?_)
                  refine k_iload hm hl 14 rfl dL_isRound_199 ?_
                  refine k_istore hm hl [(9, vN (i)), (8, vN (a)), (11, vN (i - b)), (10, vN (i - b)), (0, .ref (o)), (1, .ref (ga)), (2, .ref (ma)), (3, .ref (wa)), (4, vN (r)), (5, vN (sumM (K r) (w r))), (6, vN (cnt (K r) 1 (i + 1))), (7, vN (cnt (K r) 2 (i + 1))), (12, vN (mi2)), (13, vN (1)), (14, vN (i)), (15, vN (K r i))] (by decide) rfl dL_isRound_201 (fun ls hl => ?_)
                  exact join_203  ((a : Nat) : Int) ((i : Nat) : Int) (i - b) (i - b) (dLw_add h3 h4 h5 h6 h7 h8 (by omega) hk2 (by omega) (by rw [if_pos (by omega)]) (by rw [if_pos (by omega)])) _ _ _ hw (lv_sub hl [4, 5, 6, 7, 8, 9, 10, 11, 1, 0, 3, 2, 12, 13, 14, 15] rfl)
        refine k_iload hm hl 7 rfl dL_isRound_62 ?_
        refine k_iload hm hl 0 rfl dL_isRound_64 ?_
        refine k_iconstN hm 1 dL_isRound_66 ?_
        refine k_icmpne (tgt := 74) hm dL_isRound_67 (by decide) (by omega) (fun c_78 => ?_) (fun c_78 => ?_)
        · refine k_iconstN hm 0 dL_isRound_74 ?_
          refine k_iaddN hm dL_isRound_75 ?_
          refine k_rwV (y := vN (cnt (K r) 1 (i + 1))) (by simp only [cnt]; rw [if_neg (by omega)]) ?_
          refine k_istore hm hl [(6, vN (cnt (K r) 1 (i + 1))), (15, vN ((K r) i)), (0, .ref (o)), (1, .ref (ga)), (2, .ref (ma)), (3, .ref (wa)), (4, vN (r)), (5, vN (sumM (K r) (w r))), (7, vN (cnt (K r) 2 i)), (8, vZ (fi)), (9, vZ (la)), (10, vN (fa)), (11, vN (ne)), (12, vN (mi)), (13, vN (1)), (14, vN (i))] (by decide) rfl dL_isRound_76 (fun ls hl => ?_)
          refine k_iload hm hl 8 rfl dL_isRound_78 ?_
          refine k_iload hm hl 1 rfl dL_isRound_80 ?_
          refine k_iconstN hm 2 dL_isRound_82 ?_
          refine k_icmpne (tgt := 90) hm dL_isRound_83 (by decide) (by omega) (fun c_79 => ?_) (fun c_79 => ?_)
          · refine k_iconstN hm 0 dL_isRound_90 ?_
            refine k_iaddN hm dL_isRound_91 ?_
            refine k_rwV (y := vN (cnt (K r) 2 (i + 1))) (by simp only [cnt]; rw [if_neg (by omega)]) ?_
            refine k_istore hm hl [(7, vN (cnt (K r) 2 (i + 1))), (6, vN (cnt (K r) 1 (i + 1))), (15, vN ((K r) i)), (0, .ref (o)), (1, .ref (ga)), (2, .ref (ma)), (3, .ref (wa)), (4, vN (r)), (5, vN (sumM (K r) (w r))), (8, vZ (fi)), (9, vZ (la)), (10, vN (fa)), (11, vN (ne)), (12, vN (mi)), (13, vN (1)), (14, vN (i))] (by decide) rfl dL_isRound_92 (fun ls hl => ?_)
            refine k_iload hm hl 13 rfl dL_isRound_94 ?_
            refine k_ifeq (tgt := 123) hm dL_isRound_96 (by decide) (by omega) (fun c_80 => ?_) (fun c_80 => ?_)
            · refine k_iconstN hm 0 dL_isRound_123 ?_
              refine k_istore hm hl [(12, vN (0)), (7, vN (cnt (K r) 2 (i + 1))), (6, vN (cnt (K r) 1 (i + 1))), (15, vN ((K r) i)), (0, .ref (o)), (1, .ref (ga)), (2, .ref (ma)), (3, .ref (wa)), (4, vN (r)), (5, vN (sumM (K r) (w r))), (8, vZ (fi)), (9, vZ (la)), (10, vN (fa)), (11, vN (ne)), (13, vN (1)), (14, vN (i))] (by decide) rfl dL_isRound_124 (fun ls hl => ?_)
              exact join_126  0 ⟨by omega, fun q => absurd q (by omega), fun q => absurd (hmi.2.mpr (fun j z => q j (by omega))) (by omega)⟩ _ _ _ hw (lv_sub hl [4, 5, 6, 7, 8, 9, 2, 1, 10, 11, 12, 13, 0, 14, 15, 3] rfl)
            · refine k_iload hm hl 2 rfl dL_isRound_99 ?_
              refine k_aload_n hm hl 6 rfl dL_isRound_101 ?_
              refine k_iload hm hl 7 rfl dL_isRound_102 ?_
              refine k_aload_n hm hl 5 rfl dL_isRound_104 ?_
              refine k_iload hm hl 7 rfl dL_isRound_105 ?_
              refine k_ialdN hm hw 14 rfl (by omega) dL_isRound_107 ?_
              refine k_rwV (y := vN (w r)) (by rw [hk.1]) ?_
              refine k_iconstN hm 1 dL_isRound_108 ?_
              refine k_isubN hm (by omega) dL_isRound_109 ?_
              refine k_iload hm hl 15 rfl dL_isRound_110 ?_
              refine k_isubN hm (by omega) dL_isRound_112 ?_
              refine k_callSr (n := 3) (As := [.ref (wa), vN (r), vN (((w r) - 1) - i)]) (rest := [vN ((K r) i)]) hm hw hl (c_l_kind l G wa wf r (((w r) - 1) - i) (K r) (w r) hk.2 (by omega) (by first | assumption | omega)) gL_isRound_L_kind rfl (by decide +kernel) ⟨by decide, by decide⟩ [15] (by decide) rfl rfl rfl (by simp [Value.category]) ⟨(by show _ ≤ 2; omega), (by show _ ≤ 12; omega)⟩ dL_isRound_113 (fun v H locs hp hw => ?_)
              obtain rfl := hp
              refine W.eq (g2 := F0 m 116 ls [vN ((K r) (((w r) - 1) - i)), vN ((K r) i)]) rfl ?_
              refine k_icmpne (tgt := 123) hm dL_isRound_116 (by decide) (by omega) (fun c_82 => ?_) (fun c_82 => ?_)
              · refine k_iconstN hm 0 dL_isRound_123 ?_
                refine k_istore hm hl [(12, vN (0)), (7, vN (cnt (K r) 2 (i + 1))), (6, vN (cnt (K r) 1 (i + 1))), (15, vN ((K r) i)), (0, .ref (o)), (1, .ref (ga)), (2, .ref (ma)), (3, .ref (wa)), (4, vN (r)), (5, vN (sumM (K r) (w r))), (8, vZ (fi)), (9, vZ (la)), (10, vN (fa)), (11, vN (ne)), (13, vN (1)), (14, vN (i))] (by decide) rfl dL_isRound_124 (fun ls hl => ?_)
                exact join_126  0 ⟨by omega, fun q => absurd q (by omega), fun q => absurd (q i (by omega)) (by omega)⟩ _ _ _ hw (lv_sub hl [4, 5, 6, 7, 8, 9, 2, 1, 10, 11, 12, 13, 0, 14, 15, 3] rfl)
              · refine k_iconstN hm 1 dL_isRound_119 ?_
                refine k_goto (tgt := 124) hm dL_isRound_120 (by decide) ?_
                refine k_istore hm hl [(12, vN (1)), (7, vN (cnt (K r) 2 (i + 1))), (6, vN (cnt (K r) 1 (i + 1))), (15, vN ((K r) i)), (0, .ref (o)), (1, .ref (ga)), (2, .ref (ma)), (3, .ref (wa)), (4, vN (r)), (5, vN (sumM (K r) (w r))), (8, vZ (fi)), (9, vZ (la)), (10, vN (fa)), (11, vN (ne)), (13, vN (1)), (14, vN (i))] (by decide) rfl dL_isRound_124 (fun ls hl => ?_)
                exact join_126  1 ⟨by omega, fun _ j z => by rcases Nat.lt_or_ge j i with y1 | y1; exact hmi.2.mp (by omega) j y1; rw [show j = i by omega]; omega, fun _ => rfl⟩ _ _ _ hw (lv_sub hl [4, 5, 6, 7, 8, 9, 2, 1, 10, 11, 12, 13, 0, 14, 15, 3] rfl)
          · refine k_iconstN hm 1 dL_isRound_86 ?_
            refine k_goto (tgt := 91) hm dL_isRound_87 (by decide) ?_
            refine k_iaddN hm dL_isRound_91 ?_
            refine k_rwV (y := vN (cnt (K r) 2 (i + 1))) (by simp only [cnt]; rw [if_pos (by omega)]) ?_
            refine k_istore hm hl [(7, vN (cnt (K r) 2 (i + 1))), (6, vN (cnt (K r) 1 (i + 1))), (15, vN ((K r) i)), (0, .ref (o)), (1, .ref (ga)), (2, .ref (ma)), (3, .ref (wa)), (4, vN (r)), (5, vN (sumM (K r) (w r))), (8, vZ (fi)), (9, vZ (la)), (10, vN (fa)), (11, vN (ne)), (12, vN (mi)), (13, vN (1)), (14, vN (i))] (by decide) rfl dL_isRound_92 (fun ls hl => ?_)
            refine k_iload hm hl 13 rfl dL_isRound_94 ?_
            refine k_ifeq (tgt := 123) hm dL_isRound_96 (by decide) (by omega) (fun c_83 => ?_) (fun c_83 => ?_)
            · refine k_iconstN hm 0 dL_isRound_123 ?_
              refine k_istore hm hl [(12, vN (0)), (7, vN (cnt (K r) 2 (i + 1))), (6, vN (cnt (K r) 1 (i + 1))), (15, vN ((K r) i)), (0, .ref (o)), (1, .ref (ga)), (2, .ref (ma)), (3, .ref (wa)), (4, vN (r)), (5, vN (sumM (K r) (w r))), (8, vZ (fi)), (9, vZ (la)), (10, vN (fa)), (11, vN (ne)), (13, vN (1)), (14, vN (i))] (by decide) rfl dL_isRound_124 (fun ls hl => ?_)
              exact join_126  0 ⟨by omega, fun q => absurd q (by omega), fun q => absurd (hmi.2.mpr (fun j z => q j (by omega))) (by omega)⟩ _ _ _ hw (lv_sub hl [4, 5, 6, 7, 8, 9, 2, 1, 10, 11, 12, 13, 0, 14, 15, 3] rfl)
            · refine k_iload hm hl 2 rfl dL_isRound_99 ?_
              refine k_aload_n hm hl 6 rfl dL_isRound_101 ?_
              refine k_iload hm hl 7 rfl dL_isRound_102 ?_
              refine k_aload_n hm hl 5 rfl dL_isRound_104 ?_
              refine k_iload hm hl 7 rfl dL_isRound_105 ?_
              refine k_ialdN hm hw 14 rfl (by omega) dL_isRound_107 ?_
              refine k_rwV (y := vN (w r)) (by rw [hk.1]) ?_
              refine k_iconstN hm 1 dL_isRound_108 ?_
              refine k_isubN hm (by omega) dL_isRound_109 ?_
              refine k_iload hm hl 15 rfl dL_isRound_110 ?_
              refine k_isubN hm (by omega) dL_isRound_112 ?_
              refine k_callSr (n := 3) (As := [.ref (wa), vN (r), vN (((w r) - 1) - i)]) (rest := [vN ((K r) i)]) hm hw hl (c_l_kind l G wa wf r (((w r) - 1) - i) (K r) (w r) hk.2 (by omega) (by first | assumption | omega)) gL_isRound_L_kind rfl (by decide +kernel) ⟨by decide, by decide⟩ [15] (by decide) rfl rfl rfl (by simp [Value.category]) ⟨(by show _ ≤ 2; omega), (by show _ ≤ 12; omega)⟩ dL_isRound_113 (fun v H locs hp hw => ?_)
              obtain rfl := hp
              refine W.eq (g2 := F0 m 116 ls [vN ((K r) (((w r) - 1) - i)), vN ((K r) i)]) rfl ?_
              refine k_icmpne (tgt := 123) hm dL_isRound_116 (by decide) (by omega) (fun c_85 => ?_) (fun c_85 => ?_)
              · refine k_iconstN hm 0 dL_isRound_123 ?_
                refine k_istore hm hl [(12, vN (0)), (7, vN (cnt (K r) 2 (i + 1))), (6, vN (cnt (K r) 1 (i + 1))), (15, vN ((K r) i)), (0, .ref (o)), (1, .ref (ga)), (2, .ref (ma)), (3, .ref (wa)), (4, vN (r)), (5, vN (sumM (K r) (w r))), (8, vZ (fi)), (9, vZ (la)), (10, vN (fa)), (11, vN (ne)), (13, vN (1)), (14, vN (i))] (by decide) rfl dL_isRound_124 (fun ls hl => ?_)
                exact join_126  0 ⟨by omega, fun q => absurd q (by omega), fun q => absurd (q i (by omega)) (by omega)⟩ _ _ _ hw (lv_sub hl [4, 5, 6, 7, 8, 9, 2, 1, 10, 11, 12, 13, 0, 14, 15, 3] rfl)
              · refine k_iconstN hm 1 dL_isRound_119 ?_
                refine k_goto (tgt := 124) hm dL_isRound_120 (by decide) ?_
                refine k_istore hm hl [(12, vN (1)), (7, vN (cnt (K r) 2 (i + 1))), (6, vN (cnt (K r) 1 (i + 1))), (15, vN ((K r) i)), (0, .ref (o)), (1, .ref (ga)), (2, .ref (ma)), (3, .ref (wa)), (4, vN (r)), (5, vN (sumM (K r) (w r))), (8, vZ (fi)), (9, vZ (la)), (10, vN (fa)), (11, vN (ne)), (13, vN (1)), (14, vN (i))] (by decide) rfl dL_isRound_124 (fun ls hl => ?_)
                exact join_126  1 ⟨by omega, fun _ j z => by rcases Nat.lt_or_ge j i with y1 | y1; exact hmi.2.mp (by omega) j y1; rw [show j = i by omega]; omega, fun _ => rfl⟩ _ _ _ hw (lv_sub hl [4, 5, 6, 7, 8, 9, 2, 1, 10, 11, 12, 13, 0, 14, 15, 3] rfl)
        · refine k_iconstN hm 1 dL_isRound_70 ?_
          refine k_goto (tgt := 75) hm dL_isRound_71 (by decide) ?_
          refine k_iaddN hm dL_isRound_75 ?_
          refine k_rwV (y := vN (cnt (K r) 1 (i + 1))) (by simp only [cnt]; rw [if_pos (by omega)]) ?_
          refine k_istore hm hl [(6, vN (cnt (K r) 1 (i + 1))), (15, vN ((K r) i)), (0, .ref (o)), (1, .ref (ga)), (2, .ref (ma)), (3, .ref (wa)), (4, vN (r)), (5, vN (sumM (K r) (w r))), (7, vN (cnt (K r) 2 i)), (8, vZ (fi)), (9, vZ (la)), (10, vN (fa)), (11, vN (ne)), (12, vN (mi)), (13, vN (1)), (14, vN (i))] (by decide) rfl dL_isRound_76 (fun ls hl => ?_)
          refine k_iload hm hl 8 rfl dL_isRound_78 ?_
          refine k_iload hm hl 1 rfl dL_isRound_80 ?_
          refine k_iconstN hm 2 dL_isRound_82 ?_
          refine k_icmpne (tgt := 90) hm dL_isRound_83 (by decide) (by omega) (fun c_86 => ?_) (fun c_86 => ?_)
          · refine k_iconstN hm 0 dL_isRound_90 ?_
            refine k_iaddN hm dL_isRound_91 ?_
            refine k_rwV (y := vN (cnt (K r) 2 (i + 1))) (by simp only [cnt]; rw [if_neg (by omega)]) ?_
            refine k_istore hm hl [(7, vN (cnt (K r) 2 (i + 1))), (6, vN (cnt (K r) 1 (i + 1))), (15, vN ((K r) i)), (0, .ref (o)), (1, .ref (ga)), (2, .ref (ma)), (3, .ref (wa)), (4, vN (r)), (5, vN (sumM (K r) (w r))), (8, vZ (fi)), (9, vZ (la)), (10, vN (fa)), (11, vN (ne)), (12, vN (mi)), (13, vN (1)), (14, vN (i))] (by decide) rfl dL_isRound_92 (fun ls hl => ?_)
            refine k_iload hm hl 13 rfl dL_isRound_94 ?_
            refine k_ifeq (tgt := 123) hm dL_isRound_96 (by decide) (by omega) (fun c_87 => ?_) (fun c_87 => ?_)
            · refine k_iconstN hm 0 dL_isRound_123 ?_
              refine k_istore hm hl [(12, vN (0)), (7, vN (cnt (K r) 2 (i + 1))), (6, vN (cnt (K r) 1 (i + 1))), (15, vN ((K r) i)), (0, .ref (o)), (1, .ref (ga)), (2, .ref (ma)), (3, .ref (wa)), (4, vN (r)), (5, vN (sumM (K r) (w r))), (8, vZ (fi)), (9, vZ (la)), (10, vN (fa)), (11, vN (ne)), (13, vN (1)), (14, vN (i))] (by decide) rfl dL_isRound_124 (fun ls hl => ?_)
              exact join_126  0 ⟨by omega, fun q => absurd q (by omega), fun q => absurd (hmi.2.mpr (fun j z => q j (by omega))) (by omega)⟩ _ _ _ hw (lv_sub hl [4, 5, 6, 7, 8, 9, 2, 1, 10, 11, 12, 13, 0, 14, 15, 3] rfl)
            · refine k_iload hm hl 2 rfl dL_isRound_99 ?_
              refine k_aload_n hm hl 6 rfl dL_isRound_101 ?_
              refine k_iload hm hl 7 rfl dL_isRound_102 ?_
              refine k_aload_n hm hl 5 rfl dL_isRound_104 ?_
              refine k_iload hm hl 7 rfl dL_isRound_105 ?_
              refine k_ialdN hm hw 14 rfl (by omega) dL_isRound_107 ?_
              refine k_rwV (y := vN (w r)) (by rw [hk.1]) ?_
              refine k_iconstN hm 1 dL_isRound_108 ?_
              refine k_isubN hm (by omega) dL_isRound_109 ?_
              refine k_iload hm hl 15 rfl dL_isRound_110 ?_
              refine k_isubN hm (by omega) dL_isRound_112 ?_
              refine k_callSr (n := 3) (As := [.ref (wa), vN (r), vN (((w r) - 1) - i)]) (rest := [vN ((K r) i)]) hm hw hl (c_l_kind l G wa wf r (((w r) - 1) - i) (K r) (w r) hk.2 (by omega) (by first | assumption | omega)) gL_isRound_L_kind rfl (by decide +kernel) ⟨by decide, by decide⟩ [15] (by decide) rfl rfl rfl (by simp [Value.category]) ⟨(by show _ ≤ 2; omega), (by show _ ≤ 12; omega)⟩ dL_isRound_113 (fun v H locs hp hw => ?_)
              obtain rfl := hp
              refine W.eq (g2 := F0 m 116 ls [vN ((K r) (((w r) - 1) - i)), vN ((K r) i)]) rfl ?_
              refine k_icmpne (tgt := 123) hm dL_isRound_116 (by decide) (by omega) (fun c_89 => ?_) (fun c_89 => ?_)
              · refine k_iconstN hm 0 dL_isRound_123 ?_
                refine k_istore hm hl [(12, vN (0)), (7, vN (cnt (K r) 2 (i + 1))), (6, vN (cnt (K r) 1 (i + 1))), (15, vN ((K r) i)), (0, .ref (o)), (1, .ref (ga)), (2, .ref (ma)), (3, .ref (wa)), (4, vN (r)), (5, vN (sumM (K r) (w r))), (8, vZ (fi)), (9, vZ (la)), (10, vN (fa)), (11, vN (ne)), (13, vN (1)), (14, vN (i))] (by decide) rfl dL_isRound_124 (fun ls hl => ?_)
                exact join_126  0 ⟨by omega, fun q => absurd q (by omega), fun q => absurd (q i (by omega)) (by omega)⟩ _ _ _ hw (lv_sub hl [4, 5, 6, 7, 8, 9, 2, 1, 10, 11, 12, 13, 0, 14, 15, 3] rfl)
              · refine k_iconstN hm 1 dL_isRound_119 ?_
                refine k_goto (tgt := 124) hm dL_isRound_120 (by decide) ?_
                refine k_istore hm hl [(12, vN (1)), (7, vN (cnt (K r) 2 (i + 1))), (6, vN (cnt (K r) 1 (i + 1))), (15, vN ((K r) i)), (0, .ref (o)), (1, .ref (ga)), (2, .ref (ma)), (3, .ref (wa)), (4, vN (r)), (5, vN (sumM (K r) (w r))), (8, vZ (fi)), (9, vZ (la)), (10, vN (fa)), (11, vN (ne)), (13, vN (1)), (14, vN (i))] (by decide) rfl dL_isRound_124 (fun ls hl => ?_)
                exact join_126  1 ⟨by omega, fun _ j z => by rcases Nat.lt_or_ge j i with y1 | y1; exact hmi.2.mp (by omega) j y1; rw [show j = i by omega]; omega, fun _ => rfl⟩ _ _ _ hw (lv_sub hl [4, 5, 6, 7, 8, 9, 2, 1, 10, 11, 12, 13, 0, 14, 15, 3] rfl)
          · refine k_iconstN hm 1 dL_isRound_86 ?_
            refine k_goto (tgt := 91) hm dL_isRound_87 (by decide) ?_
            refine k_iaddN hm dL_isRound_91 ?_
            refine k_rwV (y := vN (cnt (K r) 2 (i + 1))) (by simp only [cnt]; rw [if_pos (by omega)]) ?_
            refine k_istore hm hl [(7, vN (cnt (K r) 2 (i + 1))), (6, vN (cnt (K r) 1 (i + 1))), (15, vN ((K r) i)), (0, .ref (o)), (1, .ref (ga)), (2, .ref (ma)), (3, .ref (wa)), (4, vN (r)), (5, vN (sumM (K r) (w r))), (8, vZ (fi)), (9, vZ (la)), (10, vN (fa)), (11, vN (ne)), (12, vN (mi)), (13, vN (1)), (14, vN (i))] (by decide) rfl dL_isRound_92 (fun ls hl => ?_)
            refine k_iload hm hl 13 rfl dL_isRound_94 ?_
            refine k_ifeq (tgt := 123) hm dL_isRound_96 (by decide) (by omega) (fun c_90 => ?_) (fun c_90 => ?_)
            · refine k_iconstN hm 0 dL_isRound_123 ?_
              refine k_istore hm hl [(12, vN (0)), (7, vN (cnt (K r) 2 (i + 1))), (6, vN (cnt (K r) 1 (i + 1))), (15, vN ((K r) i)), (0, .ref (o)), (1, .ref (ga)), (2, .ref (ma)), (3, .ref (wa)), (4, vN (r)), (5, vN (sumM (K r) (w r))), (8, vZ (fi)), (9, vZ (la)), (10, vN (fa)), (11, vN (ne)), (13, vN (1)), (14, vN (i))] (by decide) rfl dL_isRound_124 (fun ls hl => ?_)
              exact join_126  0 ⟨by omega, fun q => absurd q (by omega), fun q => absurd (hmi.2.mpr (fun j z => q j (by omega))) (by omega)⟩ _ _ _ hw (lv_sub hl [4, 5, 6, 7, 8, 9, 2, 1, 10, 11, 12, 13, 0, 14, 15, 3] rfl)
            · refine k_iload hm hl 2 rfl dL_isRound_99 ?_
              refine k_aload_n hm hl 6 rfl dL_isRound_101 ?_
              refine k_iload hm hl 7 rfl dL_isRound_102 ?_
              refine k_aload_n hm hl 5 rfl dL_isRound_104 ?_
              refine k_iload hm hl 7 rfl dL_isRound_105 ?_
              refine k_ialdN hm hw 14 rfl (by omega) dL_isRound_107 ?_
              refine k_rwV (y := vN (w r)) (by rw [hk.1]) ?_
              refine k_iconstN hm 1 dL_isRound_108 ?_
              refine k_isubN hm (by omega) dL_isRound_109 ?_
              refine k_iload hm hl 15 rfl dL_isRound_110 ?_
              refine k_isubN hm (by omega) dL_isRound_112 ?_
              refine k_callSr (n := 3) (As := [.ref (wa), vN (r), vN (((w r) - 1) - i)]) (rest := [vN ((K r) i)]) hm hw hl (c_l_kind l G wa wf r (((w r) - 1) - i) (K r) (w r) hk.2 (by omega) (by first | assumption | omega)) gL_isRound_L_kind rfl (by decide +kernel) ⟨by decide, by decide⟩ [15] (by decide) rfl rfl rfl (by simp [Value.category]) ⟨(by show _ ≤ 2; omega), (by show _ ≤ 12; omega)⟩ dL_isRound_113 (fun v H locs hp hw => ?_)
              obtain rfl := hp
              refine W.eq (g2 := F0 m 116 ls [vN ((K r) (((w r) - 1) - i)), vN ((K r) i)]) rfl ?_
              refine k_icmpne (tgt := 123) hm dL_isRound_116 (by decide) (by omega) (fun c_92 => ?_) (fun c_92 => ?_)
              · refine k_iconstN hm 0 dL_isRound_123 ?_
                refine k_istore hm hl [(12, vN (0)), (7, vN (cnt (K r) 2 (i + 1))), (6, vN (cnt (K r) 1 (i + 1))), (15, vN ((K r) i)), (0, .ref (o)), (1, .ref (ga)), (2, .ref (ma)), (3, .ref (wa)), (4, vN (r)), (5, vN (sumM (K r) (w r))), (8, vZ (fi)), (9, vZ (la)), (10, vN (fa)), (11, vN (ne)), (13, vN (1)), (14, vN (i))] (by decide) rfl dL_isRound_124 (fun ls hl => ?_)
                exact join_126  0 ⟨by omega, fun q => absurd q (by omega), fun q => absurd (q i (by omega)) (by omega)⟩ _ _ _ hw (lv_sub hl [4, 5, 6, 7, 8, 9, 2, 1, 10, 11, 12, 13, 0, 14, 15, 3] rfl)
              · refine k_iconstN hm 1 dL_isRound_119 ?_
                refine k_goto (tgt := 124) hm dL_isRound_120 (by decide) ?_
                refine k_istore hm hl [(12, vN (1)), (7, vN (cnt (K r) 2 (i + 1))), (6, vN (cnt (K r) 1 (i + 1))), (15, vN ((K r) i)), (0, .ref (o)), (1, .ref (ga)), (2, .ref (ma)), (3, .ref (wa)), (4, vN (r)), (5, vN (sumM (K r) (w r))), (8, vZ (fi)), (9, vZ (la)), (10, vN (fa)), (11, vN (ne)), (13, vN (1)), (14, vN (i))] (by decide) rfl dL_isRound_124 (fun ls hl => ?_)
                exact join_126  1 ⟨by omega, fun _ j z => by rcases Nat.lt_or_ge j i with y1 | y1; exact hmi.2.mp (by omega) j y1; rw [show j = i by omega]; omega, fun _ => rfl⟩ _ _ _ hw (lv_sub hl [4, 5, 6, 7, 8, 9, 2, 1, 10, 11, 12, 13, 0, 14, 15, 3] rfl)
  exact loop_38 (w r - 0 + 1) (-1) (-1) 0 999 1 0 (by first | assumption | omega) (dLw_0 _) ⟨by omega, fun _ j q => absurd q (by omega), fun _ => rfl⟩ _ _ _ (Nat.lt_succ_self _) hw (lv_sub hl [10, 11, 12, 13, 14, 9, 8, 7, 6, 5, 4, 3, 2, 1, 0] rfl)
