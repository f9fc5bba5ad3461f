/-! THE CLAIM OUT OF ONE WALK OF THE LAW'S BODY. Your part is whole_start (and what it stands on); all else here is the same for every law, but numbers. -/
def R_law : String := "CrochetRoundsLaw"
def lw_P (b : Addr) (xs : List Int32) (args : Array Value) (s : State) : Prop := args = #[.ref b] ∧ s.IntsAt b xs ∧ xs.length ≤ 260 ∧ (Jvm.Cond.and given_1 narrow_1).before args s = true
def lw_Q (_ : Array Value) (s : State) (o : Outcome) (t : State) : Prop := o = .returned (some (.int 1)) ∧ Framed s o t [] 600130 7301080
def lw_Z (below : List Frame) (a : Array Value) (s : State) : State → Prop := fun t => ∃ o, t.status = .running ∧ Ended t below o ∧ lw_Q a s o t
/-- the law's own end, with 1 on the stack, nothing written that was there before, its room as the claim has it -/
theorem lw_ret {p : Program} {l : Launch} {e : Env} {s : State} {m : MethodId} {below : List Frame} {meth : Method} {c : Code} {b : Nat} (hx : p.tables.exec = Jvm.exec) (hb : c.code = code) (hr : meth.sig.returnType = ret) (hlocks : meth.locks = false) {pc : Nat} {H : Heap} {ls : Array Slot} (hdg : decode code pc = .ok (.ireturn, 1)) : W p l e room_1 s m #[Value.ref b] below meth c H [] 600130 7301080 (lw_Z below #[Value.ref b] s) (F0 m pc ls [.int 1]) := by
  intro T hT X
  obtain ⟨fs, hret, hrun, hended, hW, hframe⟩ := X.leave (v := some (.int 1)) (hlocks := hlocks) (fun h => by rw [hr] at h; cases h)
  have hmeth' : T.vm.method? m = some meth := X.method'
  refine ⟨T.setFrames fs, ?_, .returned (some (.int 1)), hrun, hended, rfl, ⟨_, rfl⟩, hW, hframe⟩
  jvm_step X.here [X.here.top, hx, hb, hdg, hmeth', hr, ret, narrow_b1]
  (try refine ⟨rfl, ?_⟩); (try refine ⟨rfl, ?_⟩)
  first | (intro acts; rw [hret _ acts rfl rfl rfl]) | rw [hret _ _ rfl rfl rfl]
  exact Steps.refl _
/-- what holds at the law's entry: the machine, the code, the tables' words (any of lw_tbl by 'hts w (by decide +kernel)'), the script of L ints xs at the cell b, what the Statement gives of the start (any of its parts by flat_of_before) -/
def lw_At (p : Program) (s : State) (m : MethodId) (meth : Method) (c : Code) (b L : Nat) (xs : Nat → Int32) : Prop :=
  p.tables.exec = Jvm.exec ∧ c.code = code ∧ meth.sig.returnType = ret ∧ c.maxLocals = 8 ∧ s.vm.findClass R_law = some m.cls ∧ (∀ w ∈ lw_tbl, w.before #[Value.ref b] s = true) ∧ va_X b L xs s s.heap ∧ b < s.heap.size ∧ meth.locks = false ∧ (Jvm.Cond.and given_1 narrow_1).before #[Value.ref b] s = true

theorem law_words {s : State} {b : Nat} (hts0 : ∀ w ∈ lw_tbl, w.before #[Value.ref b] s = true) : kNest s ∧ kBad s ∧ (Cond.stringRef RX6 219 "an argument is out of range").before #[Value.ref b] s = true ∧ (Cond.stringRef RX6 226 "not in this state").before #[Value.ref b] s = true ∧ (Cond.stringRef RX6 231 "the goal is not possible").before #[Value.ref b] s = true ∧ (Cond.stringRef RX6 236 "there is no such thing").before #[Value.ref b] s = true ∧ (Cond.laysStatic Bundle.tN "UNASSIGNED_STACK" Bundle.steD).before #[Value.ref b] s = true ∧ (Cond.laysStatic Bundle.tN "SUPPRESSED_SENTINEL" Bundle.listD).before #[Value.ref b] s = true ∧ (Cond.initialized Bundle.tN).before #[Value.ref b] s = true := by
  have tb : ∀ (k : Nat) (w : Cond), tables_1[k]? = some w → w.before #[Value.ref b] s = true := fun k w h => hts0 w (List.mem_append_right _ (List.mem_of_getElem? h))
  refine ⟨⟨fun q hq => ?_, ?_⟩, fun w hw => ?_, tb 272 _ (by decide +kernel), tb 352 _ (by decide +kernel), tb 478 _ (by decide +kernel), tb 585 _ (by decide +kernel), tb 257 _ (by decide +kernel), tb 259 _ (by decide +kernel), tb 8 _ (by decide +kernel)⟩
  · simp only [kNestL, List.mem_cons, List.not_mem_nil, or_false] at hq
    rcases hq with rfl | rfl | rfl | rfl | rfl | rfl | rfl | rfl
    · exact va_Nw.of rfl (tb 26 _ (by decide +kernel))
    · exact va_Nw.of rfl (tb 76 _ (by decide +kernel))
    · exact va_Nw.of rfl (tb 89 _ (by decide +kernel))
    · exact va_Nw.of rfl (tb 121 _ (by decide +kernel))
    · exact va_Nw.of rfl (tb 146 _ (by decide +kernel))
    · exact va_Nw.of rfl (tb 177 _ (by decide +kernel))
    · exact va_Nw.of rfl (tb 432 _ (by decide +kernel))
    · exact va_Nw.of rfl (tb 441 _ (by decide +kernel))
  · exact va_AO.of (tb 75 (.arrayOver (.object RX4)) (by decide +kernel))
  · simp only [kBadL, List.mem_cons, List.not_mem_nil, or_false] at hw
    rcases hw with rfl | rfl | rfl | rfl | rfl | rfl | rfl
    · exact va_Nw.of rfl (tb 234 _ (by decide +kernel))
    · exact va_Nw.of rfl (tb 236 _ (by decide +kernel))
    · exact va_Nw.of rfl (tb 238 _ (by decide +kernel))
    · exact va_Nw.of rfl (tb 232 _ (by decide +kernel))
    · exact va_Nw.of rfl (tb 345 _ (by decide +kernel))
    · exact va_Nw.of rfl (tb 471 _ (by decide +kernel))
    · exact va_Nw.of rfl (tb 578 _ (by decide +kernel))
theorem arr_ex {s : State} {args : Array Value} {t : FieldType} (ht : ∀ C, t ≠ .object C) (h : (Cond.arrayClass t).before args s = true) : ∃ cA, ArrOfT s cA t ∧ va_RA s cA t := by
  obtain ⟨cA, kA, comp, h1, h2, h3⟩ := Cond.arrayClass_spec h
  refine ⟨cA, fun n z => ⟨fun k h => (by cases h), kA, h2, comp, h3⟩, ?_⟩
  unfold va_RA
  split
  · exact absurd rfl (ht _)
  · exact h1
theorem arrq_ex {s : State} {C : String} (h : va_AO C s) : ∃ cA, ArrOfT s cA (.object C) ∧ va_RA s cA (.object C) := by
  obtain ⟨comp, cA, kA, h1, h2, h3, h4, h5⟩ := Cond.arrayOver_spec (va_AO.use (A := #[]) h)
  exact ⟨cA, fun n z => ⟨fun k h => (by cases h), kA, h3, comp, h4⟩, kA, comp, h3, h4, h1, h5⟩
theorem law_K {s : State} {b : Nat} (hts0 : ∀ w ∈ lw_tbl, w.before #[Value.ref b] s = true) : ∃ G : kG, kK G s := by
  have hts : ∀ w ∈ wsL_law, w.before #[Value.ref b] s = true := fun w h => hts0 w (wsL_law_in w h)
  have hn := (law_words hts0).1
  obtain ⟨d0, e0, k0⟩ := u_known (C := RX0) (T := TX0) (N := 3) (n := 3) hts inlX0 (hts (.instantiable RX0 3) (by decide +kernel))
  obtain ⟨d1, e1, k1⟩ := u_known (C := RX1) (T := TX1) (N := 1) (n := 1) hts inlX1 (hts (.instantiable RX1 1) (by decide +kernel))
  obtain ⟨d2, e2, k2⟩ := u_known (C := RX2) (T := TX2) (N := 1) (n := 1) hts inlX2 (hts (.instantiable RX2 1) (by decide +kernel))
  obtain ⟨d3, e3, k3⟩ := u_known (C := RX3) (T := TX3) (N := 10) (n := 10) hts inlX3 (hts (.instantiable RX3 10) (by decide +kernel))
  obtain ⟨d4, e4, k4⟩ := u_known (C := RX4) (T := TX4) (N := 6) (n := 6) hts inlX4 (hts (.instantiable RX4 6) (by decide +kernel))
  obtain ⟨d5, e5, k5⟩ := u_known (C := RX5) (T := TX5) (N := 4) (n := 4) hts inlX5 (hts (.instantiable RX5 4) (by decide +kernel))
  obtain ⟨d6, e6, k6⟩ := u_known (C := RX6) (T := TX6) (N := 5) (n := 5) hts inlX6 (hts (.instantiable RX6 5) (by decide +kernel))
  obtain ⟨a0, p0, q0⟩ := arr_ex (t := .int) (fun C h => by cases h) (hts (.arrayClass .int) (by decide +kernel))
  obtain ⟨a1, p1, q1⟩ := arr_ex (t := .long) (fun C h => by cases h) (hts (.arrayClass .long) (by decide +kernel))
  obtain ⟨a2, p2, q2⟩ := arrq_ex hn.2
  refine ⟨((fun k => match k with | 0 => d0 | 1 => d1 | 2 => d2 | 3 => d3 | 4 => d4 | 5 => d5 | _ => d6, fun k => match k with | 0 => e0 | 1 => e1 | 2 => e2 | 3 => e3 | 4 => e4 | 5 => e5 | _ => e6), fun k => match k with | 0 => a0 | 1 => a1 | _ => a2), ⟨fun k q hq => ?_, fun k q hq => ?_⟩, hn⟩
  · match k, hq with
    | 0, hq => cases hq; exact k0
    | 1, hq => cases hq; exact k1
    | 2, hq => cases hq; exact k2
    | 3, hq => cases hq; exact k3
    | 4, hq => cases hq; exact k4
    | 5, hq => cases hq; exact k5
    | 6, hq => cases hq; exact k6
    | k + 7, hq => simp [vwCl] at hq
  · match k, hq with
    | 0, hq => cases hq; exact ⟨p0, q0⟩
    | 1, hq => cases hq; exact ⟨p1, q1⟩
    | 2, hq => cases hq; exact ⟨p2, q2⟩
    | k + 3, hq => simp [kT] at hq
theorem law_str {s : State} {args : Array Value} {k : Nat} {tx : String} (h1 : (Cond.stringRef RX6 k tx).before args s = true) (h2 : (Cond.exactly (.string RX6 k) "java/lang/String").before args s = true) : ∃ a, vk_R RX6 k tx a s := by
  obtain ⟨a, c, cA, kA, q1, -⟩ := Cond.exactly_spec h2
  exact ⟨a, vk_R.of h1 q1⟩
theorem law_X {s : State} {b : Nat} (hts0 : ∀ w ∈ lw_tbl, w.before #[Value.ref b] s = true) (hgv : (Jvm.Cond.and given_1 narrow_1).before #[Value.ref b] s = true) : kXs s ∧ kSt (fun q : Nat => s.heap.size ≤ q) s s.heap := by
  obtain ⟨-, hbad, s1, s2, s3, s4, t1, t2, t3⟩ := law_words hts0
  have hg := flat_of_before _ hgv
  exact ⟨⟨hbad, ⟨law_str s1 (hg _ (by decide +kernel)), law_str s2 (hg _ (by decide +kernel)), law_str s3 (hg _ (by decide +kernel)), law_str s4 (hg _ (by decide +kernel))⟩, va_Nc.of (hg (.not (.castable xS xI)) (by decide +kernel)), va_Nc.of (hg (.not (.castable xU xI)) (by decide +kernel)), va_Nc.of (hg (.not (.castable xU xS)) (by decide +kernel)), va_Nc.of (hg (.not (.castable xI xB)) (by decide +kernel))⟩,
    vx_Zqof t1 t3 (hg (.isRef (.static Bundle.tN "UNASSIGNED_STACK" Bundle.steD)) (by decide +kernel)) (fun a h => Nat.not_le.mpr h), vx_Zqof t2 t3 (hg (.isRef (.static Bundle.tN "SUPPRESSED_SENTINEL" Bundle.listD)) (by decide +kernel)) (fun a h => Nat.not_le.mpr h)⟩
theorem rmC_le {x : Nat} (h : x ≤ 600130) : x ≤ room_1.cells := h
theorem rmS_le {x : Nat} (h : x ≤ 7301080) : x ≤ room_1.slots := h
section KROWAM
variable {p : Program} {l : Launch} {e : Env} {R : Room} {s : State} {m : MethodId} {args : Array Value} {below : List Frame} {meth : Method} {c : Code} {H : Heap} {locs : List Loc} {cells slots : Nat} {Q : State → Prop}
variable {cc : ByteArray} {pc nL : Nat} {ls : Array Slot} {rest st : List Value} {Ts : List Cond} {own : String} {ret : Option FieldType} {G : kG} {A : Nat → Prop} {ws wq : va_W} {ll : List (Nat × Value)} {post : Option Value → va_W → Prop} {mc ms : Nat}
theorem k_newL (hm : kM p m c cc nL s args Ts own meth ret) (hw : kW G A s ws H locs) {n : Nat} (h1 : Cond.arrayClass .long ∈ Ts) (hn : n ≤ 10000000) (h4 : cells + 1 ≤ R.cells) (h5 : slots + n ≤ R.slots) (hdg : decode cc pc = .ok (.newarray .long, 2))
    (kk : ∀ (q : Nat) (H1 : Heap), kW G A s (ws ++ [(q, .inl (G.2 1, n, .inr (.inl (fun _ => 0))))]) H1 locs → W p l e R s m args below meth c H1 locs (cells + 1) (slots + n) Q (F0 m (pc + 2) ls (.ref q :: rest))) : W p l e R s m args below meth c H locs cells slots Q (F0 m pc ls (.int (iI (n : Int)) :: rest)) := by
  refine va_newa (D := G.1) (cl := vwCl) (tys := kT G) (atype := .long) (ty := .long) (a0 := (n, .inr (.inl (fun _ => 0)))) hm.1 hm.2.1 (hm.2.2.2.2.1 _ h1) rfl hw.2.2.2.1.1 hw.1 hw.2.1 hw.2.2.1 hw.2.2.2.2 (fun cA => ?_) ?_ ?_ ?_ h4 h5 hdg (fun q cA H1 hK hP hD hS => ?_)
  · rfl
  · intro q
    rw [← iI_0, iI_lt (by omega)] at q; omega
  · rw [iI_clamp (by omega) (by omega)]; rfl
  · show n * 8 ≤ _; omega
  · have e1 := (hK.2 3 (cA, .long) rfl).2
    have e2 := (hw.2.2.2.1.1.2 1 (G.2 1, .long) rfl).2
    have e : cA = G.2 1 := Option.some.inj ((show _ = some cA from e1).symm.trans (show _ = some (G.2 1) from e2))
    subst e
    exact kk q H1 ⟨hP, hD, hS, hw.2.2.2.1, hw.2.2.2.2⟩
end KROWAM
theorem LOk_0 : LOk (nU (nU (nU (nU (fun _ => 0) 0 1) 2 10) 3 20) 4 13) (nU (fun _ => 0) 0 6) (fun _ => 0) 1 false (fun _ _ => 0) (fun _ => 6) yy0 := by
  refine ⟨⟨by decide, rfl, rfl, fun k hk => ?_⟩, fun r hr => ?_⟩
  · rcases (show k = 0 ∨ k = 1 ∨ k = 2 by omega) with rfl | rfl | rfl <;> rfl
  · have e : r = 0 := by omega
    subst e
    exact ⟨rfl, (show 6 ≤ 120 by decide), fun i hi => ⟨Nat.zero_le _, (fd_0 (Nat.mod_lt _ (by decide))).trans lI_0.symm⟩⟩
set_option maxHeartbeats 32000000 in
set_option maxRecDepth 100000 in
theorem law_loop {p : Program} {l : Launch} {e : Env} {s : State} {m : MethodId} {below : List Frame} {meth : Method} {c : Code} {A : Nat → Prop} {G : kG} {Qz : State → Prop} {b Ln tq : Nat} {xs : Nat → Int32} {o : Nat} {P : Nat → Nat} {h : Nat} {T : Nat → Nat} {L : Nat → Nat} {M : Nat → Nat} {hs : Nat} {Q : Nat → Nat → Nat} {ga : Nat} {ma : Nat} {wa : Nat} {tb : Nat → Nat} {tk : Nat → Int} {tc : Nat → Nat} {tn : Nat} {ti : Nat} {tt : Nat} {tu : Nat} {tm : Nat} {tp : Nat} {te : Int} (hQ : Qz = lw_Z below #[Value.ref b] s) (hA0 : A = fun q : Nat => s.heap.size ≤ q) (hm : kM p m c cL_law 8 s #[Value.ref b] wsL_law RL meth ret) (hX : va_X b Ln xs s s.heap) (hbl : b < s.heap.size) (hbA : ¬ A b) (hxs : kXs s) (hst : kSt A s s.heap) (htr : l.stackTraces = false) (hLn : Ln ≤ 260) (htq : tq ≤ 60) (gk : Nat → Nat) (gw : Nat → Nat) (gt : Nat → Nat) (gy : Nat → Nat) (R : Nat) (sp : Bool) (ak : Nat → Nat → Nat) (aw : Nat → Nat → Nat) (au : Nat → Nat → Nat) (ay : Nat → Nat → Nat) (aR : Nat → Nat) (aS : Nat → Bool) (nx : Nat) (sz : Nat) (f : Nat → Nat) (wk : Nat) (sd : Nat) (kd : Nat) (mf : Nat → Nat) (gf : Nat → Nat) (mg : Nat → Nat) (wf : Nat → Int64) (K : Nat → Nat → Nat) (w : Nat → Nat) (y : Nat → Nat) (sv : Nat → PSt) (hok : POk gk gw gt gy R K w y) (hho : HOk ak aw au ay aR aS nx sz sv) (hlo : LOk gf mg wf R sp K w y) (c0 s0 : Nat) (hc0 : c0 ≤ 100 ∧ s0 ≤ 40000) {H : Heap} {locs : List Loc} {ls : Array Slot} (hw : kW G A s (wMain G o P h T L M ++ (wPiece G P gk gw gt gy R sp ++ (wHist G h hs Q ak aw au ay aR aS nx sz ++ (wPat G T tb tk tc tn ti tt tu tm tp te ++ (wPlan G L f wk sd kd ++ (wMk G M mf ++ ([(ga, .inl (G.2 0, 5, .inl (nF gf)))] ++ ([(ma, .inl (G.2 0, 16, .inl (nF mg)))] ++ [(wa, .inl (G.2 1, 64, .inr (.inl wf)))])))))))) H locs) (hl : lv_has ls 8 [(0, .ref (b)), (1, .ref (o)), (2, .ref (ga)), (3, .ref (ma)), (4, .ref (wa)), (5, vN (1)), (6, vN (tq)), (7, vN (0))]) : W p l e room_1 s m #[Value.ref b] below meth c H locs c0 s0 Qz (F0 m 75 ls []) := by
  have loop_75 : ∀ (fu : Nat) (gk : Nat → Nat) (gw : Nat → Nat) (gt : Nat → Nat) (gy : Nat → Nat) (R : Nat) (sp : Bool) (ak : Nat → Nat → Nat) (aw : Nat → Nat → Nat) (au : Nat → Nat → Nat) (ay : Nat → Nat → Nat) (aR : Nat → Nat) (aS : Nat → Bool) (nx : Nat) (sz : Nat) (f : Nat → Nat) (wk : Nat) (sd : Nat) (kd : Nat) (mf : Nat → Nat) (gf : Nat → Nat) (mg : Nat → Nat) (wf : Nat → Int64) (K : Nat → Nat → Nat) (w : Nat → Nat) (y : Nat → Nat) (sv : Nat → PSt) (cl : Nat) (sl : Nat) (kq : Nat) (hok : POk gk gw gt gy R K w y) (hho : HOk ak aw au ay aR aS nx sz sv) (hlo : LOk gf mg wf R sp K w y) (hkq : kq ≤ tq) (hcl : cl ≤ 100 + 40 * kq ∧ sl ≤ 40000 + 400 * kq) (H : Heap) (locs : List Loc) (ls : Array Slot), tq - kq < fu → kW G A s (wMain G o P h T L M ++ (wPiece G P gk gw gt gy R sp ++ (wHist G h hs Q ak aw au ay aR aS nx sz ++ (wPat G T tb tk tc tn ti tt tu tm tp te ++ (wPlan G L f wk sd kd ++ (wMk G M mf ++ ([(ga, .inl (G.2 0, 5, .inl (nF gf)))] ++ ([(ma, .inl (G.2 0, 16, .inl (nF mg)))] ++ [(wa, .inl (G.2 1, 64, .inr (.inl wf)))])))))))) H locs → lv_has ls 8 [(0, .ref (b)), (1, .ref (o)), (2, .ref (ga)), (3, .ref (ma)), (4, .ref (wa)), (5, vN (1)), (6, vN (tq)), (7, vN (kq))] → W p l e room_1 s m #[Value.ref b] below meth c H locs cl sl Qz (F0 m 75 ls []) := by
    intro fu
    induction fu with
    | zero => intro gk gw gt gy R sp ak aw au ay aR aS nx sz f wk sd kd mf gf mg wf K w y sv cl sl kq hok hho hlo hkq hcl H locs ls hfu; exact absurd hfu (Nat.not_lt_zero _)
    | succ fu ih_75 =>
      intro gk gw gt gy R sp ak aw au ay aR aS nx sz f wk sd kd mf gf mg wf K w y sv cl sl kq hok hho hlo hkq hcl H locs ls hfu hw hl
      refine k_iload hm hl 7 rfl dL_law_75 ?_
      refine k_iload hm hl 6 rfl dL_law_77 ?_
      refine k_icmpge (tgt := 137) hm dL_law_79 (by decide) (by omega) (fun c_1 => ?_) (fun c_1 => ?_)
      · refine k_iload hm hl 5 rfl dL_law_137 ?_
        refine k_ifeq (tgt := 169) hm dL_law_139 (by decide) (by omega) (fun c_2 => absurd c_2 (by omega)) (fun c_2 => ?_)
        have hR := hok.1.1
        refine k_aload_n hm hl 1 rfl dL_law_142 ?_
        refine k_iconst (n := -1) hm dL_law_143 ?_
        refine k_callSX (n := 2) (As := [.ref (o), vZ (-1)]) (rest := []) (wr := [(h, .inr (0, [.ref (hs), vN (nx), vN (sz)])), (hs, .inl (G.2 2, 4, .inr (.inr (.inr (.inr (fun j => some (Q j 0))))))), ((Q 0) 0, .inr (4, [.ref ((Q 0) 1), .ref ((Q 0) 3), .ref ((Q 0) 5), .ref ((Q 0) 7), vN (aR 0), vB (aS 0)])), ((Q 0) 1, .inr (2, [.ref ((Q 0) 2)])), ((Q 0) 2, .inl (G.2 0, 4800, .inl (nF (ak 0)))), ((Q 0) 3, .inr (2, [.ref ((Q 0) 4)])), ((Q 0) 4, .inl (G.2 0, 40, .inl (nF (aw 0)))), ((Q 0) 5, .inr (2, [.ref ((Q 0) 6)])), ((Q 0) 6, .inl (G.2 0, 40, .inl (nF (au 0)))), ((Q 0) 7, .inr (2, [.ref ((Q 0) 8)])), ((Q 0) 8, .inl (G.2 0, 3, .inl (nF (ay 0)))), ((Q 1) 0, .inr (4, [.ref ((Q 1) 1), .ref ((Q 1) 3), .ref ((Q 1) 5), .ref ((Q 1) 7), vN (aR 1), vB (aS 1)])), ((Q 1) 1, .inr (2, [.ref ((Q 1) 2)])), ((Q 1) 2, .inl (G.2 0, 4800, .inl (nF (ak 1)))), ((Q 1) 3, .inr (2, [.ref ((Q 1) 4)])), ((Q 1) 4, .inl (G.2 0, 40, .inl (nF (aw 1)))), ((Q 1) 5, .inr (2, [.ref ((Q 1) 6)])), ((Q 1) 6, .inl (G.2 0, 40, .inl (nF (au 1)))), ((Q 1) 7, .inr (2, [.ref ((Q 1) 8)])), ((Q 1) 8, .inl (G.2 0, 3, .inl (nF (ay 1)))), ((Q 2) 0, .inr (4, [.ref ((Q 2) 1), .ref ((Q 2) 3), .ref ((Q 2) 5), .ref ((Q 2) 7), vN (aR 2), vB (aS 2)])), ((Q 2) 1, .inr (2, [.ref ((Q 2) 2)])), ((Q 2) 2, .inl (G.2 0, 4800, .inl (nF (ak 2)))), ((Q 2) 3, .inr (2, [.ref ((Q 2) 4)])), ((Q 2) 4, .inl (G.2 0, 40, .inl (nF (aw 2)))), ((Q 2) 5, .inr (2, [.ref ((Q 2) 6)])), ((Q 2) 6, .inl (G.2 0, 40, .inl (nF (au 2)))), ((Q 2) 7, .inr (2, [.ref ((Q 2) 8)])), ((Q 2) 8, .inl (G.2 0, 3, .inl (nF (ay 2)))), ((Q 3) 0, .inr (4, [.ref ((Q 3) 1), .ref ((Q 3) 3), .ref ((Q 3) 5), .ref ((Q 3) 7), vN (aR 3), vB (aS 3)])), ((Q 3) 1, .inr (2, [.ref ((Q 3) 2)])), ((Q 3) 2, .inl (G.2 0, 4800, .inl (nF (ak 3)))), ((Q 3) 3, .inr (2, [.ref ((Q 3) 4)])), ((Q 3) 4, .inl (G.2 0, 40, .inl (nF (aw 3)))), ((Q 3) 5, .inr (2, [.ref ((Q 3) 6)])), ((Q 3) 6, .inl (G.2 0, 40, .inl (nF (au 3)))), ((Q 3) 7, .inr (2, [.ref ((Q 3) 8)])), ((Q 3) 8, .inl (G.2 0, 3, .inl (nF (ay 3)))), (T 0, .inr (3, [.ref (T 1), .ref (T 3), .ref (T 5), vN (tn), vN (ti), vN (tt), vN (tu), vN (tm), vN (tp), vZ (te)])), (T 1, .inr (2, [.ref (T 2)])), (T 2, .inl (G.2 0, 120, .inl (nF tb))), (T 3, .inr (2, [.ref (T 4)])), (T 4, .inl (G.2 0, 60, .inl (iF tk))), (T 5, .inr (2, [.ref (T 6)])), (T 6, .inl (G.2 0, 60, .inl (nF tc))), (L 0, .inr (5, [.ref (L 1), vN (wk), vN (sd), vN (kd)])), (L 1, .inr (2, [.ref (L 2)])), (L 2, .inl (G.2 0, 120, .inl (nF f))), (M 0, .inr (1, [.ref (M 1)])), (M 1, .inr (2, [.ref (M 2)])), (M 2, .inl (G.2 0, 120, .inl (nF mf))), (ga, .inl (G.2 0, 5, .inl (nF gf))), (ma, .inl (G.2 0, 16, .inl (nF mg))), (wa, .inl (G.2 1, 64, .inr (.inl wf)))]) hm hw hl hxs hst (c_w_value_x l G o h T L M P gk gw gt gy R sp (-1) (by first | assumption | omega) (by first | assumption | omega) (by first | assumption | omega)) gL_law_L_valueOf rfl (by decide +kernel) ⟨by decide, by decide⟩ [0, 1, 2, 3, 4, 5, 6, 7, 8, 9] [10, 11, 12, 13, 14, 15, 16, 17, 18, 19, 20, 21, 22, 23, 24, 25, 26, 27, 28, 29, 30, 31, 32, 33, 34, 35, 36, 37, 38, 39, 40, 41, 42, 43, 44, 45, 46, 47, 48, 49, 50, 51, 52, 53, 54, 55, 56, 57, 58, 59, 60, 61, 62, 63] (by decide) rfl rfl (by decide) (by decide) rfl rfl (by simp [Value.category]) ⟨rmC_le (by omega), rmS_le (by omega)⟩ dL_law_144 (fun v w1 H locs hp hw => ?_)
        obtain ⟨rfl, rfl⟩ := hp
        have hw := hw.sub (ws' := wMain G o P h T L M ++ (wPiece G P gk gw gt gy R sp ++ (wHist G h hs Q ak aw au ay aR aS nx sz ++ (wPat G T tb tk tc tn ti tt tu tm tp te ++ (wPlan G L f wk sd kd ++ (wMk G M mf ++ ([(ga, .inl (G.2 0, 5, .inl (nF gf)))] ++ ([(ma, .inl (G.2 0, 16, .inl (nF mg)))] ++ [(wa, .inl (G.2 1, 64, .inr (.inl wf)))])))))))) [54, 55, 56, 57, 58, 59, 60, 61, 62, 63, 0, 1, 2, 3, 4, 5, 6, 7, 8, 9, 10, 11, 12, 13, 14, 15, 16, 17, 18, 19, 20, 21, 22, 23, 24, 25, 26, 27, 28, 29, 30, 31, 32, 33, 34, 35, 36, 37, 38, 39, 40, 41, 42, 43, 44, 45, 46, 47, 48, 49, 50, 51, 52, 53] (by decide) rfl
        refine W.eq (g2 := F0 m 147 ls [vZ (-30001)]) rfl ?_
        refine k_sipush (n := -30001) hm dL_law_147 rfl ?_
        refine k_icmpne (tgt := 169) hm dL_law_150 (by decide) (by omega) (fun c_4 => absurd c_4 (by omega)) (fun c_4 => ?_)
        refine k_aload_n hm hl 1 rfl dL_law_153 ?_
        refine k_bipushN hm 8 dL_law_154 rfl ?_
        refine k_callSX (n := 2) (As := [.ref (o), vN (8)]) (rest := []) (wr := [(h, .inr (0, [.ref (hs), vN (nx), vN (sz)])), (hs, .inl (G.2 2, 4, .inr (.inr (.inr (.inr (fun j => some (Q j 0))))))), ((Q 0) 0, .inr (4, [.ref ((Q 0) 1), .ref ((Q 0) 3), .ref ((Q 0) 5), .ref ((Q 0) 7), vN (aR 0), vB (aS 0)])), ((Q 0) 1, .inr (2, [.ref ((Q 0) 2)])), ((Q 0) 2, .inl (G.2 0, 4800, .inl (nF (ak 0)))), ((Q 0) 3, .inr (2, [.ref ((Q 0) 4)])), ((Q 0) 4, .inl (G.2 0, 40, .inl (nF (aw 0)))), ((Q 0) 5, .inr (2, [.ref ((Q 0) 6)])), ((Q 0) 6, .inl (G.2 0, 40, .inl (nF (au 0)))), ((Q 0) 7, .inr (2, [.ref ((Q 0) 8)])), ((Q 0) 8, .inl (G.2 0, 3, .inl (nF (ay 0)))), ((Q 1) 0, .inr (4, [.ref ((Q 1) 1), .ref ((Q 1) 3), .ref ((Q 1) 5), .ref ((Q 1) 7), vN (aR 1), vB (aS 1)])), ((Q 1) 1, .inr (2, [.ref ((Q 1) 2)])), ((Q 1) 2, .inl (G.2 0, 4800, .inl (nF (ak 1)))), ((Q 1) 3, .inr (2, [.ref ((Q 1) 4)])), ((Q 1) 4, .inl (G.2 0, 40, .inl (nF (aw 1)))), ((Q 1) 5, .inr (2, [.ref ((Q 1) 6)])), ((Q 1) 6, .inl (G.2 0, 40, .inl (nF (au 1)))), ((Q 1) 7, .inr (2, [.ref ((Q 1) 8)])), ((Q 1) 8, .inl (G.2 0, 3, .inl (nF (ay 1)))), ((Q 2) 0, .inr (4, [.ref ((Q 2) 1), .ref ((Q 2) 3), .ref ((Q 2) 5), .ref ((Q 2) 7), vN (aR 2), vB (aS 2)])), ((Q 2) 1, .inr (2, [.ref ((Q 2) 2)])), ((Q 2) 2, .inl (G.2 0, 4800, .inl (nF (ak 2)))), ((Q 2) 3, .inr (2, [.ref ((Q 2) 4)])), ((Q 2) 4, .inl (G.2 0, 40, .inl (nF (aw 2)))), ((Q 2) 5, .inr (2, [.ref ((Q 2) 6)])), ((Q 2) 6, .inl (G.2 0, 40, .inl (nF (au 2)))), ((Q 2) 7, .inr (2, [.ref ((Q 2) 8)])), ((Q 2) 8, .inl (G.2 0, 3, .inl (nF (ay 2)))), ((Q 3) 0, .inr (4, [.ref ((Q 3) 1), .ref ((Q 3) 3), .ref ((Q 3) 5), .ref ((Q 3) 7), vN (aR 3), vB (aS 3)])), ((Q 3) 1, .inr (2, [.ref ((Q 3) 2)])), ((Q 3) 2, .inl (G.2 0, 4800, .inl (nF (ak 3)))), ((Q 3) 3, .inr (2, [.ref ((Q 3) 4)])), ((Q 3) 4, .inl (G.2 0, 40, .inl (nF (aw 3)))), ((Q 3) 5, .inr (2, [.ref ((Q 3) 6)])), ((Q 3) 6, .inl (G.2 0, 40, .inl (nF (au 3)))), ((Q 3) 7, .inr (2, [.ref ((Q 3) 8)])), ((Q 3) 8, .inl (G.2 0, 3, .inl (nF (ay 3)))), (T 0, .inr (3, [.ref (T 1), .ref (T 3), .ref (T 5), vN (tn), vN (ti), vN (tt), vN (tu), vN (tm), vN (tp), vZ (te)])), (T 1, .inr (2, [.ref (T 2)])), (T 2, .inl (G.2 0, 120, .inl (nF tb))), (T 3, .inr (2, [.ref (T 4)])), (T 4, .inl (G.2 0, 60, .inl (iF tk))), (T 5, .inr (2, [.ref (T 6)])), (T 6, .inl (G.2 0, 60, .inl (nF tc))), (L 0, .inr (5, [.ref (L 1), vN (wk), vN (sd), vN (kd)])), (L 1, .inr (2, [.ref (L 2)])), (L 2, .inl (G.2 0, 120, .inl (nF f))), (M 0, .inr (1, [.ref (M 1)])), (M 1, .inr (2, [.ref (M 2)])), (M 2, .inl (G.2 0, 120, .inl (nF mf))), (ga, .inl (G.2 0, 5, .inl (nF gf))), (ma, .inl (G.2 0, 16, .inl (nF mg))), (wa, .inl (G.2 1, 64, .inr (.inl wf)))]) hm hw hl hxs hst (c_w_value_x l G o h T L M P gk gw gt gy R sp ((8 : Nat) : Int) (by first | assumption | omega) (by first | assumption | omega) (by first | assumption | omega)) gL_law_L_valueOf rfl (by decide +kernel) ⟨by decide, by decide⟩ [0, 1, 2, 3, 4, 5, 6, 7, 8, 9] [10, 11, 12, 13, 14, 15, 16, 17, 18, 19, 20, 21, 22, 23, 24, 25, 26, 27, 28, 29, 30, 31, 32, 33, 34, 35, 36, 37, 38, 39, 40, 41, 42, 43, 44, 45, 46, 47, 48, 49, 50, 51, 52, 53, 54, 55, 56, 57, 58, 59, 60, 61, 62, 63] (by decide) rfl rfl (by decide) (by decide) rfl rfl (by simp [Value.category]) ⟨rmC_le (by omega), rmS_le (by omega)⟩ dL_law_156 (fun v w1 H locs hp hw => ?_)
        obtain ⟨rfl, rfl⟩ := hp
        have hw := hw.sub (ws' := wMain G o P h T L M ++ (wPiece G P gk gw gt gy R sp ++ (wHist G h hs Q ak aw au ay aR aS nx sz ++ (wPat G T tb tk tc tn ti tt tu tm tp te ++ (wPlan G L f wk sd kd ++ (wMk G M mf ++ ([(ga, .inl (G.2 0, 5, .inl (nF gf)))] ++ ([(ma, .inl (G.2 0, 16, .inl (nF mg)))] ++ [(wa, .inl (G.2 1, 64, .inr (.inl wf)))])))))))) [54, 55, 56, 57, 58, 59, 60, 61, 62, 63, 0, 1, 2, 3, 4, 5, 6, 7, 8, 9, 10, 11, 12, 13, 14, 15, 16, 17, 18, 19, 20, 21, 22, 23, 24, 25, 26, 27, 28, 29, 30, 31, 32, 33, 34, 35, 36, 37, 38, 39, 40, 41, 42, 43, 44, 45, 46, 47, 48, 49, 50, 51, 52, 53] (by decide) rfl
        refine W.eq (g2 := F0 m 159 ls [vZ (-30001)]) rfl ?_
        refine k_sipush (n := -30001) hm dL_law_159 rfl ?_
        refine k_icmpne (tgt := 169) hm dL_law_162 (by decide) (by omega) (fun c_6 => absurd c_6 (by omega)) (fun c_6 => ?_)
        refine k_iconstN hm 1 dL_law_165 ?_
        refine k_goto (tgt := 170) hm dL_law_166 (by decide) ?_
        refine W.widen (k := 600130) (n := 7301080) (by omega) (by omega) ?_
        refine va_forget (fun q hq => by have z := hw.2.2.1.2.2 q hq; rw [hA0] at z; exact z) ?_
        subst hQ
        refine W.eq (g2 := F0 m 170 ls [.int 1]) rfl ?_
        exact lw_ret hm.1 hm.2.1 hm.2.2.2.2.2.1 hm.2.2.2.2.2.2 dL_law_170
      · refine k_iload hm hl 5 rfl dL_law_82 ?_
        refine k_ifeq (tgt := 137) hm dL_law_84 (by decide) (by omega) (fun c_7 => absurd c_7 (by omega)) (fun c_7 => ?_)
        refine k_aload_n hm hl 1 rfl dL_law_87 ?_
        refine k_aload_n hm hl 2 rfl dL_law_88 ?_
        refine k_aload_n hm hl 3 rfl dL_law_89 ?_
        refine k_aload hm hl 4 rfl dL_law_90 ?_
        refine k_aload_n hm hl 0 rfl dL_law_92 ?_
        refine k_iconstN hm 1 dL_law_93 ?_
        refine k_iload hm hl 7 rfl dL_law_94 ?_
        refine k_iaddN hm dL_law_96 ?_
        refine k_callCell (k := 1 + kq) (rest := [.ref (wa), .ref (ma), .ref (ga), .ref (o)]) hm hw hl hX hbl hbA (by omega) (by omega) gL_law_L_cell ⟨by decide, by decide⟩ (by simp [Value.category]) ⟨rmC_le (by omega), rmS_le (by omega)⟩ dL_law_97 (fun sx_8 H locs hw => ?_)
        refine W.eq (g2 := F0 m 100 ls [.int (sx_8), .ref (wa), .ref (ma), .ref (ga), .ref (o)]) rfl ?_
        refine k_sipushN hm 7919 dL_law_100 rfl ?_
        refine k_iload hm hl 7 rfl dL_law_103 ?_
        refine k_imulN hm dL_law_105 ?_
        refine lv_ixor hm.1 hm.2.1 dL_law_106 ?_
        refine k_callSY (n := 5) (As := [.ref (o), .ref (ga), .ref (ma), .ref (wa), .int (sx_8 ^^^ iI ((7919 * kq : Nat) : Int))]) (rest := []) (wr := [(T 0, .inr (3, [.ref (T 1), .ref (T 3), .ref (T 5), vN (tn), vN (ti), vN (tt), vN (tu), vN (tm), vN (tp), vZ (te)])), (T 1, .inr (2, [.ref (T 2)])), (T 2, .inl (G.2 0, 120, .inl (nF tb))), (T 3, .inr (2, [.ref (T 4)])), (T 4, .inl (G.2 0, 60, .inl (iF tk))), (T 5, .inr (2, [.ref (T 6)])), (T 6, .inl (G.2 0, 60, .inl (nF tc)))]) hm hw hl hxs hst (c_l_acts l G o P h T L M hs Q ga ma wa gk gw gt gy R sp ak aw au ay aR aS nx sz f wk sd kd mf gf mg wf K w y sv (sx_8 ^^^ iI ((7919 * kq : Nat) : Int)) (by first | assumption | omega) (by first | assumption | omega) (by first | assumption | omega) (by first | assumption | omega)) gL_law_L_acts rfl (by decide +kernel) ⟨by decide, by decide⟩ [0, 1, 2, 3, 4, 5, 6, 7, 8, 9, 10, 11, 12, 13, 14, 15, 16, 17, 18, 19, 20, 21, 22, 23, 24, 25, 26, 27, 28, 29, 30, 31, 32, 33, 34, 35, 36, 37, 38, 39, 40, 41, 42, 43, 44, 45, 46, 47, 55, 56, 57, 58, 59, 60, 61, 62, 63] [48, 49, 50, 51, 52, 53, 54] (by decide) rfl rfl (by decide) (by decide) rfl rfl (by simp [Value.category]) ⟨rmC_le (by omega), rmS_le (by omega)⟩ dL_law_107 (fun v w1 H locs hp hw => ?_)
        obtain ⟨gk2_10, gw2_11, gt2_12, gy2_13, R2_14, sp2_15, ak2_16, aw2_17, au2_18, ay2_19, aR2_20, aS2_21, nx2_22, sz2_23, f2_24, wk2_25, sd2_26, kd2_27, mf2_28, gf2_29, mg2_30, wf2_31, K2_32, w2_33, y2_34, sv2_35, rfl, rfl, hok2_36, hho2_37, hlo2_38⟩ := hp
        have hw := hw.sub (ws' := wMain G o P h T L M ++ (wPiece G P gk2_10 gw2_11 gt2_12 gy2_13 R2_14 sp2_15 ++ (wHist G h hs Q ak2_16 aw2_17 au2_18 ay2_19 aR2_20 aS2_21 nx2_22 sz2_23 ++ (wPat G T tb tk tc tn ti tt tu tm tp te ++ (wPlan G L f2_24 wk2_25 sd2_26 kd2_27 ++ (wMk G M mf2_28 ++ ([(ga, .inl (G.2 0, 5, .inl (nF gf2_29)))] ++ ([(ma, .inl (G.2 0, 16, .inl (nF mg2_30)))] ++ [(wa, .inl (G.2 1, 64, .inr (.inl wf2_31)))])))))))) [7, 8, 9, 10, 11, 12, 13, 14, 15, 16, 17, 18, 19, 20, 21, 22, 23, 24, 25, 26, 27, 28, 29, 30, 31, 32, 33, 34, 35, 36, 37, 38, 39, 40, 41, 42, 43, 44, 45, 46, 47, 48, 49, 50, 51, 52, 53, 54, 0, 1, 2, 3, 4, 5, 6, 55, 56, 57, 58, 59, 60, 61, 62, 63] (by decide) rfl
        refine W.eq (g2 := F0 m 110 ls [vB (true)]) rfl ?_
        refine k_ifeqB (tgt := 128) hm dL_law_110 (by decide) (fun c_39 => absurd c_39 (by decide)) (fun _ => ?_)
        refine k_aload_n hm hl 1 rfl dL_law_113 ?_
        refine k_aload_n hm hl 2 rfl dL_law_114 ?_
        refine k_aload_n hm hl 3 rfl dL_law_115 ?_
        refine k_aload hm hl 4 rfl dL_law_116 ?_
        refine k_callSY (n := 4) (As := [.ref (o), .ref (ga), .ref (ma), .ref (wa)]) (rest := []) (wr := [(h, .inr (0, [.ref (hs), vN (nx2_22), vN (sz2_23)])), (hs, .inl (G.2 2, 4, .inr (.inr (.inr (.inr (fun j => some (Q j 0))))))), ((Q 0) 0, .inr (4, [.ref ((Q 0) 1), .ref ((Q 0) 3), .ref ((Q 0) 5), .ref ((Q 0) 7), vN (aR2_20 0), vB (aS2_21 0)])), ((Q 0) 1, .inr (2, [.ref ((Q 0) 2)])), ((Q 0) 2, .inl (G.2 0, 4800, .inl (nF (ak2_16 0)))), ((Q 0) 3, .inr (2, [.ref ((Q 0) 4)])), ((Q 0) 4, .inl (G.2 0, 40, .inl (nF (aw2_17 0)))), ((Q 0) 5, .inr (2, [.ref ((Q 0) 6)])), ((Q 0) 6, .inl (G.2 0, 40, .inl (nF (au2_18 0)))), ((Q 0) 7, .inr (2, [.ref ((Q 0) 8)])), ((Q 0) 8, .inl (G.2 0, 3, .inl (nF (ay2_19 0)))), ((Q 1) 0, .inr (4, [.ref ((Q 1) 1), .ref ((Q 1) 3), .ref ((Q 1) 5), .ref ((Q 1) 7), vN (aR2_20 1), vB (aS2_21 1)])), ((Q 1) 1, .inr (2, [.ref ((Q 1) 2)])), ((Q 1) 2, .inl (G.2 0, 4800, .inl (nF (ak2_16 1)))), ((Q 1) 3, .inr (2, [.ref ((Q 1) 4)])), ((Q 1) 4, .inl (G.2 0, 40, .inl (nF (aw2_17 1)))), ((Q 1) 5, .inr (2, [.ref ((Q 1) 6)])), ((Q 1) 6, .inl (G.2 0, 40, .inl (nF (au2_18 1)))), ((Q 1) 7, .inr (2, [.ref ((Q 1) 8)])), ((Q 1) 8, .inl (G.2 0, 3, .inl (nF (ay2_19 1)))), ((Q 2) 0, .inr (4, [.ref ((Q 2) 1), .ref ((Q 2) 3), .ref ((Q 2) 5), .ref ((Q 2) 7), vN (aR2_20 2), vB (aS2_21 2)])), ((Q 2) 1, .inr (2, [.ref ((Q 2) 2)])), ((Q 2) 2, .inl (G.2 0, 4800, .inl (nF (ak2_16 2)))), ((Q 2) 3, .inr (2, [.ref ((Q 2) 4)])), ((Q 2) 4, .inl (G.2 0, 40, .inl (nF (aw2_17 2)))), ((Q 2) 5, .inr (2, [.ref ((Q 2) 6)])), ((Q 2) 6, .inl (G.2 0, 40, .inl (nF (au2_18 2)))), ((Q 2) 7, .inr (2, [.ref ((Q 2) 8)])), ((Q 2) 8, .inl (G.2 0, 3, .inl (nF (ay2_19 2)))), ((Q 3) 0, .inr (4, [.ref ((Q 3) 1), .ref ((Q 3) 3), .ref ((Q 3) 5), .ref ((Q 3) 7), vN (aR2_20 3), vB (aS2_21 3)])), ((Q 3) 1, .inr (2, [.ref ((Q 3) 2)])), ((Q 3) 2, .inl (G.2 0, 4800, .inl (nF (ak2_16 3)))), ((Q 3) 3, .inr (2, [.ref ((Q 3) 4)])), ((Q 3) 4, .inl (G.2 0, 40, .inl (nF (aw2_17 3)))), ((Q 3) 5, .inr (2, [.ref ((Q 3) 6)])), ((Q 3) 6, .inl (G.2 0, 40, .inl (nF (au2_18 3)))), ((Q 3) 7, .inr (2, [.ref ((Q 3) 8)])), ((Q 3) 8, .inl (G.2 0, 3, .inl (nF (ay2_19 3)))), (T 0, .inr (3, [.ref (T 1), .ref (T 3), .ref (T 5), vN (tn), vN (ti), vN (tt), vN (tu), vN (tm), vN (tp), vZ (te)])), (T 1, .inr (2, [.ref (T 2)])), (T 2, .inl (G.2 0, 120, .inl (nF tb))), (T 3, .inr (2, [.ref (T 4)])), (T 4, .inl (G.2 0, 60, .inl (iF tk))), (T 5, .inr (2, [.ref (T 6)])), (T 6, .inl (G.2 0, 60, .inl (nF tc))), (L 0, .inr (5, [.ref (L 1), vN (wk2_25), vN (sd2_26), vN (kd2_27)])), (L 1, .inr (2, [.ref (L 2)])), (L 2, .inl (G.2 0, 120, .inl (nF f2_24)))]) hm hw hl hxs hst (c_l_isSo l G o h T L M mf2_28 P gk2_10 gw2_11 gt2_12 gy2_13 R2_14 sp2_15 K2_32 w2_33 y2_34 ga gf2_29 ma mg2_30 wa wf2_31 (by first | assumption | omega) hok2_36 hlo2_38) gL_law_L_isSo rfl (by decide +kernel) ⟨by decide, by decide⟩ [0, 1, 2, 3, 4, 5, 6, 7, 8, 9, 58, 59, 60, 61, 62, 63] [10, 11, 12, 13, 14, 15, 16, 17, 18, 19, 20, 21, 22, 23, 24, 25, 26, 27, 28, 29, 30, 31, 32, 33, 34, 35, 36, 37, 38, 39, 40, 41, 42, 43, 44, 45, 46, 47, 48, 49, 50, 51, 52, 53, 54, 55, 56, 57] (by decide) rfl rfl (by decide) (by decide) rfl rfl (by simp [Value.category]) ⟨rmC_le (by omega), rmS_le (by omega)⟩ dL_law_118 (fun v w1 H locs hp hw => ?_)
        obtain ⟨mf2_41, rfl, rfl⟩ := hp
        have hw := hw.sub (ws' := wMain G o P h T L M ++ (wPiece G P gk2_10 gw2_11 gt2_12 gy2_13 R2_14 sp2_15 ++ (wHist G h hs Q ak2_16 aw2_17 au2_18 ay2_19 aR2_20 aS2_21 nx2_22 sz2_23 ++ (wPat G T tb tk tc tn ti tt tu tm tp te ++ (wPlan G L f2_24 wk2_25 sd2_26 kd2_27 ++ (wMk G M mf2_41 ++ ([(ga, .inl (G.2 0, 5, .inl (nF gf2_29)))] ++ ([(ma, .inl (G.2 0, 16, .inl (nF mg2_30)))] ++ [(wa, .inl (G.2 1, 64, .inr (.inl wf2_31)))])))))))) [48, 49, 50, 51, 52, 53, 54, 55, 56, 57, 0, 1, 2, 3, 4, 5, 6, 7, 8, 9, 10, 11, 12, 13, 14, 15, 16, 17, 18, 19, 20, 21, 22, 23, 24, 25, 26, 27, 28, 29, 30, 31, 32, 33, 34, 35, 36, 37, 38, 39, 40, 41, 42, 43, 44, 45, 46, 47, 58, 59, 60, 61, 62, 63] (by decide) rfl
        refine W.eq (g2 := F0 m 121 ls [vB (true)]) rfl ?_
        refine k_ifeqB (tgt := 128) hm dL_law_121 (by decide) (fun c_42 => absurd c_42 (by decide)) (fun _ => ?_)
        refine k_iconstN hm 1 dL_law_124 ?_
        refine k_goto (tgt := 129) hm dL_law_125 (by decide) ?_
        refine k_istore hm hl [(5, vN (1)), (0, .ref (b)), (1, .ref (o)), (2, .ref (ga)), (3, .ref (ma)), (4, .ref (wa)), (6, vN (tq)), (7, vN (kq))] (by decide) rfl dL_law_129 (fun ls hl => ?_)
        refine k_iincN hm hl 7 1 rfl [(7, vN (kq + 1)), (5, vN (1)), (0, .ref (b)), (1, .ref (o)), (2, .ref (ga)), (3, .ref (ma)), (4, .ref (wa)), (6, vN (tq))] (by decide) rfl dL_law_131 (fun ls hl => ?_)
        refine k_goto (tgt := 75) hm dL_law_134 (by decide) ?_
        exact ih_75  gk2_10 gw2_11 gt2_12 gy2_13 R2_14 sp2_15 ak2_16 aw2_17 au2_18 ay2_19 aR2_20 aS2_21 nx2_22 sz2_23 f2_24 wk2_25 sd2_26 kd2_27 mf2_41 gf2_29 mg2_30 wf2_31 K2_32 w2_33 y2_34 sv2_35 _ _ (kq + 1) hok2_36 hho2_37 hlo2_38 (by omega) (by omega) _ _ _ (by omega) hw (lv_sub hl [2, 3, 4, 5, 6, 1, 7, 0] rfl)
  exact loop_75 (tq - 0 + 1) gk gw gt gy R sp ak aw au ay aR aS nx sz f wk sd kd mf gf mg wf K w y sv _ _ 0 (by first | assumption | omega) (by first | assumption | omega) (by first | assumption | omega) (by omega) (by omega) _ _ _ (Nat.lt_succ_self _) hw (lv_sub hl [0, 1, 2, 3, 4, 5, 6, 7] rfl)
set_option maxHeartbeats 32000000 in
set_option maxRecDepth 100000 in
theorem whole_start {p : Program} {e : Env} {s : State} {m : MethodId} {below : List Frame} {meth : Method} {c : Code} (l : Launch) (hflags : l.flags = flags0) {b L : Nat} {xs : Nat → Int32} (hL : L ≤ 260) (C0 : lw_At p s m meth c b L xs) : W p l e room_1 s m #[Value.ref b] below meth c s.heap [] 0 0 (lw_Z below #[Value.ref b] s) (entryFrame m ([Value.ref b] : List Value).toArray 8) := by
  obtain ⟨hx, hb, hr, hml, hown, hts0, hX, hbl, hlocks, hgv⟩ := id C0
  have htr : l.stackTraces = false := by unfold Launch.stackTraces; rw [hflags]; decide
  obtain ⟨G, hK⟩ := law_K hts0
  obtain ⟨hxs, hst⟩ := law_X hts0 hgv
  obtain ⟨A, hA0⟩ : ∃ A : Nat → Prop, A = fun q : Nat => s.heap.size ≤ q := ⟨_, rfl⟩
  rw [← hA0] at hst
  have hbA : ¬ A b := by rw [hA0]; exact Nat.not_le.mpr hbl
  have hm : kM p m c cL_law 8 s #[Value.ref b] wsL_law RL meth ret := ⟨hx, hb, hml, hown, fun w h => hts0 w (wsL_law_in w h), hr, hlocks⟩
  have hw : kW G A s [] s.heap [] := ⟨fun k q h => by simp at h, ⟨fun i j p q h => by simp at h, fun k q h => by simp at h⟩, va_S.rf, hK, fun q h => by rw [hA0]; exact h⟩
  have hl := lv_entry ([.ref b]) (n := 8) (Nat.le_of_ble_eq_true rfl)
  rw [lg_entry_eq]
  generalize (lg_sl ([.ref b]) ++ List.replicate (8 - (lg_sl ([.ref b])).length) Slot.unset).toArray = ls at hl ⊢
  have hl : lv_has ls 8 [(0, .ref (b))] := hl
  have i6 := inlX6
  refine k_new (T := TX6) (fs := [.null, .null, .null, .null, .null]) hm hw i6 tyX6 tyX6_ok (by decide +kernel) (by decide +kernel) (by decide +kernel) (ci := 6) rfl (fun j hj => by rcases (show j = 0 ∨ j = 1 ∨ j = 2 ∨ j = 3 ∨ j = 4 by omega) with rfl | rfl | rfl | rfl | rfl <;> rfl) (Nat.le_of_ble_eq_true rfl) (Nat.le_of_ble_eq_true rfl) dL_law_0 (fun q_1 H hw => ?_)
  have hw : kW G A s ([(q_1, .inr (6, [.null, .null, .null, .null, .null]))]) _ _ := hw
  refine k_dup hm dL_law_3 rfl ?_
  refine k_callI (n := 0) (As := []) (rest := [.ref (q_1)]) (wr := []) hm hw hl (c_main_init l G q_1) gL_law_X6_init rfl (by decide +kernel) (by decide +kernel) (by decide +kernel) rfl (by decide +kernel) ⟨by decide, by decide⟩ [0] [] (by decide) rfl rfl (by decide) (by decide) rfl rfl (by simp [Value.category]) ⟨Nat.le_of_ble_eq_true rfl, Nat.le_of_ble_eq_true rfl⟩ dL_law_4 (fun v w1 H locs hp hw => ?_)
  obtain ⟨P_3, h_4, hs_5, Q_6, T_7, L_8, M_9, gk2_10, gw2_11, gt2_12, rfl, rfl, hok_13⟩ := hp
  have hw : kW G A s (wMain G q_1 P_3 h_4 T_7 L_8 M_9 ++ (wPiece G P_3 gk2_10 gw2_11 gt2_12 yy0 1 false ++ (wHist G h_4 hs_5 Q_6 (fun _ _ => 0) (fun _ _ => 0) (fun _ _ => 0) (fun _ _ => 0) (fun _ => 0) (fun _ => false) 0 0 ++ (wPat G T_7 (fun _ => 0) (fun _ => 0) (fun _ => 0) 0 0 0 0 0 0 0 ++ (wPlan G L_8 (fun _ => 0) 0 0 0 ++ wMk G M_9 (fun _ => 0)))))) _ _ := hw
  refine W.eq (g2 := F0 m 7 ls [.ref (q_1)]) rfl ?_
  refine k_astore_n hm hl [(1, .ref (q_1)), (0, .ref (b))] (by decide) rfl dL_law_7 (fun ls hl => ?_)
  refine k_iconstN hm 5 dL_law_8 ?_
  refine k_newI (n := 5) hm hw (by decide +kernel) (by omega) (Nat.le_of_ble_eq_true rfl) (by first | exact Nat.le_of_ble_eq_true rfl | (show 0 + 5 ≤ 5; omega)) dL_law_9 (fun q_14 H hw => ?_)
  have hw : kW G A s (wMain G q_1 P_3 h_4 T_7 L_8 M_9 ++ (wPiece G P_3 gk2_10 gw2_11 gt2_12 yy0 1 false ++ (wHist G h_4 hs_5 Q_6 (fun _ _ => 0) (fun _ _ => 0) (fun _ _ => 0) (fun _ _ => 0) (fun _ => 0) (fun _ => false) 0 0 ++ (wPat G T_7 (fun _ => 0) (fun _ => 0) (fun _ => 0) 0 0 0 0 0 0 0 ++ (wPlan G L_8 (fun _ => 0) 0 0 0 ++ (wMk G M_9 (fun _ => 0) ++ [(q_14, .inl (G.2 0, 5, .inl (nF (fun _ => 0))))])))))) _ _ := hw
  refine k_astore_n hm hl [(2, .ref (q_14)), (1, .ref (q_1)), (0, .ref (b))] (by decide) rfl dL_law_11 (fun ls hl => ?_)
  refine k_bipushN hm 16 dL_law_12 rfl ?_
  refine k_newI (n := 16) hm hw (by decide +kernel) (by omega) (Nat.le_of_ble_eq_true rfl) (by first | exact Nat.le_of_ble_eq_true rfl | (show 0 + 16 ≤ 16; omega)) dL_law_14 (fun q_15 H hw => ?_)
  have hw : kW G A s (wMain G q_1 P_3 h_4 T_7 L_8 M_9 ++ (wPiece G P_3 gk2_10 gw2_11 gt2_12 yy0 1 false ++ (wHist G h_4 hs_5 Q_6 (fun _ _ => 0) (fun _ _ => 0) (fun _ _ => 0) (fun _ _ => 0) (fun _ => 0) (fun _ => false) 0 0 ++ (wPat G T_7 (fun _ => 0) (fun _ => 0) (fun _ => 0) 0 0 0 0 0 0 0 ++ (wPlan G L_8 (fun _ => 0) 0 0 0 ++ (wMk G M_9 (fun _ => 0) ++ ([(q_14, .inl (G.2 0, 5, .inl (nF (fun _ => 0))))] ++ [(q_15, .inl (G.2 0, 16, .inl (nF (fun _ => 0))))]))))))) _ _ := hw
  refine k_astore_n hm hl [(3, .ref (q_15)), (2, .ref (q_14)), (1, .ref (q_1)), (0, .ref (b))] (by decide) rfl dL_law_16 (fun ls hl => ?_)
  refine k_bipushN hm 64 dL_law_17 rfl ?_
  refine k_newL (n := 64) hm hw (by decide +kernel) (by omega) (Nat.le_of_ble_eq_true rfl) (Nat.le_of_ble_eq_true rfl) dL_law_19 (fun q_16 H hw => ?_)
  have hw : kW G A s (wMain G q_1 P_3 h_4 T_7 L_8 M_9 ++ (wPiece G P_3 gk2_10 gw2_11 gt2_12 yy0 1 false ++ (wHist G h_4 hs_5 Q_6 (fun _ _ => 0) (fun _ _ => 0) (fun _ _ => 0) (fun _ _ => 0) (fun _ => 0) (fun _ => false) 0 0 ++ (wPat G T_7 (fun _ => 0) (fun _ => 0) (fun _ => 0) 0 0 0 0 0 0 0 ++ (wPlan G L_8 (fun _ => 0) 0 0 0 ++ (wMk G M_9 (fun _ => 0) ++ ([(q_14, .inl (G.2 0, 5, .inl (nF (fun _ => 0))))] ++ ([(q_15, .inl (G.2 0, 16, .inl (nF (fun _ => 0))))] ++ [(q_16, .inl (G.2 1, 64, .inr (.inl (fun _ => 0))))])))))))) _ _ := hw
  refine k_astore hm hl [(4, .ref (q_16)), (3, .ref (q_15)), (2, .ref (q_14)), (1, .ref (q_1)), (0, .ref (b))] (by decide) rfl dL_law_21 (fun ls hl => ?_)
  refine k_aload_n hm hl 2 rfl dL_law_23 ?_
  refine k_iconstN hm 0 dL_law_24 ?_
  refine k_iconstN hm 1 dL_law_25 ?_
  refine k_iastN hm hw 61 (wMain G q_1 P_3 h_4 T_7 L_8 M_9 ++ (wPiece G P_3 gk2_10 gw2_11 gt2_12 yy0 1 false ++ (wHist G h_4 hs_5 Q_6 (fun _ _ => 0) (fun _ _ => 0) (fun _ _ => 0) (fun _ _ => 0) (fun _ => 0) (fun _ => false) 0 0 ++ (wPat G T_7 (fun _ => 0) (fun _ => 0) (fun _ => 0) 0 0 0 0 0 0 0 ++ (wPlan G L_8 (fun _ => 0) 0 0 0 ++ (wMk G M_9 (fun _ => 0) ++ ([(q_14, .inl (G.2 0, 5, .inl (nF (nU (fun _ => 0) 0 1))))] ++ ([(q_15, .inl (G.2 0, 16, .inl (nF (fun _ => 0))))] ++ [(q_16, .inl (G.2 1, 64, .inr (.inl (fun _ => 0))))])))))))) rfl (by omega) rfl dL_law_26 (fun H locs hw => ?_)
  refine k_aload_n hm hl 2 rfl dL_law_27 ?_
  refine k_iconstN hm 2 dL_law_28 ?_
  refine k_bipushN hm 10 dL_law_29 rfl ?_
  refine k_iastN hm hw 61 (wMain G q_1 P_3 h_4 T_7 L_8 M_9 ++ (wPiece G P_3 gk2_10 gw2_11 gt2_12 yy0 1 false ++ (wHist G h_4 hs_5 Q_6 (fun _ _ => 0) (fun _ _ => 0) (fun _ _ => 0) (fun _ _ => 0) (fun _ => 0) (fun _ => false) 0 0 ++ (wPat G T_7 (fun _ => 0) (fun _ => 0) (fun _ => 0) 0 0 0 0 0 0 0 ++ (wPlan G L_8 (fun _ => 0) 0 0 0 ++ (wMk G M_9 (fun _ => 0) ++ ([(q_14, .inl (G.2 0, 5, .inl (nF (nU (nU (fun _ => 0) 0 1) 2 10))))] ++ ([(q_15, .inl (G.2 0, 16, .inl (nF (fun _ => 0))))] ++ [(q_16, .inl (G.2 1, 64, .inr (.inl (fun _ => 0))))])))))))) rfl (by omega) rfl dL_law_31 (fun H locs hw => ?_)
  refine k_aload_n hm hl 2 rfl dL_law_32 ?_
  refine k_iconstN hm 3 dL_law_33 ?_
  refine k_bipushN hm 20 dL_law_34 rfl ?_
  refine k_iastN hm hw 61 (wMain G q_1 P_3 h_4 T_7 L_8 M_9 ++ (wPiece G P_3 gk2_10 gw2_11 gt2_12 yy0 1 false ++ (wHist G h_4 hs_5 Q_6 (fun _ _ => 0) (fun _ _ => 0) (fun _ _ => 0) (fun _ _ => 0) (fun _ => 0) (fun _ => false) 0 0 ++ (wPat G T_7 (fun _ => 0) (fun _ => 0) (fun _ => 0) 0 0 0 0 0 0 0 ++ (wPlan G L_8 (fun _ => 0) 0 0 0 ++ (wMk G M_9 (fun _ => 0) ++ ([(q_14, .inl (G.2 0, 5, .inl (nF (nU (nU (nU (fun _ => 0) 0 1) 2 10) 3 20))))] ++ ([(q_15, .inl (G.2 0, 16, .inl (nF (fun _ => 0))))] ++ [(q_16, .inl (G.2 1, 64, .inr (.inl (fun _ => 0))))])))))))) rfl (by omega) rfl dL_law_36 (fun H locs hw => ?_)
  refine k_aload_n hm hl 2 rfl dL_law_37 ?_
  refine k_iconstN hm 4 dL_law_38 ?_
  refine k_bipushN hm 13 dL_law_39 rfl ?_
  refine k_iastN hm hw 61 (wMain G q_1 P_3 h_4 T_7 L_8 M_9 ++ (wPiece G P_3 gk2_10 gw2_11 gt2_12 yy0 1 false ++ (wHist G h_4 hs_5 Q_6 (fun _ _ => 0) (fun _ _ => 0) (fun _ _ => 0) (fun _ _ => 0) (fun _ => 0) (fun _ => false) 0 0 ++ (wPat G T_7 (fun _ => 0) (fun _ => 0) (fun _ => 0) 0 0 0 0 0 0 0 ++ (wPlan G L_8 (fun _ => 0) 0 0 0 ++ (wMk G M_9 (fun _ => 0) ++ ([(q_14, .inl (G.2 0, 5, .inl (nF (nU (nU (nU (nU (fun _ => 0) 0 1) 2 10) 3 20) 4 13))))] ++ ([(q_15, .inl (G.2 0, 16, .inl (nF (fun _ => 0))))] ++ [(q_16, .inl (G.2 1, 64, .inr (.inl (fun _ => 0))))])))))))) rfl (by omega) rfl dL_law_41 (fun H locs hw => ?_)
  refine k_aload_n hm hl 1 rfl dL_law_42 ?_
  refine k_iconstN hm 0 dL_law_43 ?_
  refine k_bipushN hm 6 dL_law_44 rfl ?_
  refine k_iastN hm hw 62 (wMain G q_1 P_3 h_4 T_7 L_8 M_9 ++ (wPiece G P_3 gk2_10 gw2_11 gt2_12 yy0 1 false ++ (wHist G h_4 hs_5 Q_6 (fun _ _ => 0) (fun _ _ => 0) (fun _ _ => 0) (fun _ _ => 0) (fun _ => 0) (fun _ => false) 0 0 ++ (wPat G T_7 (fun _ => 0) (fun _ => 0) (fun _ => 0) 0 0 0 0 0 0 0 ++ (wPlan G L_8 (fun _ => 0) 0 0 0 ++ (wMk G M_9 (fun _ => 0) ++ ([(q_14, .inl (G.2 0, 5, .inl (nF (nU (nU (nU (nU (fun _ => 0) 0 1) 2 10) 3 20) 4 13))))] ++ ([(q_15, .inl (G.2 0, 16, .inl (nF (nU (fun _ => 0) 0 6))))] ++ [(q_16, .inl (G.2 1, 64, .inr (.inl (fun _ => 0))))])))))))) rfl (by omega) rfl dL_law_46 (fun H locs hw => ?_)
  refine k_aload_n hm hl 3 rfl dL_law_47 ?_
  refine k_aload_n hm hl 2 rfl dL_law_48 ?_
  refine k_aload_n hm hl 1 rfl dL_law_49 ?_
  refine k_aload hm hl 0 rfl dL_law_50 ?_
  refine k_callSY (n := 4) (As := [.ref (q_1), .ref (q_14), .ref (q_15), .ref (q_16)]) (rest := []) (wr := [(h_4, .inr (0, [.ref (hs_5), vN (0), vN (0)])), (hs_5, .inl (G.2 2, 4, .inr (.inr (.inr (.inr (fun j => some (Q_6 j 0))))))), ((Q_6 0) 0, .inr (4, [.ref ((Q_6 0) 1), .ref ((Q_6 0) 3), .ref ((Q_6 0) 5), .ref ((Q_6 0) 7), vN ((fun _ => 0) 0), vB ((fun _ => false) 0)])), ((Q_6 0) 1, .inr (2, [.ref ((Q_6 0) 2)])), ((Q_6 0) 2, .inl (G.2 0, 4800, .inl (nF ((fun _ _ => 0) 0)))), ((Q_6 0) 3, .inr (2, [.ref ((Q_6 0) 4)])), ((Q_6 0) 4, .inl (G.2 0, 40, .inl (nF ((fun _ _ => 0) 0)))), ((Q_6 0) 5, .inr (2, [.ref ((Q_6 0) 6)])), ((Q_6 0) 6, .inl (G.2 0, 40, .inl (nF ((fun _ _ => 0) 0)))), ((Q_6 0) 7, .inr (2, [.ref ((Q_6 0) 8)])), ((Q_6 0) 8, .inl (G.2 0, 3, .inl (nF ((fun _ _ => 0) 0)))), ((Q_6 1) 0, .inr (4, [.ref ((Q_6 1) 1), .ref ((Q_6 1) 3), .ref ((Q_6 1) 5), .ref ((Q_6 1) 7), vN ((fun _ => 0) 1), vB ((fun _ => false) 1)])), ((Q_6 1) 1, .inr (2, [.ref ((Q_6 1) 2)])), ((Q_6 1) 2, .inl (G.2 0, 4800, .inl (nF ((fun _ _ => 0) 1)))), ((Q_6 1) 3, .inr (2, [.ref ((Q_6 1) 4)])), ((Q_6 1) 4, .inl (G.2 0, 40, .inl (nF ((fun _ _ => 0) 1)))), ((Q_6 1) 5, .inr (2, [.ref ((Q_6 1) 6)])), ((Q_6 1) 6, .inl (G.2 0, 40, .inl (nF ((fun _ _ => 0) 1)))), ((Q_6 1) 7, .inr (2, [.ref ((Q_6 1) 8)])), ((Q_6 1) 8, .inl (G.2 0, 3, .inl (nF ((fun _ _ => 0) 1)))), ((Q_6 2) 0, .inr (4, [.ref ((Q_6 2) 1), .ref ((Q_6 2) 3), .ref ((Q_6 2) 5), .ref ((Q_6 2) 7), vN ((fun _ => 0) 2), vB ((fun _ => false) 2)])), ((Q_6 2) 1, .inr (2, [.ref ((Q_6 2) 2)])), ((Q_6 2) 2, .inl (G.2 0, 4800, .inl (nF ((fun _ _ => 0) 2)))), ((Q_6 2) 3, .inr (2, [.ref ((Q_6 2) 4)])), ((Q_6 2) 4, .inl (G.2 0, 40, .inl (nF ((fun _ _ => 0) 2)))), ((Q_6 2) 5, .inr (2, [.ref ((Q_6 2) 6)])), ((Q_6 2) 6, .inl (G.2 0, 40, .inl (nF ((fun _ _ => 0) 2)))), ((Q_6 2) 7, .inr (2, [.ref ((Q_6 2) 8)])), ((Q_6 2) 8, .inl (G.2 0, 3, .inl (nF ((fun _ _ => 0) 2)))), ((Q_6 3) 0, .inr (4, [.ref ((Q_6 3) 1), .ref ((Q_6 3) 3), .ref ((Q_6 3) 5), .ref ((Q_6 3) 7), vN ((fun _ => 0) 3), vB ((fun _ => false) 3)])), ((Q_6 3) 1, .inr (2, [.ref ((Q_6 3) 2)])), ((Q_6 3) 2, .inl (G.2 0, 4800, .inl (nF ((fun _ _ => 0) 3)))), ((Q_6 3) 3, .inr (2, [.ref ((Q_6 3) 4)])), ((Q_6 3) 4, .inl (G.2 0, 40, .inl (nF ((fun _ _ => 0) 3)))), ((Q_6 3) 5, .inr (2, [.ref ((Q_6 3) 6)])), ((Q_6 3) 6, .inl (G.2 0, 40, .inl (nF ((fun _ _ => 0) 3)))), ((Q_6 3) 7, .inr (2, [.ref ((Q_6 3) 8)])), ((Q_6 3) 8, .inl (G.2 0, 3, .inl (nF ((fun _ _ => 0) 3)))), (T_7 0, .inr (3, [.ref (T_7 1), .ref (T_7 3), .ref (T_7 5), vN (0), vN (0), vN (0), vN (0), vN (0), vN (0), vZ (0)])), (T_7 1, .inr (2, [.ref (T_7 2)])), (T_7 2, .inl (G.2 0, 120, .inl (nF (fun _ => 0)))), (T_7 3, .inr (2, [.ref (T_7 4)])), (T_7 4, .inl (G.2 0, 60, .inl (iF (fun _ => 0)))), (T_7 5, .inr (2, [.ref (T_7 6)])), (T_7 6, .inl (G.2 0, 60, .inl (nF (fun _ => 0)))), (L_8 0, .inr (5, [.ref (L_8 1), vN (0), vN (0), vN (0)])), (L_8 1, .inr (2, [.ref (L_8 2)])), (L_8 2, .inl (G.2 0, 120, .inl (nF (fun _ => 0))))]) hm hw hl hxs hst (c_l_isSo l G q_1 h_4 T_7 L_8 M_9 (fun _ => 0) P_3 gk2_10 gw2_11 gt2_12 yy0 1 false (fun _ _ => 0) (fun _ => 6) yy0 q_14 (nU (nU (nU (nU (fun _ => 0) 0 1) 2 10) 3 20) 4 13) q_15 (nU (fun _ => 0) 0 6) q_16 (fun _ => 0) (by first | assumption | omega) hok_13 LOk_0) gL_law_L_isSo rfl (by decide +kernel) ⟨by decide, by decide⟩ [0, 1, 2, 3, 4, 5, 6, 7, 8, 9, 58, 59, 60, 61, 62, 63] [10, 11, 12, 13, 14, 15, 16, 17, 18, 19, 20, 21, 22, 23, 24, 25, 26, 27, 28, 29, 30, 31, 32, 33, 34, 35, 36, 37, 38, 39, 40, 41, 42, 43, 44, 45, 46, 47, 48, 49, 50, 51, 52, 53, 54, 55, 56, 57] (by decide) rfl rfl (by decide) (by decide) rfl rfl (by simp [Value.category]) ⟨rmC_le (by omega), rmS_le (by omega)⟩ dL_law_52 (fun v w1 H locs hp hw => ?_)
  obtain ⟨mf2_18, rfl, rfl⟩ := hp
  have hw := hw.sub (ws' := wMain G q_1 P_3 h_4 T_7 L_8 M_9 ++ (wPiece G P_3 gk2_10 gw2_11 gt2_12 yy0 1 false ++ (wHist G h_4 hs_5 Q_6 (fun _ _ => 0) (fun _ _ => 0) (fun _ _ => 0) (fun _ _ => 0) (fun _ => 0) (fun _ => false) 0 0 ++ (wPat G T_7 (fun _ => 0) (fun _ => 0) (fun _ => 0) 0 0 0 0 0 0 0 ++ (wPlan G L_8 (fun _ => 0) 0 0 0 ++ (wMk G M_9 mf2_18 ++ ([(q_14, .inl (G.2 0, 5, .inl (nF (nU (nU (nU (nU (fun _ => 0) 0 1) 2 10) 3 20) 4 13))))] ++ ([(q_15, .inl (G.2 0, 16, .inl (nF (nU (fun _ => 0) 0 6))))] ++ [(q_16, .inl (G.2 1, 64, .inr (.inl (fun _ => 0))))])))))))) [48, 49, 50, 51, 52, 53, 54, 55, 56, 57, 0, 1, 2, 3, 4, 5, 6, 7, 8, 9, 10, 11, 12, 13, 14, 15, 16, 17, 18, 19, 20, 21, 22, 23, 24, 25, 26, 27, 28, 29, 30, 31, 32, 33, 34, 35, 36, 37, 38, 39, 40, 41, 42, 43, 44, 45, 46, 47, 58, 59, 60, 61, 62, 63] (by decide) rfl
  refine W.eq (g2 := F0 m 55 ls [vB (true)]) rfl ?_
  refine k_istore hm hl [(5, vB (true)), (4, .ref (q_16)), (3, .ref (q_15)), (2, .ref (q_14)), (1, .ref (q_1)), (0, .ref (b))] (by decide) rfl dL_law_55 (fun ls hl => ?_)
  refine k_bipushN hm 8 dL_law_57 rfl ?_
  refine k_aload_n hm hl 5 rfl dL_law_59 ?_
  refine k_iconstN hm 0 dL_law_60 ?_
  refine k_callCell (k := 0) (rest := [vN (8)]) hm hw hl hX hbl hbA (by omega) (by omega) gL_law_L_cell ⟨by decide, by decide⟩ (by simp [Value.category]) ⟨rmC_le (by omega), rmS_le (by omega)⟩ dL_law_61 (fun sx_19 H locs hw => ?_)
  refine W.eq (g2 := F0 m 64 ls [.int (sx_19), vN (8)]) rfl ?_
  refine k_bipushN hm 40 dL_law_64 rfl ?_
  refine k_callSr (n := 2) (As := [.int (sx_19), vN (40)]) (rest := [vN (8)]) hm hw hl (c_l_low l G sx_19 40 (by first | assumption | omega)) gL_law_L_low rfl (by decide +kernel) ⟨by decide, by decide⟩ [] (by decide) rfl rfl rfl (by simp [Value.category]) ⟨rmC_le (by omega), rmS_le (by omega)⟩ dL_law_66 (fun v H locs hp hw => ?_)
  obtain ⟨q_21, rfl, hq_22⟩ := hp
  refine W.eq (g2 := F0 m 69 ls [vN (q_21), vN (8)]) rfl ?_
  have hlq := hq_22
  refine k_iaddN hm dL_law_69 ?_
  refine k_istore hm hl [(6, vN (8 + q_21)), (5, vB (true)), (4, .ref (q_16)), (3, .ref (q_15)), (2, .ref (q_14)), (1, .ref (q_1)), (0, .ref (b))] (by decide) rfl dL_law_70 (fun ls hl => ?_)
  refine k_iconstN hm 0 dL_law_72 ?_
  refine k_istore hm hl [(7, vN (0)), (6, vN (8 + q_21)), (5, vB (true)), (4, .ref (q_16)), (3, .ref (q_15)), (2, .ref (q_14)), (1, .ref (q_1)), (0, .ref (b))] (by decide) rfl dL_law_73 (fun ls hl => ?_)
  exact law_loop (G := G) (Ln := L) (tq := 8 + q_21) rfl hA0 hm hX hbl hbA hxs hst htr hL (by omega) gk2_10 gw2_11 gt2_12 yy0 1 false (fun _ _ => 0) (fun _ _ => 0) (fun _ _ => 0) (fun _ _ => 0) (fun _ => 0) (fun _ => false) 0 0 (fun _ => 0) 0 0 0 mf2_18 (nU (nU (nU (nU (fun _ => 0) 0 1) 2 10) 3 20) 4 13) (nU (fun _ => 0) 0 6) (fun _ => 0) (fun _ _ => 0) (fun _ => 6) yy0 (fun _ => (0, false, fun _ _ => 0, fun _ => 0, fun _ => 0)) hok_13 ⟨by decide, by decide, fun i hi => absurd hi (Nat.not_lt_zero _)⟩ LOk_0 _ _ (by omega) hw (lv_sub hl [7, 6, 5, 4, 3, 2, 1, 0] rfl)
set_option maxHeartbeats 4000000 in
theorem lw_walk (l : Launch) (hflags : l.flags = flags0) (b : Addr) (xs : List Int32) : MetFree l x (headSpec (Jvm.Cond.code x code maxLocals ret :: tables_1) room_1) (lw_P b xs) (fun _ _ _ _ _ => True) lw_Q := by
  refine MetFree.of_bodyS (code := code) (maxLocals := maxLocals) (ret := ret) (by decide) ?_ ?_
  · intro args s m h hn
    obtain ⟨meth, c, h1, h2, h3, h4, h5, h6, -, -⟩ := Cond.code_spec hn (atoms_spec (ws := Jvm.Cond.code x code maxLocals ret :: tables_1) h _ List.mem_cons_self)
    exact ⟨meth, c, h1, h2, h3, h4, h5, h6⟩
  · intro p e s m args below meth c s₁ B hml0 hP _
    obtain ⟨rfl, hx, hbd, hgv⟩ := hP
    obtain ⟨scr, harrAt, hlist, hof, hsmall⟩ := hx
    obtain ⟨hcb, hkn, -, -⟩ := State.arrayAt?_spec harrAt
    have hown : s.vm.findClass R_law = some m.cls := findClass_of_methodNamed B.named
    have hts0 : ∀ c ∈ (Jvm.Cond.code x code maxLocals ret :: tables_1), c.before #[Value.ref b] s = true := atoms_spec (ws := Jvm.Cond.code x code maxLocals ret :: tables_1) B.pre
    have hts : ∀ w ∈ lw_tbl, w.before #[Value.ref b] s = true := k2_hts_sels lw_privs (fun w hw => hts0 w (List.mem_cons_of_mem _ hw)) lw_privs_ok
    have hml : c.maxLocals = 8 := B.maxLocals_eq (hts0 _ List.mem_cons_self)
    have X₀ : Stand p l e room_1 s m #[Value.ref b] below meth c s₁ [] 0 0 := Stand.of_body B
    have hh0 : s₁.heap = s.heap := by rw [B.state]; rfl
    have hsz : scr.slots.size = xs.length := by rw [← Array.length_toList, hlist, List.length_map]
    have hval : ∀ j : Nat, j < xs.length → scr.slots[j]? = some (.int (xs.getD j 0)) := fun j hj => by
      rw [← Array.getElem?_toList, hlist]
      simp [hj]
    have hbl : b < s.heap.size := (Array.getElem?_eq_some_iff.mp hcb).1
    have hX : va_X b xs.length (fun j => xs.getD j 0) s s.heap := ⟨scr, hcb, hof, hkn, hsz, hval⟩
    have K : W p l e room_1 s m #[Value.ref b] below meth c s₁.heap [] 0 0 (lw_Z below #[Value.ref b] s) (entryFrame m ([Value.ref b] : List Value).toArray 8) := by
      rw [hh0]
      exact whole_start l hflags hbd ⟨B.exec, B.bytes, B.returns, hml, hown, hts, hX, hbl, B.notSynchronized, hgv⟩
    obtain ⟨t, a1, o, b1, b2, b3⟩ := K s₁ rfl X₀
    exact ⟨t, o, a1, b1, b2, b3⟩
theorem lw_pre_spec {args : Array Value} {s : State} (h : (Jvm.Cond.and given_1 narrow_1).before args s = true) (hr : rest_1_c.before args s = true) : ∃ (b : Addr) (xs : List Int32), lw_P b xs args s := by
  have hs := flat_of_before _ h
  have hq := flat_of_before _ hr
  have hc : (Cond.count 1).before args s = true := hs _ (by decide +kernel)
  have harr : (Cond.arrayOf (.arg 0) .int).before args s = true := hs _ (by decide +kernel)
  have hle : (Cond.le (.length (.arg 0)) (.int 260)).before args s = true := hs _ (by decide +kernel)
  have hlen : (Cond.isInt (.length (.arg 0))).before args s = true := hq _ (by decide +kernel)
  have hall : (Cond.all (.arg 0) (.isInt (.elem (.arg 0) (.index 0)))).before args s = true := hq _ (by decide +kernel)
  obtain ⟨b, xs, hb, hx⟩ := State.ints_of_pre rfl harr hlen hall
  have hsm : xs.length < 2 ^ 31 := hx.choose_spec.2.2.2
  have hev : (Term.length (.arg 0)).eval args s none [] s = some (.int xs.length.toInt32) := hx.length_eval hb
  have hv := Cond.le_ints hev (show (Term.int 260).eval args s none [] s = some (.int 260) from rfl)
  have hd : xs.length.toInt32 ≤ 260 := by
    simpa [Cond.before, Cond.holds, hv] using hle
  have hN : xs.length ≤ 260 := (Int32.ofNat_le_ofNat hsm (by decide)).mp (show Int32.ofNat xs.length ≤ Int32.ofNat 260 from hd)
  exact ⟨b, xs, Cond.one_arg hc (show args[0]? = some (.ref b) from hb), hx, hN, h⟩
theorem lw_comes (l : Launch) (hflags : l.flags = flags0) : Comes l x (Jvm.Cond.code x code maxLocals ret :: tables_1) room_1 (fun tb e args s => Calls_1 tb e args s ∧ rest_1 tb e args s ∧ Pre_1 tb e args s)
    (fun _ _ args s o t => lw_Q args s o t) := by
  intro p e ha hc hk s m args below hf hfit hheap happ hpre
  obtain ⟨b, xs, hP⟩ := lw_pre_spec hpre.2.2 hpre.2.1
  obtain ⟨k, o, h1, h2, h3, hQ⟩ := lw_walk l hflags b xs p e ha hc hk s m args below hf ((Spec.applies_iff_loose hf).mp happ).1 hP trivial
  exact ⟨k, o, h1, h2, h3, hQ⟩
theorem lw_frame {s t : State} {o : Outcome} {args : Array Value} (h : Framed s o t [] 600130 7301080) :
    Framed s o t (fieldLocs frame_1_writes args s ++ arrayLocs frame_1_arrays args s ++ staticLocs frame_1_statics s) 600130 7301080 := h
theorem lw_limb (L : Cond) (hL : ∀ (args : Array Value) (s t : State), L.after args s (.returned (some (.int 1))) t = true) :
    ArmFor flags0 classFile x code maxLocals ret World_1 tables_1 room_1 Calls_1 rest_1 Pre_1
      (fun tb e a s o t => postC L tb e a s o t ∧ Framed s o t (fieldLocs frame_1_writes a s ++ arrayLocs frame_1_arrays a s ++ staticLocs frame_1_statics s) 600130 7301080) := by
  intro l hflags _ _ p e ha hc hk s m args below hf hfit hheap happ hpre
  obtain ⟨k, o, h1, h2, h3, rfl, hF⟩ := lw_comes l hflags p e ha hc hk s m args below hf hfit hheap happ hpre
  exact ⟨k, _, h1, h2, h3, hL args s _, lw_frame hF⟩
theorem i_vc : Claimed_1_1 ∧ Claimed_1_2 := ⟨lw_limb limb_1_1 (fun args s t => by simp [limb_1_1, Cond.after, Cond.holds, Cond.value]), lw_limb limb_1_2 (fun args s t => Cond.after_iff.mpr (by
  first | (rw [show limb_1_2 = Cond.eq .result (.int 1) from rfl, Cond.eq_ints (x := 1) (y := 1) rfl rfl]; simp; done) | (simp [limb_1_2, Cond.value, Term.eval]; done)))⟩

