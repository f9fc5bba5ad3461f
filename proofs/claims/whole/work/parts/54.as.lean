/-! THE CLAIM OUT OF ONE WALK OF THE LAW'S BODY. Your part is whole_start (and what it stands on); all else here is the same for every law, but numbers. -/
def R_law : String := "CrochetRoundsLaw"
def lw_P (b : Addr) (xs : List Int32) (args : Array Value) (s : State) : Prop := args = #[.ref b] ∧ s.IntsAt b xs ∧ xs.length ≤ 2048 ∧ (Jvm.Cond.and given_1 narrow_1).before args s = true
/-- what a walk over the start with the record d0 says of its end, said of the start itself -/
theorem lw_closed {s t : State} {o : Outcome} {d0 : Drawn} {L : List Loc} {k n : Nat} (hd0 : s.drawn.sameBut d0 lw_cs) (hv : ∃ v, o = .returned v) (hW : (s.setDrawn d0).WarmedH t.vm) (hs : (s.setDrawn d0).sameButNew ({ t with vm := s.vm } : State) L k n) : State.butDraws s t lw_cs (fun t1 => Framed s o t1 L k n) := by
  have h2 : t.drawn = d0 := congrArg State.drawn hs.1
  refine ⟨⟨hv, hW, State.sameButNew.setDrawn hs s.drawn⟩, ?_, by decide⟩
  rw [h2]
  exact hd0
def lw_Q (_ : Array Value) (s : State) (o : Outcome) (t : State) : Prop := o = .returned (some (.int 1)) ∧ State.butDraws s t lw_cs (fun t1 => Framed s o t1 [] 601024 7293034)
def lw_Z (below : List Frame) (a : Array Value) (s : State) : State → Prop := fun t => ∃ o, t.status = .running ∧ Ended t below o ∧ lw_Q a s o t
/-- the law's own end, with 1 on the stack, nothing written that was there before, its room as the claim has it; d0: the record of draws at this point (at the entry s.drawn: begin with 'refine W.base ?_' and 'have hd0 := Drawn.sameBut.refl s.drawn lw_cs') -/
theorem lw_ret {p : Program} {l : Launch} {e : Env} {s : State} {m : MethodId} {below : List Frame} {meth : Method} {c : Code} {b : Nat} {d0 : Drawn} (hd0 : s.drawn.sameBut d0 lw_cs) (hx : p.tables.exec = Jvm.exec) (hb : c.code = code) (hr : meth.sig.returnType = ret) (hlocks : meth.locks = false) {pc : Nat} {H : Heap} {ls : Array Slot} (hdg : decode code pc = .ok (.ireturn, 1)) : W p l e room_1 (s.setDrawn d0) m #[Value.ref b] below meth c H [] 601024 7293034 (lw_Z below #[Value.ref b] s) (F0 m pc ls [.int 1]) := by
  intro T hT X
  obtain ⟨fs, hret, hrun, hended, hW, hframe⟩ := X.leave (v := some (.int 1)) (hlocks := hlocks) (fun h => by rw [hr] at h; cases h)
  have hmeth' : T.vm.method? m = some meth := X.method'
  refine ⟨T.setFrames fs, ?_, .returned (some (.int 1)), hrun, hended, rfl, lw_closed hd0 ⟨_, rfl⟩ hW hframe⟩
  jvm_step X.here [X.here.top, hx, hb, hdg, hmeth', hr, ret, narrow_b1]
  (try refine ⟨rfl, ?_⟩); (try refine ⟨rfl, ?_⟩)
  first | (intro acts; rw [hret _ acts rfl rfl rfl]) | rw [hret _ _ rfl rfl rfl]
  exact Steps.refl _
/-- what holds at the law's entry: the machine, the code, the tables' words (any of lw_tbl by 'hts w (by decide +kernel)'), the script of L ints xs at the cell b, what the Statement gives of the start (any of its parts by flat_of_before) -/
def lw_At (p : Program) (s : State) (m : MethodId) (meth : Method) (c : Code) (b L : Nat) (xs : Nat → Int32) : Prop :=
  p.tables.exec = Jvm.exec ∧ c.code = code ∧ meth.sig.returnType = ret ∧ c.maxLocals = 9 ∧ s.vm.findClass R_law = some m.cls ∧ (∀ w ∈ lw_tbl, w.before #[Value.ref b] s = true) ∧ va_X b L xs s s.heap ∧ b < s.heap.size ∧ meth.locks = false ∧ (Jvm.Cond.and given_1 narrow_1).before #[Value.ref b] s = true

theorem law_words {s : State} {b : Nat} (hts0 : ∀ w ∈ lw_tbl, w.before #[Value.ref b] s = true) : kNest s ∧ kBad s ∧ (Cond.stringRef RX6 219 "an argument is out of range").before #[Value.ref b] s = true ∧ (Cond.stringRef RX6 226 "not in this state").before #[Value.ref b] s = true ∧ (Cond.stringRef RX6 231 "the goal is not possible").before #[Value.ref b] s = true ∧ (Cond.stringRef RX6 236 "there is no such thing").before #[Value.ref b] s = true ∧ (Cond.laysStatic Bundle.tN "UNASSIGNED_STACK" Bundle.steD).before #[Value.ref b] s = true ∧ (Cond.laysStatic Bundle.tN "SUPPRESSED_SENTINEL" Bundle.listD).before #[Value.ref b] s = true ∧ (Cond.initialized Bundle.tN).before #[Value.ref b] s = true := by
  have tb : ∀ (k : Nat) (w : Cond), tables_1[k]? = some w → w.before #[Value.ref b] s = true := fun k w h => hts0 w (List.mem_append_right _ (List.mem_of_getElem? h))
  refine ⟨⟨fun q hq => ?_, ?_⟩, fun w hw => ?_, tb 403 _ (by decide +kernel), tb 521 _ (by decide +kernel), tb 553 _ (by decide +kernel), tb 645 _ (by decide +kernel), tb 388 _ (by decide +kernel), tb 390 _ (by decide +kernel), tb 9 _ (by decide +kernel)⟩
  · simp only [kNestL, List.mem_cons, List.not_mem_nil, or_false] at hq
    rcases hq with rfl | rfl | rfl | rfl | rfl | rfl | rfl | rfl | rfl | rfl | rfl
    · exact va_Nw.of rfl (tb 27 _ (by decide +kernel))
    · exact va_Nw.of rfl (tb 77 _ (by decide +kernel))
    · exact va_Nw.of rfl (tb 91 _ (by decide +kernel))
    · exact va_Nw.of rfl (tb 138 _ (by decide +kernel))
    · exact va_Nw.of rfl (tb 163 _ (by decide +kernel))
    · exact va_Nw.of rfl (tb 194 _ (by decide +kernel))
    · exact va_Nw.of rfl (tb 316 _ (by decide +kernel))
    · exact va_Nw.of rfl (tb 319 _ (by decide +kernel))
    · exact va_Nw.of rfl (tb 456 _ (by decide +kernel))
    · exact va_Nw.of rfl (tb 461 _ (by decide +kernel))
    · exact va_Nw.of rfl (tb 686 _ (by decide +kernel))
  · exact va_AO.of (tb 76 (.arrayOver (.object RX4)) (by decide +kernel))
  · simp only [kBadL, List.mem_cons, List.not_mem_nil, or_false] at hw
    rcases hw with rfl | rfl | rfl | rfl | rfl | rfl | rfl
    · exact va_Nw.of rfl (tb 365 _ (by decide +kernel))
    · exact va_Nw.of rfl (tb 367 _ (by decide +kernel))
    · exact va_Nw.of rfl (tb 369 _ (by decide +kernel))
    · exact va_Nw.of rfl (tb 363 _ (by decide +kernel))
    · exact va_Nw.of rfl (tb 514 _ (by decide +kernel))
    · exact va_Nw.of rfl (tb 546 _ (by decide +kernel))
    · exact va_Nw.of rfl (tb 638 _ (by decide +kernel))
theorem arr_ex {s : State} {args : Array Value} {t : FieldType} (ht : ∀ C, t ≠ .object C) (h : (Cond.arrayClass t).before args s = true) : ∃ cA, ArrOfT s cA t ∧ va_RA s cA t := by
  obtain ⟨cA, kA, comp, h1, h2, h3⟩ := Cond.arrayClass_spec h
  refine ⟨cA, fun n z => ⟨fun k h => (by cases h), kA, h2, comp, h3⟩, ?_⟩
  unfold va_RA
  split
  · exact absurd rfl (ht _)
  · exact h1
theorem arrq_ex {s : State} {C : String} (h : va_AO C s) : ∃ cA, ArrOfT s cA (.object C) ∧ va_RA s cA (.object C) := by
  obtain ⟨comp, cA, kA, h1, h2, h3, h4, h5⟩ := Cond.arrayOver_spec (va_AO.use (A := #[]) h)
  exact ⟨cA, fun n z => ⟨fun k h => (by cases h), kA, h3, comp, h4⟩, kA, comp, h3, h4, h1, h5⟩
theorem law_K {s : State} {b : Nat} (hts0 : ∀ w ∈ lw_tbl, w.before #[Value.ref b] s = true) : ∃ G : kG, kK G s := by
  have hts : ∀ w ∈ wsL_law, w.before #[Value.ref b] s = true := fun w h => hts0 w (wsL_law_in w h)
  have hn := (law_words hts0).1
  obtain ⟨d0, e0, k0⟩ := u_known (C := RX0) (T := TX0) (N := 3) (n := 3) hts inlX0 (hts (.instantiable RX0 3) (by decide +kernel))
  obtain ⟨d1, e1, k1⟩ := u_known (C := RX1) (T := TX1) (N := 1) (n := 1) hts inlX1 (hts (.instantiable RX1 1) (by decide +kernel))
  obtain ⟨d2, e2, k2⟩ := u_known (C := RX2) (T := TX2) (N := 1) (n := 1) hts inlX2 (hts (.instantiable RX2 1) (by decide +kernel))
  obtain ⟨d3, e3, k3⟩ := u_known (C := RX3) (T := TX3) (N := 10) (n := 10) hts inlX3 (hts (.instantiable RX3 10) (by decide +kernel))
  obtain ⟨d4, e4, k4⟩ := u_known (C := RX4) (T := TX4) (N := 6) (n := 6) hts inlX4 (hts (.instantiable RX4 6) (by decide +kernel))
  obtain ⟨d5, e5, k5⟩ := u_known (C := RX5) (T := TX5) (N := 4) (n := 4) hts inlX5 (hts (.instantiable RX5 4) (by decide +kernel))
  obtain ⟨d6, e6, k6⟩ := u_known (C := RX6) (T := TX6) (N := 5) (n := 5) hts inlX6 (hts (.instantiable RX6 5) (by decide +kernel))
  obtain ⟨d7, e7, k7⟩ := u_known (C := RX7) (T := TX7) (N := 16) (n := 16) hts inlX7 (hts (.instantiable RX7 16) (by decide +kernel))
  obtain ⟨a0, p0, q0⟩ := arr_ex (t := .int) (fun C h => by cases h) (hts (.arrayClass .int) (by decide +kernel))
  obtain ⟨a1, p1, q1⟩ := arr_ex (t := .long) (fun C h => by cases h) (hts (.arrayClass .long) (by decide +kernel))
  obtain ⟨a2, p2, q2⟩ := arrq_ex hn.2
  obtain ⟨a3, p3, q3⟩ := arr_ex (t := .double) (fun C h => by cases h) (hts (.arrayClass .double) (by decide +kernel))
  refine ⟨((fun k => match k with | 0 => d0 | 1 => d1 | 2 => d2 | 3 => d3 | 4 => d4 | 5 => d5 | 6 => d6 | _ => d7, fun k => match k with | 0 => e0 | 1 => e1 | 2 => e2 | 3 => e3 | 4 => e4 | 5 => e5 | 6 => e6 | _ => e7), fun k => match k with | 0 => a0 | 1 => a1 | 2 => a2 | _ => a3), ⟨fun k q hq => ?_, fun k q hq => ?_⟩, hn⟩
  · match k, hq with
    | 0, hq => cases hq; exact k0
    | 1, hq => cases hq; exact k1
    | 2, hq => cases hq; exact k2
    | 3, hq => cases hq; exact k3
    | 4, hq => cases hq; exact k4
    | 5, hq => cases hq; exact k5
    | 6, hq => cases hq; exact k6
    | 7, hq => cases hq; exact k7
    | k + 8, hq => simp [vwCl] at hq
  · match k, hq with
    | 0, hq => cases hq; exact ⟨p0, q0⟩
    | 1, hq => cases hq; exact ⟨p1, q1⟩
    | 2, hq => cases hq; exact ⟨p2, q2⟩
    | 3, hq => cases hq; exact ⟨p3, q3⟩
    | k + 4, hq => simp [kT] at hq
theorem law_str {s : State} {args : Array Value} {k : Nat} {tx : String} (h1 : (Cond.stringRef RX6 k tx).before args s = true) (h2 : (Cond.exactly (.string RX6 k) "java/lang/String").before args s = true) : ∃ a, vk_R RX6 k tx a s := by
  obtain ⟨a, c, cA, kA, q1, -⟩ := Cond.exactly_spec h2
  exact ⟨a, vk_R.of h1 q1⟩
theorem law_X {s : State} {b : Nat} (hts0 : ∀ w ∈ lw_tbl, w.before #[Value.ref b] s = true) (hgv : (Jvm.Cond.and given_1 narrow_1).before #[Value.ref b] s = true) : kXs s ∧ kSt (fun q : Nat => s.heap.size ≤ q) s s.heap := by
  obtain ⟨-, hbad, s1, s2, s3, s4, t1, t2, t3⟩ := law_words hts0
  have hg := flat_of_before _ hgv
  exact ⟨⟨hbad, ⟨law_str s1 (hg _ (by decide +kernel)), law_str s2 (hg _ (by decide +kernel)), law_str s3 (hg _ (by decide +kernel)), law_str s4 (hg _ (by decide +kernel))⟩, va_Nc.of (hg (.not (.castable xS xI)) (by decide +kernel)), va_Nc.of (hg (.not (.castable xU xI)) (by decide +kernel)), va_Nc.of (hg (.not (.castable xU xS)) (by decide +kernel)), va_Nc.of (hg (.not (.castable xI xB)) (by decide +kernel))⟩,
    vx_Zqof t1 t3 (hg (.isRef (.static Bundle.tN "UNASSIGNED_STACK" Bundle.steD)) (by decide +kernel)) (fun a h => Nat.not_le.mpr h), vx_Zqof t2 t3 (hg (.isRef (.static Bundle.tN "SUPPRESSED_SENTINEL" Bundle.listD)) (by decide +kernel)) (fun a h => Nat.not_le.mpr h)⟩
