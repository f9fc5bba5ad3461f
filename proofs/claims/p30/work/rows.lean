section
-- ===== PART A: goes FIRST, ahead of the names: the tables' words, and 'selects' of the private methods out of them =====
/-- a private method of a class that the tables say can be made, by its rows of tables_1 -/
def lw_okq (q : MethodName × Nat) : Prop := (q.1.cls ≠ "java/lang/invoke/MethodHandle" ∧ q.1.cls ≠ "java/lang/invoke/VarHandle") ∧ Cond.instantiable q.1.cls q.2 ∈ tables_1 ∧ Cond.privateMethod q.1 ∈ tables_1 ∧ Cond.instanceMethod q.1 ∈ tables_1
theorem lw_p0 : lw_okq (⟨"java/lang/Throwable", "fillInStackTrace", "(I)Ljava/lang/Throwable;"⟩, 6) := ⟨⟨by decide +kernel, by decide +kernel⟩, List.mem_of_getElem? (i := 270) (by decide +kernel), List.mem_of_getElem? (i := 268) (by decide +kernel), List.mem_of_getElem? (i := 269) (by decide +kernel)⟩
theorem lw_p1 : lw_okq (⟨"CrochetRounds$History", "slotAt", "(I)LCrochetRounds$Piece;"⟩, 3) := ⟨⟨by decide +kernel, by decide +kernel⟩, List.mem_of_getElem? (i := 69) (by decide +kernel), List.mem_of_getElem? (i := 304) (by decide +kernel), List.mem_of_getElem? (i := 305) (by decide +kernel)⟩
theorem lw_p2 : lw_okq (⟨"CrochetRounds", "shapeGoal", "(III)I"⟩, 5) := ⟨⟨by decide +kernel, by decide +kernel⟩, List.mem_of_getElem? (i := 17) (by decide +kernel), List.mem_of_getElem? (i := 396) (by decide +kernel), List.mem_of_getElem? (i := 397) (by decide +kernel)⟩
theorem lw_p3 : lw_okq (⟨"CrochetRounds$Plan", "measure", "(II)Z"⟩, 4) := ⟨⟨by decide +kernel, by decide +kernel⟩, List.mem_of_getElem? (i := 120) (by decide +kernel), List.mem_of_getElem? (i := 414) (by decide +kernel), List.mem_of_getElem? (i := 415) (by decide +kernel)⟩
theorem lw_p4 : lw_okq (⟨"CrochetRounds$Plan", "spreadKind", "(III)I"⟩, 4) := ⟨⟨by decide +kernel, by decide +kernel⟩, List.mem_of_getElem? (i := 120) (by decide +kernel), List.mem_of_getElem? (i := 418) (by decide +kernel), List.mem_of_getElem? (i := 419) (by decide +kernel)⟩
theorem lw_p5 : lw_okq (⟨"CrochetRounds", "addBest", "()I"⟩, 5) := ⟨⟨by decide +kernel, by decide +kernel⟩, List.mem_of_getElem? (i := 17) (by decide +kernel), List.mem_of_getElem? (i := 423) (by decide +kernel), List.mem_of_getElem? (i := 424) (by decide +kernel)⟩
theorem lw_p6 : lw_okq (⟨"CrochetRounds", "addRow", "(I)V"⟩, 5) := ⟨⟨by decide +kernel, by decide +kernel⟩, List.mem_of_getElem? (i := 17) (by decide +kernel), List.mem_of_getElem? (i := 445) (by decide +kernel), List.mem_of_getElem? (i := 446) (by decide +kernel)⟩
theorem lw_p7 : lw_okq (⟨"CrochetRounds", "checkRoom", "()V"⟩, 5) := ⟨⟨by decide +kernel, by decide +kernel⟩, List.mem_of_getElem? (i := 17) (by decide +kernel), List.mem_of_getElem? (i := 463) (by decide +kernel), List.mem_of_getElem? (i := 464) (by decide +kernel)⟩
theorem lw_p8 : lw_okq (⟨"CrochetRounds", "addPlanned", "(I)I"⟩, 5) := ⟨⟨by decide +kernel, by decide +kernel⟩, List.mem_of_getElem? (i := 17) (by decide +kernel), List.mem_of_getElem? (i := 496) (by decide +kernel), List.mem_of_getElem? (i := 497) (by decide +kernel)⟩
theorem lw_p9 : lw_okq (⟨"CrochetRounds", "sumOverRounds", "(I)I"⟩, 5) := ⟨⟨by decide +kernel, by decide +kernel⟩, List.mem_of_getElem? (i := 17) (by decide +kernel), List.mem_of_getElem? (i := 519) (by decide +kernel), List.mem_of_getElem? (i := 520) (by decide +kernel)⟩
theorem lw_p10 : lw_okq (⟨"CrochetRounds", "ofRound", "(II)I"⟩, 5) := ⟨⟨by decide +kernel, by decide +kernel⟩, List.mem_of_getElem? (i := 17) (by decide +kernel), List.mem_of_getElem? (i := 523) (by decide +kernel), List.mem_of_getElem? (i := 524) (by decide +kernel)⟩
theorem lw_p11 : lw_okq (⟨"CrochetRounds", "stackedOf", "(I)I"⟩, 5) := ⟨⟨by decide +kernel, by decide +kernel⟩, List.mem_of_getElem? (i := 17) (by decide +kernel), List.mem_of_getElem? (i := 535) (by decide +kernel), List.mem_of_getElem? (i := 536) (by decide +kernel)⟩
def lw_privs_1 : List (MethodName × Nat) := [(⟨"java/lang/Throwable", "fillInStackTrace", "(I)Ljava/lang/Throwable;"⟩, 6), (⟨"CrochetRounds$History", "slotAt", "(I)LCrochetRounds$Piece;"⟩, 3), (⟨"CrochetRounds", "shapeGoal", "(III)I"⟩, 5), (⟨"CrochetRounds$Plan", "measure", "(II)Z"⟩, 4), (⟨"CrochetRounds$Plan", "spreadKind", "(III)I"⟩, 4), (⟨"CrochetRounds", "addBest", "()I"⟩, 5), (⟨"CrochetRounds", "addRow", "(I)V"⟩, 5), (⟨"CrochetRounds", "checkRoom", "()V"⟩, 5), (⟨"CrochetRounds", "addPlanned", "(I)I"⟩, 5), (⟨"CrochetRounds", "sumOverRounds", "(I)I"⟩, 5), (⟨"CrochetRounds", "ofRound", "(II)I"⟩, 5), (⟨"CrochetRounds", "stackedOf", "(I)I"⟩, 5)]
theorem lw_r1 : ∀ q ∈ lw_privs_1, lw_okq q := List.forall_mem_cons.mpr ⟨lw_p0, List.forall_mem_cons.mpr ⟨lw_p1, List.forall_mem_cons.mpr ⟨lw_p2, List.forall_mem_cons.mpr ⟨lw_p3, List.forall_mem_cons.mpr ⟨lw_p4, List.forall_mem_cons.mpr ⟨lw_p5, List.forall_mem_cons.mpr ⟨lw_p6, List.forall_mem_cons.mpr ⟨lw_p7, List.forall_mem_cons.mpr ⟨lw_p8, List.forall_mem_cons.mpr ⟨lw_p9, List.forall_mem_cons.mpr ⟨lw_p10, List.forall_mem_cons.mpr ⟨lw_p11, fun _ h => absurd h List.not_mem_nil⟩⟩⟩⟩⟩⟩⟩⟩⟩⟩⟩⟩
def lw_privs : List (MethodName × Nat) := lw_privs_1
def lw_tbl : List Cond := k2_sels lw_privs ++ tables_1
theorem lw_privs_ok : ∀ q ∈ lw_privs, lw_okq q := lw_r1
end
section
/-! ===== BEGIN words of one list among another's, by their places ===== -/
theorem goodIn_r {big : List Cond} (ws : List Cond) (ps : List Nat) (hp : ws = ps.filterMap (fun i => big[i]?)) (h : ws.all goodWord = true) : GoodIn big ws := by
  intro w hw
  have h1 := List.all_eq_true.mp h w hw
  rw [hp] at hw
  obtain ⟨i, -, hi⟩ := List.mem_filterMap.mp hw
  have hm : w ∈ big := by first | exact List.mem_of_getElem? hi | exact List.getElem?_mem hi
  exact ⟨hm, good_of_word h1⟩
theorem goodIn_app {big a b : List Cond} (ha : GoodIn big a) (hb : GoodIn big b) : GoodIn big (a ++ b) := fun w h => (List.mem_append.mp h).elim (ha w) (hb w)
theorem goodIn_ca {big a b : List Cond} {c : Cond} (ha : GoodIn big (c :: a)) (hb : GoodIn big b) : GoodIn big (c :: (a ++ b)) := fun w h => (List.mem_cons.mp h).elim (fun e => ha w (List.mem_cons.mpr (Or.inl e))) (fun h => (List.mem_append.mp h).elim (fun h => ha w (List.mem_cons.mpr (Or.inr h))) (hb w))
theorem goodIn_sub {big ws : List Cond} (hm : ∀ w ∈ ws, w ∈ big) (h : ws.all goodWord = true) : GoodIn big ws := fun w hw => ⟨hm w hw, good_of_word (List.all_eq_true.mp h w hw)⟩
/-! ===== END ===== -/

/-! ===== BEGIN exceptions that leave a method, and their catching by the caller (launches without stack traces) ===== -/
section VXA
/-! The laws vx_back, vx_callV, vx_callS, vx_callSW, vx_throw0, vx_throwS follow proofs of the library, with one case more: JvmDerived/Free/Laws.lean (Back.of_free), Shelf42/LK1.lean (callV, callS), Shelf/KitTraced.lean (throwNew0V, throwNewS). -/
/-- where a method has thrown q: the class by its name, the cell, what was written, the world -/
def vx_T (XC : String → State → State → Prop) (st : State) (q : Addr) (t : State) (mc ms : Nat) (free : Addr → Prop) : Prop :=
  ∃ (E : String) (ce : Cell) (L : List Loc), XC E st t ∧ t.heap[q]? = some ce ∧ ce.vm = .none ∧ st.vm.findClass E = some ce.cls ∧ st.WarmedH t.vm ∧ st.sameButNew ({ t with vm := st.vm } : State) L mc ms ∧ ∀ z ∈ L, free z.base
def vx_Q (Qc : Array Value → State → Outcome → State → Prop) (XC : String → State → State → Prop) (mc ms : Nat) (free : Addr → Prop) : Array Value → State → Outcome → State → Prop := fun a st o t =>
  (Qc a st o t ∧ ∃ L, FrameEnd st o t L mc ms ∧ ∀ q ∈ L, free q.base) ∨ ∃ q, o = .threw q ∧ vx_T XC st q t mc ms free
/-- a callee that returns or throws -/
def vx_Met (l : Launch) (y : MethodName) (ws : List Cond) (rm : Room) (Pc : Array Value → State → Prop) (Qc : Array Value → State → Outcome → State → Prop) (XC : String → State → State → Prop) (mc ms : Nat) (free : Addr → Prop) : Prop :=
  MetFree l y (headSpec ws rm) Pc (fun _ _ _ _ _ => True) (vx_Q Qc XC mc ms free)
def vx_Post (XC : String → State → State → Prop) (mc ms : Nat) (free : Addr → Prop) : Pt → Array Value → Addr → Pt → Prop := fun A a q B =>
  ∃ (g : JFrame) (mk : MethodId) (t : State) (L : List Loc) (E : String) (ce : Cell), B.U.heap = t.heap ∧ B.U.vm = t.vm ∧ XC E (A.U.calling g mk a) t ∧ t.heap[q]? = some ce ∧ ce.vm = .none ∧ A.U.vm.findClass E = some ce.cls ∧ B.locs = A.locs ++ L ∧ (∀ z ∈ L, free z.base) ∧ B.cells = A.cells + mc ∧ B.slots = A.slots + ms
def vx_Back (l : Launch) (R : Room) (p : Program) (e : Env) (below : List Frame) (s : State) (sargs : Array Value) (y : MethodName) (len W9 : Nat)
    (Pre : Pt → Array Value → Prop) (Post : Pt → Array Value → Option Value → Pt → Prop) (PostX : Pt → Array Value → Addr → Pt → Prop) : Prop :=
  ∀ (m : MethodId) (meth : Method) (c : Code) (A : Pt) (g : JFrame) (ig : Instr) (mk : MethodId) (a : Array Value),
    Stand p l e R s m sargs below meth c A.U A.locs A.cells A.slots → g.method = m → g.locals.size = c.maxLocals → decode c.code g.pc = .ok (ig, len) →
    2 * g.monitorRoom + (g.stack.map fun v => v.category).sum ≤ W9 → A.U.methodNamed? y = some mk → Pre A a →
    (∃ (v : Option Value) (B : Pt), Stand p l e R s m sargs below meth c B.U B.locs B.cells B.slots ∧ Post A a v B ∧
      Steps p.tables e below (doInvoke e (A.U.setTop g) [] mk a).1 (B.U.setTop { g with pc := g.pc + len, stack := v.toList ++ g.stack })) ∨
    (∃ (q : Addr) (B : Pt), Stand p l e R s m sargs below meth c B.U B.locs B.cells B.slots ∧ PostX A a q B ∧
      Steps p.tables e below (doInvoke e (A.U.setTop g) [] mk a).1 ((B.U.setTop g).pushFrame (.throwing q)))
section Payer
variable {l : Launch} {R : Room} {p : Program} {e : Env} {below : List Frame} {s : State} {sargs : Array Value} {y : MethodName} {len W9 : Nat}
theorem vx_back {ws : List Cond} {rm : Room} {Pc : Array Value → State → Prop} {Qc : Array Value → State → Outcome → State → Prop} {XC : String → State → State → Prop} {mc ms : Nat} {free : Addr → Prop} {bytes : ByteArray} {maxL : Nat} {ret : Option FieldType}
    (hM : vx_Met l y ws rm Pc Qc XC mc ms free) (hblind : FrameBlind Pc) (hrc : rm.cells = mc) (hrs : rm.slots = ms)
    (hframes : rm.frames + 1 ≤ R.frames) (hlocals : W9 + (maxL + 11) + rm.locals ≤ R.locals)
    (hws : ∀ w ∈ ws, ∀ a' U, s.WarmedH U.vm → w.before a' U = true) (hcode : Cond.code y bytes maxL ret ∈ ws) (hinit : ∀ a' U, s.WarmedH U.vm → (Cond.initialized y.cls).before a' U = true) :
    vx_Back l R p e below s sargs y len W9 (PreOf R mc ms Pc) (PostOf Qc mc ms free) (vx_Post XC mc ms free) := by
  intro m meth c A g ig mk a X hg hsize hdg hW hn hp
  have h1 : (headSpec ws rm).pre.before a A.U = true := atoms_intro fun w hw => hws w hw _ _ X.warmed
  have h2 : (Cond.code y bytes maxL ret).before a A.U = true := hws _ hcode _ _ X.warmed
  have h3 : (Cond.initialized y.cls).before a A.U = true := hinit _ _ X.warmed
  have h4 : A.cells + (headSpec ws rm).room.cells ≤ R.cells := by rw [show (headSpec ws rm).room.cells = mc from hrc]; exact hp.1
  have h5 : A.slots + (headSpec ws rm).room.slots ≤ R.slots := by rw [show (headSpec ws rm).room.slots = ms from hrs]; exact hp.2.1
  have hPc : Pc a (A.U.calling g mk a) := hblind _ _ _ _ hp.2.2
  obtain ⟨U, Ls, c0, s0⟩ := A
  dsimp only [Pt.U, Pt.locs, Pt.cells, Pt.slots] at h1 h2 h3 h4 h5 X hn hPc ⊢
  obtain ⟨methY, cY, hmY, hcY, -, hlY, -, -, -, -⟩ := Cond.code_spec hn h2
  obtain ⟨kY, hkY, -⟩ := className_of_methodNamed hn
  have hinitY : kY.init = .initialized := Cond.initialized_spec (findClass_of_methodNamed hn) hkY h3
  have h : At U g.method c below := by rw [hg]; exact X.here
  have hlocals9 : W9 + (maxL + 11) + (headSpec ws rm).room.locals ≤ R.locals := hlocals
  have happ : (headSpec ws rm).appliesLoose y e.platform (U.calling g mk a) = true :=
    Spec.appliesLoose_calling (g := g) h hdg hn hkY hinitY
      (X.room_calling (g := g) (R' := (headSpec ws rm).room) hsize hmY hcY hframes (by rw [hlY]; omega) h4 h5) h1
  obtain ⟨mid, hmid⟩ := h.above
  have hfr : (U.setTop g).frames = (.java g :: mid) ++ below := by rw [State.frames_setTop' g h.top, hmid]; rfl
  obtain ⟨o, s₂, hsteps, -, hend, hq⟩ := Steps.callFree hM p X.admits X.cas X.clock (acts := []) hfr happ hPc trivial
  have hq' : vx_Q Qc XC mc ms free a (U.calling g mk a) o s₂ := hq
  rw [State.frames_setTop' g h.top] at hend
  obtain ⟨g₀, hg0⟩ := Option.isSome_iff_exists.mp h.top
  obtain ⟨r, hr⟩ := State.topJava?_eq_some.mp hg0
  have hr' : (({ U with heap := s₂.heap, slotsUsed := s₂.slotsUsed } : State).setVm s₂.vm).frames = .java g₀ :: r := hr
  rcases hq' with ⟨hqc, L, hfe, hL⟩ | ⟨q, rfl, E, ce, L, hx, hce, hcv, hcl, hW₂, hsm, hL⟩
  · obtain ⟨⟨v, rfl⟩, hW₂, e2, q2, q3, q4, q5, q6⟩ := id hfe
    have e3 : s₂ = ({ (U.calling g mk a).setFrames s₂.frames with heap := s₂.heap, slotsUsed := s₂.slotsUsed } : State).setVm s₂.vm := by
      have : s₂ = ({ s₂ with vm := (U.calling g mk a).vm } : State).setVm s₂.vm := rfl
      rw [e2] at this
      exact this
    obtain ⟨c₂, i₂, len₂, hc₂, hd₂, hf₂⟩ := hend
    have hW' : U.WarmedH s₂.vm := hW₂
    have hcc : c₂ = c := by
      have h1 : s₂.code? g.method = U.code? g.method := by
        rw [State.code?_eq, State.code?_eq, hW'.alike.method?]
      exact Option.some.inj (hc₂.symm.trans (h1.trans h.code))
    subst hcc
    have hlen : len₂ = len := by rw [hdg] at hd₂; cases hd₂; rfl
    subst hlen
    have hs₂ : s₂ = (({ U with heap := s₂.heap, slotsUsed := s₂.slotsUsed } : State).setVm s₂.vm).setTop { g with pc := g.pc + len₂, stack := v.toList ++ g.stack } := by
      refine e3.trans ?_
      rw [hf₂, State.calling_eq h.top, State.setFrames_setFrames, State.setTop_of_frames _ hr', hr]
      rfl
    have hsame : U.sameButNew ({ U with heap := s₂.heap, slotsUsed := s₂.slotsUsed } : State) L mc ms := by
      refine ⟨?_, q2, q3, q4, q5, q6⟩
      obtain ⟨t, ht, -⟩ := State.frames_cons hr
      show ({ U with heap := s₂.heap, slotsUsed := s₂.slotsUsed } : State) = { U.setFrames U.frames with heap := s₂.heap, slotsUsed := s₂.slotsUsed }
      rw [State.setFrames_self ht]
    subst hg
    refine Or.inl ⟨v, ⟨(({ U with heap := s₂.heap, slotsUsed := s₂.slotsUsed } : State).setVm s₂.vm), Ls ++ L, c0 + mc, s0 + ms⟩,
      ⟨X.admits, X.cas, X.clock, X.frames, X.room, X.hears, X.method, X.code, (X.here.setHeapUsed s₂.heap s₂.slotsUsed).setVm hW'.alike, X.tail, State.WarmedH.trans X.warmed hW', X.limits, X.bytes, X.same.trans (hsame.setVm s.vm)⟩,
      ⟨g, mk, s₂, L, rfl, rfl, hqc, rfl, hL, rfl, rfl⟩, ?_⟩
    show Steps p.tables e below _ ((({ U with heap := s₂.heap, slotsUsed := s₂.slotsUsed } : State).setVm s₂.vm).setTop { g with pc := g.pc + len₂, stack := v.toList ++ g.stack })
    rw [← hs₂]
    exact hsteps
  · obtain ⟨e2, q2, q3, q4, q5, q6⟩ := id hsm
    have e3 : s₂ = ({ (U.calling g mk a).setFrames s₂.frames with heap := s₂.heap, slotsUsed := s₂.slotsUsed } : State).setVm s₂.vm := by
      have : s₂ = ({ s₂ with vm := (U.calling g mk a).vm } : State).setVm s₂.vm := rfl
      rw [e2] at this
      exact this
    have hf₂ : s₂.frames = .throwing q :: .java g :: U.frames.tail := hend
    have hW' : U.WarmedH s₂.vm := hW₂
    have hs₂ : s₂ = ((({ U with heap := s₂.heap, slotsUsed := s₂.slotsUsed } : State).setVm s₂.vm).setTop g).pushFrame (.throwing q) := by
      refine e3.trans ?_
      rw [hf₂, State.calling_eq h.top, State.setFrames_setFrames, State.pushFrame, State.frames_setTop _ hr', State.setTop_of_frames _ hr', State.setFrames_setFrames, hr]
      rfl
    have hsame : U.sameButNew ({ U with heap := s₂.heap, slotsUsed := s₂.slotsUsed } : State) L mc ms := by
      refine ⟨?_, q2, q3, q4, q5, q6⟩
      obtain ⟨t, ht, -⟩ := State.frames_cons hr
      show ({ U with heap := s₂.heap, slotsUsed := s₂.slotsUsed } : State) = { U.setFrames U.frames with heap := s₂.heap, slotsUsed := s₂.slotsUsed }
      rw [State.setFrames_self ht]
    subst hg
    refine Or.inr ⟨q, ⟨(({ U with heap := s₂.heap, slotsUsed := s₂.slotsUsed } : State).setVm s₂.vm), Ls ++ L, c0 + mc, s0 + ms⟩,
      ⟨X.admits, X.cas, X.clock, X.frames, X.room, X.hears, X.method, X.code, (X.here.setHeapUsed s₂.heap s₂.slotsUsed).setVm hW'.alike, X.tail, State.WarmedH.trans X.warmed hW', X.limits, X.bytes, X.same.trans (hsame.setVm s.vm)⟩,
      ⟨g, mk, s₂, L, E, ce, rfl, rfl, hx, hce, hcv, hcl, rfl, hL, rfl, rfl⟩, ?_⟩
    show Steps p.tables e below _ (((({ U with heap := s₂.heap, slotsUsed := s₂.slotsUsed } : State).setVm s₂.vm).setTop g).pushFrame (.throwing q))
    rw [← hs₂]
    exact hsteps
end Payer
section Calls
variable {p : Program} {l : Launch} {e : Env} {R : Room} {s : State} {m : MethodId} {args : Array Value} {below : List Frame} {meth : Method} {c : Code} {T : State} {locs : List Loc} {cells slots : Nat}
theorem vx_callV (X : Stand p l e R s m args below meth c T locs cells slots) (hexec : p.tables.exec = Jvm.exec) {own C : String} {index : Nat} {y : MethodName} {bytes : ByteArray} {maxL : Nat} {ret : Option FieldType}
    (hown : s.vm.findClass own = some m.cls) (hlink : (Cond.methodLink own index y).before args s = true) (hinst : (Cond.instanceMethod y).before args s = true) (hsel : (Cond.selects C y y).before args s = true)
    (hcode : (Cond.code y bytes maxL ret).before args s = true) (hy : y.cls ≠ "java/lang/invoke/MethodHandle" ∧ y.cls ≠ "java/lang/invoke/VarHandle")
    {W9 : Nat} {Pre : Pt → Array Value → Prop} {Post : Pt → Array Value → Option Value → Pt → Prop} {PostX : Pt → Array Value → Addr → Pt → Prop} (hK : vx_Back l R p e below s args y 3 W9 Pre Post PostX)
    {b : Addr} {cellB : Cell} (hcell : T.heap[b]? = some cellB) (hobj : cellB.vm.isStatics = false) (hcls : s.vm.findClass C = some cellB.cls)
    {g : JFrame} (hg : g.method = m) (hsize : g.locals.size = c.maxLocals) {argsL rest : List Value} (hlen : ∀ sig, parseMethodDescriptor y.desc = some sig → argsL.length = sig.parameters.length)
    (hstack : g.stack = argsL.reverse ++ .ref b :: rest) (hW : 2 * g.monitorRoom + (rest.map fun v => v.category).sum ≤ W9) (hdg : decode c.code g.pc = .ok (.invokevirtual index, 3))
    (hpre : ∀ vm₁, s.WarmedH vm₁ → Pre ⟨T.setVm vm₁, locs, cells, slots⟩ (Value.ref b :: argsL).toArray) :
    (∃ (v : Option Value) (vm₁ : Vm) (B : Pt), s.WarmedH vm₁ ∧ Stand p l e R s m args below meth c B.U B.locs B.cells B.slots ∧ Post ⟨T.setVm vm₁, locs, cells, slots⟩ (Value.ref b :: argsL).toArray v B ∧
      ∀ target, Steps p.tables e below (B.U.setTop { g with pc := g.pc + 3, stack := v.toList ++ rest }) target → Steps p.tables e below (T.setTop g) target) ∨
    (∃ (q : Addr) (vm₁ : Vm) (B : Pt), s.WarmedH vm₁ ∧ Stand p l e R s m args below meth c B.U B.locs B.cells B.slots ∧ PostX ⟨T.setVm vm₁, locs, cells, slots⟩ (Value.ref b :: argsL).toArray q B ∧
      Steps p.tables e below (T.setTop g) ((B.U.setTop { g with stack := rest }).pushFrame (.throwing q))) := by
  obtain ⟨mk, methM, hnamed, hmethM, hstM, habM⟩ := Cond.instanceMethod_spec hinst
  obtain ⟨methM', cM, hmethM', -, -, -, -, -, -, hsigM⟩ := Cond.code_spec hnamed hcode
  cases hmethM.symm.trans hmethM'
  obtain ⟨c2, r2, m2, q1, q2, q3, q4, kP, hkP, hkPi⟩ := Cond.selects_spec hsel
  cases hcls.symm.trans q1
  cases (State.methodFound?_of_named hnamed hy).symm.trans q2
  cases hnamed.symm.trans q3
  have hselP : selectMethod e.platform s.vm cellB.cls mk = .method mk := by rw [Launch.admits_selectMethod X.admits]; exact q4
  obtain ⟨vm₁, X₁, hstep₁⟩ := X.invokevirtual hexec hown hlink hnamed hmethM hstM hkP hkPi hy (a := b) (cell := cellB) hcell
    (fun z h => by rw [h] at hobj; cases hobj) hselP hmethM habM hkP hkPi (g := g) hg (argsL := argsL) (rest := rest) (hlen _ hsigM) hstack hdg
  rcases hK m meth c ⟨T.setVm vm₁, locs, cells, slots⟩ { g with stack := rest } (.invokevirtual index) mk (Value.ref b :: argsL).toArray X₁ hg hsize hdg hW (X₁.named hnamed) (hpre vm₁ X₁.warmed) with ⟨v, B, X', hpost, hsteps⟩ | ⟨q, B, X', hpost, hsteps⟩
  · exact Or.inl ⟨v, vm₁, B, X₁.warmed, X', hpost, fun target h => hstep₁ _ fun acts => by rw [doInvoke_state]; exact hsteps.trans h⟩
  · exact Or.inr ⟨q, vm₁, B, X₁.warmed, X', hpost, hstep₁ _ fun acts => by rw [doInvoke_state]; exact hsteps⟩
theorem vx_callS (X : Stand p l e R s m args below meth c T locs cells slots) (hexec : p.tables.exec = Jvm.exec) {own : String} {index : Nat} {y : MethodName} {bytes : ByteArray} {maxL : Nat} {ret : Option FieldType}
    (hown : s.vm.findClass own = some m.cls) (hlink : (Cond.methodLink own index y).before args s = true) (hstat : (Cond.static y).before args s = true) (hinit : (Cond.initialized y.cls).before args s = true)
    (hcode : (Cond.code y bytes maxL ret).before args s = true) (hy : y.cls ≠ "java/lang/invoke/MethodHandle" ∧ y.cls ≠ "java/lang/invoke/VarHandle")
    {W9 : Nat} {Pre : Pt → Array Value → Prop} {Post : Pt → Array Value → Option Value → Pt → Prop} {PostX : Pt → Array Value → Addr → Pt → Prop} (hK : vx_Back l R p e below s args y 3 W9 Pre Post PostX)
    {g : JFrame} (hg : g.method = m) (hsize : g.locals.size = c.maxLocals) {argsL rest : List Value} (hlen : ∀ sig, parseMethodDescriptor y.desc = some sig → argsL.length = sig.parameters.length)
    (hstack : g.stack = argsL.reverse ++ rest) (hW : 2 * g.monitorRoom + (rest.map fun v => v.category).sum ≤ W9) (hdg : decode c.code g.pc = .ok (.invokestatic index, 3))
    (hpre : ∀ vm₁, s.WarmedH vm₁ → Pre ⟨T.setVm vm₁, locs, cells, slots⟩ argsL.toArray) :
    (∃ (v : Option Value) (vm₁ : Vm) (B : Pt), s.WarmedH vm₁ ∧ Stand p l e R s m args below meth c B.U B.locs B.cells B.slots ∧ Post ⟨T.setVm vm₁, locs, cells, slots⟩ argsL.toArray v B ∧
      ∀ target, Steps p.tables e below (B.U.setTop { g with pc := g.pc + 3, stack := v.toList ++ rest }) target → Steps p.tables e below (T.setTop g) target) ∨
    (∃ (q : Addr) (vm₁ : Vm) (B : Pt), s.WarmedH vm₁ ∧ Stand p l e R s m args below meth c B.U B.locs B.cells B.slots ∧ PostX ⟨T.setVm vm₁, locs, cells, slots⟩ argsL.toArray q B ∧
      Steps p.tables e below (T.setTop g) ((B.U.setTop { g with stack := rest }).pushFrame (.throwing q))) := by
  obtain ⟨mk, hnamed⟩ := Cond.code_named hcode
  obtain ⟨methM, cM, hmethM, -, -, -, -, -, -, hsigM⟩ := Cond.code_spec hnamed hcode
  have hstatic : methM.isStatic = true := Cond.static_spec hnamed hmethM hstat
  obtain ⟨kP, hkP, -⟩ := className_of_methodNamed hnamed
  have hinitP : kP.init = .initialized := Cond.initialized_spec (findClass_of_methodNamed hnamed) hkP hinit
  obtain ⟨vm₁, X₁, hstep₁⟩ := X.invokestatic hexec hown hlink hnamed hmethM hstatic hkP hinitP hy (g := g) hg (argsL := argsL) (rest := rest) (hlen _ hsigM) hstack hdg
  rcases hK m meth c ⟨T.setVm vm₁, locs, cells, slots⟩ { g with stack := rest } (.invokestatic index) mk argsL.toArray X₁ hg hsize hdg hW (X₁.named hnamed) (hpre vm₁ X₁.warmed) with ⟨v, B, X', hpost, hsteps⟩ | ⟨q, B, X', hpost, hsteps⟩
  · exact Or.inl ⟨v, vm₁, B, X₁.warmed, X', hpost, fun target h => hstep₁ _ fun acts => by rw [doInvoke_state]; exact hsteps.trans h⟩
  · exact Or.inr ⟨q, vm₁, B, X₁.warmed, X', hpost, hstep₁ _ fun acts => by rw [doInvoke_state]; exact hsteps⟩
end Calls
theorem vx_cls {s : State} {T : State} {vm₁ : Vm} {E : String} {k : ClassId} (hW : s.WarmedH vm₁) (h : (T.setVm vm₁).vm.findClass E = some k) : s.vm.findClass E = some k := by
  have h1 : vm₁.findClass E = some k := h
  rw [hW.alike.findClass] at h1
  exact h1
/-- the method's frame g, with q thrown over it -/
def vx_W (p : Program) (l : Launch) (e : Env) (R : Room) (s : State) (m : MethodId) (args : Array Value) (below : List Frame) (meth : Method) (c : Code) (H : Heap) (locs : List Loc) (cells slots : Nat) (Q : State → Prop) (g : JFrame) (q : Addr) : Prop :=
  ∀ T : State, T.heap = H → Stand p l e R s m args below meth c T locs cells slots → ∃ t, Steps p.tables e below ((T.setTop g).pushFrame (.throwing q)) t ∧ Q t
def vx_Run (p : Program) (l : Launch) (e : Env) (R : Room) (s : State) (m : MethodId) (args : Array Value) (below : List Frame) (meth : Method) (c : Code) (H : Heap) (locs : List Loc) (cells slots mc ms : Nat) (g : JFrame) (rest : List Value) (Qa : State → Outcome → State → Prop) (XC : String → State → State → Prop) (free : Addr → Prop) : Prop :=
  ∀ T : State, T.heap = H → Stand p l e R s m args below meth c T locs cells slots →
    (∃ (v : Option Value) (st₀ t T' : State) (L : List Loc), st₀.heap = H ∧ Stand p l e R s m args below meth c T' (locs ++ L) (cells + mc) (slots + ms) ∧ (∀ q ∈ L, free q.base) ∧ T'.heap = t.heap ∧ T'.vm = t.vm ∧ Qa st₀ (.returned v) t ∧
      Goes p e below T g T' { g with pc := g.pc + 3, stack := v.toList ++ rest }) ∨
    (∃ (q : Addr) (st₀ t T' : State) (L : List Loc) (E : String) (ce : Cell), st₀.heap = H ∧ Stand p l e R s m args below meth c T' (locs ++ L) (cells + mc) (slots + ms) ∧ (∀ z ∈ L, free z.base) ∧ T'.heap = t.heap ∧ T'.vm = t.vm ∧ XC E st₀ t ∧ t.heap[q]? = some ce ∧ ce.vm = .none ∧ s.vm.findClass E = some ce.cls ∧
      Steps p.tables e below (T.setTop g) ((T'.setTop { g with stack := rest }).pushFrame (.throwing q)))
def vx_X {S : Type} (px : S → Prop) (B : String → S → State → Prop) (A : Nat → Prop) : String → State → State → Prop := fun E st t => ∃ u : S, px u ∧ B E u t ∧ va_F A st t
section Runs
variable {p : Program} {l : Launch} {e : Env} {R : Room} {s : State} {m : MethodId} {args : Array Value} {below : List Frame} {meth : Method} {c : Code} {H : Heap} {locs : List Loc} {cells slots : Nat}
variable {y : MethodName} {bytes cc : ByteArray} {maxL nL mc ms n index : Nat} {ret : Option FieldType} {ws : List Cond} {rm : Room} {Pc : Array Value → State → Prop} {Qc : Array Value → State → Outcome → State → Prop} {XC : String → State → State → Prop} {free : Addr → Prop} {Ts : List Cond} {own C : String} {b : Addr} {As rest : List Value} {g : JFrame}
theorem vx_callBack (cb : CallB R s args own index y bytes maxL ret ws rm mc ms n) (hM : vx_Met l y ws rm Pc Qc XC mc ms free) (hbl : FrameBlind Pc) : vx_Back l R p e below s args y 3 8 (PreOf R mc ms Pc) (PostOf Qc mc ms free) (vx_Post XC mc ms free) := by
  obtain ⟨hrc, hrs, hfr, hlo, hws, hcw, -, hini, -⟩ := cb
  exact vx_back (bytes := bytes) (maxL := maxL) (ret := ret) hM hbl hrc hrs hfr hlo hws hcw (fun a' U hW => word_at hW (Or.inl (by first | rfl | simp [Cond.onTables, Cond.keeps, Cond.steady])) hini)
theorem vx_runV (S : CallFix p m c cc nL s args Ts own) (hM : vx_Met l y ws rm Pc Qc XC mc ms free) (cw : CallW R s args own C index y bytes maxL ret ws rm mc ms n) (hp : PreV s H C b Pc As)
    (hg : g.method = m) (hn : As.length = n) (hsize : g.locals.size = nL) (hstack : g.stack = As.reverse ++ .ref b :: rest) (hW : 2 * g.monitorRoom + (rest.map fun v => v.category).sum ≤ 8) (hdg : decode cc g.pc = .ok (.invokevirtual index, 3)) (hf : cells + mc ≤ R.cells ∧ slots + ms ≤ R.slots) :
    vx_Run p l e R s m args below meth c H locs cells slots mc ms g rest (Qc (Value.ref b :: As).toArray) XC free := by
  have hK : vx_Back l R p e below s args y 3 8 (PreOf R mc ms Pc) (PostOf Qc mc ms free) (vx_Post XC mc ms free) := vx_callBack cw.1 hM hp.1
  obtain ⟨⟨-, -, -, -, -, -, hcode, -, hy, hlen, hl⟩, hin, hse⟩ := cw
  obtain ⟨hx, hb, hml, ho, -⟩ := S
  obtain ⟨-, ⟨cellB, hcB, hoB, hclB⟩, hPc⟩ := hp
  intro T hT X
  rcases vx_callV X hx (C := C) (bytes := bytes) (maxL := maxL) (ret := ret) ho hl hin hse hcode hy hK (by rw [hT]; exact hcB) hoB hclB hg (hsize.trans hml.symm) (argsL := As) (rest := rest) (fun sig h => hn.trans (hlen sig h)) hstack hW (by rw [hb]; exact hdg)
    (fun vm₁ hW₁ => ⟨hf.1, hf.2, hPc (T.setVm vm₁) hT hW₁⟩) with ⟨v, vm₁, ⟨U', l2, c2, s2⟩, hW₁, X', ⟨g', mk, t, L, e1, e2, hq, h1, hL, h2, h3⟩, st⟩ | ⟨q, vm₁, ⟨U', l2, c2, s2⟩, hW₁, X', ⟨g', mk, t, L, E, ce, e1, e2, hq, hce, hcv, hcl, h1, hL, h2, h3⟩, st⟩
  · dsimp only [Pt.U, Pt.locs, Pt.cells, Pt.slots] at X' e1 e2 h1 h2 h3 st
    subst h1; subst h2; subst h3
    exact Or.inl ⟨v, (T.setVm vm₁).calling g' mk (Value.ref b :: As).toArray, t, U', L, hT, X', hL, e1, e2, hq, st⟩
  · dsimp only [Pt.U, Pt.locs, Pt.cells, Pt.slots] at X' e1 e2 h1 h2 h3 st hcl
    subst h1; subst h2; subst h3
    exact Or.inr ⟨q, (T.setVm vm₁).calling g' mk (Value.ref b :: As).toArray, t, U', L, E, ce, hT, X', hL, e1, e2, hq, hce, hcv, vx_cls hW₁ hcl, st⟩
theorem vx_runS (S : CallFix p m c cc nL s args Ts own) (hM : vx_Met l y ws rm Pc Qc XC mc ms free) (cw : CallB R s args own index y bytes maxL ret ws rm mc ms n ∧ (Cond.static y).before args s = true) (hp : PreS s H Pc As)
    (hg : g.method = m) (hn : As.length = n) (hsize : g.locals.size = nL) (hstack : g.stack = As.reverse ++ rest) (hW : 2 * g.monitorRoom + (rest.map fun v => v.category).sum ≤ 8) (hdg : decode cc g.pc = .ok (.invokestatic index, 3)) (hf : cells + mc ≤ R.cells ∧ slots + ms ≤ R.slots) :
    vx_Run p l e R s m args below meth c H locs cells slots mc ms g rest (Qc As.toArray) XC free := by
  have hK : vx_Back l R p e below s args y 3 8 (PreOf R mc ms Pc) (PostOf Qc mc ms free) (vx_Post XC mc ms free) := vx_callBack cw.1 hM hp.1
  obtain ⟨⟨-, -, -, -, -, -, hcode, hini, hy, hlen, hl⟩, hstt⟩ := cw
  obtain ⟨hx, hb, hml, ho, -⟩ := S
  intro T hT X
  rcases vx_callS X hx (bytes := bytes) (maxL := maxL) (ret := ret) ho hl hstt hini hcode hy hK hg (hsize.trans hml.symm) (argsL := As) (rest := rest) (fun sig h => hn.trans (hlen sig h)) hstack hW (by rw [hb]; exact hdg)
    (fun vm₁ hW₁ => ⟨hf.1, hf.2, hp.2 (T.setVm vm₁) hT hW₁⟩) with ⟨v, vm₁, ⟨U', l2, c2, s2⟩, hW₁, X', ⟨g', mk, t, L, e1, e2, hq, h1, hL, h2, h3⟩, st⟩ | ⟨q, vm₁, ⟨U', l2, c2, s2⟩, hW₁, X', ⟨g', mk, t, L, E, ce, e1, e2, hq, hce, hcv, hcl, h1, hL, h2, h3⟩, st⟩
  · dsimp only [Pt.U, Pt.locs, Pt.cells, Pt.slots] at X' e1 e2 h1 h2 h3 st
    subst h1; subst h2; subst h3
    exact Or.inl ⟨v, (T.setVm vm₁).calling g' mk As.toArray, t, U', L, hT, X', hL, e1, e2, hq, st⟩
  · dsimp only [Pt.U, Pt.locs, Pt.cells, Pt.slots] at X' e1 e2 h1 h2 h3 st hcl
    subst h1; subst h2; subst h3
    exact Or.inr ⟨q, (T.setVm vm₁).calling g' mk As.toArray, t, U', L, E, ce, hT, X', hL, e1, e2, hq, hce, hcv, vx_cls hW₁ hcl, st⟩
end Runs
section Rows
variable {p : Program} {l : Launch} {e : Env} {R : Room} {s : State} {m : MethodId} {args : Array Value} {below : List Frame} {meth : Method} {c : Code} {H : Heap} {locs : List Loc} {cells slots : Nat} {Q : State → Prop}
variable {mc ms : Nat} {free : Addr → Prop} {A0 A1 : Nat → Prop} {H0 : Heap} {a : Array Value} {pc : Nat} {ls : Array Slot} {st0 rest : List Value}
theorem vx_keep {st₀ t T' : State} {L : List Loc} (h0 : st₀.heap = H) (e1 : T'.heap = t.heap) (hS : va_S A0 H0 H locs) (hA : ∀ q, q < H.size → A1 q → A0 q) (hf : ∀ q, free q → A0 q) (hL : ∀ q ∈ L, free q.base) (hF : va_F A1 st₀ t) :
    H.size ≤ T'.heap.size ∧ (∀ q : Nat, q < H.size → ¬ A1 q → T'.heap[q]? = H[q]?) ∧ va_S A0 H0 T'.heap (locs ++ L) := by
  obtain ⟨hz, hk⟩ := hF
  rw [h0] at hz hk
  exact ⟨by rw [e1]; exact hz, fun q h1 h2 => by rw [e1]; exact hk q h1 h2,
    ⟨Nat.le_trans hS.1 (by rw [e1]; exact hz), fun q h1 h2 => by rw [e1, hk q (Nat.lt_of_lt_of_le h1 hS.1) (fun z => h2 (hA q (Nat.lt_of_lt_of_le h1 hS.1) z))]; exact hS.2.1 q h1 h2, fun q hq => by
      rcases List.mem_append.mp hq with h | h
      · exact hS.2.2 q h
      · exact hf _ (hL q h)⟩⟩
theorem vx_calli {S SX : Type} {post : Int32 → S → Prop} {px : SX → Prop} {B : S → State → Prop} {BX : String → SX → State → Prop} {AX : Nat → Prop} (hr : vx_Run p l e R s m args below meth c H locs cells slots mc ms (F0 m pc ls st0) rest (va_Qi post B A1 a) (vx_X px BX AX) free) (hS : va_S A0 H0 H locs) (hA : ∀ q, q < H.size → A1 q → A0 q) (hf : ∀ q, free q → A0 q) (hAX : ∀ q, q < H.size → AX q → A0 q)
    (kx : ∀ (E : String) (ce : Cell) (q9 : Addr) (u : SX) (t : State) (H1 : Heap) (locs1 : List Loc), t.heap = H1 → s.vm.Alike t.vm → px u → BX E u t → H.size ≤ H1.size → (∀ q : Nat, q < H.size → ¬ AX q → H1[q]? = H[q]?) → va_S A0 H0 H1 locs1 → H1[q9]? = some ce → ce.vm = .none → s.vm.findClass E = some ce.cls → vx_W p l e R s m args below meth c H1 locs1 (cells + mc) (slots + ms) Q (F0 m pc ls rest) q9)
    (kk : ∀ (r : Int32) (u : S) (t : State) (H1 : Heap) (locs1 : List Loc), t.heap = H1 → s.vm.Alike t.vm → post r u → B u t → H.size ≤ H1.size → (∀ q : Nat, q < H.size → ¬ A1 q → H1[q]? = H[q]?) → va_S A0 H0 H1 locs1 → W p l e R s m args below meth c H1 locs1 (cells + mc) (slots + ms) Q (F0 m (pc + 3) ls (.int r :: rest))) : W p l e R s m args below meth c H locs cells slots Q (F0 m pc ls st0) := by
  intro T hT X
  rcases hr T hT X with ⟨v, st₀, t, T', L, h0, X', hL, e1, e2, ⟨⟨r, u, hv, hp, hb⟩, hF⟩, st⟩ | ⟨q, st₀, t, T', L, E, ce, h0, X', hL, e1, e2, ⟨u, hp, hb, hF⟩, hce, hcv, hcl, st⟩
  · cases hv
    obtain ⟨k1, k2, k3⟩ := vx_keep h0 e1 hS hA hf hL hF
    obtain ⟨t2, a1, b1⟩ := kk r u t T'.heap (locs ++ L) e1.symm (by rw [← e2]; exact X'.warmed.alike) hp hb k1 k2 k3 T' rfl X'
    exact ⟨t2, st t2 a1, b1⟩
  · obtain ⟨k1, k2, k3⟩ := vx_keep h0 e1 hS hAX hf hL hF
    obtain ⟨t2, a1, b1⟩ := kx E ce q u t T'.heap (locs ++ L) e1.symm (by rw [← e2]; exact X'.warmed.alike) hp hb k1 k2 k3 (by rw [e1]; exact hce) hcv hcl T' rfl X'
    exact ⟨t2, st.trans a1, b1⟩
theorem vx_calll {S SX : Type} {post : Int64 → S → Prop} {px : SX → Prop} {B : S → State → Prop} {BX : String → SX → State → Prop} {AX : Nat → Prop} (hr : vx_Run p l e R s m args below meth c H locs cells slots mc ms (F0 m pc ls st0) rest (va_Ql post B A1 a) (vx_X px BX AX) free) (hS : va_S A0 H0 H locs) (hA : ∀ q, q < H.size → A1 q → A0 q) (hf : ∀ q, free q → A0 q) (hAX : ∀ q, q < H.size → AX q → A0 q)
    (kx : ∀ (E : String) (ce : Cell) (q9 : Addr) (u : SX) (t : State) (H1 : Heap) (locs1 : List Loc), t.heap = H1 → s.vm.Alike t.vm → px u → BX E u t → H.size ≤ H1.size → (∀ q : Nat, q < H.size → ¬ AX q → H1[q]? = H[q]?) → va_S A0 H0 H1 locs1 → H1[q9]? = some ce → ce.vm = .none → s.vm.findClass E = some ce.cls → vx_W p l e R s m args below meth c H1 locs1 (cells + mc) (slots + ms) Q (F0 m pc ls rest) q9)
    (kk : ∀ (r : Int64) (u : S) (t : State) (H1 : Heap) (locs1 : List Loc), t.heap = H1 → s.vm.Alike t.vm → post r u → B u t → H.size ≤ H1.size → (∀ q : Nat, q < H.size → ¬ A1 q → H1[q]? = H[q]?) → va_S A0 H0 H1 locs1 → W p l e R s m args below meth c H1 locs1 (cells + mc) (slots + ms) Q (F0 m (pc + 3) ls (.long r :: rest))) : W p l e R s m args below meth c H locs cells slots Q (F0 m pc ls st0) := by
  intro T hT X
  rcases hr T hT X with ⟨v, st₀, t, T', L, h0, X', hL, e1, e2, ⟨⟨r, u, hv, hp, hb⟩, hF⟩, st⟩ | ⟨q, st₀, t, T', L, E, ce, h0, X', hL, e1, e2, ⟨u, hp, hb, hF⟩, hce, hcv, hcl, st⟩
  · cases hv
    obtain ⟨k1, k2, k3⟩ := vx_keep h0 e1 hS hA hf hL hF
    obtain ⟨t2, a1, b1⟩ := kk r u t T'.heap (locs ++ L) e1.symm (by rw [← e2]; exact X'.warmed.alike) hp hb k1 k2 k3 T' rfl X'
    exact ⟨t2, st t2 a1, b1⟩
  · obtain ⟨k1, k2, k3⟩ := vx_keep h0 e1 hS hAX hf hL hF
    obtain ⟨t2, a1, b1⟩ := kx E ce q u t T'.heap (locs ++ L) e1.symm (by rw [← e2]; exact X'.warmed.alike) hp hb k1 k2 k3 (by rw [e1]; exact hce) hcv hcl T' rfl X'
    exact ⟨t2, st.trans a1, b1⟩
theorem vx_callf {S SX : Type} {post : UInt32 → S → Prop} {px : SX → Prop} {B : S → State → Prop} {BX : String → SX → State → Prop} {AX : Nat → Prop} (hr : vx_Run p l e R s m args below meth c H locs cells slots mc ms (F0 m pc ls st0) rest (va_Qf post B A1 a) (vx_X px BX AX) free) (hS : va_S A0 H0 H locs) (hA : ∀ q, q < H.size → A1 q → A0 q) (hf : ∀ q, free q → A0 q) (hAX : ∀ q, q < H.size → AX q → A0 q)
    (kx : ∀ (E : String) (ce : Cell) (q9 : Addr) (u : SX) (t : State) (H1 : Heap) (locs1 : List Loc), t.heap = H1 → s.vm.Alike t.vm → px u → BX E u t → H.size ≤ H1.size → (∀ q : Nat, q < H.size → ¬ AX q → H1[q]? = H[q]?) → va_S A0 H0 H1 locs1 → H1[q9]? = some ce → ce.vm = .none → s.vm.findClass E = some ce.cls → vx_W p l e R s m args below meth c H1 locs1 (cells + mc) (slots + ms) Q (F0 m pc ls rest) q9)
    (kk : ∀ (r : UInt32) (u : S) (t : State) (H1 : Heap) (locs1 : List Loc), t.heap = H1 → s.vm.Alike t.vm → post r u → B u t → H.size ≤ H1.size → (∀ q : Nat, q < H.size → ¬ A1 q → H1[q]? = H[q]?) → va_S A0 H0 H1 locs1 → W p l e R s m args below meth c H1 locs1 (cells + mc) (slots + ms) Q (F0 m (pc + 3) ls (.float r :: rest))) : W p l e R s m args below meth c H locs cells slots Q (F0 m pc ls st0) := by
  intro T hT X
  rcases hr T hT X with ⟨v, st₀, t, T', L, h0, X', hL, e1, e2, ⟨⟨r, u, hv, hp, hb⟩, hF⟩, st⟩ | ⟨q, st₀, t, T', L, E, ce, h0, X', hL, e1, e2, ⟨u, hp, hb, hF⟩, hce, hcv, hcl, st⟩
  · cases hv
    obtain ⟨k1, k2, k3⟩ := vx_keep h0 e1 hS hA hf hL hF
    obtain ⟨t2, a1, b1⟩ := kk r u t T'.heap (locs ++ L) e1.symm (by rw [← e2]; exact X'.warmed.alike) hp hb k1 k2 k3 T' rfl X'
    exact ⟨t2, st t2 a1, b1⟩
  · obtain ⟨k1, k2, k3⟩ := vx_keep h0 e1 hS hAX hf hL hF
    obtain ⟨t2, a1, b1⟩ := kx E ce q u t T'.heap (locs ++ L) e1.symm (by rw [← e2]; exact X'.warmed.alike) hp hb k1 k2 k3 (by rw [e1]; exact hce) hcv hcl T' rfl X'
    exact ⟨t2, st.trans a1, b1⟩
theorem vx_calld {S SX : Type} {post : UInt64 → S → Prop} {px : SX → Prop} {B : S → State → Prop} {BX : String → SX → State → Prop} {AX : Nat → Prop} (hr : vx_Run p l e R s m args below meth c H locs cells slots mc ms (F0 m pc ls st0) rest (va_Qd post B A1 a) (vx_X px BX AX) free) (hS : va_S A0 H0 H locs) (hA : ∀ q, q < H.size → A1 q → A0 q) (hf : ∀ q, free q → A0 q) (hAX : ∀ q, q < H.size → AX q → A0 q)
    (kx : ∀ (E : String) (ce : Cell) (q9 : Addr) (u : SX) (t : State) (H1 : Heap) (locs1 : List Loc), t.heap = H1 → s.vm.Alike t.vm → px u → BX E u t → H.size ≤ H1.size → (∀ q : Nat, q < H.size → ¬ AX q → H1[q]? = H[q]?) → va_S A0 H0 H1 locs1 → H1[q9]? = some ce → ce.vm = .none → s.vm.findClass E = some ce.cls → vx_W p l e R s m args below meth c H1 locs1 (cells + mc) (slots + ms) Q (F0 m pc ls rest) q9)
    (kk : ∀ (r : UInt64) (u : S) (t : State) (H1 : Heap) (locs1 : List Loc), t.heap = H1 → s.vm.Alike t.vm → post r u → B u t → H.size ≤ H1.size → (∀ q : Nat, q < H.size → ¬ A1 q → H1[q]? = H[q]?) → va_S A0 H0 H1 locs1 → W p l e R s m args below meth c H1 locs1 (cells + mc) (slots + ms) Q (F0 m (pc + 3) ls (.double r :: rest))) : W p l e R s m args below meth c H locs cells slots Q (F0 m pc ls st0) := by
  intro T hT X
  rcases hr T hT X with ⟨v, st₀, t, T', L, h0, X', hL, e1, e2, ⟨⟨r, u, hv, hp, hb⟩, hF⟩, st⟩ | ⟨q, st₀, t, T', L, E, ce, h0, X', hL, e1, e2, ⟨u, hp, hb, hF⟩, hce, hcv, hcl, st⟩
  · cases hv
    obtain ⟨k1, k2, k3⟩ := vx_keep h0 e1 hS hA hf hL hF
    obtain ⟨t2, a1, b1⟩ := kk r u t T'.heap (locs ++ L) e1.symm (by rw [← e2]; exact X'.warmed.alike) hp hb k1 k2 k3 T' rfl X'
    exact ⟨t2, st t2 a1, b1⟩
  · obtain ⟨k1, k2, k3⟩ := vx_keep h0 e1 hS hAX hf hL hF
    obtain ⟨t2, a1, b1⟩ := kx E ce q u t T'.heap (locs ++ L) e1.symm (by rw [← e2]; exact X'.warmed.alike) hp hb k1 k2 k3 (by rw [e1]; exact hce) hcv hcl T' rfl X'
    exact ⟨t2, st.trans a1, b1⟩
theorem vx_callv {S SX : Type} {post : S → Prop} {px : SX → Prop} {B : S → State → Prop} {BX : String → SX → State → Prop} {AX : Nat → Prop} (hr : vx_Run p l e R s m args below meth c H locs cells slots mc ms (F0 m pc ls st0) rest (va_Qv post B A1 a) (vx_X px BX AX) free) (hS : va_S A0 H0 H locs) (hA : ∀ q, q < H.size → A1 q → A0 q) (hf : ∀ q, free q → A0 q) (hAX : ∀ q, q < H.size → AX q → A0 q)
    (kx : ∀ (E : String) (ce : Cell) (q9 : Addr) (u : SX) (t : State) (H1 : Heap) (locs1 : List Loc), t.heap = H1 → s.vm.Alike t.vm → px u → BX E u t → H.size ≤ H1.size → (∀ q : Nat, q < H.size → ¬ AX q → H1[q]? = H[q]?) → va_S A0 H0 H1 locs1 → H1[q9]? = some ce → ce.vm = .none → s.vm.findClass E = some ce.cls → vx_W p l e R s m args below meth c H1 locs1 (cells + mc) (slots + ms) Q (F0 m pc ls rest) q9)
    (kk : ∀ (u : S) (t : State) (H1 : Heap) (locs1 : List Loc), t.heap = H1 → s.vm.Alike t.vm → post u → B u t → H.size ≤ H1.size → (∀ q : Nat, q < H.size → ¬ A1 q → H1[q]? = H[q]?) → va_S A0 H0 H1 locs1 → W p l e R s m args below meth c H1 locs1 (cells + mc) (slots + ms) Q (F0 m (pc + 3) ls (rest))) : W p l e R s m args below meth c H locs cells slots Q (F0 m pc ls st0) := by
  intro T hT X
  rcases hr T hT X with ⟨v, st₀, t, T', L, h0, X', hL, e1, e2, ⟨⟨u, hv, hp, hb⟩, hF⟩, st⟩ | ⟨q, st₀, t, T', L, E, ce, h0, X', hL, e1, e2, ⟨u, hp, hb, hF⟩, hce, hcv, hcl, st⟩
  · cases hv
    obtain ⟨k1, k2, k3⟩ := vx_keep h0 e1 hS hA hf hL hF
    obtain ⟨t2, a1, b1⟩ := kk u t T'.heap (locs ++ L) e1.symm (by rw [← e2]; exact X'.warmed.alike) hp hb k1 k2 k3 T' rfl X'
    exact ⟨t2, st t2 a1, b1⟩
  · obtain ⟨k1, k2, k3⟩ := vx_keep h0 e1 hS hAX hf hL hF
    obtain ⟨t2, a1, b1⟩ := kx E ce q u t T'.heap (locs ++ L) e1.symm (by rw [← e2]; exact X'.warmed.alike) hp hb k1 k2 k3 (by rw [e1]; exact hce) hcv hcl T' rfl X'
    exact ⟨t2, st.trans a1, b1⟩
/-- caught by the row x of this method's table; the rows ahead don't take it -/
theorem vx_catch {own name : String} {E : String} {ce : Cell} {q : Addr} (hown : s.vm.findClass own = some m.cls) (pre : List ExceptionTableEntry) (x : ExceptionTableEntry) (suf : List ExceptionTableEntry) (hsplit : c.exceptionTable.toList = pre ++ x :: suf)
    (hpass : ∀ z ∈ pre, covers z pc = false ∨ (z.catchType ≠ 0 ∧ ∃ nm : String, (Cond.classLink own z.catchType nm).before args s = true ∧ va_Nc E nm s)) (hx : covers x pc = true) (h0 : x.catchType ≠ 0)
    (hlink : (Cond.classLink own x.catchType name).before args s = true) (hcast : (Cond.castable E name).before args s = true) (hcell : H[q]? = some ce) (hv : ce.vm = .none) (hcl : s.vm.findClass E = some ce.cls)
    (kk : W p l e R s m args below meth c H locs cells slots Q (F0 m x.handlerPc ls [.ref q])) : vx_W p l e R s m args below meth c H locs cells slots Q (F0 m pc ls rest) q := by
  intro T hT X
  have hpl : e.platform.magicAccessors = ({} : Platform).magicAccessors := by rw [X.admits.platform]
  obtain ⟨c3, c4, hc3, hc4, hasg⟩ := Cond.castable_spec hcast
  cases Option.some.inj (hc3.symm.trans hcl)
  obtain ⟨c5, hc5, hcl5⟩ := Cond.classLink_spec hown hlink e.platform hpl
  cases Option.some.inj (hc4.symm.trans hc5)
  obtain ⟨vm', X', st⟩ := X.thenCaughtThrough q (g := F0 m pc ls rest) rfl (Steps.refl _) (by rw [hT]; exact hcell) (by rw [hv]; rfl) (by obtain ⟨k9, h9, -⟩ := Vm.findClass_spec hcl; exact ⟨k9, h9⟩) pre x suf hsplit
    (fun z hz => by
      rcases hpass z hz with h | ⟨hz0, nm, hl1, hn1⟩
      · exact Or.inl h
      · obtain ⟨c6, hc6, hcl6⟩ := Cond.classLink_spec hown hl1 e.platform hpl
        obtain ⟨a8, b8, h1, h2, h3⟩ := hn1
        cases Option.some.inj (h1.symm.trans hcl)
        cases Option.some.inj (h2.symm.trans hc6)
        exact Or.inr ⟨hz0, _, hcl6, h3⟩) hx (Or.inr ⟨h0, c4, hcl5, hasg⟩)
  obtain ⟨t, a1, b1⟩ := kk (T.setVm vm') hT X'
  exact ⟨t, st.trans a1, b1⟩
end Rows
section Ends
variable {p : Program} {l : Launch} {e : Env} {R : Room} {s : State} {m : MethodId} {args : Array Value} {below : List Frame} {meth : Method} {c : Code} {H : Heap} {locs : List Loc} {cells slots : Nat} {Q : State → Prop}
variable {mc ms : Nat} {free : Addr → Prop} {A0 A1 : Nat → Prop} {H0 : Heap} {a : Array Value} {ls : Array Slot} {st0 rest : List Value}
variable {Qc : Array Value → State → Outcome → State → Prop} {XC : String → State → State → Prop}
/-- what a body that may throw owes at its end -/
def vx_MQ (below : List Frame) (Qc : Array Value → State → Outcome → State → Prop) (XC : String → State → State → Prop) (a : Array Value) (s : State) (mc ms : Nat) (free : Addr → Prop) : State → Prop := fun t =>
  ∃ o, t.status = .running ∧ Ended t below o ∧ vx_Q Qc XC mc ms free a s o t
theorem vx_ret {g : JFrame} {mc ms : Nat} (k : W p l e R s m args below meth c H locs cells slots (MQ below Qc args s mc ms free) g) : W p l e R s m args below meth c H locs cells slots (vx_MQ below Qc XC args s mc ms free) g := by
  intro T hT X
  obtain ⟨t, a1, o, b1, b2, b3, b4⟩ := k T hT X
  exact ⟨t, a1, o, b1, b2, Or.inl ⟨b3, b4⟩⟩
/-- not caught here: it goes on to the caller -/
theorem vx_widen {g : JFrame} {q : Addr} {k n : Nat} (h1 : cells ≤ k) (h2 : slots ≤ n) (kk : vx_W p l e R s m args below meth c H locs k n Q g q) : vx_W p l e R s m args below meth c H locs cells slots Q g q := fun T hT X => kk T hT (stand_widen X h1 h2)
theorem vx_out {pc : Nat} {E : String} {ce : Cell} {q : Addr} {mc ms : Nat} (hout : ∀ x ∈ c.exceptionTable.toList, covers x pc = false) (hlocks : meth.locks = false) (hcell : H[q]? = some ce) (hv : ce.vm = .none) (hcl : s.vm.findClass E = some ce.cls)
    (hx : ∀ t : State, t.heap = H → s.vm.Alike t.vm → XC E s t) (hf : ∀ z ∈ locs, free z.base) (hc : cells ≤ mc) (hs : slots ≤ ms) :
    vx_W p l e R s m args below meth c H locs cells slots (vx_MQ below Qc XC args s mc ms free) (F0 m pc ls rest) q := by
  intro T hT X
  obtain ⟨st1, hrun, hend, hW, hsm⟩ := X.leaveThrown q (g := F0 m pc ls rest) rfl rfl rfl hout hlocks
  have hcell9 : (T.setFrames (.throwing q :: below)).heap[q]? = some ce := by
    show T.heap[q]? = some ce
    rw [hT]; exact hcell
  exact ⟨_, st1, .threw q, hrun, hend, Or.inr ⟨q, rfl, E, ce, locs, hx _ hT hW.alike, hcell9, hv, hcl, hW, hsm.mono hc hs, hf⟩⟩
theorem vx_frame {U : State} {k n : Nat} (h : s.sameButNew ({ U with vm := s.vm } : State) locs k n) : s.heap.size ≤ U.heap.size ∧ ∀ q : Nat, q < s.heap.size → (∀ z ∈ locs, z.base ≠ q) → U.heap[q]? = s.heap[q]? := by
  obtain ⟨-, h2, -, -, -, h6⟩ := h
  refine ⟨h2, fun q hq hz => ?_⟩
  obtain ⟨c9, e1, e2, e3, e4⟩ := h6 q _ (Array.getElem?_eq_getElem hq)
  have hs : c9.slots = (s.heap[q]).slots := Array.ext_getElem? fun i => e4 i fun hm => hz _ hm rfl
  have h9 : c9 = s.heap[q] := by
    rw [hs] at e2
    exact e2
  have e5 : U.heap[q]? = some c9 := e1
  rw [e5, h9, Array.getElem?_eq_getElem hq]
/-- the words of a throw but the four that speak of the heap -/
def vx_no (w : Cond) : Bool := decide (w ≠ .isRef (.static Bundle.tN "UNASSIGNED_STACK" Bundle.steD)) && decide (w ≠ .isRef (.static Bundle.tN "SUPPRESSED_SENTINEL" Bundle.listD)) && decide (w ≠ .laysStatic Bundle.tN "UNASSIGNED_STACK" Bundle.steD) && decide (w ≠ .laysStatic Bundle.tN "SUPPRESSED_SENTINEL" Bundle.listD)
def vx_at0 (own : String) (ic : Nat) (X : String) (names : List String) : List Cond := (Bundle.ownAtoms0 own ic X names).filter vx_no
def vx_atS (own : String) (ic : Nat) (X : String) (names : List String) : List Cond := (Bundle.ownAtoms own ic X names).filter vx_no
/-- a word that the tables alone decide, or a good one -/
def vx_ot (w : Cond) : Bool := w.onTables || goodWord w
theorem vx_ot_at {args a' : Array Value} {s U : State} {w : Cond} (hW : s.WarmedH U.vm) (hvm : s.vm = U.vm) (hg : vx_ot w = true) (h : w.before args s = true) : w.before a' U = true := by
  simp only [vx_ot, Bool.or_eq_true] at hg
  rcases hg with hg | hg
  · exact va_tabs hg hvm h
  · exact word_at hW (good_of_word hg) h
/-- a list's words: the good ones out of the method's own list, the others by premises of their own -/
theorem vx_hat {args : Array Value} {s : State} {L B : List Cond} (h1 : ∀ w ∈ L.filter goodWord, w.before args s = true) (h2 : ∀ w ∈ L.filter (fun w => !goodWord w), w ∈ B) (h3 : ∀ w ∈ B, w.before args s = true) : ∀ w ∈ L, w.before args s = true := by
  intro w hw
  by_cases g : goodWord w = true
  · exact h1 w (List.mem_filter.mpr ⟨hw, g⟩)
  · refine h3 w (h2 w (List.mem_filter.mpr ⟨hw, ?_⟩))
    show (!goodWord w) = true
    cases hgw : goodWord w
    · rfl
    · exact absurd hgw g
theorem vx_c {args : Array Value} {s : State} {w : Cond} {B : List Cond} (h : w.before args s = true) (t : ∀ w ∈ B, w.before args s = true) : ∀ w' ∈ w :: B, w'.before args s = true := fun w' h' => (List.mem_cons.mp h').elim (fun e => by rw [e]; exact h) (t w')
theorem vx_n {args : Array Value} {s : State} : ∀ w ∈ ([] : List Cond), w.before args s = true := fun _ h => nomatch h
theorem vx_own {args : Array Value} {s : State} {L : List Cond} (h1 : ∀ w ∈ L.filter vx_no, w.before args s = true)
    (hU : (Cond.isRef (.static Bundle.tN "UNASSIGNED_STACK" Bundle.steD)).before args s = true) (hN : (Cond.isRef (.static Bundle.tN "SUPPRESSED_SENTINEL" Bundle.listD)).before args s = true)
    (lU : (Cond.laysStatic Bundle.tN "UNASSIGNED_STACK" Bundle.steD).before args s = true) (lN : (Cond.laysStatic Bundle.tN "SUPPRESSED_SENTINEL" Bundle.listD).before args s = true) : ∀ w ∈ L, w.before args s = true := by
  intro w hw
  by_cases e1 : w = .isRef (.static Bundle.tN "UNASSIGNED_STACK" Bundle.steD)
  · rw [e1]; exact hU
  · by_cases e2 : w = .isRef (.static Bundle.tN "SUPPRESSED_SENTINEL" Bundle.listD)
    · rw [e2]; exact hN
    · by_cases e3 : w = .laysStatic Bundle.tN "UNASSIGNED_STACK" Bundle.steD
      · rw [e3]; exact lU
      · by_cases e4 : w = .laysStatic Bundle.tN "SUPPRESSED_SENTINEL" Bundle.listD
        · rw [e4]; exact lN
        · exact h1 w (List.mem_filter.mpr ⟨hw, by unfold vx_no; rw [decide_eq_true e1, decide_eq_true e2, decide_eq_true e3, decide_eq_true e4]; rfl⟩)
/-- where a static field lies, its class's statics cell in H -/
def vx_L (C n d : String) (A : Nat → Prop) (U : State) (H : Heap) : Prop := ∃ (c : ClassId) (k : Class) (i : Nat) (f : Field) (a : Nat) (cell : Cell), U.vm.findClass C = some c ∧ U.fieldFound? C n d = some (c, k, i, f) ∧ f.isStatic = true ∧ k.statics = some a ∧ H[a]? = some cell ∧ cell.vm.isStatics = true ∧ cell.cls = c ∧ f.slot < cell.slots.size ∧ k.staticTypes[f.slot]? = some f.type ∧ ¬ A a
theorem vx_L.moved {C n d : String} {A : Nat → Prop} {u U : State} {H : Heap} (hvm : u.vm.Alike U.vm) (h : vx_L C n d A u H) : vx_L C n d A U H := by
  obtain ⟨c, k, i, f, a, cell, h1, h2, h3, h4, h5, h6, h7, h8, h9, h10⟩ := h
  obtain ⟨k', hi', he⟩ := State.fieldFound?_setVm hvm h2
  exact ⟨c, k', i, f, a, cell, by rw [hvm.findClass]; exact h1, hi', h3, by rw [he]; exact h4, h5, h6, h7, h8, by rw [he]; exact h9, h10⟩
theorem vx_L.kept {C n d : String} {A : Nat → Prop} {U : State} {H H1 : Heap} (h : vx_L C n d A U H) (hq : ∀ a : Nat, a < H.size → ¬ A a → H1[a]? = H[a]?) : vx_L C n d A U H1 := by
  obtain ⟨c, k, i, f, a, cell, h1, h2, h3, h4, h5, h6, h7, h8, h9, h10⟩ := h
  exact ⟨c, k, i, f, a, cell, h1, h2, h3, h4, by rw [hq a (Array.getElem?_eq_some_iff.mp h5).1 h10]; exact h5, h6, h7, h8, h9, h10⟩
theorem vx_L.narrow {C n d : String} {A B : Nat → Prop} {U : State} {H : Heap} (h : vx_L C n d A U H) (hAB : ∀ q, B q → A q) : vx_L C n d B U H := by
  obtain ⟨c, k, i, f, a, cell, h1, h2, h3, h4, h5, h6, h7, h8, h9, h10⟩ := h
  exact ⟨c, k, i, f, a, cell, h1, h2, h3, h4, h5, h6, h7, h8, h9, fun z => h10 (hAB _ z)⟩
theorem vx_L.word {C n d : String} {A : Nat → Prop} {s : State} {args : Array Value} (h : vx_L C n d A s s.heap) : (Cond.laysStatic C n d).before args s = true := by
  obtain ⟨c, k, i, f, a, cell, h1, h2, h3, h4, h5, h6, h7, h8, h9, -⟩ := h
  show (Cond.laysStatic C n d).holds args s none s [] = true
  exact Cond.laysStatic_of h1 h2 h3 h4 h5 h6 h7 h8 h9
/-- .. and what it holds: null or some reference -/
def vx_Zq (C n d : String) (A : Nat → Prop) (U : State) (H : Heap) : Prop := va_Zq C n d A U H ∧ vx_L C n d A U H
theorem vx_Zq.moved {C n d : String} {A : Nat → Prop} {u U : State} {H : Heap} (hvm : u.vm.Alike U.vm) (h : vx_Zq C n d A u H) : vx_Zq C n d A U H := ⟨va_Zq.moved hvm h.1, vx_L.moved hvm h.2⟩
theorem vx_Zq.kept {C n d : String} {A : Nat → Prop} {U : State} {H H1 : Heap} (h : vx_Zq C n d A U H) (hq : ∀ a : Nat, a < H.size → ¬ A a → H1[a]? = H[a]?) : vx_Zq C n d A U H1 := ⟨va_Zq.kept h.1 hq, vx_L.kept h.2 hq⟩
theorem vx_Zq.narrow {C n d : String} {A B : Nat → Prop} {U : State} {H : Heap} (h : vx_Zq C n d A U H) (hAB : ∀ q, B q → A q) : vx_Zq C n d B U H := ⟨va_Zq.narrow h.1 hAB, vx_L.narrow h.2 hAB⟩
theorem vx_Zqof {args : Array Value} {s : State} {C n d : String} {A : Nat → Prop} (hl : (Cond.laysStatic C n d).before args s = true) (hini : (Cond.initialized C).before args s = true) (h : (Cond.isRef (.static C n d)).before args s = true) (hA : ∀ a : Nat, a < s.heap.size → ¬ A a) : vx_Zq C n d A s s.heap := by
  refine ⟨va_Zqof hl hini h hA, ?_⟩
  obtain ⟨c, k, i, f, a, cell, h1, h2, h3, h4, h5, h6, h7, h8, h9⟩ := Cond.laysStatic_spec hl
  exact ⟨c, k, i, f, a, cell, h1, h2, h3, h4, h5, h6, h7, h8, h9, hA a (Array.getElem?_eq_some_iff.mp h5).1⟩
theorem vx_isRef {C n d : String} {v : Value} {A : Nat → Prop} {s : State} {args : Array Value} (h : va_Z C n d v A s s.heap) (hv : v.isRef = true) : (Cond.isRef (.static C n d)).before args s = true := by
  obtain ⟨cf, kf, fi, f, a, cell, h1, h2, h3, h4, h5, h6, h7, -⟩ := h
  have he : (Term.static C n d).eval args s none [] s = some v := by
    simp [Term.eval, State.fieldNamed?, h1, h2, h4, h5, h6, h7]
  simp only [Cond.before, Cond.holds, Cond.value, he]
  cases v <;> simp_all [Value.isRef]
theorem vx_isRefq {C n d : String} {A : Nat → Prop} {s : State} {args : Array Value} (h : va_Zq C n d A s s.heap) : (Cond.isRef (.static C n d)).before args s = true := by
  rcases h with h | ⟨t, h⟩
  · exact vx_isRef h rfl
  · exact vx_isRef h rfl
/-- the same frame, seen from here: as if the method were called anew in this heap -/
theorem vx_rebase {T : State} (X : Stand p l e R s m args below meth c T locs cells slots) {R' : Room} (hf : R'.frames ≤ R.frames) (hl : R'.locals ≤ R.locals) (hc : cells + R'.cells ≤ R.cells) (hs : slots + R'.slots ≤ R.slots) :
    Stand p l e R' ((T.setVm s.vm).setFrames (.invoking m args :: below)) m args below meth c T [] 0 0 := by
  have htop : (T.setVm s.vm).topJava?.isSome := X.here.top
  have hF : ((T.setVm s.vm).setFrames (.invoking m args :: below)).frames = .invoking m args :: below := State.frames_setFrames _ (State.cur_lt_of_top htop)
  obtain ⟨g₀, hg0⟩ := Option.isSome_iff_exists.mp htop
  obtain ⟨r, hr⟩ := State.topJava?_eq_some.mp hg0
  have hl9 : e.platform.stackLimits (T.setVm s.vm).me = e.platform.stackLimits s.me := X.limits
  have hb9 : (T.setVm s.vm).me.stackBytes = s.me.stackBytes := X.bytes
  refine ⟨X.admits, X.cas, X.clock, hF, ?_, X.hears, X.method, X.code, X.here, X.tail, X.warmed, ?_, ?_, ?_⟩
  · have h := X.room
    have hU : ((T.setVm s.vm).setFrames (.invoking m args :: below)).localsInUse = s.localsInUse := by
      rw [State.localsInUse_invoking hF (meth := meth) (c := c) X.method X.code, State.localsInUse_invoking X.frames X.method X.code]
    simp only [State.hasRoom, Bool.and_eq_true, decide_eq_true_eq] at h ⊢
    obtain ⟨⟨⟨⟨h1, h2, h3, h4, h5, h6⟩, h7⟩, h8⟩, h9⟩ := h
    rw [X.frames, List.length_cons] at h2 h3
    have q1 := X.heapSize
    have q2 := X.used
    simp only [hF, hU, List.length_cons, State.stackLimits_setFrames, State.stackBytes_setFrames, hl9, hb9]
    refine ⟨⟨⟨⟨by omega, by omega, by omega, by omega, by omega, h6⟩, ?_⟩, ?_⟩, X.book⟩
    · show T.heap.size + R'.cells ≤ e.platform.maxCells
      omega
    · show T.slotsUsed + R'.slots ≤ e.platform.maxSlots
      omega
  · rw [State.stackLimits_setFrames]; rfl
  · rw [State.stackBytes_setFrames]; rfl
  · refine ⟨?_, Nat.le_refl _, Nat.le_refl _, ?_, ?_, fun a c9 h9 => ⟨c9, h9, rfl, rfl, fun _ _ => rfl⟩⟩
    · obtain ⟨t, ht, -⟩ := State.frames_cons hr
      show T.setVm s.vm = { ((T.setVm s.vm).setFrames (.invoking m args :: below)).setFrames (T.setVm s.vm).frames with heap := T.heap, slotsUsed := T.slotsUsed }
      rw [State.setFrames_setFrames, State.setFrames_self ht]
      rfl
    · show T.slotsUsed = T.slotsUsed + ((T.heap.toList.drop T.heap.size).map (·.slots.size)).sum
      rw [List.drop_eq_nil_of_le (Nat.le_of_eq Array.length_toList)]
      rfl
    · show ((T.heap.toList.drop T.heap.size).map (·.slots.size)).sum ≤ 0
      rw [List.drop_eq_nil_of_le (Nat.le_of_eq Array.length_toList)]
      exact Nat.le_refl _
/-- 'throw new E()': new; dup; invokespecial; athrow -/
theorem vx_throw0 {cc : ByteArray} {pc : Nat} (hexec : p.tables.exec = Jvm.exec) (hb : c.code = cc) (hl : l.stackTraces = false) {own cls : String} {names : List String} {ik ic mc ms : Nat} {A : Nat → Prop}
    (hown : s.vm.findClass own = some m.cls) (hcls : Bundle.fit cls = true) (hnames : ∀ n ∈ names, Bundle.fit n = true)
    (hk : (Cond.classLink own ik cls).before args s = true) (hini : (Cond.initialized cls).before args s = true) (hat : ∀ w ∈ vx_at0 own ic cls names, w.before args s = true)
    (hgood : ∀ w ∈ Cond.classLink own ik cls :: Cond.initialized cls :: vx_at0 own ic cls names, vx_ot w = true)
    (hU : vx_Zq Bundle.tN "UNASSIGNED_STACK" Bundle.steD A s s.heap) (hN : vx_Zq Bundle.tN "SUPPRESSED_SENTINEL" Bundle.listD A s s.heap) (hS : va_S A s.heap H locs) (hsize : ls.size = c.maxLocals)
    (d0 : decode cc pc = .ok (.new ik, 3)) (d3 : decode cc (pc + 3) = .ok (.dup, 1)) (d4 : decode cc (pc + 4) = .ok (.invokespecial ic, 3)) (d7 : decode cc (pc + 7) = .ok (.athrow, 1))
    (hout : ∀ x ∈ c.exceptionTable.toList, covers x (pc + 7) = false)
    (hRframes : names.length + 3 < R.frames) (hRlocals : (rest.map fun v => v.category).sum + (13 * (names.length + 1) + 42) ≤ R.locals) (hRcells : cells + 1 ≤ R.cells) (hRslots : slots + 6 ≤ R.slots) (hlocks : meth.locks = false)
    (hx : ∀ t : State, s.vm.Alike t.vm → H.size ≤ t.heap.size → (∀ q : Nat, q < H.size → t.heap[q]? = H[q]?) → XC cls s t)
    (hf : ∀ z ∈ locs, free z.base) (hc : cells + 1 ≤ mc) (hs : slots + 6 ≤ ms) :
    W p l e R s m args below meth c H locs cells slots (vx_MQ below Qc XC args s mc ms free) (F0 m pc ls rest) := by
  intro T hT X
  have htr : e.platform.stackTraces = false := (show e.platform.stackTraces = l.stackTraces by rw [X.admits.platform]).trans hl
  have Y := vx_rebase X (R' := { frames := R.frames, locals := R.locals, cells := 1, slots := 6 }) (Nat.le_refl _) (Nat.le_refl _) hRcells hRslots
  obtain ⟨s', hA⟩ : ∃ z, z = (T.setVm s.vm).setFrames (.invoking m args :: below) := ⟨_, rfl⟩
  rw [← hA] at Y
  have hvm : s'.vm = s.vm := by rw [hA]; rfl
  have hhp : s'.heap = H := by rw [hA]; exact hT
  have hW0 : s.WarmedH s'.vm := by rw [hvm]; exact State.WarmedH.refl s
  have hat' : ∀ w ∈ vx_at0 own ic cls names, w.before args s' = true := fun w hw => vx_ot_at hW0 hvm.symm (hgood w (List.mem_cons_of_mem _ (List.mem_cons_of_mem _ hw))) (hat w hw)
  have hk' : (Cond.classLink own ik cls).before args s' = true := vx_ot_at hW0 hvm.symm (hgood _ List.mem_cons_self) hk
  have hini' : (Cond.initialized cls).before args s' = true := vx_ot_at hW0 hvm.symm (hgood _ (List.mem_cons_of_mem _ List.mem_cons_self)) hini
  have hU' : vx_Zq Bundle.tN "UNASSIGNED_STACK" Bundle.steD A s' s'.heap := by rw [hhp]; exact vx_Zq.moved hW0.alike (hU.kept hS.2.1)
  have hN' : vx_Zq Bundle.tN "SUPPRESSED_SENTINEL" Bundle.listD A s' s'.heap := by rw [hhp]; exact vx_Zq.moved hW0.alike (hN.kept hS.2.1)
  have h : ∀ w ∈ Bundle.ownAtoms0 own ic cls names, w.before args s' = true := vx_own hat' (vx_isRefq hU'.1) (vx_isRefq hN'.1) hU'.2.word hN'.2.word
  have hown' : s'.vm.findClass own = some m.cls := by rw [hvm]; exact hown
  have hins : (Cond.instantiable cls 6).before args s' = true := h _ (by simp [Bundle.ownAtoms0])
  obtain ⟨vm₁, cX, kX, hfX, hkX, -, -, X₁, st1⟩ := Y.newCold hexec (own := own) (C := cls) (index := ik) (n := 6) hown' hk' hins hini'
    (g := F0 m pc ls rest) rfl (by rw [hb]; exact d0) (Nat.le_refl _) (Nat.le_refl _)
  generalize hT1 : (T.setVm vm₁).pushCell { cls := cX, slots := kX.instanceTypes.map defaultValue, vm := .none } = T1 at X₁ st1
  have hcat : (Value.ref T.heap.size).category = 1 := rfl
  have hcellA : T1.heap[T.heap.size]? = some (freshCell cX kX) := by rw [← hT1]; exact State.heap_pushCell_size _ _
  have d3' : decode c.code (pc + 3) = .ok (.dup, 1) := by rw [hb]; exact d3
  obtain ⟨U, hsteps, hrun, hend, hW, hsame, ce, hce, hO⟩ := X₁.ctorThrow0 hexec htr (own := own) (cls := cls) (names := names) (ic := ic) hown' hcls hnames h (fun x hx => nomatch hx) hfX hkX hcellA (by rw [hhp, hT]; exact Nat.le_refl _)
    (g := { method := m, pc := pc + 4, locals := ls, stack := .ref T.heap.size :: .ref T.heap.size :: rest, locked := none }) rfl hsize rfl rfl (rest := rest) rfl
    (by rw [hb]; exact d4) (by rw [hb]; exact d7) hout hRframes (by simp only [List.map_cons, List.sum_cons, hcat]; omega) hlocks
  obtain ⟨f1, f2⟩ := vx_frame hsame
  rw [hhp] at f1 f2
  have hWs : s.WarmedH U.vm := State.WarmedH.trans hW0 hW
  have hcl : s.vm.findClass cls = some ce.cls := by
    have h9 := hO.cls
    rw [hvm] at h9
    exact h9
  have hall : s.sameButNew ({ U with vm := s.vm } : State) locs mc ms := by
    subst hA
    obtain ⟨e1, e2⟩ := hsame
    rw [State.setFrames_setFrames] at e1
    have h2 : (T.setVm s.vm).sameButNew ({ U with vm := s.vm } : State) [] (0 + 1) (0 + 6) := ⟨e1, e2⟩
    have h3 := X.same.trans h2
    rw [List.append_nil] at h3
    exact h3.mono hc hs
  refine ⟨U, ?_, .threw T.heap.size, hrun, hend, Or.inr ⟨T.heap.size, rfl, cls, ce, locs, hx U hWs.alike f1 (fun q hq => f2 q hq (fun z hz => nomatch hz)), hce, hO.vm, hcl, hWs, hall, hf⟩⟩
  refine st1 _ ?_
  show Steps p.tables e below (T1.setTop { method := m, pc := pc + 3, locals := ls, stack := .ref T.heap.size :: rest, locked := none }) _
  jvm_step X₁.here [X₁.here.top, hexec, d3', Value.category]
  exact hsteps
/-- 'throw new E("text")': new; dup; ldc; invokespecial; athrow -/
theorem vx_throwS {cc : ByteArray} {pc : Nat} (hexec : p.tables.exec = Jvm.exec) (hb : c.code = cc) (hl : l.stackTraces = false) {own cls text : String} {names : List String} {ik is ic mc ms sa : Nat} {A : Nat → Prop}
    (hown : s.vm.findClass own = some m.cls) (hcls : Bundle.fit cls = true) (hnames : ∀ n ∈ names, Bundle.fit n = true)
    (hk : (Cond.classLink own ik cls).before args s = true) (hini : (Cond.initialized cls).before args s = true) (hstr : vk_R own is text sa s) (hat : ∀ w ∈ vx_atS own ic cls names, w.before args s = true)
    (hgood : ∀ w ∈ Cond.classLink own ik cls :: Cond.initialized cls :: vx_atS own ic cls names, vx_ot w = true)
    (hU : vx_Zq Bundle.tN "UNASSIGNED_STACK" Bundle.steD A s s.heap) (hN : vx_Zq Bundle.tN "SUPPRESSED_SENTINEL" Bundle.listD A s s.heap) (hS : va_S A s.heap H locs) (hsize : ls.size = c.maxLocals)
    (d0 : decode cc pc = .ok (.new ik, 3)) (d3 : decode cc (pc + 3) = .ok (.dup, 1)) (d4 : decode cc (pc + 4) = .ok (.ldc is, 2)) (d6 : decode cc (pc + 6) = .ok (.invokespecial ic, 3)) (d9 : decode cc (pc + 9) = .ok (.athrow, 1))
    (hout : ∀ x ∈ c.exceptionTable.toList, covers x (pc + 9) = false)
    (hRframes : names.length + 3 < R.frames) (hRlocals : (rest.map fun v => v.category).sum + (13 * (names.length + 1) + 43) ≤ R.locals) (hRcells : cells + 1 ≤ R.cells) (hRslots : slots + 6 ≤ R.slots) (hlocks : meth.locks = false)
    (hx : ∀ t : State, s.vm.Alike t.vm → H.size ≤ t.heap.size → (∀ q : Nat, q < H.size → t.heap[q]? = H[q]?) → XC cls s t)
    (hf : ∀ z ∈ locs, free z.base) (hc : cells + 1 ≤ mc) (hs : slots + 6 ≤ ms) :
    W p l e R s m args below meth c H locs cells slots (vx_MQ below Qc XC args s mc ms free) (F0 m pc ls rest) := by
  intro T hT X
  have htr : e.platform.stackTraces = false := (show e.platform.stackTraces = l.stackTraces by rw [X.admits.platform]).trans hl
  have Y := vx_rebase X (R' := { frames := R.frames, locals := R.locals, cells := 1, slots := 6 }) (Nat.le_refl _) (Nat.le_refl _) hRcells hRslots
  obtain ⟨s', hA⟩ : ∃ z, z = (T.setVm s.vm).setFrames (.invoking m args :: below) := ⟨_, rfl⟩
  rw [← hA] at Y
  have hvm : s'.vm = s.vm := by rw [hA]; rfl
  have hhp : s'.heap = H := by rw [hA]; exact hT
  have hW0 : s.WarmedH s'.vm := by rw [hvm]; exact State.WarmedH.refl s
  have hat' : ∀ w ∈ vx_atS own ic cls names, w.before args s' = true := fun w hw => vx_ot_at hW0 hvm.symm (hgood w (List.mem_cons_of_mem _ (List.mem_cons_of_mem _ hw))) (hat w hw)
  have hk' : (Cond.classLink own ik cls).before args s' = true := vx_ot_at hW0 hvm.symm (hgood _ List.mem_cons_self) hk
  have hini' : (Cond.initialized cls).before args s' = true := vx_ot_at hW0 hvm.symm (hgood _ (List.mem_cons_of_mem _ List.mem_cons_self)) hini
  have hU' : vx_Zq Bundle.tN "UNASSIGNED_STACK" Bundle.steD A s' s'.heap := by rw [hhp]; exact vx_Zq.moved hW0.alike (hU.kept hS.2.1)
  have hN' : vx_Zq Bundle.tN "SUPPRESSED_SENTINEL" Bundle.listD A s' s'.heap := by rw [hhp]; exact vx_Zq.moved hW0.alike (hN.kept hS.2.1)
  have h : ∀ w ∈ Bundle.ownAtoms own ic cls names, w.before args s' = true := vx_own hat' (vx_isRefq hU'.1) (vx_isRefq hN'.1) hU'.2.word hN'.2.word
  have hown' : s'.vm.findClass own = some m.cls := by rw [hvm]; exact hown
  have hins : (Cond.instantiable cls 6).before args s' = true := h _ (by simp [Bundle.ownAtoms])
  obtain ⟨vm₁, cX, kX, hfX, hkX, -, -, X₁, st1⟩ := Y.newCold hexec (own := own) (C := cls) (index := ik) (n := 6) hown' hk' hins hini'
    (g := F0 m pc ls rest) rfl (by rw [hb]; exact d0) (Nat.le_refl _) (Nat.le_refl _)
  generalize hT1 : (T.setVm vm₁).pushCell { cls := cX, slots := kX.instanceTypes.map defaultValue, vm := .none } = T1 at X₁ st1
  have hcat : (Value.ref T.heap.size).category = 1 := rfl
  have hcellA : T1.heap[T.heap.size]? = some (freshCell cX kX) := by rw [← hT1]; exact State.heap_pushCell_size _ _
  have d3' : decode c.code (pc + 3) = .ok (.dup, 1) := by rw [hb]; exact d3
  have d4' : decode c.code (pc + 4) = .ok (.ldc is, 2) := by rw [hb]; exact d4
  have hstr' : vk_R own is text sa s' := vk_R.warm hW0 hstr
  obtain ⟨U, hsteps, hrun, hend, hW, hsame, ce, hce, hO⟩ := X₁.ctorThrowS hexec htr (own := own) (cls := cls) (names := names) (ic := ic) hown' hcls hnames h (fun x hx => nomatch hx) hfX hkX hcellA (by rw [hhp, hT]; exact Nat.le_refl _) (msg := .ref sa) rfl
    (g := { method := m, pc := pc + 6, locals := ls, stack := .ref sa :: .ref T.heap.size :: .ref T.heap.size :: rest, locked := none }) rfl hsize rfl rfl (rest := rest) rfl
    (by rw [hb]; exact d6) (by rw [hb]; exact d9) hout hRframes (by simp only [List.map_cons, List.sum_cons, hcat]; omega) hlocks
  obtain ⟨f1, f2⟩ := vx_frame hsame
  rw [hhp] at f1 f2
  have hWs : s.WarmedH U.vm := State.WarmedH.trans hW0 hW
  have hcl : s.vm.findClass cls = some ce.cls := by
    have h9 := hO.cls
    rw [hvm] at h9
    exact h9
  have hall : s.sameButNew ({ U with vm := s.vm } : State) locs mc ms := by
    subst hA
    obtain ⟨e1, e2⟩ := hsame
    rw [State.setFrames_setFrames] at e1
    have h2 : (T.setVm s.vm).sameButNew ({ U with vm := s.vm } : State) [] (0 + 1) (0 + 6) := ⟨e1, e2⟩
    have h3 := X.same.trans h2
    rw [List.append_nil] at h3
    exact h3.mono hc hs
  refine ⟨U, ?_, .threw T.heap.size, hrun, hend, Or.inr ⟨T.heap.size, rfl, cls, ce, locs, hx U hWs.alike f1 (fun q hq => f2 q hq (fun z hz => nomatch hz)), hce, hO.vm, hcl, hWs, hall, hf⟩⟩
  refine st1 _ ?_
  show Steps p.tables e below (T1.setTop { method := m, pc := pc + 3, locals := ls, stack := .ref T.heap.size :: rest, locked := none }) _
  jvm_step X₁.here [X₁.here.top, hexec, d3', Value.category]
  exact X₁.ldcString hexec (own := own) (text := text) (index := is) (a := sa) hown' hstr'.1 hstr'.2
    (g := { method := m, pc := pc + 4, locals := ls, stack := .ref T.heap.size :: .ref T.heap.size :: rest, locked := none }) rfl d4' _ hsteps
/-- 'throw new E("text")', the text by a wide index -/
theorem vx_throwSW {cc : ByteArray} {pc : Nat} (hexec : p.tables.exec = Jvm.exec) (hb : c.code = cc) (hl : l.stackTraces = false) {own cls text : String} {names : List String} {ik is ic mc ms sa : Nat} {A : Nat → Prop}
    (hown : s.vm.findClass own = some m.cls) (hcls : Bundle.fit cls = true) (hnames : ∀ n ∈ names, Bundle.fit n = true)
    (hk : (Cond.classLink own ik cls).before args s = true) (hini : (Cond.initialized cls).before args s = true) (hstr : vk_R own is text sa s) (hat : ∀ w ∈ vx_atS own ic cls names, w.before args s = true)
    (hgood : ∀ w ∈ Cond.classLink own ik cls :: Cond.initialized cls :: vx_atS own ic cls names, vx_ot w = true)
    (hU : vx_Zq Bundle.tN "UNASSIGNED_STACK" Bundle.steD A s s.heap) (hN : vx_Zq Bundle.tN "SUPPRESSED_SENTINEL" Bundle.listD A s s.heap) (hS : va_S A s.heap H locs) (hsize : ls.size = c.maxLocals)
    (d0 : decode cc pc = .ok (.new ik, 3)) (d3 : decode cc (pc + 3) = .ok (.dup, 1)) (d4 : decode cc (pc + 4) = .ok (.ldc_w is, 3)) (d7 : decode cc (pc + 7) = .ok (.invokespecial ic, 3)) (d10 : decode cc (pc + 10) = .ok (.athrow, 1))
    (hout : ∀ x ∈ c.exceptionTable.toList, covers x (pc + 10) = false)
    (hRframes : names.length + 3 < R.frames) (hRlocals : (rest.map fun v => v.category).sum + (13 * (names.length + 1) + 43) ≤ R.locals) (hRcells : cells + 1 ≤ R.cells) (hRslots : slots + 6 ≤ R.slots) (hlocks : meth.locks = false)
    (hx : ∀ t : State, s.vm.Alike t.vm → H.size ≤ t.heap.size → (∀ q : Nat, q < H.size → t.heap[q]? = H[q]?) → XC cls s t)
    (hf : ∀ z ∈ locs, free z.base) (hc : cells + 1 ≤ mc) (hs : slots + 6 ≤ ms) :
    W p l e R s m args below meth c H locs cells slots (vx_MQ below Qc XC args s mc ms free) (F0 m pc ls rest) := by
  intro T hT X
  have htr : e.platform.stackTraces = false := (show e.platform.stackTraces = l.stackTraces by rw [X.admits.platform]).trans hl
  have Y := vx_rebase X (R' := { frames := R.frames, locals := R.locals, cells := 1, slots := 6 }) (Nat.le_refl _) (Nat.le_refl _) hRcells hRslots
  obtain ⟨s', hA⟩ : ∃ z, z = (T.setVm s.vm).setFrames (.invoking m args :: below) := ⟨_, rfl⟩
  rw [← hA] at Y
  have hvm : s'.vm = s.vm := by rw [hA]; rfl
  have hhp : s'.heap = H := by rw [hA]; exact hT
  have hW0 : s.WarmedH s'.vm := by rw [hvm]; exact State.WarmedH.refl s
  have hat' : ∀ w ∈ vx_atS own ic cls names, w.before args s' = true := fun w hw => vx_ot_at hW0 hvm.symm (hgood w (List.mem_cons_of_mem _ (List.mem_cons_of_mem _ hw))) (hat w hw)
  have hk' : (Cond.classLink own ik cls).before args s' = true := vx_ot_at hW0 hvm.symm (hgood _ List.mem_cons_self) hk
  have hini' : (Cond.initialized cls).before args s' = true := vx_ot_at hW0 hvm.symm (hgood _ (List.mem_cons_of_mem _ List.mem_cons_self)) hini
  have hU' : vx_Zq Bundle.tN "UNASSIGNED_STACK" Bundle.steD A s' s'.heap := by rw [hhp]; exact vx_Zq.moved hW0.alike (hU.kept hS.2.1)
  have hN' : vx_Zq Bundle.tN "SUPPRESSED_SENTINEL" Bundle.listD A s' s'.heap := by rw [hhp]; exact vx_Zq.moved hW0.alike (hN.kept hS.2.1)
  have h : ∀ w ∈ Bundle.ownAtoms own ic cls names, w.before args s' = true := vx_own hat' (vx_isRefq hU'.1) (vx_isRefq hN'.1) hU'.2.word hN'.2.word
  have hown' : s'.vm.findClass own = some m.cls := by rw [hvm]; exact hown
  have hins : (Cond.instantiable cls 6).before args s' = true := h _ (by simp [Bundle.ownAtoms])
  obtain ⟨vm₁, cX, kX, hfX, hkX, -, -, X₁, st1⟩ := Y.newCold hexec (own := own) (C := cls) (index := ik) (n := 6) hown' hk' hins hini'
    (g := F0 m pc ls rest) rfl (by rw [hb]; exact d0) (Nat.le_refl _) (Nat.le_refl _)
  generalize hT1 : (T.setVm vm₁).pushCell { cls := cX, slots := kX.instanceTypes.map defaultValue, vm := .none } = T1 at X₁ st1
  have hcat : (Value.ref T.heap.size).category = 1 := rfl
  have hcellA : T1.heap[T.heap.size]? = some (freshCell cX kX) := by rw [← hT1]; exact State.heap_pushCell_size _ _
  have d3' : decode c.code (pc + 3) = .ok (.dup, 1) := by rw [hb]; exact d3
  have d4' : decode c.code (pc + 4) = .ok (.ldc_w is, 3) := by rw [hb]; exact d4
  have hstr' : vk_R own is text sa s' := vk_R.warm hW0 hstr
  obtain ⟨U, hsteps, hrun, hend, hW, hsame, ce, hce, hO⟩ := X₁.ctorThrowS hexec htr (own := own) (cls := cls) (names := names) (ic := ic) hown' hcls hnames h (fun x hx => nomatch hx) hfX hkX hcellA (by rw [hhp, hT]; exact Nat.le_refl _) (msg := .ref sa) rfl
    (g := { method := m, pc := pc + 7, locals := ls, stack := .ref sa :: .ref T.heap.size :: .ref T.heap.size :: rest, locked := none }) rfl hsize rfl rfl (rest := rest) rfl
    (by rw [hb]; exact d7) (by rw [hb]; exact d10) hout hRframes (by simp only [List.map_cons, List.sum_cons, hcat]; omega) hlocks
  obtain ⟨f1, f2⟩ := vx_frame hsame
  rw [hhp] at f1 f2
  have hWs : s.WarmedH U.vm := State.WarmedH.trans hW0 hW
  have hcl : s.vm.findClass cls = some ce.cls := by
    have h9 := hO.cls
    rw [hvm] at h9
    exact h9
  have hall : s.sameButNew ({ U with vm := s.vm } : State) locs mc ms := by
    subst hA
    obtain ⟨e1, e2⟩ := hsame
    rw [State.setFrames_setFrames] at e1
    have h2 : (T.setVm s.vm).sameButNew ({ U with vm := s.vm } : State) [] (0 + 1) (0 + 6) := ⟨e1, e2⟩
    have h3 := X.same.trans h2
    rw [List.append_nil] at h3
    exact h3.mono hc hs
  refine ⟨U, ?_, .threw T.heap.size, hrun, hend, Or.inr ⟨T.heap.size, rfl, cls, ce, locs, hx U hWs.alike f1 (fun q hq => f2 q hq (fun z hz => nomatch hz)), hce, hO.vm, hcl, hWs, hall, hf⟩⟩
  refine st1 _ ?_
  show Steps p.tables e below (T1.setTop { method := m, pc := pc + 3, locals := ls, stack := .ref T.heap.size :: rest, locked := none }) _
  jvm_step X₁.here [X₁.here.top, hexec, d3', Value.category]
  exact X₁.ldcStringW hexec (own := own) (text := text) (index := is) (a := sa) hown' hstr'.1 hstr'.2
    (g := { method := m, pc := pc + 4, locals := ls, stack := .ref T.heap.size :: .ref T.heap.size :: rest, locked := none }) rfl d4' _ hsteps
end Ends
section Bodies
variable {l : Launch}
theorem vx_ofW {y : MethodName} {ws ws' : List Cond} {rm : Room} {Pc : Array Value → State → Prop} {Qc : Array Value → State → Outcome → State → Prop} {XC : String → State → State → Prop} {mc ms : Nat} {free : Addr → Prop} {cc : ByteArray} {maxL : Nat} {ret : Option FieldType}
    (hy : plainName y.cls = true) (hw : ws = Cond.code y cc maxL ret :: ws')
    (body : ∀ p e s m args below meth c s₁, BodyLoose p l y (headSpec ws rm) cc maxL ret e s m args below meth c s₁ → c.maxLocals = maxL → (∀ x ∈ c.exceptionTable.toList, False) → Pc args s →
      W p l e (headSpec ws rm).room s m args below meth c s.heap [] 0 0 (vx_MQ below Qc XC args s mc ms free) (entryFrame m args maxL)) : vx_Met l y ws rm Pc Qc XC mc ms free := by
  refine MetFree.of_bodyS (code := cc) (maxLocals := maxL) (ret := ret) hy ?_ ?_
  · intro args s m h hn
    obtain ⟨meth, c, h1, h2, h3, h4, h5, h6, -, -⟩ := Cond.code_spec hn (atoms_spec (ws := ws) h _ (by rw [hw]; exact List.mem_cons_self))
    exact ⟨meth, c, h1, h2, h3, h4, h5, h6⟩
  · intro p e s m args below meth c s₁ B hml hP _
    have hh0 : s₁.heap = s.heap := by rw [B.state]; rfl
    have ht : ∀ x ∈ c.exceptionTable.toList, False := by
      obtain ⟨meth9, c9, h1, h2, -, -, -, -, h7, -⟩ := Cond.code_spec B.named (atoms_spec (ws := ws) B.pre _ (by rw [hw]; exact List.mem_cons_self))
      cases Option.some.inj (h1.symm.trans B.method)
      cases Option.some.inj (h2.symm.trans (Stand.of_body B).code)
      intro x hx
      rw [Array.isEmpty_iff.mp h7] at hx
      cases hx
    obtain ⟨t, a1, o, b1, b2, b3⟩ := body p e s m args below meth c s₁ B hml ht hP s₁ hh0 (Stand.of_body B)
    exact ⟨t, o, a1, b1, b2, b3⟩
/-- the table of a body with handlers -/
theorem vx_table {p : Program} {x y : MethodName} {S : Spec} {cc bytes : ByteArray} {maxL maxL' : Nat} {ret ret' : Option FieldType} {e : Env} {s s₁ : State} {m : MethodId} {args : Array Value} {below : List Frame} {meth : Method} {c : Code} {hh : List (Nat × Nat × Nat × Nat)}
    (B : BodyLoose p l y S cc maxL ret e s m args below meth c s₁) (h : (Cond.codeWith y bytes maxL' ret' hh).before args s = true) : c.exceptionTable.toList = tableOf hh := by
  obtain ⟨m9, meth9, c9, hn9, h1, h2, -, -, h6, -⟩ := Cond.codeWith_spec h
  cases Option.some.inj (hn9.symm.trans B.named)
  cases Option.some.inj (h1.symm.trans B.method)
  cases Option.some.inj (h2.symm.trans (Stand.of_body B).code)
  rw [← h6, table_eq]
end Bodies
end VXA
/-! ===== END ===== -/
/-! ===== BEGIN a static call of a method with an exception table ===== -/
section VXS
variable {p : Program} {l : Launch} {e : Env} {R : Room} {s : State} {m : MethodId} {args : Array Value} {below : List Frame} {meth : Method} {c : Code} {T : State} {H : Heap} {locs : List Loc} {cells slots : Nat}
abbrev vx_CSW (R : Room) (s : State) (args : Array Value) (own : String) (index : Nat) (y : MethodName) (bytes : ByteArray) (maxL : Nat) (ret : Option FieldType) (hh : List (Nat × Nat × Nat × Nat)) (ws : List Cond) (rm : Room) (mc ms n : Nat) : Prop :=
  (rm.cells = mc ∧ rm.slots = ms ∧ rm.frames + 1 ≤ R.frames ∧ 8 + (maxL + 11) + rm.locals ≤ R.locals ∧ (∀ w ∈ ws, ∀ (a' : Array Value) (U : State), s.WarmedH U.vm → w.before a' U = true) ∧ Cond.codeWith y bytes maxL ret hh ∈ ws) ∧
  (Cond.codeWith y bytes maxL ret hh).before args s = true ∧ (Cond.initialized y.cls).before args s = true ∧ (y.cls ≠ "java/lang/invoke/MethodHandle" ∧ y.cls ≠ "java/lang/invoke/VarHandle") ∧
  (∀ sig, parseMethodDescriptor y.desc = some sig → n = sig.parameters.length) ∧ (Cond.methodLink own index y).before args s = true ∧ (Cond.static y).before args s = true
theorem vx_cwSW {own : String} {index maxL mc ms : Nat} {y : MethodName} {bytes : ByteArray} {ret : Option FieldType} {hh : List (Nat × Nat × Nat × Nat)} {Ts ws ws' : List Cond} {rm : Room} (n : Nat) (ht : ∀ w ∈ Ts, w.before args s = true) (hT : GoodIn Ts (va_wsS own index y ws)) (hw : ws = Cond.codeWith y bytes maxL ret hh :: ws') (hrc : rm.cells = mc) (hrs : rm.slots = ms)
    (hd : y.cls ≠ "java/lang/invoke/MethodHandle" ∧ y.cls ≠ "java/lang/invoke/VarHandle" ∧ (parseMethodDescriptor y.desc).map (fun d => d.parameters.length) = some n) (hR : rm.frames + 1 ≤ R.frames ∧ 8 + (maxL + 11) + rm.locals ≤ R.locals) :
    vx_CSW R s args own index y bytes maxL ret hh ws rm mc ms n := by
  have ok : ∀ w ∈ va_wsS own index y ws, w.before args s = true := fun w h => ht w (hT w h).1
  have hG : GoodIn Ts ws := fun w h => hT w (by unfold va_wsS; exact List.mem_append_right _ h)
  have hc : Cond.codeWith y bytes maxL ret hh ∈ ws := by rw [hw]; exact List.mem_cons_self
  refine ⟨⟨hrc, hrs, hR.1, hR.2, pay_in ht hG, hc⟩, ht _ (hG _ hc).1, ok _ (by simp [va_wsS]), ⟨hd.1, hd.2.1⟩, fun sig h => ?_, ok _ (by simp [va_wsS]), ok _ (by simp [va_wsS])⟩
  have h2 := hd.2.2
  rw [h] at h2
  exact (Option.some.inj h2).symm
theorem vx_callSW (X : Stand p l e R s m args below meth c T locs cells slots) (hexec : p.tables.exec = Jvm.exec) {own : String} {index : Nat} {y : MethodName} {bytes : ByteArray} {maxL : Nat} {ret : Option FieldType} {hh : List (Nat × Nat × Nat × Nat)}
    (hown : s.vm.findClass own = some m.cls) (hlink : (Cond.methodLink own index y).before args s = true) (hstat : (Cond.static y).before args s = true) (hinit : (Cond.initialized y.cls).before args s = true)
    (hcode : (Cond.codeWith y bytes maxL ret hh).before args s = true) (hy : y.cls ≠ "java/lang/invoke/MethodHandle" ∧ y.cls ≠ "java/lang/invoke/VarHandle")
    {W9 : Nat} {Pre : Pt → Array Value → Prop} {Post : Pt → Array Value → Option Value → Pt → Prop} (hK : Back l R p e below s args y 3 W9 Pre Post)
    {g : JFrame} (hg : g.method = m) (hsize : g.locals.size = c.maxLocals) {argsL rest : List Value} (hlen : ∀ sig, parseMethodDescriptor y.desc = some sig → argsL.length = sig.parameters.length)
    (hstack : g.stack = argsL.reverse ++ rest) (hW : 2 * g.monitorRoom + (rest.map fun v => v.category).sum ≤ W9) (hdg : decode c.code g.pc = .ok (.invokestatic index, 3))
    (hpre : ∀ vm₁, s.WarmedH vm₁ → Pre ⟨T.setVm vm₁, locs, cells, slots⟩ argsL.toArray) :
    ∃ (v : Option Value) (vm₁ : Vm) (B : Pt), s.WarmedH vm₁ ∧ Stand p l e R s m args below meth c B.U B.locs B.cells B.slots ∧ Post ⟨T.setVm vm₁, locs, cells, slots⟩ argsL.toArray v B ∧
      ∀ target, Steps p.tables e below (B.U.setTop { g with pc := g.pc + 3, stack := v.toList ++ rest }) target → Steps p.tables e below (T.setTop g) target := by
  obtain ⟨mk, methM, cM, hnamed, hmethM, -, -, -, -, -, -, hsigM⟩ := Cond.codeWith_spec hcode
  have hstatic : methM.isStatic = true := Cond.static_spec hnamed hmethM hstat
  obtain ⟨kP, hkP, -⟩ := className_of_methodNamed hnamed
  have hinitP : kP.init = .initialized := Cond.initialized_spec (findClass_of_methodNamed hnamed) hkP hinit
  obtain ⟨vm₁, X₁, hstep₁⟩ := X.invokestatic hexec hown hlink hnamed hmethM hstatic hkP hinitP hy (g := g) hg (argsL := argsL) (rest := rest) (hlen _ hsigM) hstack hdg
  obtain ⟨v, B, X', hpost, hsteps⟩ := hK m meth c ⟨T.setVm vm₁, locs, cells, slots⟩ { g with stack := rest } (.invokestatic index) mk argsL.toArray X₁ hg hsize hdg hW (X₁.named hnamed) (hpre vm₁ X₁.warmed)
  exact ⟨v, vm₁, B, X₁.warmed, X', hpost, fun target h => hstep₁ _ fun acts => by rw [doInvoke_state]; exact hsteps.trans h⟩
theorem vx_runSW {y : MethodName} {bytes cc : ByteArray} {maxL nL mc ms n index : Nat} {ret : Option FieldType} {hh : List (Nat × Nat × Nat × Nat)} {ws : List Cond} {rm : Room} {Pc : Array Value → State → Prop} {Qc : Array Value → State → Outcome → State → Prop} {free : Addr → Prop} {Ts : List Cond} {own : String} {As rest : List Value} {g : JFrame}
    (S : CallFix p m c cc nL s args Ts own) (hM : Met l y ws rm Pc Qc mc ms free) (cw : vx_CSW R s args own index y bytes maxL ret hh ws rm mc ms n) (hp : PreS s H Pc As)
    (hg : g.method = m) (hn : As.length = n) (hsize : g.locals.size = nL) (hstack : g.stack = As.reverse ++ rest) (hW : 2 * g.monitorRoom + (rest.map fun v => v.category).sum ≤ 8) (hdg : decode cc g.pc = .ok (.invokestatic index, 3)) (hf : cells + mc ≤ R.cells ∧ slots + ms ≤ R.slots) :
    va_Run p l e R s m args below meth c H locs cells slots mc ms g rest (Qc As.toArray) (free) := by
  obtain ⟨⟨hrc, hrs, hfr, hlo, hws, hcw⟩, hcode, hini, hy, hlen, hl, hstt⟩ := cw
  have hK : Back l R p e below s args y 3 8 (PreOf R mc ms Pc) (PostOf Qc mc ms free) := va_backW (hh := hh) (bytes := bytes) (maxL := maxL) (ret := ret) hM hp.1 hrc hrs hfr hlo hws hcw (fun a' U hW => word_at hW (Or.inl (by first | rfl | simp [Cond.onTables, Cond.keeps, Cond.steady])) hini)
  obtain ⟨hx, hb, hml, ho, -⟩ := S
  intro T hT X
  obtain ⟨v, vm₁, ⟨U', l2, c2, s2⟩, hW₁, X', ⟨g', mk, t, L, e1, e2, hq, h1, hL, h2, h3⟩, st⟩ := vx_callSW X hx (hh := hh) (bytes := bytes) (maxL := maxL) (ret := ret) ho hl hstt hini hcode hy hK hg (hsize.trans hml.symm) (argsL := As) (rest := rest) (fun sig h => hn.trans (hlen sig h)) hstack hW (by rw [hb]; exact hdg)
    (fun vm₁ hW₁ => ⟨hf.1, hf.2, hp.2 (T.setVm vm₁) hT hW₁⟩)
  dsimp only [Pt.U, Pt.locs, Pt.cells, Pt.slots] at X' e1 e2 h1 h2 h3 st
  subst h1; subst h2; subst h3
  exact ⟨v, (T.setVm vm₁).calling g' mk As.toArray, t, U', L, hT, X', hL, e1, e2, hq, st⟩
/-- not caught here, past rows that name other classes: it goes on to the caller -/
theorem vx_outP {p : Program} {l : Launch} {e : Env} {R : Room} {s : State} {m : MethodId} {args : Array Value} {below : List Frame} {meth : Method} {c : Code} {H : Heap} {locs : List Loc} {cells slots : Nat} {free : Addr → Prop} {ls : Array Slot} {rest : List Value} {Qc : Array Value → State → Outcome → State → Prop} {XC : String → State → State → Prop}
    {pc : Nat} {own E : String} {ce : Cell} {q : Addr} {mc ms : Nat} (hown : s.vm.findClass own = some m.cls) (hlocks : meth.locks = false)
    (hpass : ∀ z ∈ c.exceptionTable.toList, covers z pc = false ∨ (z.catchType ≠ 0 ∧ ∃ nm : String, (Cond.classLink own z.catchType nm).before args s = true ∧ va_Nc E nm s)) (hcell : H[q]? = some ce) (hv : ce.vm = .none) (hcl : s.vm.findClass E = some ce.cls)
    (hx : ∀ t : State, t.heap = H → s.vm.Alike t.vm → XC E s t) (hf : ∀ z ∈ locs, free z.base) (hc : cells ≤ mc) (hs : slots ≤ ms) :
    vx_W p l e R s m args below meth c H locs cells slots (vx_MQ below Qc XC args s mc ms free) (F0 m pc ls rest) q := by
  intro T hT X
  have hpl : e.platform.magicAccessors = ({} : Platform).magicAccessors := by rw [X.admits.platform]
  obtain ⟨vm', hW', X', st⟩ := X.outThrough hlocks q (g := F0 m pc ls rest) rfl rfl rfl (cell := ce) (by rw [hT]; exact hcell) (by rw [hv]; rfl)
    (by obtain ⟨k9, h9, -⟩ := Vm.findClass_spec hcl; exact ⟨k9, h9⟩) (fun z hz => by
      rcases hpass z hz with h | ⟨hz0, nm, hl1, hn1⟩
      · exact Or.inl h
      · obtain ⟨c6, hc6, hcl6⟩ := Cond.classLink_spec hown hl1 e.platform hpl
        obtain ⟨a8, b8, h1, h2, h3⟩ := hn1
        cases Option.some.inj (h1.symm.trans hcl)
        cases Option.some.inj (h2.symm.trans hc6)
        exact Or.inr ⟨hz0, _, hcl6, h3⟩)
  obtain ⟨g₀, hfr⟩ := X'.frames_eq
  have hcell9 : ((T.setVm vm').setFrames (.throwing q :: below)).heap[q]? = some ce := by
    show T.heap[q]? = some ce
    rw [hT]; exact hcell
  have hend : Ended ((T.setVm vm').setFrames (.throwing q :: below)) below (.threw q) := State.frames_setFrames _ (State.cur_lt_of_frames hfr)
  refine ⟨(T.setVm vm').setFrames (.throwing q :: below), ?_, .threw q, X'.here.running, hend, Or.inr ⟨q, rfl, E, ce, locs, hx _ hT (X'.ends _).1.alike, hcell9, hv, hcl, (X'.ends _).1, (X'.ends _).2.mono hc hs, hf⟩⟩
  rw [X.pushThrowing_eq]
  exact st
/-- a thing of a world lies in the heap -/
theorem vx_lt {D : va_G} {cl : List vw_C} {ws : va_W} {H1 : Heap} (h : va_P D cl ws H1) {k : Nat} {q : Nat × va_E} (hk : ws[k]? = some q) : q.1 < H1.size := (h k q hk).lt
end VXS
/-! ===== END ===== -/
/-! ===== BEGIN methods with a table of their own: called by a name, returning or throwing ===== -/
section VXH
/-! vx_backW, vx_callVX, vx_callSX, vx_callVW, vx_runVW, vx_runVX, vx_runSX, vx_ofWH follow the same proofs as their sisters above (Free/Laws.lean, Shelf42/LK1.lean); vx_outP calls Shelf42/NT130.lean (outThrough). -/
section
variable {l : Launch} {R : Room} {p : Program} {e : Env} {below : List Frame} {s : State} {sargs : Array Value} {y : MethodName} {len W9 : Nat}
theorem vx_backW {ws : List Cond} {rm : Room} {Pc : Array Value → State → Prop} {Qc : Array Value → State → Outcome → State → Prop} {XC : String → State → State → Prop} {mc ms : Nat} {free : Addr → Prop} {bytes : ByteArray} {maxL : Nat} {ret : Option FieldType} {hh : List (Nat × Nat × Nat × Nat)}
    (hM : vx_Met l y ws rm Pc Qc XC mc ms free) (hblind : FrameBlind Pc) (hrc : rm.cells = mc) (hrs : rm.slots = ms)
    (hframes : rm.frames + 1 ≤ R.frames) (hlocals : W9 + (maxL + 11) + rm.locals ≤ R.locals)
    (hws : ∀ w ∈ ws, ∀ a' U, s.WarmedH U.vm → w.before a' U = true) (hcode : Cond.codeWith y bytes maxL ret hh ∈ ws) (hinit : ∀ a' U, s.WarmedH U.vm → (Cond.initialized y.cls).before a' U = true) :
    vx_Back l R p e below s sargs y len W9 (PreOf R mc ms Pc) (PostOf Qc mc ms free) (vx_Post XC mc ms free) := by
  intro m meth c A g ig mk a X hg hsize hdg hW hn hp
  have h1 : (headSpec ws rm).pre.before a A.U = true := atoms_intro fun w hw => hws w hw _ _ X.warmed
  have h2 : (Cond.codeWith y bytes maxL ret hh).before a A.U = true := hws _ hcode _ _ X.warmed
  have h3 : (Cond.initialized y.cls).before a A.U = true := hinit _ _ X.warmed
  have h4 : A.cells + (headSpec ws rm).room.cells ≤ R.cells := by rw [show (headSpec ws rm).room.cells = mc from hrc]; exact hp.1
  have h5 : A.slots + (headSpec ws rm).room.slots ≤ R.slots := by rw [show (headSpec ws rm).room.slots = ms from hrs]; exact hp.2.1
  have hPc : Pc a (A.U.calling g mk a) := hblind _ _ _ _ hp.2.2
  obtain ⟨U, Ls, c0, s0⟩ := A
  dsimp only [Pt.U, Pt.locs, Pt.cells, Pt.slots] at h1 h2 h3 h4 h5 X hn hPc ⊢
  obtain ⟨m9, methY, cY, hn9, hmY, hcY, -, hlY, -⟩ := Cond.codeWith_spec h2
  cases Option.some.inj (hn9.symm.trans hn)
  obtain ⟨kY, hkY, -⟩ := className_of_methodNamed hn
  have hinitY : kY.init = .initialized := Cond.initialized_spec (findClass_of_methodNamed hn) hkY h3
  have h : At U g.method c below := by rw [hg]; exact X.here
  have hlocals9 : W9 + (maxL + 11) + (headSpec ws rm).room.locals ≤ R.locals := hlocals
  have happ : (headSpec ws rm).appliesLoose y e.platform (U.calling g mk a) = true :=
    Spec.appliesLoose_calling (g := g) h hdg hn hkY hinitY
      (X.room_calling (g := g) (R' := (headSpec ws rm).room) hsize hmY hcY hframes (by rw [hlY]; omega) h4 h5) h1
  obtain ⟨mid, hmid⟩ := h.above
  have hfr : (U.setTop g).frames = (.java g :: mid) ++ below := by rw [State.frames_setTop' g h.top, hmid]; rfl
  obtain ⟨o, s₂, hsteps, -, hend, hq⟩ := Steps.callFree hM p X.admits X.cas X.clock (acts := []) hfr happ hPc trivial
  have hq' : vx_Q Qc XC mc ms free a (U.calling g mk a) o s₂ := hq
  rw [State.frames_setTop' g h.top] at hend
  obtain ⟨g₀, hg0⟩ := Option.isSome_iff_exists.mp h.top
  obtain ⟨r, hr⟩ := State.topJava?_eq_some.mp hg0
  have hr' : (({ U with heap := s₂.heap, slotsUsed := s₂.slotsUsed } : State).setVm s₂.vm).frames = .java g₀ :: r := hr
  rcases hq' with ⟨hqc, L, hfe, hL⟩ | ⟨q, rfl, E, ce, L, hx, hce, hcv, hcl, hW₂, hsm, hL⟩
  · obtain ⟨⟨v, rfl⟩, hW₂, e2, q2, q3, q4, q5, q6⟩ := id hfe
    have e3 : s₂ = ({ (U.calling g mk a).setFrames s₂.frames with heap := s₂.heap, slotsUsed := s₂.slotsUsed } : State).setVm s₂.vm := by
      have : s₂ = ({ s₂ with vm := (U.calling g mk a).vm } : State).setVm s₂.vm := rfl
      rw [e2] at this
      exact this
    obtain ⟨c₂, i₂, len₂, hc₂, hd₂, hf₂⟩ := hend
    have hW' : U.WarmedH s₂.vm := hW₂
    have hcc : c₂ = c := by
      have h1 : s₂.code? g.method = U.code? g.method := by
        rw [State.code?_eq, State.code?_eq, hW'.alike.method?]
      exact Option.some.inj (hc₂.symm.trans (h1.trans h.code))
    subst hcc
    have hlen : len₂ = len := by rw [hdg] at hd₂; cases hd₂; rfl
    subst hlen
    have hs₂ : s₂ = (({ U with heap := s₂.heap, slotsUsed := s₂.slotsUsed } : State).setVm s₂.vm).setTop { g with pc := g.pc + len₂, stack := v.toList ++ g.stack } := by
      refine e3.trans ?_
      rw [hf₂, State.calling_eq h.top, State.setFrames_setFrames, State.setTop_of_frames _ hr', hr]
      rfl
    have hsame : U.sameButNew ({ U with heap := s₂.heap, slotsUsed := s₂.slotsUsed } : State) L mc ms := by
      refine ⟨?_, q2, q3, q4, q5, q6⟩
      obtain ⟨t, ht, -⟩ := State.frames_cons hr
      show ({ U with heap := s₂.heap, slotsUsed := s₂.slotsUsed } : State) = { U.setFrames U.frames with heap := s₂.heap, slotsUsed := s₂.slotsUsed }
      rw [State.setFrames_self ht]
    subst hg
    refine Or.inl ⟨v, ⟨(({ U with heap := s₂.heap, slotsUsed := s₂.slotsUsed } : State).setVm s₂.vm), Ls ++ L, c0 + mc, s0 + ms⟩,
      ⟨X.admits, X.cas, X.clock, X.frames, X.room, X.hears, X.method, X.code, (X.here.setHeapUsed s₂.heap s₂.slotsUsed).setVm hW'.alike, X.tail, State.WarmedH.trans X.warmed hW', X.limits, X.bytes, X.same.trans (hsame.setVm s.vm)⟩,
      ⟨g, mk, s₂, L, rfl, rfl, hqc, rfl, hL, rfl, rfl⟩, ?_⟩
    show Steps p.tables e below _ ((({ U with heap := s₂.heap, slotsUsed := s₂.slotsUsed } : State).setVm s₂.vm).setTop { g with pc := g.pc + len₂, stack := v.toList ++ g.stack })
    rw [← hs₂]
    exact hsteps
  · obtain ⟨e2, q2, q3, q4, q5, q6⟩ := id hsm
    have e3 : s₂ = ({ (U.calling g mk a).setFrames s₂.frames with heap := s₂.heap, slotsUsed := s₂.slotsUsed } : State).setVm s₂.vm := by
      have : s₂ = ({ s₂ with vm := (U.calling g mk a).vm } : State).setVm s₂.vm := rfl
      rw [e2] at this
      exact this
    have hf₂ : s₂.frames = .throwing q :: .java g :: U.frames.tail := hend
    have hW' : U.WarmedH s₂.vm := hW₂
    have hs₂ : s₂ = ((({ U with heap := s₂.heap, slotsUsed := s₂.slotsUsed } : State).setVm s₂.vm).setTop g).pushFrame (.throwing q) := by
      refine e3.trans ?_
      rw [hf₂, State.calling_eq h.top, State.setFrames_setFrames, State.pushFrame, State.frames_setTop _ hr', State.setTop_of_frames _ hr', State.setFrames_setFrames, hr]
      rfl
    have hsame : U.sameButNew ({ U with heap := s₂.heap, slotsUsed := s₂.slotsUsed } : State) L mc ms := by
      refine ⟨?_, q2, q3, q4, q5, q6⟩
      obtain ⟨t, ht, -⟩ := State.frames_cons hr
      show ({ U with heap := s₂.heap, slotsUsed := s₂.slotsUsed } : State) = { U.setFrames U.frames with heap := s₂.heap, slotsUsed := s₂.slotsUsed }
      rw [State.setFrames_self ht]
    subst hg
    refine Or.inr ⟨q, ⟨(({ U with heap := s₂.heap, slotsUsed := s₂.slotsUsed } : State).setVm s₂.vm), Ls ++ L, c0 + mc, s0 + ms⟩,
      ⟨X.admits, X.cas, X.clock, X.frames, X.room, X.hears, X.method, X.code, (X.here.setHeapUsed s₂.heap s₂.slotsUsed).setVm hW'.alike, X.tail, State.WarmedH.trans X.warmed hW', X.limits, X.bytes, X.same.trans (hsame.setVm s.vm)⟩,
      ⟨g, mk, s₂, L, E, ce, rfl, rfl, hx, hce, hcv, hcl, rfl, hL, rfl, rfl⟩, ?_⟩
    show Steps p.tables e below _ (((({ U with heap := s₂.heap, slotsUsed := s₂.slotsUsed } : State).setVm s₂.vm).setTop g).pushFrame (.throwing q))
    rw [← hs₂]
    exact hsteps
end
variable {p : Program} {l : Launch} {e : Env} {R : Room} {s : State} {m : MethodId} {args : Array Value} {below : List Frame} {meth : Method} {c : Code} {T : State} {H : Heap} {locs : List Loc} {cells slots : Nat}
theorem vx_callVX (X : Stand p l e R s m args below meth c T locs cells slots) (hexec : p.tables.exec = Jvm.exec) {own C : String} {index : Nat} {y : MethodName} {bytes : ByteArray} {maxL : Nat} {ret : Option FieldType} {hh : List (Nat × Nat × Nat × Nat)}
    (hown : s.vm.findClass own = some m.cls) (hlink : (Cond.methodLink own index y).before args s = true) (hinst : (Cond.instanceMethod y).before args s = true) (hsel : (Cond.selects C y y).before args s = true)
    (hcode : (Cond.codeWith y bytes maxL ret hh).before args s = true) (hy : y.cls ≠ "java/lang/invoke/MethodHandle" ∧ y.cls ≠ "java/lang/invoke/VarHandle")
    {W9 : Nat} {Pre : Pt → Array Value → Prop} {Post : Pt → Array Value → Option Value → Pt → Prop} {PostX : Pt → Array Value → Addr → Pt → Prop} (hK : vx_Back l R p e below s args y 3 W9 Pre Post PostX)
    {b : Addr} {cellB : Cell} (hcell : T.heap[b]? = some cellB) (hobj : cellB.vm.isStatics = false) (hcls : s.vm.findClass C = some cellB.cls)
    {g : JFrame} (hg : g.method = m) (hsize : g.locals.size = c.maxLocals) {argsL rest : List Value} (hlen : ∀ sig, parseMethodDescriptor y.desc = some sig → argsL.length = sig.parameters.length)
    (hstack : g.stack = argsL.reverse ++ .ref b :: rest) (hW : 2 * g.monitorRoom + (rest.map fun v => v.category).sum ≤ W9) (hdg : decode c.code g.pc = .ok (.invokevirtual index, 3))
    (hpre : ∀ vm₁, s.WarmedH vm₁ → Pre ⟨T.setVm vm₁, locs, cells, slots⟩ (Value.ref b :: argsL).toArray) :
    (∃ (v : Option Value) (vm₁ : Vm) (B : Pt), s.WarmedH vm₁ ∧ Stand p l e R s m args below meth c B.U B.locs B.cells B.slots ∧ Post ⟨T.setVm vm₁, locs, cells, slots⟩ (Value.ref b :: argsL).toArray v B ∧
      ∀ target, Steps p.tables e below (B.U.setTop { g with pc := g.pc + 3, stack := v.toList ++ rest }) target → Steps p.tables e below (T.setTop g) target) ∨
    (∃ (q : Addr) (vm₁ : Vm) (B : Pt), s.WarmedH vm₁ ∧ Stand p l e R s m args below meth c B.U B.locs B.cells B.slots ∧ PostX ⟨T.setVm vm₁, locs, cells, slots⟩ (Value.ref b :: argsL).toArray q B ∧
      Steps p.tables e below (T.setTop g) ((B.U.setTop { g with stack := rest }).pushFrame (.throwing q))) := by
  obtain ⟨mk, methM, hnamed, hmethM, hstM, habM⟩ := Cond.instanceMethod_spec hinst
  obtain ⟨m8, methM', cM, hn8, hmethM', -, -, -, -, -, -, hsigM⟩ := Cond.codeWith_spec hcode
  cases Option.some.inj (hn8.symm.trans hnamed)
  cases hmethM.symm.trans hmethM'
  obtain ⟨c2, r2, m2, q1, q2, q3, q4, kP, hkP, hkPi⟩ := Cond.selects_spec hsel
  cases hcls.symm.trans q1
  cases (State.methodFound?_of_named hnamed hy).symm.trans q2
  cases hnamed.symm.trans q3
  have hselP : selectMethod e.platform s.vm cellB.cls mk = .method mk := by rw [Launch.admits_selectMethod X.admits]; exact q4
  obtain ⟨vm₁, X₁, hstep₁⟩ := X.invokevirtual hexec hown hlink hnamed hmethM hstM hkP hkPi hy (a := b) (cell := cellB) hcell
    (fun z h => by rw [h] at hobj; cases hobj) hselP hmethM habM hkP hkPi (g := g) hg (argsL := argsL) (rest := rest) (hlen _ hsigM) hstack hdg
  rcases hK m meth c ⟨T.setVm vm₁, locs, cells, slots⟩ { g with stack := rest } (.invokevirtual index) mk (Value.ref b :: argsL).toArray X₁ hg hsize hdg hW (X₁.named hnamed) (hpre vm₁ X₁.warmed) with ⟨v, B, X', hpost, hsteps⟩ | ⟨q, B, X', hpost, hsteps⟩
  · exact Or.inl ⟨v, vm₁, B, X₁.warmed, X', hpost, fun target h => hstep₁ _ fun acts => by rw [doInvoke_state]; exact hsteps.trans h⟩
  · exact Or.inr ⟨q, vm₁, B, X₁.warmed, X', hpost, hstep₁ _ fun acts => by rw [doInvoke_state]; exact hsteps⟩
theorem vx_callSX (X : Stand p l e R s m args below meth c T locs cells slots) (hexec : p.tables.exec = Jvm.exec) {own : String} {index : Nat} {y : MethodName} {bytes : ByteArray} {maxL : Nat} {ret : Option FieldType} {hh : List (Nat × Nat × Nat × Nat)}
    (hown : s.vm.findClass own = some m.cls) (hlink : (Cond.methodLink own index y).before args s = true) (hstat : (Cond.static y).before args s = true) (hinit : (Cond.initialized y.cls).before args s = true)
    (hcode : (Cond.codeWith y bytes maxL ret hh).before args s = true) (hy : y.cls ≠ "java/lang/invoke/MethodHandle" ∧ y.cls ≠ "java/lang/invoke/VarHandle")
    {W9 : Nat} {Pre : Pt → Array Value → Prop} {Post : Pt → Array Value → Option Value → Pt → Prop} {PostX : Pt → Array Value → Addr → Pt → Prop} (hK : vx_Back l R p e below s args y 3 W9 Pre Post PostX)
    {g : JFrame} (hg : g.method = m) (hsize : g.locals.size = c.maxLocals) {argsL rest : List Value} (hlen : ∀ sig, parseMethodDescriptor y.desc = some sig → argsL.length = sig.parameters.length)
    (hstack : g.stack = argsL.reverse ++ rest) (hW : 2 * g.monitorRoom + (rest.map fun v => v.category).sum ≤ W9) (hdg : decode c.code g.pc = .ok (.invokestatic index, 3))
    (hpre : ∀ vm₁, s.WarmedH vm₁ → Pre ⟨T.setVm vm₁, locs, cells, slots⟩ argsL.toArray) :
    (∃ (v : Option Value) (vm₁ : Vm) (B : Pt), s.WarmedH vm₁ ∧ Stand p l e R s m args below meth c B.U B.locs B.cells B.slots ∧ Post ⟨T.setVm vm₁, locs, cells, slots⟩ argsL.toArray v B ∧
      ∀ target, Steps p.tables e below (B.U.setTop { g with pc := g.pc + 3, stack := v.toList ++ rest }) target → Steps p.tables e below (T.setTop g) target) ∨
    (∃ (q : Addr) (vm₁ : Vm) (B : Pt), s.WarmedH vm₁ ∧ Stand p l e R s m args below meth c B.U B.locs B.cells B.slots ∧ PostX ⟨T.setVm vm₁, locs, cells, slots⟩ argsL.toArray q B ∧
      Steps p.tables e below (T.setTop g) ((B.U.setTop { g with stack := rest }).pushFrame (.throwing q))) := by
  obtain ⟨mk, methM, cM, hnamed, hmethM, -, -, -, -, -, -, hsigM⟩ := Cond.codeWith_spec hcode
  have hstatic : methM.isStatic = true := Cond.static_spec hnamed hmethM hstat
  obtain ⟨kP, hkP, -⟩ := className_of_methodNamed hnamed
  have hinitP : kP.init = .initialized := Cond.initialized_spec (findClass_of_methodNamed hnamed) hkP hinit
  obtain ⟨vm₁, X₁, hstep₁⟩ := X.invokestatic hexec hown hlink hnamed hmethM hstatic hkP hinitP hy (g := g) hg (argsL := argsL) (rest := rest) (hlen _ hsigM) hstack hdg
  rcases hK m meth c ⟨T.setVm vm₁, locs, cells, slots⟩ { g with stack := rest } (.invokestatic index) mk argsL.toArray X₁ hg hsize hdg hW (X₁.named hnamed) (hpre vm₁ X₁.warmed) with ⟨v, B, X', hpost, hsteps⟩ | ⟨q, B, X', hpost, hsteps⟩
  · exact Or.inl ⟨v, vm₁, B, X₁.warmed, X', hpost, fun target h => hstep₁ _ fun acts => by rw [doInvoke_state]; exact hsteps.trans h⟩
  · exact Or.inr ⟨q, vm₁, B, X₁.warmed, X', hpost, hstep₁ _ fun acts => by rw [doInvoke_state]; exact hsteps⟩
theorem vx_callVW (X : Stand p l e R s m args below meth c T locs cells slots) (hexec : p.tables.exec = Jvm.exec) {own C : String} {index : Nat} {y : MethodName} {bytes : ByteArray} {maxL : Nat} {ret : Option FieldType} {hh : List (Nat × Nat × Nat × Nat)}
    (hown : s.vm.findClass own = some m.cls) (hlink : (Cond.methodLink own index y).before args s = true) (hinst : (Cond.instanceMethod y).before args s = true) (hsel : (Cond.selects C y y).before args s = true)
    (hcode : (Cond.codeWith y bytes maxL ret hh).before args s = true) (hy : y.cls ≠ "java/lang/invoke/MethodHandle" ∧ y.cls ≠ "java/lang/invoke/VarHandle")
    {W9 : Nat} {Pre : Pt → Array Value → Prop} {Post : Pt → Array Value → Option Value → Pt → Prop} (hK : Back l R p e below s args y 3 W9 Pre Post)
    {b : Addr} {cellB : Cell} (hcell : T.heap[b]? = some cellB) (hobj : cellB.vm.isStatics = false) (hcls : s.vm.findClass C = some cellB.cls)
    {g : JFrame} (hg : g.method = m) (hsize : g.locals.size = c.maxLocals) {argsL rest : List Value} (hlen : ∀ sig, parseMethodDescriptor y.desc = some sig → argsL.length = sig.parameters.length)
    (hstack : g.stack = argsL.reverse ++ .ref b :: rest) (hW : 2 * g.monitorRoom + (rest.map fun v => v.category).sum ≤ W9) (hdg : decode c.code g.pc = .ok (.invokevirtual index, 3))
    (hpre : ∀ vm₁, s.WarmedH vm₁ → Pre ⟨T.setVm vm₁, locs, cells, slots⟩ (Value.ref b :: argsL).toArray) :
    ∃ (v : Option Value) (vm₁ : Vm) (B : Pt), s.WarmedH vm₁ ∧ Stand p l e R s m args below meth c B.U B.locs B.cells B.slots ∧ Post ⟨T.setVm vm₁, locs, cells, slots⟩ (Value.ref b :: argsL).toArray v B ∧
      ∀ target, Steps p.tables e below (B.U.setTop { g with pc := g.pc + 3, stack := v.toList ++ rest }) target → Steps p.tables e below (T.setTop g) target := by
  obtain ⟨mk, methM, hnamed, hmethM, hstM, habM⟩ := Cond.instanceMethod_spec hinst
  obtain ⟨m8, methM', cM, hn8, hmethM', -, -, -, -, -, -, hsigM⟩ := Cond.codeWith_spec hcode
  cases Option.some.inj (hn8.symm.trans hnamed)
  cases hmethM.symm.trans hmethM'
  obtain ⟨c2, r2, m2, q1, q2, q3, q4, kP, hkP, hkPi⟩ := Cond.selects_spec hsel
  cases hcls.symm.trans q1
  cases (State.methodFound?_of_named hnamed hy).symm.trans q2
  cases hnamed.symm.trans q3
  have hselP : selectMethod e.platform s.vm cellB.cls mk = .method mk := by rw [Launch.admits_selectMethod X.admits]; exact q4
  obtain ⟨vm₁, X₁, hstep₁⟩ := X.invokevirtual hexec hown hlink hnamed hmethM hstM hkP hkPi hy (a := b) (cell := cellB) hcell
    (fun z h => by rw [h] at hobj; cases hobj) hselP hmethM habM hkP hkPi (g := g) hg (argsL := argsL) (rest := rest) (hlen _ hsigM) hstack hdg
  obtain ⟨v, B, X', hpost, hsteps⟩ := hK m meth c ⟨T.setVm vm₁, locs, cells, slots⟩ { g with stack := rest } (.invokevirtual index) mk (Value.ref b :: argsL).toArray X₁ hg hsize hdg hW (X₁.named hnamed) (hpre vm₁ X₁.warmed)
  exact ⟨v, vm₁, B, X₁.warmed, X', hpost, fun target h => hstep₁ _ fun acts => by rw [doInvoke_state]; exact hsteps.trans h⟩
abbrev vx_CVW (R : Room) (s : State) (args : Array Value) (own C : String) (index : Nat) (y : MethodName) (bytes : ByteArray) (maxL : Nat) (ret : Option FieldType) (hh : List (Nat × Nat × Nat × Nat)) (ws : List Cond) (rm : Room) (mc ms n : Nat) : Prop :=
  (rm.cells = mc ∧ rm.slots = ms ∧ rm.frames + 1 ≤ R.frames ∧ 8 + (maxL + 11) + rm.locals ≤ R.locals ∧ (∀ w ∈ ws, ∀ (a' : Array Value) (U : State), s.WarmedH U.vm → w.before a' U = true) ∧ Cond.codeWith y bytes maxL ret hh ∈ ws) ∧
  (Cond.codeWith y bytes maxL ret hh).before args s = true ∧ (Cond.initialized y.cls).before args s = true ∧ (y.cls ≠ "java/lang/invoke/MethodHandle" ∧ y.cls ≠ "java/lang/invoke/VarHandle") ∧
  (∀ sig, parseMethodDescriptor y.desc = some sig → n = sig.parameters.length) ∧ (Cond.methodLink own index y).before args s = true ∧ (Cond.instanceMethod y).before args s = true ∧ (Cond.selects C y y).before args s = true
theorem vx_cwVW {own C : String} {index maxL mc ms : Nat} {y : MethodName} {bytes : ByteArray} {ret : Option FieldType} {hh : List (Nat × Nat × Nat × Nat)} {Ts ws ws' : List Cond} {rm : Room} (n : Nat) (ht : ∀ w ∈ Ts, w.before args s = true) (hT : GoodIn Ts (wsV own index C y ws)) (hw : ws = Cond.codeWith y bytes maxL ret hh :: ws') (hrc : rm.cells = mc) (hrs : rm.slots = ms)
    (hd : y.cls = C ∧ y.cls ≠ "java/lang/invoke/MethodHandle" ∧ y.cls ≠ "java/lang/invoke/VarHandle" ∧ (parseMethodDescriptor y.desc).map (fun d => d.parameters.length) = some n) (hR : rm.frames + 1 ≤ R.frames ∧ 8 + (maxL + 11) + rm.locals ≤ R.locals) :
    vx_CVW R s args own C index y bytes maxL ret hh ws rm mc ms n := by
  obtain ⟨hC, hd⟩ := hd
  subst hC
  have ok : ∀ w ∈ wsV own index y.cls y ws, w.before args s = true := fun w h => ht w (hT w h).1
  have hG : GoodIn Ts ws := fun w h => hT w (by unfold wsV; exact List.mem_append_right _ h)
  have hc : Cond.codeWith y bytes maxL ret hh ∈ ws := by rw [hw]; exact List.mem_cons_self
  refine ⟨⟨hrc, hrs, hR.1, hR.2, pay_in ht hG, hc⟩, ht _ (hG _ hc).1, ok _ (by simp [wsV]), ⟨hd.1, hd.2.1⟩, fun sig h => ?_, ok _ (by simp [wsV]), ok _ (by simp [wsV]), ok _ (by simp [wsV])⟩
  have h2 := hd.2.2
  rw [h] at h2
  exact (Option.some.inj h2).symm
theorem vx_runVW {y : MethodName} {bytes cc : ByteArray} {maxL nL mc ms n index : Nat} {ret : Option FieldType} {hh : List (Nat × Nat × Nat × Nat)} {ws : List Cond} {rm : Room} {Pc : Array Value → State → Prop} {Qc : Array Value → State → Outcome → State → Prop} {free : Addr → Prop} {Ts : List Cond} {own C : String} {b : Addr} {As rest : List Value} {g : JFrame}
    (S : CallFix p m c cc nL s args Ts own) (hM : Met l y ws rm Pc Qc mc ms free) (cw : vx_CVW R s args own C index y bytes maxL ret hh ws rm mc ms n) (hp : PreV s H C b Pc As)
    (hg : g.method = m) (hn : As.length = n) (hsize : g.locals.size = nL) (hstack : g.stack = As.reverse ++ .ref b :: rest) (hW : 2 * g.monitorRoom + (rest.map fun v => v.category).sum ≤ 8) (hdg : decode cc g.pc = .ok (.invokevirtual index, 3)) (hf : cells + mc ≤ R.cells ∧ slots + ms ≤ R.slots) :
    va_Run p l e R s m args below meth c H locs cells slots mc ms g rest (Qc (Value.ref b :: As).toArray) free := by
  obtain ⟨⟨hrc, hrs, hfr, hlo, hws, hcw⟩, hcode, hini, hy, hlen, hl, hin, hse⟩ := cw
  have hK : Back l R p e below s args y 3 8 (PreOf R mc ms Pc) (PostOf Qc mc ms free) := va_backW (hh := hh) (bytes := bytes) (maxL := maxL) (ret := ret) hM hp.1 hrc hrs hfr hlo hws hcw (fun a' U hW => word_at hW (Or.inl (by first | rfl | simp [Cond.onTables, Cond.keeps, Cond.steady])) hini)
  obtain ⟨hx, hb, hml, ho, -⟩ := S
  obtain ⟨-, ⟨cellB, hcB, hoB, hclB⟩, hPc⟩ := hp
  intro T hT X
  obtain ⟨v, vm₁, ⟨U', l2, c2, s2⟩, hW₁, X', ⟨g', mk, t, L, e1, e2, hq, h1, hL, h2, h3⟩, st⟩ := vx_callVW X hx (C := C) (hh := hh) (bytes := bytes) (maxL := maxL) (ret := ret) ho hl hin hse hcode hy hK (by rw [hT]; exact hcB) hoB hclB hg (hsize.trans hml.symm) (argsL := As) (rest := rest) (fun sig h => hn.trans (hlen sig h)) hstack hW (by rw [hb]; exact hdg)
    (fun vm₁ hW₁ => ⟨hf.1, hf.2, hPc (T.setVm vm₁) hT hW₁⟩)
  dsimp only [Pt.U, Pt.locs, Pt.cells, Pt.slots] at X' e1 e2 h1 h2 h3 st
  subst h1; subst h2; subst h3
  exact ⟨v, (T.setVm vm₁).calling g' mk (Value.ref b :: As).toArray, t, U', L, hT, X', hL, e1, e2, hq, st⟩
section
variable {y : MethodName} {bytes cc : ByteArray} {maxL nL mc ms n index : Nat} {ret : Option FieldType} {ws : List Cond} {rm : Room} {Pc : Array Value → State → Prop} {Qc : Array Value → State → Outcome → State → Prop} {XC : String → State → State → Prop} {free : Addr → Prop} {Ts : List Cond} {own C : String} {b : Addr} {As rest : List Value} {g : JFrame}
theorem vx_runVX {hh : List (Nat × Nat × Nat × Nat)} (S : CallFix p m c cc nL s args Ts own) (hM : vx_Met l y ws rm Pc Qc XC mc ms free) (cw : vx_CVW R s args own C index y bytes maxL ret hh ws rm mc ms n) (hp : PreV s H C b Pc As)
    (hg : g.method = m) (hn : As.length = n) (hsize : g.locals.size = nL) (hstack : g.stack = As.reverse ++ .ref b :: rest) (hW : 2 * g.monitorRoom + (rest.map fun v => v.category).sum ≤ 8) (hdg : decode cc g.pc = .ok (.invokevirtual index, 3)) (hf : cells + mc ≤ R.cells ∧ slots + ms ≤ R.slots) :
    vx_Run p l e R s m args below meth c H locs cells slots mc ms g rest (Qc (Value.ref b :: As).toArray) XC free := by
  obtain ⟨⟨hrc, hrs, hfr, hlo, hws, hcw⟩, hcode, hini, hy, hlen, hl, hin, hse⟩ := cw
  have hK : vx_Back l R p e below s args y 3 8 (PreOf R mc ms Pc) (PostOf Qc mc ms free) (vx_Post XC mc ms free) := vx_backW (hh := hh) (bytes := bytes) (maxL := maxL) (ret := ret) hM hp.1 hrc hrs hfr hlo hws hcw (fun a' U hW => word_at hW (Or.inl (by first | rfl | simp [Cond.onTables, Cond.keeps, Cond.steady])) hini)
  obtain ⟨hx, hb, hml, ho, -⟩ := S
  obtain ⟨-, ⟨cellB, hcB, hoB, hclB⟩, hPc⟩ := hp
  intro T hT X
  rcases vx_callVX X hx (C := C) (hh := hh) (bytes := bytes) (maxL := maxL) (ret := ret) ho hl hin hse hcode hy hK (by rw [hT]; exact hcB) hoB hclB hg (hsize.trans hml.symm) (argsL := As) (rest := rest) (fun sig h => hn.trans (hlen sig h)) hstack hW (by rw [hb]; exact hdg)
    (fun vm₁ hW₁ => ⟨hf.1, hf.2, hPc (T.setVm vm₁) hT hW₁⟩) with ⟨v, vm₁, ⟨U', l2, c2, s2⟩, hW₁, X', ⟨g', mk, t, L, e1, e2, hq, h1, hL, h2, h3⟩, st⟩ | ⟨q, vm₁, ⟨U', l2, c2, s2⟩, hW₁, X', ⟨g', mk, t, L, E, ce, e1, e2, hq, hce, hcv, hcl, h1, hL, h2, h3⟩, st⟩
  · dsimp only [Pt.U, Pt.locs, Pt.cells, Pt.slots] at X' e1 e2 h1 h2 h3 st
    subst h1; subst h2; subst h3
    exact Or.inl ⟨v, (T.setVm vm₁).calling g' mk (Value.ref b :: As).toArray, t, U', L, hT, X', hL, e1, e2, hq, st⟩
  · dsimp only [Pt.U, Pt.locs, Pt.cells, Pt.slots] at X' e1 e2 h1 h2 h3 st hcl
    subst h1; subst h2; subst h3
    exact Or.inr ⟨q, (T.setVm vm₁).calling g' mk (Value.ref b :: As).toArray, t, U', L, E, ce, hT, X', hL, e1, e2, hq, hce, hcv, vx_cls hW₁ hcl, st⟩
theorem vx_runSX {hh : List (Nat × Nat × Nat × Nat)} (S : CallFix p m c cc nL s args Ts own) (hM : vx_Met l y ws rm Pc Qc XC mc ms free) (cw : vx_CSW R s args own index y bytes maxL ret hh ws rm mc ms n) (hp : PreS s H Pc As)
    (hg : g.method = m) (hn : As.length = n) (hsize : g.locals.size = nL) (hstack : g.stack = As.reverse ++ rest) (hW : 2 * g.monitorRoom + (rest.map fun v => v.category).sum ≤ 8) (hdg : decode cc g.pc = .ok (.invokestatic index, 3)) (hf : cells + mc ≤ R.cells ∧ slots + ms ≤ R.slots) :
    vx_Run p l e R s m args below meth c H locs cells slots mc ms g rest (Qc As.toArray) XC free := by
  obtain ⟨⟨hrc, hrs, hfr, hlo, hws, hcw⟩, hcode, hini, hy, hlen, hl, hstt⟩ := cw
  have hK : vx_Back l R p e below s args y 3 8 (PreOf R mc ms Pc) (PostOf Qc mc ms free) (vx_Post XC mc ms free) := vx_backW (hh := hh) (bytes := bytes) (maxL := maxL) (ret := ret) hM hp.1 hrc hrs hfr hlo hws hcw (fun a' U hW => word_at hW (Or.inl (by first | rfl | simp [Cond.onTables, Cond.keeps, Cond.steady])) hini)
  obtain ⟨hx, hb, hml, ho, -⟩ := S
  intro T hT X
  rcases vx_callSX X hx (hh := hh) (bytes := bytes) (maxL := maxL) (ret := ret) ho hl hstt hini hcode hy hK hg (hsize.trans hml.symm) (argsL := As) (rest := rest) (fun sig h => hn.trans (hlen sig h)) hstack hW (by rw [hb]; exact hdg)
    (fun vm₁ hW₁ => ⟨hf.1, hf.2, hp.2 (T.setVm vm₁) hT hW₁⟩) with ⟨v, vm₁, ⟨U', l2, c2, s2⟩, hW₁, X', ⟨g', mk, t, L, e1, e2, hq, h1, hL, h2, h3⟩, st⟩ | ⟨q, vm₁, ⟨U', l2, c2, s2⟩, hW₁, X', ⟨g', mk, t, L, E, ce, e1, e2, hq, hce, hcv, hcl, h1, hL, h2, h3⟩, st⟩
  · dsimp only [Pt.U, Pt.locs, Pt.cells, Pt.slots] at X' e1 e2 h1 h2 h3 st
    subst h1; subst h2; subst h3
    exact Or.inl ⟨v, (T.setVm vm₁).calling g' mk As.toArray, t, U', L, hT, X', hL, e1, e2, hq, st⟩
  · dsimp only [Pt.U, Pt.locs, Pt.cells, Pt.slots] at X' e1 e2 h1 h2 h3 st hcl
    subst h1; subst h2; subst h3
    exact Or.inr ⟨q, (T.setVm vm₁).calling g' mk As.toArray, t, U', L, E, ce, hT, X', hL, e1, e2, hq, hce, hcv, vx_cls hW₁ hcl, st⟩
end
end VXH
theorem vx_ofWH {l : Launch} {y : MethodName} {ws ws' : List Cond} {rm : Room} {Pc : Array Value → State → Prop} {Qc : Array Value → State → Outcome → State → Prop} {XC : String → State → State → Prop} {mc ms : Nat} {free : Addr → Prop} {cc : ByteArray} {maxL : Nat} {ret : Option FieldType} {hh : List (Nat × Nat × Nat × Nat)}
    (hy : plainName y.cls = true) (hw : ws = Cond.codeWith y cc maxL ret hh :: ws')
    (body : ∀ p e s m args below meth c s₁, BodyLoose p l y (headSpec ws rm) cc maxL ret e s m args below meth c s₁ → c.maxLocals = maxL → Pc args s →
      W p l e (headSpec ws rm).room s m args below meth c s.heap [] 0 0 (vx_MQ below Qc XC args s mc ms free) (entryFrame m args maxL)) : vx_Met l y ws rm Pc Qc XC mc ms free := by
  refine MetFree.of_bodyS (code := cc) (maxLocals := maxL) (ret := ret) hy ?_ ?_
  · intro args s m h hn
    obtain ⟨m9, meth, c, hn9, h1, h2, h3, h4, -, h5, h6, -⟩ := Cond.codeWith_spec (atoms_spec (ws := ws) h _ (by rw [hw]; exact List.mem_cons_self))
    cases hn.symm.trans hn9
    exact ⟨meth, c, h1, h2, h3, h4, h5, h6⟩
  · intro p e s m args below meth c s₁ B hml hP _
    have hh0 : s₁.heap = s.heap := by rw [B.state]; rfl
    obtain ⟨t, a1, o, b1, b2, b3⟩ := body p e s m args below meth c s₁ B hml hP s₁ hh0 (Stand.of_body B)
    exact ⟨t, o, a1, b1, b2, b3⟩
/-! ===== END ===== -/
end
section
/-! ===== BEGIN printed: names, fields, word lists, decode rows ===== -/
def RX0 : String := "CrochetRounds$History"
def TX0 : u_T := fun k => match k with
  | 0 => ("CrochetRounds$History", "slots", "[LCrochetRounds$Piece;", true)
  | 1 => ("CrochetRounds$History", "next", "I", false)
  | _ => ("CrochetRounds$History", "size", "I", false)
def tyX0 : Nat → FieldType := fun k => match k with
  | 0 => .array (.object "CrochetRounds$Piece")
  | 1 => .int
  | _ => .int
abbrev wsX00 : List Cond := u_ws RX0 TX0 3
theorem nmX0 : ∀ a, a < 3 → ∀ b, b < 3 → a ≠ b → (TX0 a).2.1 ≠ (TX0 b).2.1 := by decide +kernel
theorem tyX0_ok : ∀ k, k < 3 → parseFieldDescriptor (TX0 k).2.2.1 = some (tyX0 k) := by decide +kernel
abbrev cX0_init : ByteArray := prog_2_method_1_code
def yX0_init : MethodName := ⟨RX0, "<init>", "()V"⟩
abbrev cX0_keep : ByteArray := prog_2_method_2_code
def yX0_keep : MethodName := ⟨RX0, "keep", "(LCrochetRounds$Piece;)V"⟩
abbrev cX0_slotAt : ByteArray := prog_2_method_4_code
def yX0_slotAt : MethodName := ⟨RX0, "slotAt", "(I)LCrochetRounds$Piece;"⟩
def RX1 : String := "CrochetRounds$Makers"
def TX1 : u_T := fun k => match k with
  | _ => ("CrochetRounds$Makers", "kinds", "LCrochetRounds$Numbers;", true)
def tyX1 : Nat → FieldType := fun k => match k with
  | _ => .object "CrochetRounds$Numbers"
abbrev wsX10 : List Cond := u_ws RX1 TX1 1
theorem nmX1 : ∀ a, a < 1 → ∀ b, b < 1 → a ≠ b → (TX1 a).2.1 ≠ (TX1 b).2.1 := by decide +kernel
theorem tyX1_ok : ∀ k, k < 1 → parseFieldDescriptor (TX1 k).2.2.1 = some (tyX1 k) := by decide +kernel
abbrev cX1_init : ByteArray := prog_3_method_1_code
def yX1_init : MethodName := ⟨RX1, "<init>", "()V"⟩
abbrev cX1_load : ByteArray := prog_3_method_2_code
def yX1_load : MethodName := ⟨RX1, "load", "(LCrochetRounds$Piece;I)V"⟩
abbrev cX1_stackedIn : ByteArray := prog_3_method_3_code
def yX1_stackedIn : MethodName := ⟨RX1, "stackedIn", "(LCrochetRounds$Numbers;III)I"⟩
abbrev cX1_bestShift : ByteArray := prog_3_method_4_code
def yX1_bestShift : MethodName := ⟨RX1, "bestShift", "(LCrochetRounds$Plan;)I"⟩
def RX2 : String := "CrochetRounds$Numbers"
def TX2 : u_T := fun k => match k with
  | _ => ("CrochetRounds$Numbers", "held", "[I", true)
def tyX2 : Nat → FieldType := fun k => match k with
  | _ => .array .int
abbrev wsX20 : List Cond := u_ws RX2 TX2 1
theorem nmX2 : ∀ a, a < 1 → ∀ b, b < 1 → a ≠ b → (TX2 a).2.1 ≠ (TX2 b).2.1 := by decide +kernel
theorem tyX2_ok : ∀ k, k < 1 → parseFieldDescriptor (TX2 k).2.2.1 = some (tyX2 k) := by decide +kernel
abbrev cX2_init : ByteArray := prog_4_method_1_code
def yX2_init : MethodName := ⟨RX2, "<init>", "(I)V"⟩
abbrev cX2_at : ByteArray := prog_4_method_2_code
def yX2_at : MethodName := ⟨RX2, "at", "(I)I"⟩
abbrev cX2_put : ByteArray := prog_4_method_3_code
def yX2_put : MethodName := ⟨RX2, "put", "(II)V"⟩
abbrev cX2_take : ByteArray := prog_4_method_4_code
def yX2_take : MethodName := ⟨RX2, "take", "(LCrochetRounds$Numbers;II)V"⟩
def RX3 : String := "CrochetRounds$Pattern"
def TX3 : u_T := fun k => match k with
  | 0 => ("CrochetRounds$Pattern", "bytes", "LCrochetRounds$Numbers;", true)
  | 1 => ("CrochetRounds$Pattern", "itemKinds", "LCrochetRounds$Numbers;", true)
  | 2 => ("CrochetRounds$Pattern", "itemCounts", "LCrochetRounds$Numbers;", true)
  | 3 => ("CrochetRounds$Pattern", "length", "I", false)
  | 4 => ("CrochetRounds$Pattern", "items", "I", false)
  | 5 => ("CrochetRounds$Pattern", "times", "I", false)
  | 6 => ("CrochetRounds$Pattern", "used", "I", false)
  | 7 => ("CrochetRounds$Pattern", "made", "I", false)
  | 8 => ("CrochetRounds$Pattern", "position", "I", false)
  | _ => ("CrochetRounds$Pattern", "error", "I", false)
def tyX3 : Nat → FieldType := fun k => match k with
  | 0 => .object "CrochetRounds$Numbers"
  | 1 => .object "CrochetRounds$Numbers"
  | 2 => .object "CrochetRounds$Numbers"
  | 3 => .int
  | 4 => .int
  | 5 => .int
  | 6 => .int
  | 7 => .int
  | 8 => .int
  | _ => .int
abbrev wsX30 : List Cond := u_ws RX3 TX3 10
theorem nmX3 : ∀ a, a < 10 → ∀ b, b < 10 → a ≠ b → (TX3 a).2.1 ≠ (TX3 b).2.1 := by decide +kernel
theorem tyX3_ok : ∀ k, k < 10 → parseFieldDescriptor (TX3 k).2.2.1 = some (tyX3 k) := by decide +kernel
abbrev cX3_init : ByteArray := prog_5_method_1_code
def yX3_init : MethodName := ⟨RX3, "<init>", "()V"⟩
def RX4 : String := "CrochetRounds$Piece"
def TX4 : u_T := fun k => match k with
  | 0 => ("CrochetRounds$Piece", "kinds", "LCrochetRounds$Numbers;", true)
  | 1 => ("CrochetRounds$Piece", "works", "LCrochetRounds$Numbers;", true)
  | 2 => ("CrochetRounds$Piece", "totals", "LCrochetRounds$Numbers;", true)
  | 3 => ("CrochetRounds$Piece", "yarn", "LCrochetRounds$Numbers;", true)
  | 4 => ("CrochetRounds$Piece", "rounds", "I", false)
  | _ => ("CrochetRounds$Piece", "spiral", "Z", false)
def tyX4 : Nat → FieldType := fun k => match k with
  | 0 => .object "CrochetRounds$Numbers"
  | 1 => .object "CrochetRounds$Numbers"
  | 2 => .object "CrochetRounds$Numbers"
  | 3 => .object "CrochetRounds$Numbers"
  | 4 => .int
  | _ => .boolean
abbrev wsX40 : List Cond := u_ws RX4 TX4 6
theorem nmX4 : ∀ a, a < 6 → ∀ b, b < 6 → a ≠ b → (TX4 a).2.1 ≠ (TX4 b).2.1 := by decide +kernel
theorem tyX4_ok : ∀ k, k < 6 → parseFieldDescriptor (TX4 k).2.2.1 = some (tyX4 k) := by decide +kernel
abbrev cX4_init : ByteArray := prog_6_method_1_code
def yX4_init : MethodName := ⟨RX4, "<init>", "()V"⟩
abbrev cX4_takeOver : ByteArray := prog_6_method_2_code
def yX4_takeOver : MethodName := ⟨RX4, "takeOver", "(LCrochetRounds$Piece;)V"⟩
abbrev cX4_startRing : ByteArray := prog_6_method_3_code
def yX4_startRing : MethodName := ⟨RX4, "startRing", "(I)V"⟩
abbrev cX4_openRound : ByteArray := prog_6_method_4_code
def yX4_openRound : MethodName := ⟨RX4, "openRound", "()V"⟩
abbrev cX4_addWork : ByteArray := prog_6_method_5_code
def yX4_addWork : MethodName := ⟨RX4, "addWork", "(I)V"⟩
abbrev cX4_closeRound : ByteArray := prog_6_method_6_code
def yX4_closeRound : MethodName := ⟨RX4, "closeRound", "()V"⟩
abbrev cX4_lastTotal : ByteArray := prog_6_method_7_code
def yX4_lastTotal : MethodName := ⟨RX4, "lastTotal", "()I"⟩
abbrev cX4_kindOf : ByteArray := prog_6_method_8_code
def yX4_kindOf : MethodName := ⟨RX4, "kindOf", "(II)I"⟩
abbrev cX4_countOf : ByteArray := prog_6_method_12_code
def yX4_countOf : MethodName := ⟨RX4, "countOf", "(II)I"⟩
abbrev cX4_yarnOf : ByteArray := prog_6_method_13_code
def yX4_yarnOf : MethodName := ⟨RX4, "yarnOf", "(I)I"⟩
abbrev cX4_isMirrored : ByteArray := prog_6_method_14_code
def yX4_isMirrored : MethodName := ⟨RX4, "isMirrored", "(I)Z"⟩
abbrev cX4_distance : ByteArray := prog_6_method_15_code
def yX4_distance : MethodName := ⟨RX4, "distance", "(IZ)I"⟩
abbrev cX4_further : ByteArray := prog_6_method_16_code
def yX4_further : MethodName := ⟨RX4, "further", "(IIZ)I"⟩
abbrev cX4_widest : ByteArray := prog_6_method_17_code
def yX4_widest : MethodName := ⟨RX4, "widest", "()I"⟩
def RX5 : String := "CrochetRounds$Plan"
def TX5 : u_T := fun k => match k with
  | 0 => ("CrochetRounds$Plan", "row", "LCrochetRounds$Numbers;", true)
  | 1 => ("CrochetRounds$Plan", "works", "I", false)
  | 2 => ("CrochetRounds$Plan", "shaped", "I", false)
  | _ => ("CrochetRounds$Plan", "kind", "I", false)
def tyX5 : Nat → FieldType := fun k => match k with
  | 0 => .object "CrochetRounds$Numbers"
  | 1 => .int
  | 2 => .int
  | _ => .int
abbrev wsX50 : List Cond := u_ws RX5 TX5 4
theorem nmX5 : ∀ a, a < 4 → ∀ b, b < 4 → a ≠ b → (TX5 a).2.1 ≠ (TX5 b).2.1 := by decide +kernel
theorem tyX5_ok : ∀ k, k < 4 → parseFieldDescriptor (TX5 k).2.2.1 = some (tyX5 k) := by decide +kernel
abbrev cX5_init : ByteArray := prog_7_method_1_code
def yX5_init : MethodName := ⟨RX5, "<init>", "()V"⟩
abbrev cX5_spread : ByteArray := prog_7_method_2_code
def yX5_spread : MethodName := ⟨RX5, "spread", "(II)Z"⟩
abbrev cX5_mirror : ByteArray := prog_7_method_3_code
def yX5_mirror : MethodName := ⟨RX5, "mirror", "(II)Z"⟩
abbrev cX5_measure : ByteArray := prog_7_method_4_code
def yX5_measure : MethodName := ⟨RX5, "measure", "(II)Z"⟩
abbrev cX5_spreadKind : ByteArray := prog_7_method_5_code
def yX5_spreadKind : MethodName := ⟨RX5, "spreadKind", "(III)I"⟩
def RX6 : String := "CrochetRounds"
def TX6 : u_T := fun k => match k with
  | 0 => ("CrochetRounds", "piece", "LCrochetRounds$Piece;", true)
  | 1 => ("CrochetRounds", "history", "LCrochetRounds$History;", true)
  | 2 => ("CrochetRounds", "pattern", "LCrochetRounds$Pattern;", true)
  | 3 => ("CrochetRounds", "plan", "LCrochetRounds$Plan;", true)
  | _ => ("CrochetRounds", "makers", "LCrochetRounds$Makers;", true)
def tyX6 : Nat → FieldType := fun k => match k with
  | 0 => .object "CrochetRounds$Piece"
  | 1 => .object "CrochetRounds$History"
  | 2 => .object "CrochetRounds$Pattern"
  | 3 => .object "CrochetRounds$Plan"
  | _ => .object "CrochetRounds$Makers"
abbrev wsX60 : List Cond := u_ws RX6 TX6 5
theorem nmX6 : ∀ a, a < 5 → ∀ b, b < 5 → a ≠ b → (TX6 a).2.1 ≠ (TX6 b).2.1 := by decide +kernel
theorem tyX6_ok : ∀ k, k < 5 → parseFieldDescriptor (TX6 k).2.2.1 = some (tyX6 k) := by decide +kernel
abbrev cX6_init : ByteArray := prog_1_method_1_code
def yX6_init : MethodName := ⟨RX6, "<init>", "()V"⟩
abbrev cX6_begin : ByteArray := prog_1_method_2_code
def yX6_begin : MethodName := ⟨RX6, "begin", "(I)I"⟩
abbrev cX6_addRound : ByteArray := prog_1_method_3_code
def yX6_addRound : MethodName := ⟨RX6, "addRound", "(I)I"⟩
abbrev cX6_addShifted : ByteArray := prog_1_method_4_code
def yX6_addShifted : MethodName := ⟨RX6, "addShifted", "(II)I"⟩
abbrev cX6_addMirrored : ByteArray := prog_1_method_5_code
def yX6_addMirrored : MethodName := ⟨RX6, "addMirrored", "(I)I"⟩
abbrev cX6_addShape : ByteArray := prog_1_method_6_code
def yX6_addShape : MethodName := ⟨RX6, "addShape", "(III)I"⟩
abbrev cX6_rip : ByteArray := prog_1_method_7_code
def yX6_rip : MethodName := ⟨RX6, "rip", "(I)I"⟩
abbrev cX6_setYarn : ByteArray := prog_1_method_8_code
def yX6_setYarn : MethodName := ⟨RX6, "setYarn", "(II)I"⟩
abbrev cX6_setSpiral : ByteArray := prog_1_method_9_code
def yX6_setSpiral : MethodName := ⟨RX6, "setSpiral", "(Z)Z"⟩
abbrev cX6_round : ByteArray := prog_1_method_10_code
def yX6_round : MethodName := ⟨RX6, "round", "(II)I"⟩
abbrev cX6_work : ByteArray := prog_1_method_11_code
def yX6_work : MethodName := ⟨RX6, "work", "(II)I"⟩
abbrev cX6_value : ByteArray := prog_1_method_17_code
def yX6_value : MethodName := ⟨RX6, "value", "(I)I"⟩
abbrev cX6_checkArgument : ByteArray := prog_1_method_29_code
def yX6_checkArgument : MethodName := ⟨RX6, "checkArgument", "(Z)V"⟩
abbrev cX6_checkState : ByteArray := prog_1_method_30_code
def yX6_checkState : MethodName := ⟨RX6, "checkState", "(Z)V"⟩
abbrev cX6_checkRoom : ByteArray := prog_1_method_31_code
def yX6_checkRoom : MethodName := ⟨RX6, "checkRoom", "()V"⟩
abbrev cX6_checkPossible : ByteArray := prog_1_method_32_code
def yX6_checkPossible : MethodName := ⟨RX6, "checkPossible", "(Z)V"⟩
abbrev cX6_checkIndex : ByteArray := prog_1_method_33_code
def yX6_checkIndex : MethodName := ⟨RX6, "checkIndex", "(II)V"⟩
abbrev cX6_isGoal : ByteArray := prog_1_method_35_code
def yX6_isGoal : MethodName := ⟨RX6, "isGoal", "(I)Z"⟩
abbrev cX6_isShift : ByteArray := prog_1_method_36_code
def yX6_isShift : MethodName := ⟨RX6, "isShift", "(I)Z"⟩
abbrev cX6_isShape : ByteArray := prog_1_method_37_code
def yX6_isShape : MethodName := ⟨RX6, "isShape", "(I)Z"⟩
abbrev cX6_isSize : ByteArray := prog_1_method_38_code
def yX6_isSize : MethodName := ⟨RX6, "isSize", "(I)Z"⟩
abbrev cX6_addBest : ByteArray := prog_1_method_39_code
def yX6_addBest : MethodName := ⟨RX6, "addBest", "()I"⟩
abbrev cX6_addPlanned : ByteArray := prog_1_method_40_code
def yX6_addPlanned : MethodName := ⟨RX6, "addPlanned", "(I)I"⟩
abbrev cX6_addRow : ByteArray := prog_1_method_41_code
def yX6_addRow : MethodName := ⟨RX6, "addRow", "(I)V"⟩
abbrev cX6_ofRound : ByteArray := prog_1_method_43_code
def yX6_ofRound : MethodName := ⟨RX6, "ofRound", "(II)I"⟩
abbrev cX6_stackedOf : ByteArray := prog_1_method_44_code
def yX6_stackedOf : MethodName := ⟨RX6, "stackedOf", "(I)I"⟩
abbrev cX6_sumOverRounds : ByteArray := prog_1_method_45_code
def yX6_sumOverRounds : MethodName := ⟨RX6, "sumOverRounds", "(I)I"⟩
abbrev cX6_shapeGoal : ByteArray := prog_1_method_46_code
def yX6_shapeGoal : MethodName := ⟨RX6, "shapeGoal", "(III)I"⟩
abbrev cX6_rawGoal : ByteArray := prog_1_method_47_code
def yX6_rawGoal : MethodName := ⟨RX6, "rawGoal", "(IIII)I"⟩
abbrev cX6_doubled : ByteArray := prog_1_method_48_code
def yX6_doubled : MethodName := ⟨RX6, "doubled", "(II)I"⟩
abbrev cX6_usedBy : ByteArray := prog_1_method_54_code
def yX6_usedBy : MethodName := ⟨RX6, "usedBy", "(I)I"⟩
abbrev cX6_madeBy : ByteArray := prog_1_method_55_code
def yX6_madeBy : MethodName := ⟨RX6, "madeBy", "(I)I"⟩
def RX7 : String := "CrochetRoundsModel"
def TX7 : u_T := fun k => match k with
  | _ => ("", "", "", false)
def tyX7 : Nat → FieldType := fun k => match k with
  | _ => .int
abbrev wsX70 : List Cond := u_ws RX7 TX7 0
theorem nmX7 : ∀ a, a < 0 → ∀ b, b < 0 → a ≠ b → (TX7 a).2.1 ≠ (TX7 b).2.1 := by decide +kernel
theorem tyX7_ok : ∀ k, k < 0 → parseFieldDescriptor (TX7 k).2.2.1 = some (tyX7 k) := by decide +kernel
def RJ9 : String := "java/lang/Math"
def TJ9 : u_T := fun k => match k with
  | _ => ("", "", "", false)
def tyJ9 : Nat → FieldType := fun k => match k with
  | _ => .int
abbrev wsJ90 : List Cond := u_ws RJ9 TJ9 0
theorem nmJ9 : ∀ a, a < 0 → ∀ b, b < 0 → a ≠ b → (TJ9 a).2.1 ≠ (TJ9 b).2.1 := by decide +kernel
theorem tyJ9_ok : ∀ k, k < 0 → parseFieldDescriptor (TJ9 k).2.2.1 = some (tyJ9 k) := by decide +kernel
abbrev cJ9_max_7cf53 : ByteArray := prog_14_method_65_code
def yJ9_max_7cf53 : MethodName := ⟨RJ9, "max", "(II)I"⟩
abbrev cJ9_min_7cf53 : ByteArray := prog_14_method_69_code
def yJ9_min_7cf53 : MethodName := ⟨RJ9, "min", "(II)I"⟩
def RJ0 : String := "java/lang/String"
def TJ0 : u_T := fun k => match k with
  | _ => ("", "", "", false)
def tyJ0 : Nat → FieldType := fun k => match k with
  | _ => .int
abbrev wsJ00 : List Cond := u_ws RJ0 TJ0 0
theorem nmJ0 : ∀ a, a < 0 → ∀ b, b < 0 → a ≠ b → (TJ0 a).2.1 ≠ (TJ0 b).2.1 := by decide +kernel
theorem tyJ0_ok : ∀ k, k < 0 → parseFieldDescriptor (TJ0 k).2.2.1 = some (tyJ0 k) := by decide +kernel
def RL : String := "CrochetRoundsLaw"
abbrev cL_cell : ByteArray := method_2_code
def yL_cell : MethodName := ⟨RL, "cell", "([II)I"⟩
abbrev cL_low : ByteArray := method_3_code
def yL_low : MethodName := ⟨RL, "low", "(II)I"⟩
abbrev cL_begins : ByteArray := method_4_code
def yL_begins : MethodName := ⟨RL, "begins", "(LCrochetRounds;I)I"⟩
abbrev cL_adds : ByteArray := method_5_code
def yL_adds : MethodName := ⟨RL, "adds", "(LCrochetRounds;I)I"⟩
abbrev cL_shifts : ByteArray := method_6_code
def yL_shifts : MethodName := ⟨RL, "shifts", "(LCrochetRounds;II)I"⟩
abbrev cL_mirrors : ByteArray := method_7_code
def yL_mirrors : MethodName := ⟨RL, "mirrors", "(LCrochetRounds;I)I"⟩
abbrev cL_shapes : ByteArray := method_8_code
def yL_shapes : MethodName := ⟨RL, "shapes", "(LCrochetRounds;III)I"⟩
abbrev cL_rips : ByteArray := method_9_code
def yL_rips : MethodName := ⟨RL, "rips", "(LCrochetRounds;I)I"⟩
abbrev cL_yarns : ByteArray := method_10_code
def yL_yarns : MethodName := ⟨RL, "yarns", "(LCrochetRounds;II)I"⟩
abbrev cL_kind : ByteArray := method_11_code
def yL_kind : MethodName := ⟨RL, "kind", "([JII)I"⟩
abbrev cL_total : ByteArray := method_12_code
def yL_total : MethodName := ⟨RL, "total", "([I[JI)I"⟩
abbrev cL_isMade : ByteArray := method_13_code
def yL_isMade : MethodName := ⟨RL, "isMade", "([I[JIII)Z"⟩
abbrev cL_stacked : ByteArray := method_14_code
def yL_stacked : MethodName := ⟨RL, "stacked", "([I[JI)I"⟩
abbrev cL_canBe : ByteArray := method_15_code
def yL_canBe : MethodName := ⟨RL, "canBe", "(II)Z"⟩
abbrev cL_lays : ByteArray := method_16_code
def yL_lays : MethodName := ⟨RL, "lays", "([I[I[JII)V"⟩
abbrev cL_best : ByteArray := method_17_code
def yL_best : MethodName := ⟨RL, "best", "([I[I[JI)I"⟩
abbrev cL_goal : ByteArray := method_18_code
def yL_goal : MethodName := ⟨RL, "goal", "([IIII)I"⟩
abbrev cL_acts : ByteArray := method_19_code
def yL_acts : MethodName := ⟨RL, "acts", "(LCrochetRounds;[I[I[JI)Z"⟩
abbrev cL_roundOf : ByteArray := method_20_code
def yL_roundOf : MethodName := ⟨RL, "roundOf", "(LCrochetRounds;II)I"⟩
abbrev cL_workOf : ByteArray := method_21_code
def yL_workOf : MethodName := ⟨RL, "workOf", "(LCrochetRounds;II)I"⟩
abbrev cL_valueOf : ByteArray := method_22_code
def yL_valueOf : MethodName := ⟨RL, "valueOf", "(LCrochetRounds;I)I"⟩
abbrev cL_isRound : ByteArray := method_23_code
def yL_isRound : MethodName := ⟨RL, "isRound", "(LCrochetRounds;[I[I[JI)Z"⟩
abbrev cL_isSo : ByteArray := method_24_code
def yL_isSo : MethodName := ⟨RL, "isSo", "(LCrochetRounds;[I[I[J)Z"⟩
abbrev cL_law : ByteArray := code
def yL_law : MethodName := ⟨RL, "law", "([I)Z"⟩
def wsX2_init : List Cond := .code yX2_init cX2_init 2 none :: ([.methodLink RX2 1 objectInit, .instanceMethod objectInit, .code objectInit ⟨#[0xb1]⟩ 1 none, .arrayClass .int, .fieldLink RX2 7 "CrochetRounds$Numbers" "held" "[I"] ++ wsX20)
def wsX4_init : List Cond := .code yX4_init cX4_init 1 none :: ([.methodLink RX4 3 objectInit, .instanceMethod objectInit, .code objectInit ⟨#[0xb1]⟩ 1 none, .classLink RX4 9 RX2, .instantiable RX2 1, .initialized RX2, .fieldLink RX4 14 "CrochetRounds$Piece" "kinds" "LCrochetRounds$Numbers;", .fieldLink RX4 20 "CrochetRounds$Piece" "works" "LCrochetRounds$Numbers;", .fieldLink RX4 23 "CrochetRounds$Piece" "totals" "LCrochetRounds$Numbers;", .fieldLink RX4 26 "CrochetRounds$Piece" "yarn" "LCrochetRounds$Numbers;", .methodLink RX4 11 yX2_init, .instanceMethod yX2_init, .code yX2_init cX2_init 2 none, .methodLink RX2 1 objectInit, .arrayClass .int, .fieldLink RX2 7 "CrochetRounds$Numbers" "held" "[I"] ++ wsX20 ++ wsX40)
def wsX0_init : List Cond := .code yX0_init cX0_init 2 none :: ([.methodLink RX0 3 objectInit, .instanceMethod objectInit, .code objectInit ⟨#[0xb1]⟩ 1 none, .classLink RX0 9 RX4, .fieldLink RX0 11 "CrochetRounds$History" "slots" "[LCrochetRounds$Piece;", .instantiable RX4 6, .initialized RX4, .instanceMethod yX4_init, .code yX4_init cX4_init 1 none, .methodLink RX4 3 objectInit, .classLink RX4 9 RX2, .instantiable RX2 1, .initialized RX2, .fieldLink RX4 14 "CrochetRounds$Piece" "kinds" "LCrochetRounds$Numbers;", .fieldLink RX4 20 "CrochetRounds$Piece" "works" "LCrochetRounds$Numbers;", .fieldLink RX4 23 "CrochetRounds$Piece" "totals" "LCrochetRounds$Numbers;", .fieldLink RX4 26 "CrochetRounds$Piece" "yarn" "LCrochetRounds$Numbers;", .methodLink RX4 11 yX2_init, .instanceMethod yX2_init, .code yX2_init cX2_init 2 none, .methodLink RX2 1 objectInit, .arrayClass .int, .fieldLink RX2 7 "CrochetRounds$Numbers" "held" "[I"] ++ wsX00 ++ wsX40 ++ wsX20)
def wsX0_slotAt : List Cond := .code yX0_slotAt cX0_slotAt 2 (some (.object "CrochetRounds$Piece")) :: ([.fieldLink RX0 11 "CrochetRounds$History" "slots" "[LCrochetRounds$Piece;"] ++ wsX00)
def wsX2_at : List Cond := .code yX2_at cX2_at 2 (some .int) :: ([.fieldLink RX2 7 "CrochetRounds$Numbers" "held" "[I"] ++ wsX20)
def wsX2_put : List Cond := .code yX2_put cX2_put 3 none :: ([.fieldLink RX2 7 "CrochetRounds$Numbers" "held" "[I"] ++ wsX20)
def wsX2_take : List Cond := .code yX2_take cX2_take 5 none :: ([.methodLink RX2 13 yX2_at, .instanceMethod yX2_at, .selects RX2 yX2_at yX2_at, .initialized RX2, .code yX2_at cX2_at 2 (some .int), .fieldLink RX2 7 "CrochetRounds$Numbers" "held" "[I", .methodLink RX2 17 yX2_put, .instanceMethod yX2_put, .selects RX2 yX2_put yX2_put, .code yX2_put cX2_put 3 none] ++ wsX20)
def wsX4_takeOver : List Cond := .code yX4_takeOver cX4_takeOver 3 none :: ([.fieldLink RX4 29 "CrochetRounds$Piece" "rounds" "I", .fieldLink RX4 33 "CrochetRounds$Piece" "spiral" "Z", .fieldLink RX4 20 "CrochetRounds$Piece" "works" "LCrochetRounds$Numbers;", .fieldLink RX4 23 "CrochetRounds$Piece" "totals" "LCrochetRounds$Numbers;", .fieldLink RX4 26 "CrochetRounds$Piece" "yarn" "LCrochetRounds$Numbers;", .fieldLink RX4 14 "CrochetRounds$Piece" "kinds" "LCrochetRounds$Numbers;", .methodLink RX4 37 yX2_take, .instanceMethod yX2_take, .selects RX2 yX2_take yX2_take, .initialized RX2, .code yX2_take cX2_take 5 none, .methodLink RX2 13 yX2_at, .instanceMethod yX2_at, .selects RX2 yX2_at yX2_at, .code yX2_at cX2_at 2 (some .int), .fieldLink RX2 7 "CrochetRounds$Numbers" "held" "[I", .methodLink RX2 17 yX2_put, .instanceMethod yX2_put, .selects RX2 yX2_put yX2_put, .code yX2_put cX2_put 3 none, .methodLink RX4 41 yX2_at] ++ wsX40 ++ wsX20)
def wsX0_keep_r1 : List Cond := [Cond.fieldLink RX0 18 "CrochetRounds$History" "next" "I", Cond.fieldLink RX0 30 "CrochetRounds$History" "size" "I", Cond.methodLink RX0 33 Lib.Math.min.name, Cond.static Lib.Math.min.name, Cond.initialized "java/lang/Math", Cond.code Lib.Math.min.name Lib.Math.min.code 2 (some .int), Cond.methodLink RX0 22 yX0_slotAt, Cond.instanceMethod yX0_slotAt, Cond.selects RX0 yX0_slotAt yX0_slotAt, Cond.initialized RX0, Cond.code yX0_slotAt cX0_slotAt 2 (some (.object "CrochetRounds$Piece")), Cond.fieldLink RX0 11 "CrochetRounds$History" "slots" "[LCrochetRounds$Piece;", Cond.methodLink RX0 26 yX4_takeOver, Cond.instanceMethod yX4_takeOver, Cond.selects RX4 yX4_takeOver yX4_takeOver, Cond.initialized RX4, Cond.code yX4_takeOver cX4_takeOver 3 none, Cond.fieldLink RX4 29 "CrochetRounds$Piece" "rounds" "I", Cond.fieldLink RX4 33 "CrochetRounds$Piece" "spiral" "Z", Cond.fieldLink RX4 20 "CrochetRounds$Piece" "works" "LCrochetRounds$Numbers;", Cond.fieldLink RX4 23 "CrochetRounds$Piece" "totals" "LCrochetRounds$Numbers;", Cond.fieldLink RX4 26 "CrochetRounds$Piece" "yarn" "LCrochetRounds$Numbers;", Cond.fieldLink RX4 14 "CrochetRounds$Piece" "kinds" "LCrochetRounds$Numbers;", Cond.methodLink RX4 37 yX2_take]
def wsX0_keep_r2 : List Cond := [Cond.instanceMethod yX2_take, Cond.selects RX2 yX2_take yX2_take, Cond.initialized RX2, Cond.code yX2_take cX2_take 5 none, Cond.methodLink RX2 13 yX2_at, Cond.instanceMethod yX2_at, Cond.selects RX2 yX2_at yX2_at, Cond.code yX2_at cX2_at 2 (some .int), Cond.fieldLink RX2 7 "CrochetRounds$Numbers" "held" "[I", Cond.methodLink RX2 17 yX2_put, Cond.instanceMethod yX2_put, Cond.selects RX2 yX2_put yX2_put, Cond.code yX2_put cX2_put 3 none, Cond.methodLink RX4 41 yX2_at]
def wsX0_keep : List Cond := .code yX0_keep cX0_keep 3 none :: ((wsX0_keep_r1 ++ wsX0_keep_r2) ++ wsX00 ++ wsX40 ++ wsX20)
def wsX1_init : List Cond := .code yX1_init cX1_init 1 none :: ([.methodLink RX1 3 objectInit, .instanceMethod objectInit, .code objectInit ⟨#[0xb1]⟩ 1 none, .classLink RX1 9 RX2, .instantiable RX2 1, .initialized RX2, .fieldLink RX1 14 "CrochetRounds$Makers" "kinds" "LCrochetRounds$Numbers;", .methodLink RX1 11 yX2_init, .instanceMethod yX2_init, .code yX2_init cX2_init 2 none, .methodLink RX2 1 objectInit, .arrayClass .int, .fieldLink RX2 7 "CrochetRounds$Numbers" "held" "[I"] ++ wsX20 ++ wsX10)
def wsX6_madeBy : List Cond := .code yX6_madeBy cX6_madeBy 1 (some .int) :: ([])
def wsX1_load : List Cond := .code yX1_load cX1_load 7 none :: ([.fieldLink RX1 20 "CrochetRounds$Piece" "works" "LCrochetRounds$Numbers;", .fieldLink RX1 29 "CrochetRounds$Piece" "kinds" "LCrochetRounds$Numbers;", .fieldLink RX1 14 "CrochetRounds$Makers" "kinds" "LCrochetRounds$Numbers;", .methodLink RX1 25 yX2_at, .instanceMethod yX2_at, .selects RX2 yX2_at yX2_at, .initialized RX2, .code yX2_at cX2_at 2 (some .int), .fieldLink RX2 7 "CrochetRounds$Numbers" "held" "[I", .methodLink RX1 30 yX2_put, .instanceMethod yX2_put, .selects RX2 yX2_put yX2_put, .code yX2_put cX2_put 3 none, .static yX6_madeBy, .initialized RX6, .code yX6_madeBy cX6_madeBy 1 (some .int)] ++ wsX40 ++ wsX10 ++ wsX20)
def wsX6_usedBy : List Cond := .code yX6_usedBy cX6_usedBy 1 (some .int) :: ([])
def wsX1_stackedIn : List Cond := .code yX1_stackedIn cX1_stackedIn 11 (some .int) :: ([.fieldLink RX1 14 "CrochetRounds$Makers" "kinds" "LCrochetRounds$Numbers;", .methodLink RX1 25 yX2_at, .instanceMethod yX2_at, .selects RX2 yX2_at yX2_at, .initialized RX2, .code yX2_at cX2_at 2 (some .int), .fieldLink RX2 7 "CrochetRounds$Numbers" "held" "[I", .static yX6_usedBy, .initialized RX6, .code yX6_usedBy cX6_usedBy 1 (some .int)] ++ wsX10 ++ wsX20)
def wsX1_bestShift : List Cond := .code yX1_bestShift cX1_bestShift 6 (some .int) :: ([.fieldLink RX1 40 "CrochetRounds$Plan" "row" "LCrochetRounds$Numbers;", .fieldLink RX1 45 "CrochetRounds$Plan" "works" "I", .methodLink RX1 48 yX1_stackedIn, .instanceMethod yX1_stackedIn, .selects RX1 yX1_stackedIn yX1_stackedIn, .initialized RX1, .code yX1_stackedIn cX1_stackedIn 11 (some .int), .fieldLink RX1 14 "CrochetRounds$Makers" "kinds" "LCrochetRounds$Numbers;", .methodLink RX1 25 yX2_at, .instanceMethod yX2_at, .selects RX2 yX2_at yX2_at, .initialized RX2, .code yX2_at cX2_at 2 (some .int), .fieldLink RX2 7 "CrochetRounds$Numbers" "held" "[I", .static yX6_usedBy, .initialized RX6, .code yX6_usedBy cX6_usedBy 1 (some .int)] ++ wsX50 ++ wsX10 ++ wsX20)
def wsX3_init : List Cond := .code yX3_init cX3_init 1 none :: ([.methodLink RX3 3 objectInit, .instanceMethod objectInit, .code objectInit ⟨#[0xb1]⟩ 1 none, .classLink RX3 9 RX2, .instantiable RX2 1, .initialized RX2, .fieldLink RX3 14 "CrochetRounds$Pattern" "bytes" "LCrochetRounds$Numbers;", .fieldLink RX3 20 "CrochetRounds$Pattern" "itemKinds" "LCrochetRounds$Numbers;", .fieldLink RX3 23 "CrochetRounds$Pattern" "itemCounts" "LCrochetRounds$Numbers;", .methodLink RX3 11 yX2_init, .instanceMethod yX2_init, .code yX2_init cX2_init 2 none, .methodLink RX2 1 objectInit, .arrayClass .int, .fieldLink RX2 7 "CrochetRounds$Numbers" "held" "[I"] ++ wsX20 ++ wsX30)
def wsX4_openRound : List Cond := .code yX4_openRound cX4_openRound 1 none :: ([.fieldLink RX4 20 "CrochetRounds$Piece" "works" "LCrochetRounds$Numbers;", .fieldLink RX4 29 "CrochetRounds$Piece" "rounds" "I", .fieldLink RX4 23 "CrochetRounds$Piece" "totals" "LCrochetRounds$Numbers;", .methodLink RX4 54 yX2_put, .instanceMethod yX2_put, .selects RX2 yX2_put yX2_put, .initialized RX2, .code yX2_put cX2_put 3 none, .fieldLink RX2 7 "CrochetRounds$Numbers" "held" "[I"] ++ wsX40 ++ wsX20)
def wsX4_addWork : List Cond := .code yX4_addWork cX4_addWork 3 none :: ([.fieldLink RX4 20 "CrochetRounds$Piece" "works" "LCrochetRounds$Numbers;", .fieldLink RX4 29 "CrochetRounds$Piece" "rounds" "I", .fieldLink RX4 14 "CrochetRounds$Piece" "kinds" "LCrochetRounds$Numbers;", .fieldLink RX4 23 "CrochetRounds$Piece" "totals" "LCrochetRounds$Numbers;", .methodLink RX4 41 yX2_at, .instanceMethod yX2_at, .selects RX2 yX2_at yX2_at, .initialized RX2, .code yX2_at cX2_at 2 (some .int), .fieldLink RX2 7 "CrochetRounds$Numbers" "held" "[I", .methodLink RX4 54 yX2_put, .instanceMethod yX2_put, .selects RX2 yX2_put yX2_put, .code yX2_put cX2_put 3 none, .static yX6_madeBy, .initialized RX6, .code yX6_madeBy cX6_madeBy 1 (some .int)] ++ wsX40 ++ wsX20)
def wsX4_closeRound : List Cond := .code yX4_closeRound cX4_closeRound 1 none :: ([.fieldLink RX4 29 "CrochetRounds$Piece" "rounds" "I"] ++ wsX40)
def wsX4_startRing_r1 : List Cond := [Cond.fieldLink RX4 29 "CrochetRounds$Piece" "rounds" "I", Cond.methodLink RX4 45 yX4_openRound, Cond.instanceMethod yX4_openRound, Cond.selects RX4 yX4_openRound yX4_openRound, Cond.initialized RX4, Cond.code yX4_openRound cX4_openRound 1 none, Cond.fieldLink RX4 20 "CrochetRounds$Piece" "works" "LCrochetRounds$Numbers;", Cond.fieldLink RX4 23 "CrochetRounds$Piece" "totals" "LCrochetRounds$Numbers;", Cond.methodLink RX4 54 yX2_put, Cond.instanceMethod yX2_put, Cond.selects RX2 yX2_put yX2_put, Cond.initialized RX2, Cond.code yX2_put cX2_put 3 none, Cond.fieldLink RX2 7 "CrochetRounds$Numbers" "held" "[I", Cond.methodLink RX4 48 yX4_addWork, Cond.instanceMethod yX4_addWork, Cond.selects RX4 yX4_addWork yX4_addWork, Cond.code yX4_addWork cX4_addWork 3 none, Cond.fieldLink RX4 14 "CrochetRounds$Piece" "kinds" "LCrochetRounds$Numbers;", Cond.methodLink RX4 41 yX2_at, Cond.instanceMethod yX2_at, Cond.selects RX2 yX2_at yX2_at, Cond.code yX2_at cX2_at 2 (some .int), Cond.static yX6_madeBy]
def wsX4_startRing_r2 : List Cond := [Cond.initialized RX6, Cond.code yX6_madeBy cX6_madeBy 1 (some .int), Cond.methodLink RX4 51 yX4_closeRound, Cond.instanceMethod yX4_closeRound, Cond.selects RX4 yX4_closeRound yX4_closeRound, Cond.code yX4_closeRound cX4_closeRound 1 none]
def wsX4_startRing : List Cond := .code yX4_startRing cX4_startRing 3 none :: ((wsX4_startRing_r1 ++ wsX4_startRing_r2) ++ wsX40 ++ wsX20)
def wsX4_lastTotal : List Cond := .code yX4_lastTotal cX4_lastTotal 1 (some .int) :: ([.fieldLink RX4 23 "CrochetRounds$Piece" "totals" "LCrochetRounds$Numbers;", .fieldLink RX4 29 "CrochetRounds$Piece" "rounds" "I", .methodLink RX4 41 yX2_at, .instanceMethod yX2_at, .selects RX2 yX2_at yX2_at, .initialized RX2, .code yX2_at cX2_at 2 (some .int), .fieldLink RX2 7 "CrochetRounds$Numbers" "held" "[I"] ++ wsX40 ++ wsX20)
def wsX4_kindOf : List Cond := .code yX4_kindOf cX4_kindOf 3 (some .int) :: ([.fieldLink RX4 14 "CrochetRounds$Piece" "kinds" "LCrochetRounds$Numbers;", .methodLink RX4 41 yX2_at, .instanceMethod yX2_at, .selects RX2 yX2_at yX2_at, .initialized RX2, .code yX2_at cX2_at 2 (some .int), .fieldLink RX2 7 "CrochetRounds$Numbers" "held" "[I"] ++ wsX40 ++ wsX20)
def wsX4_countOf : List Cond := .code yX4_countOf cX4_countOf 6 (some .int) :: ([.fieldLink RX4 20 "CrochetRounds$Piece" "works" "LCrochetRounds$Numbers;", .methodLink RX4 41 yX2_at, .instanceMethod yX2_at, .selects RX2 yX2_at yX2_at, .initialized RX2, .code yX2_at cX2_at 2 (some .int), .fieldLink RX2 7 "CrochetRounds$Numbers" "held" "[I", .methodLink RX4 61 yX4_kindOf, .instanceMethod yX4_kindOf, .selects RX4 yX4_kindOf yX4_kindOf, .initialized RX4, .code yX4_kindOf cX4_kindOf 3 (some .int), .fieldLink RX4 14 "CrochetRounds$Piece" "kinds" "LCrochetRounds$Numbers;"] ++ wsX40 ++ wsX20)
def wsX4_yarnOf : List Cond := .code yX4_yarnOf cX4_yarnOf 5 (some .int) :: ([.fieldLink RX4 20 "CrochetRounds$Piece" "works" "LCrochetRounds$Numbers;", .fieldLink RX4 26 "CrochetRounds$Piece" "yarn" "LCrochetRounds$Numbers;", .methodLink RX4 41 yX2_at, .instanceMethod yX2_at, .selects RX2 yX2_at yX2_at, .initialized RX2, .code yX2_at cX2_at 2 (some .int), .fieldLink RX2 7 "CrochetRounds$Numbers" "held" "[I", .methodLink RX4 61 yX4_kindOf, .instanceMethod yX4_kindOf, .selects RX4 yX4_kindOf yX4_kindOf, .initialized RX4, .code yX4_kindOf cX4_kindOf 3 (some .int), .fieldLink RX4 14 "CrochetRounds$Piece" "kinds" "LCrochetRounds$Numbers;"] ++ wsX40 ++ wsX20)
def wsX4_isMirrored : List Cond := .code yX4_isMirrored cX4_isMirrored 4 (some .boolean) :: ([.fieldLink RX4 20 "CrochetRounds$Piece" "works" "LCrochetRounds$Numbers;", .methodLink RX4 41 yX2_at, .instanceMethod yX2_at, .selects RX2 yX2_at yX2_at, .initialized RX2, .code yX2_at cX2_at 2 (some .int), .fieldLink RX2 7 "CrochetRounds$Numbers" "held" "[I", .methodLink RX4 61 yX4_kindOf, .instanceMethod yX4_kindOf, .selects RX4 yX4_kindOf yX4_kindOf, .initialized RX4, .code yX4_kindOf cX4_kindOf 3 (some .int), .fieldLink RX4 14 "CrochetRounds$Piece" "kinds" "LCrochetRounds$Numbers;"] ++ wsX40 ++ wsX20)
def wsX4_further : List Cond := .code yX4_further cX4_further 3 (some .int) :: ([.methodLink RX4 75 Lib.Math.max.name, .static Lib.Math.max.name, .initialized "java/lang/Math", .code Lib.Math.max.name Lib.Math.max.code 2 (some .int), .methodLink RX4 80 Lib.Math.min.name, .static Lib.Math.min.name, .code Lib.Math.min.name Lib.Math.min.code 2 (some .int)])
def wsX4_distance : List Cond := .code yX4_distance cX4_distance 8 (some .int) :: ([.fieldLink RX4 20 "CrochetRounds$Piece" "works" "LCrochetRounds$Numbers;", .methodLink RX4 41 yX2_at, .instanceMethod yX2_at, .selects RX2 yX2_at yX2_at, .initialized RX2, .code yX2_at cX2_at 2 (some .int), .fieldLink RX2 7 "CrochetRounds$Numbers" "held" "[I", .methodLink RX4 61 yX4_kindOf, .instanceMethod yX4_kindOf, .selects RX4 yX4_kindOf yX4_kindOf, .initialized RX4, .code yX4_kindOf cX4_kindOf 3 (some .int), .fieldLink RX4 14 "CrochetRounds$Piece" "kinds" "LCrochetRounds$Numbers;", .methodLink RX4 71 yX4_further, .static yX4_further, .code yX4_further cX4_further 3 (some .int), .methodLink RX4 75 Lib.Math.max.name, .static Lib.Math.max.name, .initialized "java/lang/Math", .code Lib.Math.max.name Lib.Math.max.code 2 (some .int), .methodLink RX4 80 Lib.Math.min.name, .static Lib.Math.min.name, .code Lib.Math.min.name Lib.Math.min.code 2 (some .int)] ++ wsX40 ++ wsX20)
def wsX4_widest : List Cond := .code yX4_widest cX4_widest 3 (some .int) :: ([.fieldLink RX4 29 "CrochetRounds$Piece" "rounds" "I", .fieldLink RX4 23 "CrochetRounds$Piece" "totals" "LCrochetRounds$Numbers;", .methodLink RX4 41 yX2_at, .instanceMethod yX2_at, .selects RX2 yX2_at yX2_at, .initialized RX2, .code yX2_at cX2_at 2 (some .int), .fieldLink RX2 7 "CrochetRounds$Numbers" "held" "[I"] ++ wsX40 ++ wsX20)
def wsX5_init : List Cond := .code yX5_init cX5_init 1 none :: ([.methodLink RX5 3 objectInit, .instanceMethod objectInit, .code objectInit ⟨#[0xb1]⟩ 1 none, .classLink RX5 9 RX2, .instantiable RX2 1, .initialized RX2, .fieldLink RX5 14 "CrochetRounds$Plan" "row" "LCrochetRounds$Numbers;", .methodLink RX5 11 yX2_init, .instanceMethod yX2_init, .code yX2_init cX2_init 2 none, .methodLink RX2 1 objectInit, .arrayClass .int, .fieldLink RX2 7 "CrochetRounds$Numbers" "held" "[I"] ++ wsX20 ++ wsX50)
def wsX5_measure : List Cond := .code yX5_measure cX5_measure 3 (some .boolean) :: ([.fieldLink RX5 24 "CrochetRounds$Plan" "works" "I", .fieldLink RX5 28 "CrochetRounds$Plan" "shaped" "I", .fieldLink RX5 39 "CrochetRounds$Plan" "kind" "I"] ++ wsX50)
def wsX5_spreadKind : List Cond := .code yX5_spreadKind cX5_spreadKind 4 (some .int) :: ([.fieldLink RX5 39 "CrochetRounds$Plan" "kind" "I"] ++ wsX50)
def wsX5_spread : List Cond := .code yX5_spread cX5_spread 4 (some .boolean) :: ([.fieldLink RX5 24 "CrochetRounds$Plan" "works" "I", .fieldLink RX5 14 "CrochetRounds$Plan" "row" "LCrochetRounds$Numbers;", .fieldLink RX5 28 "CrochetRounds$Plan" "shaped" "I", .methodLink RX5 20 yX5_measure, .instanceMethod yX5_measure, .selects RX5 yX5_measure yX5_measure, .initialized RX5, .code yX5_measure cX5_measure 3 (some .boolean), .fieldLink RX5 39 "CrochetRounds$Plan" "kind" "I", .methodLink RX5 31 yX5_spreadKind, .instanceMethod yX5_spreadKind, .selects RX5 yX5_spreadKind yX5_spreadKind, .code yX5_spreadKind cX5_spreadKind 4 (some .int), .methodLink RX5 35 yX2_put, .instanceMethod yX2_put, .selects RX2 yX2_put yX2_put, .initialized RX2, .code yX2_put cX2_put 3 none, .fieldLink RX2 7 "CrochetRounds$Numbers" "held" "[I"] ++ wsX50 ++ wsX20)
def wsX5_mirror : List Cond := .code yX5_mirror cX5_mirror 8 (some .boolean) :: ([.fieldLink RX5 24 "CrochetRounds$Plan" "works" "I", .fieldLink RX5 28 "CrochetRounds$Plan" "shaped" "I", .fieldLink RX5 14 "CrochetRounds$Plan" "row" "LCrochetRounds$Numbers;", .fieldLink RX5 39 "CrochetRounds$Plan" "kind" "I", .methodLink RX5 20 yX5_measure, .instanceMethod yX5_measure, .selects RX5 yX5_measure yX5_measure, .initialized RX5, .code yX5_measure cX5_measure 3 (some .boolean), .methodLink RX5 31 yX5_spreadKind, .instanceMethod yX5_spreadKind, .selects RX5 yX5_spreadKind yX5_spreadKind, .code yX5_spreadKind cX5_spreadKind 4 (some .int), .methodLink RX5 35 yX2_put, .instanceMethod yX2_put, .selects RX2 yX2_put yX2_put, .initialized RX2, .code yX2_put cX2_put 3 none, .fieldLink RX2 7 "CrochetRounds$Numbers" "held" "[I"] ++ wsX50 ++ wsX20)
def wsX6_init_r1 : List Cond := [Cond.methodLink RX6 1 objectInit, Cond.instanceMethod objectInit, Cond.code objectInit ⟨#[0xb1]⟩ 1 none, Cond.classLink RX6 7 RX4, Cond.instantiable RX4 6, Cond.initialized RX4, Cond.fieldLink RX6 10 "CrochetRounds" "piece" "LCrochetRounds$Piece;", Cond.classLink RX6 16 RX0, Cond.instantiable RX0 3, Cond.initialized RX0, Cond.fieldLink RX6 19 "CrochetRounds" "history" "LCrochetRounds$History;", Cond.classLink RX6 23 RX3, Cond.instantiable RX3 10, Cond.initialized RX3, Cond.fieldLink RX6 26 "CrochetRounds" "pattern" "LCrochetRounds$Pattern;", Cond.classLink RX6 30 RX5, Cond.instantiable RX5 4, Cond.initialized RX5, Cond.fieldLink RX6 33 "CrochetRounds" "plan" "LCrochetRounds$Plan;", Cond.classLink RX6 37 RX1, Cond.instantiable RX1 1, Cond.initialized RX1, Cond.fieldLink RX6 40 "CrochetRounds" "makers" "LCrochetRounds$Makers;", Cond.fieldLink RX6 44 "CrochetRounds$Piece" "yarn" "LCrochetRounds$Numbers;"]
def wsX6_init_r2 : List Cond := [Cond.instanceMethod yX4_init, Cond.code yX4_init cX4_init 1 none, Cond.methodLink RX4 3 objectInit, Cond.classLink RX4 9 RX2, Cond.instantiable RX2 1, Cond.initialized RX2, Cond.fieldLink RX4 14 "CrochetRounds$Piece" "kinds" "LCrochetRounds$Numbers;", Cond.fieldLink RX4 20 "CrochetRounds$Piece" "works" "LCrochetRounds$Numbers;", Cond.fieldLink RX4 23 "CrochetRounds$Piece" "totals" "LCrochetRounds$Numbers;", Cond.fieldLink RX4 26 "CrochetRounds$Piece" "yarn" "LCrochetRounds$Numbers;", Cond.methodLink RX4 11 yX2_init, Cond.instanceMethod yX2_init, Cond.code yX2_init cX2_init 2 none, Cond.methodLink RX2 1 objectInit, Cond.arrayClass .int, Cond.fieldLink RX2 7 "CrochetRounds$Numbers" "held" "[I", Cond.methodLink RX6 18 yX0_init, Cond.instanceMethod yX0_init, Cond.code yX0_init cX0_init 2 none, Cond.methodLink RX0 3 objectInit, Cond.classLink RX0 9 RX4, Cond.fieldLink RX0 11 "CrochetRounds$History" "slots" "[LCrochetRounds$Piece;", Cond.instanceMethod yX3_init, Cond.code yX3_init cX3_init 1 none]
def wsX6_init_r3 : List Cond := [Cond.methodLink RX3 3 objectInit, Cond.classLink RX3 9 RX2, Cond.fieldLink RX3 14 "CrochetRounds$Pattern" "bytes" "LCrochetRounds$Numbers;", Cond.fieldLink RX3 20 "CrochetRounds$Pattern" "itemKinds" "LCrochetRounds$Numbers;", Cond.fieldLink RX3 23 "CrochetRounds$Pattern" "itemCounts" "LCrochetRounds$Numbers;", Cond.methodLink RX3 11 yX2_init, Cond.instanceMethod yX5_init, Cond.code yX5_init cX5_init 1 none, Cond.methodLink RX5 3 objectInit, Cond.classLink RX5 9 RX2, Cond.fieldLink RX5 14 "CrochetRounds$Plan" "row" "LCrochetRounds$Numbers;", Cond.methodLink RX5 11 yX2_init, Cond.instanceMethod yX1_init, Cond.code yX1_init cX1_init 1 none, Cond.methodLink RX1 3 objectInit, Cond.classLink RX1 9 RX2, Cond.fieldLink RX1 14 "CrochetRounds$Makers" "kinds" "LCrochetRounds$Numbers;", Cond.methodLink RX1 11 yX2_init, Cond.methodLink RX6 48 yX2_put, Cond.instanceMethod yX2_put, Cond.selects RX2 yX2_put yX2_put, Cond.code yX2_put cX2_put 3 none, Cond.methodLink RX6 54 yX4_startRing, Cond.instanceMethod yX4_startRing]
def wsX6_init_r4 : List Cond := [Cond.selects RX4 yX4_startRing yX4_startRing, Cond.code yX4_startRing cX4_startRing 3 none, Cond.fieldLink RX4 29 "CrochetRounds$Piece" "rounds" "I", Cond.methodLink RX4 45 yX4_openRound, Cond.instanceMethod yX4_openRound, Cond.selects RX4 yX4_openRound yX4_openRound, Cond.code yX4_openRound cX4_openRound 1 none, Cond.methodLink RX4 54 yX2_put, Cond.methodLink RX4 48 yX4_addWork, Cond.instanceMethod yX4_addWork, Cond.selects RX4 yX4_addWork yX4_addWork, Cond.code yX4_addWork cX4_addWork 3 none, Cond.methodLink RX4 41 yX2_at, Cond.instanceMethod yX2_at, Cond.selects RX2 yX2_at yX2_at, Cond.code yX2_at cX2_at 2 (some .int), Cond.static yX6_madeBy, Cond.initialized RX6, Cond.code yX6_madeBy cX6_madeBy 1 (some .int), Cond.methodLink RX4 51 yX4_closeRound, Cond.instanceMethod yX4_closeRound, Cond.selects RX4 yX4_closeRound yX4_closeRound, Cond.code yX4_closeRound cX4_closeRound 1 none]
def wsX6_init : List Cond := .code yX6_init cX6_init 1 none :: ((wsX6_init_r1 ++ (wsX6_init_r2 ++ (wsX6_init_r3 ++ wsX6_init_r4))) ++ wsX40 ++ wsX60 ++ wsX00 ++ wsX30 ++ wsX50 ++ wsX10 ++ wsX20)
def wsX6_checkArgument : List Cond := .code yX6_checkArgument cX6_checkArgument 1 none :: ([.classLink RX6 217 "java/lang/IllegalArgumentException", .initialized "java/lang/IllegalArgumentException"] ++ (vx_atS RX6 221 "java/lang/IllegalArgumentException" ["java/lang/RuntimeException", "java/lang/Exception"]).filter goodWord)
def wsX6_begin_r1 : List Cond := [Cond.fieldLink RX6 10 "CrochetRounds" "piece" "LCrochetRounds$Piece;", Cond.fieldLink RX6 62 "CrochetRounds$Piece" "rounds" "I", Cond.fieldLink RX6 19 "CrochetRounds" "history" "LCrochetRounds$History;", Cond.methodLink RX6 58 yX6_checkArgument, Cond.static yX6_checkArgument, Cond.initialized RX6, Cond.code yX6_checkArgument cX6_checkArgument 1 none, Cond.classLink RX6 217 "java/lang/IllegalArgumentException", Cond.initialized "java/lang/IllegalArgumentException", Cond.methodLink RX6 66 yX0_keep, Cond.instanceMethod yX0_keep, Cond.selects RX0 yX0_keep yX0_keep, Cond.initialized RX0, Cond.code yX0_keep cX0_keep 3 none, Cond.fieldLink RX0 18 "CrochetRounds$History" "next" "I", Cond.fieldLink RX0 30 "CrochetRounds$History" "size" "I", Cond.methodLink RX0 33 Lib.Math.min.name, Cond.static Lib.Math.min.name, Cond.initialized "java/lang/Math", Cond.code Lib.Math.min.name Lib.Math.min.code 2 (some .int), Cond.methodLink RX0 22 yX0_slotAt, Cond.instanceMethod yX0_slotAt, Cond.selects RX0 yX0_slotAt yX0_slotAt, Cond.code yX0_slotAt cX0_slotAt 2 (some (.object "CrochetRounds$Piece"))]
def wsX6_begin_r2 : List Cond := [Cond.fieldLink RX0 11 "CrochetRounds$History" "slots" "[LCrochetRounds$Piece;", Cond.methodLink RX0 26 yX4_takeOver, Cond.instanceMethod yX4_takeOver, Cond.selects RX4 yX4_takeOver yX4_takeOver, Cond.initialized RX4, Cond.code yX4_takeOver cX4_takeOver 3 none, Cond.fieldLink RX4 29 "CrochetRounds$Piece" "rounds" "I", Cond.fieldLink RX4 33 "CrochetRounds$Piece" "spiral" "Z", Cond.fieldLink RX4 20 "CrochetRounds$Piece" "works" "LCrochetRounds$Numbers;", Cond.fieldLink RX4 23 "CrochetRounds$Piece" "totals" "LCrochetRounds$Numbers;", Cond.fieldLink RX4 26 "CrochetRounds$Piece" "yarn" "LCrochetRounds$Numbers;", Cond.fieldLink RX4 14 "CrochetRounds$Piece" "kinds" "LCrochetRounds$Numbers;", Cond.methodLink RX4 37 yX2_take, Cond.instanceMethod yX2_take, Cond.selects RX2 yX2_take yX2_take, Cond.initialized RX2, Cond.code yX2_take cX2_take 5 none, Cond.methodLink RX2 13 yX2_at, Cond.instanceMethod yX2_at, Cond.selects RX2 yX2_at yX2_at, Cond.code yX2_at cX2_at 2 (some .int), Cond.fieldLink RX2 7 "CrochetRounds$Numbers" "held" "[I", Cond.methodLink RX2 17 yX2_put, Cond.instanceMethod yX2_put]
def wsX6_begin_r3 : List Cond := [Cond.selects RX2 yX2_put yX2_put, Cond.code yX2_put cX2_put 3 none, Cond.methodLink RX4 41 yX2_at, Cond.methodLink RX6 54 yX4_startRing, Cond.instanceMethod yX4_startRing, Cond.selects RX4 yX4_startRing yX4_startRing, Cond.code yX4_startRing cX4_startRing 3 none, Cond.methodLink RX4 45 yX4_openRound, Cond.instanceMethod yX4_openRound, Cond.selects RX4 yX4_openRound yX4_openRound, Cond.code yX4_openRound cX4_openRound 1 none, Cond.methodLink RX4 54 yX2_put, Cond.methodLink RX4 48 yX4_addWork, Cond.instanceMethod yX4_addWork, Cond.selects RX4 yX4_addWork yX4_addWork, Cond.code yX4_addWork cX4_addWork 3 none, Cond.static yX6_madeBy, Cond.code yX6_madeBy cX6_madeBy 1 (some .int), Cond.methodLink RX4 51 yX4_closeRound, Cond.instanceMethod yX4_closeRound, Cond.selects RX4 yX4_closeRound yX4_closeRound, Cond.code yX4_closeRound cX4_closeRound 1 none]
def wsX6_begin : List Cond := .code yX6_begin cX6_begin 3 (some .int) :: ((wsX6_begin_r1 ++ (wsX6_begin_r2 ++ wsX6_begin_r3)) ++ wsX60 ++ wsX40 ++ wsX00 ++ wsX20 ++ (vx_atS RX6 221 "java/lang/IllegalArgumentException" ["java/lang/RuntimeException", "java/lang/Exception"]).filter goodWord)
def wsX6_isGoal : List Cond := .code yX6_isGoal cX6_isGoal 1 (some .boolean) :: ([])
def wsX6_checkState : List Cond := .code yX6_checkState cX6_checkState 1 none :: ([.classLink RX6 224 "java/lang/IllegalStateException", .initialized "java/lang/IllegalStateException"] ++ (vx_atS RX6 228 "java/lang/IllegalStateException" ["java/lang/RuntimeException", "java/lang/Exception"]).filter goodWord)
def wsX6_checkRoom : List Cond := .code yX6_checkRoom cX6_checkRoom 1 none :: ([.fieldLink RX6 10 "CrochetRounds" "piece" "LCrochetRounds$Piece;", .fieldLink RX6 62 "CrochetRounds$Piece" "rounds" "I", .methodLink RX6 111 yX6_checkState, .static yX6_checkState, .initialized RX6, .code yX6_checkState cX6_checkState 1 none, .classLink RX6 224 "java/lang/IllegalStateException", .initialized "java/lang/IllegalStateException"] ++ wsX60 ++ wsX40 ++ (vx_atS RX6 228 "java/lang/IllegalStateException" ["java/lang/RuntimeException", "java/lang/Exception"]).filter goodWord)
def wsX6_checkPossible : List Cond := .code yX6_checkPossible cX6_checkPossible 1 none :: ([.classLink RX6 229 "java/lang/UnsupportedOperationException", .initialized "java/lang/UnsupportedOperationException"] ++ (vx_atS RX6 233 "java/lang/UnsupportedOperationException" ["java/lang/RuntimeException", "java/lang/Exception"]).filter goodWord)
def wsX6_addRow_r1 : List Cond := [Cond.fieldLink RX6 33 "CrochetRounds" "plan" "LCrochetRounds$Plan;", Cond.fieldLink RX6 162 "CrochetRounds$Plan" "works" "I", Cond.fieldLink RX6 10 "CrochetRounds" "piece" "LCrochetRounds$Piece;", Cond.fieldLink RX6 159 "CrochetRounds$Plan" "row" "LCrochetRounds$Numbers;", Cond.methodLink RX6 246 yX4_openRound, Cond.instanceMethod yX4_openRound, Cond.selects RX4 yX4_openRound yX4_openRound, Cond.initialized RX4, Cond.code yX4_openRound cX4_openRound 1 none, Cond.fieldLink RX4 20 "CrochetRounds$Piece" "works" "LCrochetRounds$Numbers;", Cond.fieldLink RX4 29 "CrochetRounds$Piece" "rounds" "I", Cond.fieldLink RX4 23 "CrochetRounds$Piece" "totals" "LCrochetRounds$Numbers;", Cond.methodLink RX4 54 yX2_put, Cond.instanceMethod yX2_put, Cond.selects RX2 yX2_put yX2_put, Cond.initialized RX2, Cond.code yX2_put cX2_put 3 none, Cond.fieldLink RX2 7 "CrochetRounds$Numbers" "held" "[I", Cond.methodLink RX6 114 yX2_at, Cond.instanceMethod yX2_at, Cond.selects RX2 yX2_at yX2_at, Cond.code yX2_at cX2_at 2 (some .int), Cond.methodLink RX6 249 yX4_addWork, Cond.instanceMethod yX4_addWork]
def wsX6_addRow_r2 : List Cond := [Cond.selects RX4 yX4_addWork yX4_addWork, Cond.code yX4_addWork cX4_addWork 3 none, Cond.fieldLink RX4 14 "CrochetRounds$Piece" "kinds" "LCrochetRounds$Numbers;", Cond.methodLink RX4 41 yX2_at, Cond.static yX6_madeBy, Cond.initialized RX6, Cond.code yX6_madeBy cX6_madeBy 1 (some .int), Cond.methodLink RX6 252 yX4_closeRound, Cond.instanceMethod yX4_closeRound, Cond.selects RX4 yX4_closeRound yX4_closeRound, Cond.code yX4_closeRound cX4_closeRound 1 none]
def wsX6_addRow : List Cond := .code yX6_addRow cX6_addRow 4 none :: ((wsX6_addRow_r1 ++ wsX6_addRow_r2) ++ wsX60 ++ wsX50 ++ wsX40 ++ wsX20)
def wsX6_addBest_r1 : List Cond := [Cond.fieldLink RX6 40 "CrochetRounds" "makers" "LCrochetRounds$Makers;", Cond.fieldLink RX6 10 "CrochetRounds" "piece" "LCrochetRounds$Piece;", Cond.fieldLink RX6 62 "CrochetRounds$Piece" "rounds" "I", Cond.fieldLink RX6 33 "CrochetRounds" "plan" "LCrochetRounds$Plan;", Cond.methodLink RX6 155 yX1_load, Cond.instanceMethod yX1_load, Cond.selects RX1 yX1_load yX1_load, Cond.initialized RX1, Cond.code yX1_load cX1_load 7 none, Cond.fieldLink RX1 20 "CrochetRounds$Piece" "works" "LCrochetRounds$Numbers;", Cond.fieldLink RX1 29 "CrochetRounds$Piece" "kinds" "LCrochetRounds$Numbers;", Cond.fieldLink RX1 14 "CrochetRounds$Makers" "kinds" "LCrochetRounds$Numbers;", Cond.methodLink RX1 25 yX2_at, Cond.instanceMethod yX2_at, Cond.selects RX2 yX2_at yX2_at, Cond.initialized RX2, Cond.code yX2_at cX2_at 2 (some .int), Cond.fieldLink RX2 7 "CrochetRounds$Numbers" "held" "[I", Cond.methodLink RX1 30 yX2_put, Cond.instanceMethod yX2_put, Cond.selects RX2 yX2_put yX2_put, Cond.code yX2_put cX2_put 3 none, Cond.static yX6_madeBy, Cond.initialized RX6]
def wsX6_addBest_r2 : List Cond := [Cond.code yX6_madeBy cX6_madeBy 1 (some .int), Cond.methodLink RX6 239 yX1_bestShift, Cond.instanceMethod yX1_bestShift, Cond.selects RX1 yX1_bestShift yX1_bestShift, Cond.code yX1_bestShift cX1_bestShift 6 (some .int), Cond.fieldLink RX1 40 "CrochetRounds$Plan" "row" "LCrochetRounds$Numbers;", Cond.fieldLink RX1 45 "CrochetRounds$Plan" "works" "I", Cond.methodLink RX1 48 yX1_stackedIn, Cond.instanceMethod yX1_stackedIn, Cond.selects RX1 yX1_stackedIn yX1_stackedIn, Cond.code yX1_stackedIn cX1_stackedIn 11 (some .int), Cond.static yX6_usedBy, Cond.code yX6_usedBy cX6_usedBy 1 (some .int), Cond.methodLink RX6 243 yX6_addRow, Cond.instanceMethod yX6_addRow, Cond.selects RX6 yX6_addRow yX6_addRow, Cond.code yX6_addRow cX6_addRow 4 none, Cond.fieldLink RX6 162 "CrochetRounds$Plan" "works" "I", Cond.fieldLink RX6 159 "CrochetRounds$Plan" "row" "LCrochetRounds$Numbers;", Cond.methodLink RX6 246 yX4_openRound, Cond.instanceMethod yX4_openRound, Cond.selects RX4 yX4_openRound yX4_openRound, Cond.initialized RX4, Cond.code yX4_openRound cX4_openRound 1 none]
def wsX6_addBest_r3 : List Cond := [Cond.fieldLink RX4 20 "CrochetRounds$Piece" "works" "LCrochetRounds$Numbers;", Cond.fieldLink RX4 29 "CrochetRounds$Piece" "rounds" "I", Cond.fieldLink RX4 23 "CrochetRounds$Piece" "totals" "LCrochetRounds$Numbers;", Cond.methodLink RX4 54 yX2_put, Cond.methodLink RX6 114 yX2_at, Cond.methodLink RX6 249 yX4_addWork, Cond.instanceMethod yX4_addWork, Cond.selects RX4 yX4_addWork yX4_addWork, Cond.code yX4_addWork cX4_addWork 3 none, Cond.fieldLink RX4 14 "CrochetRounds$Piece" "kinds" "LCrochetRounds$Numbers;", Cond.methodLink RX4 41 yX2_at, Cond.methodLink RX6 252 yX4_closeRound, Cond.instanceMethod yX4_closeRound, Cond.selects RX4 yX4_closeRound yX4_closeRound, Cond.code yX4_closeRound cX4_closeRound 1 none]
def wsX6_addBest : List Cond := .code yX6_addBest cX6_addBest 2 (some .int) :: ((wsX6_addBest_r1 ++ (wsX6_addBest_r2 ++ wsX6_addBest_r3)) ++ wsX60 ++ wsX40 ++ wsX10 ++ wsX20 ++ wsX50)
def wsX6_addRound_r1 : List Cond := [Cond.fieldLink RX6 33 "CrochetRounds" "plan" "LCrochetRounds$Plan;", Cond.fieldLink RX6 10 "CrochetRounds" "piece" "LCrochetRounds$Piece;", Cond.fieldLink RX6 19 "CrochetRounds" "history" "LCrochetRounds$History;", Cond.methodLink RX6 70 yX6_isGoal, Cond.static yX6_isGoal, Cond.initialized RX6, Cond.code yX6_isGoal cX6_isGoal 1 (some .boolean), Cond.methodLink RX6 58 yX6_checkArgument, Cond.static yX6_checkArgument, Cond.code yX6_checkArgument cX6_checkArgument 1 none, Cond.classLink RX6 217 "java/lang/IllegalArgumentException", Cond.initialized "java/lang/IllegalArgumentException", Cond.methodLink RX6 74 yX6_checkRoom, Cond.instanceMethod yX6_checkRoom, Cond.selects RX6 yX6_checkRoom yX6_checkRoom, Cond.code yX6_checkRoom cX6_checkRoom 1 none, Cond.fieldLink RX6 62 "CrochetRounds$Piece" "rounds" "I", Cond.methodLink RX6 111 yX6_checkState, Cond.static yX6_checkState, Cond.code yX6_checkState cX6_checkState 1 none, Cond.classLink RX6 224 "java/lang/IllegalStateException", Cond.initialized "java/lang/IllegalStateException", Cond.methodLink RX6 77 yX4_lastTotal, Cond.instanceMethod yX4_lastTotal]
def wsX6_addRound_r2 : List Cond := [Cond.selects RX4 yX4_lastTotal yX4_lastTotal, Cond.initialized RX4, Cond.code yX4_lastTotal cX4_lastTotal 1 (some .int), Cond.fieldLink RX4 23 "CrochetRounds$Piece" "totals" "LCrochetRounds$Numbers;", Cond.fieldLink RX4 29 "CrochetRounds$Piece" "rounds" "I", Cond.methodLink RX4 41 yX2_at, Cond.instanceMethod yX2_at, Cond.selects RX2 yX2_at yX2_at, Cond.initialized RX2, Cond.code yX2_at cX2_at 2 (some .int), Cond.fieldLink RX2 7 "CrochetRounds$Numbers" "held" "[I", Cond.methodLink RX6 81 yX5_spread, Cond.instanceMethod yX5_spread, Cond.selects RX5 yX5_spread yX5_spread, Cond.initialized RX5, Cond.code yX5_spread cX5_spread 4 (some .boolean), Cond.fieldLink RX5 24 "CrochetRounds$Plan" "works" "I", Cond.fieldLink RX5 14 "CrochetRounds$Plan" "row" "LCrochetRounds$Numbers;", Cond.fieldLink RX5 28 "CrochetRounds$Plan" "shaped" "I", Cond.methodLink RX5 20 yX5_measure, Cond.instanceMethod yX5_measure, Cond.selects RX5 yX5_measure yX5_measure, Cond.code yX5_measure cX5_measure 3 (some .boolean), Cond.fieldLink RX5 39 "CrochetRounds$Plan" "kind" "I"]
def wsX6_addRound_r3 : List Cond := [Cond.methodLink RX5 31 yX5_spreadKind, Cond.instanceMethod yX5_spreadKind, Cond.selects RX5 yX5_spreadKind yX5_spreadKind, Cond.code yX5_spreadKind cX5_spreadKind 4 (some .int), Cond.methodLink RX5 35 yX2_put, Cond.instanceMethod yX2_put, Cond.selects RX2 yX2_put yX2_put, Cond.code yX2_put cX2_put 3 none, Cond.methodLink RX6 85 yX6_checkPossible, Cond.static yX6_checkPossible, Cond.code yX6_checkPossible cX6_checkPossible 1 none, Cond.classLink RX6 229 "java/lang/UnsupportedOperationException", Cond.initialized "java/lang/UnsupportedOperationException", Cond.methodLink RX6 66 yX0_keep, Cond.instanceMethod yX0_keep, Cond.selects RX0 yX0_keep yX0_keep, Cond.initialized RX0, Cond.code yX0_keep cX0_keep 3 none, Cond.fieldLink RX0 18 "CrochetRounds$History" "next" "I", Cond.fieldLink RX0 30 "CrochetRounds$History" "size" "I", Cond.methodLink RX0 33 Lib.Math.min.name, Cond.static Lib.Math.min.name, Cond.initialized "java/lang/Math", Cond.code Lib.Math.min.name Lib.Math.min.code 2 (some .int)]
def wsX6_addRound_r4 : List Cond := [Cond.methodLink RX0 22 yX0_slotAt, Cond.instanceMethod yX0_slotAt, Cond.selects RX0 yX0_slotAt yX0_slotAt, Cond.code yX0_slotAt cX0_slotAt 2 (some (.object "CrochetRounds$Piece")), Cond.fieldLink RX0 11 "CrochetRounds$History" "slots" "[LCrochetRounds$Piece;", Cond.methodLink RX0 26 yX4_takeOver, Cond.instanceMethod yX4_takeOver, Cond.selects RX4 yX4_takeOver yX4_takeOver, Cond.code yX4_takeOver cX4_takeOver 3 none, Cond.fieldLink RX4 33 "CrochetRounds$Piece" "spiral" "Z", Cond.fieldLink RX4 20 "CrochetRounds$Piece" "works" "LCrochetRounds$Numbers;", Cond.fieldLink RX4 26 "CrochetRounds$Piece" "yarn" "LCrochetRounds$Numbers;", Cond.fieldLink RX4 14 "CrochetRounds$Piece" "kinds" "LCrochetRounds$Numbers;", Cond.methodLink RX4 37 yX2_take, Cond.instanceMethod yX2_take, Cond.selects RX2 yX2_take yX2_take, Cond.code yX2_take cX2_take 5 none, Cond.methodLink RX2 13 yX2_at, Cond.methodLink RX2 17 yX2_put, Cond.methodLink RX6 88 yX6_addBest, Cond.instanceMethod yX6_addBest, Cond.selects RX6 yX6_addBest yX6_addBest, Cond.code yX6_addBest cX6_addBest 2 (some .int), Cond.fieldLink RX6 40 "CrochetRounds" "makers" "LCrochetRounds$Makers;"]
def wsX6_addRound_r5 : List Cond := [Cond.methodLink RX6 155 yX1_load, Cond.instanceMethod yX1_load, Cond.selects RX1 yX1_load yX1_load, Cond.initialized RX1, Cond.code yX1_load cX1_load 7 none, Cond.fieldLink RX1 20 "CrochetRounds$Piece" "works" "LCrochetRounds$Numbers;", Cond.fieldLink RX1 29 "CrochetRounds$Piece" "kinds" "LCrochetRounds$Numbers;", Cond.fieldLink RX1 14 "CrochetRounds$Makers" "kinds" "LCrochetRounds$Numbers;", Cond.methodLink RX1 25 yX2_at, Cond.methodLink RX1 30 yX2_put, Cond.static yX6_madeBy, Cond.code yX6_madeBy cX6_madeBy 1 (some .int), Cond.methodLink RX6 239 yX1_bestShift, Cond.instanceMethod yX1_bestShift, Cond.selects RX1 yX1_bestShift yX1_bestShift, Cond.code yX1_bestShift cX1_bestShift 6 (some .int), Cond.fieldLink RX1 40 "CrochetRounds$Plan" "row" "LCrochetRounds$Numbers;", Cond.fieldLink RX1 45 "CrochetRounds$Plan" "works" "I", Cond.methodLink RX1 48 yX1_stackedIn, Cond.instanceMethod yX1_stackedIn, Cond.selects RX1 yX1_stackedIn yX1_stackedIn, Cond.code yX1_stackedIn cX1_stackedIn 11 (some .int), Cond.static yX6_usedBy, Cond.code yX6_usedBy cX6_usedBy 1 (some .int)]
def wsX6_addRound_r6 : List Cond := [Cond.methodLink RX6 243 yX6_addRow, Cond.instanceMethod yX6_addRow, Cond.selects RX6 yX6_addRow yX6_addRow, Cond.code yX6_addRow cX6_addRow 4 none, Cond.fieldLink RX6 162 "CrochetRounds$Plan" "works" "I", Cond.fieldLink RX6 159 "CrochetRounds$Plan" "row" "LCrochetRounds$Numbers;", Cond.methodLink RX6 246 yX4_openRound, Cond.instanceMethod yX4_openRound, Cond.selects RX4 yX4_openRound yX4_openRound, Cond.code yX4_openRound cX4_openRound 1 none, Cond.methodLink RX4 54 yX2_put, Cond.methodLink RX6 114 yX2_at, Cond.methodLink RX6 249 yX4_addWork, Cond.instanceMethod yX4_addWork, Cond.selects RX4 yX4_addWork yX4_addWork, Cond.code yX4_addWork cX4_addWork 3 none, Cond.methodLink RX6 252 yX4_closeRound, Cond.instanceMethod yX4_closeRound, Cond.selects RX4 yX4_closeRound yX4_closeRound, Cond.code yX4_closeRound cX4_closeRound 1 none]
def wsX6_addRound : List Cond := .code yX6_addRound cX6_addRound 2 (some .int) :: ((wsX6_addRound_r1 ++ (wsX6_addRound_r2 ++ (wsX6_addRound_r3 ++ (wsX6_addRound_r4 ++ (wsX6_addRound_r5 ++ wsX6_addRound_r6))))) ++ wsX60 ++ wsX40 ++ wsX20 ++ wsX50 ++ wsX00 ++ wsX10 ++ (vx_atS RX6 221 "java/lang/IllegalArgumentException" ["java/lang/RuntimeException", "java/lang/Exception"]).filter goodWord ++ (vx_atS RX6 228 "java/lang/IllegalStateException" ["java/lang/RuntimeException", "java/lang/Exception"]).filter goodWord ++ (vx_atS RX6 233 "java/lang/UnsupportedOperationException" ["java/lang/RuntimeException", "java/lang/Exception"]).filter goodWord)
def wsX6_isShift : List Cond := .code yX6_isShift cX6_isShift 1 (some .boolean) :: ([])
def wsX6_addPlanned_r1 : List Cond := [Cond.fieldLink RX6 40 "CrochetRounds" "makers" "LCrochetRounds$Makers;", Cond.fieldLink RX6 10 "CrochetRounds" "piece" "LCrochetRounds$Piece;", Cond.fieldLink RX6 62 "CrochetRounds$Piece" "rounds" "I", Cond.fieldLink RX6 33 "CrochetRounds" "plan" "LCrochetRounds$Plan;", Cond.fieldLink RX6 159 "CrochetRounds$Plan" "row" "LCrochetRounds$Numbers;", Cond.fieldLink RX6 162 "CrochetRounds$Plan" "works" "I", Cond.methodLink RX6 155 yX1_load, Cond.instanceMethod yX1_load, Cond.selects RX1 yX1_load yX1_load, Cond.initialized RX1, Cond.code yX1_load cX1_load 7 none, Cond.fieldLink RX1 20 "CrochetRounds$Piece" "works" "LCrochetRounds$Numbers;", Cond.fieldLink RX1 29 "CrochetRounds$Piece" "kinds" "LCrochetRounds$Numbers;", Cond.fieldLink RX1 14 "CrochetRounds$Makers" "kinds" "LCrochetRounds$Numbers;", Cond.methodLink RX1 25 yX2_at, Cond.instanceMethod yX2_at, Cond.selects RX2 yX2_at yX2_at, Cond.initialized RX2, Cond.code yX2_at cX2_at 2 (some .int), Cond.fieldLink RX2 7 "CrochetRounds$Numbers" "held" "[I", Cond.methodLink RX1 30 yX2_put, Cond.instanceMethod yX2_put, Cond.selects RX2 yX2_put yX2_put, Cond.code yX2_put cX2_put 3 none]
def wsX6_addPlanned_r2 : List Cond := [Cond.static yX6_madeBy, Cond.initialized RX6, Cond.code yX6_madeBy cX6_madeBy 1 (some .int), Cond.methodLink RX6 164 yX1_stackedIn, Cond.instanceMethod yX1_stackedIn, Cond.selects RX1 yX1_stackedIn yX1_stackedIn, Cond.code yX1_stackedIn cX1_stackedIn 11 (some .int), Cond.static yX6_usedBy, Cond.code yX6_usedBy cX6_usedBy 1 (some .int), Cond.methodLink RX6 243 yX6_addRow, Cond.instanceMethod yX6_addRow, Cond.selects RX6 yX6_addRow yX6_addRow, Cond.code yX6_addRow cX6_addRow 4 none, Cond.methodLink RX6 246 yX4_openRound, Cond.instanceMethod yX4_openRound, Cond.selects RX4 yX4_openRound yX4_openRound, Cond.initialized RX4, Cond.code yX4_openRound cX4_openRound 1 none, Cond.fieldLink RX4 20 "CrochetRounds$Piece" "works" "LCrochetRounds$Numbers;", Cond.fieldLink RX4 29 "CrochetRounds$Piece" "rounds" "I", Cond.fieldLink RX4 23 "CrochetRounds$Piece" "totals" "LCrochetRounds$Numbers;", Cond.methodLink RX4 54 yX2_put, Cond.methodLink RX6 114 yX2_at, Cond.methodLink RX6 249 yX4_addWork]
def wsX6_addPlanned_r3 : List Cond := [Cond.instanceMethod yX4_addWork, Cond.selects RX4 yX4_addWork yX4_addWork, Cond.code yX4_addWork cX4_addWork 3 none, Cond.fieldLink RX4 14 "CrochetRounds$Piece" "kinds" "LCrochetRounds$Numbers;", Cond.methodLink RX4 41 yX2_at, Cond.methodLink RX6 252 yX4_closeRound, Cond.instanceMethod yX4_closeRound, Cond.selects RX4 yX4_closeRound yX4_closeRound, Cond.code yX4_closeRound cX4_closeRound 1 none]
def wsX6_addPlanned : List Cond := .code yX6_addPlanned cX6_addPlanned 3 (some .int) :: ((wsX6_addPlanned_r1 ++ (wsX6_addPlanned_r2 ++ wsX6_addPlanned_r3)) ++ wsX60 ++ wsX40 ++ wsX50 ++ wsX10 ++ wsX20)
def wsX6_addShifted_r1 : List Cond := [Cond.fieldLink RX6 33 "CrochetRounds" "plan" "LCrochetRounds$Plan;", Cond.fieldLink RX6 10 "CrochetRounds" "piece" "LCrochetRounds$Piece;", Cond.fieldLink RX6 19 "CrochetRounds" "history" "LCrochetRounds$History;", Cond.methodLink RX6 70 yX6_isGoal, Cond.static yX6_isGoal, Cond.initialized RX6, Cond.code yX6_isGoal cX6_isGoal 1 (some .boolean), Cond.methodLink RX6 91 yX6_isShift, Cond.static yX6_isShift, Cond.code yX6_isShift cX6_isShift 1 (some .boolean), Cond.methodLink RX6 58 yX6_checkArgument, Cond.static yX6_checkArgument, Cond.code yX6_checkArgument cX6_checkArgument 1 none, Cond.classLink RX6 217 "java/lang/IllegalArgumentException", Cond.initialized "java/lang/IllegalArgumentException", Cond.methodLink RX6 74 yX6_checkRoom, Cond.instanceMethod yX6_checkRoom, Cond.selects RX6 yX6_checkRoom yX6_checkRoom, Cond.code yX6_checkRoom cX6_checkRoom 1 none, Cond.fieldLink RX6 62 "CrochetRounds$Piece" "rounds" "I", Cond.methodLink RX6 111 yX6_checkState, Cond.static yX6_checkState, Cond.code yX6_checkState cX6_checkState 1 none, Cond.classLink RX6 224 "java/lang/IllegalStateException"]
def wsX6_addShifted_r2 : List Cond := [Cond.initialized "java/lang/IllegalStateException", Cond.methodLink RX6 77 yX4_lastTotal, Cond.instanceMethod yX4_lastTotal, Cond.selects RX4 yX4_lastTotal yX4_lastTotal, Cond.initialized RX4, Cond.code yX4_lastTotal cX4_lastTotal 1 (some .int), Cond.fieldLink RX4 23 "CrochetRounds$Piece" "totals" "LCrochetRounds$Numbers;", Cond.fieldLink RX4 29 "CrochetRounds$Piece" "rounds" "I", Cond.methodLink RX4 41 yX2_at, Cond.instanceMethod yX2_at, Cond.selects RX2 yX2_at yX2_at, Cond.initialized RX2, Cond.code yX2_at cX2_at 2 (some .int), Cond.fieldLink RX2 7 "CrochetRounds$Numbers" "held" "[I", Cond.methodLink RX6 81 yX5_spread, Cond.instanceMethod yX5_spread, Cond.selects RX5 yX5_spread yX5_spread, Cond.initialized RX5, Cond.code yX5_spread cX5_spread 4 (some .boolean), Cond.fieldLink RX5 24 "CrochetRounds$Plan" "works" "I", Cond.fieldLink RX5 14 "CrochetRounds$Plan" "row" "LCrochetRounds$Numbers;", Cond.fieldLink RX5 28 "CrochetRounds$Plan" "shaped" "I", Cond.methodLink RX5 20 yX5_measure, Cond.instanceMethod yX5_measure]
def wsX6_addShifted_r3 : List Cond := [Cond.selects RX5 yX5_measure yX5_measure, Cond.code yX5_measure cX5_measure 3 (some .boolean), Cond.fieldLink RX5 39 "CrochetRounds$Plan" "kind" "I", Cond.methodLink RX5 31 yX5_spreadKind, Cond.instanceMethod yX5_spreadKind, Cond.selects RX5 yX5_spreadKind yX5_spreadKind, Cond.code yX5_spreadKind cX5_spreadKind 4 (some .int), Cond.methodLink RX5 35 yX2_put, Cond.instanceMethod yX2_put, Cond.selects RX2 yX2_put yX2_put, Cond.code yX2_put cX2_put 3 none, Cond.methodLink RX6 85 yX6_checkPossible, Cond.static yX6_checkPossible, Cond.code yX6_checkPossible cX6_checkPossible 1 none, Cond.classLink RX6 229 "java/lang/UnsupportedOperationException", Cond.initialized "java/lang/UnsupportedOperationException", Cond.methodLink RX6 66 yX0_keep, Cond.instanceMethod yX0_keep, Cond.selects RX0 yX0_keep yX0_keep, Cond.initialized RX0, Cond.code yX0_keep cX0_keep 3 none, Cond.fieldLink RX0 18 "CrochetRounds$History" "next" "I", Cond.fieldLink RX0 30 "CrochetRounds$History" "size" "I", Cond.methodLink RX0 33 Lib.Math.min.name]
def wsX6_addShifted_r4 : List Cond := [Cond.static Lib.Math.min.name, Cond.initialized "java/lang/Math", Cond.code Lib.Math.min.name Lib.Math.min.code 2 (some .int), Cond.methodLink RX0 22 yX0_slotAt, Cond.instanceMethod yX0_slotAt, Cond.selects RX0 yX0_slotAt yX0_slotAt, Cond.code yX0_slotAt cX0_slotAt 2 (some (.object "CrochetRounds$Piece")), Cond.fieldLink RX0 11 "CrochetRounds$History" "slots" "[LCrochetRounds$Piece;", Cond.methodLink RX0 26 yX4_takeOver, Cond.instanceMethod yX4_takeOver, Cond.selects RX4 yX4_takeOver yX4_takeOver, Cond.code yX4_takeOver cX4_takeOver 3 none, Cond.fieldLink RX4 33 "CrochetRounds$Piece" "spiral" "Z", Cond.fieldLink RX4 20 "CrochetRounds$Piece" "works" "LCrochetRounds$Numbers;", Cond.fieldLink RX4 26 "CrochetRounds$Piece" "yarn" "LCrochetRounds$Numbers;", Cond.fieldLink RX4 14 "CrochetRounds$Piece" "kinds" "LCrochetRounds$Numbers;", Cond.methodLink RX4 37 yX2_take, Cond.instanceMethod yX2_take, Cond.selects RX2 yX2_take yX2_take, Cond.code yX2_take cX2_take 5 none, Cond.methodLink RX2 13 yX2_at, Cond.methodLink RX2 17 yX2_put, Cond.methodLink RX6 94 yX6_addPlanned, Cond.instanceMethod yX6_addPlanned]
def wsX6_addShifted_r5 : List Cond := [Cond.selects RX6 yX6_addPlanned yX6_addPlanned, Cond.code yX6_addPlanned cX6_addPlanned 3 (some .int), Cond.fieldLink RX6 40 "CrochetRounds" "makers" "LCrochetRounds$Makers;", Cond.fieldLink RX6 159 "CrochetRounds$Plan" "row" "LCrochetRounds$Numbers;", Cond.fieldLink RX6 162 "CrochetRounds$Plan" "works" "I", Cond.methodLink RX6 155 yX1_load, Cond.instanceMethod yX1_load, Cond.selects RX1 yX1_load yX1_load, Cond.initialized RX1, Cond.code yX1_load cX1_load 7 none, Cond.fieldLink RX1 20 "CrochetRounds$Piece" "works" "LCrochetRounds$Numbers;", Cond.fieldLink RX1 29 "CrochetRounds$Piece" "kinds" "LCrochetRounds$Numbers;", Cond.fieldLink RX1 14 "CrochetRounds$Makers" "kinds" "LCrochetRounds$Numbers;", Cond.methodLink RX1 25 yX2_at, Cond.methodLink RX1 30 yX2_put, Cond.static yX6_madeBy, Cond.code yX6_madeBy cX6_madeBy 1 (some .int), Cond.methodLink RX6 164 yX1_stackedIn, Cond.instanceMethod yX1_stackedIn, Cond.selects RX1 yX1_stackedIn yX1_stackedIn, Cond.code yX1_stackedIn cX1_stackedIn 11 (some .int), Cond.static yX6_usedBy, Cond.code yX6_usedBy cX6_usedBy 1 (some .int), Cond.methodLink RX6 243 yX6_addRow]
def wsX6_addShifted_r6 : List Cond := [Cond.instanceMethod yX6_addRow, Cond.selects RX6 yX6_addRow yX6_addRow, Cond.code yX6_addRow cX6_addRow 4 none, Cond.methodLink RX6 246 yX4_openRound, Cond.instanceMethod yX4_openRound, Cond.selects RX4 yX4_openRound yX4_openRound, Cond.code yX4_openRound cX4_openRound 1 none, Cond.methodLink RX4 54 yX2_put, Cond.methodLink RX6 114 yX2_at, Cond.methodLink RX6 249 yX4_addWork, Cond.instanceMethod yX4_addWork, Cond.selects RX4 yX4_addWork yX4_addWork, Cond.code yX4_addWork cX4_addWork 3 none, Cond.methodLink RX6 252 yX4_closeRound, Cond.instanceMethod yX4_closeRound, Cond.selects RX4 yX4_closeRound yX4_closeRound, Cond.code yX4_closeRound cX4_closeRound 1 none]
def wsX6_addShifted : List Cond := .code yX6_addShifted cX6_addShifted 3 (some .int) :: ((wsX6_addShifted_r1 ++ (wsX6_addShifted_r2 ++ (wsX6_addShifted_r3 ++ (wsX6_addShifted_r4 ++ (wsX6_addShifted_r5 ++ wsX6_addShifted_r6))))) ++ wsX60 ++ wsX40 ++ wsX20 ++ wsX50 ++ wsX00 ++ wsX10 ++ (vx_atS RX6 221 "java/lang/IllegalArgumentException" ["java/lang/RuntimeException", "java/lang/Exception"]).filter goodWord ++ (vx_atS RX6 228 "java/lang/IllegalStateException" ["java/lang/RuntimeException", "java/lang/Exception"]).filter goodWord ++ (vx_atS RX6 233 "java/lang/UnsupportedOperationException" ["java/lang/RuntimeException", "java/lang/Exception"]).filter goodWord)
def wsX6_addMirrored_r1 : List Cond := [Cond.fieldLink RX6 33 "CrochetRounds" "plan" "LCrochetRounds$Plan;", Cond.fieldLink RX6 10 "CrochetRounds" "piece" "LCrochetRounds$Piece;", Cond.fieldLink RX6 19 "CrochetRounds" "history" "LCrochetRounds$History;", Cond.methodLink RX6 70 yX6_isGoal, Cond.static yX6_isGoal, Cond.initialized RX6, Cond.code yX6_isGoal cX6_isGoal 1 (some .boolean), Cond.methodLink RX6 58 yX6_checkArgument, Cond.static yX6_checkArgument, Cond.code yX6_checkArgument cX6_checkArgument 1 none, Cond.classLink RX6 217 "java/lang/IllegalArgumentException", Cond.initialized "java/lang/IllegalArgumentException", Cond.methodLink RX6 74 yX6_checkRoom, Cond.instanceMethod yX6_checkRoom, Cond.selects RX6 yX6_checkRoom yX6_checkRoom, Cond.code yX6_checkRoom cX6_checkRoom 1 none, Cond.fieldLink RX6 62 "CrochetRounds$Piece" "rounds" "I", Cond.methodLink RX6 111 yX6_checkState, Cond.static yX6_checkState, Cond.code yX6_checkState cX6_checkState 1 none, Cond.classLink RX6 224 "java/lang/IllegalStateException", Cond.initialized "java/lang/IllegalStateException", Cond.methodLink RX6 77 yX4_lastTotal, Cond.instanceMethod yX4_lastTotal]
def wsX6_addMirrored_r2 : List Cond := [Cond.selects RX4 yX4_lastTotal yX4_lastTotal, Cond.initialized RX4, Cond.code yX4_lastTotal cX4_lastTotal 1 (some .int), Cond.fieldLink RX4 23 "CrochetRounds$Piece" "totals" "LCrochetRounds$Numbers;", Cond.fieldLink RX4 29 "CrochetRounds$Piece" "rounds" "I", Cond.methodLink RX4 41 yX2_at, Cond.instanceMethod yX2_at, Cond.selects RX2 yX2_at yX2_at, Cond.initialized RX2, Cond.code yX2_at cX2_at 2 (some .int), Cond.fieldLink RX2 7 "CrochetRounds$Numbers" "held" "[I", Cond.methodLink RX6 98 yX5_mirror, Cond.instanceMethod yX5_mirror, Cond.selects RX5 yX5_mirror yX5_mirror, Cond.initialized RX5, Cond.code yX5_mirror cX5_mirror 8 (some .boolean), Cond.fieldLink RX5 24 "CrochetRounds$Plan" "works" "I", Cond.fieldLink RX5 28 "CrochetRounds$Plan" "shaped" "I", Cond.fieldLink RX5 14 "CrochetRounds$Plan" "row" "LCrochetRounds$Numbers;", Cond.fieldLink RX5 39 "CrochetRounds$Plan" "kind" "I", Cond.methodLink RX5 20 yX5_measure, Cond.instanceMethod yX5_measure, Cond.selects RX5 yX5_measure yX5_measure, Cond.code yX5_measure cX5_measure 3 (some .boolean)]
def wsX6_addMirrored_r3 : List Cond := [Cond.methodLink RX5 31 yX5_spreadKind, Cond.instanceMethod yX5_spreadKind, Cond.selects RX5 yX5_spreadKind yX5_spreadKind, Cond.code yX5_spreadKind cX5_spreadKind 4 (some .int), Cond.methodLink RX5 35 yX2_put, Cond.instanceMethod yX2_put, Cond.selects RX2 yX2_put yX2_put, Cond.code yX2_put cX2_put 3 none, Cond.methodLink RX6 85 yX6_checkPossible, Cond.static yX6_checkPossible, Cond.code yX6_checkPossible cX6_checkPossible 1 none, Cond.classLink RX6 229 "java/lang/UnsupportedOperationException", Cond.initialized "java/lang/UnsupportedOperationException", Cond.methodLink RX6 66 yX0_keep, Cond.instanceMethod yX0_keep, Cond.selects RX0 yX0_keep yX0_keep, Cond.initialized RX0, Cond.code yX0_keep cX0_keep 3 none, Cond.fieldLink RX0 18 "CrochetRounds$History" "next" "I", Cond.fieldLink RX0 30 "CrochetRounds$History" "size" "I", Cond.methodLink RX0 33 Lib.Math.min.name, Cond.static Lib.Math.min.name, Cond.initialized "java/lang/Math", Cond.code Lib.Math.min.name Lib.Math.min.code 2 (some .int)]
def wsX6_addMirrored_r4 : List Cond := [Cond.methodLink RX0 22 yX0_slotAt, Cond.instanceMethod yX0_slotAt, Cond.selects RX0 yX0_slotAt yX0_slotAt, Cond.code yX0_slotAt cX0_slotAt 2 (some (.object "CrochetRounds$Piece")), Cond.fieldLink RX0 11 "CrochetRounds$History" "slots" "[LCrochetRounds$Piece;", Cond.methodLink RX0 26 yX4_takeOver, Cond.instanceMethod yX4_takeOver, Cond.selects RX4 yX4_takeOver yX4_takeOver, Cond.code yX4_takeOver cX4_takeOver 3 none, Cond.fieldLink RX4 33 "CrochetRounds$Piece" "spiral" "Z", Cond.fieldLink RX4 20 "CrochetRounds$Piece" "works" "LCrochetRounds$Numbers;", Cond.fieldLink RX4 26 "CrochetRounds$Piece" "yarn" "LCrochetRounds$Numbers;", Cond.fieldLink RX4 14 "CrochetRounds$Piece" "kinds" "LCrochetRounds$Numbers;", Cond.methodLink RX4 37 yX2_take, Cond.instanceMethod yX2_take, Cond.selects RX2 yX2_take yX2_take, Cond.code yX2_take cX2_take 5 none, Cond.methodLink RX2 13 yX2_at, Cond.methodLink RX2 17 yX2_put, Cond.methodLink RX6 94 yX6_addPlanned, Cond.instanceMethod yX6_addPlanned, Cond.selects RX6 yX6_addPlanned yX6_addPlanned, Cond.code yX6_addPlanned cX6_addPlanned 3 (some .int), Cond.fieldLink RX6 40 "CrochetRounds" "makers" "LCrochetRounds$Makers;"]
def wsX6_addMirrored_r5 : List Cond := [Cond.fieldLink RX6 159 "CrochetRounds$Plan" "row" "LCrochetRounds$Numbers;", Cond.fieldLink RX6 162 "CrochetRounds$Plan" "works" "I", Cond.methodLink RX6 155 yX1_load, Cond.instanceMethod yX1_load, Cond.selects RX1 yX1_load yX1_load, Cond.initialized RX1, Cond.code yX1_load cX1_load 7 none, Cond.fieldLink RX1 20 "CrochetRounds$Piece" "works" "LCrochetRounds$Numbers;", Cond.fieldLink RX1 29 "CrochetRounds$Piece" "kinds" "LCrochetRounds$Numbers;", Cond.fieldLink RX1 14 "CrochetRounds$Makers" "kinds" "LCrochetRounds$Numbers;", Cond.methodLink RX1 25 yX2_at, Cond.methodLink RX1 30 yX2_put, Cond.static yX6_madeBy, Cond.code yX6_madeBy cX6_madeBy 1 (some .int), Cond.methodLink RX6 164 yX1_stackedIn, Cond.instanceMethod yX1_stackedIn, Cond.selects RX1 yX1_stackedIn yX1_stackedIn, Cond.code yX1_stackedIn cX1_stackedIn 11 (some .int), Cond.static yX6_usedBy, Cond.code yX6_usedBy cX6_usedBy 1 (some .int), Cond.methodLink RX6 243 yX6_addRow, Cond.instanceMethod yX6_addRow, Cond.selects RX6 yX6_addRow yX6_addRow, Cond.code yX6_addRow cX6_addRow 4 none]
def wsX6_addMirrored_r6 : List Cond := [Cond.methodLink RX6 246 yX4_openRound, Cond.instanceMethod yX4_openRound, Cond.selects RX4 yX4_openRound yX4_openRound, Cond.code yX4_openRound cX4_openRound 1 none, Cond.methodLink RX4 54 yX2_put, Cond.methodLink RX6 114 yX2_at, Cond.methodLink RX6 249 yX4_addWork, Cond.instanceMethod yX4_addWork, Cond.selects RX4 yX4_addWork yX4_addWork, Cond.code yX4_addWork cX4_addWork 3 none, Cond.methodLink RX6 252 yX4_closeRound, Cond.instanceMethod yX4_closeRound, Cond.selects RX4 yX4_closeRound yX4_closeRound, Cond.code yX4_closeRound cX4_closeRound 1 none]
def wsX6_addMirrored : List Cond := .code yX6_addMirrored cX6_addMirrored 2 (some .int) :: ((wsX6_addMirrored_r1 ++ (wsX6_addMirrored_r2 ++ (wsX6_addMirrored_r3 ++ (wsX6_addMirrored_r4 ++ (wsX6_addMirrored_r5 ++ wsX6_addMirrored_r6))))) ++ wsX60 ++ wsX40 ++ wsX20 ++ wsX50 ++ wsX00 ++ wsX10 ++ (vx_atS RX6 221 "java/lang/IllegalArgumentException" ["java/lang/RuntimeException", "java/lang/Exception"]).filter goodWord ++ (vx_atS RX6 228 "java/lang/IllegalStateException" ["java/lang/RuntimeException", "java/lang/Exception"]).filter goodWord ++ (vx_atS RX6 233 "java/lang/UnsupportedOperationException" ["java/lang/RuntimeException", "java/lang/Exception"]).filter goodWord)
def wsX6_isShape : List Cond := .code yX6_isShape cX6_isShape 1 (some .boolean) :: ([])
def wsX6_isSize : List Cond := .code yX6_isSize cX6_isSize 1 (some .boolean) :: ([])
def wsX6_doubled : List Cond := .code yX6_doubled cX6_doubled 4 (some .int) :: ([])
def wsX6_rawGoal : List Cond := .code yX6_rawGoal cX6_rawGoal 4 (some .int) :: ([.methodLink RX6 286 Lib.Math.min.name, .static Lib.Math.min.name, .initialized "java/lang/Math", .code Lib.Math.min.name Lib.Math.min.code 2 (some .int), .methodLink RX6 294 yX6_doubled, .static yX6_doubled, .initialized RX6, .code yX6_doubled cX6_doubled 4 (some .int)])
def wsX6_shapeGoal : List Cond := .code yX6_shapeGoal cX6_shapeGoal 5 (some .int) :: ([.fieldLink RX6 10 "CrochetRounds" "piece" "LCrochetRounds$Piece;", .fieldLink RX6 146 "CrochetRounds$Piece" "totals" "LCrochetRounds$Numbers;", .methodLink RX6 286 Lib.Math.min.name, .static Lib.Math.min.name, .initialized "java/lang/Math", .code Lib.Math.min.name Lib.Math.min.code 2 (some .int), .methodLink RX6 291 Lib.Math.max.name, .static Lib.Math.max.name, .code Lib.Math.max.name Lib.Math.max.code 2 (some .int), .methodLink RX6 114 yX2_at, .instanceMethod yX2_at, .selects RX2 yX2_at yX2_at, .initialized RX2, .code yX2_at cX2_at 2 (some .int), .fieldLink RX2 7 "CrochetRounds$Numbers" "held" "[I", .methodLink RX6 282 yX6_rawGoal, .static yX6_rawGoal, .initialized RX6, .code yX6_rawGoal cX6_rawGoal 4 (some .int), .methodLink RX6 294 yX6_doubled, .static yX6_doubled, .code yX6_doubled cX6_doubled 4 (some .int)] ++ wsX60 ++ wsX40 ++ wsX20)
def wsX6_addShape_r1 : List Cond := [Cond.fieldLink RX6 19 "CrochetRounds" "history" "LCrochetRounds$History;", Cond.fieldLink RX6 10 "CrochetRounds" "piece" "LCrochetRounds$Piece;", Cond.fieldLink RX6 62 "CrochetRounds$Piece" "rounds" "I", Cond.fieldLink RX6 33 "CrochetRounds" "plan" "LCrochetRounds$Plan;", Cond.methodLink RX6 101 yX6_isShape, Cond.static yX6_isShape, Cond.initialized RX6, Cond.code yX6_isShape cX6_isShape 1 (some .boolean), Cond.methodLink RX6 104 yX6_isSize, Cond.static yX6_isSize, Cond.code yX6_isSize cX6_isSize 1 (some .boolean), Cond.methodLink RX6 58 yX6_checkArgument, Cond.static yX6_checkArgument, Cond.code yX6_checkArgument cX6_checkArgument 1 none, Cond.classLink RX6 217 "java/lang/IllegalArgumentException", Cond.initialized "java/lang/IllegalArgumentException", Cond.methodLink RX6 66 yX0_keep, Cond.instanceMethod yX0_keep, Cond.selects RX0 yX0_keep yX0_keep, Cond.initialized RX0, Cond.code yX0_keep cX0_keep 3 none, Cond.fieldLink RX0 18 "CrochetRounds$History" "next" "I", Cond.fieldLink RX0 30 "CrochetRounds$History" "size" "I", Cond.methodLink RX0 33 Lib.Math.min.name]
def wsX6_addShape_r2 : List Cond := [Cond.static Lib.Math.min.name, Cond.initialized "java/lang/Math", Cond.code Lib.Math.min.name Lib.Math.min.code 2 (some .int), Cond.methodLink RX0 22 yX0_slotAt, Cond.instanceMethod yX0_slotAt, Cond.selects RX0 yX0_slotAt yX0_slotAt, Cond.code yX0_slotAt cX0_slotAt 2 (some (.object "CrochetRounds$Piece")), Cond.fieldLink RX0 11 "CrochetRounds$History" "slots" "[LCrochetRounds$Piece;", Cond.methodLink RX0 26 yX4_takeOver, Cond.instanceMethod yX4_takeOver, Cond.selects RX4 yX4_takeOver yX4_takeOver, Cond.initialized RX4, Cond.code yX4_takeOver cX4_takeOver 3 none, Cond.fieldLink RX4 29 "CrochetRounds$Piece" "rounds" "I", Cond.fieldLink RX4 33 "CrochetRounds$Piece" "spiral" "Z", Cond.fieldLink RX4 20 "CrochetRounds$Piece" "works" "LCrochetRounds$Numbers;", Cond.fieldLink RX4 23 "CrochetRounds$Piece" "totals" "LCrochetRounds$Numbers;", Cond.fieldLink RX4 26 "CrochetRounds$Piece" "yarn" "LCrochetRounds$Numbers;", Cond.fieldLink RX4 14 "CrochetRounds$Piece" "kinds" "LCrochetRounds$Numbers;", Cond.methodLink RX4 37 yX2_take, Cond.instanceMethod yX2_take, Cond.selects RX2 yX2_take yX2_take, Cond.initialized RX2, Cond.code yX2_take cX2_take 5 none]
def wsX6_addShape_r3 : List Cond := [Cond.methodLink RX2 13 yX2_at, Cond.instanceMethod yX2_at, Cond.selects RX2 yX2_at yX2_at, Cond.code yX2_at cX2_at 2 (some .int), Cond.fieldLink RX2 7 "CrochetRounds$Numbers" "held" "[I", Cond.methodLink RX2 17 yX2_put, Cond.instanceMethod yX2_put, Cond.selects RX2 yX2_put yX2_put, Cond.code yX2_put cX2_put 3 none, Cond.methodLink RX4 41 yX2_at, Cond.methodLink RX6 107 yX6_shapeGoal, Cond.instanceMethod yX6_shapeGoal, Cond.selects RX6 yX6_shapeGoal yX6_shapeGoal, Cond.code yX6_shapeGoal cX6_shapeGoal 5 (some .int), Cond.fieldLink RX6 146 "CrochetRounds$Piece" "totals" "LCrochetRounds$Numbers;", Cond.methodLink RX6 286 Lib.Math.min.name, Cond.methodLink RX6 291 Lib.Math.max.name, Cond.static Lib.Math.max.name, Cond.code Lib.Math.max.name Lib.Math.max.code 2 (some .int), Cond.methodLink RX6 114 yX2_at, Cond.methodLink RX6 282 yX6_rawGoal, Cond.static yX6_rawGoal, Cond.code yX6_rawGoal cX6_rawGoal 4 (some .int), Cond.methodLink RX6 294 yX6_doubled]
def wsX6_addShape_r4 : List Cond := [Cond.static yX6_doubled, Cond.code yX6_doubled cX6_doubled 4 (some .int), Cond.methodLink RX6 77 yX4_lastTotal, Cond.instanceMethod yX4_lastTotal, Cond.selects RX4 yX4_lastTotal yX4_lastTotal, Cond.code yX4_lastTotal cX4_lastTotal 1 (some .int), Cond.methodLink RX6 81 yX5_spread, Cond.instanceMethod yX5_spread, Cond.selects RX5 yX5_spread yX5_spread, Cond.initialized RX5, Cond.code yX5_spread cX5_spread 4 (some .boolean), Cond.fieldLink RX5 24 "CrochetRounds$Plan" "works" "I", Cond.fieldLink RX5 14 "CrochetRounds$Plan" "row" "LCrochetRounds$Numbers;", Cond.fieldLink RX5 28 "CrochetRounds$Plan" "shaped" "I", Cond.methodLink RX5 20 yX5_measure, Cond.instanceMethod yX5_measure, Cond.selects RX5 yX5_measure yX5_measure, Cond.code yX5_measure cX5_measure 3 (some .boolean), Cond.fieldLink RX5 39 "CrochetRounds$Plan" "kind" "I", Cond.methodLink RX5 31 yX5_spreadKind, Cond.instanceMethod yX5_spreadKind, Cond.selects RX5 yX5_spreadKind yX5_spreadKind, Cond.code yX5_spreadKind cX5_spreadKind 4 (some .int), Cond.methodLink RX5 35 yX2_put]
def wsX6_addShape_r5 : List Cond := [Cond.methodLink RX6 88 yX6_addBest, Cond.instanceMethod yX6_addBest, Cond.selects RX6 yX6_addBest yX6_addBest, Cond.code yX6_addBest cX6_addBest 2 (some .int), Cond.fieldLink RX6 40 "CrochetRounds" "makers" "LCrochetRounds$Makers;", Cond.methodLink RX6 155 yX1_load, Cond.instanceMethod yX1_load, Cond.selects RX1 yX1_load yX1_load, Cond.initialized RX1, Cond.code yX1_load cX1_load 7 none, Cond.fieldLink RX1 20 "CrochetRounds$Piece" "works" "LCrochetRounds$Numbers;", Cond.fieldLink RX1 29 "CrochetRounds$Piece" "kinds" "LCrochetRounds$Numbers;", Cond.fieldLink RX1 14 "CrochetRounds$Makers" "kinds" "LCrochetRounds$Numbers;", Cond.methodLink RX1 25 yX2_at, Cond.methodLink RX1 30 yX2_put, Cond.static yX6_madeBy, Cond.code yX6_madeBy cX6_madeBy 1 (some .int), Cond.methodLink RX6 239 yX1_bestShift, Cond.instanceMethod yX1_bestShift, Cond.selects RX1 yX1_bestShift yX1_bestShift, Cond.code yX1_bestShift cX1_bestShift 6 (some .int), Cond.fieldLink RX1 40 "CrochetRounds$Plan" "row" "LCrochetRounds$Numbers;", Cond.fieldLink RX1 45 "CrochetRounds$Plan" "works" "I", Cond.methodLink RX1 48 yX1_stackedIn]
def wsX6_addShape_r6 : List Cond := [Cond.instanceMethod yX1_stackedIn, Cond.selects RX1 yX1_stackedIn yX1_stackedIn, Cond.code yX1_stackedIn cX1_stackedIn 11 (some .int), Cond.static yX6_usedBy, Cond.code yX6_usedBy cX6_usedBy 1 (some .int), Cond.methodLink RX6 243 yX6_addRow, Cond.instanceMethod yX6_addRow, Cond.selects RX6 yX6_addRow yX6_addRow, Cond.code yX6_addRow cX6_addRow 4 none, Cond.fieldLink RX6 162 "CrochetRounds$Plan" "works" "I", Cond.fieldLink RX6 159 "CrochetRounds$Plan" "row" "LCrochetRounds$Numbers;", Cond.methodLink RX6 246 yX4_openRound, Cond.instanceMethod yX4_openRound, Cond.selects RX4 yX4_openRound yX4_openRound, Cond.code yX4_openRound cX4_openRound 1 none, Cond.methodLink RX4 54 yX2_put, Cond.methodLink RX6 249 yX4_addWork, Cond.instanceMethod yX4_addWork, Cond.selects RX4 yX4_addWork yX4_addWork, Cond.code yX4_addWork cX4_addWork 3 none, Cond.methodLink RX6 252 yX4_closeRound, Cond.instanceMethod yX4_closeRound, Cond.selects RX4 yX4_closeRound yX4_closeRound, Cond.code yX4_closeRound cX4_closeRound 1 none]
def wsX6_addShape : List Cond := .code yX6_addShape cX6_addShape 6 (some .int) :: ((wsX6_addShape_r1 ++ (wsX6_addShape_r2 ++ (wsX6_addShape_r3 ++ (wsX6_addShape_r4 ++ (wsX6_addShape_r5 ++ wsX6_addShape_r6))))) ++ wsX60 ++ wsX40 ++ wsX00 ++ wsX20 ++ wsX50 ++ wsX10 ++ (vx_atS RX6 221 "java/lang/IllegalArgumentException" ["java/lang/RuntimeException", "java/lang/Exception"]).filter goodWord)
def wsX6_rip_r1 : List Cond := [Cond.fieldLink RX6 10 "CrochetRounds" "piece" "LCrochetRounds$Piece;", Cond.fieldLink RX6 62 "CrochetRounds$Piece" "rounds" "I", Cond.fieldLink RX6 19 "CrochetRounds" "history" "LCrochetRounds$History;", Cond.methodLink RX6 58 yX6_checkArgument, Cond.static yX6_checkArgument, Cond.initialized RX6, Cond.code yX6_checkArgument cX6_checkArgument 1 none, Cond.classLink RX6 217 "java/lang/IllegalArgumentException", Cond.initialized "java/lang/IllegalArgumentException", Cond.methodLink RX6 111 yX6_checkState, Cond.static yX6_checkState, Cond.code yX6_checkState cX6_checkState 1 none, Cond.classLink RX6 224 "java/lang/IllegalStateException", Cond.initialized "java/lang/IllegalStateException", Cond.methodLink RX6 66 yX0_keep, Cond.instanceMethod yX0_keep, Cond.selects RX0 yX0_keep yX0_keep, Cond.initialized RX0, Cond.code yX0_keep cX0_keep 3 none, Cond.fieldLink RX0 18 "CrochetRounds$History" "next" "I", Cond.fieldLink RX0 30 "CrochetRounds$History" "size" "I", Cond.methodLink RX0 33 Lib.Math.min.name, Cond.static Lib.Math.min.name, Cond.initialized "java/lang/Math"]
def wsX6_rip_r2 : List Cond := [Cond.code Lib.Math.min.name Lib.Math.min.code 2 (some .int), Cond.methodLink RX0 22 yX0_slotAt, Cond.instanceMethod yX0_slotAt, Cond.selects RX0 yX0_slotAt yX0_slotAt, Cond.code yX0_slotAt cX0_slotAt 2 (some (.object "CrochetRounds$Piece")), Cond.fieldLink RX0 11 "CrochetRounds$History" "slots" "[LCrochetRounds$Piece;", Cond.methodLink RX0 26 yX4_takeOver, Cond.instanceMethod yX4_takeOver, Cond.selects RX4 yX4_takeOver yX4_takeOver, Cond.initialized RX4, Cond.code yX4_takeOver cX4_takeOver 3 none, Cond.fieldLink RX4 29 "CrochetRounds$Piece" "rounds" "I", Cond.fieldLink RX4 33 "CrochetRounds$Piece" "spiral" "Z", Cond.fieldLink RX4 20 "CrochetRounds$Piece" "works" "LCrochetRounds$Numbers;", Cond.fieldLink RX4 23 "CrochetRounds$Piece" "totals" "LCrochetRounds$Numbers;", Cond.fieldLink RX4 26 "CrochetRounds$Piece" "yarn" "LCrochetRounds$Numbers;", Cond.fieldLink RX4 14 "CrochetRounds$Piece" "kinds" "LCrochetRounds$Numbers;", Cond.methodLink RX4 37 yX2_take, Cond.instanceMethod yX2_take, Cond.selects RX2 yX2_take yX2_take, Cond.initialized RX2, Cond.code yX2_take cX2_take 5 none, Cond.methodLink RX2 13 yX2_at, Cond.instanceMethod yX2_at]
def wsX6_rip_r3 : List Cond := [Cond.selects RX2 yX2_at yX2_at, Cond.code yX2_at cX2_at 2 (some .int), Cond.fieldLink RX2 7 "CrochetRounds$Numbers" "held" "[I", Cond.methodLink RX2 17 yX2_put, Cond.instanceMethod yX2_put, Cond.selects RX2 yX2_put yX2_put, Cond.code yX2_put cX2_put 3 none, Cond.methodLink RX4 41 yX2_at, Cond.methodLink RX6 77 yX4_lastTotal, Cond.instanceMethod yX4_lastTotal, Cond.selects RX4 yX4_lastTotal yX4_lastTotal, Cond.code yX4_lastTotal cX4_lastTotal 1 (some .int)]
def wsX6_rip : List Cond := .code yX6_rip cX6_rip 2 (some .int) :: ((wsX6_rip_r1 ++ (wsX6_rip_r2 ++ wsX6_rip_r3)) ++ wsX60 ++ wsX40 ++ wsX00 ++ wsX20 ++ (vx_atS RX6 221 "java/lang/IllegalArgumentException" ["java/lang/RuntimeException", "java/lang/Exception"]).filter goodWord ++ (vx_atS RX6 228 "java/lang/IllegalStateException" ["java/lang/RuntimeException", "java/lang/Exception"]).filter goodWord)
def wsX6_setYarn_r1 : List Cond := [Cond.fieldLink RX6 19 "CrochetRounds" "history" "LCrochetRounds$History;", Cond.fieldLink RX6 10 "CrochetRounds" "piece" "LCrochetRounds$Piece;", Cond.fieldLink RX6 44 "CrochetRounds$Piece" "yarn" "LCrochetRounds$Numbers;", Cond.methodLink RX6 58 yX6_checkArgument, Cond.static yX6_checkArgument, Cond.initialized RX6, Cond.code yX6_checkArgument cX6_checkArgument 1 none, Cond.classLink RX6 217 "java/lang/IllegalArgumentException", Cond.initialized "java/lang/IllegalArgumentException", Cond.methodLink RX6 66 yX0_keep, Cond.instanceMethod yX0_keep, Cond.selects RX0 yX0_keep yX0_keep, Cond.initialized RX0, Cond.code yX0_keep cX0_keep 3 none, Cond.fieldLink RX0 18 "CrochetRounds$History" "next" "I", Cond.fieldLink RX0 30 "CrochetRounds$History" "size" "I", Cond.methodLink RX0 33 Lib.Math.min.name, Cond.static Lib.Math.min.name, Cond.initialized "java/lang/Math", Cond.code Lib.Math.min.name Lib.Math.min.code 2 (some .int), Cond.methodLink RX0 22 yX0_slotAt, Cond.instanceMethod yX0_slotAt, Cond.selects RX0 yX0_slotAt yX0_slotAt, Cond.code yX0_slotAt cX0_slotAt 2 (some (.object "CrochetRounds$Piece"))]
def wsX6_setYarn_r2 : List Cond := [Cond.fieldLink RX0 11 "CrochetRounds$History" "slots" "[LCrochetRounds$Piece;", Cond.methodLink RX0 26 yX4_takeOver, Cond.instanceMethod yX4_takeOver, Cond.selects RX4 yX4_takeOver yX4_takeOver, Cond.initialized RX4, Cond.code yX4_takeOver cX4_takeOver 3 none, Cond.fieldLink RX4 29 "CrochetRounds$Piece" "rounds" "I", Cond.fieldLink RX4 33 "CrochetRounds$Piece" "spiral" "Z", Cond.fieldLink RX4 20 "CrochetRounds$Piece" "works" "LCrochetRounds$Numbers;", Cond.fieldLink RX4 23 "CrochetRounds$Piece" "totals" "LCrochetRounds$Numbers;", Cond.fieldLink RX4 26 "CrochetRounds$Piece" "yarn" "LCrochetRounds$Numbers;", Cond.fieldLink RX4 14 "CrochetRounds$Piece" "kinds" "LCrochetRounds$Numbers;", Cond.methodLink RX4 37 yX2_take, Cond.instanceMethod yX2_take, Cond.selects RX2 yX2_take yX2_take, Cond.initialized RX2, Cond.code yX2_take cX2_take 5 none, Cond.methodLink RX2 13 yX2_at, Cond.instanceMethod yX2_at, Cond.selects RX2 yX2_at yX2_at, Cond.code yX2_at cX2_at 2 (some .int), Cond.fieldLink RX2 7 "CrochetRounds$Numbers" "held" "[I", Cond.methodLink RX2 17 yX2_put, Cond.instanceMethod yX2_put]
def wsX6_setYarn_r3 : List Cond := [Cond.selects RX2 yX2_put yX2_put, Cond.code yX2_put cX2_put 3 none, Cond.methodLink RX4 41 yX2_at, Cond.methodLink RX6 114 yX2_at, Cond.methodLink RX6 48 yX2_put]
def wsX6_setYarn : List Cond := .code yX6_setYarn cX6_setYarn 4 (some .int) :: ((wsX6_setYarn_r1 ++ (wsX6_setYarn_r2 ++ wsX6_setYarn_r3)) ++ wsX60 ++ wsX40 ++ wsX00 ++ wsX20 ++ (vx_atS RX6 221 "java/lang/IllegalArgumentException" ["java/lang/RuntimeException", "java/lang/Exception"]).filter goodWord)
def wsX6_setSpiral_r1 : List Cond := [Cond.fieldLink RX6 19 "CrochetRounds" "history" "LCrochetRounds$History;", Cond.fieldLink RX6 10 "CrochetRounds" "piece" "LCrochetRounds$Piece;", Cond.fieldLink RX6 117 "CrochetRounds$Piece" "spiral" "Z", Cond.methodLink RX6 66 yX0_keep, Cond.instanceMethod yX0_keep, Cond.selects RX0 yX0_keep yX0_keep, Cond.initialized RX0, Cond.code yX0_keep cX0_keep 3 none, Cond.fieldLink RX0 18 "CrochetRounds$History" "next" "I", Cond.fieldLink RX0 30 "CrochetRounds$History" "size" "I", Cond.methodLink RX0 33 Lib.Math.min.name, Cond.static Lib.Math.min.name, Cond.initialized "java/lang/Math", Cond.code Lib.Math.min.name Lib.Math.min.code 2 (some .int), Cond.methodLink RX0 22 yX0_slotAt, Cond.instanceMethod yX0_slotAt, Cond.selects RX0 yX0_slotAt yX0_slotAt, Cond.code yX0_slotAt cX0_slotAt 2 (some (.object "CrochetRounds$Piece")), Cond.fieldLink RX0 11 "CrochetRounds$History" "slots" "[LCrochetRounds$Piece;", Cond.methodLink RX0 26 yX4_takeOver, Cond.instanceMethod yX4_takeOver, Cond.selects RX4 yX4_takeOver yX4_takeOver, Cond.initialized RX4, Cond.code yX4_takeOver cX4_takeOver 3 none]
def wsX6_setSpiral_r2 : List Cond := [Cond.fieldLink RX4 29 "CrochetRounds$Piece" "rounds" "I", Cond.fieldLink RX4 33 "CrochetRounds$Piece" "spiral" "Z", Cond.fieldLink RX4 20 "CrochetRounds$Piece" "works" "LCrochetRounds$Numbers;", Cond.fieldLink RX4 23 "CrochetRounds$Piece" "totals" "LCrochetRounds$Numbers;", Cond.fieldLink RX4 26 "CrochetRounds$Piece" "yarn" "LCrochetRounds$Numbers;", Cond.fieldLink RX4 14 "CrochetRounds$Piece" "kinds" "LCrochetRounds$Numbers;", Cond.methodLink RX4 37 yX2_take, Cond.instanceMethod yX2_take, Cond.selects RX2 yX2_take yX2_take, Cond.initialized RX2, Cond.code yX2_take cX2_take 5 none, Cond.methodLink RX2 13 yX2_at, Cond.instanceMethod yX2_at, Cond.selects RX2 yX2_at yX2_at, Cond.code yX2_at cX2_at 2 (some .int), Cond.fieldLink RX2 7 "CrochetRounds$Numbers" "held" "[I", Cond.methodLink RX2 17 yX2_put, Cond.instanceMethod yX2_put, Cond.selects RX2 yX2_put yX2_put, Cond.code yX2_put cX2_put 3 none, Cond.methodLink RX4 41 yX2_at]
def wsX6_setSpiral : List Cond := .code yX6_setSpiral cX6_setSpiral 3 (some .boolean) :: ((wsX6_setSpiral_r1 ++ wsX6_setSpiral_r2) ++ wsX60 ++ wsX40 ++ wsX00 ++ wsX20)
def wsX6_checkIndex : List Cond := .code yX6_checkIndex cX6_checkIndex 2 none :: ([.classLink RX6 234 "java/lang/IndexOutOfBoundsException", .initialized "java/lang/IndexOutOfBoundsException"] ++ (vx_atS RX6 238 "java/lang/IndexOutOfBoundsException" ["java/lang/RuntimeException", "java/lang/Exception"]).filter goodWord)
def wsX6_stackedOf_r1 : List Cond := [Cond.fieldLink RX6 40 "CrochetRounds" "makers" "LCrochetRounds$Makers;", Cond.fieldLink RX6 10 "CrochetRounds" "piece" "LCrochetRounds$Piece;", Cond.fieldLink RX6 279 "CrochetRounds$Piece" "kinds" "LCrochetRounds$Numbers;", Cond.fieldLink RX6 128 "CrochetRounds$Piece" "works" "LCrochetRounds$Numbers;", Cond.methodLink RX6 155 yX1_load, Cond.instanceMethod yX1_load, Cond.selects RX1 yX1_load yX1_load, Cond.initialized RX1, Cond.code yX1_load cX1_load 7 none, Cond.fieldLink RX1 20 "CrochetRounds$Piece" "works" "LCrochetRounds$Numbers;", Cond.fieldLink RX1 29 "CrochetRounds$Piece" "kinds" "LCrochetRounds$Numbers;", Cond.fieldLink RX1 14 "CrochetRounds$Makers" "kinds" "LCrochetRounds$Numbers;", Cond.methodLink RX1 25 yX2_at, Cond.instanceMethod yX2_at, Cond.selects RX2 yX2_at yX2_at, Cond.initialized RX2, Cond.code yX2_at cX2_at 2 (some .int), Cond.fieldLink RX2 7 "CrochetRounds$Numbers" "held" "[I", Cond.methodLink RX1 30 yX2_put, Cond.instanceMethod yX2_put, Cond.selects RX2 yX2_put yX2_put, Cond.code yX2_put cX2_put 3 none, Cond.static yX6_madeBy, Cond.initialized RX6]
def wsX6_stackedOf_r2 : List Cond := [Cond.code yX6_madeBy cX6_madeBy 1 (some .int), Cond.methodLink RX6 114 yX2_at, Cond.methodLink RX6 164 yX1_stackedIn, Cond.instanceMethod yX1_stackedIn, Cond.selects RX1 yX1_stackedIn yX1_stackedIn, Cond.code yX1_stackedIn cX1_stackedIn 11 (some .int), Cond.static yX6_usedBy, Cond.code yX6_usedBy cX6_usedBy 1 (some .int)]
def wsX6_stackedOf : List Cond := .code yX6_stackedOf cX6_stackedOf 2 (some .int) :: ((wsX6_stackedOf_r1 ++ wsX6_stackedOf_r2) ++ wsX60 ++ wsX40 ++ wsX10 ++ wsX20)
def wsX6_ofRound_r1 : List Cond := [Cond.fieldLink RX6 10 "CrochetRounds" "piece" "LCrochetRounds$Piece;", Cond.fieldLink RX6 146 "CrochetRounds$Piece" "totals" "LCrochetRounds$Numbers;", Cond.fieldLink RX6 128 "CrochetRounds$Piece" "works" "LCrochetRounds$Numbers;", Cond.methodLink RX6 114 yX2_at, Cond.instanceMethod yX2_at, Cond.selects RX2 yX2_at yX2_at, Cond.initialized RX2, Cond.code yX2_at cX2_at 2 (some .int), Cond.fieldLink RX2 7 "CrochetRounds$Numbers" "held" "[I", Cond.methodLink RX6 267 yX4_countOf, Cond.instanceMethod yX4_countOf, Cond.selects RX4 yX4_countOf yX4_countOf, Cond.initialized RX4, Cond.code yX4_countOf cX4_countOf 6 (some .int), Cond.fieldLink RX4 20 "CrochetRounds$Piece" "works" "LCrochetRounds$Numbers;", Cond.methodLink RX4 41 yX2_at, Cond.methodLink RX4 61 yX4_kindOf, Cond.instanceMethod yX4_kindOf, Cond.selects RX4 yX4_kindOf yX4_kindOf, Cond.code yX4_kindOf cX4_kindOf 3 (some .int), Cond.fieldLink RX4 14 "CrochetRounds$Piece" "kinds" "LCrochetRounds$Numbers;", Cond.methodLink RX6 270 yX6_stackedOf, Cond.instanceMethod yX6_stackedOf, Cond.selects RX6 yX6_stackedOf yX6_stackedOf]
def wsX6_ofRound_r2 : List Cond := [Cond.initialized RX6, Cond.code yX6_stackedOf cX6_stackedOf 2 (some .int), Cond.fieldLink RX6 40 "CrochetRounds" "makers" "LCrochetRounds$Makers;", Cond.fieldLink RX6 279 "CrochetRounds$Piece" "kinds" "LCrochetRounds$Numbers;", Cond.methodLink RX6 155 yX1_load, Cond.instanceMethod yX1_load, Cond.selects RX1 yX1_load yX1_load, Cond.initialized RX1, Cond.code yX1_load cX1_load 7 none, Cond.fieldLink RX1 20 "CrochetRounds$Piece" "works" "LCrochetRounds$Numbers;", Cond.fieldLink RX1 29 "CrochetRounds$Piece" "kinds" "LCrochetRounds$Numbers;", Cond.fieldLink RX1 14 "CrochetRounds$Makers" "kinds" "LCrochetRounds$Numbers;", Cond.methodLink RX1 25 yX2_at, Cond.methodLink RX1 30 yX2_put, Cond.instanceMethod yX2_put, Cond.selects RX2 yX2_put yX2_put, Cond.code yX2_put cX2_put 3 none, Cond.static yX6_madeBy, Cond.code yX6_madeBy cX6_madeBy 1 (some .int), Cond.methodLink RX6 164 yX1_stackedIn, Cond.instanceMethod yX1_stackedIn, Cond.selects RX1 yX1_stackedIn yX1_stackedIn, Cond.code yX1_stackedIn cX1_stackedIn 11 (some .int), Cond.static yX6_usedBy]
def wsX6_ofRound_r3 : List Cond := [Cond.code yX6_usedBy cX6_usedBy 1 (some .int), Cond.methodLink RX6 273 yX4_isMirrored, Cond.instanceMethod yX4_isMirrored, Cond.selects RX4 yX4_isMirrored yX4_isMirrored, Cond.code yX4_isMirrored cX4_isMirrored 4 (some .boolean), Cond.methodLink RX6 276 yX4_yarnOf, Cond.instanceMethod yX4_yarnOf, Cond.selects RX4 yX4_yarnOf yX4_yarnOf, Cond.code yX4_yarnOf cX4_yarnOf 5 (some .int), Cond.fieldLink RX4 26 "CrochetRounds$Piece" "yarn" "LCrochetRounds$Numbers;", Cond.methodLink RX6 174 yX4_distance, Cond.instanceMethod yX4_distance, Cond.selects RX4 yX4_distance yX4_distance, Cond.code yX4_distance cX4_distance 8 (some .int), Cond.methodLink RX4 71 yX4_further, Cond.static yX4_further, Cond.code yX4_further cX4_further 3 (some .int), Cond.methodLink RX4 75 Lib.Math.max.name, Cond.static Lib.Math.max.name, Cond.initialized "java/lang/Math", Cond.code Lib.Math.max.name Lib.Math.max.code 2 (some .int), Cond.methodLink RX4 80 Lib.Math.min.name, Cond.static Lib.Math.min.name, Cond.code Lib.Math.min.name Lib.Math.min.code 2 (some .int)]
def wsX6_ofRound : List Cond := .code yX6_ofRound cX6_ofRound 3 (some .int) :: ((wsX6_ofRound_r1 ++ (wsX6_ofRound_r2 ++ wsX6_ofRound_r3)) ++ wsX60 ++ wsX40 ++ wsX20 ++ wsX10)
def wsX6_round_r1 : List Cond := [Cond.fieldLink RX6 10 "CrochetRounds" "piece" "LCrochetRounds$Piece;", Cond.fieldLink RX6 62 "CrochetRounds$Piece" "rounds" "I", Cond.methodLink RX6 121 yX6_checkIndex, Cond.static yX6_checkIndex, Cond.initialized RX6, Cond.code yX6_checkIndex cX6_checkIndex 2 none, Cond.classLink RX6 234 "java/lang/IndexOutOfBoundsException", Cond.initialized "java/lang/IndexOutOfBoundsException", Cond.methodLink RX6 58 yX6_checkArgument, Cond.static yX6_checkArgument, Cond.code yX6_checkArgument cX6_checkArgument 1 none, Cond.classLink RX6 217 "java/lang/IllegalArgumentException", Cond.initialized "java/lang/IllegalArgumentException", Cond.methodLink RX6 124 yX6_ofRound, Cond.instanceMethod yX6_ofRound, Cond.selects RX6 yX6_ofRound yX6_ofRound, Cond.code yX6_ofRound cX6_ofRound 3 (some .int), Cond.fieldLink RX6 146 "CrochetRounds$Piece" "totals" "LCrochetRounds$Numbers;", Cond.fieldLink RX6 128 "CrochetRounds$Piece" "works" "LCrochetRounds$Numbers;", Cond.methodLink RX6 114 yX2_at, Cond.instanceMethod yX2_at, Cond.selects RX2 yX2_at yX2_at, Cond.initialized RX2, Cond.code yX2_at cX2_at 2 (some .int)]
def wsX6_round_r2 : List Cond := [Cond.fieldLink RX2 7 "CrochetRounds$Numbers" "held" "[I", Cond.methodLink RX6 267 yX4_countOf, Cond.instanceMethod yX4_countOf, Cond.selects RX4 yX4_countOf yX4_countOf, Cond.initialized RX4, Cond.code yX4_countOf cX4_countOf 6 (some .int), Cond.fieldLink RX4 20 "CrochetRounds$Piece" "works" "LCrochetRounds$Numbers;", Cond.methodLink RX4 41 yX2_at, Cond.methodLink RX4 61 yX4_kindOf, Cond.instanceMethod yX4_kindOf, Cond.selects RX4 yX4_kindOf yX4_kindOf, Cond.code yX4_kindOf cX4_kindOf 3 (some .int), Cond.fieldLink RX4 14 "CrochetRounds$Piece" "kinds" "LCrochetRounds$Numbers;", Cond.methodLink RX6 270 yX6_stackedOf, Cond.instanceMethod yX6_stackedOf, Cond.selects RX6 yX6_stackedOf yX6_stackedOf, Cond.code yX6_stackedOf cX6_stackedOf 2 (some .int), Cond.fieldLink RX6 40 "CrochetRounds" "makers" "LCrochetRounds$Makers;", Cond.fieldLink RX6 279 "CrochetRounds$Piece" "kinds" "LCrochetRounds$Numbers;", Cond.methodLink RX6 155 yX1_load, Cond.instanceMethod yX1_load, Cond.selects RX1 yX1_load yX1_load, Cond.initialized RX1, Cond.code yX1_load cX1_load 7 none]
def wsX6_round_r3 : List Cond := [Cond.fieldLink RX1 20 "CrochetRounds$Piece" "works" "LCrochetRounds$Numbers;", Cond.fieldLink RX1 29 "CrochetRounds$Piece" "kinds" "LCrochetRounds$Numbers;", Cond.fieldLink RX1 14 "CrochetRounds$Makers" "kinds" "LCrochetRounds$Numbers;", Cond.methodLink RX1 25 yX2_at, Cond.methodLink RX1 30 yX2_put, Cond.instanceMethod yX2_put, Cond.selects RX2 yX2_put yX2_put, Cond.code yX2_put cX2_put 3 none, Cond.static yX6_madeBy, Cond.code yX6_madeBy cX6_madeBy 1 (some .int), Cond.methodLink RX6 164 yX1_stackedIn, Cond.instanceMethod yX1_stackedIn, Cond.selects RX1 yX1_stackedIn yX1_stackedIn, Cond.code yX1_stackedIn cX1_stackedIn 11 (some .int), Cond.static yX6_usedBy, Cond.code yX6_usedBy cX6_usedBy 1 (some .int), Cond.methodLink RX6 273 yX4_isMirrored, Cond.instanceMethod yX4_isMirrored, Cond.selects RX4 yX4_isMirrored yX4_isMirrored, Cond.code yX4_isMirrored cX4_isMirrored 4 (some .boolean), Cond.methodLink RX6 276 yX4_yarnOf, Cond.instanceMethod yX4_yarnOf, Cond.selects RX4 yX4_yarnOf yX4_yarnOf, Cond.code yX4_yarnOf cX4_yarnOf 5 (some .int)]
def wsX6_round_r4 : List Cond := [Cond.fieldLink RX4 26 "CrochetRounds$Piece" "yarn" "LCrochetRounds$Numbers;", Cond.methodLink RX6 174 yX4_distance, Cond.instanceMethod yX4_distance, Cond.selects RX4 yX4_distance yX4_distance, Cond.code yX4_distance cX4_distance 8 (some .int), Cond.methodLink RX4 71 yX4_further, Cond.static yX4_further, Cond.code yX4_further cX4_further 3 (some .int), Cond.methodLink RX4 75 Lib.Math.max.name, Cond.static Lib.Math.max.name, Cond.initialized "java/lang/Math", Cond.code Lib.Math.max.name Lib.Math.max.code 2 (some .int), Cond.methodLink RX4 80 Lib.Math.min.name, Cond.static Lib.Math.min.name, Cond.code Lib.Math.min.name Lib.Math.min.code 2 (some .int)]
def wsX6_round : List Cond := .code yX6_round cX6_round 3 (some .int) :: ((wsX6_round_r1 ++ (wsX6_round_r2 ++ (wsX6_round_r3 ++ wsX6_round_r4))) ++ wsX60 ++ wsX40 ++ wsX20 ++ wsX10 ++ (vx_atS RX6 238 "java/lang/IndexOutOfBoundsException" ["java/lang/RuntimeException", "java/lang/Exception"]).filter goodWord ++ (vx_atS RX6 221 "java/lang/IllegalArgumentException" ["java/lang/RuntimeException", "java/lang/Exception"]).filter goodWord)
def wsX6_work : List Cond := .code yX6_work cX6_work 3 (some .int) :: ([.fieldLink RX6 10 "CrochetRounds" "piece" "LCrochetRounds$Piece;", .fieldLink RX6 62 "CrochetRounds$Piece" "rounds" "I", .fieldLink RX6 128 "CrochetRounds$Piece" "works" "LCrochetRounds$Numbers;", .methodLink RX6 121 yX6_checkIndex, .static yX6_checkIndex, .initialized RX6, .code yX6_checkIndex cX6_checkIndex 2 none, .classLink RX6 234 "java/lang/IndexOutOfBoundsException", .initialized "java/lang/IndexOutOfBoundsException", .methodLink RX6 114 yX2_at, .instanceMethod yX2_at, .selects RX2 yX2_at yX2_at, .initialized RX2, .code yX2_at cX2_at 2 (some .int), .fieldLink RX2 7 "CrochetRounds$Numbers" "held" "[I", .methodLink RX6 131 yX4_kindOf, .instanceMethod yX4_kindOf, .selects RX4 yX4_kindOf yX4_kindOf, .initialized RX4, .code yX4_kindOf cX4_kindOf 3 (some .int), .fieldLink RX4 14 "CrochetRounds$Piece" "kinds" "LCrochetRounds$Numbers;", .methodLink RX4 41 yX2_at] ++ wsX60 ++ wsX40 ++ wsX20 ++ (vx_atS RX6 238 "java/lang/IndexOutOfBoundsException" ["java/lang/RuntimeException", "java/lang/Exception"]).filter goodWord)
def wsX6_sumOverRounds_r1 : List Cond := [Cond.fieldLink RX6 10 "CrochetRounds" "piece" "LCrochetRounds$Piece;", Cond.fieldLink RX6 62 "CrochetRounds$Piece" "rounds" "I", Cond.methodLink RX6 124 yX6_ofRound, Cond.instanceMethod yX6_ofRound, Cond.selects RX6 yX6_ofRound yX6_ofRound, Cond.initialized RX6, Cond.code yX6_ofRound cX6_ofRound 3 (some .int), Cond.fieldLink RX6 146 "CrochetRounds$Piece" "totals" "LCrochetRounds$Numbers;", Cond.fieldLink RX6 128 "CrochetRounds$Piece" "works" "LCrochetRounds$Numbers;", Cond.methodLink RX6 114 yX2_at, Cond.instanceMethod yX2_at, Cond.selects RX2 yX2_at yX2_at, Cond.initialized RX2, Cond.code yX2_at cX2_at 2 (some .int), Cond.fieldLink RX2 7 "CrochetRounds$Numbers" "held" "[I", Cond.methodLink RX6 267 yX4_countOf, Cond.instanceMethod yX4_countOf, Cond.selects RX4 yX4_countOf yX4_countOf, Cond.initialized RX4, Cond.code yX4_countOf cX4_countOf 6 (some .int), Cond.fieldLink RX4 20 "CrochetRounds$Piece" "works" "LCrochetRounds$Numbers;", Cond.methodLink RX4 41 yX2_at, Cond.methodLink RX4 61 yX4_kindOf, Cond.instanceMethod yX4_kindOf]
def wsX6_sumOverRounds_r2 : List Cond := [Cond.selects RX4 yX4_kindOf yX4_kindOf, Cond.code yX4_kindOf cX4_kindOf 3 (some .int), Cond.fieldLink RX4 14 "CrochetRounds$Piece" "kinds" "LCrochetRounds$Numbers;", Cond.methodLink RX6 270 yX6_stackedOf, Cond.instanceMethod yX6_stackedOf, Cond.selects RX6 yX6_stackedOf yX6_stackedOf, Cond.code yX6_stackedOf cX6_stackedOf 2 (some .int), Cond.fieldLink RX6 40 "CrochetRounds" "makers" "LCrochetRounds$Makers;", Cond.fieldLink RX6 279 "CrochetRounds$Piece" "kinds" "LCrochetRounds$Numbers;", Cond.methodLink RX6 155 yX1_load, Cond.instanceMethod yX1_load, Cond.selects RX1 yX1_load yX1_load, Cond.initialized RX1, Cond.code yX1_load cX1_load 7 none, Cond.fieldLink RX1 20 "CrochetRounds$Piece" "works" "LCrochetRounds$Numbers;", Cond.fieldLink RX1 29 "CrochetRounds$Piece" "kinds" "LCrochetRounds$Numbers;", Cond.fieldLink RX1 14 "CrochetRounds$Makers" "kinds" "LCrochetRounds$Numbers;", Cond.methodLink RX1 25 yX2_at, Cond.methodLink RX1 30 yX2_put, Cond.instanceMethod yX2_put, Cond.selects RX2 yX2_put yX2_put, Cond.code yX2_put cX2_put 3 none, Cond.static yX6_madeBy, Cond.code yX6_madeBy cX6_madeBy 1 (some .int)]
def wsX6_sumOverRounds_r3 : List Cond := [Cond.methodLink RX6 164 yX1_stackedIn, Cond.instanceMethod yX1_stackedIn, Cond.selects RX1 yX1_stackedIn yX1_stackedIn, Cond.code yX1_stackedIn cX1_stackedIn 11 (some .int), Cond.static yX6_usedBy, Cond.code yX6_usedBy cX6_usedBy 1 (some .int), Cond.methodLink RX6 273 yX4_isMirrored, Cond.instanceMethod yX4_isMirrored, Cond.selects RX4 yX4_isMirrored yX4_isMirrored, Cond.code yX4_isMirrored cX4_isMirrored 4 (some .boolean), Cond.methodLink RX6 276 yX4_yarnOf, Cond.instanceMethod yX4_yarnOf, Cond.selects RX4 yX4_yarnOf yX4_yarnOf, Cond.code yX4_yarnOf cX4_yarnOf 5 (some .int), Cond.fieldLink RX4 26 "CrochetRounds$Piece" "yarn" "LCrochetRounds$Numbers;", Cond.methodLink RX6 174 yX4_distance, Cond.instanceMethod yX4_distance, Cond.selects RX4 yX4_distance yX4_distance, Cond.code yX4_distance cX4_distance 8 (some .int), Cond.methodLink RX4 71 yX4_further, Cond.static yX4_further, Cond.code yX4_further cX4_further 3 (some .int), Cond.methodLink RX4 75 Lib.Math.max.name, Cond.static Lib.Math.max.name]
def wsX6_sumOverRounds_r4 : List Cond := [Cond.initialized "java/lang/Math", Cond.code Lib.Math.max.name Lib.Math.max.code 2 (some .int), Cond.methodLink RX4 80 Lib.Math.min.name, Cond.static Lib.Math.min.name, Cond.code Lib.Math.min.name Lib.Math.min.code 2 (some .int)]
def wsX6_sumOverRounds : List Cond := .code yX6_sumOverRounds cX6_sumOverRounds 4 (some .int) :: ((wsX6_sumOverRounds_r1 ++ (wsX6_sumOverRounds_r2 ++ (wsX6_sumOverRounds_r3 ++ wsX6_sumOverRounds_r4))) ++ wsX60 ++ wsX40 ++ wsX20 ++ wsX10)
def wsX6_value_r1 : List Cond := [Cond.fieldLink RX6 10 "CrochetRounds" "piece" "LCrochetRounds$Piece;", Cond.fieldLink RX6 62 "CrochetRounds$Piece" "rounds" "I", Cond.fieldLink RX6 117 "CrochetRounds$Piece" "spiral" "Z", Cond.methodLink RX6 58 yX6_checkArgument, Cond.static yX6_checkArgument, Cond.initialized RX6, Cond.code yX6_checkArgument cX6_checkArgument 1 none, Cond.classLink RX6 217 "java/lang/IllegalArgumentException", Cond.initialized "java/lang/IllegalArgumentException", Cond.methodLink RX6 77 yX4_lastTotal, Cond.instanceMethod yX4_lastTotal, Cond.selects RX4 yX4_lastTotal yX4_lastTotal, Cond.initialized RX4, Cond.code yX4_lastTotal cX4_lastTotal 1 (some .int), Cond.fieldLink RX4 23 "CrochetRounds$Piece" "totals" "LCrochetRounds$Numbers;", Cond.fieldLink RX4 29 "CrochetRounds$Piece" "rounds" "I", Cond.methodLink RX4 41 yX2_at, Cond.instanceMethod yX2_at, Cond.selects RX2 yX2_at yX2_at, Cond.initialized RX2, Cond.code yX2_at cX2_at 2 (some .int), Cond.fieldLink RX2 7 "CrochetRounds$Numbers" "held" "[I", Cond.methodLink RX6 149 yX6_sumOverRounds, Cond.instanceMethod yX6_sumOverRounds]
def wsX6_value_r2 : List Cond := [Cond.selects RX6 yX6_sumOverRounds yX6_sumOverRounds, Cond.code yX6_sumOverRounds cX6_sumOverRounds 4 (some .int), Cond.methodLink RX6 124 yX6_ofRound, Cond.instanceMethod yX6_ofRound, Cond.selects RX6 yX6_ofRound yX6_ofRound, Cond.code yX6_ofRound cX6_ofRound 3 (some .int), Cond.fieldLink RX6 146 "CrochetRounds$Piece" "totals" "LCrochetRounds$Numbers;", Cond.fieldLink RX6 128 "CrochetRounds$Piece" "works" "LCrochetRounds$Numbers;", Cond.methodLink RX6 114 yX2_at, Cond.methodLink RX6 267 yX4_countOf, Cond.instanceMethod yX4_countOf, Cond.selects RX4 yX4_countOf yX4_countOf, Cond.code yX4_countOf cX4_countOf 6 (some .int), Cond.fieldLink RX4 20 "CrochetRounds$Piece" "works" "LCrochetRounds$Numbers;", Cond.methodLink RX4 61 yX4_kindOf, Cond.instanceMethod yX4_kindOf, Cond.selects RX4 yX4_kindOf yX4_kindOf, Cond.code yX4_kindOf cX4_kindOf 3 (some .int), Cond.fieldLink RX4 14 "CrochetRounds$Piece" "kinds" "LCrochetRounds$Numbers;", Cond.methodLink RX6 270 yX6_stackedOf, Cond.instanceMethod yX6_stackedOf, Cond.selects RX6 yX6_stackedOf yX6_stackedOf, Cond.code yX6_stackedOf cX6_stackedOf 2 (some .int), Cond.fieldLink RX6 40 "CrochetRounds" "makers" "LCrochetRounds$Makers;"]
def wsX6_value_r3 : List Cond := [Cond.fieldLink RX6 279 "CrochetRounds$Piece" "kinds" "LCrochetRounds$Numbers;", Cond.methodLink RX6 155 yX1_load, Cond.instanceMethod yX1_load, Cond.selects RX1 yX1_load yX1_load, Cond.initialized RX1, Cond.code yX1_load cX1_load 7 none, Cond.fieldLink RX1 20 "CrochetRounds$Piece" "works" "LCrochetRounds$Numbers;", Cond.fieldLink RX1 29 "CrochetRounds$Piece" "kinds" "LCrochetRounds$Numbers;", Cond.fieldLink RX1 14 "CrochetRounds$Makers" "kinds" "LCrochetRounds$Numbers;", Cond.methodLink RX1 25 yX2_at, Cond.methodLink RX1 30 yX2_put, Cond.instanceMethod yX2_put, Cond.selects RX2 yX2_put yX2_put, Cond.code yX2_put cX2_put 3 none, Cond.static yX6_madeBy, Cond.code yX6_madeBy cX6_madeBy 1 (some .int), Cond.methodLink RX6 164 yX1_stackedIn, Cond.instanceMethod yX1_stackedIn, Cond.selects RX1 yX1_stackedIn yX1_stackedIn, Cond.code yX1_stackedIn cX1_stackedIn 11 (some .int), Cond.static yX6_usedBy, Cond.code yX6_usedBy cX6_usedBy 1 (some .int), Cond.methodLink RX6 273 yX4_isMirrored, Cond.instanceMethod yX4_isMirrored]
def wsX6_value_r4 : List Cond := [Cond.selects RX4 yX4_isMirrored yX4_isMirrored, Cond.code yX4_isMirrored cX4_isMirrored 4 (some .boolean), Cond.methodLink RX6 276 yX4_yarnOf, Cond.instanceMethod yX4_yarnOf, Cond.selects RX4 yX4_yarnOf yX4_yarnOf, Cond.code yX4_yarnOf cX4_yarnOf 5 (some .int), Cond.fieldLink RX4 26 "CrochetRounds$Piece" "yarn" "LCrochetRounds$Numbers;", Cond.methodLink RX6 174 yX4_distance, Cond.instanceMethod yX4_distance, Cond.selects RX4 yX4_distance yX4_distance, Cond.code yX4_distance cX4_distance 8 (some .int), Cond.methodLink RX4 71 yX4_further, Cond.static yX4_further, Cond.code yX4_further cX4_further 3 (some .int), Cond.methodLink RX4 75 Lib.Math.max.name, Cond.static Lib.Math.max.name, Cond.initialized "java/lang/Math", Cond.code Lib.Math.max.name Lib.Math.max.code 2 (some .int), Cond.methodLink RX4 80 Lib.Math.min.name, Cond.static Lib.Math.min.name, Cond.code Lib.Math.min.name Lib.Math.min.code 2 (some .int), Cond.methodLink RX6 152 yX4_widest, Cond.instanceMethod yX4_widest, Cond.selects RX4 yX4_widest yX4_widest]
def wsX6_value_r5 : List Cond := [Cond.code yX4_widest cX4_widest 3 (some .int)]
def wsX6_value : List Cond := .code yX6_value cX6_value 2 (some .int) :: ((wsX6_value_r1 ++ (wsX6_value_r2 ++ (wsX6_value_r3 ++ (wsX6_value_r4 ++ wsX6_value_r5)))) ++ wsX60 ++ wsX40 ++ wsX20 ++ wsX10 ++ (vx_atS RX6 221 "java/lang/IllegalArgumentException" ["java/lang/RuntimeException", "java/lang/Exception"]).filter goodWord)
def wsJ9_max_7cf53 : List Cond := .code yJ9_max_7cf53 cJ9_max_7cf53 2 (some .int) :: ([])
def wsJ9_min_7cf53 : List Cond := .code yJ9_min_7cf53 cJ9_min_7cf53 2 (some .int) :: ([])
def wsL_cell : List Cond := .code yL_cell cL_cell 2 (some .int) :: ([.constant RL 7 (40503)])
def wsL_low : List Cond := .code yL_low cL_low 2 (some .int) :: ([.constant RL 8 (2147483647)])
def wsL_begins_r1 : List Cond := [Cond.classLink RL 15 "java/lang/IllegalArgumentException", Cond.methodLink RL 9 yX6_begin, Cond.instanceMethod yX6_begin, Cond.selects RX6 yX6_begin yX6_begin, Cond.initialized RX6, Cond.code yX6_begin cX6_begin 3 (some .int), Cond.fieldLink RX6 10 "CrochetRounds" "piece" "LCrochetRounds$Piece;", Cond.fieldLink RX6 62 "CrochetRounds$Piece" "rounds" "I", Cond.fieldLink RX6 19 "CrochetRounds" "history" "LCrochetRounds$History;", Cond.methodLink RX6 58 yX6_checkArgument, Cond.static yX6_checkArgument, Cond.code yX6_checkArgument cX6_checkArgument 1 none, Cond.classLink RX6 217 "java/lang/IllegalArgumentException", Cond.initialized "java/lang/IllegalArgumentException", Cond.methodLink RX6 66 yX0_keep, Cond.instanceMethod yX0_keep, Cond.selects RX0 yX0_keep yX0_keep, Cond.initialized RX0, Cond.code yX0_keep cX0_keep 3 none, Cond.fieldLink RX0 18 "CrochetRounds$History" "next" "I", Cond.fieldLink RX0 30 "CrochetRounds$History" "size" "I", Cond.methodLink RX0 33 Lib.Math.min.name, Cond.static Lib.Math.min.name, Cond.initialized "java/lang/Math"]
def wsL_begins_r2 : List Cond := [Cond.code Lib.Math.min.name Lib.Math.min.code 2 (some .int), Cond.methodLink RX0 22 yX0_slotAt, Cond.instanceMethod yX0_slotAt, Cond.selects RX0 yX0_slotAt yX0_slotAt, Cond.code yX0_slotAt cX0_slotAt 2 (some (.object "CrochetRounds$Piece")), Cond.fieldLink RX0 11 "CrochetRounds$History" "slots" "[LCrochetRounds$Piece;", Cond.methodLink RX0 26 yX4_takeOver, Cond.instanceMethod yX4_takeOver, Cond.selects RX4 yX4_takeOver yX4_takeOver, Cond.initialized RX4, Cond.code yX4_takeOver cX4_takeOver 3 none, Cond.fieldLink RX4 29 "CrochetRounds$Piece" "rounds" "I", Cond.fieldLink RX4 33 "CrochetRounds$Piece" "spiral" "Z", Cond.fieldLink RX4 20 "CrochetRounds$Piece" "works" "LCrochetRounds$Numbers;", Cond.fieldLink RX4 23 "CrochetRounds$Piece" "totals" "LCrochetRounds$Numbers;", Cond.fieldLink RX4 26 "CrochetRounds$Piece" "yarn" "LCrochetRounds$Numbers;", Cond.fieldLink RX4 14 "CrochetRounds$Piece" "kinds" "LCrochetRounds$Numbers;", Cond.methodLink RX4 37 yX2_take, Cond.instanceMethod yX2_take, Cond.selects RX2 yX2_take yX2_take, Cond.initialized RX2, Cond.code yX2_take cX2_take 5 none, Cond.methodLink RX2 13 yX2_at, Cond.instanceMethod yX2_at]
def wsL_begins_r3 : List Cond := [Cond.selects RX2 yX2_at yX2_at, Cond.code yX2_at cX2_at 2 (some .int), Cond.fieldLink RX2 7 "CrochetRounds$Numbers" "held" "[I", Cond.methodLink RX2 17 yX2_put, Cond.instanceMethod yX2_put, Cond.selects RX2 yX2_put yX2_put, Cond.code yX2_put cX2_put 3 none, Cond.methodLink RX4 41 yX2_at, Cond.methodLink RX6 54 yX4_startRing, Cond.instanceMethod yX4_startRing, Cond.selects RX4 yX4_startRing yX4_startRing, Cond.code yX4_startRing cX4_startRing 3 none, Cond.methodLink RX4 45 yX4_openRound, Cond.instanceMethod yX4_openRound, Cond.selects RX4 yX4_openRound yX4_openRound, Cond.code yX4_openRound cX4_openRound 1 none, Cond.methodLink RX4 54 yX2_put, Cond.methodLink RX4 48 yX4_addWork, Cond.instanceMethod yX4_addWork, Cond.selects RX4 yX4_addWork yX4_addWork, Cond.code yX4_addWork cX4_addWork 3 none, Cond.static yX6_madeBy, Cond.code yX6_madeBy cX6_madeBy 1 (some .int), Cond.methodLink RX4 51 yX4_closeRound]
def wsL_begins_r4 : List Cond := [Cond.instanceMethod yX4_closeRound, Cond.selects RX4 yX4_closeRound yX4_closeRound, Cond.code yX4_closeRound cX4_closeRound 1 none]
def wsL_begins : List Cond := .codeWith yL_begins cL_begins 3 (some .int) [(0, 5, 6, 15)] :: ((wsL_begins_r1 ++ (wsL_begins_r2 ++ (wsL_begins_r3 ++ wsL_begins_r4))) ++ wsX60 ++ wsX40 ++ wsX00 ++ wsX20 ++ (vx_atS RX6 221 "java/lang/IllegalArgumentException" ["java/lang/RuntimeException", "java/lang/Exception"]).filter goodWord)
def wsL_adds_r1 : List Cond := [Cond.classLink RL 15 "java/lang/IllegalArgumentException", Cond.classLink RL 20 "java/lang/IllegalStateException", Cond.classLink RL 22 "java/lang/UnsupportedOperationException", Cond.methodLink RL 17 yX6_addRound, Cond.instanceMethod yX6_addRound, Cond.selects RX6 yX6_addRound yX6_addRound, Cond.initialized RX6, Cond.code yX6_addRound cX6_addRound 2 (some .int), Cond.fieldLink RX6 33 "CrochetRounds" "plan" "LCrochetRounds$Plan;", Cond.fieldLink RX6 10 "CrochetRounds" "piece" "LCrochetRounds$Piece;", Cond.fieldLink RX6 19 "CrochetRounds" "history" "LCrochetRounds$History;", Cond.methodLink RX6 70 yX6_isGoal, Cond.static yX6_isGoal, Cond.code yX6_isGoal cX6_isGoal 1 (some .boolean), Cond.methodLink RX6 58 yX6_checkArgument, Cond.static yX6_checkArgument, Cond.code yX6_checkArgument cX6_checkArgument 1 none, Cond.classLink RX6 217 "java/lang/IllegalArgumentException", Cond.initialized "java/lang/IllegalArgumentException", Cond.methodLink RX6 74 yX6_checkRoom, Cond.instanceMethod yX6_checkRoom, Cond.selects RX6 yX6_checkRoom yX6_checkRoom, Cond.code yX6_checkRoom cX6_checkRoom 1 none, Cond.fieldLink RX6 62 "CrochetRounds$Piece" "rounds" "I"]
def wsL_adds_r2 : List Cond := [Cond.methodLink RX6 111 yX6_checkState, Cond.static yX6_checkState, Cond.code yX6_checkState cX6_checkState 1 none, Cond.classLink RX6 224 "java/lang/IllegalStateException", Cond.initialized "java/lang/IllegalStateException", Cond.methodLink RX6 77 yX4_lastTotal, Cond.instanceMethod yX4_lastTotal, Cond.selects RX4 yX4_lastTotal yX4_lastTotal, Cond.initialized RX4, Cond.code yX4_lastTotal cX4_lastTotal 1 (some .int), Cond.fieldLink RX4 23 "CrochetRounds$Piece" "totals" "LCrochetRounds$Numbers;", Cond.fieldLink RX4 29 "CrochetRounds$Piece" "rounds" "I", Cond.methodLink RX4 41 yX2_at, Cond.instanceMethod yX2_at, Cond.selects RX2 yX2_at yX2_at, Cond.initialized RX2, Cond.code yX2_at cX2_at 2 (some .int), Cond.fieldLink RX2 7 "CrochetRounds$Numbers" "held" "[I", Cond.methodLink RX6 81 yX5_spread, Cond.instanceMethod yX5_spread, Cond.selects RX5 yX5_spread yX5_spread, Cond.initialized RX5, Cond.code yX5_spread cX5_spread 4 (some .boolean), Cond.fieldLink RX5 24 "CrochetRounds$Plan" "works" "I"]
def wsL_adds_r3 : List Cond := [Cond.fieldLink RX5 14 "CrochetRounds$Plan" "row" "LCrochetRounds$Numbers;", Cond.fieldLink RX5 28 "CrochetRounds$Plan" "shaped" "I", Cond.methodLink RX5 20 yX5_measure, Cond.instanceMethod yX5_measure, Cond.selects RX5 yX5_measure yX5_measure, Cond.code yX5_measure cX5_measure 3 (some .boolean), Cond.fieldLink RX5 39 "CrochetRounds$Plan" "kind" "I", Cond.methodLink RX5 31 yX5_spreadKind, Cond.instanceMethod yX5_spreadKind, Cond.selects RX5 yX5_spreadKind yX5_spreadKind, Cond.code yX5_spreadKind cX5_spreadKind 4 (some .int), Cond.methodLink RX5 35 yX2_put, Cond.instanceMethod yX2_put, Cond.selects RX2 yX2_put yX2_put, Cond.code yX2_put cX2_put 3 none, Cond.methodLink RX6 85 yX6_checkPossible, Cond.static yX6_checkPossible, Cond.code yX6_checkPossible cX6_checkPossible 1 none, Cond.classLink RX6 229 "java/lang/UnsupportedOperationException", Cond.initialized "java/lang/UnsupportedOperationException", Cond.methodLink RX6 66 yX0_keep, Cond.instanceMethod yX0_keep, Cond.selects RX0 yX0_keep yX0_keep, Cond.initialized RX0]
def wsL_adds_r4 : List Cond := [Cond.code yX0_keep cX0_keep 3 none, Cond.fieldLink RX0 18 "CrochetRounds$History" "next" "I", Cond.fieldLink RX0 30 "CrochetRounds$History" "size" "I", Cond.methodLink RX0 33 Lib.Math.min.name, Cond.static Lib.Math.min.name, Cond.initialized "java/lang/Math", Cond.code Lib.Math.min.name Lib.Math.min.code 2 (some .int), Cond.methodLink RX0 22 yX0_slotAt, Cond.instanceMethod yX0_slotAt, Cond.selects RX0 yX0_slotAt yX0_slotAt, Cond.code yX0_slotAt cX0_slotAt 2 (some (.object "CrochetRounds$Piece")), Cond.fieldLink RX0 11 "CrochetRounds$History" "slots" "[LCrochetRounds$Piece;", Cond.methodLink RX0 26 yX4_takeOver, Cond.instanceMethod yX4_takeOver, Cond.selects RX4 yX4_takeOver yX4_takeOver, Cond.code yX4_takeOver cX4_takeOver 3 none, Cond.fieldLink RX4 33 "CrochetRounds$Piece" "spiral" "Z", Cond.fieldLink RX4 20 "CrochetRounds$Piece" "works" "LCrochetRounds$Numbers;", Cond.fieldLink RX4 26 "CrochetRounds$Piece" "yarn" "LCrochetRounds$Numbers;", Cond.fieldLink RX4 14 "CrochetRounds$Piece" "kinds" "LCrochetRounds$Numbers;", Cond.methodLink RX4 37 yX2_take, Cond.instanceMethod yX2_take, Cond.selects RX2 yX2_take yX2_take, Cond.code yX2_take cX2_take 5 none]
def wsL_adds_r5 : List Cond := [Cond.methodLink RX2 13 yX2_at, Cond.methodLink RX2 17 yX2_put, Cond.methodLink RX6 88 yX6_addBest, Cond.instanceMethod yX6_addBest, Cond.selects RX6 yX6_addBest yX6_addBest, Cond.code yX6_addBest cX6_addBest 2 (some .int), Cond.fieldLink RX6 40 "CrochetRounds" "makers" "LCrochetRounds$Makers;", Cond.methodLink RX6 155 yX1_load, Cond.instanceMethod yX1_load, Cond.selects RX1 yX1_load yX1_load, Cond.initialized RX1, Cond.code yX1_load cX1_load 7 none, Cond.fieldLink RX1 20 "CrochetRounds$Piece" "works" "LCrochetRounds$Numbers;", Cond.fieldLink RX1 29 "CrochetRounds$Piece" "kinds" "LCrochetRounds$Numbers;", Cond.fieldLink RX1 14 "CrochetRounds$Makers" "kinds" "LCrochetRounds$Numbers;", Cond.methodLink RX1 25 yX2_at, Cond.methodLink RX1 30 yX2_put, Cond.static yX6_madeBy, Cond.code yX6_madeBy cX6_madeBy 1 (some .int), Cond.methodLink RX6 239 yX1_bestShift, Cond.instanceMethod yX1_bestShift, Cond.selects RX1 yX1_bestShift yX1_bestShift, Cond.code yX1_bestShift cX1_bestShift 6 (some .int), Cond.fieldLink RX1 40 "CrochetRounds$Plan" "row" "LCrochetRounds$Numbers;"]
def wsL_adds_r6 : List Cond := [Cond.fieldLink RX1 45 "CrochetRounds$Plan" "works" "I", Cond.methodLink RX1 48 yX1_stackedIn, Cond.instanceMethod yX1_stackedIn, Cond.selects RX1 yX1_stackedIn yX1_stackedIn, Cond.code yX1_stackedIn cX1_stackedIn 11 (some .int), Cond.static yX6_usedBy, Cond.code yX6_usedBy cX6_usedBy 1 (some .int), Cond.methodLink RX6 243 yX6_addRow, Cond.instanceMethod yX6_addRow, Cond.selects RX6 yX6_addRow yX6_addRow, Cond.code yX6_addRow cX6_addRow 4 none, Cond.fieldLink RX6 162 "CrochetRounds$Plan" "works" "I", Cond.fieldLink RX6 159 "CrochetRounds$Plan" "row" "LCrochetRounds$Numbers;", Cond.methodLink RX6 246 yX4_openRound, Cond.instanceMethod yX4_openRound, Cond.selects RX4 yX4_openRound yX4_openRound, Cond.code yX4_openRound cX4_openRound 1 none, Cond.methodLink RX4 54 yX2_put, Cond.methodLink RX6 114 yX2_at, Cond.methodLink RX6 249 yX4_addWork, Cond.instanceMethod yX4_addWork, Cond.selects RX4 yX4_addWork yX4_addWork, Cond.code yX4_addWork cX4_addWork 3 none, Cond.methodLink RX6 252 yX4_closeRound]
def wsL_adds_r7 : List Cond := [Cond.instanceMethod yX4_closeRound, Cond.selects RX4 yX4_closeRound yX4_closeRound, Cond.code yX4_closeRound cX4_closeRound 1 none]
def wsL_adds : List Cond := .codeWith yL_adds cL_adds 3 (some .int) [(0, 5, 6, 15), (0, 5, 11, 20), (0, 5, 16, 22)] :: ((wsL_adds_r1 ++ (wsL_adds_r2 ++ (wsL_adds_r3 ++ (wsL_adds_r4 ++ (wsL_adds_r5 ++ (wsL_adds_r6 ++ wsL_adds_r7)))))) ++ wsX60 ++ wsX40 ++ wsX20 ++ wsX50 ++ wsX00 ++ wsX10 ++ (vx_atS RX6 221 "java/lang/IllegalArgumentException" ["java/lang/RuntimeException", "java/lang/Exception"]).filter goodWord ++ (vx_atS RX6 228 "java/lang/IllegalStateException" ["java/lang/RuntimeException", "java/lang/Exception"]).filter goodWord ++ (vx_atS RX6 233 "java/lang/UnsupportedOperationException" ["java/lang/RuntimeException", "java/lang/Exception"]).filter goodWord)
def wsL_shifts_r1 : List Cond := [Cond.classLink RL 15 "java/lang/IllegalArgumentException", Cond.classLink RL 20 "java/lang/IllegalStateException", Cond.classLink RL 22 "java/lang/UnsupportedOperationException", Cond.methodLink RL 24 yX6_addShifted, Cond.instanceMethod yX6_addShifted, Cond.selects RX6 yX6_addShifted yX6_addShifted, Cond.initialized RX6, Cond.code yX6_addShifted cX6_addShifted 3 (some .int), Cond.fieldLink RX6 33 "CrochetRounds" "plan" "LCrochetRounds$Plan;", Cond.fieldLink RX6 10 "CrochetRounds" "piece" "LCrochetRounds$Piece;", Cond.fieldLink RX6 19 "CrochetRounds" "history" "LCrochetRounds$History;", Cond.methodLink RX6 70 yX6_isGoal, Cond.static yX6_isGoal, Cond.code yX6_isGoal cX6_isGoal 1 (some .boolean), Cond.methodLink RX6 91 yX6_isShift, Cond.static yX6_isShift, Cond.code yX6_isShift cX6_isShift 1 (some .boolean), Cond.methodLink RX6 58 yX6_checkArgument, Cond.static yX6_checkArgument, Cond.code yX6_checkArgument cX6_checkArgument 1 none, Cond.classLink RX6 217 "java/lang/IllegalArgumentException", Cond.initialized "java/lang/IllegalArgumentException", Cond.methodLink RX6 74 yX6_checkRoom, Cond.instanceMethod yX6_checkRoom]
def wsL_shifts_r2 : List Cond := [Cond.selects RX6 yX6_checkRoom yX6_checkRoom, Cond.code yX6_checkRoom cX6_checkRoom 1 none, Cond.fieldLink RX6 62 "CrochetRounds$Piece" "rounds" "I", Cond.methodLink RX6 111 yX6_checkState, Cond.static yX6_checkState, Cond.code yX6_checkState cX6_checkState 1 none, Cond.classLink RX6 224 "java/lang/IllegalStateException", Cond.initialized "java/lang/IllegalStateException", Cond.methodLink RX6 77 yX4_lastTotal, Cond.instanceMethod yX4_lastTotal, Cond.selects RX4 yX4_lastTotal yX4_lastTotal, Cond.initialized RX4, Cond.code yX4_lastTotal cX4_lastTotal 1 (some .int), Cond.fieldLink RX4 23 "CrochetRounds$Piece" "totals" "LCrochetRounds$Numbers;", Cond.fieldLink RX4 29 "CrochetRounds$Piece" "rounds" "I", Cond.methodLink RX4 41 yX2_at, Cond.instanceMethod yX2_at, Cond.selects RX2 yX2_at yX2_at, Cond.initialized RX2, Cond.code yX2_at cX2_at 2 (some .int), Cond.fieldLink RX2 7 "CrochetRounds$Numbers" "held" "[I", Cond.methodLink RX6 81 yX5_spread, Cond.instanceMethod yX5_spread, Cond.selects RX5 yX5_spread yX5_spread]
def wsL_shifts_r3 : List Cond := [Cond.initialized RX5, Cond.code yX5_spread cX5_spread 4 (some .boolean), Cond.fieldLink RX5 24 "CrochetRounds$Plan" "works" "I", Cond.fieldLink RX5 14 "CrochetRounds$Plan" "row" "LCrochetRounds$Numbers;", Cond.fieldLink RX5 28 "CrochetRounds$Plan" "shaped" "I", Cond.methodLink RX5 20 yX5_measure, Cond.instanceMethod yX5_measure, Cond.selects RX5 yX5_measure yX5_measure, Cond.code yX5_measure cX5_measure 3 (some .boolean), Cond.fieldLink RX5 39 "CrochetRounds$Plan" "kind" "I", Cond.methodLink RX5 31 yX5_spreadKind, Cond.instanceMethod yX5_spreadKind, Cond.selects RX5 yX5_spreadKind yX5_spreadKind, Cond.code yX5_spreadKind cX5_spreadKind 4 (some .int), Cond.methodLink RX5 35 yX2_put, Cond.instanceMethod yX2_put, Cond.selects RX2 yX2_put yX2_put, Cond.code yX2_put cX2_put 3 none, Cond.methodLink RX6 85 yX6_checkPossible, Cond.static yX6_checkPossible, Cond.code yX6_checkPossible cX6_checkPossible 1 none, Cond.classLink RX6 229 "java/lang/UnsupportedOperationException", Cond.initialized "java/lang/UnsupportedOperationException", Cond.methodLink RX6 66 yX0_keep]
def wsL_shifts_r4 : List Cond := [Cond.instanceMethod yX0_keep, Cond.selects RX0 yX0_keep yX0_keep, Cond.initialized RX0, Cond.code yX0_keep cX0_keep 3 none, Cond.fieldLink RX0 18 "CrochetRounds$History" "next" "I", Cond.fieldLink RX0 30 "CrochetRounds$History" "size" "I", Cond.methodLink RX0 33 Lib.Math.min.name, Cond.static Lib.Math.min.name, Cond.initialized "java/lang/Math", Cond.code Lib.Math.min.name Lib.Math.min.code 2 (some .int), Cond.methodLink RX0 22 yX0_slotAt, Cond.instanceMethod yX0_slotAt, Cond.selects RX0 yX0_slotAt yX0_slotAt, Cond.code yX0_slotAt cX0_slotAt 2 (some (.object "CrochetRounds$Piece")), Cond.fieldLink RX0 11 "CrochetRounds$History" "slots" "[LCrochetRounds$Piece;", Cond.methodLink RX0 26 yX4_takeOver, Cond.instanceMethod yX4_takeOver, Cond.selects RX4 yX4_takeOver yX4_takeOver, Cond.code yX4_takeOver cX4_takeOver 3 none, Cond.fieldLink RX4 33 "CrochetRounds$Piece" "spiral" "Z", Cond.fieldLink RX4 20 "CrochetRounds$Piece" "works" "LCrochetRounds$Numbers;", Cond.fieldLink RX4 26 "CrochetRounds$Piece" "yarn" "LCrochetRounds$Numbers;", Cond.fieldLink RX4 14 "CrochetRounds$Piece" "kinds" "LCrochetRounds$Numbers;", Cond.methodLink RX4 37 yX2_take]
def wsL_shifts_r5 : List Cond := [Cond.instanceMethod yX2_take, Cond.selects RX2 yX2_take yX2_take, Cond.code yX2_take cX2_take 5 none, Cond.methodLink RX2 13 yX2_at, Cond.methodLink RX2 17 yX2_put, Cond.methodLink RX6 94 yX6_addPlanned, Cond.instanceMethod yX6_addPlanned, Cond.selects RX6 yX6_addPlanned yX6_addPlanned, Cond.code yX6_addPlanned cX6_addPlanned 3 (some .int), Cond.fieldLink RX6 40 "CrochetRounds" "makers" "LCrochetRounds$Makers;", Cond.fieldLink RX6 159 "CrochetRounds$Plan" "row" "LCrochetRounds$Numbers;", Cond.fieldLink RX6 162 "CrochetRounds$Plan" "works" "I", Cond.methodLink RX6 155 yX1_load, Cond.instanceMethod yX1_load, Cond.selects RX1 yX1_load yX1_load, Cond.initialized RX1, Cond.code yX1_load cX1_load 7 none, Cond.fieldLink RX1 20 "CrochetRounds$Piece" "works" "LCrochetRounds$Numbers;", Cond.fieldLink RX1 29 "CrochetRounds$Piece" "kinds" "LCrochetRounds$Numbers;", Cond.fieldLink RX1 14 "CrochetRounds$Makers" "kinds" "LCrochetRounds$Numbers;", Cond.methodLink RX1 25 yX2_at, Cond.methodLink RX1 30 yX2_put, Cond.static yX6_madeBy, Cond.code yX6_madeBy cX6_madeBy 1 (some .int)]
def wsL_shifts_r6 : List Cond := [Cond.methodLink RX6 164 yX1_stackedIn, Cond.instanceMethod yX1_stackedIn, Cond.selects RX1 yX1_stackedIn yX1_stackedIn, Cond.code yX1_stackedIn cX1_stackedIn 11 (some .int), Cond.static yX6_usedBy, Cond.code yX6_usedBy cX6_usedBy 1 (some .int), Cond.methodLink RX6 243 yX6_addRow, Cond.instanceMethod yX6_addRow, Cond.selects RX6 yX6_addRow yX6_addRow, Cond.code yX6_addRow cX6_addRow 4 none, Cond.methodLink RX6 246 yX4_openRound, Cond.instanceMethod yX4_openRound, Cond.selects RX4 yX4_openRound yX4_openRound, Cond.code yX4_openRound cX4_openRound 1 none, Cond.methodLink RX4 54 yX2_put, Cond.methodLink RX6 114 yX2_at, Cond.methodLink RX6 249 yX4_addWork, Cond.instanceMethod yX4_addWork, Cond.selects RX4 yX4_addWork yX4_addWork, Cond.code yX4_addWork cX4_addWork 3 none, Cond.methodLink RX6 252 yX4_closeRound, Cond.instanceMethod yX4_closeRound, Cond.selects RX4 yX4_closeRound yX4_closeRound, Cond.code yX4_closeRound cX4_closeRound 1 none]
def wsL_shifts : List Cond := .codeWith yL_shifts cL_shifts 4 (some .int) [(0, 6, 7, 15), (0, 6, 12, 20), (0, 6, 17, 22)] :: ((wsL_shifts_r1 ++ (wsL_shifts_r2 ++ (wsL_shifts_r3 ++ (wsL_shifts_r4 ++ (wsL_shifts_r5 ++ wsL_shifts_r6))))) ++ wsX60 ++ wsX40 ++ wsX20 ++ wsX50 ++ wsX00 ++ wsX10 ++ (vx_atS RX6 221 "java/lang/IllegalArgumentException" ["java/lang/RuntimeException", "java/lang/Exception"]).filter goodWord ++ (vx_atS RX6 228 "java/lang/IllegalStateException" ["java/lang/RuntimeException", "java/lang/Exception"]).filter goodWord ++ (vx_atS RX6 233 "java/lang/UnsupportedOperationException" ["java/lang/RuntimeException", "java/lang/Exception"]).filter goodWord)
def wsL_mirrors_r1 : List Cond := [Cond.classLink RL 15 "java/lang/IllegalArgumentException", Cond.classLink RL 20 "java/lang/IllegalStateException", Cond.classLink RL 22 "java/lang/UnsupportedOperationException", Cond.methodLink RL 28 yX6_addMirrored, Cond.instanceMethod yX6_addMirrored, Cond.selects RX6 yX6_addMirrored yX6_addMirrored, Cond.initialized RX6, Cond.code yX6_addMirrored cX6_addMirrored 2 (some .int), Cond.fieldLink RX6 33 "CrochetRounds" "plan" "LCrochetRounds$Plan;", Cond.fieldLink RX6 10 "CrochetRounds" "piece" "LCrochetRounds$Piece;", Cond.fieldLink RX6 19 "CrochetRounds" "history" "LCrochetRounds$History;", Cond.methodLink RX6 70 yX6_isGoal, Cond.static yX6_isGoal, Cond.code yX6_isGoal cX6_isGoal 1 (some .boolean), Cond.methodLink RX6 58 yX6_checkArgument, Cond.static yX6_checkArgument, Cond.code yX6_checkArgument cX6_checkArgument 1 none, Cond.classLink RX6 217 "java/lang/IllegalArgumentException", Cond.initialized "java/lang/IllegalArgumentException", Cond.methodLink RX6 74 yX6_checkRoom, Cond.instanceMethod yX6_checkRoom, Cond.selects RX6 yX6_checkRoom yX6_checkRoom, Cond.code yX6_checkRoom cX6_checkRoom 1 none, Cond.fieldLink RX6 62 "CrochetRounds$Piece" "rounds" "I"]
def wsL_mirrors_r2 : List Cond := [Cond.methodLink RX6 111 yX6_checkState, Cond.static yX6_checkState, Cond.code yX6_checkState cX6_checkState 1 none, Cond.classLink RX6 224 "java/lang/IllegalStateException", Cond.initialized "java/lang/IllegalStateException", Cond.methodLink RX6 77 yX4_lastTotal, Cond.instanceMethod yX4_lastTotal, Cond.selects RX4 yX4_lastTotal yX4_lastTotal, Cond.initialized RX4, Cond.code yX4_lastTotal cX4_lastTotal 1 (some .int), Cond.fieldLink RX4 23 "CrochetRounds$Piece" "totals" "LCrochetRounds$Numbers;", Cond.fieldLink RX4 29 "CrochetRounds$Piece" "rounds" "I", Cond.methodLink RX4 41 yX2_at, Cond.instanceMethod yX2_at, Cond.selects RX2 yX2_at yX2_at, Cond.initialized RX2, Cond.code yX2_at cX2_at 2 (some .int), Cond.fieldLink RX2 7 "CrochetRounds$Numbers" "held" "[I", Cond.methodLink RX6 98 yX5_mirror, Cond.instanceMethod yX5_mirror, Cond.selects RX5 yX5_mirror yX5_mirror, Cond.initialized RX5, Cond.code yX5_mirror cX5_mirror 8 (some .boolean), Cond.fieldLink RX5 24 "CrochetRounds$Plan" "works" "I"]
def wsL_mirrors_r3 : List Cond := [Cond.fieldLink RX5 28 "CrochetRounds$Plan" "shaped" "I", Cond.fieldLink RX5 14 "CrochetRounds$Plan" "row" "LCrochetRounds$Numbers;", Cond.fieldLink RX5 39 "CrochetRounds$Plan" "kind" "I", Cond.methodLink RX5 20 yX5_measure, Cond.instanceMethod yX5_measure, Cond.selects RX5 yX5_measure yX5_measure, Cond.code yX5_measure cX5_measure 3 (some .boolean), Cond.methodLink RX5 31 yX5_spreadKind, Cond.instanceMethod yX5_spreadKind, Cond.selects RX5 yX5_spreadKind yX5_spreadKind, Cond.code yX5_spreadKind cX5_spreadKind 4 (some .int), Cond.methodLink RX5 35 yX2_put, Cond.instanceMethod yX2_put, Cond.selects RX2 yX2_put yX2_put, Cond.code yX2_put cX2_put 3 none, Cond.methodLink RX6 85 yX6_checkPossible, Cond.static yX6_checkPossible, Cond.code yX6_checkPossible cX6_checkPossible 1 none, Cond.classLink RX6 229 "java/lang/UnsupportedOperationException", Cond.initialized "java/lang/UnsupportedOperationException", Cond.methodLink RX6 66 yX0_keep, Cond.instanceMethod yX0_keep, Cond.selects RX0 yX0_keep yX0_keep, Cond.initialized RX0]
def wsL_mirrors_r4 : List Cond := [Cond.code yX0_keep cX0_keep 3 none, Cond.fieldLink RX0 18 "CrochetRounds$History" "next" "I", Cond.fieldLink RX0 30 "CrochetRounds$History" "size" "I", Cond.methodLink RX0 33 Lib.Math.min.name, Cond.static Lib.Math.min.name, Cond.initialized "java/lang/Math", Cond.code Lib.Math.min.name Lib.Math.min.code 2 (some .int), Cond.methodLink RX0 22 yX0_slotAt, Cond.instanceMethod yX0_slotAt, Cond.selects RX0 yX0_slotAt yX0_slotAt, Cond.code yX0_slotAt cX0_slotAt 2 (some (.object "CrochetRounds$Piece")), Cond.fieldLink RX0 11 "CrochetRounds$History" "slots" "[LCrochetRounds$Piece;", Cond.methodLink RX0 26 yX4_takeOver, Cond.instanceMethod yX4_takeOver, Cond.selects RX4 yX4_takeOver yX4_takeOver, Cond.code yX4_takeOver cX4_takeOver 3 none, Cond.fieldLink RX4 33 "CrochetRounds$Piece" "spiral" "Z", Cond.fieldLink RX4 20 "CrochetRounds$Piece" "works" "LCrochetRounds$Numbers;", Cond.fieldLink RX4 26 "CrochetRounds$Piece" "yarn" "LCrochetRounds$Numbers;", Cond.fieldLink RX4 14 "CrochetRounds$Piece" "kinds" "LCrochetRounds$Numbers;", Cond.methodLink RX4 37 yX2_take, Cond.instanceMethod yX2_take, Cond.selects RX2 yX2_take yX2_take, Cond.code yX2_take cX2_take 5 none]
def wsL_mirrors_r5 : List Cond := [Cond.methodLink RX2 13 yX2_at, Cond.methodLink RX2 17 yX2_put, Cond.methodLink RX6 94 yX6_addPlanned, Cond.instanceMethod yX6_addPlanned, Cond.selects RX6 yX6_addPlanned yX6_addPlanned, Cond.code yX6_addPlanned cX6_addPlanned 3 (some .int), Cond.fieldLink RX6 40 "CrochetRounds" "makers" "LCrochetRounds$Makers;", Cond.fieldLink RX6 159 "CrochetRounds$Plan" "row" "LCrochetRounds$Numbers;", Cond.fieldLink RX6 162 "CrochetRounds$Plan" "works" "I", Cond.methodLink RX6 155 yX1_load, Cond.instanceMethod yX1_load, Cond.selects RX1 yX1_load yX1_load, Cond.initialized RX1, Cond.code yX1_load cX1_load 7 none, Cond.fieldLink RX1 20 "CrochetRounds$Piece" "works" "LCrochetRounds$Numbers;", Cond.fieldLink RX1 29 "CrochetRounds$Piece" "kinds" "LCrochetRounds$Numbers;", Cond.fieldLink RX1 14 "CrochetRounds$Makers" "kinds" "LCrochetRounds$Numbers;", Cond.methodLink RX1 25 yX2_at, Cond.methodLink RX1 30 yX2_put, Cond.static yX6_madeBy, Cond.code yX6_madeBy cX6_madeBy 1 (some .int), Cond.methodLink RX6 164 yX1_stackedIn, Cond.instanceMethod yX1_stackedIn, Cond.selects RX1 yX1_stackedIn yX1_stackedIn]
def wsL_mirrors_r6 : List Cond := [Cond.code yX1_stackedIn cX1_stackedIn 11 (some .int), Cond.static yX6_usedBy, Cond.code yX6_usedBy cX6_usedBy 1 (some .int), Cond.methodLink RX6 243 yX6_addRow, Cond.instanceMethod yX6_addRow, Cond.selects RX6 yX6_addRow yX6_addRow, Cond.code yX6_addRow cX6_addRow 4 none, Cond.methodLink RX6 246 yX4_openRound, Cond.instanceMethod yX4_openRound, Cond.selects RX4 yX4_openRound yX4_openRound, Cond.code yX4_openRound cX4_openRound 1 none, Cond.methodLink RX4 54 yX2_put, Cond.methodLink RX6 114 yX2_at, Cond.methodLink RX6 249 yX4_addWork, Cond.instanceMethod yX4_addWork, Cond.selects RX4 yX4_addWork yX4_addWork, Cond.code yX4_addWork cX4_addWork 3 none, Cond.methodLink RX6 252 yX4_closeRound, Cond.instanceMethod yX4_closeRound, Cond.selects RX4 yX4_closeRound yX4_closeRound, Cond.code yX4_closeRound cX4_closeRound 1 none]
def wsL_mirrors : List Cond := .codeWith yL_mirrors cL_mirrors 3 (some .int) [(0, 5, 6, 15), (0, 5, 11, 20), (0, 5, 16, 22)] :: ((wsL_mirrors_r1 ++ (wsL_mirrors_r2 ++ (wsL_mirrors_r3 ++ (wsL_mirrors_r4 ++ (wsL_mirrors_r5 ++ wsL_mirrors_r6))))) ++ wsX60 ++ wsX40 ++ wsX20 ++ wsX50 ++ wsX00 ++ wsX10 ++ (vx_atS RX6 221 "java/lang/IllegalArgumentException" ["java/lang/RuntimeException", "java/lang/Exception"]).filter goodWord ++ (vx_atS RX6 228 "java/lang/IllegalStateException" ["java/lang/RuntimeException", "java/lang/Exception"]).filter goodWord ++ (vx_atS RX6 233 "java/lang/UnsupportedOperationException" ["java/lang/RuntimeException", "java/lang/Exception"]).filter goodWord)
def wsL_shapes_r1 : List Cond := [Cond.classLink RL 15 "java/lang/IllegalArgumentException", Cond.methodLink RL 31 yX6_addShape, Cond.instanceMethod yX6_addShape, Cond.selects RX6 yX6_addShape yX6_addShape, Cond.initialized RX6, Cond.code yX6_addShape cX6_addShape 6 (some .int), Cond.fieldLink RX6 19 "CrochetRounds" "history" "LCrochetRounds$History;", Cond.fieldLink RX6 10 "CrochetRounds" "piece" "LCrochetRounds$Piece;", Cond.fieldLink RX6 62 "CrochetRounds$Piece" "rounds" "I", Cond.fieldLink RX6 33 "CrochetRounds" "plan" "LCrochetRounds$Plan;", Cond.methodLink RX6 101 yX6_isShape, Cond.static yX6_isShape, Cond.code yX6_isShape cX6_isShape 1 (some .boolean), Cond.methodLink RX6 104 yX6_isSize, Cond.static yX6_isSize, Cond.code yX6_isSize cX6_isSize 1 (some .boolean), Cond.methodLink RX6 58 yX6_checkArgument, Cond.static yX6_checkArgument, Cond.code yX6_checkArgument cX6_checkArgument 1 none, Cond.classLink RX6 217 "java/lang/IllegalArgumentException", Cond.initialized "java/lang/IllegalArgumentException", Cond.methodLink RX6 66 yX0_keep, Cond.instanceMethod yX0_keep, Cond.selects RX0 yX0_keep yX0_keep]
def wsL_shapes_r2 : List Cond := [Cond.initialized RX0, Cond.code yX0_keep cX0_keep 3 none, Cond.fieldLink RX0 18 "CrochetRounds$History" "next" "I", Cond.fieldLink RX0 30 "CrochetRounds$History" "size" "I", Cond.methodLink RX0 33 Lib.Math.min.name, Cond.static Lib.Math.min.name, Cond.initialized "java/lang/Math", Cond.code Lib.Math.min.name Lib.Math.min.code 2 (some .int), Cond.methodLink RX0 22 yX0_slotAt, Cond.instanceMethod yX0_slotAt, Cond.selects RX0 yX0_slotAt yX0_slotAt, Cond.code yX0_slotAt cX0_slotAt 2 (some (.object "CrochetRounds$Piece")), Cond.fieldLink RX0 11 "CrochetRounds$History" "slots" "[LCrochetRounds$Piece;", Cond.methodLink RX0 26 yX4_takeOver, Cond.instanceMethod yX4_takeOver, Cond.selects RX4 yX4_takeOver yX4_takeOver, Cond.initialized RX4, Cond.code yX4_takeOver cX4_takeOver 3 none, Cond.fieldLink RX4 29 "CrochetRounds$Piece" "rounds" "I", Cond.fieldLink RX4 33 "CrochetRounds$Piece" "spiral" "Z", Cond.fieldLink RX4 20 "CrochetRounds$Piece" "works" "LCrochetRounds$Numbers;", Cond.fieldLink RX4 23 "CrochetRounds$Piece" "totals" "LCrochetRounds$Numbers;", Cond.fieldLink RX4 26 "CrochetRounds$Piece" "yarn" "LCrochetRounds$Numbers;", Cond.fieldLink RX4 14 "CrochetRounds$Piece" "kinds" "LCrochetRounds$Numbers;"]
def wsL_shapes_r3 : List Cond := [Cond.methodLink RX4 37 yX2_take, Cond.instanceMethod yX2_take, Cond.selects RX2 yX2_take yX2_take, Cond.initialized RX2, Cond.code yX2_take cX2_take 5 none, Cond.methodLink RX2 13 yX2_at, Cond.instanceMethod yX2_at, Cond.selects RX2 yX2_at yX2_at, Cond.code yX2_at cX2_at 2 (some .int), Cond.fieldLink RX2 7 "CrochetRounds$Numbers" "held" "[I", Cond.methodLink RX2 17 yX2_put, Cond.instanceMethod yX2_put, Cond.selects RX2 yX2_put yX2_put, Cond.code yX2_put cX2_put 3 none, Cond.methodLink RX4 41 yX2_at, Cond.methodLink RX6 107 yX6_shapeGoal, Cond.instanceMethod yX6_shapeGoal, Cond.selects RX6 yX6_shapeGoal yX6_shapeGoal, Cond.code yX6_shapeGoal cX6_shapeGoal 5 (some .int), Cond.fieldLink RX6 146 "CrochetRounds$Piece" "totals" "LCrochetRounds$Numbers;", Cond.methodLink RX6 286 Lib.Math.min.name, Cond.methodLink RX6 291 Lib.Math.max.name, Cond.static Lib.Math.max.name, Cond.code Lib.Math.max.name Lib.Math.max.code 2 (some .int)]
def wsL_shapes_r4 : List Cond := [Cond.methodLink RX6 114 yX2_at, Cond.methodLink RX6 282 yX6_rawGoal, Cond.static yX6_rawGoal, Cond.code yX6_rawGoal cX6_rawGoal 4 (some .int), Cond.methodLink RX6 294 yX6_doubled, Cond.static yX6_doubled, Cond.code yX6_doubled cX6_doubled 4 (some .int), Cond.methodLink RX6 77 yX4_lastTotal, Cond.instanceMethod yX4_lastTotal, Cond.selects RX4 yX4_lastTotal yX4_lastTotal, Cond.code yX4_lastTotal cX4_lastTotal 1 (some .int), Cond.methodLink RX6 81 yX5_spread, Cond.instanceMethod yX5_spread, Cond.selects RX5 yX5_spread yX5_spread, Cond.initialized RX5, Cond.code yX5_spread cX5_spread 4 (some .boolean), Cond.fieldLink RX5 24 "CrochetRounds$Plan" "works" "I", Cond.fieldLink RX5 14 "CrochetRounds$Plan" "row" "LCrochetRounds$Numbers;", Cond.fieldLink RX5 28 "CrochetRounds$Plan" "shaped" "I", Cond.methodLink RX5 20 yX5_measure, Cond.instanceMethod yX5_measure, Cond.selects RX5 yX5_measure yX5_measure, Cond.code yX5_measure cX5_measure 3 (some .boolean), Cond.fieldLink RX5 39 "CrochetRounds$Plan" "kind" "I"]
def wsL_shapes_r5 : List Cond := [Cond.methodLink RX5 31 yX5_spreadKind, Cond.instanceMethod yX5_spreadKind, Cond.selects RX5 yX5_spreadKind yX5_spreadKind, Cond.code yX5_spreadKind cX5_spreadKind 4 (some .int), Cond.methodLink RX5 35 yX2_put, Cond.methodLink RX6 88 yX6_addBest, Cond.instanceMethod yX6_addBest, Cond.selects RX6 yX6_addBest yX6_addBest, Cond.code yX6_addBest cX6_addBest 2 (some .int), Cond.fieldLink RX6 40 "CrochetRounds" "makers" "LCrochetRounds$Makers;", Cond.methodLink RX6 155 yX1_load, Cond.instanceMethod yX1_load, Cond.selects RX1 yX1_load yX1_load, Cond.initialized RX1, Cond.code yX1_load cX1_load 7 none, Cond.fieldLink RX1 20 "CrochetRounds$Piece" "works" "LCrochetRounds$Numbers;", Cond.fieldLink RX1 29 "CrochetRounds$Piece" "kinds" "LCrochetRounds$Numbers;", Cond.fieldLink RX1 14 "CrochetRounds$Makers" "kinds" "LCrochetRounds$Numbers;", Cond.methodLink RX1 25 yX2_at, Cond.methodLink RX1 30 yX2_put, Cond.static yX6_madeBy, Cond.code yX6_madeBy cX6_madeBy 1 (some .int), Cond.methodLink RX6 239 yX1_bestShift, Cond.instanceMethod yX1_bestShift]
def wsL_shapes_r6 : List Cond := [Cond.selects RX1 yX1_bestShift yX1_bestShift, Cond.code yX1_bestShift cX1_bestShift 6 (some .int), Cond.fieldLink RX1 40 "CrochetRounds$Plan" "row" "LCrochetRounds$Numbers;", Cond.fieldLink RX1 45 "CrochetRounds$Plan" "works" "I", Cond.methodLink RX1 48 yX1_stackedIn, Cond.instanceMethod yX1_stackedIn, Cond.selects RX1 yX1_stackedIn yX1_stackedIn, Cond.code yX1_stackedIn cX1_stackedIn 11 (some .int), Cond.static yX6_usedBy, Cond.code yX6_usedBy cX6_usedBy 1 (some .int), Cond.methodLink RX6 243 yX6_addRow, Cond.instanceMethod yX6_addRow, Cond.selects RX6 yX6_addRow yX6_addRow, Cond.code yX6_addRow cX6_addRow 4 none, Cond.fieldLink RX6 162 "CrochetRounds$Plan" "works" "I", Cond.fieldLink RX6 159 "CrochetRounds$Plan" "row" "LCrochetRounds$Numbers;", Cond.methodLink RX6 246 yX4_openRound, Cond.instanceMethod yX4_openRound, Cond.selects RX4 yX4_openRound yX4_openRound, Cond.code yX4_openRound cX4_openRound 1 none, Cond.methodLink RX4 54 yX2_put, Cond.methodLink RX6 249 yX4_addWork, Cond.instanceMethod yX4_addWork, Cond.selects RX4 yX4_addWork yX4_addWork]
def wsL_shapes_r7 : List Cond := [Cond.code yX4_addWork cX4_addWork 3 none, Cond.methodLink RX6 252 yX4_closeRound, Cond.instanceMethod yX4_closeRound, Cond.selects RX4 yX4_closeRound yX4_closeRound, Cond.code yX4_closeRound cX4_closeRound 1 none]
def wsL_shapes : List Cond := .codeWith yL_shapes cL_shapes 5 (some .int) [(0, 7, 8, 15)] :: ((wsL_shapes_r1 ++ (wsL_shapes_r2 ++ (wsL_shapes_r3 ++ (wsL_shapes_r4 ++ (wsL_shapes_r5 ++ (wsL_shapes_r6 ++ wsL_shapes_r7)))))) ++ wsX60 ++ wsX40 ++ wsX00 ++ wsX20 ++ wsX50 ++ wsX10 ++ (vx_atS RX6 221 "java/lang/IllegalArgumentException" ["java/lang/RuntimeException", "java/lang/Exception"]).filter goodWord)
def wsL_rips_r1 : List Cond := [Cond.classLink RL 15 "java/lang/IllegalArgumentException", Cond.classLink RL 20 "java/lang/IllegalStateException", Cond.methodLink RL 35 yX6_rip, Cond.instanceMethod yX6_rip, Cond.selects RX6 yX6_rip yX6_rip, Cond.initialized RX6, Cond.code yX6_rip cX6_rip 2 (some .int), Cond.fieldLink RX6 10 "CrochetRounds" "piece" "LCrochetRounds$Piece;", Cond.fieldLink RX6 62 "CrochetRounds$Piece" "rounds" "I", Cond.fieldLink RX6 19 "CrochetRounds" "history" "LCrochetRounds$History;", Cond.methodLink RX6 58 yX6_checkArgument, Cond.static yX6_checkArgument, Cond.code yX6_checkArgument cX6_checkArgument 1 none, Cond.classLink RX6 217 "java/lang/IllegalArgumentException", Cond.initialized "java/lang/IllegalArgumentException", Cond.methodLink RX6 111 yX6_checkState, Cond.static yX6_checkState, Cond.code yX6_checkState cX6_checkState 1 none, Cond.classLink RX6 224 "java/lang/IllegalStateException", Cond.initialized "java/lang/IllegalStateException", Cond.methodLink RX6 66 yX0_keep, Cond.instanceMethod yX0_keep, Cond.selects RX0 yX0_keep yX0_keep, Cond.initialized RX0]
def wsL_rips_r2 : List Cond := [Cond.code yX0_keep cX0_keep 3 none, Cond.fieldLink RX0 18 "CrochetRounds$History" "next" "I", Cond.fieldLink RX0 30 "CrochetRounds$History" "size" "I", Cond.methodLink RX0 33 Lib.Math.min.name, Cond.static Lib.Math.min.name, Cond.initialized "java/lang/Math", Cond.code Lib.Math.min.name Lib.Math.min.code 2 (some .int), Cond.methodLink RX0 22 yX0_slotAt, Cond.instanceMethod yX0_slotAt, Cond.selects RX0 yX0_slotAt yX0_slotAt, Cond.code yX0_slotAt cX0_slotAt 2 (some (.object "CrochetRounds$Piece")), Cond.fieldLink RX0 11 "CrochetRounds$History" "slots" "[LCrochetRounds$Piece;", Cond.methodLink RX0 26 yX4_takeOver, Cond.instanceMethod yX4_takeOver, Cond.selects RX4 yX4_takeOver yX4_takeOver, Cond.initialized RX4, Cond.code yX4_takeOver cX4_takeOver 3 none, Cond.fieldLink RX4 29 "CrochetRounds$Piece" "rounds" "I", Cond.fieldLink RX4 33 "CrochetRounds$Piece" "spiral" "Z", Cond.fieldLink RX4 20 "CrochetRounds$Piece" "works" "LCrochetRounds$Numbers;", Cond.fieldLink RX4 23 "CrochetRounds$Piece" "totals" "LCrochetRounds$Numbers;", Cond.fieldLink RX4 26 "CrochetRounds$Piece" "yarn" "LCrochetRounds$Numbers;", Cond.fieldLink RX4 14 "CrochetRounds$Piece" "kinds" "LCrochetRounds$Numbers;", Cond.methodLink RX4 37 yX2_take]
def wsL_rips_r3 : List Cond := [Cond.instanceMethod yX2_take, Cond.selects RX2 yX2_take yX2_take, Cond.initialized RX2, Cond.code yX2_take cX2_take 5 none, Cond.methodLink RX2 13 yX2_at, Cond.instanceMethod yX2_at, Cond.selects RX2 yX2_at yX2_at, Cond.code yX2_at cX2_at 2 (some .int), Cond.fieldLink RX2 7 "CrochetRounds$Numbers" "held" "[I", Cond.methodLink RX2 17 yX2_put, Cond.instanceMethod yX2_put, Cond.selects RX2 yX2_put yX2_put, Cond.code yX2_put cX2_put 3 none, Cond.methodLink RX4 41 yX2_at, Cond.methodLink RX6 77 yX4_lastTotal, Cond.instanceMethod yX4_lastTotal, Cond.selects RX4 yX4_lastTotal yX4_lastTotal, Cond.code yX4_lastTotal cX4_lastTotal 1 (some .int)]
def wsL_rips : List Cond := .codeWith yL_rips cL_rips 3 (some .int) [(0, 5, 6, 15), (0, 5, 11, 20)] :: ((wsL_rips_r1 ++ (wsL_rips_r2 ++ wsL_rips_r3)) ++ wsX60 ++ wsX40 ++ wsX00 ++ wsX20 ++ (vx_atS RX6 221 "java/lang/IllegalArgumentException" ["java/lang/RuntimeException", "java/lang/Exception"]).filter goodWord ++ (vx_atS RX6 228 "java/lang/IllegalStateException" ["java/lang/RuntimeException", "java/lang/Exception"]).filter goodWord)
def wsL_yarns_r1 : List Cond := [Cond.classLink RL 15 "java/lang/IllegalArgumentException", Cond.methodLink RL 38 yX6_setYarn, Cond.instanceMethod yX6_setYarn, Cond.selects RX6 yX6_setYarn yX6_setYarn, Cond.initialized RX6, Cond.code yX6_setYarn cX6_setYarn 4 (some .int), Cond.fieldLink RX6 19 "CrochetRounds" "history" "LCrochetRounds$History;", Cond.fieldLink RX6 10 "CrochetRounds" "piece" "LCrochetRounds$Piece;", Cond.fieldLink RX6 44 "CrochetRounds$Piece" "yarn" "LCrochetRounds$Numbers;", Cond.methodLink RX6 58 yX6_checkArgument, Cond.static yX6_checkArgument, Cond.code yX6_checkArgument cX6_checkArgument 1 none, Cond.classLink RX6 217 "java/lang/IllegalArgumentException", Cond.initialized "java/lang/IllegalArgumentException", Cond.methodLink RX6 66 yX0_keep, Cond.instanceMethod yX0_keep, Cond.selects RX0 yX0_keep yX0_keep, Cond.initialized RX0, Cond.code yX0_keep cX0_keep 3 none, Cond.fieldLink RX0 18 "CrochetRounds$History" "next" "I", Cond.fieldLink RX0 30 "CrochetRounds$History" "size" "I", Cond.methodLink RX0 33 Lib.Math.min.name, Cond.static Lib.Math.min.name, Cond.initialized "java/lang/Math"]
def wsL_yarns_r2 : List Cond := [Cond.code Lib.Math.min.name Lib.Math.min.code 2 (some .int), Cond.methodLink RX0 22 yX0_slotAt, Cond.instanceMethod yX0_slotAt, Cond.selects RX0 yX0_slotAt yX0_slotAt, Cond.code yX0_slotAt cX0_slotAt 2 (some (.object "CrochetRounds$Piece")), Cond.fieldLink RX0 11 "CrochetRounds$History" "slots" "[LCrochetRounds$Piece;", Cond.methodLink RX0 26 yX4_takeOver, Cond.instanceMethod yX4_takeOver, Cond.selects RX4 yX4_takeOver yX4_takeOver, Cond.initialized RX4, Cond.code yX4_takeOver cX4_takeOver 3 none, Cond.fieldLink RX4 29 "CrochetRounds$Piece" "rounds" "I", Cond.fieldLink RX4 33 "CrochetRounds$Piece" "spiral" "Z", Cond.fieldLink RX4 20 "CrochetRounds$Piece" "works" "LCrochetRounds$Numbers;", Cond.fieldLink RX4 23 "CrochetRounds$Piece" "totals" "LCrochetRounds$Numbers;", Cond.fieldLink RX4 26 "CrochetRounds$Piece" "yarn" "LCrochetRounds$Numbers;", Cond.fieldLink RX4 14 "CrochetRounds$Piece" "kinds" "LCrochetRounds$Numbers;", Cond.methodLink RX4 37 yX2_take, Cond.instanceMethod yX2_take, Cond.selects RX2 yX2_take yX2_take, Cond.initialized RX2, Cond.code yX2_take cX2_take 5 none, Cond.methodLink RX2 13 yX2_at, Cond.instanceMethod yX2_at]
def wsL_yarns_r3 : List Cond := [Cond.selects RX2 yX2_at yX2_at, Cond.code yX2_at cX2_at 2 (some .int), Cond.fieldLink RX2 7 "CrochetRounds$Numbers" "held" "[I", Cond.methodLink RX2 17 yX2_put, Cond.instanceMethod yX2_put, Cond.selects RX2 yX2_put yX2_put, Cond.code yX2_put cX2_put 3 none, Cond.methodLink RX4 41 yX2_at, Cond.methodLink RX6 114 yX2_at, Cond.methodLink RX6 48 yX2_put]
def wsL_yarns : List Cond := .codeWith yL_yarns cL_yarns 4 (some .int) [(0, 6, 7, 15)] :: ((wsL_yarns_r1 ++ (wsL_yarns_r2 ++ wsL_yarns_r3)) ++ wsX60 ++ wsX40 ++ wsX00 ++ wsX20 ++ (vx_atS RX6 221 "java/lang/IllegalArgumentException" ["java/lang/RuntimeException", "java/lang/Exception"]).filter goodWord)
def wsL_kind : List Cond := .code yL_kind cL_kind 3 (some .int) :: ([.constantLong RL 41 (3)])
def wsL_total : List Cond := .code yL_total cL_total 5 (some .int) :: ([.methodLink RL 43 yL_kind, .static yL_kind, .initialized RL, .code yL_kind cL_kind 3 (some .int), .constantLong RL 41 (3)])
def wsL_isMade : List Cond := .code yL_isMade cL_isMade 8 (some .boolean) :: ([.methodLink RL 43 yL_kind, .static yL_kind, .initialized RL, .code yL_kind cL_kind 3 (some .int), .constantLong RL 41 (3)])
def wsL_stacked : List Cond := .code yL_stacked cL_stacked 7 (some .int) :: ([.methodLink RL 43 yL_kind, .static yL_kind, .initialized RL, .code yL_kind cL_kind 3 (some .int), .constantLong RL 41 (3), .methodLink RL 49 yL_isMade, .static yL_isMade, .code yL_isMade cL_isMade 8 (some .boolean)])
def wsL_canBe : List Cond := .code yL_canBe cL_canBe 2 (some .boolean) :: ([])
def wsL_lays : List Cond := .code yL_lays cL_lays 14 none :: ([.constantLong RL 57 (2), .methodLink RL 53 yL_total, .static yL_total, .initialized RL, .code yL_total cL_total 5 (some .int), .methodLink RL 43 yL_kind, .static yL_kind, .code yL_kind cL_kind 3 (some .int), .constantLong RL 41 (3)])
def wsL_best : List Cond := .code yL_best cL_best 9 (some .int) :: ([.methodLink RL 53 yL_total, .static yL_total, .initialized RL, .code yL_total cL_total 5 (some .int), .methodLink RL 43 yL_kind, .static yL_kind, .code yL_kind cL_kind 3 (some .int), .constantLong RL 41 (3), .methodLink RL 59 yL_lays, .static yL_lays, .code yL_lays cL_lays 14 none, .constantLong RL 57 (2), .methodLink RL 63 yL_stacked, .static yL_stacked, .code yL_stacked cL_stacked 7 (some .int), .methodLink RL 49 yL_isMade, .static yL_isMade, .code yL_isMade cL_isMade 8 (some .boolean)])
def wsL_goal : List Cond := .code yL_goal cL_goal 6 (some .int) :: ([])
def wsL_acts_r1 : List Cond := [Cond.constant RL 66 (10000000), Cond.methodLink RL 67 yL_low, Cond.static yL_low, Cond.initialized RL, Cond.code yL_low cL_low 2 (some .int), Cond.constant RL 8 (2147483647), Cond.methodLink RL 53 yL_total, Cond.static yL_total, Cond.code yL_total cL_total 5 (some .int), Cond.methodLink RL 43 yL_kind, Cond.static yL_kind, Cond.code yL_kind cL_kind 3 (some .int), Cond.constantLong RL 41 (3), Cond.methodLink RL 70 yL_begins, Cond.static yL_begins, Cond.codeWith yL_begins cL_begins 3 (some .int) [(0, 5, 6, 15)], Cond.classLink RL 15 "java/lang/IllegalArgumentException", Cond.methodLink RL 9 yX6_begin, Cond.instanceMethod yX6_begin, Cond.selects RX6 yX6_begin yX6_begin, Cond.initialized RX6, Cond.code yX6_begin cX6_begin 3 (some .int), Cond.fieldLink RX6 10 "CrochetRounds" "piece" "LCrochetRounds$Piece;", Cond.fieldLink RX6 62 "CrochetRounds$Piece" "rounds" "I"]
def wsL_acts_r2 : List Cond := [Cond.fieldLink RX6 19 "CrochetRounds" "history" "LCrochetRounds$History;", Cond.methodLink RX6 58 yX6_checkArgument, Cond.static yX6_checkArgument, Cond.code yX6_checkArgument cX6_checkArgument 1 none, Cond.classLink RX6 217 "java/lang/IllegalArgumentException", Cond.initialized "java/lang/IllegalArgumentException", Cond.methodLink RX6 66 yX0_keep, Cond.instanceMethod yX0_keep, Cond.selects RX0 yX0_keep yX0_keep, Cond.initialized RX0, Cond.code yX0_keep cX0_keep 3 none, Cond.fieldLink RX0 18 "CrochetRounds$History" "next" "I", Cond.fieldLink RX0 30 "CrochetRounds$History" "size" "I", Cond.methodLink RX0 33 Lib.Math.min.name, Cond.static Lib.Math.min.name, Cond.initialized "java/lang/Math", Cond.code Lib.Math.min.name Lib.Math.min.code 2 (some .int), Cond.methodLink RX0 22 yX0_slotAt, Cond.instanceMethod yX0_slotAt, Cond.selects RX0 yX0_slotAt yX0_slotAt, Cond.code yX0_slotAt cX0_slotAt 2 (some (.object "CrochetRounds$Piece")), Cond.fieldLink RX0 11 "CrochetRounds$History" "slots" "[LCrochetRounds$Piece;", Cond.methodLink RX0 26 yX4_takeOver, Cond.instanceMethod yX4_takeOver]
def wsL_acts_r3 : List Cond := [Cond.selects RX4 yX4_takeOver yX4_takeOver, Cond.initialized RX4, Cond.code yX4_takeOver cX4_takeOver 3 none, Cond.fieldLink RX4 29 "CrochetRounds$Piece" "rounds" "I", Cond.fieldLink RX4 33 "CrochetRounds$Piece" "spiral" "Z", Cond.fieldLink RX4 20 "CrochetRounds$Piece" "works" "LCrochetRounds$Numbers;", Cond.fieldLink RX4 23 "CrochetRounds$Piece" "totals" "LCrochetRounds$Numbers;", Cond.fieldLink RX4 26 "CrochetRounds$Piece" "yarn" "LCrochetRounds$Numbers;", Cond.fieldLink RX4 14 "CrochetRounds$Piece" "kinds" "LCrochetRounds$Numbers;", Cond.methodLink RX4 37 yX2_take, Cond.instanceMethod yX2_take, Cond.selects RX2 yX2_take yX2_take, Cond.initialized RX2, Cond.code yX2_take cX2_take 5 none, Cond.methodLink RX2 13 yX2_at, Cond.instanceMethod yX2_at, Cond.selects RX2 yX2_at yX2_at, Cond.code yX2_at cX2_at 2 (some .int), Cond.fieldLink RX2 7 "CrochetRounds$Numbers" "held" "[I", Cond.methodLink RX2 17 yX2_put, Cond.instanceMethod yX2_put, Cond.selects RX2 yX2_put yX2_put, Cond.code yX2_put cX2_put 3 none, Cond.methodLink RX4 41 yX2_at]
def wsL_acts_r4 : List Cond := [Cond.methodLink RX6 54 yX4_startRing, Cond.instanceMethod yX4_startRing, Cond.selects RX4 yX4_startRing yX4_startRing, Cond.code yX4_startRing cX4_startRing 3 none, Cond.methodLink RX4 45 yX4_openRound, Cond.instanceMethod yX4_openRound, Cond.selects RX4 yX4_openRound yX4_openRound, Cond.code yX4_openRound cX4_openRound 1 none, Cond.methodLink RX4 54 yX2_put, Cond.methodLink RX4 48 yX4_addWork, Cond.instanceMethod yX4_addWork, Cond.selects RX4 yX4_addWork yX4_addWork, Cond.code yX4_addWork cX4_addWork 3 none, Cond.static yX6_madeBy, Cond.code yX6_madeBy cX6_madeBy 1 (some .int), Cond.methodLink RX4 51 yX4_closeRound, Cond.instanceMethod yX4_closeRound, Cond.selects RX4 yX4_closeRound yX4_closeRound, Cond.code yX4_closeRound cX4_closeRound 1 none, Cond.methodLink RL 74 yL_yarns, Cond.static yL_yarns, Cond.codeWith yL_yarns cL_yarns 4 (some .int) [(0, 6, 7, 15)], Cond.methodLink RL 38 yX6_setYarn, Cond.instanceMethod yX6_setYarn]
def wsL_acts_r5 : List Cond := [Cond.selects RX6 yX6_setYarn yX6_setYarn, Cond.code yX6_setYarn cX6_setYarn 4 (some .int), Cond.fieldLink RX6 44 "CrochetRounds$Piece" "yarn" "LCrochetRounds$Numbers;", Cond.methodLink RX6 114 yX2_at, Cond.methodLink RX6 48 yX2_put, Cond.methodLink RL 78 yX6_setSpiral, Cond.instanceMethod yX6_setSpiral, Cond.selects RX6 yX6_setSpiral yX6_setSpiral, Cond.code yX6_setSpiral cX6_setSpiral 3 (some .boolean), Cond.fieldLink RX6 117 "CrochetRounds$Piece" "spiral" "Z", Cond.methodLink RL 82 yL_rips, Cond.static yL_rips, Cond.codeWith yL_rips cL_rips 3 (some .int) [(0, 5, 6, 15), (0, 5, 11, 20)], Cond.classLink RL 20 "java/lang/IllegalStateException", Cond.methodLink RL 35 yX6_rip, Cond.instanceMethod yX6_rip, Cond.selects RX6 yX6_rip yX6_rip, Cond.code yX6_rip cX6_rip 2 (some .int), Cond.methodLink RX6 111 yX6_checkState, Cond.static yX6_checkState, Cond.code yX6_checkState cX6_checkState 1 none, Cond.classLink RX6 224 "java/lang/IllegalStateException", Cond.initialized "java/lang/IllegalStateException", Cond.methodLink RX6 77 yX4_lastTotal]
def wsL_acts_r6 : List Cond := [Cond.instanceMethod yX4_lastTotal, Cond.selects RX4 yX4_lastTotal yX4_lastTotal, Cond.code yX4_lastTotal cX4_lastTotal 1 (some .int), Cond.methodLink RL 85 yL_goal, Cond.static yL_goal, Cond.code yL_goal cL_goal 6 (some .int), Cond.methodLink RL 89 yL_canBe, Cond.static yL_canBe, Cond.code yL_canBe cL_canBe 2 (some .boolean), Cond.methodLink RL 93 yL_best, Cond.static yL_best, Cond.code yL_best cL_best 9 (some .int), Cond.methodLink RL 59 yL_lays, Cond.static yL_lays, Cond.code yL_lays cL_lays 14 none, Cond.constantLong RL 57 (2), Cond.methodLink RL 63 yL_stacked, Cond.static yL_stacked, Cond.code yL_stacked cL_stacked 7 (some .int), Cond.methodLink RL 49 yL_isMade, Cond.static yL_isMade, Cond.code yL_isMade cL_isMade 8 (some .boolean), Cond.methodLink RL 97 yL_shapes, Cond.static yL_shapes]
def wsL_acts_r7 : List Cond := [Cond.codeWith yL_shapes cL_shapes 5 (some .int) [(0, 7, 8, 15)], Cond.methodLink RL 31 yX6_addShape, Cond.instanceMethod yX6_addShape, Cond.selects RX6 yX6_addShape yX6_addShape, Cond.code yX6_addShape cX6_addShape 6 (some .int), Cond.fieldLink RX6 33 "CrochetRounds" "plan" "LCrochetRounds$Plan;", Cond.methodLink RX6 101 yX6_isShape, Cond.static yX6_isShape, Cond.code yX6_isShape cX6_isShape 1 (some .boolean), Cond.methodLink RX6 104 yX6_isSize, Cond.static yX6_isSize, Cond.code yX6_isSize cX6_isSize 1 (some .boolean), Cond.methodLink RX6 107 yX6_shapeGoal, Cond.instanceMethod yX6_shapeGoal, Cond.selects RX6 yX6_shapeGoal yX6_shapeGoal, Cond.code yX6_shapeGoal cX6_shapeGoal 5 (some .int), Cond.fieldLink RX6 146 "CrochetRounds$Piece" "totals" "LCrochetRounds$Numbers;", Cond.methodLink RX6 286 Lib.Math.min.name, Cond.methodLink RX6 291 Lib.Math.max.name, Cond.static Lib.Math.max.name, Cond.code Lib.Math.max.name Lib.Math.max.code 2 (some .int), Cond.methodLink RX6 282 yX6_rawGoal, Cond.static yX6_rawGoal, Cond.code yX6_rawGoal cX6_rawGoal 4 (some .int)]
def wsL_acts_r8 : List Cond := [Cond.methodLink RX6 294 yX6_doubled, Cond.static yX6_doubled, Cond.code yX6_doubled cX6_doubled 4 (some .int), Cond.methodLink RX6 81 yX5_spread, Cond.instanceMethod yX5_spread, Cond.selects RX5 yX5_spread yX5_spread, Cond.initialized RX5, Cond.code yX5_spread cX5_spread 4 (some .boolean), Cond.fieldLink RX5 24 "CrochetRounds$Plan" "works" "I", Cond.fieldLink RX5 14 "CrochetRounds$Plan" "row" "LCrochetRounds$Numbers;", Cond.fieldLink RX5 28 "CrochetRounds$Plan" "shaped" "I", Cond.methodLink RX5 20 yX5_measure, Cond.instanceMethod yX5_measure, Cond.selects RX5 yX5_measure yX5_measure, Cond.code yX5_measure cX5_measure 3 (some .boolean), Cond.fieldLink RX5 39 "CrochetRounds$Plan" "kind" "I", Cond.methodLink RX5 31 yX5_spreadKind, Cond.instanceMethod yX5_spreadKind, Cond.selects RX5 yX5_spreadKind yX5_spreadKind, Cond.code yX5_spreadKind cX5_spreadKind 4 (some .int), Cond.methodLink RX5 35 yX2_put, Cond.methodLink RX6 88 yX6_addBest, Cond.instanceMethod yX6_addBest, Cond.selects RX6 yX6_addBest yX6_addBest]
def wsL_acts_r9 : List Cond := [Cond.code yX6_addBest cX6_addBest 2 (some .int), Cond.fieldLink RX6 40 "CrochetRounds" "makers" "LCrochetRounds$Makers;", Cond.methodLink RX6 155 yX1_load, Cond.instanceMethod yX1_load, Cond.selects RX1 yX1_load yX1_load, Cond.initialized RX1, Cond.code yX1_load cX1_load 7 none, Cond.fieldLink RX1 20 "CrochetRounds$Piece" "works" "LCrochetRounds$Numbers;", Cond.fieldLink RX1 29 "CrochetRounds$Piece" "kinds" "LCrochetRounds$Numbers;", Cond.fieldLink RX1 14 "CrochetRounds$Makers" "kinds" "LCrochetRounds$Numbers;", Cond.methodLink RX1 25 yX2_at, Cond.methodLink RX1 30 yX2_put, Cond.methodLink RX6 239 yX1_bestShift, Cond.instanceMethod yX1_bestShift, Cond.selects RX1 yX1_bestShift yX1_bestShift, Cond.code yX1_bestShift cX1_bestShift 6 (some .int), Cond.fieldLink RX1 40 "CrochetRounds$Plan" "row" "LCrochetRounds$Numbers;", Cond.fieldLink RX1 45 "CrochetRounds$Plan" "works" "I", Cond.methodLink RX1 48 yX1_stackedIn, Cond.instanceMethod yX1_stackedIn, Cond.selects RX1 yX1_stackedIn yX1_stackedIn, Cond.code yX1_stackedIn cX1_stackedIn 11 (some .int), Cond.static yX6_usedBy, Cond.code yX6_usedBy cX6_usedBy 1 (some .int)]
def wsL_acts_r10 : List Cond := [Cond.methodLink RX6 243 yX6_addRow, Cond.instanceMethod yX6_addRow, Cond.selects RX6 yX6_addRow yX6_addRow, Cond.code yX6_addRow cX6_addRow 4 none, Cond.fieldLink RX6 162 "CrochetRounds$Plan" "works" "I", Cond.fieldLink RX6 159 "CrochetRounds$Plan" "row" "LCrochetRounds$Numbers;", Cond.methodLink RX6 246 yX4_openRound, Cond.methodLink RX6 249 yX4_addWork, Cond.methodLink RX6 252 yX4_closeRound, Cond.methodLink RL 101 yL_adds, Cond.static yL_adds, Cond.codeWith yL_adds cL_adds 3 (some .int) [(0, 5, 6, 15), (0, 5, 11, 20), (0, 5, 16, 22)], Cond.classLink RL 22 "java/lang/UnsupportedOperationException", Cond.methodLink RL 17 yX6_addRound, Cond.instanceMethod yX6_addRound, Cond.selects RX6 yX6_addRound yX6_addRound, Cond.code yX6_addRound cX6_addRound 2 (some .int), Cond.methodLink RX6 70 yX6_isGoal, Cond.static yX6_isGoal, Cond.code yX6_isGoal cX6_isGoal 1 (some .boolean), Cond.methodLink RX6 74 yX6_checkRoom, Cond.instanceMethod yX6_checkRoom, Cond.selects RX6 yX6_checkRoom yX6_checkRoom, Cond.code yX6_checkRoom cX6_checkRoom 1 none]
def wsL_acts_r11 : List Cond := [Cond.methodLink RX6 85 yX6_checkPossible, Cond.static yX6_checkPossible, Cond.code yX6_checkPossible cX6_checkPossible 1 none, Cond.classLink RX6 229 "java/lang/UnsupportedOperationException", Cond.initialized "java/lang/UnsupportedOperationException", Cond.methodLink RL 104 yL_shifts, Cond.static yL_shifts, Cond.codeWith yL_shifts cL_shifts 4 (some .int) [(0, 6, 7, 15), (0, 6, 12, 20), (0, 6, 17, 22)], Cond.methodLink RL 24 yX6_addShifted, Cond.instanceMethod yX6_addShifted, Cond.selects RX6 yX6_addShifted yX6_addShifted, Cond.code yX6_addShifted cX6_addShifted 3 (some .int), Cond.methodLink RX6 91 yX6_isShift, Cond.static yX6_isShift, Cond.code yX6_isShift cX6_isShift 1 (some .boolean), Cond.methodLink RX6 94 yX6_addPlanned, Cond.instanceMethod yX6_addPlanned, Cond.selects RX6 yX6_addPlanned yX6_addPlanned, Cond.code yX6_addPlanned cX6_addPlanned 3 (some .int), Cond.methodLink RX6 164 yX1_stackedIn, Cond.methodLink RL 107 yL_mirrors, Cond.static yL_mirrors, Cond.codeWith yL_mirrors cL_mirrors 3 (some .int) [(0, 5, 6, 15), (0, 5, 11, 20), (0, 5, 16, 22)], Cond.methodLink RL 28 yX6_addMirrored]
def wsL_acts_r12 : List Cond := [Cond.instanceMethod yX6_addMirrored, Cond.selects RX6 yX6_addMirrored yX6_addMirrored, Cond.code yX6_addMirrored cX6_addMirrored 2 (some .int), Cond.methodLink RX6 98 yX5_mirror, Cond.instanceMethod yX5_mirror, Cond.selects RX5 yX5_mirror yX5_mirror, Cond.code yX5_mirror cX5_mirror 8 (some .boolean)]
def wsL_acts : List Cond := .code yL_acts cL_acts 15 (some .boolean) :: ((wsL_acts_r1 ++ (wsL_acts_r2 ++ (wsL_acts_r3 ++ (wsL_acts_r4 ++ (wsL_acts_r5 ++ (wsL_acts_r6 ++ (wsL_acts_r7 ++ (wsL_acts_r8 ++ (wsL_acts_r9 ++ (wsL_acts_r10 ++ (wsL_acts_r11 ++ wsL_acts_r12))))))))))) ++ wsX60 ++ wsX40 ++ wsX00 ++ wsX20 ++ wsX50 ++ wsX10 ++ (vx_atS RX6 221 "java/lang/IllegalArgumentException" ["java/lang/RuntimeException", "java/lang/Exception"]).filter goodWord ++ (vx_atS RX6 228 "java/lang/IllegalStateException" ["java/lang/RuntimeException", "java/lang/Exception"]).filter goodWord ++ (vx_atS RX6 233 "java/lang/UnsupportedOperationException" ["java/lang/RuntimeException", "java/lang/Exception"]).filter goodWord)
def wsL_roundOf_r1 : List Cond := [Cond.classLink RL 113 "java/lang/IndexOutOfBoundsException", Cond.classLink RL 15 "java/lang/IllegalArgumentException", Cond.methodLink RL 110 yX6_round, Cond.instanceMethod yX6_round, Cond.selects RX6 yX6_round yX6_round, Cond.initialized RX6, Cond.code yX6_round cX6_round 3 (some .int), Cond.fieldLink RX6 10 "CrochetRounds" "piece" "LCrochetRounds$Piece;", Cond.fieldLink RX6 62 "CrochetRounds$Piece" "rounds" "I", Cond.methodLink RX6 121 yX6_checkIndex, Cond.static yX6_checkIndex, Cond.code yX6_checkIndex cX6_checkIndex 2 none, Cond.classLink RX6 234 "java/lang/IndexOutOfBoundsException", Cond.initialized "java/lang/IndexOutOfBoundsException", Cond.methodLink RX6 58 yX6_checkArgument, Cond.static yX6_checkArgument, Cond.code yX6_checkArgument cX6_checkArgument 1 none, Cond.classLink RX6 217 "java/lang/IllegalArgumentException", Cond.initialized "java/lang/IllegalArgumentException", Cond.methodLink RX6 124 yX6_ofRound, Cond.instanceMethod yX6_ofRound, Cond.selects RX6 yX6_ofRound yX6_ofRound, Cond.code yX6_ofRound cX6_ofRound 3 (some .int), Cond.fieldLink RX6 146 "CrochetRounds$Piece" "totals" "LCrochetRounds$Numbers;"]
def wsL_roundOf_r2 : List Cond := [Cond.fieldLink RX6 128 "CrochetRounds$Piece" "works" "LCrochetRounds$Numbers;", Cond.methodLink RX6 114 yX2_at, Cond.instanceMethod yX2_at, Cond.selects RX2 yX2_at yX2_at, Cond.initialized RX2, Cond.code yX2_at cX2_at 2 (some .int), Cond.fieldLink RX2 7 "CrochetRounds$Numbers" "held" "[I", Cond.methodLink RX6 267 yX4_countOf, Cond.instanceMethod yX4_countOf, Cond.selects RX4 yX4_countOf yX4_countOf, Cond.initialized RX4, Cond.code yX4_countOf cX4_countOf 6 (some .int), Cond.fieldLink RX4 20 "CrochetRounds$Piece" "works" "LCrochetRounds$Numbers;", Cond.methodLink RX4 41 yX2_at, Cond.methodLink RX4 61 yX4_kindOf, Cond.instanceMethod yX4_kindOf, Cond.selects RX4 yX4_kindOf yX4_kindOf, Cond.code yX4_kindOf cX4_kindOf 3 (some .int), Cond.fieldLink RX4 14 "CrochetRounds$Piece" "kinds" "LCrochetRounds$Numbers;", Cond.methodLink RX6 270 yX6_stackedOf, Cond.instanceMethod yX6_stackedOf, Cond.selects RX6 yX6_stackedOf yX6_stackedOf, Cond.code yX6_stackedOf cX6_stackedOf 2 (some .int), Cond.fieldLink RX6 40 "CrochetRounds" "makers" "LCrochetRounds$Makers;"]
def wsL_roundOf_r3 : List Cond := [Cond.fieldLink RX6 279 "CrochetRounds$Piece" "kinds" "LCrochetRounds$Numbers;", Cond.methodLink RX6 155 yX1_load, Cond.instanceMethod yX1_load, Cond.selects RX1 yX1_load yX1_load, Cond.initialized RX1, Cond.code yX1_load cX1_load 7 none, Cond.fieldLink RX1 20 "CrochetRounds$Piece" "works" "LCrochetRounds$Numbers;", Cond.fieldLink RX1 29 "CrochetRounds$Piece" "kinds" "LCrochetRounds$Numbers;", Cond.fieldLink RX1 14 "CrochetRounds$Makers" "kinds" "LCrochetRounds$Numbers;", Cond.methodLink RX1 25 yX2_at, Cond.methodLink RX1 30 yX2_put, Cond.instanceMethod yX2_put, Cond.selects RX2 yX2_put yX2_put, Cond.code yX2_put cX2_put 3 none, Cond.static yX6_madeBy, Cond.code yX6_madeBy cX6_madeBy 1 (some .int), Cond.methodLink RX6 164 yX1_stackedIn, Cond.instanceMethod yX1_stackedIn, Cond.selects RX1 yX1_stackedIn yX1_stackedIn, Cond.code yX1_stackedIn cX1_stackedIn 11 (some .int), Cond.static yX6_usedBy, Cond.code yX6_usedBy cX6_usedBy 1 (some .int), Cond.methodLink RX6 273 yX4_isMirrored, Cond.instanceMethod yX4_isMirrored]
def wsL_roundOf_r4 : List Cond := [Cond.selects RX4 yX4_isMirrored yX4_isMirrored, Cond.code yX4_isMirrored cX4_isMirrored 4 (some .boolean), Cond.methodLink RX6 276 yX4_yarnOf, Cond.instanceMethod yX4_yarnOf, Cond.selects RX4 yX4_yarnOf yX4_yarnOf, Cond.code yX4_yarnOf cX4_yarnOf 5 (some .int), Cond.fieldLink RX4 26 "CrochetRounds$Piece" "yarn" "LCrochetRounds$Numbers;", Cond.methodLink RX6 174 yX4_distance, Cond.instanceMethod yX4_distance, Cond.selects RX4 yX4_distance yX4_distance, Cond.code yX4_distance cX4_distance 8 (some .int), Cond.methodLink RX4 71 yX4_further, Cond.static yX4_further, Cond.code yX4_further cX4_further 3 (some .int), Cond.methodLink RX4 75 Lib.Math.max.name, Cond.static Lib.Math.max.name, Cond.initialized "java/lang/Math", Cond.code Lib.Math.max.name Lib.Math.max.code 2 (some .int), Cond.methodLink RX4 80 Lib.Math.min.name, Cond.static Lib.Math.min.name, Cond.code Lib.Math.min.name Lib.Math.min.code 2 (some .int)]
def wsL_roundOf : List Cond := .codeWith yL_roundOf cL_roundOf 4 (some .int) [(0, 6, 7, 113), (0, 6, 12, 15)] :: ((wsL_roundOf_r1 ++ (wsL_roundOf_r2 ++ (wsL_roundOf_r3 ++ wsL_roundOf_r4))) ++ wsX60 ++ wsX40 ++ wsX20 ++ wsX10 ++ (vx_atS RX6 238 "java/lang/IndexOutOfBoundsException" ["java/lang/RuntimeException", "java/lang/Exception"]).filter goodWord ++ (vx_atS RX6 221 "java/lang/IllegalArgumentException" ["java/lang/RuntimeException", "java/lang/Exception"]).filter goodWord)
def wsL_workOf_r1 : List Cond := [Cond.classLink RL 113 "java/lang/IndexOutOfBoundsException", Cond.methodLink RL 115 yX6_work, Cond.instanceMethod yX6_work, Cond.selects RX6 yX6_work yX6_work, Cond.initialized RX6, Cond.code yX6_work cX6_work 3 (some .int), Cond.fieldLink RX6 10 "CrochetRounds" "piece" "LCrochetRounds$Piece;", Cond.fieldLink RX6 62 "CrochetRounds$Piece" "rounds" "I", Cond.fieldLink RX6 128 "CrochetRounds$Piece" "works" "LCrochetRounds$Numbers;", Cond.methodLink RX6 121 yX6_checkIndex, Cond.static yX6_checkIndex, Cond.code yX6_checkIndex cX6_checkIndex 2 none, Cond.classLink RX6 234 "java/lang/IndexOutOfBoundsException", Cond.initialized "java/lang/IndexOutOfBoundsException", Cond.methodLink RX6 114 yX2_at, Cond.instanceMethod yX2_at, Cond.selects RX2 yX2_at yX2_at, Cond.initialized RX2, Cond.code yX2_at cX2_at 2 (some .int), Cond.fieldLink RX2 7 "CrochetRounds$Numbers" "held" "[I", Cond.methodLink RX6 131 yX4_kindOf, Cond.instanceMethod yX4_kindOf, Cond.selects RX4 yX4_kindOf yX4_kindOf, Cond.initialized RX4]
def wsL_workOf_r2 : List Cond := [Cond.code yX4_kindOf cX4_kindOf 3 (some .int), Cond.fieldLink RX4 14 "CrochetRounds$Piece" "kinds" "LCrochetRounds$Numbers;", Cond.methodLink RX4 41 yX2_at]
def wsL_workOf : List Cond := .codeWith yL_workOf cL_workOf 4 (some .int) [(0, 6, 7, 113)] :: ((wsL_workOf_r1 ++ wsL_workOf_r2) ++ wsX60 ++ wsX40 ++ wsX20 ++ (vx_atS RX6 238 "java/lang/IndexOutOfBoundsException" ["java/lang/RuntimeException", "java/lang/Exception"]).filter goodWord)
def wsL_valueOf_r1 : List Cond := [Cond.classLink RL 15 "java/lang/IllegalArgumentException", Cond.methodLink RL 118 yX6_value, Cond.instanceMethod yX6_value, Cond.selects RX6 yX6_value yX6_value, Cond.initialized RX6, Cond.code yX6_value cX6_value 2 (some .int), Cond.fieldLink RX6 10 "CrochetRounds" "piece" "LCrochetRounds$Piece;", Cond.fieldLink RX6 62 "CrochetRounds$Piece" "rounds" "I", Cond.fieldLink RX6 117 "CrochetRounds$Piece" "spiral" "Z", Cond.methodLink RX6 58 yX6_checkArgument, Cond.static yX6_checkArgument, Cond.code yX6_checkArgument cX6_checkArgument 1 none, Cond.classLink RX6 217 "java/lang/IllegalArgumentException", Cond.initialized "java/lang/IllegalArgumentException", Cond.methodLink RX6 77 yX4_lastTotal, Cond.instanceMethod yX4_lastTotal, Cond.selects RX4 yX4_lastTotal yX4_lastTotal, Cond.initialized RX4, Cond.code yX4_lastTotal cX4_lastTotal 1 (some .int), Cond.fieldLink RX4 23 "CrochetRounds$Piece" "totals" "LCrochetRounds$Numbers;", Cond.fieldLink RX4 29 "CrochetRounds$Piece" "rounds" "I", Cond.methodLink RX4 41 yX2_at, Cond.instanceMethod yX2_at, Cond.selects RX2 yX2_at yX2_at]
def wsL_valueOf_r2 : List Cond := [Cond.initialized RX2, Cond.code yX2_at cX2_at 2 (some .int), Cond.fieldLink RX2 7 "CrochetRounds$Numbers" "held" "[I", Cond.methodLink RX6 149 yX6_sumOverRounds, Cond.instanceMethod yX6_sumOverRounds, Cond.selects RX6 yX6_sumOverRounds yX6_sumOverRounds, Cond.code yX6_sumOverRounds cX6_sumOverRounds 4 (some .int), Cond.methodLink RX6 124 yX6_ofRound, Cond.instanceMethod yX6_ofRound, Cond.selects RX6 yX6_ofRound yX6_ofRound, Cond.code yX6_ofRound cX6_ofRound 3 (some .int), Cond.fieldLink RX6 146 "CrochetRounds$Piece" "totals" "LCrochetRounds$Numbers;", Cond.fieldLink RX6 128 "CrochetRounds$Piece" "works" "LCrochetRounds$Numbers;", Cond.methodLink RX6 114 yX2_at, Cond.methodLink RX6 267 yX4_countOf, Cond.instanceMethod yX4_countOf, Cond.selects RX4 yX4_countOf yX4_countOf, Cond.code yX4_countOf cX4_countOf 6 (some .int), Cond.fieldLink RX4 20 "CrochetRounds$Piece" "works" "LCrochetRounds$Numbers;", Cond.methodLink RX4 61 yX4_kindOf, Cond.instanceMethod yX4_kindOf, Cond.selects RX4 yX4_kindOf yX4_kindOf, Cond.code yX4_kindOf cX4_kindOf 3 (some .int), Cond.fieldLink RX4 14 "CrochetRounds$Piece" "kinds" "LCrochetRounds$Numbers;"]
def wsL_valueOf_r3 : List Cond := [Cond.methodLink RX6 270 yX6_stackedOf, Cond.instanceMethod yX6_stackedOf, Cond.selects RX6 yX6_stackedOf yX6_stackedOf, Cond.code yX6_stackedOf cX6_stackedOf 2 (some .int), Cond.fieldLink RX6 40 "CrochetRounds" "makers" "LCrochetRounds$Makers;", Cond.fieldLink RX6 279 "CrochetRounds$Piece" "kinds" "LCrochetRounds$Numbers;", Cond.methodLink RX6 155 yX1_load, Cond.instanceMethod yX1_load, Cond.selects RX1 yX1_load yX1_load, Cond.initialized RX1, Cond.code yX1_load cX1_load 7 none, Cond.fieldLink RX1 20 "CrochetRounds$Piece" "works" "LCrochetRounds$Numbers;", Cond.fieldLink RX1 29 "CrochetRounds$Piece" "kinds" "LCrochetRounds$Numbers;", Cond.fieldLink RX1 14 "CrochetRounds$Makers" "kinds" "LCrochetRounds$Numbers;", Cond.methodLink RX1 25 yX2_at, Cond.methodLink RX1 30 yX2_put, Cond.instanceMethod yX2_put, Cond.selects RX2 yX2_put yX2_put, Cond.code yX2_put cX2_put 3 none, Cond.static yX6_madeBy, Cond.code yX6_madeBy cX6_madeBy 1 (some .int), Cond.methodLink RX6 164 yX1_stackedIn, Cond.instanceMethod yX1_stackedIn, Cond.selects RX1 yX1_stackedIn yX1_stackedIn]
def wsL_valueOf_r4 : List Cond := [Cond.code yX1_stackedIn cX1_stackedIn 11 (some .int), Cond.static yX6_usedBy, Cond.code yX6_usedBy cX6_usedBy 1 (some .int), Cond.methodLink RX6 273 yX4_isMirrored, Cond.instanceMethod yX4_isMirrored, Cond.selects RX4 yX4_isMirrored yX4_isMirrored, Cond.code yX4_isMirrored cX4_isMirrored 4 (some .boolean), Cond.methodLink RX6 276 yX4_yarnOf, Cond.instanceMethod yX4_yarnOf, Cond.selects RX4 yX4_yarnOf yX4_yarnOf, Cond.code yX4_yarnOf cX4_yarnOf 5 (some .int), Cond.fieldLink RX4 26 "CrochetRounds$Piece" "yarn" "LCrochetRounds$Numbers;", Cond.methodLink RX6 174 yX4_distance, Cond.instanceMethod yX4_distance, Cond.selects RX4 yX4_distance yX4_distance, Cond.code yX4_distance cX4_distance 8 (some .int), Cond.methodLink RX4 71 yX4_further, Cond.static yX4_further, Cond.code yX4_further cX4_further 3 (some .int), Cond.methodLink RX4 75 Lib.Math.max.name, Cond.static Lib.Math.max.name, Cond.initialized "java/lang/Math", Cond.code Lib.Math.max.name Lib.Math.max.code 2 (some .int), Cond.methodLink RX4 80 Lib.Math.min.name]
def wsL_valueOf_r5 : List Cond := [Cond.static Lib.Math.min.name, Cond.code Lib.Math.min.name Lib.Math.min.code 2 (some .int), Cond.methodLink RX6 152 yX4_widest, Cond.instanceMethod yX4_widest, Cond.selects RX4 yX4_widest yX4_widest, Cond.code yX4_widest cX4_widest 3 (some .int)]
def wsL_valueOf : List Cond := .codeWith yL_valueOf cL_valueOf 3 (some .int) [(0, 5, 6, 15)] :: ((wsL_valueOf_r1 ++ (wsL_valueOf_r2 ++ (wsL_valueOf_r3 ++ (wsL_valueOf_r4 ++ wsL_valueOf_r5)))) ++ wsX60 ++ wsX40 ++ wsX20 ++ wsX10 ++ (vx_atS RX6 221 "java/lang/IllegalArgumentException" ["java/lang/RuntimeException", "java/lang/Exception"]).filter goodWord)
def wsL_isRound_r1 : List Cond := [Cond.methodLink RL 53 yL_total, Cond.static yL_total, Cond.initialized RL, Cond.code yL_total cL_total 5 (some .int), Cond.methodLink RL 43 yL_kind, Cond.static yL_kind, Cond.code yL_kind cL_kind 3 (some .int), Cond.constantLong RL 41 (3), Cond.methodLink RL 121 yL_workOf, Cond.static yL_workOf, Cond.codeWith yL_workOf cL_workOf 4 (some .int) [(0, 6, 7, 113)], Cond.classLink RL 113 "java/lang/IndexOutOfBoundsException", Cond.methodLink RL 115 yX6_work, Cond.instanceMethod yX6_work, Cond.selects RX6 yX6_work yX6_work, Cond.initialized RX6, Cond.code yX6_work cX6_work 3 (some .int), Cond.fieldLink RX6 10 "CrochetRounds" "piece" "LCrochetRounds$Piece;", Cond.fieldLink RX6 62 "CrochetRounds$Piece" "rounds" "I", Cond.fieldLink RX6 128 "CrochetRounds$Piece" "works" "LCrochetRounds$Numbers;", Cond.methodLink RX6 121 yX6_checkIndex, Cond.static yX6_checkIndex, Cond.code yX6_checkIndex cX6_checkIndex 2 none, Cond.classLink RX6 234 "java/lang/IndexOutOfBoundsException"]
def wsL_isRound_r2 : List Cond := [Cond.initialized "java/lang/IndexOutOfBoundsException", Cond.methodLink RX6 114 yX2_at, Cond.instanceMethod yX2_at, Cond.selects RX2 yX2_at yX2_at, Cond.initialized RX2, Cond.code yX2_at cX2_at 2 (some .int), Cond.fieldLink RX2 7 "CrochetRounds$Numbers" "held" "[I", Cond.methodLink RX6 131 yX4_kindOf, Cond.instanceMethod yX4_kindOf, Cond.selects RX4 yX4_kindOf yX4_kindOf, Cond.initialized RX4, Cond.code yX4_kindOf cX4_kindOf 3 (some .int), Cond.fieldLink RX4 14 "CrochetRounds$Piece" "kinds" "LCrochetRounds$Numbers;", Cond.methodLink RX4 41 yX2_at, Cond.methodLink RL 124 yL_roundOf, Cond.static yL_roundOf, Cond.codeWith yL_roundOf cL_roundOf 4 (some .int) [(0, 6, 7, 113), (0, 6, 12, 15)], Cond.classLink RL 15 "java/lang/IllegalArgumentException", Cond.methodLink RL 110 yX6_round, Cond.instanceMethod yX6_round, Cond.selects RX6 yX6_round yX6_round, Cond.code yX6_round cX6_round 3 (some .int), Cond.methodLink RX6 58 yX6_checkArgument, Cond.static yX6_checkArgument]
def wsL_isRound_r3 : List Cond := [Cond.code yX6_checkArgument cX6_checkArgument 1 none, Cond.classLink RX6 217 "java/lang/IllegalArgumentException", Cond.initialized "java/lang/IllegalArgumentException", Cond.methodLink RX6 124 yX6_ofRound, Cond.instanceMethod yX6_ofRound, Cond.selects RX6 yX6_ofRound yX6_ofRound, Cond.code yX6_ofRound cX6_ofRound 3 (some .int), Cond.fieldLink RX6 146 "CrochetRounds$Piece" "totals" "LCrochetRounds$Numbers;", Cond.methodLink RX6 267 yX4_countOf, Cond.instanceMethod yX4_countOf, Cond.selects RX4 yX4_countOf yX4_countOf, Cond.code yX4_countOf cX4_countOf 6 (some .int), Cond.fieldLink RX4 20 "CrochetRounds$Piece" "works" "LCrochetRounds$Numbers;", Cond.methodLink RX4 61 yX4_kindOf, Cond.methodLink RX6 270 yX6_stackedOf, Cond.instanceMethod yX6_stackedOf, Cond.selects RX6 yX6_stackedOf yX6_stackedOf, Cond.code yX6_stackedOf cX6_stackedOf 2 (some .int), Cond.fieldLink RX6 40 "CrochetRounds" "makers" "LCrochetRounds$Makers;", Cond.fieldLink RX6 279 "CrochetRounds$Piece" "kinds" "LCrochetRounds$Numbers;", Cond.methodLink RX6 155 yX1_load, Cond.instanceMethod yX1_load, Cond.selects RX1 yX1_load yX1_load, Cond.initialized RX1]
def wsL_isRound_r4 : List Cond := [Cond.code yX1_load cX1_load 7 none, Cond.fieldLink RX1 20 "CrochetRounds$Piece" "works" "LCrochetRounds$Numbers;", Cond.fieldLink RX1 29 "CrochetRounds$Piece" "kinds" "LCrochetRounds$Numbers;", Cond.fieldLink RX1 14 "CrochetRounds$Makers" "kinds" "LCrochetRounds$Numbers;", Cond.methodLink RX1 25 yX2_at, Cond.methodLink RX1 30 yX2_put, Cond.instanceMethod yX2_put, Cond.selects RX2 yX2_put yX2_put, Cond.code yX2_put cX2_put 3 none, Cond.static yX6_madeBy, Cond.code yX6_madeBy cX6_madeBy 1 (some .int), Cond.methodLink RX6 164 yX1_stackedIn, Cond.instanceMethod yX1_stackedIn, Cond.selects RX1 yX1_stackedIn yX1_stackedIn, Cond.code yX1_stackedIn cX1_stackedIn 11 (some .int), Cond.static yX6_usedBy, Cond.code yX6_usedBy cX6_usedBy 1 (some .int), Cond.methodLink RX6 273 yX4_isMirrored, Cond.instanceMethod yX4_isMirrored, Cond.selects RX4 yX4_isMirrored yX4_isMirrored, Cond.code yX4_isMirrored cX4_isMirrored 4 (some .boolean), Cond.methodLink RX6 276 yX4_yarnOf, Cond.instanceMethod yX4_yarnOf, Cond.selects RX4 yX4_yarnOf yX4_yarnOf]
def wsL_isRound_r5 : List Cond := [Cond.code yX4_yarnOf cX4_yarnOf 5 (some .int), Cond.fieldLink RX4 26 "CrochetRounds$Piece" "yarn" "LCrochetRounds$Numbers;", Cond.methodLink RX6 174 yX4_distance, Cond.instanceMethod yX4_distance, Cond.selects RX4 yX4_distance yX4_distance, Cond.code yX4_distance cX4_distance 8 (some .int), Cond.methodLink RX4 71 yX4_further, Cond.static yX4_further, Cond.code yX4_further cX4_further 3 (some .int), Cond.methodLink RX4 75 Lib.Math.max.name, Cond.static Lib.Math.max.name, Cond.initialized "java/lang/Math", Cond.code Lib.Math.max.name Lib.Math.max.code 2 (some .int), Cond.methodLink RX4 80 Lib.Math.min.name, Cond.static Lib.Math.min.name, Cond.code Lib.Math.min.name Lib.Math.min.code 2 (some .int), Cond.methodLink RL 63 yL_stacked, Cond.static yL_stacked, Cond.code yL_stacked cL_stacked 7 (some .int), Cond.methodLink RL 49 yL_isMade, Cond.static yL_isMade, Cond.code yL_isMade cL_isMade 8 (some .boolean)]
def wsL_isRound : List Cond := .code yL_isRound cL_isRound 19 (some .boolean) :: ((wsL_isRound_r1 ++ (wsL_isRound_r2 ++ (wsL_isRound_r3 ++ (wsL_isRound_r4 ++ wsL_isRound_r5)))) ++ wsX60 ++ wsX40 ++ wsX20 ++ wsX10 ++ (vx_atS RX6 238 "java/lang/IndexOutOfBoundsException" ["java/lang/RuntimeException", "java/lang/Exception"]).filter goodWord ++ (vx_atS RX6 221 "java/lang/IllegalArgumentException" ["java/lang/RuntimeException", "java/lang/Exception"]).filter goodWord)
def wsL_isSo_r1 : List Cond := [Cond.methodLink RL 127 yL_isRound, Cond.static yL_isRound, Cond.initialized RL, Cond.code yL_isRound cL_isRound 19 (some .boolean), Cond.methodLink RL 53 yL_total, Cond.static yL_total, Cond.code yL_total cL_total 5 (some .int), Cond.methodLink RL 43 yL_kind, Cond.static yL_kind, Cond.code yL_kind cL_kind 3 (some .int), Cond.constantLong RL 41 (3), Cond.methodLink RL 121 yL_workOf, Cond.static yL_workOf, Cond.codeWith yL_workOf cL_workOf 4 (some .int) [(0, 6, 7, 113)], Cond.classLink RL 113 "java/lang/IndexOutOfBoundsException", Cond.methodLink RL 115 yX6_work, Cond.instanceMethod yX6_work, Cond.selects RX6 yX6_work yX6_work, Cond.initialized RX6, Cond.code yX6_work cX6_work 3 (some .int), Cond.fieldLink RX6 10 "CrochetRounds" "piece" "LCrochetRounds$Piece;", Cond.fieldLink RX6 62 "CrochetRounds$Piece" "rounds" "I", Cond.fieldLink RX6 128 "CrochetRounds$Piece" "works" "LCrochetRounds$Numbers;", Cond.methodLink RX6 121 yX6_checkIndex]
def wsL_isSo_r2 : List Cond := [Cond.static yX6_checkIndex, Cond.code yX6_checkIndex cX6_checkIndex 2 none, Cond.classLink RX6 234 "java/lang/IndexOutOfBoundsException", Cond.initialized "java/lang/IndexOutOfBoundsException", Cond.methodLink RX6 114 yX2_at, Cond.instanceMethod yX2_at, Cond.selects RX2 yX2_at yX2_at, Cond.initialized RX2, Cond.code yX2_at cX2_at 2 (some .int), Cond.fieldLink RX2 7 "CrochetRounds$Numbers" "held" "[I", Cond.methodLink RX6 131 yX4_kindOf, Cond.instanceMethod yX4_kindOf, Cond.selects RX4 yX4_kindOf yX4_kindOf, Cond.initialized RX4, Cond.code yX4_kindOf cX4_kindOf 3 (some .int), Cond.fieldLink RX4 14 "CrochetRounds$Piece" "kinds" "LCrochetRounds$Numbers;", Cond.methodLink RX4 41 yX2_at, Cond.methodLink RL 124 yL_roundOf, Cond.static yL_roundOf, Cond.codeWith yL_roundOf cL_roundOf 4 (some .int) [(0, 6, 7, 113), (0, 6, 12, 15)], Cond.classLink RL 15 "java/lang/IllegalArgumentException", Cond.methodLink RL 110 yX6_round, Cond.instanceMethod yX6_round, Cond.selects RX6 yX6_round yX6_round]
def wsL_isSo_r3 : List Cond := [Cond.code yX6_round cX6_round 3 (some .int), Cond.methodLink RX6 58 yX6_checkArgument, Cond.static yX6_checkArgument, Cond.code yX6_checkArgument cX6_checkArgument 1 none, Cond.classLink RX6 217 "java/lang/IllegalArgumentException", Cond.initialized "java/lang/IllegalArgumentException", Cond.methodLink RX6 124 yX6_ofRound, Cond.instanceMethod yX6_ofRound, Cond.selects RX6 yX6_ofRound yX6_ofRound, Cond.code yX6_ofRound cX6_ofRound 3 (some .int), Cond.fieldLink RX6 146 "CrochetRounds$Piece" "totals" "LCrochetRounds$Numbers;", Cond.methodLink RX6 267 yX4_countOf, Cond.instanceMethod yX4_countOf, Cond.selects RX4 yX4_countOf yX4_countOf, Cond.code yX4_countOf cX4_countOf 6 (some .int), Cond.fieldLink RX4 20 "CrochetRounds$Piece" "works" "LCrochetRounds$Numbers;", Cond.methodLink RX4 61 yX4_kindOf, Cond.methodLink RX6 270 yX6_stackedOf, Cond.instanceMethod yX6_stackedOf, Cond.selects RX6 yX6_stackedOf yX6_stackedOf, Cond.code yX6_stackedOf cX6_stackedOf 2 (some .int), Cond.fieldLink RX6 40 "CrochetRounds" "makers" "LCrochetRounds$Makers;", Cond.fieldLink RX6 279 "CrochetRounds$Piece" "kinds" "LCrochetRounds$Numbers;", Cond.methodLink RX6 155 yX1_load]
def wsL_isSo_r4 : List Cond := [Cond.instanceMethod yX1_load, Cond.selects RX1 yX1_load yX1_load, Cond.initialized RX1, Cond.code yX1_load cX1_load 7 none, Cond.fieldLink RX1 20 "CrochetRounds$Piece" "works" "LCrochetRounds$Numbers;", Cond.fieldLink RX1 29 "CrochetRounds$Piece" "kinds" "LCrochetRounds$Numbers;", Cond.fieldLink RX1 14 "CrochetRounds$Makers" "kinds" "LCrochetRounds$Numbers;", Cond.methodLink RX1 25 yX2_at, Cond.methodLink RX1 30 yX2_put, Cond.instanceMethod yX2_put, Cond.selects RX2 yX2_put yX2_put, Cond.code yX2_put cX2_put 3 none, Cond.static yX6_madeBy, Cond.code yX6_madeBy cX6_madeBy 1 (some .int), Cond.methodLink RX6 164 yX1_stackedIn, Cond.instanceMethod yX1_stackedIn, Cond.selects RX1 yX1_stackedIn yX1_stackedIn, Cond.code yX1_stackedIn cX1_stackedIn 11 (some .int), Cond.static yX6_usedBy, Cond.code yX6_usedBy cX6_usedBy 1 (some .int), Cond.methodLink RX6 273 yX4_isMirrored, Cond.instanceMethod yX4_isMirrored, Cond.selects RX4 yX4_isMirrored yX4_isMirrored, Cond.code yX4_isMirrored cX4_isMirrored 4 (some .boolean)]
def wsL_isSo_r5 : List Cond := [Cond.methodLink RX6 276 yX4_yarnOf, Cond.instanceMethod yX4_yarnOf, Cond.selects RX4 yX4_yarnOf yX4_yarnOf, Cond.code yX4_yarnOf cX4_yarnOf 5 (some .int), Cond.fieldLink RX4 26 "CrochetRounds$Piece" "yarn" "LCrochetRounds$Numbers;", Cond.methodLink RX6 174 yX4_distance, Cond.instanceMethod yX4_distance, Cond.selects RX4 yX4_distance yX4_distance, Cond.code yX4_distance cX4_distance 8 (some .int), Cond.methodLink RX4 71 yX4_further, Cond.static yX4_further, Cond.code yX4_further cX4_further 3 (some .int), Cond.methodLink RX4 75 Lib.Math.max.name, Cond.static Lib.Math.max.name, Cond.initialized "java/lang/Math", Cond.code Lib.Math.max.name Lib.Math.max.code 2 (some .int), Cond.methodLink RX4 80 Lib.Math.min.name, Cond.static Lib.Math.min.name, Cond.code Lib.Math.min.name Lib.Math.min.code 2 (some .int), Cond.methodLink RL 63 yL_stacked, Cond.static yL_stacked, Cond.code yL_stacked cL_stacked 7 (some .int), Cond.methodLink RL 49 yL_isMade, Cond.static yL_isMade]
def wsL_isSo_r6 : List Cond := [Cond.code yL_isMade cL_isMade 8 (some .boolean), Cond.methodLink RL 131 yL_valueOf, Cond.static yL_valueOf, Cond.codeWith yL_valueOf cL_valueOf 3 (some .int) [(0, 5, 6, 15)], Cond.methodLink RL 118 yX6_value, Cond.instanceMethod yX6_value, Cond.selects RX6 yX6_value yX6_value, Cond.code yX6_value cX6_value 2 (some .int), Cond.fieldLink RX6 117 "CrochetRounds$Piece" "spiral" "Z", Cond.methodLink RX6 77 yX4_lastTotal, Cond.instanceMethod yX4_lastTotal, Cond.selects RX4 yX4_lastTotal yX4_lastTotal, Cond.code yX4_lastTotal cX4_lastTotal 1 (some .int), Cond.fieldLink RX4 23 "CrochetRounds$Piece" "totals" "LCrochetRounds$Numbers;", Cond.fieldLink RX4 29 "CrochetRounds$Piece" "rounds" "I", Cond.methodLink RX6 149 yX6_sumOverRounds, Cond.instanceMethod yX6_sumOverRounds, Cond.selects RX6 yX6_sumOverRounds yX6_sumOverRounds, Cond.code yX6_sumOverRounds cX6_sumOverRounds 4 (some .int), Cond.methodLink RX6 152 yX4_widest, Cond.instanceMethod yX4_widest, Cond.selects RX4 yX4_widest yX4_widest, Cond.code yX4_widest cX4_widest 3 (some .int)]
def wsL_isSo : List Cond := .code yL_isSo cL_isSo 12 (some .boolean) :: ((wsL_isSo_r1 ++ (wsL_isSo_r2 ++ (wsL_isSo_r3 ++ (wsL_isSo_r4 ++ (wsL_isSo_r5 ++ wsL_isSo_r6))))) ++ wsX60 ++ wsX40 ++ wsX20 ++ wsX10 ++ (vx_atS RX6 238 "java/lang/IndexOutOfBoundsException" ["java/lang/RuntimeException", "java/lang/Exception"]).filter goodWord ++ (vx_atS RX6 221 "java/lang/IllegalArgumentException" ["java/lang/RuntimeException", "java/lang/Exception"]).filter goodWord)
def wsL_law0_r1 : List Cond := [Cond.classLink RL 10 RX6, Cond.instantiable RX6 5, Cond.initialized RX6, Cond.arrayClass .int, Cond.arrayClass .long, Cond.methodLink RL 134 yX6_init, Cond.instanceMethod yX6_init, Cond.code yX6_init cX6_init 1 none, Cond.methodLink RX6 1 objectInit, Cond.instanceMethod objectInit, Cond.code objectInit ⟨#[0xb1]⟩ 1 none, Cond.classLink RX6 7 RX4, Cond.instantiable RX4 6, Cond.initialized RX4, Cond.fieldLink RX6 10 "CrochetRounds" "piece" "LCrochetRounds$Piece;", Cond.classLink RX6 16 RX0, Cond.instantiable RX0 3, Cond.initialized RX0, Cond.fieldLink RX6 19 "CrochetRounds" "history" "LCrochetRounds$History;", Cond.classLink RX6 23 RX3, Cond.instantiable RX3 10, Cond.initialized RX3, Cond.fieldLink RX6 26 "CrochetRounds" "pattern" "LCrochetRounds$Pattern;", Cond.classLink RX6 30 RX5]
def wsL_law0_r2 : List Cond := [Cond.instantiable RX5 4, Cond.initialized RX5, Cond.fieldLink RX6 33 "CrochetRounds" "plan" "LCrochetRounds$Plan;", Cond.classLink RX6 37 RX1, Cond.instantiable RX1 1, Cond.initialized RX1, Cond.fieldLink RX6 40 "CrochetRounds" "makers" "LCrochetRounds$Makers;", Cond.fieldLink RX6 44 "CrochetRounds$Piece" "yarn" "LCrochetRounds$Numbers;", Cond.instanceMethod yX4_init, Cond.code yX4_init cX4_init 1 none, Cond.methodLink RX4 3 objectInit, Cond.classLink RX4 9 RX2, Cond.instantiable RX2 1, Cond.initialized RX2, Cond.fieldLink RX4 14 "CrochetRounds$Piece" "kinds" "LCrochetRounds$Numbers;", Cond.fieldLink RX4 20 "CrochetRounds$Piece" "works" "LCrochetRounds$Numbers;", Cond.fieldLink RX4 23 "CrochetRounds$Piece" "totals" "LCrochetRounds$Numbers;", Cond.fieldLink RX4 26 "CrochetRounds$Piece" "yarn" "LCrochetRounds$Numbers;", Cond.methodLink RX4 11 yX2_init, Cond.instanceMethod yX2_init, Cond.code yX2_init cX2_init 2 none, Cond.methodLink RX2 1 objectInit, Cond.fieldLink RX2 7 "CrochetRounds$Numbers" "held" "[I", Cond.methodLink RX6 18 yX0_init]
def wsL_law0_r3 : List Cond := [Cond.instanceMethod yX0_init, Cond.code yX0_init cX0_init 2 none, Cond.methodLink RX0 3 objectInit, Cond.classLink RX0 9 RX4, Cond.fieldLink RX0 11 "CrochetRounds$History" "slots" "[LCrochetRounds$Piece;", Cond.instanceMethod yX3_init, Cond.code yX3_init cX3_init 1 none, Cond.methodLink RX3 3 objectInit, Cond.classLink RX3 9 RX2, Cond.fieldLink RX3 14 "CrochetRounds$Pattern" "bytes" "LCrochetRounds$Numbers;", Cond.fieldLink RX3 20 "CrochetRounds$Pattern" "itemKinds" "LCrochetRounds$Numbers;", Cond.fieldLink RX3 23 "CrochetRounds$Pattern" "itemCounts" "LCrochetRounds$Numbers;", Cond.methodLink RX3 11 yX2_init, Cond.instanceMethod yX5_init, Cond.code yX5_init cX5_init 1 none, Cond.methodLink RX5 3 objectInit, Cond.classLink RX5 9 RX2, Cond.fieldLink RX5 14 "CrochetRounds$Plan" "row" "LCrochetRounds$Numbers;", Cond.methodLink RX5 11 yX2_init, Cond.instanceMethod yX1_init, Cond.code yX1_init cX1_init 1 none, Cond.methodLink RX1 3 objectInit, Cond.classLink RX1 9 RX2, Cond.fieldLink RX1 14 "CrochetRounds$Makers" "kinds" "LCrochetRounds$Numbers;"]
def wsL_law0_r4 : List Cond := [Cond.methodLink RX1 11 yX2_init, Cond.methodLink RX6 48 yX2_put, Cond.instanceMethod yX2_put, Cond.selects RX2 yX2_put yX2_put, Cond.code yX2_put cX2_put 3 none, Cond.methodLink RX6 54 yX4_startRing, Cond.instanceMethod yX4_startRing, Cond.selects RX4 yX4_startRing yX4_startRing, Cond.code yX4_startRing cX4_startRing 3 none, Cond.fieldLink RX4 29 "CrochetRounds$Piece" "rounds" "I", Cond.methodLink RX4 45 yX4_openRound, Cond.instanceMethod yX4_openRound, Cond.selects RX4 yX4_openRound yX4_openRound, Cond.code yX4_openRound cX4_openRound 1 none, Cond.methodLink RX4 54 yX2_put, Cond.methodLink RX4 48 yX4_addWork, Cond.instanceMethod yX4_addWork, Cond.selects RX4 yX4_addWork yX4_addWork, Cond.code yX4_addWork cX4_addWork 3 none, Cond.methodLink RX4 41 yX2_at, Cond.instanceMethod yX2_at, Cond.selects RX2 yX2_at yX2_at, Cond.code yX2_at cX2_at 2 (some .int), Cond.static yX6_madeBy]
def wsL_law0_r5 : List Cond := [Cond.code yX6_madeBy cX6_madeBy 1 (some .int), Cond.methodLink RX4 51 yX4_closeRound, Cond.instanceMethod yX4_closeRound, Cond.selects RX4 yX4_closeRound yX4_closeRound, Cond.code yX4_closeRound cX4_closeRound 1 none, Cond.methodLink RL 135 yL_isSo, Cond.static yL_isSo, Cond.initialized RL, Cond.code yL_isSo cL_isSo 12 (some .boolean), Cond.methodLink RL 127 yL_isRound, Cond.static yL_isRound, Cond.code yL_isRound cL_isRound 19 (some .boolean), Cond.methodLink RL 53 yL_total, Cond.static yL_total, Cond.code yL_total cL_total 5 (some .int), Cond.methodLink RL 43 yL_kind, Cond.static yL_kind, Cond.code yL_kind cL_kind 3 (some .int), Cond.constantLong RL 41 (3), Cond.methodLink RL 121 yL_workOf, Cond.static yL_workOf, Cond.codeWith yL_workOf cL_workOf 4 (some .int) [(0, 6, 7, 113)], Cond.classLink RL 113 "java/lang/IndexOutOfBoundsException", Cond.methodLink RL 115 yX6_work]
def wsL_law0_r6 : List Cond := [Cond.instanceMethod yX6_work, Cond.selects RX6 yX6_work yX6_work, Cond.code yX6_work cX6_work 3 (some .int), Cond.fieldLink RX6 62 "CrochetRounds$Piece" "rounds" "I", Cond.fieldLink RX6 128 "CrochetRounds$Piece" "works" "LCrochetRounds$Numbers;", Cond.methodLink RX6 121 yX6_checkIndex, Cond.static yX6_checkIndex, Cond.code yX6_checkIndex cX6_checkIndex 2 none, Cond.classLink RX6 234 "java/lang/IndexOutOfBoundsException", Cond.initialized "java/lang/IndexOutOfBoundsException", Cond.methodLink RX6 114 yX2_at, Cond.methodLink RX6 131 yX4_kindOf, Cond.instanceMethod yX4_kindOf, Cond.selects RX4 yX4_kindOf yX4_kindOf, Cond.code yX4_kindOf cX4_kindOf 3 (some .int), Cond.methodLink RL 124 yL_roundOf, Cond.static yL_roundOf, Cond.codeWith yL_roundOf cL_roundOf 4 (some .int) [(0, 6, 7, 113), (0, 6, 12, 15)], Cond.classLink RL 15 "java/lang/IllegalArgumentException", Cond.methodLink RL 110 yX6_round, Cond.instanceMethod yX6_round, Cond.selects RX6 yX6_round yX6_round, Cond.code yX6_round cX6_round 3 (some .int), Cond.methodLink RX6 58 yX6_checkArgument]
def wsL_law0_r7 : List Cond := [Cond.static yX6_checkArgument, Cond.code yX6_checkArgument cX6_checkArgument 1 none, Cond.classLink RX6 217 "java/lang/IllegalArgumentException", Cond.initialized "java/lang/IllegalArgumentException", Cond.methodLink RX6 124 yX6_ofRound, Cond.instanceMethod yX6_ofRound, Cond.selects RX6 yX6_ofRound yX6_ofRound, Cond.code yX6_ofRound cX6_ofRound 3 (some .int), Cond.fieldLink RX6 146 "CrochetRounds$Piece" "totals" "LCrochetRounds$Numbers;", Cond.methodLink RX6 267 yX4_countOf, Cond.instanceMethod yX4_countOf, Cond.selects RX4 yX4_countOf yX4_countOf, Cond.code yX4_countOf cX4_countOf 6 (some .int), Cond.methodLink RX4 61 yX4_kindOf, Cond.methodLink RX6 270 yX6_stackedOf, Cond.instanceMethod yX6_stackedOf, Cond.selects RX6 yX6_stackedOf yX6_stackedOf, Cond.code yX6_stackedOf cX6_stackedOf 2 (some .int), Cond.fieldLink RX6 279 "CrochetRounds$Piece" "kinds" "LCrochetRounds$Numbers;", Cond.methodLink RX6 155 yX1_load, Cond.instanceMethod yX1_load, Cond.selects RX1 yX1_load yX1_load, Cond.code yX1_load cX1_load 7 none, Cond.fieldLink RX1 20 "CrochetRounds$Piece" "works" "LCrochetRounds$Numbers;"]
def wsL_law0_r8 : List Cond := [Cond.fieldLink RX1 29 "CrochetRounds$Piece" "kinds" "LCrochetRounds$Numbers;", Cond.methodLink RX1 25 yX2_at, Cond.methodLink RX1 30 yX2_put, Cond.methodLink RX6 164 yX1_stackedIn, Cond.instanceMethod yX1_stackedIn, Cond.selects RX1 yX1_stackedIn yX1_stackedIn, Cond.code yX1_stackedIn cX1_stackedIn 11 (some .int), Cond.static yX6_usedBy, Cond.code yX6_usedBy cX6_usedBy 1 (some .int), Cond.methodLink RX6 273 yX4_isMirrored, Cond.instanceMethod yX4_isMirrored, Cond.selects RX4 yX4_isMirrored yX4_isMirrored, Cond.code yX4_isMirrored cX4_isMirrored 4 (some .boolean), Cond.methodLink RX6 276 yX4_yarnOf, Cond.instanceMethod yX4_yarnOf, Cond.selects RX4 yX4_yarnOf yX4_yarnOf, Cond.code yX4_yarnOf cX4_yarnOf 5 (some .int), Cond.methodLink RX6 174 yX4_distance, Cond.instanceMethod yX4_distance, Cond.selects RX4 yX4_distance yX4_distance, Cond.code yX4_distance cX4_distance 8 (some .int), Cond.methodLink RX4 71 yX4_further, Cond.static yX4_further, Cond.code yX4_further cX4_further 3 (some .int)]
def wsL_law0_r9 : List Cond := [Cond.methodLink RX4 75 Lib.Math.max.name, Cond.static Lib.Math.max.name, Cond.initialized "java/lang/Math", Cond.code Lib.Math.max.name Lib.Math.max.code 2 (some .int), Cond.methodLink RX4 80 Lib.Math.min.name, Cond.static Lib.Math.min.name, Cond.code Lib.Math.min.name Lib.Math.min.code 2 (some .int), Cond.methodLink RL 63 yL_stacked, Cond.static yL_stacked, Cond.code yL_stacked cL_stacked 7 (some .int), Cond.methodLink RL 49 yL_isMade, Cond.static yL_isMade, Cond.code yL_isMade cL_isMade 8 (some .boolean), Cond.methodLink RL 131 yL_valueOf, Cond.static yL_valueOf, Cond.codeWith yL_valueOf cL_valueOf 3 (some .int) [(0, 5, 6, 15)], Cond.methodLink RL 118 yX6_value, Cond.instanceMethod yX6_value, Cond.selects RX6 yX6_value yX6_value, Cond.code yX6_value cX6_value 2 (some .int), Cond.fieldLink RX6 117 "CrochetRounds$Piece" "spiral" "Z", Cond.methodLink RX6 77 yX4_lastTotal, Cond.instanceMethod yX4_lastTotal, Cond.selects RX4 yX4_lastTotal yX4_lastTotal]
def wsL_law0_r10 : List Cond := [Cond.code yX4_lastTotal cX4_lastTotal 1 (some .int), Cond.methodLink RX6 149 yX6_sumOverRounds, Cond.instanceMethod yX6_sumOverRounds, Cond.selects RX6 yX6_sumOverRounds yX6_sumOverRounds, Cond.code yX6_sumOverRounds cX6_sumOverRounds 4 (some .int), Cond.methodLink RX6 152 yX4_widest, Cond.instanceMethod yX4_widest, Cond.selects RX4 yX4_widest yX4_widest, Cond.code yX4_widest cX4_widest 3 (some .int), Cond.methodLink RL 139 yL_cell, Cond.static yL_cell, Cond.code yL_cell cL_cell 2 (some .int), Cond.constant RL 7 (40503), Cond.methodLink RL 67 yL_low, Cond.static yL_low, Cond.code yL_low cL_low 2 (some .int), Cond.constant RL 8 (2147483647), Cond.methodLink RL 143 yL_acts, Cond.static yL_acts, Cond.code yL_acts cL_acts 15 (some .boolean), Cond.constant RL 66 (10000000), Cond.methodLink RL 70 yL_begins, Cond.static yL_begins, Cond.codeWith yL_begins cL_begins 3 (some .int) [(0, 5, 6, 15)]]
def wsL_law0_r11 : List Cond := [Cond.methodLink RL 9 yX6_begin, Cond.instanceMethod yX6_begin, Cond.selects RX6 yX6_begin yX6_begin, Cond.code yX6_begin cX6_begin 3 (some .int), Cond.methodLink RX6 66 yX0_keep, Cond.instanceMethod yX0_keep, Cond.selects RX0 yX0_keep yX0_keep, Cond.code yX0_keep cX0_keep 3 none, Cond.fieldLink RX0 18 "CrochetRounds$History" "next" "I", Cond.fieldLink RX0 30 "CrochetRounds$History" "size" "I", Cond.methodLink RX0 33 Lib.Math.min.name, Cond.methodLink RX0 22 yX0_slotAt, Cond.instanceMethod yX0_slotAt, Cond.selects RX0 yX0_slotAt yX0_slotAt, Cond.code yX0_slotAt cX0_slotAt 2 (some (.object "CrochetRounds$Piece")), Cond.methodLink RX0 26 yX4_takeOver, Cond.instanceMethod yX4_takeOver, Cond.selects RX4 yX4_takeOver yX4_takeOver, Cond.code yX4_takeOver cX4_takeOver 3 none, Cond.fieldLink RX4 33 "CrochetRounds$Piece" "spiral" "Z", Cond.methodLink RX4 37 yX2_take, Cond.instanceMethod yX2_take, Cond.selects RX2 yX2_take yX2_take, Cond.code yX2_take cX2_take 5 none]
def wsL_law0_r12 : List Cond := [Cond.methodLink RX2 13 yX2_at, Cond.methodLink RX2 17 yX2_put, Cond.methodLink RL 74 yL_yarns, Cond.static yL_yarns, Cond.codeWith yL_yarns cL_yarns 4 (some .int) [(0, 6, 7, 15)], Cond.methodLink RL 38 yX6_setYarn, Cond.instanceMethod yX6_setYarn, Cond.selects RX6 yX6_setYarn yX6_setYarn, Cond.code yX6_setYarn cX6_setYarn 4 (some .int), Cond.methodLink RL 78 yX6_setSpiral, Cond.instanceMethod yX6_setSpiral, Cond.selects RX6 yX6_setSpiral yX6_setSpiral, Cond.code yX6_setSpiral cX6_setSpiral 3 (some .boolean), Cond.methodLink RL 82 yL_rips, Cond.static yL_rips, Cond.codeWith yL_rips cL_rips 3 (some .int) [(0, 5, 6, 15), (0, 5, 11, 20)], Cond.classLink RL 20 "java/lang/IllegalStateException", Cond.methodLink RL 35 yX6_rip, Cond.instanceMethod yX6_rip, Cond.selects RX6 yX6_rip yX6_rip, Cond.code yX6_rip cX6_rip 2 (some .int), Cond.methodLink RX6 111 yX6_checkState, Cond.static yX6_checkState, Cond.code yX6_checkState cX6_checkState 1 none]
def wsL_law0_r13 : List Cond := [Cond.classLink RX6 224 "java/lang/IllegalStateException", Cond.initialized "java/lang/IllegalStateException", Cond.methodLink RL 85 yL_goal, Cond.static yL_goal, Cond.code yL_goal cL_goal 6 (some .int), Cond.methodLink RL 89 yL_canBe, Cond.static yL_canBe, Cond.code yL_canBe cL_canBe 2 (some .boolean), Cond.methodLink RL 93 yL_best, Cond.static yL_best, Cond.code yL_best cL_best 9 (some .int), Cond.methodLink RL 59 yL_lays, Cond.static yL_lays, Cond.code yL_lays cL_lays 14 none, Cond.constantLong RL 57 (2), Cond.methodLink RL 97 yL_shapes, Cond.static yL_shapes, Cond.codeWith yL_shapes cL_shapes 5 (some .int) [(0, 7, 8, 15)], Cond.methodLink RL 31 yX6_addShape, Cond.instanceMethod yX6_addShape, Cond.selects RX6 yX6_addShape yX6_addShape, Cond.code yX6_addShape cX6_addShape 6 (some .int), Cond.methodLink RX6 101 yX6_isShape, Cond.static yX6_isShape]
def wsL_law0_r14 : List Cond := [Cond.code yX6_isShape cX6_isShape 1 (some .boolean), Cond.methodLink RX6 104 yX6_isSize, Cond.static yX6_isSize, Cond.code yX6_isSize cX6_isSize 1 (some .boolean), Cond.methodLink RX6 107 yX6_shapeGoal, Cond.instanceMethod yX6_shapeGoal, Cond.selects RX6 yX6_shapeGoal yX6_shapeGoal, Cond.code yX6_shapeGoal cX6_shapeGoal 5 (some .int), Cond.methodLink RX6 286 Lib.Math.min.name, Cond.methodLink RX6 291 Lib.Math.max.name, Cond.methodLink RX6 282 yX6_rawGoal, Cond.static yX6_rawGoal, Cond.code yX6_rawGoal cX6_rawGoal 4 (some .int), Cond.methodLink RX6 294 yX6_doubled, Cond.static yX6_doubled, Cond.code yX6_doubled cX6_doubled 4 (some .int), Cond.methodLink RX6 81 yX5_spread, Cond.instanceMethod yX5_spread, Cond.selects RX5 yX5_spread yX5_spread, Cond.code yX5_spread cX5_spread 4 (some .boolean), Cond.fieldLink RX5 24 "CrochetRounds$Plan" "works" "I", Cond.fieldLink RX5 28 "CrochetRounds$Plan" "shaped" "I", Cond.methodLink RX5 20 yX5_measure, Cond.instanceMethod yX5_measure]
def wsL_law0_r15 : List Cond := [Cond.selects RX5 yX5_measure yX5_measure, Cond.code yX5_measure cX5_measure 3 (some .boolean), Cond.fieldLink RX5 39 "CrochetRounds$Plan" "kind" "I", Cond.methodLink RX5 31 yX5_spreadKind, Cond.instanceMethod yX5_spreadKind, Cond.selects RX5 yX5_spreadKind yX5_spreadKind, Cond.code yX5_spreadKind cX5_spreadKind 4 (some .int), Cond.methodLink RX5 35 yX2_put, Cond.methodLink RX6 88 yX6_addBest, Cond.instanceMethod yX6_addBest, Cond.selects RX6 yX6_addBest yX6_addBest, Cond.code yX6_addBest cX6_addBest 2 (some .int), Cond.methodLink RX6 239 yX1_bestShift, Cond.instanceMethod yX1_bestShift, Cond.selects RX1 yX1_bestShift yX1_bestShift, Cond.code yX1_bestShift cX1_bestShift 6 (some .int), Cond.fieldLink RX1 40 "CrochetRounds$Plan" "row" "LCrochetRounds$Numbers;", Cond.fieldLink RX1 45 "CrochetRounds$Plan" "works" "I", Cond.methodLink RX1 48 yX1_stackedIn, Cond.methodLink RX6 243 yX6_addRow, Cond.instanceMethod yX6_addRow, Cond.selects RX6 yX6_addRow yX6_addRow, Cond.code yX6_addRow cX6_addRow 4 none, Cond.fieldLink RX6 162 "CrochetRounds$Plan" "works" "I"]
def wsL_law0_r16 : List Cond := [Cond.fieldLink RX6 159 "CrochetRounds$Plan" "row" "LCrochetRounds$Numbers;", Cond.methodLink RX6 246 yX4_openRound, Cond.methodLink RX6 249 yX4_addWork, Cond.methodLink RX6 252 yX4_closeRound, Cond.methodLink RL 101 yL_adds, Cond.static yL_adds, Cond.codeWith yL_adds cL_adds 3 (some .int) [(0, 5, 6, 15), (0, 5, 11, 20), (0, 5, 16, 22)], Cond.classLink RL 22 "java/lang/UnsupportedOperationException", Cond.methodLink RL 17 yX6_addRound, Cond.instanceMethod yX6_addRound, Cond.selects RX6 yX6_addRound yX6_addRound, Cond.code yX6_addRound cX6_addRound 2 (some .int), Cond.methodLink RX6 70 yX6_isGoal, Cond.static yX6_isGoal, Cond.code yX6_isGoal cX6_isGoal 1 (some .boolean), Cond.methodLink RX6 74 yX6_checkRoom, Cond.instanceMethod yX6_checkRoom, Cond.selects RX6 yX6_checkRoom yX6_checkRoom, Cond.code yX6_checkRoom cX6_checkRoom 1 none, Cond.methodLink RX6 85 yX6_checkPossible, Cond.static yX6_checkPossible, Cond.code yX6_checkPossible cX6_checkPossible 1 none, Cond.classLink RX6 229 "java/lang/UnsupportedOperationException", Cond.initialized "java/lang/UnsupportedOperationException"]
def wsL_law0_r17 : List Cond := [Cond.methodLink RL 104 yL_shifts, Cond.static yL_shifts, Cond.codeWith yL_shifts cL_shifts 4 (some .int) [(0, 6, 7, 15), (0, 6, 12, 20), (0, 6, 17, 22)], Cond.methodLink RL 24 yX6_addShifted, Cond.instanceMethod yX6_addShifted, Cond.selects RX6 yX6_addShifted yX6_addShifted, Cond.code yX6_addShifted cX6_addShifted 3 (some .int), Cond.methodLink RX6 91 yX6_isShift, Cond.static yX6_isShift, Cond.code yX6_isShift cX6_isShift 1 (some .boolean), Cond.methodLink RX6 94 yX6_addPlanned, Cond.instanceMethod yX6_addPlanned, Cond.selects RX6 yX6_addPlanned yX6_addPlanned, Cond.code yX6_addPlanned cX6_addPlanned 3 (some .int), Cond.methodLink RL 107 yL_mirrors, Cond.static yL_mirrors, Cond.codeWith yL_mirrors cL_mirrors 3 (some .int) [(0, 5, 6, 15), (0, 5, 11, 20), (0, 5, 16, 22)], Cond.methodLink RL 28 yX6_addMirrored, Cond.instanceMethod yX6_addMirrored, Cond.selects RX6 yX6_addMirrored yX6_addMirrored, Cond.code yX6_addMirrored cX6_addMirrored 2 (some .int), Cond.methodLink RX6 98 yX5_mirror, Cond.instanceMethod yX5_mirror, Cond.selects RX5 yX5_mirror yX5_mirror]
def wsL_law0_r18 : List Cond := [Cond.code yX5_mirror cX5_mirror 8 (some .boolean)]
def wsL_law0 : List Cond := (wsL_law0_r1 ++ (wsL_law0_r2 ++ (wsL_law0_r3 ++ (wsL_law0_r4 ++ (wsL_law0_r5 ++ (wsL_law0_r6 ++ (wsL_law0_r7 ++ (wsL_law0_r8 ++ (wsL_law0_r9 ++ (wsL_law0_r10 ++ (wsL_law0_r11 ++ (wsL_law0_r12 ++ (wsL_law0_r13 ++ (wsL_law0_r14 ++ (wsL_law0_r15 ++ (wsL_law0_r16 ++ (wsL_law0_r17 ++ wsL_law0_r18))))))))))))))))) ++ wsX60 ++ wsX40 ++ wsX00 ++ wsX30 ++ wsX50 ++ wsX10 ++ wsX20 ++ ([] : List Cond)
def wsL_law : List Cond := wsL_law0 ++ (vx_atS RX6 238 "java/lang/IndexOutOfBoundsException" ["java/lang/RuntimeException", "java/lang/Exception"]).filter goodWord ++ (vx_atS RX6 221 "java/lang/IllegalArgumentException" ["java/lang/RuntimeException", "java/lang/Exception"]).filter goodWord ++ (vx_atS RX6 228 "java/lang/IllegalStateException" ["java/lang/RuntimeException", "java/lang/Exception"]).filter goodWord ++ (vx_atS RX6 233 "java/lang/UnsupportedOperationException" ["java/lang/RuntimeException", "java/lang/Exception"]).filter goodWord
theorem k_memAt {big ws : List Cond} (ps : List Nat) (h : ws = ps.filterMap (fun i => big[i]?)) : ∀ w ∈ ws, w ∈ big := by
  intro w hw
  rw [h] at hw
  obtain ⟨i, -, hi⟩ := List.mem_filterMap.mp hw
  exact List.mem_of_getElem? hi
theorem k_memApp {big a b : List Cond} (ha : ∀ w ∈ a, w ∈ big) (hb : ∀ w ∈ b, w ∈ big) : ∀ w ∈ a ++ b, w ∈ big := fun w h => (List.mem_append.mp h).elim (ha w) (hb w)
end
section
def wsL_law0_r1_c0 : List Cond := [Cond.classLink RL 10 RX6, Cond.instantiable RX6 5, Cond.initialized RX6, Cond.arrayClass .int, Cond.arrayClass .long, Cond.methodLink RL 134 yX6_init, Cond.instanceMethod yX6_init, Cond.code yX6_init cX6_init 1 none, Cond.methodLink RX6 1 objectInit, Cond.instanceMethod objectInit]
set_option maxRecDepth 20000 in
theorem wsL_law0_r1_c0_in : ∀ w ∈ wsL_law0_r1_c0, w ∈ lw_tbl := k_memAt [28, 29, 13, 52, 612, 30, 31, 32, 33, 34] (by decide +kernel)
def wsL_law0_r1_c1 : List Cond := [Cond.code objectInit ⟨#[0xb1]⟩ 1 none, Cond.classLink RX6 7 RX4, Cond.instantiable RX4 6, Cond.initialized RX4, Cond.fieldLink RX6 10 "CrochetRounds" "piece" "LCrochetRounds$Piece;", Cond.classLink RX6 16 RX0, Cond.instantiable RX0 3, Cond.initialized RX0, Cond.fieldLink RX6 19 "CrochetRounds" "history" "LCrochetRounds$History;", Cond.classLink RX6 23 RX3]
set_option maxRecDepth 20000 in
theorem wsL_law0_r1_c1_in : ∀ w ∈ wsL_law0_r1_c1, w ∈ lw_tbl := k_memAt [35, 36, 37, 14, 196, 80, 81, 16, 197, 99] (by decide +kernel)
def wsL_law0_r1_c2 : List Cond := [Cond.instantiable RX3 10, Cond.initialized RX3, Cond.fieldLink RX6 26 "CrochetRounds" "pattern" "LCrochetRounds$Pattern;", Cond.classLink RX6 30 RX5]
set_option maxRecDepth 20000 in
theorem wsL_law0_r1_c2_in : ∀ w ∈ wsL_law0_r1_c2, w ∈ lw_tbl := k_memAt [100, 17, 198, 131] (by decide +kernel)
theorem wsL_law0_r1_in : ∀ w ∈ wsL_law0_r1, w ∈ lw_tbl := k_memApp wsL_law0_r1_c0_in (k_memApp wsL_law0_r1_c1_in wsL_law0_r1_c2_in)
def wsL_law0_r2_c0 : List Cond := [Cond.instantiable RX5 4, Cond.initialized RX5, Cond.fieldLink RX6 33 "CrochetRounds" "plan" "LCrochetRounds$Plan;", Cond.classLink RX6 37 RX1, Cond.instantiable RX1 1, Cond.initialized RX1, Cond.fieldLink RX6 40 "CrochetRounds" "makers" "LCrochetRounds$Makers;", Cond.fieldLink RX6 44 "CrochetRounds$Piece" "yarn" "LCrochetRounds$Numbers;", Cond.instanceMethod yX4_init, Cond.code yX4_init cX4_init 1 none]
set_option maxRecDepth 20000 in
theorem wsL_law0_r2_c0_in : ∀ w ∈ wsL_law0_r2_c0, w ∈ lw_tbl := k_memAt [132, 18, 199, 156, 157, 19, 200, 62, 39, 40] (by decide +kernel)
def wsL_law0_r2_c1 : List Cond := [Cond.methodLink RX4 3 objectInit, Cond.classLink RX4 9 RX2, Cond.instantiable RX2 1, Cond.initialized RX2, Cond.fieldLink RX4 14 "CrochetRounds$Piece" "kinds" "LCrochetRounds$Numbers;", Cond.fieldLink RX4 20 "CrochetRounds$Piece" "works" "LCrochetRounds$Numbers;", Cond.fieldLink RX4 23 "CrochetRounds$Piece" "totals" "LCrochetRounds$Numbers;", Cond.fieldLink RX4 26 "CrochetRounds$Piece" "yarn" "LCrochetRounds$Numbers;", Cond.methodLink RX4 11 yX2_init, Cond.instanceMethod yX2_init]
set_option maxRecDepth 20000 in
theorem wsL_law0_r2_c1_in : ∀ w ∈ wsL_law0_r2_c1, w ∈ lw_tbl := k_memAt [41, 42, 43, 15, 53, 56, 59, 61, 44, 45] (by decide +kernel)
def wsL_law0_r2_c2 : List Cond := [Cond.code yX2_init cX2_init 2 none, Cond.methodLink RX2 1 objectInit, Cond.fieldLink RX2 7 "CrochetRounds$Numbers" "held" "[I", Cond.methodLink RX6 18 yX0_init]
set_option maxRecDepth 20000 in
theorem wsL_law0_r2_c2_in : ∀ w ∈ wsL_law0_r2_c2, w ∈ lw_tbl := k_memAt [46, 47, 48, 82] (by decide +kernel)
theorem wsL_law0_r2_in : ∀ w ∈ wsL_law0_r2, w ∈ lw_tbl := k_memApp wsL_law0_r2_c0_in (k_memApp wsL_law0_r2_c1_in wsL_law0_r2_c2_in)
def wsL_law0_r3_c0 : List Cond := [Cond.instanceMethod yX0_init, Cond.code yX0_init cX0_init 2 none, Cond.methodLink RX0 3 objectInit, Cond.classLink RX0 9 RX4, Cond.fieldLink RX0 11 "CrochetRounds$History" "slots" "[LCrochetRounds$Piece;", Cond.instanceMethod yX3_init, Cond.code yX3_init cX3_init 1 none, Cond.methodLink RX3 3 objectInit, Cond.classLink RX3 9 RX2, Cond.fieldLink RX3 14 "CrochetRounds$Pattern" "bytes" "LCrochetRounds$Numbers;"]
set_option maxRecDepth 20000 in
theorem wsL_law0_r3_c0_in : ∀ w ∈ wsL_law0_r3_c0, w ∈ lw_tbl := k_memAt [83, 84, 85, 86, 89, 102, 103, 104, 105, 107] (by decide +kernel)
def wsL_law0_r3_c1 : List Cond := [Cond.fieldLink RX3 20 "CrochetRounds$Pattern" "itemKinds" "LCrochetRounds$Numbers;", Cond.fieldLink RX3 23 "CrochetRounds$Pattern" "itemCounts" "LCrochetRounds$Numbers;", Cond.methodLink RX3 11 yX2_init, Cond.instanceMethod yX5_init, Cond.code yX5_init cX5_init 1 none, Cond.methodLink RX5 3 objectInit, Cond.classLink RX5 9 RX2, Cond.fieldLink RX5 14 "CrochetRounds$Plan" "row" "LCrochetRounds$Numbers;", Cond.methodLink RX5 11 yX2_init, Cond.instanceMethod yX1_init]
set_option maxRecDepth 20000 in
theorem wsL_law0_r3_c1_in : ∀ w ∈ wsL_law0_r3_c1, w ∈ lw_tbl := k_memAt [108, 109, 106, 134, 135, 136, 137, 139, 138, 159] (by decide +kernel)
def wsL_law0_r3_c2 : List Cond := [Cond.code yX1_init cX1_init 1 none, Cond.methodLink RX1 3 objectInit, Cond.classLink RX1 9 RX2, Cond.fieldLink RX1 14 "CrochetRounds$Makers" "kinds" "LCrochetRounds$Numbers;"]
set_option maxRecDepth 20000 in
theorem wsL_law0_r3_c2_in : ∀ w ∈ wsL_law0_r3_c2, w ∈ lw_tbl := k_memAt [160, 161, 162, 164] (by decide +kernel)
theorem wsL_law0_r3_in : ∀ w ∈ wsL_law0_r3, w ∈ lw_tbl := k_memApp wsL_law0_r3_c0_in (k_memApp wsL_law0_r3_c1_in wsL_law0_r3_c2_in)
def wsL_law0_r4_c0 : List Cond := [Cond.methodLink RX1 11 yX2_init, Cond.methodLink RX6 48 yX2_put, Cond.instanceMethod yX2_put, Cond.selects RX2 yX2_put yX2_put, Cond.code yX2_put cX2_put 3 none, Cond.methodLink RX6 54 yX4_startRing, Cond.instanceMethod yX4_startRing, Cond.selects RX4 yX4_startRing yX4_startRing, Cond.code yX4_startRing cX4_startRing 3 none, Cond.fieldLink RX4 29 "CrochetRounds$Piece" "rounds" "I"]
set_option maxRecDepth 20000 in
theorem wsL_law0_r4_c0_in : ∀ w ∈ wsL_law0_r4_c0, w ∈ lw_tbl := k_memAt [163, 168, 169, 170, 171, 172, 173, 174, 175, 63] (by decide +kernel)
def wsL_law0_r4_c1 : List Cond := [Cond.methodLink RX4 45 yX4_openRound, Cond.instanceMethod yX4_openRound, Cond.selects RX4 yX4_openRound yX4_openRound, Cond.code yX4_openRound cX4_openRound 1 none, Cond.methodLink RX4 54 yX2_put, Cond.methodLink RX4 48 yX4_addWork, Cond.instanceMethod yX4_addWork, Cond.selects RX4 yX4_addWork yX4_addWork, Cond.code yX4_addWork cX4_addWork 3 none, Cond.methodLink RX4 41 yX2_at]
set_option maxRecDepth 20000 in
theorem wsL_law0_r4_c1_in : ∀ w ∈ wsL_law0_r4_c1, w ∈ lw_tbl := k_memAt [176, 177, 178, 179, 180, 181, 182, 183, 184, 185] (by decide +kernel)
def wsL_law0_r4_c2 : List Cond := [Cond.instanceMethod yX2_at, Cond.selects RX2 yX2_at yX2_at, Cond.code yX2_at cX2_at 2 (some .int), Cond.static yX6_madeBy]
set_option maxRecDepth 20000 in
theorem wsL_law0_r4_c2_in : ∀ w ∈ wsL_law0_r4_c2, w ∈ lw_tbl := k_memAt [186, 187, 188, 190] (by decide +kernel)
theorem wsL_law0_r4_in : ∀ w ∈ wsL_law0_r4, w ∈ lw_tbl := k_memApp wsL_law0_r4_c0_in (k_memApp wsL_law0_r4_c1_in wsL_law0_r4_c2_in)
def wsL_law0_r5_c0 : List Cond := [Cond.code yX6_madeBy cX6_madeBy 1 (some .int), Cond.methodLink RX4 51 yX4_closeRound, Cond.instanceMethod yX4_closeRound, Cond.selects RX4 yX4_closeRound yX4_closeRound, Cond.code yX4_closeRound cX4_closeRound 1 none, Cond.methodLink RL 135 yL_isSo, Cond.static yL_isSo, Cond.initialized RL, Cond.code yL_isSo cL_isSo 12 (some .boolean), Cond.methodLink RL 127 yL_isRound]
set_option maxRecDepth 20000 in
theorem wsL_law0_r5_c0_in : ∀ w ∈ wsL_law0_r5_c0, w ∈ lw_tbl := k_memAt [191, 192, 193, 194, 195, 571, 572, 12, 573, 574] (by decide +kernel)
def wsL_law0_r5_c1 : List Cond := [Cond.static yL_isRound]
set_option maxRecDepth 20000 in
theorem wsL_law0_r5_c1_in : ∀ w ∈ wsL_law0_r5_c1, w ∈ lw_tbl := k_memAt [575] (by decide +kernel)
def wsL_law0_r5_c2 : List Cond := [Cond.code yL_isRound cL_isRound 19 (some .boolean)]
set_option maxRecDepth 20000 in
theorem wsL_law0_r5_c2_in : ∀ w ∈ wsL_law0_r5_c2, w ∈ lw_tbl := fun w h => (List.mem_singleton.mp h) ▸ List.mem_of_getElem? (i := 576) (a := Cond.code yL_isRound cL_isRound 19 (some .boolean)) rfl
def wsL_law0_r5_c3 : List Cond := [Cond.methodLink RL 53 yL_total, Cond.static yL_total, Cond.code yL_total cL_total 5 (some .int), Cond.methodLink RL 43 yL_kind, Cond.static yL_kind, Cond.code yL_kind cL_kind 3 (some .int), Cond.constantLong RL 41 (3), Cond.methodLink RL 121 yL_workOf, Cond.static yL_workOf, Cond.codeWith yL_workOf cL_workOf 4 (some .int) [(0, 6, 7, 113)]]
set_option maxRecDepth 20000 in
theorem wsL_law0_r5_c3_in : ∀ w ∈ wsL_law0_r5_c3, w ∈ lw_tbl := k_memAt [224, 225, 226, 227, 228, 229, 230, 577, 578, 579] (by decide +kernel)
def wsL_law0_r5_c4 : List Cond := [Cond.classLink RL 113 "java/lang/IndexOutOfBoundsException", Cond.methodLink RL 115 yX6_work]
set_option maxRecDepth 20000 in
theorem wsL_law0_r5_c4_in : ∀ w ∈ wsL_law0_r5_c4, w ∈ lw_tbl := k_memAt [580, 581] (by decide +kernel)
theorem wsL_law0_r5_in : ∀ w ∈ wsL_law0_r5, w ∈ lw_tbl := k_memApp wsL_law0_r5_c0_in (k_memApp wsL_law0_r5_c1_in (k_memApp wsL_law0_r5_c2_in (k_memApp wsL_law0_r5_c3_in wsL_law0_r5_c4_in)))
def wsL_law0_r6_c0 : List Cond := [Cond.instanceMethod yX6_work, Cond.selects RX6 yX6_work yX6_work, Cond.code yX6_work cX6_work 3 (some .int), Cond.fieldLink RX6 62 "CrochetRounds$Piece" "rounds" "I", Cond.fieldLink RX6 128 "CrochetRounds$Piece" "works" "LCrochetRounds$Numbers;", Cond.methodLink RX6 121 yX6_checkIndex, Cond.static yX6_checkIndex, Cond.code yX6_checkIndex cX6_checkIndex 2 none, Cond.classLink RX6 234 "java/lang/IndexOutOfBoundsException", Cond.initialized "java/lang/IndexOutOfBoundsException"]
set_option maxRecDepth 20000 in
theorem wsL_law0_r6_c0_in : ∀ w ∈ wsL_law0_r6_c0, w ∈ lw_tbl := k_memAt [582, 583, 584, 64, 58, 585, 586, 587, 588, 23] (by decide +kernel)
def wsL_law0_r6_c1 : List Cond := [Cond.methodLink RX6 114 yX2_at, Cond.methodLink RX6 131 yX4_kindOf, Cond.instanceMethod yX4_kindOf, Cond.selects RX4 yX4_kindOf yX4_kindOf, Cond.code yX4_kindOf cX4_kindOf 3 (some .int), Cond.methodLink RL 124 yL_roundOf, Cond.static yL_roundOf, Cond.codeWith yL_roundOf cL_roundOf 4 (some .int) [(0, 6, 7, 113), (0, 6, 12, 15)], Cond.classLink RL 15 "java/lang/IllegalArgumentException", Cond.methodLink RL 110 yX6_round]
set_option maxRecDepth 20000 in
theorem wsL_law0_r6_c1_in : ∀ w ∈ wsL_law0_r6_c1, w ∈ lw_tbl := k_memAt [339, 604, 543, 544, 545, 605, 606, 607, 234, 608] (by decide +kernel)
def wsL_law0_r6_c2 : List Cond := [Cond.instanceMethod yX6_round, Cond.selects RX6 yX6_round yX6_round, Cond.code yX6_round cX6_round 3 (some .int), Cond.methodLink RX6 58 yX6_checkArgument]
set_option maxRecDepth 20000 in
theorem wsL_law0_r6_c2_in : ∀ w ∈ wsL_law0_r6_c2, w ∈ lw_tbl := k_memAt [609, 610, 611, 239] (by decide +kernel)
theorem wsL_law0_r6_in : ∀ w ∈ wsL_law0_r6, w ∈ lw_tbl := k_memApp wsL_law0_r6_c0_in (k_memApp wsL_law0_r6_c1_in wsL_law0_r6_c2_in)
end
section
def wsL_law0_r7_c0 : List Cond := [Cond.static yX6_checkArgument, Cond.code yX6_checkArgument cX6_checkArgument 1 none, Cond.classLink RX6 217 "java/lang/IllegalArgumentException", Cond.initialized "java/lang/IllegalArgumentException", Cond.methodLink RX6 124 yX6_ofRound, Cond.instanceMethod yX6_ofRound, Cond.selects RX6 yX6_ofRound yX6_ofRound, Cond.code yX6_ofRound cX6_ofRound 3 (some .int), Cond.fieldLink RX6 146 "CrochetRounds$Piece" "totals" "LCrochetRounds$Numbers;", Cond.methodLink RX6 267 yX4_countOf]
set_option maxRecDepth 20000 in
theorem wsL_law0_r7_c0_in : ∀ w ∈ wsL_law0_r7_c0, w ∈ lw_tbl := k_memAt [240, 241, 242, 24, 534, 536, 10, 537, 60, 538] (by decide +kernel)
def wsL_law0_r7_c1 : List Cond := [Cond.instanceMethod yX4_countOf, Cond.selects RX4 yX4_countOf yX4_countOf, Cond.code yX4_countOf cX4_countOf 6 (some .int), Cond.methodLink RX4 61 yX4_kindOf, Cond.methodLink RX6 270 yX6_stackedOf, Cond.instanceMethod yX6_stackedOf, Cond.selects RX6 yX6_stackedOf yX6_stackedOf, Cond.code yX6_stackedOf cX6_stackedOf 2 (some .int), Cond.fieldLink RX6 279 "CrochetRounds$Piece" "kinds" "LCrochetRounds$Numbers;", Cond.methodLink RX6 155 yX1_load]
set_option maxRecDepth 20000 in
theorem wsL_law0_r7_c1_in : ∀ w ∈ wsL_law0_r7_c1, w ∈ lw_tbl := k_memAt [539, 540, 541, 542, 546, 548, 11, 549, 55, 438] (by decide +kernel)
def wsL_law0_r7_c2 : List Cond := [Cond.instanceMethod yX1_load, Cond.selects RX1 yX1_load yX1_load, Cond.code yX1_load cX1_load 7 none, Cond.fieldLink RX1 20 "CrochetRounds$Piece" "works" "LCrochetRounds$Numbers;"]
set_option maxRecDepth 20000 in
theorem wsL_law0_r7_c2_in : ∀ w ∈ wsL_law0_r7_c2, w ∈ lw_tbl := k_memAt [439, 440, 441, 57] (by decide +kernel)
theorem wsL_law0_r7_in : ∀ w ∈ wsL_law0_r7, w ∈ lw_tbl := k_memApp wsL_law0_r7_c0_in (k_memApp wsL_law0_r7_c1_in wsL_law0_r7_c2_in)
def wsL_law0_r8_c0 : List Cond := [Cond.fieldLink RX1 29 "CrochetRounds$Piece" "kinds" "LCrochetRounds$Numbers;", Cond.methodLink RX1 25 yX2_at, Cond.methodLink RX1 30 yX2_put, Cond.methodLink RX6 164 yX1_stackedIn, Cond.instanceMethod yX1_stackedIn, Cond.selects RX1 yX1_stackedIn yX1_stackedIn, Cond.code yX1_stackedIn cX1_stackedIn 11 (some .int), Cond.static yX6_usedBy, Cond.code yX6_usedBy cX6_usedBy 1 (some .int), Cond.methodLink RX6 273 yX4_isMirrored]
set_option maxRecDepth 20000 in
theorem wsL_law0_r8_c0_in : ∀ w ∈ wsL_law0_r8_c0, w ∈ lw_tbl := k_memAt [54, 442, 443, 511, 450, 451, 452, 454, 455, 550] (by decide +kernel)
def wsL_law0_r8_c1 : List Cond := [Cond.instanceMethod yX4_isMirrored, Cond.selects RX4 yX4_isMirrored yX4_isMirrored, Cond.code yX4_isMirrored cX4_isMirrored 4 (some .boolean), Cond.methodLink RX6 276 yX4_yarnOf, Cond.instanceMethod yX4_yarnOf, Cond.selects RX4 yX4_yarnOf yX4_yarnOf, Cond.code yX4_yarnOf cX4_yarnOf 5 (some .int), Cond.methodLink RX6 174 yX4_distance, Cond.instanceMethod yX4_distance, Cond.selects RX4 yX4_distance yX4_distance]
set_option maxRecDepth 20000 in
theorem wsL_law0_r8_c1_in : ∀ w ∈ wsL_law0_r8_c1, w ∈ lw_tbl := k_memAt [551, 552, 553, 554, 555, 556, 557, 558, 559, 560] (by decide +kernel)
def wsL_law0_r8_c2 : List Cond := [Cond.code yX4_distance cX4_distance 8 (some .int), Cond.methodLink RX4 71 yX4_further, Cond.static yX4_further, Cond.code yX4_further cX4_further 3 (some .int)]
set_option maxRecDepth 20000 in
theorem wsL_law0_r8_c2_in : ∀ w ∈ wsL_law0_r8_c2, w ∈ lw_tbl := k_memAt [561, 562, 563, 564] (by decide +kernel)
theorem wsL_law0_r8_in : ∀ w ∈ wsL_law0_r8, w ∈ lw_tbl := k_memApp wsL_law0_r8_c0_in (k_memApp wsL_law0_r8_c1_in wsL_law0_r8_c2_in)
def wsL_law0_r9_c0 : List Cond := [Cond.methodLink RX4 75 Lib.Math.max.name, Cond.static Lib.Math.max.name, Cond.initialized "java/lang/Math", Cond.code Lib.Math.max.name Lib.Math.max.code 2 (some .int), Cond.methodLink RX4 80 Lib.Math.min.name, Cond.static Lib.Math.min.name, Cond.code Lib.Math.min.name Lib.Math.min.code 2 (some .int), Cond.methodLink RL 63 yL_stacked, Cond.static yL_stacked, Cond.code yL_stacked cL_stacked 7 (some .int)]
set_option maxRecDepth 20000 in
theorem wsL_law0_r9_c0_in : ∀ w ∈ wsL_law0_r9_c0, w ∈ lw_tbl := k_memAt [565, 419, 25, 420, 566, 330, 331, 388, 389, 390] (by decide +kernel)
def wsL_law0_r9_c1 : List Cond := [Cond.methodLink RL 49 yL_isMade, Cond.static yL_isMade, Cond.code yL_isMade cL_isMade 8 (some .boolean), Cond.methodLink RL 131 yL_valueOf, Cond.static yL_valueOf, Cond.codeWith yL_valueOf cL_valueOf 3 (some .int) [(0, 5, 6, 15)], Cond.methodLink RL 118 yX6_value, Cond.instanceMethod yX6_value, Cond.selects RX6 yX6_value yX6_value, Cond.code yX6_value cX6_value 2 (some .int)]
set_option maxRecDepth 20000 in
theorem wsL_law0_r9_c1_in : ∀ w ∈ wsL_law0_r9_c1, w ∈ lw_tbl := k_memAt [391, 392, 393, 523, 524, 525, 526, 527, 528, 529] (by decide +kernel)
def wsL_law0_r9_c2 : List Cond := [Cond.fieldLink RX6 117 "CrochetRounds$Piece" "spiral" "Z", Cond.methodLink RX6 77 yX4_lastTotal, Cond.instanceMethod yX4_lastTotal, Cond.selects RX4 yX4_lastTotal yX4_lastTotal]
set_option maxRecDepth 20000 in
theorem wsL_law0_r9_c2_in : ∀ w ∈ wsL_law0_r9_c2, w ∈ lw_tbl := k_memAt [66, 371, 372, 373] (by decide +kernel)
theorem wsL_law0_r9_in : ∀ w ∈ wsL_law0_r9, w ∈ lw_tbl := k_memApp wsL_law0_r9_c0_in (k_memApp wsL_law0_r9_c1_in wsL_law0_r9_c2_in)
def wsL_law0_r10_c0 : List Cond := [Cond.code yX4_lastTotal cX4_lastTotal 1 (some .int), Cond.methodLink RX6 149 yX6_sumOverRounds, Cond.instanceMethod yX6_sumOverRounds, Cond.selects RX6 yX6_sumOverRounds yX6_sumOverRounds, Cond.code yX6_sumOverRounds cX6_sumOverRounds 4 (some .int), Cond.methodLink RX6 152 yX4_widest, Cond.instanceMethod yX4_widest, Cond.selects RX4 yX4_widest yX4_widest, Cond.code yX4_widest cX4_widest 3 (some .int), Cond.methodLink RL 139 yL_cell]
set_option maxRecDepth 20000 in
theorem wsL_law0_r10_c0_in : ∀ w ∈ wsL_law0_r10_c0, w ∈ lw_tbl := k_memAt [374, 530, 532, 9, 533, 567, 568, 569, 570, 212] (by decide +kernel)
def wsL_law0_r10_c1 : List Cond := [Cond.static yL_cell, Cond.code yL_cell cL_cell 2 (some .int), Cond.constant RL 7 (40503), Cond.methodLink RL 67 yL_low, Cond.static yL_low, Cond.code yL_low cL_low 2 (some .int), Cond.constant RL 8 (2147483647), Cond.methodLink RL 143 yL_acts, Cond.static yL_acts]
set_option maxRecDepth 20000 in
theorem wsL_law0_r10_c1_in : ∀ w ∈ wsL_law0_r10_c1, w ∈ lw_tbl := k_memAt [213, 214, 215, 216, 217, 218, 219, 220, 221] (by decide +kernel)
def wsL_law0_r10_c2 : List Cond := [Cond.code yL_acts cL_acts 15 (some .boolean)]
set_option maxRecDepth 20000 in
theorem wsL_law0_r10_c2_in : ∀ w ∈ wsL_law0_r10_c2, w ∈ lw_tbl := fun w h => (List.mem_singleton.mp h) ▸ List.mem_of_getElem? (i := 222) (a := Cond.code yL_acts cL_acts 15 (some .boolean)) rfl
def wsL_law0_r10_c3 : List Cond := [Cond.constant RL 66 (10000000), Cond.methodLink RL 70 yL_begins, Cond.static yL_begins, Cond.codeWith yL_begins cL_begins 3 (some .int) [(0, 5, 6, 15)]]
set_option maxRecDepth 20000 in
theorem wsL_law0_r10_c3_in : ∀ w ∈ wsL_law0_r10_c3, w ∈ lw_tbl := k_memAt [223, 231, 232, 233] (by decide +kernel)
theorem wsL_law0_r10_in : ∀ w ∈ wsL_law0_r10, w ∈ lw_tbl := k_memApp wsL_law0_r10_c0_in (k_memApp wsL_law0_r10_c1_in (k_memApp wsL_law0_r10_c2_in wsL_law0_r10_c3_in))
def wsL_law0_r11_c0 : List Cond := [Cond.methodLink RL 9 yX6_begin, Cond.instanceMethod yX6_begin, Cond.selects RX6 yX6_begin yX6_begin, Cond.code yX6_begin cX6_begin 3 (some .int), Cond.methodLink RX6 66 yX0_keep, Cond.instanceMethod yX0_keep, Cond.selects RX0 yX0_keep yX0_keep, Cond.code yX0_keep cX0_keep 3 none, Cond.fieldLink RX0 18 "CrochetRounds$History" "next" "I", Cond.fieldLink RX0 30 "CrochetRounds$History" "size" "I"]
set_option maxRecDepth 20000 in
theorem wsL_law0_r11_c0_in : ∀ w ∈ wsL_law0_r11_c0, w ∈ lw_tbl := k_memAt [235, 236, 237, 238, 311, 312, 313, 314, 90, 91] (by decide +kernel)
def wsL_law0_r11_c1 : List Cond := [Cond.methodLink RX0 33 Lib.Math.min.name, Cond.methodLink RX0 22 yX0_slotAt, Cond.instanceMethod yX0_slotAt, Cond.selects RX0 yX0_slotAt yX0_slotAt, Cond.code yX0_slotAt cX0_slotAt 2 (some (.object "CrochetRounds$Piece")), Cond.methodLink RX0 26 yX4_takeOver, Cond.instanceMethod yX4_takeOver, Cond.selects RX4 yX4_takeOver yX4_takeOver, Cond.code yX4_takeOver cX4_takeOver 3 none, Cond.fieldLink RX4 33 "CrochetRounds$Piece" "spiral" "Z"]
set_option maxRecDepth 20000 in
theorem wsL_law0_r11_c1_in : ∀ w ∈ wsL_law0_r11_c1, w ∈ lw_tbl := k_memAt [329, 315, 317, 1, 318, 319, 320, 321, 322, 65] (by decide +kernel)
def wsL_law0_r11_c2 : List Cond := [Cond.methodLink RX4 37 yX2_take, Cond.instanceMethod yX2_take, Cond.selects RX2 yX2_take yX2_take, Cond.code yX2_take cX2_take 5 none]
set_option maxRecDepth 20000 in
theorem wsL_law0_r11_c2_in : ∀ w ∈ wsL_law0_r11_c2, w ∈ lw_tbl := k_memAt [323, 324, 325, 326] (by decide +kernel)
theorem wsL_law0_r11_in : ∀ w ∈ wsL_law0_r11, w ∈ lw_tbl := k_memApp wsL_law0_r11_c0_in (k_memApp wsL_law0_r11_c1_in wsL_law0_r11_c2_in)
def wsL_law0_r12_c0 : List Cond := [Cond.methodLink RX2 13 yX2_at, Cond.methodLink RX2 17 yX2_put, Cond.methodLink RL 74 yL_yarns, Cond.static yL_yarns, Cond.codeWith yL_yarns cL_yarns 4 (some .int) [(0, 6, 7, 15)], Cond.methodLink RL 38 yX6_setYarn, Cond.instanceMethod yX6_setYarn, Cond.selects RX6 yX6_setYarn yX6_setYarn, Cond.code yX6_setYarn cX6_setYarn 4 (some .int), Cond.methodLink RL 78 yX6_setSpiral]
set_option maxRecDepth 20000 in
theorem wsL_law0_r12_c0_in : ∀ w ∈ wsL_law0_r12_c0, w ∈ lw_tbl := k_memAt [327, 328, 332, 333, 334, 335, 336, 337, 338, 340] (by decide +kernel)
def wsL_law0_r12_c1 : List Cond := [Cond.instanceMethod yX6_setSpiral, Cond.selects RX6 yX6_setSpiral yX6_setSpiral, Cond.code yX6_setSpiral cX6_setSpiral 3 (some .boolean), Cond.methodLink RL 82 yL_rips, Cond.static yL_rips, Cond.codeWith yL_rips cL_rips 3 (some .int) [(0, 5, 6, 15), (0, 5, 11, 20)], Cond.classLink RL 20 "java/lang/IllegalStateException", Cond.methodLink RL 35 yX6_rip, Cond.instanceMethod yX6_rip, Cond.selects RX6 yX6_rip yX6_rip]
set_option maxRecDepth 20000 in
theorem wsL_law0_r12_c1_in : ∀ w ∈ wsL_law0_r12_c1, w ∈ lw_tbl := k_memAt [341, 342, 343, 344, 345, 346, 347, 348, 349, 350] (by decide +kernel)
def wsL_law0_r12_c2 : List Cond := [Cond.code yX6_rip cX6_rip 2 (some .int), Cond.methodLink RX6 111 yX6_checkState, Cond.static yX6_checkState, Cond.code yX6_checkState cX6_checkState 1 none]
set_option maxRecDepth 20000 in
theorem wsL_law0_r12_c2_in : ∀ w ∈ wsL_law0_r12_c2, w ∈ lw_tbl := k_memAt [351, 352, 353, 354] (by decide +kernel)
theorem wsL_law0_r12_in : ∀ w ∈ wsL_law0_r12, w ∈ lw_tbl := k_memApp wsL_law0_r12_c0_in (k_memApp wsL_law0_r12_c1_in wsL_law0_r12_c2_in)
end
section
def wsL_law0_r13_c0 : List Cond := [Cond.classLink RX6 224 "java/lang/IllegalStateException", Cond.initialized "java/lang/IllegalStateException", Cond.methodLink RL 85 yL_goal, Cond.static yL_goal, Cond.code yL_goal cL_goal 6 (some .int), Cond.methodLink RL 89 yL_canBe, Cond.static yL_canBe, Cond.code yL_canBe cL_canBe 2 (some .boolean), Cond.methodLink RL 93 yL_best, Cond.static yL_best]
set_option maxRecDepth 20000 in
theorem wsL_law0_r13_c0_in : ∀ w ∈ wsL_law0_r13_c0, w ∈ lw_tbl := k_memAt [355, 26, 375, 376, 377, 378, 379, 380, 381, 382] (by decide +kernel)
def wsL_law0_r13_c1 : List Cond := [Cond.code yL_best cL_best 9 (some .int), Cond.methodLink RL 59 yL_lays, Cond.static yL_lays, Cond.code yL_lays cL_lays 14 none, Cond.constantLong RL 57 (2), Cond.methodLink RL 97 yL_shapes, Cond.static yL_shapes, Cond.codeWith yL_shapes cL_shapes 5 (some .int) [(0, 7, 8, 15)], Cond.methodLink RL 31 yX6_addShape, Cond.instanceMethod yX6_addShape]
set_option maxRecDepth 20000 in
theorem wsL_law0_r13_c1_in : ∀ w ∈ wsL_law0_r13_c1, w ∈ lw_tbl := k_memAt [383, 384, 385, 386, 387, 394, 395, 396, 397, 398] (by decide +kernel)
def wsL_law0_r13_c2 : List Cond := [Cond.selects RX6 yX6_addShape yX6_addShape, Cond.code yX6_addShape cX6_addShape 6 (some .int), Cond.methodLink RX6 101 yX6_isShape, Cond.static yX6_isShape]
set_option maxRecDepth 20000 in
theorem wsL_law0_r13_c2_in : ∀ w ∈ wsL_law0_r13_c2, w ∈ lw_tbl := k_memAt [399, 400, 401, 402] (by decide +kernel)
theorem wsL_law0_r13_in : ∀ w ∈ wsL_law0_r13, w ∈ lw_tbl := k_memApp wsL_law0_r13_c0_in (k_memApp wsL_law0_r13_c1_in wsL_law0_r13_c2_in)
def wsL_law0_r14_c0 : List Cond := [Cond.code yX6_isShape cX6_isShape 1 (some .boolean), Cond.methodLink RX6 104 yX6_isSize, Cond.static yX6_isSize, Cond.code yX6_isSize cX6_isSize 1 (some .boolean), Cond.methodLink RX6 107 yX6_shapeGoal, Cond.instanceMethod yX6_shapeGoal, Cond.selects RX6 yX6_shapeGoal yX6_shapeGoal, Cond.code yX6_shapeGoal cX6_shapeGoal 5 (some .int), Cond.methodLink RX6 286 Lib.Math.min.name, Cond.methodLink RX6 291 Lib.Math.max.name]
set_option maxRecDepth 20000 in
theorem wsL_law0_r14_c0_in : ∀ w ∈ wsL_law0_r14_c0, w ∈ lw_tbl := k_memAt [403, 404, 405, 406, 407, 409, 2, 410, 414, 418] (by decide +kernel)
def wsL_law0_r14_c1 : List Cond := [Cond.methodLink RX6 282 yX6_rawGoal, Cond.static yX6_rawGoal, Cond.code yX6_rawGoal cX6_rawGoal 4 (some .int), Cond.methodLink RX6 294 yX6_doubled, Cond.static yX6_doubled, Cond.code yX6_doubled cX6_doubled 4 (some .int), Cond.methodLink RX6 81 yX5_spread, Cond.instanceMethod yX5_spread, Cond.selects RX5 yX5_spread yX5_spread, Cond.code yX5_spread cX5_spread 4 (some .boolean)]
set_option maxRecDepth 20000 in
theorem wsL_law0_r14_c1_in : ∀ w ∈ wsL_law0_r14_c1, w ∈ lw_tbl := k_memAt [411, 412, 413, 415, 416, 417, 421, 422, 423, 424] (by decide +kernel)
def wsL_law0_r14_c2 : List Cond := [Cond.fieldLink RX5 24 "CrochetRounds$Plan" "works" "I", Cond.fieldLink RX5 28 "CrochetRounds$Plan" "shaped" "I", Cond.methodLink RX5 20 yX5_measure, Cond.instanceMethod yX5_measure]
set_option maxRecDepth 20000 in
theorem wsL_law0_r14_c2_in : ∀ w ∈ wsL_law0_r14_c2, w ∈ lw_tbl := k_memAt [142, 145, 425, 427] (by decide +kernel)
theorem wsL_law0_r14_in : ∀ w ∈ wsL_law0_r14, w ∈ lw_tbl := k_memApp wsL_law0_r14_c0_in (k_memApp wsL_law0_r14_c1_in wsL_law0_r14_c2_in)
def wsL_law0_r15_c0 : List Cond := [Cond.selects RX5 yX5_measure yX5_measure, Cond.code yX5_measure cX5_measure 3 (some .boolean), Cond.fieldLink RX5 39 "CrochetRounds$Plan" "kind" "I", Cond.methodLink RX5 31 yX5_spreadKind, Cond.instanceMethod yX5_spreadKind, Cond.selects RX5 yX5_spreadKind yX5_spreadKind, Cond.code yX5_spreadKind cX5_spreadKind 4 (some .int), Cond.methodLink RX5 35 yX2_put, Cond.methodLink RX6 88 yX6_addBest, Cond.instanceMethod yX6_addBest]
set_option maxRecDepth 20000 in
theorem wsL_law0_r15_c0_in : ∀ w ∈ wsL_law0_r15_c0, w ∈ lw_tbl := k_memAt [3, 428, 146, 429, 431, 4, 432, 433, 434, 436] (by decide +kernel)
def wsL_law0_r15_c1 : List Cond := [Cond.selects RX6 yX6_addBest yX6_addBest, Cond.code yX6_addBest cX6_addBest 2 (some .int), Cond.methodLink RX6 239 yX1_bestShift, Cond.instanceMethod yX1_bestShift, Cond.selects RX1 yX1_bestShift yX1_bestShift, Cond.code yX1_bestShift cX1_bestShift 6 (some .int), Cond.fieldLink RX1 40 "CrochetRounds$Plan" "row" "LCrochetRounds$Numbers;", Cond.fieldLink RX1 45 "CrochetRounds$Plan" "works" "I", Cond.methodLink RX1 48 yX1_stackedIn, Cond.methodLink RX6 243 yX6_addRow]
set_option maxRecDepth 20000 in
theorem wsL_law0_r15_c1_in : ∀ w ∈ wsL_law0_r15_c1, w ∈ lw_tbl := k_memAt [5, 437, 445, 446, 447, 448, 140, 143, 449, 456] (by decide +kernel)
def wsL_law0_r15_c2 : List Cond := [Cond.instanceMethod yX6_addRow, Cond.selects RX6 yX6_addRow yX6_addRow, Cond.code yX6_addRow cX6_addRow 4 none, Cond.fieldLink RX6 162 "CrochetRounds$Plan" "works" "I"]
set_option maxRecDepth 20000 in
theorem wsL_law0_r15_c2_in : ∀ w ∈ wsL_law0_r15_c2, w ∈ lw_tbl := k_memAt [458, 6, 459, 144] (by decide +kernel)
theorem wsL_law0_r15_in : ∀ w ∈ wsL_law0_r15, w ∈ lw_tbl := k_memApp wsL_law0_r15_c0_in (k_memApp wsL_law0_r15_c1_in wsL_law0_r15_c2_in)
def wsL_law0_r16_c0 : List Cond := [Cond.fieldLink RX6 159 "CrochetRounds$Plan" "row" "LCrochetRounds$Numbers;", Cond.methodLink RX6 246 yX4_openRound, Cond.methodLink RX6 249 yX4_addWork, Cond.methodLink RX6 252 yX4_closeRound, Cond.methodLink RL 101 yL_adds, Cond.static yL_adds, Cond.codeWith yL_adds cL_adds 3 (some .int) [(0, 5, 6, 15), (0, 5, 11, 20), (0, 5, 16, 22)], Cond.classLink RL 22 "java/lang/UnsupportedOperationException", Cond.methodLink RL 17 yX6_addRound, Cond.instanceMethod yX6_addRound]
set_option maxRecDepth 20000 in
theorem wsL_law0_r16_c0_in : ∀ w ∈ wsL_law0_r16_c0, w ∈ lw_tbl := k_memAt [141, 460, 461, 462, 463, 464, 465, 466, 467, 468] (by decide +kernel)
def wsL_law0_r16_c1 : List Cond := [Cond.selects RX6 yX6_addRound yX6_addRound, Cond.code yX6_addRound cX6_addRound 2 (some .int), Cond.methodLink RX6 70 yX6_isGoal, Cond.static yX6_isGoal, Cond.code yX6_isGoal cX6_isGoal 1 (some .boolean), Cond.methodLink RX6 74 yX6_checkRoom, Cond.instanceMethod yX6_checkRoom, Cond.selects RX6 yX6_checkRoom yX6_checkRoom, Cond.code yX6_checkRoom cX6_checkRoom 1 none, Cond.methodLink RX6 85 yX6_checkPossible]
set_option maxRecDepth 20000 in
theorem wsL_law0_r16_c1_in : ∀ w ∈ wsL_law0_r16_c1, w ∈ lw_tbl := k_memAt [469, 470, 471, 472, 473, 474, 476, 7, 477, 478] (by decide +kernel)
def wsL_law0_r16_c2 : List Cond := [Cond.static yX6_checkPossible, Cond.code yX6_checkPossible cX6_checkPossible 1 none, Cond.classLink RX6 229 "java/lang/UnsupportedOperationException", Cond.initialized "java/lang/UnsupportedOperationException"]
set_option maxRecDepth 20000 in
theorem wsL_law0_r16_c2_in : ∀ w ∈ wsL_law0_r16_c2, w ∈ lw_tbl := k_memAt [479, 480, 481, 27] (by decide +kernel)
theorem wsL_law0_r16_in : ∀ w ∈ wsL_law0_r16, w ∈ lw_tbl := k_memApp wsL_law0_r16_c0_in (k_memApp wsL_law0_r16_c1_in wsL_law0_r16_c2_in)
def wsL_law0_r17_c0 : List Cond := [Cond.methodLink RL 104 yL_shifts, Cond.static yL_shifts, Cond.codeWith yL_shifts cL_shifts 4 (some .int) [(0, 6, 7, 15), (0, 6, 12, 20), (0, 6, 17, 22)], Cond.methodLink RL 24 yX6_addShifted, Cond.instanceMethod yX6_addShifted, Cond.selects RX6 yX6_addShifted yX6_addShifted, Cond.code yX6_addShifted cX6_addShifted 3 (some .int), Cond.methodLink RX6 91 yX6_isShift, Cond.static yX6_isShift, Cond.code yX6_isShift cX6_isShift 1 (some .boolean)]
set_option maxRecDepth 20000 in
theorem wsL_law0_r17_c0_in : ∀ w ∈ wsL_law0_r17_c0, w ∈ lw_tbl := k_memAt [497, 498, 499, 500, 501, 502, 503, 504, 505, 506] (by decide +kernel)
def wsL_law0_r17_c1 : List Cond := [Cond.methodLink RX6 94 yX6_addPlanned, Cond.instanceMethod yX6_addPlanned, Cond.selects RX6 yX6_addPlanned yX6_addPlanned, Cond.code yX6_addPlanned cX6_addPlanned 3 (some .int), Cond.methodLink RL 107 yL_mirrors, Cond.static yL_mirrors, Cond.codeWith yL_mirrors cL_mirrors 3 (some .int) [(0, 5, 6, 15), (0, 5, 11, 20), (0, 5, 16, 22)], Cond.methodLink RL 28 yX6_addMirrored, Cond.instanceMethod yX6_addMirrored, Cond.selects RX6 yX6_addMirrored yX6_addMirrored]
set_option maxRecDepth 20000 in
theorem wsL_law0_r17_c1_in : ∀ w ∈ wsL_law0_r17_c1, w ∈ lw_tbl := k_memAt [507, 509, 8, 510, 512, 513, 514, 515, 516, 517] (by decide +kernel)
def wsL_law0_r17_c2 : List Cond := [Cond.code yX6_addMirrored cX6_addMirrored 2 (some .int), Cond.methodLink RX6 98 yX5_mirror, Cond.instanceMethod yX5_mirror, Cond.selects RX5 yX5_mirror yX5_mirror]
set_option maxRecDepth 20000 in
theorem wsL_law0_r17_c2_in : ∀ w ∈ wsL_law0_r17_c2, w ∈ lw_tbl := k_memAt [518, 519, 520, 521] (by decide +kernel)
theorem wsL_law0_r17_in : ∀ w ∈ wsL_law0_r17, w ∈ lw_tbl := k_memApp wsL_law0_r17_c0_in (k_memApp wsL_law0_r17_c1_in wsL_law0_r17_c2_in)
def wsL_law0_r18_c0 : List Cond := [Cond.code yX5_mirror cX5_mirror 8 (some .boolean)]
set_option maxRecDepth 20000 in
theorem wsL_law0_r18_c0_in : ∀ w ∈ wsL_law0_r18_c0, w ∈ lw_tbl := k_memAt [522] (by decide +kernel)
theorem wsL_law0_r18_in : ∀ w ∈ wsL_law0_r18, w ∈ lw_tbl := wsL_law0_r18_c0_in
end
section
theorem wsX60_inT : ∀ w ∈ wsX60, w ∈ lw_tbl := by decide +kernel
theorem wsX40_inT : ∀ w ∈ wsX40, w ∈ lw_tbl := by decide +kernel
theorem wsX00_inT : ∀ w ∈ wsX00, w ∈ lw_tbl := by decide +kernel
theorem wsX30_inT : ∀ w ∈ wsX30, w ∈ lw_tbl := by decide +kernel
theorem wsX50_inT : ∀ w ∈ wsX50, w ∈ lw_tbl := by decide +kernel
theorem wsX10_inT : ∀ w ∈ wsX10, w ∈ lw_tbl := by decide +kernel
theorem wsX20_inT : ∀ w ∈ wsX20, w ∈ lw_tbl := by decide +kernel
theorem wsL_law_in0 : ∀ w ∈ wsL_law0, w ∈ lw_tbl := k_memApp (k_memApp (k_memApp (k_memApp (k_memApp (k_memApp (k_memApp (k_memApp (k_memApp wsL_law0_r1_in (k_memApp wsL_law0_r2_in (k_memApp wsL_law0_r3_in (k_memApp wsL_law0_r4_in (k_memApp wsL_law0_r5_in (k_memApp wsL_law0_r6_in (k_memApp wsL_law0_r7_in (k_memApp wsL_law0_r8_in (k_memApp wsL_law0_r9_in (k_memApp wsL_law0_r10_in (k_memApp wsL_law0_r11_in (k_memApp wsL_law0_r12_in (k_memApp wsL_law0_r13_in (k_memApp wsL_law0_r14_in (k_memApp wsL_law0_r15_in (k_memApp wsL_law0_r16_in (k_memApp wsL_law0_r17_in wsL_law0_r18_in))))))))))))))))) wsX60_inT) wsX40_inT) wsX00_inT) wsX30_inT) wsX50_inT) wsX10_inT) wsX20_inT) (fun _ h => absurd h List.not_mem_nil)
theorem wsL_law_x0 : ∀ w ∈ (vx_atS RX6 238 "java/lang/IndexOutOfBoundsException" ["java/lang/RuntimeException", "java/lang/Exception"]).filter goodWord, w ∈ lw_tbl := by decide +kernel
theorem wsL_law_x1 : ∀ w ∈ (vx_atS RX6 221 "java/lang/IllegalArgumentException" ["java/lang/RuntimeException", "java/lang/Exception"]).filter goodWord, w ∈ lw_tbl := by decide +kernel
theorem wsL_law_x2 : ∀ w ∈ (vx_atS RX6 228 "java/lang/IllegalStateException" ["java/lang/RuntimeException", "java/lang/Exception"]).filter goodWord, w ∈ lw_tbl := by decide +kernel
theorem wsL_law_x3 : ∀ w ∈ (vx_atS RX6 233 "java/lang/UnsupportedOperationException" ["java/lang/RuntimeException", "java/lang/Exception"]).filter goodWord, w ∈ lw_tbl := by decide +kernel
theorem wsL_law_in : ∀ w ∈ wsL_law, w ∈ lw_tbl := fun w h => (List.mem_append.mp h).elim (fun h => (List.mem_append.mp h).elim (fun h => (List.mem_append.mp h).elim (fun h => (List.mem_append.mp h).elim (fun h => wsL_law_in0 w h) (fun h => wsL_law_x0 w h)) (fun h => wsL_law_x1 w h)) (fun h => wsL_law_x2 w h)) (fun h => wsL_law_x3 w h)
theorem inlX0 : ∀ w ∈ wsX00, w ∈ wsL_law := fun _ h => List.mem_append_left _ (List.mem_append_left _ (List.mem_append_left _ (List.mem_append_left _ (List.mem_append_left _ (List.mem_append_left _ (List.mem_append_left _ (List.mem_append_left _ (List.mem_append_left _ (List.mem_append_right _ h)))))))))
theorem inX0 : ∀ w ∈ wsX00, w ∈ lw_tbl := fun w h => wsL_law_in w (inlX0 w h)
theorem inlX1 : ∀ w ∈ wsX10, w ∈ wsL_law := fun _ h => List.mem_append_left _ (List.mem_append_left _ (List.mem_append_left _ (List.mem_append_left _ (List.mem_append_left _ (List.mem_append_left _ (List.mem_append_right _ h))))))
theorem inX1 : ∀ w ∈ wsX10, w ∈ lw_tbl := fun w h => wsL_law_in w (inlX1 w h)
theorem inlX2 : ∀ w ∈ wsX20, w ∈ wsL_law := fun _ h => List.mem_append_left _ (List.mem_append_left _ (List.mem_append_left _ (List.mem_append_left _ (List.mem_append_left _ (List.mem_append_right _ h)))))
theorem inX2 : ∀ w ∈ wsX20, w ∈ lw_tbl := fun w h => wsL_law_in w (inlX2 w h)
theorem inlX3 : ∀ w ∈ wsX30, w ∈ wsL_law := fun _ h => List.mem_append_left _ (List.mem_append_left _ (List.mem_append_left _ (List.mem_append_left _ (List.mem_append_left _ (List.mem_append_left _ (List.mem_append_left _ (List.mem_append_left _ (List.mem_append_right _ h))))))))
theorem inX3 : ∀ w ∈ wsX30, w ∈ lw_tbl := fun w h => wsL_law_in w (inlX3 w h)
theorem inlX4 : ∀ w ∈ wsX40, w ∈ wsL_law := fun _ h => List.mem_append_left _ (List.mem_append_left _ (List.mem_append_left _ (List.mem_append_left _ (List.mem_append_left _ (List.mem_append_left _ (List.mem_append_left _ (List.mem_append_left _ (List.mem_append_left _ (List.mem_append_left _ (List.mem_append_right _ h))))))))))
theorem inX4 : ∀ w ∈ wsX40, w ∈ lw_tbl := fun w h => wsL_law_in w (inlX4 w h)
theorem inlX5 : ∀ w ∈ wsX50, w ∈ wsL_law := fun _ h => List.mem_append_left _ (List.mem_append_left _ (List.mem_append_left _ (List.mem_append_left _ (List.mem_append_left _ (List.mem_append_left _ (List.mem_append_left _ (List.mem_append_right _ h)))))))
theorem inX5 : ∀ w ∈ wsX50, w ∈ lw_tbl := fun w h => wsL_law_in w (inlX5 w h)
theorem inlX6 : ∀ w ∈ wsX60, w ∈ wsL_law := fun _ h => List.mem_append_left _ (List.mem_append_left _ (List.mem_append_left _ (List.mem_append_left _ (List.mem_append_left _ (List.mem_append_left _ (List.mem_append_left _ (List.mem_append_left _ (List.mem_append_left _ (List.mem_append_left _ (List.mem_append_left _ (List.mem_append_right _ h)))))))))))
theorem inX6 : ∀ w ∈ wsX60, w ∈ lw_tbl := fun w h => wsL_law_in w (inlX6 w h)
theorem inX7 : ∀ w ∈ wsX70, w ∈ lw_tbl := by decide +kernel
theorem inJ9 : ∀ w ∈ wsJ90, w ∈ lw_tbl := by decide +kernel
theorem inJ0 : ∀ w ∈ wsJ00, w ∈ lw_tbl := by decide +kernel
end
section
set_option maxRecDepth 20000 in
theorem ggX0_init_X4_init : GoodIn wsX0_init wsX4_init := goodIn_r _ [9, 10, 2, 3, 11, 12, 13, 14, 15, 16, 17, 18, 19, 20, 21, 22, 23, 33, 27, 28, 29, 30, 31, 32] (by decide +kernel) (by decide +kernel)
set_option maxRecDepth 20000 in
theorem gX0_init_X4_init_n17 : GoodIn wsX0_init (wsX4_init) := ggX0_init_X4_init
theorem dX0_init_0 : decode cX0_init 0 = .ok (.aload_n 0, 1) := by decide +kernel
theorem dX0_init_1 : decode cX0_init 1 = .ok (.invokespecial 3, 3) := by decide +kernel
theorem dX0_init_4 : decode cX0_init 4 = .ok (.aload_n 0, 1) := by decide +kernel
theorem dX0_init_5 : decode cX0_init 5 = .ok (.iconst 4, 1) := by decide +kernel
theorem dX0_init_6 : decode cX0_init 6 = .ok (.anewarray 9, 3) := by decide +kernel
theorem dX0_init_9 : decode cX0_init 9 = .ok (.putfield 11, 3) := by decide +kernel
theorem dX0_init_12 : decode cX0_init 12 = .ok (.iconst 0, 1) := by decide +kernel
theorem dX0_init_13 : decode cX0_init 13 = .ok (.istore_n 1, 1) := by decide +kernel
theorem dX0_init_14 : decode cX0_init 14 = .ok (.iload_n 1, 1) := by decide +kernel
theorem dX0_init_15 : decode cX0_init 15 = .ok (.aload_n 0, 1) := by decide +kernel
theorem dX0_init_16 : decode cX0_init 16 = .ok (.getfield 11, 3) := by decide +kernel
theorem dX0_init_19 : decode cX0_init 19 = .ok (.arraylength, 1) := by decide +kernel
theorem dX0_init_20 : decode cX0_init 20 = .ok (.if_icmp .ge 22, 3) := by decide +kernel
theorem dX0_init_23 : decode cX0_init 23 = .ok (.aload_n 0, 1) := by decide +kernel
theorem dX0_init_24 : decode cX0_init 24 = .ok (.getfield 11, 3) := by decide +kernel
theorem dX0_init_27 : decode cX0_init 27 = .ok (.iload_n 1, 1) := by decide +kernel
theorem dX0_init_28 : decode cX0_init 28 = .ok (.new 9, 3) := by decide +kernel
theorem dX0_init_31 : decode cX0_init 31 = .ok (.dup, 1) := by decide +kernel
theorem dX0_init_32 : decode cX0_init 32 = .ok (.invokespecial 17, 3) := by decide +kernel
theorem dX0_init_35 : decode cX0_init 35 = .ok (.aastore, 1) := by decide +kernel
theorem dX0_init_36 : decode cX0_init 36 = .ok (.iinc 1 1, 3) := by decide +kernel
theorem dX0_init_39 : decode cX0_init 39 = .ok (.goto (-25), 3) := by decide +kernel
theorem dX0_init_42 : decode cX0_init 42 = .ok (.return_, 1) := by decide +kernel
set_option maxRecDepth 20000 in
theorem ggX0_keep_X0_slotAt : GoodIn wsX0_keep wsX0_slotAt := goodIn_r _ [11, 12, 39, 40, 41] (by decide +kernel) (by decide +kernel)
set_option maxRecDepth 20000 in
theorem gX0_keep_X0_slotAt : GoodIn wsX0_keep (wsV RX0 22 RX0 yX0_slotAt wsX0_slotAt) := goodIn_app (goodIn_of _ (by decide +kernel)) ggX0_keep_X0_slotAt
set_option maxRecDepth 20000 in
theorem ggX0_keep_X4_takeOver : GoodIn wsX0_keep wsX4_takeOver := goodIn_r _ [17, 18, 19, 20, 21, 22, 23, 24, 25, 26, 27, 28, 29, 30, 31, 32, 33, 34, 35, 36, 37, 38, 42, 43, 44, 45, 46, 47, 48] (by decide +kernel) (by decide +kernel)
set_option maxRecDepth 20000 in
theorem gX0_keep_X4_takeOver : GoodIn wsX0_keep (wsV RX0 26 RX4 yX4_takeOver wsX4_takeOver) := goodIn_app (goodIn_of _ (by decide +kernel)) ggX0_keep_X4_takeOver
theorem dX0_keep_0 : decode cX0_keep 0 = .ok (.aload_n 0, 1) := by decide +kernel
theorem dX0_keep_1 : decode cX0_keep 1 = .ok (.aload_n 0, 1) := by decide +kernel
theorem dX0_keep_2 : decode cX0_keep 2 = .ok (.getfield 18, 3) := by decide +kernel
theorem dX0_keep_5 : decode cX0_keep 5 = .ok (.invokevirtual 22, 3) := by decide +kernel
theorem dX0_keep_8 : decode cX0_keep 8 = .ok (.astore_n 2, 1) := by decide +kernel
theorem dX0_keep_9 : decode cX0_keep 9 = .ok (.aload_n 2, 1) := by decide +kernel
theorem dX0_keep_10 : decode cX0_keep 10 = .ok (.ifnull 8, 3) := by decide +kernel
theorem dX0_keep_13 : decode cX0_keep 13 = .ok (.aload_n 2, 1) := by decide +kernel
theorem dX0_keep_14 : decode cX0_keep 14 = .ok (.aload_n 1, 1) := by decide +kernel
theorem dX0_keep_15 : decode cX0_keep 15 = .ok (.invokevirtual 26, 3) := by decide +kernel
theorem dX0_keep_18 : decode cX0_keep 18 = .ok (.aload_n 0, 1) := by decide +kernel
theorem dX0_keep_19 : decode cX0_keep 19 = .ok (.aload_n 0, 1) := by decide +kernel
theorem dX0_keep_20 : decode cX0_keep 20 = .ok (.getfield 18, 3) := by decide +kernel
theorem dX0_keep_23 : decode cX0_keep 23 = .ok (.iconst 1, 1) := by decide +kernel
theorem dX0_keep_24 : decode cX0_keep 24 = .ok (.iadd, 1) := by decide +kernel
theorem dX0_keep_25 : decode cX0_keep 25 = .ok (.iconst 4, 1) := by decide +kernel
theorem dX0_keep_26 : decode cX0_keep 26 = .ok (.irem, 1) := by decide +kernel
theorem dX0_keep_27 : decode cX0_keep 27 = .ok (.putfield 18, 3) := by decide +kernel
theorem dX0_keep_30 : decode cX0_keep 30 = .ok (.aload_n 0, 1) := by decide +kernel
theorem dX0_keep_31 : decode cX0_keep 31 = .ok (.aload_n 0, 1) := by decide +kernel
theorem dX0_keep_32 : decode cX0_keep 32 = .ok (.getfield 30, 3) := by decide +kernel
theorem dX0_keep_35 : decode cX0_keep 35 = .ok (.iconst 1, 1) := by decide +kernel
theorem dX0_keep_36 : decode cX0_keep 36 = .ok (.iadd, 1) := by decide +kernel
theorem dX0_keep_37 : decode cX0_keep 37 = .ok (.iconst 4, 1) := by decide +kernel
theorem dX0_keep_38 : decode cX0_keep 38 = .ok (.invokestatic 33, 3) := by decide +kernel
theorem dX0_keep_41 : decode cX0_keep 41 = .ok (.putfield 30, 3) := by decide +kernel
theorem dX0_keep_44 : decode cX0_keep 44 = .ok (.return_, 1) := by decide +kernel
theorem dX0_slotAt_0 : decode cX0_slotAt 0 = .ok (.iload_n 1, 1) := by decide +kernel
theorem dX0_slotAt_1 : decode cX0_slotAt 1 = .ok (.ifCond .lt 21, 3) := by decide +kernel
theorem dX0_slotAt_4 : decode cX0_slotAt 4 = .ok (.iload_n 1, 1) := by decide +kernel
theorem dX0_slotAt_5 : decode cX0_slotAt 5 = .ok (.aload_n 0, 1) := by decide +kernel
theorem dX0_slotAt_6 : decode cX0_slotAt 6 = .ok (.getfield 11, 3) := by decide +kernel
theorem dX0_slotAt_9 : decode cX0_slotAt 9 = .ok (.arraylength, 1) := by decide +kernel
theorem dX0_slotAt_10 : decode cX0_slotAt 10 = .ok (.if_icmp .ge 12, 3) := by decide +kernel
theorem dX0_slotAt_13 : decode cX0_slotAt 13 = .ok (.aload_n 0, 1) := by decide +kernel
theorem dX0_slotAt_14 : decode cX0_slotAt 14 = .ok (.getfield 11, 3) := by decide +kernel
theorem dX0_slotAt_17 : decode cX0_slotAt 17 = .ok (.iload_n 1, 1) := by decide +kernel
theorem dX0_slotAt_18 : decode cX0_slotAt 18 = .ok (.aaload, 1) := by decide +kernel
theorem dX0_slotAt_19 : decode cX0_slotAt 19 = .ok (.goto 4, 3) := by decide +kernel
theorem dX0_slotAt_22 : decode cX0_slotAt 22 = .ok (.aconst_null, 1) := by decide +kernel
theorem dX0_slotAt_23 : decode cX0_slotAt 23 = .ok (.areturn, 1) := by decide +kernel
set_option maxRecDepth 20000 in
theorem ggX1_init_X2_init : GoodIn wsX1_init wsX2_init := goodIn_r _ [10, 11, 2, 3, 12, 13, 14] (by decide +kernel) (by decide +kernel)
set_option maxRecDepth 20000 in
theorem gX1_init_X2_init : GoodIn wsX1_init (wsX2_init) := ggX1_init_X2_init
theorem dX1_init_0 : decode cX1_init 0 = .ok (.aload_n 0, 1) := by decide +kernel
theorem dX1_init_1 : decode cX1_init 1 = .ok (.invokespecial 3, 3) := by decide +kernel
theorem dX1_init_4 : decode cX1_init 4 = .ok (.aload_n 0, 1) := by decide +kernel
theorem dX1_init_5 : decode cX1_init 5 = .ok (.new 9, 3) := by decide +kernel
theorem dX1_init_8 : decode cX1_init 8 = .ok (.dup, 1) := by decide +kernel
theorem dX1_init_9 : decode cX1_init 9 = .ok (.bipush 120, 2) := by decide +kernel
theorem dX1_init_11 : decode cX1_init 11 = .ok (.invokespecial 11, 3) := by decide +kernel
theorem dX1_init_14 : decode cX1_init 14 = .ok (.putfield 14, 3) := by decide +kernel
theorem dX1_init_17 : decode cX1_init 17 = .ok (.return_, 1) := by decide +kernel
set_option maxRecDepth 20000 in
theorem ggX1_load_X2_at : GoodIn wsX1_load wsX2_at := goodIn_r _ [8, 9, 24] (by decide +kernel) (by decide +kernel)
set_option maxRecDepth 20000 in
theorem gX1_load_X2_at : GoodIn wsX1_load (wsV RX1 25 RX2 yX2_at wsX2_at) := goodIn_app (goodIn_of _ (by decide +kernel)) ggX1_load_X2_at
set_option maxRecDepth 20000 in
theorem ggX1_load_X2_put : GoodIn wsX1_load wsX2_put := goodIn_r _ [13, 9, 24] (by decide +kernel) (by decide +kernel)
set_option maxRecDepth 20000 in
theorem gX1_load_X2_put : GoodIn wsX1_load (wsV RX1 30 RX2 yX2_put wsX2_put) := goodIn_app (goodIn_of _ (by decide +kernel)) ggX1_load_X2_put
set_option maxRecDepth 20000 in
theorem ggX1_load_X6_madeBy : GoodIn wsX1_load wsX6_madeBy := goodIn_r _ [16] (by decide +kernel) (by decide +kernel)
set_option maxRecDepth 20000 in
theorem gX1_load_X6_madeBy_n34 : GoodIn wsX1_load (wsX6_madeBy) := ggX1_load_X6_madeBy
theorem dX1_load_0 : decode cX1_load 0 = .ok (.aload_n 1, 1) := by decide +kernel
theorem dX1_load_1 : decode cX1_load 1 = .ok (.getfield 20, 3) := by decide +kernel
theorem dX1_load_4 : decode cX1_load 4 = .ok (.iload_n 2, 1) := by decide +kernel
theorem dX1_load_5 : decode cX1_load 5 = .ok (.invokevirtual 25, 3) := by decide +kernel
theorem dX1_load_8 : decode cX1_load 8 = .ok (.istore_n 3, 1) := by decide +kernel
theorem dX1_load_9 : decode cX1_load 9 = .ok (.iconst 0, 1) := by decide +kernel
theorem dX1_load_10 : decode cX1_load 10 = .ok (.istore 4, 2) := by decide +kernel
theorem dX1_load_12 : decode cX1_load 12 = .ok (.iconst 0, 1) := by decide +kernel
theorem dX1_load_13 : decode cX1_load 13 = .ok (.istore 5, 2) := by decide +kernel
theorem dX1_load_15 : decode cX1_load 15 = .ok (.iload 5, 2) := by decide +kernel
theorem dX1_load_17 : decode cX1_load 17 = .ok (.iload_n 3, 1) := by decide +kernel
theorem dX1_load_18 : decode cX1_load 18 = .ok (.if_icmp .ge 65, 3) := by decide +kernel
theorem dX1_load_21 : decode cX1_load 21 = .ok (.aload_n 1, 1) := by decide +kernel
theorem dX1_load_22 : decode cX1_load 22 = .ok (.getfield 29, 3) := by decide +kernel
theorem dX1_load_25 : decode cX1_load 25 = .ok (.iload_n 2, 1) := by decide +kernel
theorem dX1_load_26 : decode cX1_load 26 = .ok (.bipush 120, 2) := by decide +kernel
theorem dX1_load_28 : decode cX1_load 28 = .ok (.imul, 1) := by decide +kernel
theorem dX1_load_29 : decode cX1_load 29 = .ok (.iload 5, 2) := by decide +kernel
theorem dX1_load_31 : decode cX1_load 31 = .ok (.iadd, 1) := by decide +kernel
theorem dX1_load_32 : decode cX1_load 32 = .ok (.invokevirtual 25, 3) := by decide +kernel
theorem dX1_load_35 : decode cX1_load 35 = .ok (.istore 6, 2) := by decide +kernel
theorem dX1_load_37 : decode cX1_load 37 = .ok (.aload_n 0, 1) := by decide +kernel
theorem dX1_load_38 : decode cX1_load 38 = .ok (.getfield 14, 3) := by decide +kernel
theorem dX1_load_41 : decode cX1_load 41 = .ok (.iload 4, 2) := by decide +kernel
theorem dX1_load_43 : decode cX1_load 43 = .ok (.iload 6, 2) := by decide +kernel
theorem dX1_load_45 : decode cX1_load 45 = .ok (.invokevirtual 30, 3) := by decide +kernel
theorem dX1_load_48 : decode cX1_load 48 = .ok (.iload 6, 2) := by decide +kernel
theorem dX1_load_50 : decode cX1_load 50 = .ok (.iconst 1, 1) := by decide +kernel
theorem dX1_load_51 : decode cX1_load 51 = .ok (.if_icmp .ne 16, 3) := by decide +kernel
theorem dX1_load_54 : decode cX1_load 54 = .ok (.aload_n 0, 1) := by decide +kernel
theorem dX1_load_55 : decode cX1_load 55 = .ok (.getfield 14, 3) := by decide +kernel
theorem dX1_load_58 : decode cX1_load 58 = .ok (.iload 4, 2) := by decide +kernel
theorem dX1_load_60 : decode cX1_load 60 = .ok (.iconst 1, 1) := by decide +kernel
theorem dX1_load_61 : decode cX1_load 61 = .ok (.iadd, 1) := by decide +kernel
theorem dX1_load_62 : decode cX1_load 62 = .ok (.iload 6, 2) := by decide +kernel
theorem dX1_load_64 : decode cX1_load 64 = .ok (.invokevirtual 30, 3) := by decide +kernel
theorem dX1_load_67 : decode cX1_load 67 = .ok (.iload 4, 2) := by decide +kernel
theorem dX1_load_69 : decode cX1_load 69 = .ok (.iload 6, 2) := by decide +kernel
theorem dX1_load_71 : decode cX1_load 71 = .ok (.invokestatic 34, 3) := by decide +kernel
theorem dX1_load_74 : decode cX1_load 74 = .ok (.iadd, 1) := by decide +kernel
theorem dX1_load_75 : decode cX1_load 75 = .ok (.istore 4, 2) := by decide +kernel
theorem dX1_load_77 : decode cX1_load 77 = .ok (.iinc 5 1, 3) := by decide +kernel
theorem dX1_load_80 : decode cX1_load 80 = .ok (.goto (-65), 3) := by decide +kernel
theorem dX1_load_83 : decode cX1_load 83 = .ok (.return_, 1) := by decide +kernel
set_option maxRecDepth 20000 in
theorem ggX1_stackedIn_X2_at : GoodIn wsX1_stackedIn wsX2_at := goodIn_r _ [6, 7, 12] (by decide +kernel) (by decide +kernel)
set_option maxRecDepth 20000 in
theorem gX1_stackedIn_X2_at : GoodIn wsX1_stackedIn (wsV RX1 25 RX2 yX2_at wsX2_at) := goodIn_app (goodIn_of _ (by decide +kernel)) ggX1_stackedIn_X2_at
set_option maxRecDepth 20000 in
theorem ggX1_stackedIn_X6_usedBy : GoodIn wsX1_stackedIn wsX6_usedBy := goodIn_r _ [10] (by decide +kernel) (by decide +kernel)
set_option maxRecDepth 20000 in
theorem gX1_stackedIn_X6_usedBy_n37 : GoodIn wsX1_stackedIn (wsX6_usedBy) := ggX1_stackedIn_X6_usedBy
theorem dX1_stackedIn_0 : decode cX1_stackedIn 0 = .ok (.iconst 0, 1) := by decide +kernel
theorem dX1_stackedIn_1 : decode cX1_stackedIn 1 = .ok (.istore 5, 2) := by decide +kernel
theorem dX1_stackedIn_3 : decode cX1_stackedIn 3 = .ok (.iconst 0, 1) := by decide +kernel
theorem dX1_stackedIn_4 : decode cX1_stackedIn 4 = .ok (.istore 6, 2) := by decide +kernel
theorem dX1_stackedIn_6 : decode cX1_stackedIn 6 = .ok (.iconst 0, 1) := by decide +kernel
theorem dX1_stackedIn_7 : decode cX1_stackedIn 7 = .ok (.istore 7, 2) := by decide +kernel
theorem dX1_stackedIn_9 : decode cX1_stackedIn 9 = .ok (.iload 7, 2) := by decide +kernel
theorem dX1_stackedIn_11 : decode cX1_stackedIn 11 = .ok (.iload_n 3, 1) := by decide +kernel
theorem dX1_stackedIn_12 : decode cX1_stackedIn 12 = .ok (.if_icmp .ge 102, 3) := by decide +kernel
theorem dX1_stackedIn_15 : decode cX1_stackedIn 15 = .ok (.aload_n 1, 1) := by decide +kernel
theorem dX1_stackedIn_16 : decode cX1_stackedIn 16 = .ok (.iload_n 2, 1) := by decide +kernel
theorem dX1_stackedIn_17 : decode cX1_stackedIn 17 = .ok (.iload 7, 2) := by decide +kernel
theorem dX1_stackedIn_19 : decode cX1_stackedIn 19 = .ok (.iload 4, 2) := by decide +kernel
theorem dX1_stackedIn_21 : decode cX1_stackedIn 21 = .ok (.iadd, 1) := by decide +kernel
theorem dX1_stackedIn_22 : decode cX1_stackedIn 22 = .ok (.iload_n 3, 1) := by decide +kernel
theorem dX1_stackedIn_23 : decode cX1_stackedIn 23 = .ok (.irem, 1) := by decide +kernel
theorem dX1_stackedIn_24 : decode cX1_stackedIn 24 = .ok (.iadd, 1) := by decide +kernel
theorem dX1_stackedIn_25 : decode cX1_stackedIn 25 = .ok (.invokevirtual 25, 3) := by decide +kernel
theorem dX1_stackedIn_28 : decode cX1_stackedIn 28 = .ok (.istore 8, 2) := by decide +kernel
theorem dX1_stackedIn_30 : decode cX1_stackedIn 30 = .ok (.aload_n 0, 1) := by decide +kernel
theorem dX1_stackedIn_31 : decode cX1_stackedIn 31 = .ok (.getfield 14, 3) := by decide +kernel
theorem dX1_stackedIn_34 : decode cX1_stackedIn 34 = .ok (.iload 6, 2) := by decide +kernel
theorem dX1_stackedIn_36 : decode cX1_stackedIn 36 = .ok (.invokevirtual 25, 3) := by decide +kernel
theorem dX1_stackedIn_39 : decode cX1_stackedIn 39 = .ok (.iload 8, 2) := by decide +kernel
theorem dX1_stackedIn_41 : decode cX1_stackedIn 41 = .ok (.if_icmp .ne 7, 3) := by decide +kernel
theorem dX1_stackedIn_44 : decode cX1_stackedIn 44 = .ok (.iconst 1, 1) := by decide +kernel
theorem dX1_stackedIn_45 : decode cX1_stackedIn 45 = .ok (.goto 4, 3) := by decide +kernel
theorem dX1_stackedIn_48 : decode cX1_stackedIn 48 = .ok (.iconst 0, 1) := by decide +kernel
theorem dX1_stackedIn_49 : decode cX1_stackedIn 49 = .ok (.istore 9, 2) := by decide +kernel
theorem dX1_stackedIn_51 : decode cX1_stackedIn 51 = .ok (.iload 8, 2) := by decide +kernel
theorem dX1_stackedIn_53 : decode cX1_stackedIn 53 = .ok (.iconst 2, 1) := by decide +kernel
theorem dX1_stackedIn_54 : decode cX1_stackedIn 54 = .ok (.if_icmp .ne 23, 3) := by decide +kernel
theorem dX1_stackedIn_57 : decode cX1_stackedIn 57 = .ok (.aload_n 0, 1) := by decide +kernel
theorem dX1_stackedIn_58 : decode cX1_stackedIn 58 = .ok (.getfield 14, 3) := by decide +kernel
theorem dX1_stackedIn_61 : decode cX1_stackedIn 61 = .ok (.iload 6, 2) := by decide +kernel
theorem dX1_stackedIn_63 : decode cX1_stackedIn 63 = .ok (.iconst 1, 1) := by decide +kernel
theorem dX1_stackedIn_64 : decode cX1_stackedIn 64 = .ok (.iadd, 1) := by decide +kernel
theorem dX1_stackedIn_65 : decode cX1_stackedIn 65 = .ok (.invokevirtual 25, 3) := by decide +kernel
theorem dX1_stackedIn_68 : decode cX1_stackedIn 68 = .ok (.iload 8, 2) := by decide +kernel
theorem dX1_stackedIn_70 : decode cX1_stackedIn 70 = .ok (.if_icmp .ne 7, 3) := by decide +kernel
theorem dX1_stackedIn_73 : decode cX1_stackedIn 73 = .ok (.iconst 1, 1) := by decide +kernel
theorem dX1_stackedIn_74 : decode cX1_stackedIn 74 = .ok (.goto 4, 3) := by decide +kernel
theorem dX1_stackedIn_77 : decode cX1_stackedIn 77 = .ok (.iconst 0, 1) := by decide +kernel
theorem dX1_stackedIn_78 : decode cX1_stackedIn 78 = .ok (.istore 10, 2) := by decide +kernel
theorem dX1_stackedIn_80 : decode cX1_stackedIn 80 = .ok (.iload 8, 2) := by decide +kernel
theorem dX1_stackedIn_82 : decode cX1_stackedIn 82 = .ok (.ifCond .eq 16, 3) := by decide +kernel
theorem dX1_stackedIn_85 : decode cX1_stackedIn 85 = .ok (.iload 9, 2) := by decide +kernel
theorem dX1_stackedIn_87 : decode cX1_stackedIn 87 = .ok (.ifCond .ne 8, 3) := by decide +kernel
theorem dX1_stackedIn_90 : decode cX1_stackedIn 90 = .ok (.iload 10, 2) := by decide +kernel
theorem dX1_stackedIn_92 : decode cX1_stackedIn 92 = .ok (.ifCond .eq 6, 3) := by decide +kernel
theorem dX1_stackedIn_95 : decode cX1_stackedIn 95 = .ok (.iinc 5 1, 3) := by decide +kernel
theorem dX1_stackedIn_98 : decode cX1_stackedIn 98 = .ok (.iload 6, 2) := by decide +kernel
theorem dX1_stackedIn_100 : decode cX1_stackedIn 100 = .ok (.iload 8, 2) := by decide +kernel
theorem dX1_stackedIn_102 : decode cX1_stackedIn 102 = .ok (.invokestatic 37, 3) := by decide +kernel
theorem dX1_stackedIn_105 : decode cX1_stackedIn 105 = .ok (.iadd, 1) := by decide +kernel
theorem dX1_stackedIn_106 : decode cX1_stackedIn 106 = .ok (.istore 6, 2) := by decide +kernel
theorem dX1_stackedIn_108 : decode cX1_stackedIn 108 = .ok (.iinc 7 1, 3) := by decide +kernel
theorem dX1_stackedIn_111 : decode cX1_stackedIn 111 = .ok (.goto (-102), 3) := by decide +kernel
theorem dX1_stackedIn_114 : decode cX1_stackedIn 114 = .ok (.iload 5, 2) := by decide +kernel
theorem dX1_stackedIn_116 : decode cX1_stackedIn 116 = .ok (.ireturn, 1) := by decide +kernel
set_option maxRecDepth 20000 in
theorem ggX1_bestShift_X1_stackedIn : GoodIn wsX1_bestShift wsX1_stackedIn := goodIn_r _ [7, 8, 9, 10, 11, 12, 13, 14, 15, 16, 17, 22, 23] (by decide +kernel) (by decide +kernel)
set_option maxRecDepth 20000 in
theorem gX1_bestShift_X1_stackedIn : GoodIn wsX1_bestShift (wsV RX1 48 RX1 yX1_stackedIn wsX1_stackedIn) := goodIn_app (goodIn_of _ (by decide +kernel)) ggX1_bestShift_X1_stackedIn
theorem dX1_bestShift_0 : decode cX1_bestShift 0 = .ok (.iconst 0, 1) := by decide +kernel
theorem dX1_bestShift_1 : decode cX1_bestShift 1 = .ok (.istore_n 2, 1) := by decide +kernel
theorem dX1_bestShift_2 : decode cX1_bestShift 2 = .ok (.aload_n 0, 1) := by decide +kernel
theorem dX1_bestShift_3 : decode cX1_bestShift 3 = .ok (.aload_n 1, 1) := by decide +kernel
theorem dX1_bestShift_4 : decode cX1_bestShift 4 = .ok (.getfield 40, 3) := by decide +kernel
theorem dX1_bestShift_7 : decode cX1_bestShift 7 = .ok (.iconst 0, 1) := by decide +kernel
theorem dX1_bestShift_8 : decode cX1_bestShift 8 = .ok (.aload_n 1, 1) := by decide +kernel
theorem dX1_bestShift_9 : decode cX1_bestShift 9 = .ok (.getfield 45, 3) := by decide +kernel
theorem dX1_bestShift_12 : decode cX1_bestShift 12 = .ok (.iconst 0, 1) := by decide +kernel
theorem dX1_bestShift_13 : decode cX1_bestShift 13 = .ok (.invokevirtual 48, 3) := by decide +kernel
theorem dX1_bestShift_16 : decode cX1_bestShift 16 = .ok (.istore_n 3, 1) := by decide +kernel
theorem dX1_bestShift_17 : decode cX1_bestShift 17 = .ok (.iconst 1, 1) := by decide +kernel
theorem dX1_bestShift_18 : decode cX1_bestShift 18 = .ok (.istore 4, 2) := by decide +kernel
theorem dX1_bestShift_20 : decode cX1_bestShift 20 = .ok (.iload 4, 2) := by decide +kernel
theorem dX1_bestShift_22 : decode cX1_bestShift 22 = .ok (.aload_n 1, 1) := by decide +kernel
theorem dX1_bestShift_23 : decode cX1_bestShift 23 = .ok (.getfield 45, 3) := by decide +kernel
theorem dX1_bestShift_26 : decode cX1_bestShift 26 = .ok (.if_icmp .ge 42, 3) := by decide +kernel
theorem dX1_bestShift_29 : decode cX1_bestShift 29 = .ok (.iload_n 3, 1) := by decide +kernel
theorem dX1_bestShift_30 : decode cX1_bestShift 30 = .ok (.ifCond .le 38, 3) := by decide +kernel
theorem dX1_bestShift_33 : decode cX1_bestShift 33 = .ok (.aload_n 0, 1) := by decide +kernel
theorem dX1_bestShift_34 : decode cX1_bestShift 34 = .ok (.aload_n 1, 1) := by decide +kernel
theorem dX1_bestShift_35 : decode cX1_bestShift 35 = .ok (.getfield 40, 3) := by decide +kernel
theorem dX1_bestShift_38 : decode cX1_bestShift 38 = .ok (.iconst 0, 1) := by decide +kernel
theorem dX1_bestShift_39 : decode cX1_bestShift 39 = .ok (.aload_n 1, 1) := by decide +kernel
theorem dX1_bestShift_40 : decode cX1_bestShift 40 = .ok (.getfield 45, 3) := by decide +kernel
theorem dX1_bestShift_43 : decode cX1_bestShift 43 = .ok (.iload 4, 2) := by decide +kernel
theorem dX1_bestShift_45 : decode cX1_bestShift 45 = .ok (.invokevirtual 48, 3) := by decide +kernel
theorem dX1_bestShift_48 : decode cX1_bestShift 48 = .ok (.istore 5, 2) := by decide +kernel
theorem dX1_bestShift_50 : decode cX1_bestShift 50 = .ok (.iload 5, 2) := by decide +kernel
theorem dX1_bestShift_52 : decode cX1_bestShift 52 = .ok (.iload_n 3, 1) := by decide +kernel
theorem dX1_bestShift_53 : decode cX1_bestShift 53 = .ok (.if_icmp .ge 9, 3) := by decide +kernel
theorem dX1_bestShift_56 : decode cX1_bestShift 56 = .ok (.iload 5, 2) := by decide +kernel
theorem dX1_bestShift_58 : decode cX1_bestShift 58 = .ok (.istore_n 3, 1) := by decide +kernel
theorem dX1_bestShift_59 : decode cX1_bestShift 59 = .ok (.iload 4, 2) := by decide +kernel
theorem dX1_bestShift_61 : decode cX1_bestShift 61 = .ok (.istore_n 2, 1) := by decide +kernel
theorem dX1_bestShift_62 : decode cX1_bestShift 62 = .ok (.iinc 4 1, 3) := by decide +kernel
theorem dX1_bestShift_65 : decode cX1_bestShift 65 = .ok (.goto (-45), 3) := by decide +kernel
theorem dX1_bestShift_68 : decode cX1_bestShift 68 = .ok (.iload_n 2, 1) := by decide +kernel
theorem dX1_bestShift_69 : decode cX1_bestShift 69 = .ok (.ireturn, 1) := by decide +kernel
theorem dX2_init_0 : decode cX2_init 0 = .ok (.aload_n 0, 1) := by decide +kernel
theorem dX2_init_1 : decode cX2_init 1 = .ok (.invokespecial 1, 3) := by decide +kernel
theorem dX2_init_4 : decode cX2_init 4 = .ok (.aload_n 0, 1) := by decide +kernel
theorem dX2_init_5 : decode cX2_init 5 = .ok (.iload_n 1, 1) := by decide +kernel
theorem dX2_init_6 : decode cX2_init 6 = .ok (.ifCond .le 7, 3) := by decide +kernel
theorem dX2_init_9 : decode cX2_init 9 = .ok (.iload_n 1, 1) := by decide +kernel
theorem dX2_init_10 : decode cX2_init 10 = .ok (.goto 4, 3) := by decide +kernel
theorem dX2_init_13 : decode cX2_init 13 = .ok (.iconst 0, 1) := by decide +kernel
theorem dX2_init_14 : decode cX2_init 14 = .ok (.newarray .int, 2) := by decide +kernel
theorem dX2_init_16 : decode cX2_init 16 = .ok (.putfield 7, 3) := by decide +kernel
theorem dX2_init_19 : decode cX2_init 19 = .ok (.return_, 1) := by decide +kernel
theorem dX2_at_0 : decode cX2_at 0 = .ok (.iload_n 1, 1) := by decide +kernel
theorem dX2_at_1 : decode cX2_at 1 = .ok (.ifCond .lt 21, 3) := by decide +kernel
theorem dX2_at_4 : decode cX2_at 4 = .ok (.iload_n 1, 1) := by decide +kernel
theorem dX2_at_5 : decode cX2_at 5 = .ok (.aload_n 0, 1) := by decide +kernel
theorem dX2_at_6 : decode cX2_at 6 = .ok (.getfield 7, 3) := by decide +kernel
theorem dX2_at_9 : decode cX2_at 9 = .ok (.arraylength, 1) := by decide +kernel
theorem dX2_at_10 : decode cX2_at 10 = .ok (.if_icmp .ge 12, 3) := by decide +kernel
theorem dX2_at_13 : decode cX2_at 13 = .ok (.aload_n 0, 1) := by decide +kernel
theorem dX2_at_14 : decode cX2_at 14 = .ok (.getfield 7, 3) := by decide +kernel
theorem dX2_at_17 : decode cX2_at 17 = .ok (.iload_n 1, 1) := by decide +kernel
theorem dX2_at_18 : decode cX2_at 18 = .ok (.iaload, 1) := by decide +kernel
theorem dX2_at_19 : decode cX2_at 19 = .ok (.goto 4, 3) := by decide +kernel
theorem dX2_at_22 : decode cX2_at 22 = .ok (.iconst 0, 1) := by decide +kernel
theorem dX2_at_23 : decode cX2_at 23 = .ok (.ireturn, 1) := by decide +kernel
theorem dX2_put_0 : decode cX2_put 0 = .ok (.iload_n 1, 1) := by decide +kernel
theorem dX2_put_1 : decode cX2_put 1 = .ok (.ifCond .lt 19, 3) := by decide +kernel
theorem dX2_put_4 : decode cX2_put 4 = .ok (.iload_n 1, 1) := by decide +kernel
theorem dX2_put_5 : decode cX2_put 5 = .ok (.aload_n 0, 1) := by decide +kernel
theorem dX2_put_6 : decode cX2_put 6 = .ok (.getfield 7, 3) := by decide +kernel
theorem dX2_put_9 : decode cX2_put 9 = .ok (.arraylength, 1) := by decide +kernel
theorem dX2_put_10 : decode cX2_put 10 = .ok (.if_icmp .ge 10, 3) := by decide +kernel
theorem dX2_put_13 : decode cX2_put 13 = .ok (.aload_n 0, 1) := by decide +kernel
theorem dX2_put_14 : decode cX2_put 14 = .ok (.getfield 7, 3) := by decide +kernel
theorem dX2_put_17 : decode cX2_put 17 = .ok (.iload_n 1, 1) := by decide +kernel
theorem dX2_put_18 : decode cX2_put 18 = .ok (.iload_n 2, 1) := by decide +kernel
theorem dX2_put_19 : decode cX2_put 19 = .ok (.iastore, 1) := by decide +kernel
theorem dX2_put_20 : decode cX2_put 20 = .ok (.return_, 1) := by decide +kernel
set_option maxRecDepth 20000 in
theorem ggX2_take_X2_at : GoodIn wsX2_take wsX2_at := goodIn_r _ [5, 6, 11] (by decide +kernel) (by decide +kernel)
set_option maxRecDepth 20000 in
theorem gX2_take_X2_at : GoodIn wsX2_take (wsV RX2 13 RX2 yX2_at wsX2_at) := goodIn_app (goodIn_of _ (by decide +kernel)) ggX2_take_X2_at
set_option maxRecDepth 20000 in
theorem ggX2_take_X2_put : GoodIn wsX2_take wsX2_put := goodIn_r _ [10, 6, 11] (by decide +kernel) (by decide +kernel)
set_option maxRecDepth 20000 in
theorem gX2_take_X2_put : GoodIn wsX2_take (wsV RX2 17 RX2 yX2_put wsX2_put) := goodIn_app (goodIn_of _ (by decide +kernel)) ggX2_take_X2_put
theorem dX2_take_0 : decode cX2_take 0 = .ok (.iload_n 2, 1) := by decide +kernel
theorem dX2_take_1 : decode cX2_take 1 = .ok (.istore 4, 2) := by decide +kernel
theorem dX2_take_3 : decode cX2_take 3 = .ok (.iload 4, 2) := by decide +kernel
theorem dX2_take_5 : decode cX2_take 5 = .ok (.iload_n 2, 1) := by decide +kernel
theorem dX2_take_6 : decode cX2_take 6 = .ok (.iload_n 3, 1) := by decide +kernel
theorem dX2_take_7 : decode cX2_take 7 = .ok (.iadd, 1) := by decide +kernel
theorem dX2_take_8 : decode cX2_take 8 = .ok (.if_icmp .ge 21, 3) := by decide +kernel
theorem dX2_take_11 : decode cX2_take 11 = .ok (.aload_n 0, 1) := by decide +kernel
theorem dX2_take_12 : decode cX2_take 12 = .ok (.iload 4, 2) := by decide +kernel
theorem dX2_take_14 : decode cX2_take 14 = .ok (.aload_n 1, 1) := by decide +kernel
theorem dX2_take_15 : decode cX2_take 15 = .ok (.iload 4, 2) := by decide +kernel
theorem dX2_take_17 : decode cX2_take 17 = .ok (.invokevirtual 13, 3) := by decide +kernel
theorem dX2_take_20 : decode cX2_take 20 = .ok (.invokevirtual 17, 3) := by decide +kernel
theorem dX2_take_23 : decode cX2_take 23 = .ok (.iinc 4 1, 3) := by decide +kernel
theorem dX2_take_26 : decode cX2_take 26 = .ok (.goto (-23), 3) := by decide +kernel
theorem dX2_take_29 : decode cX2_take 29 = .ok (.return_, 1) := by decide +kernel
set_option maxRecDepth 20000 in
theorem ggX3_init_X2_init : GoodIn wsX3_init wsX2_init := goodIn_r _ [12, 13, 2, 3, 14, 15, 16] (by decide +kernel) (by decide +kernel)
set_option maxRecDepth 20000 in
theorem gX3_init_X2_init : GoodIn wsX3_init (wsX2_init) := ggX3_init_X2_init
theorem dX3_init_0 : decode cX3_init 0 = .ok (.aload_n 0, 1) := by decide +kernel
theorem dX3_init_1 : decode cX3_init 1 = .ok (.invokespecial 3, 3) := by decide +kernel
theorem dX3_init_4 : decode cX3_init 4 = .ok (.aload_n 0, 1) := by decide +kernel
theorem dX3_init_5 : decode cX3_init 5 = .ok (.new 9, 3) := by decide +kernel
theorem dX3_init_8 : decode cX3_init 8 = .ok (.dup, 1) := by decide +kernel
theorem dX3_init_9 : decode cX3_init 9 = .ok (.bipush 120, 2) := by decide +kernel
theorem dX3_init_11 : decode cX3_init 11 = .ok (.invokespecial 11, 3) := by decide +kernel
theorem dX3_init_14 : decode cX3_init 14 = .ok (.putfield 14, 3) := by decide +kernel
theorem dX3_init_17 : decode cX3_init 17 = .ok (.aload_n 0, 1) := by decide +kernel
theorem dX3_init_18 : decode cX3_init 18 = .ok (.new 9, 3) := by decide +kernel
theorem dX3_init_21 : decode cX3_init 21 = .ok (.dup, 1) := by decide +kernel
theorem dX3_init_22 : decode cX3_init 22 = .ok (.bipush 60, 2) := by decide +kernel
theorem dX3_init_24 : decode cX3_init 24 = .ok (.invokespecial 11, 3) := by decide +kernel
theorem dX3_init_27 : decode cX3_init 27 = .ok (.putfield 20, 3) := by decide +kernel
theorem dX3_init_30 : decode cX3_init 30 = .ok (.aload_n 0, 1) := by decide +kernel
theorem dX3_init_31 : decode cX3_init 31 = .ok (.new 9, 3) := by decide +kernel
theorem dX3_init_34 : decode cX3_init 34 = .ok (.dup, 1) := by decide +kernel
theorem dX3_init_35 : decode cX3_init 35 = .ok (.bipush 60, 2) := by decide +kernel
theorem dX3_init_37 : decode cX3_init 37 = .ok (.invokespecial 11, 3) := by decide +kernel
theorem dX3_init_40 : decode cX3_init 40 = .ok (.putfield 23, 3) := by decide +kernel
theorem dX3_init_43 : decode cX3_init 43 = .ok (.return_, 1) := by decide +kernel
set_option maxRecDepth 20000 in
theorem ggX4_init_X2_init : GoodIn wsX4_init wsX2_init := goodIn_r _ [13, 14, 2, 3, 15, 16, 17] (by decide +kernel) (by decide +kernel)
set_option maxRecDepth 20000 in
theorem gX4_init_X2_init : GoodIn wsX4_init (wsX2_init) := ggX4_init_X2_init
theorem dX4_init_0 : decode cX4_init 0 = .ok (.aload_n 0, 1) := by decide +kernel
theorem dX4_init_1 : decode cX4_init 1 = .ok (.invokespecial 3, 3) := by decide +kernel
theorem dX4_init_4 : decode cX4_init 4 = .ok (.aload_n 0, 1) := by decide +kernel
theorem dX4_init_5 : decode cX4_init 5 = .ok (.new 9, 3) := by decide +kernel
theorem dX4_init_8 : decode cX4_init 8 = .ok (.dup, 1) := by decide +kernel
theorem dX4_init_9 : decode cX4_init 9 = .ok (.sipush 4800, 3) := by decide +kernel
theorem dX4_init_12 : decode cX4_init 12 = .ok (.invokespecial 11, 3) := by decide +kernel
theorem dX4_init_15 : decode cX4_init 15 = .ok (.putfield 14, 3) := by decide +kernel
theorem dX4_init_18 : decode cX4_init 18 = .ok (.aload_n 0, 1) := by decide +kernel
theorem dX4_init_19 : decode cX4_init 19 = .ok (.new 9, 3) := by decide +kernel
theorem dX4_init_22 : decode cX4_init 22 = .ok (.dup, 1) := by decide +kernel
theorem dX4_init_23 : decode cX4_init 23 = .ok (.bipush 40, 2) := by decide +kernel
theorem dX4_init_25 : decode cX4_init 25 = .ok (.invokespecial 11, 3) := by decide +kernel
theorem dX4_init_28 : decode cX4_init 28 = .ok (.putfield 20, 3) := by decide +kernel
theorem dX4_init_31 : decode cX4_init 31 = .ok (.aload_n 0, 1) := by decide +kernel
theorem dX4_init_32 : decode cX4_init 32 = .ok (.new 9, 3) := by decide +kernel
theorem dX4_init_35 : decode cX4_init 35 = .ok (.dup, 1) := by decide +kernel
theorem dX4_init_36 : decode cX4_init 36 = .ok (.bipush 40, 2) := by decide +kernel
theorem dX4_init_38 : decode cX4_init 38 = .ok (.invokespecial 11, 3) := by decide +kernel
theorem dX4_init_41 : decode cX4_init 41 = .ok (.putfield 23, 3) := by decide +kernel
theorem dX4_init_44 : decode cX4_init 44 = .ok (.aload_n 0, 1) := by decide +kernel
theorem dX4_init_45 : decode cX4_init 45 = .ok (.new 9, 3) := by decide +kernel
theorem dX4_init_48 : decode cX4_init 48 = .ok (.dup, 1) := by decide +kernel
theorem dX4_init_49 : decode cX4_init 49 = .ok (.iconst 3, 1) := by decide +kernel
theorem dX4_init_50 : decode cX4_init 50 = .ok (.invokespecial 11, 3) := by decide +kernel
theorem dX4_init_53 : decode cX4_init 53 = .ok (.putfield 26, 3) := by decide +kernel
theorem dX4_init_56 : decode cX4_init 56 = .ok (.return_, 1) := by decide +kernel
set_option maxRecDepth 20000 in
theorem ggX4_takeOver_X2_take : GoodIn wsX4_takeOver wsX2_take := goodIn_r _ [11, 12, 13, 14, 10, 15, 16, 17, 18, 19, 20, 28] (by decide +kernel) (by decide +kernel)
set_option maxRecDepth 20000 in
theorem gX4_takeOver_X2_take : GoodIn wsX4_takeOver (wsV RX4 37 RX2 yX2_take wsX2_take) := goodIn_app (goodIn_of _ (by decide +kernel)) ggX4_takeOver_X2_take
set_option maxRecDepth 20000 in
theorem ggX4_takeOver_X2_at : GoodIn wsX4_takeOver wsX2_at := goodIn_r _ [15, 16, 28] (by decide +kernel) (by decide +kernel)
set_option maxRecDepth 20000 in
theorem gX4_takeOver_X2_at : GoodIn wsX4_takeOver (wsV RX4 41 RX2 yX2_at wsX2_at) := goodIn_app (goodIn_of _ (by decide +kernel)) ggX4_takeOver_X2_at
theorem dX4_takeOver_0 : decode cX4_takeOver 0 = .ok (.aload_n 0, 1) := by decide +kernel
theorem dX4_takeOver_1 : decode cX4_takeOver 1 = .ok (.aload_n 1, 1) := by decide +kernel
theorem dX4_takeOver_2 : decode cX4_takeOver 2 = .ok (.getfield 29, 3) := by decide +kernel
theorem dX4_takeOver_5 : decode cX4_takeOver 5 = .ok (.putfield 29, 3) := by decide +kernel
theorem dX4_takeOver_8 : decode cX4_takeOver 8 = .ok (.aload_n 0, 1) := by decide +kernel
theorem dX4_takeOver_9 : decode cX4_takeOver 9 = .ok (.aload_n 1, 1) := by decide +kernel
theorem dX4_takeOver_10 : decode cX4_takeOver 10 = .ok (.getfield 33, 3) := by decide +kernel
theorem dX4_takeOver_13 : decode cX4_takeOver 13 = .ok (.putfield 33, 3) := by decide +kernel
theorem dX4_takeOver_16 : decode cX4_takeOver 16 = .ok (.aload_n 0, 1) := by decide +kernel
theorem dX4_takeOver_17 : decode cX4_takeOver 17 = .ok (.getfield 20, 3) := by decide +kernel
theorem dX4_takeOver_20 : decode cX4_takeOver 20 = .ok (.aload_n 1, 1) := by decide +kernel
theorem dX4_takeOver_21 : decode cX4_takeOver 21 = .ok (.getfield 20, 3) := by decide +kernel
theorem dX4_takeOver_24 : decode cX4_takeOver 24 = .ok (.iconst 0, 1) := by decide +kernel
theorem dX4_takeOver_25 : decode cX4_takeOver 25 = .ok (.aload_n 0, 1) := by decide +kernel
theorem dX4_takeOver_26 : decode cX4_takeOver 26 = .ok (.getfield 29, 3) := by decide +kernel
theorem dX4_takeOver_29 : decode cX4_takeOver 29 = .ok (.invokevirtual 37, 3) := by decide +kernel
theorem dX4_takeOver_32 : decode cX4_takeOver 32 = .ok (.aload_n 0, 1) := by decide +kernel
theorem dX4_takeOver_33 : decode cX4_takeOver 33 = .ok (.getfield 23, 3) := by decide +kernel
theorem dX4_takeOver_36 : decode cX4_takeOver 36 = .ok (.aload_n 1, 1) := by decide +kernel
theorem dX4_takeOver_37 : decode cX4_takeOver 37 = .ok (.getfield 23, 3) := by decide +kernel
theorem dX4_takeOver_40 : decode cX4_takeOver 40 = .ok (.iconst 0, 1) := by decide +kernel
theorem dX4_takeOver_41 : decode cX4_takeOver 41 = .ok (.aload_n 0, 1) := by decide +kernel
theorem dX4_takeOver_42 : decode cX4_takeOver 42 = .ok (.getfield 29, 3) := by decide +kernel
theorem dX4_takeOver_45 : decode cX4_takeOver 45 = .ok (.invokevirtual 37, 3) := by decide +kernel
theorem dX4_takeOver_48 : decode cX4_takeOver 48 = .ok (.aload_n 0, 1) := by decide +kernel
theorem dX4_takeOver_49 : decode cX4_takeOver 49 = .ok (.getfield 26, 3) := by decide +kernel
theorem dX4_takeOver_52 : decode cX4_takeOver 52 = .ok (.aload_n 1, 1) := by decide +kernel
theorem dX4_takeOver_53 : decode cX4_takeOver 53 = .ok (.getfield 26, 3) := by decide +kernel
theorem dX4_takeOver_56 : decode cX4_takeOver 56 = .ok (.iconst 0, 1) := by decide +kernel
theorem dX4_takeOver_57 : decode cX4_takeOver 57 = .ok (.iconst 3, 1) := by decide +kernel
theorem dX4_takeOver_58 : decode cX4_takeOver 58 = .ok (.invokevirtual 37, 3) := by decide +kernel
theorem dX4_takeOver_61 : decode cX4_takeOver 61 = .ok (.iconst 0, 1) := by decide +kernel
theorem dX4_takeOver_62 : decode cX4_takeOver 62 = .ok (.istore_n 2, 1) := by decide +kernel
theorem dX4_takeOver_63 : decode cX4_takeOver 63 = .ok (.iload_n 2, 1) := by decide +kernel
theorem dX4_takeOver_64 : decode cX4_takeOver 64 = .ok (.aload_n 0, 1) := by decide +kernel
theorem dX4_takeOver_65 : decode cX4_takeOver 65 = .ok (.getfield 29, 3) := by decide +kernel
theorem dX4_takeOver_68 : decode cX4_takeOver 68 = .ok (.if_icmp .ge 32, 3) := by decide +kernel
theorem dX4_takeOver_71 : decode cX4_takeOver 71 = .ok (.aload_n 0, 1) := by decide +kernel
theorem dX4_takeOver_72 : decode cX4_takeOver 72 = .ok (.getfield 14, 3) := by decide +kernel
theorem dX4_takeOver_75 : decode cX4_takeOver 75 = .ok (.aload_n 1, 1) := by decide +kernel
theorem dX4_takeOver_76 : decode cX4_takeOver 76 = .ok (.getfield 14, 3) := by decide +kernel
theorem dX4_takeOver_79 : decode cX4_takeOver 79 = .ok (.iload_n 2, 1) := by decide +kernel
theorem dX4_takeOver_80 : decode cX4_takeOver 80 = .ok (.bipush 120, 2) := by decide +kernel
theorem dX4_takeOver_82 : decode cX4_takeOver 82 = .ok (.imul, 1) := by decide +kernel
theorem dX4_takeOver_83 : decode cX4_takeOver 83 = .ok (.aload_n 0, 1) := by decide +kernel
theorem dX4_takeOver_84 : decode cX4_takeOver 84 = .ok (.getfield 20, 3) := by decide +kernel
theorem dX4_takeOver_87 : decode cX4_takeOver 87 = .ok (.iload_n 2, 1) := by decide +kernel
theorem dX4_takeOver_88 : decode cX4_takeOver 88 = .ok (.invokevirtual 41, 3) := by decide +kernel
theorem dX4_takeOver_91 : decode cX4_takeOver 91 = .ok (.invokevirtual 37, 3) := by decide +kernel
theorem dX4_takeOver_94 : decode cX4_takeOver 94 = .ok (.iinc 2 1, 3) := by decide +kernel
theorem dX4_takeOver_97 : decode cX4_takeOver 97 = .ok (.goto (-34), 3) := by decide +kernel
theorem dX4_takeOver_100 : decode cX4_takeOver 100 = .ok (.return_, 1) := by decide +kernel
set_option maxRecDepth 20000 in
theorem ggX4_startRing_X4_openRound : GoodIn wsX4_startRing wsX4_openRound := goodIn_r _ [6, 7, 1, 8, 9, 10, 11, 12, 13, 14, 31, 32, 33, 34, 35, 36, 37] (by decide +kernel) (by decide +kernel)
set_option maxRecDepth 20000 in
theorem gX4_startRing_X4_openRound : GoodIn wsX4_startRing (wsV RX4 45 RX4 yX4_openRound wsX4_openRound) := goodIn_app (goodIn_of _ (by decide +kernel)) ggX4_startRing_X4_openRound
set_option maxRecDepth 20000 in
theorem ggX4_startRing_X4_addWork : GoodIn wsX4_startRing wsX4_addWork := goodIn_r _ [18, 7, 1, 19, 8, 20, 21, 22, 12, 23, 14, 9, 10, 11, 13, 24, 25, 26, 31, 32, 33, 34, 35, 36, 37] (by decide +kernel) (by decide +kernel)
set_option maxRecDepth 20000 in
theorem gX4_startRing_X4_addWork : GoodIn wsX4_startRing (wsV RX4 48 RX4 yX4_addWork wsX4_addWork) := goodIn_app (goodIn_of _ (by decide +kernel)) ggX4_startRing_X4_addWork
set_option maxRecDepth 20000 in
theorem ggX4_startRing_X4_closeRound : GoodIn wsX4_startRing wsX4_closeRound := goodIn_r _ [30, 1, 31, 32, 33, 34, 35, 36] (by decide +kernel) (by decide +kernel)
set_option maxRecDepth 20000 in
theorem gX4_startRing_X4_closeRound : GoodIn wsX4_startRing (wsV RX4 51 RX4 yX4_closeRound wsX4_closeRound) := goodIn_app (goodIn_of _ (by decide +kernel)) ggX4_startRing_X4_closeRound
theorem dX4_startRing_0 : decode cX4_startRing 0 = .ok (.aload_n 0, 1) := by decide +kernel
theorem dX4_startRing_1 : decode cX4_startRing 1 = .ok (.iconst 0, 1) := by decide +kernel
theorem dX4_startRing_2 : decode cX4_startRing 2 = .ok (.putfield 29, 3) := by decide +kernel
theorem dX4_startRing_5 : decode cX4_startRing 5 = .ok (.aload_n 0, 1) := by decide +kernel
theorem dX4_startRing_6 : decode cX4_startRing 6 = .ok (.invokevirtual 45, 3) := by decide +kernel
theorem dX4_startRing_9 : decode cX4_startRing 9 = .ok (.iconst 0, 1) := by decide +kernel
theorem dX4_startRing_10 : decode cX4_startRing 10 = .ok (.istore_n 2, 1) := by decide +kernel
theorem dX4_startRing_11 : decode cX4_startRing 11 = .ok (.iload_n 2, 1) := by decide +kernel
theorem dX4_startRing_12 : decode cX4_startRing 12 = .ok (.iload_n 1, 1) := by decide +kernel
theorem dX4_startRing_13 : decode cX4_startRing 13 = .ok (.if_icmp .ge 14, 3) := by decide +kernel
theorem dX4_startRing_16 : decode cX4_startRing 16 = .ok (.aload_n 0, 1) := by decide +kernel
theorem dX4_startRing_17 : decode cX4_startRing 17 = .ok (.iconst 0, 1) := by decide +kernel
theorem dX4_startRing_18 : decode cX4_startRing 18 = .ok (.invokevirtual 48, 3) := by decide +kernel
theorem dX4_startRing_21 : decode cX4_startRing 21 = .ok (.iinc 2 1, 3) := by decide +kernel
theorem dX4_startRing_24 : decode cX4_startRing 24 = .ok (.goto (-13), 3) := by decide +kernel
theorem dX4_startRing_27 : decode cX4_startRing 27 = .ok (.aload_n 0, 1) := by decide +kernel
theorem dX4_startRing_28 : decode cX4_startRing 28 = .ok (.invokevirtual 51, 3) := by decide +kernel
theorem dX4_startRing_31 : decode cX4_startRing 31 = .ok (.return_, 1) := by decide +kernel
set_option maxRecDepth 20000 in
theorem ggX4_openRound_X2_put : GoodIn wsX4_openRound wsX2_put := goodIn_r _ [8, 9, 16] (by decide +kernel) (by decide +kernel)
set_option maxRecDepth 20000 in
theorem gX4_openRound_X2_put : GoodIn wsX4_openRound (wsV RX4 54 RX2 yX2_put wsX2_put) := goodIn_app (goodIn_of _ (by decide +kernel)) ggX4_openRound_X2_put
theorem dX4_openRound_0 : decode cX4_openRound 0 = .ok (.aload_n 0, 1) := by decide +kernel
theorem dX4_openRound_1 : decode cX4_openRound 1 = .ok (.getfield 20, 3) := by decide +kernel
theorem dX4_openRound_4 : decode cX4_openRound 4 = .ok (.aload_n 0, 1) := by decide +kernel
theorem dX4_openRound_5 : decode cX4_openRound 5 = .ok (.getfield 29, 3) := by decide +kernel
theorem dX4_openRound_8 : decode cX4_openRound 8 = .ok (.iconst 0, 1) := by decide +kernel
theorem dX4_openRound_9 : decode cX4_openRound 9 = .ok (.invokevirtual 54, 3) := by decide +kernel
theorem dX4_openRound_12 : decode cX4_openRound 12 = .ok (.aload_n 0, 1) := by decide +kernel
theorem dX4_openRound_13 : decode cX4_openRound 13 = .ok (.getfield 23, 3) := by decide +kernel
theorem dX4_openRound_16 : decode cX4_openRound 16 = .ok (.aload_n 0, 1) := by decide +kernel
theorem dX4_openRound_17 : decode cX4_openRound 17 = .ok (.getfield 29, 3) := by decide +kernel
theorem dX4_openRound_20 : decode cX4_openRound 20 = .ok (.iconst 0, 1) := by decide +kernel
theorem dX4_openRound_21 : decode cX4_openRound 21 = .ok (.invokevirtual 54, 3) := by decide +kernel
theorem dX4_openRound_24 : decode cX4_openRound 24 = .ok (.return_, 1) := by decide +kernel
set_option maxRecDepth 20000 in
theorem ggX4_addWork_X2_at : GoodIn wsX4_addWork wsX2_at := goodIn_r _ [9, 10, 24] (by decide +kernel) (by decide +kernel)
set_option maxRecDepth 20000 in
theorem gX4_addWork_X2_at : GoodIn wsX4_addWork (wsV RX4 41 RX2 yX2_at wsX2_at) := goodIn_app (goodIn_of _ (by decide +kernel)) ggX4_addWork_X2_at
set_option maxRecDepth 20000 in
theorem ggX4_addWork_X2_put : GoodIn wsX4_addWork wsX2_put := goodIn_r _ [14, 10, 24] (by decide +kernel) (by decide +kernel)
set_option maxRecDepth 20000 in
theorem gX4_addWork_X2_put : GoodIn wsX4_addWork (wsV RX4 54 RX2 yX2_put wsX2_put) := goodIn_app (goodIn_of _ (by decide +kernel)) ggX4_addWork_X2_put
set_option maxRecDepth 20000 in
theorem ggX4_addWork_X6_madeBy : GoodIn wsX4_addWork wsX6_madeBy := goodIn_r _ [17] (by decide +kernel) (by decide +kernel)
set_option maxRecDepth 20000 in
theorem gX4_addWork_X6_madeBy_n58 : GoodIn wsX4_addWork (wsX6_madeBy) := ggX4_addWork_X6_madeBy
theorem dX4_addWork_0 : decode cX4_addWork 0 = .ok (.aload_n 0, 1) := by decide +kernel
theorem dX4_addWork_1 : decode cX4_addWork 1 = .ok (.getfield 20, 3) := by decide +kernel
theorem dX4_addWork_4 : decode cX4_addWork 4 = .ok (.aload_n 0, 1) := by decide +kernel
theorem dX4_addWork_5 : decode cX4_addWork 5 = .ok (.getfield 29, 3) := by decide +kernel
theorem dX4_addWork_8 : decode cX4_addWork 8 = .ok (.invokevirtual 41, 3) := by decide +kernel
theorem dX4_addWork_11 : decode cX4_addWork 11 = .ok (.istore_n 2, 1) := by decide +kernel
theorem dX4_addWork_12 : decode cX4_addWork 12 = .ok (.iload_n 2, 1) := by decide +kernel
theorem dX4_addWork_13 : decode cX4_addWork 13 = .ok (.bipush 120, 2) := by decide +kernel
theorem dX4_addWork_15 : decode cX4_addWork 15 = .ok (.if_icmp .ge 61, 3) := by decide +kernel
theorem dX4_addWork_18 : decode cX4_addWork 18 = .ok (.aload_n 0, 1) := by decide +kernel
theorem dX4_addWork_19 : decode cX4_addWork 19 = .ok (.getfield 14, 3) := by decide +kernel
theorem dX4_addWork_22 : decode cX4_addWork 22 = .ok (.aload_n 0, 1) := by decide +kernel
theorem dX4_addWork_23 : decode cX4_addWork 23 = .ok (.getfield 29, 3) := by decide +kernel
theorem dX4_addWork_26 : decode cX4_addWork 26 = .ok (.bipush 120, 2) := by decide +kernel
theorem dX4_addWork_28 : decode cX4_addWork 28 = .ok (.imul, 1) := by decide +kernel
theorem dX4_addWork_29 : decode cX4_addWork 29 = .ok (.iload_n 2, 1) := by decide +kernel
theorem dX4_addWork_30 : decode cX4_addWork 30 = .ok (.iadd, 1) := by decide +kernel
theorem dX4_addWork_31 : decode cX4_addWork 31 = .ok (.iload_n 1, 1) := by decide +kernel
theorem dX4_addWork_32 : decode cX4_addWork 32 = .ok (.invokevirtual 54, 3) := by decide +kernel
theorem dX4_addWork_35 : decode cX4_addWork 35 = .ok (.aload_n 0, 1) := by decide +kernel
theorem dX4_addWork_36 : decode cX4_addWork 36 = .ok (.getfield 20, 3) := by decide +kernel
theorem dX4_addWork_39 : decode cX4_addWork 39 = .ok (.aload_n 0, 1) := by decide +kernel
theorem dX4_addWork_40 : decode cX4_addWork 40 = .ok (.getfield 29, 3) := by decide +kernel
theorem dX4_addWork_43 : decode cX4_addWork 43 = .ok (.iload_n 2, 1) := by decide +kernel
theorem dX4_addWork_44 : decode cX4_addWork 44 = .ok (.iconst 1, 1) := by decide +kernel
theorem dX4_addWork_45 : decode cX4_addWork 45 = .ok (.iadd, 1) := by decide +kernel
theorem dX4_addWork_46 : decode cX4_addWork 46 = .ok (.invokevirtual 54, 3) := by decide +kernel
theorem dX4_addWork_49 : decode cX4_addWork 49 = .ok (.aload_n 0, 1) := by decide +kernel
theorem dX4_addWork_50 : decode cX4_addWork 50 = .ok (.getfield 23, 3) := by decide +kernel
theorem dX4_addWork_53 : decode cX4_addWork 53 = .ok (.aload_n 0, 1) := by decide +kernel
theorem dX4_addWork_54 : decode cX4_addWork 54 = .ok (.getfield 29, 3) := by decide +kernel
theorem dX4_addWork_57 : decode cX4_addWork 57 = .ok (.aload_n 0, 1) := by decide +kernel
theorem dX4_addWork_58 : decode cX4_addWork 58 = .ok (.getfield 23, 3) := by decide +kernel
theorem dX4_addWork_61 : decode cX4_addWork 61 = .ok (.aload_n 0, 1) := by decide +kernel
theorem dX4_addWork_62 : decode cX4_addWork 62 = .ok (.getfield 29, 3) := by decide +kernel
theorem dX4_addWork_65 : decode cX4_addWork 65 = .ok (.invokevirtual 41, 3) := by decide +kernel
theorem dX4_addWork_68 : decode cX4_addWork 68 = .ok (.iload_n 1, 1) := by decide +kernel
theorem dX4_addWork_69 : decode cX4_addWork 69 = .ok (.invokestatic 58, 3) := by decide +kernel
theorem dX4_addWork_72 : decode cX4_addWork 72 = .ok (.iadd, 1) := by decide +kernel
theorem dX4_addWork_73 : decode cX4_addWork 73 = .ok (.invokevirtual 54, 3) := by decide +kernel
theorem dX4_addWork_76 : decode cX4_addWork 76 = .ok (.return_, 1) := by decide +kernel
theorem dX4_closeRound_0 : decode cX4_closeRound 0 = .ok (.aload_n 0, 1) := by decide +kernel
theorem dX4_closeRound_1 : decode cX4_closeRound 1 = .ok (.dup, 1) := by decide +kernel
theorem dX4_closeRound_2 : decode cX4_closeRound 2 = .ok (.getfield 29, 3) := by decide +kernel
theorem dX4_closeRound_5 : decode cX4_closeRound 5 = .ok (.iconst 1, 1) := by decide +kernel
theorem dX4_closeRound_6 : decode cX4_closeRound 6 = .ok (.iadd, 1) := by decide +kernel
theorem dX4_closeRound_7 : decode cX4_closeRound 7 = .ok (.putfield 29, 3) := by decide +kernel
theorem dX4_closeRound_10 : decode cX4_closeRound 10 = .ok (.return_, 1) := by decide +kernel
set_option maxRecDepth 20000 in
theorem ggX4_lastTotal_X2_at : GoodIn wsX4_lastTotal wsX2_at := goodIn_r _ [7, 8, 15] (by decide +kernel) (by decide +kernel)
set_option maxRecDepth 20000 in
theorem gX4_lastTotal_X2_at : GoodIn wsX4_lastTotal (wsV RX4 41 RX2 yX2_at wsX2_at) := goodIn_app (goodIn_of _ (by decide +kernel)) ggX4_lastTotal_X2_at
theorem dX4_lastTotal_0 : decode cX4_lastTotal 0 = .ok (.aload_n 0, 1) := by decide +kernel
theorem dX4_lastTotal_1 : decode cX4_lastTotal 1 = .ok (.getfield 23, 3) := by decide +kernel
theorem dX4_lastTotal_4 : decode cX4_lastTotal 4 = .ok (.aload_n 0, 1) := by decide +kernel
theorem dX4_lastTotal_5 : decode cX4_lastTotal 5 = .ok (.getfield 29, 3) := by decide +kernel
theorem dX4_lastTotal_8 : decode cX4_lastTotal 8 = .ok (.iconst 1, 1) := by decide +kernel
theorem dX4_lastTotal_9 : decode cX4_lastTotal 9 = .ok (.isub, 1) := by decide +kernel
theorem dX4_lastTotal_10 : decode cX4_lastTotal 10 = .ok (.invokevirtual 41, 3) := by decide +kernel
theorem dX4_lastTotal_13 : decode cX4_lastTotal 13 = .ok (.ireturn, 1) := by decide +kernel
set_option maxRecDepth 20000 in
theorem ggX4_kindOf_X2_at : GoodIn wsX4_kindOf wsX2_at := goodIn_r _ [6, 7, 14] (by decide +kernel) (by decide +kernel)
set_option maxRecDepth 20000 in
theorem gX4_kindOf_X2_at : GoodIn wsX4_kindOf (wsV RX4 41 RX2 yX2_at wsX2_at) := goodIn_app (goodIn_of _ (by decide +kernel)) ggX4_kindOf_X2_at
theorem dX4_kindOf_0 : decode cX4_kindOf 0 = .ok (.aload_n 0, 1) := by decide +kernel
theorem dX4_kindOf_1 : decode cX4_kindOf 1 = .ok (.getfield 14, 3) := by decide +kernel
theorem dX4_kindOf_4 : decode cX4_kindOf 4 = .ok (.iload_n 1, 1) := by decide +kernel
theorem dX4_kindOf_5 : decode cX4_kindOf 5 = .ok (.bipush 120, 2) := by decide +kernel
theorem dX4_kindOf_7 : decode cX4_kindOf 7 = .ok (.imul, 1) := by decide +kernel
theorem dX4_kindOf_8 : decode cX4_kindOf 8 = .ok (.iload_n 2, 1) := by decide +kernel
theorem dX4_kindOf_9 : decode cX4_kindOf 9 = .ok (.iadd, 1) := by decide +kernel
theorem dX4_kindOf_10 : decode cX4_kindOf 10 = .ok (.invokevirtual 41, 3) := by decide +kernel
theorem dX4_kindOf_13 : decode cX4_kindOf 13 = .ok (.ireturn, 1) := by decide +kernel
set_option maxRecDepth 20000 in
theorem ggX4_countOf_X2_at : GoodIn wsX4_countOf wsX2_at := goodIn_r _ [6, 7, 20] (by decide +kernel) (by decide +kernel)
set_option maxRecDepth 20000 in
theorem gX4_countOf_X2_at : GoodIn wsX4_countOf (wsV RX4 41 RX2 yX2_at wsX2_at) := goodIn_app (goodIn_of _ (by decide +kernel)) ggX4_countOf_X2_at
set_option maxRecDepth 20000 in
theorem ggX4_countOf_X4_kindOf : GoodIn wsX4_countOf wsX4_kindOf := goodIn_r _ [12, 13, 2, 3, 4, 5, 6, 7, 14, 15, 16, 17, 18, 19, 20] (by decide +kernel) (by decide +kernel)
set_option maxRecDepth 20000 in
theorem gX4_countOf_X4_kindOf : GoodIn wsX4_countOf (wsV RX4 61 RX4 yX4_kindOf wsX4_kindOf) := goodIn_app (goodIn_of _ (by decide +kernel)) ggX4_countOf_X4_kindOf
theorem dX4_countOf_0 : decode cX4_countOf 0 = .ok (.aload_n 0, 1) := by decide +kernel
theorem dX4_countOf_1 : decode cX4_countOf 1 = .ok (.getfield 20, 3) := by decide +kernel
theorem dX4_countOf_4 : decode cX4_countOf 4 = .ok (.iload_n 1, 1) := by decide +kernel
theorem dX4_countOf_5 : decode cX4_countOf 5 = .ok (.invokevirtual 41, 3) := by decide +kernel
theorem dX4_countOf_8 : decode cX4_countOf 8 = .ok (.istore_n 3, 1) := by decide +kernel
theorem dX4_countOf_9 : decode cX4_countOf 9 = .ok (.iconst 0, 1) := by decide +kernel
theorem dX4_countOf_10 : decode cX4_countOf 10 = .ok (.istore 4, 2) := by decide +kernel
theorem dX4_countOf_12 : decode cX4_countOf 12 = .ok (.iconst 0, 1) := by decide +kernel
theorem dX4_countOf_13 : decode cX4_countOf 13 = .ok (.istore 5, 2) := by decide +kernel
theorem dX4_countOf_15 : decode cX4_countOf 15 = .ok (.iload 5, 2) := by decide +kernel
theorem dX4_countOf_17 : decode cX4_countOf 17 = .ok (.iload_n 3, 1) := by decide +kernel
theorem dX4_countOf_18 : decode cX4_countOf 18 = .ok (.if_icmp .ge 23, 3) := by decide +kernel
theorem dX4_countOf_21 : decode cX4_countOf 21 = .ok (.aload_n 0, 1) := by decide +kernel
theorem dX4_countOf_22 : decode cX4_countOf 22 = .ok (.iload_n 1, 1) := by decide +kernel
theorem dX4_countOf_23 : decode cX4_countOf 23 = .ok (.iload 5, 2) := by decide +kernel
theorem dX4_countOf_25 : decode cX4_countOf 25 = .ok (.invokevirtual 61, 3) := by decide +kernel
theorem dX4_countOf_28 : decode cX4_countOf 28 = .ok (.iload_n 2, 1) := by decide +kernel
theorem dX4_countOf_29 : decode cX4_countOf 29 = .ok (.if_icmp .ne 6, 3) := by decide +kernel
theorem dX4_countOf_32 : decode cX4_countOf 32 = .ok (.iinc 4 1, 3) := by decide +kernel
theorem dX4_countOf_35 : decode cX4_countOf 35 = .ok (.iinc 5 1, 3) := by decide +kernel
theorem dX4_countOf_38 : decode cX4_countOf 38 = .ok (.goto (-23), 3) := by decide +kernel
theorem dX4_countOf_41 : decode cX4_countOf 41 = .ok (.iload 4, 2) := by decide +kernel
theorem dX4_countOf_43 : decode cX4_countOf 43 = .ok (.ireturn, 1) := by decide +kernel
set_option maxRecDepth 20000 in
theorem ggX4_yarnOf_X2_at : GoodIn wsX4_yarnOf wsX2_at := goodIn_r _ [7, 8, 21] (by decide +kernel) (by decide +kernel)
set_option maxRecDepth 20000 in
theorem gX4_yarnOf_X2_at : GoodIn wsX4_yarnOf (wsV RX4 41 RX2 yX2_at wsX2_at) := goodIn_app (goodIn_of _ (by decide +kernel)) ggX4_yarnOf_X2_at
set_option maxRecDepth 20000 in
theorem ggX4_yarnOf_X4_kindOf : GoodIn wsX4_yarnOf wsX4_kindOf := goodIn_r _ [13, 14, 3, 4, 5, 6, 7, 8, 15, 16, 17, 18, 19, 20, 21] (by decide +kernel) (by decide +kernel)
set_option maxRecDepth 20000 in
theorem gX4_yarnOf_X4_kindOf : GoodIn wsX4_yarnOf (wsV RX4 61 RX4 yX4_kindOf wsX4_kindOf) := goodIn_app (goodIn_of _ (by decide +kernel)) ggX4_yarnOf_X4_kindOf
theorem dX4_yarnOf_0 : decode cX4_yarnOf 0 = .ok (.aload_n 0, 1) := by decide +kernel
theorem dX4_yarnOf_1 : decode cX4_yarnOf 1 = .ok (.getfield 20, 3) := by decide +kernel
theorem dX4_yarnOf_4 : decode cX4_yarnOf 4 = .ok (.iload_n 1, 1) := by decide +kernel
theorem dX4_yarnOf_5 : decode cX4_yarnOf 5 = .ok (.invokevirtual 41, 3) := by decide +kernel
theorem dX4_yarnOf_8 : decode cX4_yarnOf 8 = .ok (.istore_n 2, 1) := by decide +kernel
theorem dX4_yarnOf_9 : decode cX4_yarnOf 9 = .ok (.iconst 0, 1) := by decide +kernel
theorem dX4_yarnOf_10 : decode cX4_yarnOf 10 = .ok (.istore_n 3, 1) := by decide +kernel
theorem dX4_yarnOf_11 : decode cX4_yarnOf 11 = .ok (.iconst 0, 1) := by decide +kernel
theorem dX4_yarnOf_12 : decode cX4_yarnOf 12 = .ok (.istore 4, 2) := by decide +kernel
theorem dX4_yarnOf_14 : decode cX4_yarnOf 14 = .ok (.iload 4, 2) := by decide +kernel
theorem dX4_yarnOf_16 : decode cX4_yarnOf 16 = .ok (.iload_n 2, 1) := by decide +kernel
theorem dX4_yarnOf_17 : decode cX4_yarnOf 17 = .ok (.if_icmp .ge 26, 3) := by decide +kernel
theorem dX4_yarnOf_20 : decode cX4_yarnOf 20 = .ok (.iload_n 3, 1) := by decide +kernel
theorem dX4_yarnOf_21 : decode cX4_yarnOf 21 = .ok (.aload_n 0, 1) := by decide +kernel
theorem dX4_yarnOf_22 : decode cX4_yarnOf 22 = .ok (.getfield 26, 3) := by decide +kernel
theorem dX4_yarnOf_25 : decode cX4_yarnOf 25 = .ok (.aload_n 0, 1) := by decide +kernel
theorem dX4_yarnOf_26 : decode cX4_yarnOf 26 = .ok (.iload_n 1, 1) := by decide +kernel
theorem dX4_yarnOf_27 : decode cX4_yarnOf 27 = .ok (.iload 4, 2) := by decide +kernel
theorem dX4_yarnOf_29 : decode cX4_yarnOf 29 = .ok (.invokevirtual 61, 3) := by decide +kernel
theorem dX4_yarnOf_32 : decode cX4_yarnOf 32 = .ok (.invokevirtual 41, 3) := by decide +kernel
theorem dX4_yarnOf_35 : decode cX4_yarnOf 35 = .ok (.iadd, 1) := by decide +kernel
theorem dX4_yarnOf_36 : decode cX4_yarnOf 36 = .ok (.istore_n 3, 1) := by decide +kernel
theorem dX4_yarnOf_37 : decode cX4_yarnOf 37 = .ok (.iinc 4 1, 3) := by decide +kernel
theorem dX4_yarnOf_40 : decode cX4_yarnOf 40 = .ok (.goto (-26), 3) := by decide +kernel
theorem dX4_yarnOf_43 : decode cX4_yarnOf 43 = .ok (.iload_n 3, 1) := by decide +kernel
theorem dX4_yarnOf_44 : decode cX4_yarnOf 44 = .ok (.ireturn, 1) := by decide +kernel
set_option maxRecDepth 20000 in
theorem ggX4_isMirrored_X2_at : GoodIn wsX4_isMirrored wsX2_at := goodIn_r _ [6, 7, 20] (by decide +kernel) (by decide +kernel)
set_option maxRecDepth 20000 in
theorem gX4_isMirrored_X2_at : GoodIn wsX4_isMirrored (wsV RX4 41 RX2 yX2_at wsX2_at) := goodIn_app (goodIn_of _ (by decide +kernel)) ggX4_isMirrored_X2_at
set_option maxRecDepth 20000 in
theorem ggX4_isMirrored_X4_kindOf : GoodIn wsX4_isMirrored wsX4_kindOf := goodIn_r _ [12, 13, 2, 3, 4, 5, 6, 7, 14, 15, 16, 17, 18, 19, 20] (by decide +kernel) (by decide +kernel)
set_option maxRecDepth 20000 in
theorem gX4_isMirrored_X4_kindOf : GoodIn wsX4_isMirrored (wsV RX4 61 RX4 yX4_kindOf wsX4_kindOf) := goodIn_app (goodIn_of _ (by decide +kernel)) ggX4_isMirrored_X4_kindOf
theorem dX4_isMirrored_0 : decode cX4_isMirrored 0 = .ok (.aload_n 0, 1) := by decide +kernel
theorem dX4_isMirrored_1 : decode cX4_isMirrored 1 = .ok (.getfield 20, 3) := by decide +kernel
theorem dX4_isMirrored_4 : decode cX4_isMirrored 4 = .ok (.iload_n 1, 1) := by decide +kernel
theorem dX4_isMirrored_5 : decode cX4_isMirrored 5 = .ok (.invokevirtual 41, 3) := by decide +kernel
theorem dX4_isMirrored_8 : decode cX4_isMirrored 8 = .ok (.istore_n 2, 1) := by decide +kernel
theorem dX4_isMirrored_9 : decode cX4_isMirrored 9 = .ok (.iconst 0, 1) := by decide +kernel
theorem dX4_isMirrored_10 : decode cX4_isMirrored 10 = .ok (.istore_n 3, 1) := by decide +kernel
theorem dX4_isMirrored_11 : decode cX4_isMirrored 11 = .ok (.iload_n 3, 1) := by decide +kernel
theorem dX4_isMirrored_12 : decode cX4_isMirrored 12 = .ok (.iload_n 2, 1) := by decide +kernel
theorem dX4_isMirrored_13 : decode cX4_isMirrored 13 = .ok (.iconst 2, 1) := by decide +kernel
theorem dX4_isMirrored_14 : decode cX4_isMirrored 14 = .ok (.idiv, 1) := by decide +kernel
theorem dX4_isMirrored_15 : decode cX4_isMirrored 15 = .ok (.if_icmp .ge 30, 3) := by decide +kernel
theorem dX4_isMirrored_18 : decode cX4_isMirrored 18 = .ok (.aload_n 0, 1) := by decide +kernel
theorem dX4_isMirrored_19 : decode cX4_isMirrored 19 = .ok (.iload_n 1, 1) := by decide +kernel
theorem dX4_isMirrored_20 : decode cX4_isMirrored 20 = .ok (.iload_n 3, 1) := by decide +kernel
theorem dX4_isMirrored_21 : decode cX4_isMirrored 21 = .ok (.invokevirtual 61, 3) := by decide +kernel
theorem dX4_isMirrored_24 : decode cX4_isMirrored 24 = .ok (.aload_n 0, 1) := by decide +kernel
theorem dX4_isMirrored_25 : decode cX4_isMirrored 25 = .ok (.iload_n 1, 1) := by decide +kernel
theorem dX4_isMirrored_26 : decode cX4_isMirrored 26 = .ok (.iload_n 2, 1) := by decide +kernel
theorem dX4_isMirrored_27 : decode cX4_isMirrored 27 = .ok (.iconst 1, 1) := by decide +kernel
theorem dX4_isMirrored_28 : decode cX4_isMirrored 28 = .ok (.isub, 1) := by decide +kernel
theorem dX4_isMirrored_29 : decode cX4_isMirrored 29 = .ok (.iload_n 3, 1) := by decide +kernel
theorem dX4_isMirrored_30 : decode cX4_isMirrored 30 = .ok (.isub, 1) := by decide +kernel
theorem dX4_isMirrored_31 : decode cX4_isMirrored 31 = .ok (.invokevirtual 61, 3) := by decide +kernel
theorem dX4_isMirrored_34 : decode cX4_isMirrored 34 = .ok (.if_icmp .eq 5, 3) := by decide +kernel
theorem dX4_isMirrored_37 : decode cX4_isMirrored 37 = .ok (.iconst 0, 1) := by decide +kernel
theorem dX4_isMirrored_38 : decode cX4_isMirrored 38 = .ok (.ireturn, 1) := by decide +kernel
theorem dX4_isMirrored_39 : decode cX4_isMirrored 39 = .ok (.iinc 3 1, 3) := by decide +kernel
theorem dX4_isMirrored_42 : decode cX4_isMirrored 42 = .ok (.goto (-31), 3) := by decide +kernel
theorem dX4_isMirrored_45 : decode cX4_isMirrored 45 = .ok (.iconst 1, 1) := by decide +kernel
theorem dX4_isMirrored_46 : decode cX4_isMirrored 46 = .ok (.ireturn, 1) := by decide +kernel
set_option maxRecDepth 20000 in
theorem ggX4_distance_X2_at : GoodIn wsX4_distance wsX2_at := goodIn_r _ [6, 7, 30] (by decide +kernel) (by decide +kernel)
set_option maxRecDepth 20000 in
theorem gX4_distance_X2_at : GoodIn wsX4_distance (wsV RX4 41 RX2 yX2_at wsX2_at) := goodIn_app (goodIn_of _ (by decide +kernel)) ggX4_distance_X2_at
set_option maxRecDepth 20000 in
theorem ggX4_distance_X4_kindOf : GoodIn wsX4_distance wsX4_kindOf := goodIn_r _ [12, 13, 2, 3, 4, 5, 6, 7, 24, 25, 26, 27, 28, 29, 30] (by decide +kernel) (by decide +kernel)
set_option maxRecDepth 20000 in
theorem gX4_distance_X4_kindOf : GoodIn wsX4_distance (wsV RX4 61 RX4 yX4_kindOf wsX4_kindOf) := goodIn_app (goodIn_of _ (by decide +kernel)) ggX4_distance_X4_kindOf
set_option maxRecDepth 20000 in
theorem ggX4_distance_X4_further : GoodIn wsX4_distance wsX4_further := goodIn_r _ [16, 17, 18, 19, 20, 21, 22, 23] (by decide +kernel) (by decide +kernel)
set_option maxRecDepth 20000 in
theorem gX4_distance_X4_further : GoodIn wsX4_distance (va_wsS RX4 71 yX4_further wsX4_further) := goodIn_app (goodIn_of _ (by decide +kernel)) ggX4_distance_X4_further
theorem dX4_distance_0 : decode cX4_distance 0 = .ok (.aload_n 0, 1) := by decide +kernel
theorem dX4_distance_1 : decode cX4_distance 1 = .ok (.getfield 20, 3) := by decide +kernel
theorem dX4_distance_4 : decode cX4_distance 4 = .ok (.iload_n 1, 1) := by decide +kernel
theorem dX4_distance_5 : decode cX4_distance 5 = .ok (.invokevirtual 41, 3) := by decide +kernel
theorem dX4_distance_8 : decode cX4_distance 8 = .ok (.istore_n 3, 1) := by decide +kernel
theorem dX4_distance_9 : decode cX4_distance 9 = .ok (.iconst (-1), 1) := by decide +kernel
theorem dX4_distance_10 : decode cX4_distance 10 = .ok (.istore 4, 2) := by decide +kernel
theorem dX4_distance_12 : decode cX4_distance 12 = .ok (.iconst (-1), 1) := by decide +kernel
theorem dX4_distance_13 : decode cX4_distance 13 = .ok (.istore 5, 2) := by decide +kernel
theorem dX4_distance_15 : decode cX4_distance 15 = .ok (.iconst 0, 1) := by decide +kernel
theorem dX4_distance_16 : decode cX4_distance 16 = .ok (.istore 6, 2) := by decide +kernel
theorem dX4_distance_18 : decode cX4_distance 18 = .ok (.iconst 0, 1) := by decide +kernel
theorem dX4_distance_19 : decode cX4_distance 19 = .ok (.istore 7, 2) := by decide +kernel
theorem dX4_distance_21 : decode cX4_distance 21 = .ok (.iload 7, 2) := by decide +kernel
theorem dX4_distance_23 : decode cX4_distance 23 = .ok (.iload_n 3, 1) := by decide +kernel
theorem dX4_distance_24 : decode cX4_distance 24 = .ok (.if_icmp .ge 49, 3) := by decide +kernel
theorem dX4_distance_27 : decode cX4_distance 27 = .ok (.aload_n 0, 1) := by decide +kernel
theorem dX4_distance_28 : decode cX4_distance 28 = .ok (.iload_n 1, 1) := by decide +kernel
theorem dX4_distance_29 : decode cX4_distance 29 = .ok (.iload 7, 2) := by decide +kernel
theorem dX4_distance_31 : decode cX4_distance 31 = .ok (.invokevirtual 61, 3) := by decide +kernel
theorem dX4_distance_34 : decode cX4_distance 34 = .ok (.ifCond .eq 33, 3) := by decide +kernel
theorem dX4_distance_37 : decode cX4_distance 37 = .ok (.iload 5, 2) := by decide +kernel
theorem dX4_distance_39 : decode cX4_distance 39 = .ok (.iconst (-1), 1) := by decide +kernel
theorem dX4_distance_40 : decode cX4_distance 40 = .ok (.if_icmp .ne 10, 3) := by decide +kernel
theorem dX4_distance_43 : decode cX4_distance 43 = .ok (.iload 7, 2) := by decide +kernel
theorem dX4_distance_45 : decode cX4_distance 45 = .ok (.istore 4, 2) := by decide +kernel
theorem dX4_distance_47 : decode cX4_distance 47 = .ok (.goto 16, 3) := by decide +kernel
theorem dX4_distance_50 : decode cX4_distance 50 = .ok (.iload 6, 2) := by decide +kernel
theorem dX4_distance_52 : decode cX4_distance 52 = .ok (.iload 7, 2) := by decide +kernel
theorem dX4_distance_54 : decode cX4_distance 54 = .ok (.iload 5, 2) := by decide +kernel
theorem dX4_distance_56 : decode cX4_distance 56 = .ok (.isub, 1) := by decide +kernel
theorem dX4_distance_57 : decode cX4_distance 57 = .ok (.iload_n 2, 1) := by decide +kernel
theorem dX4_distance_58 : decode cX4_distance 58 = .ok (.invokestatic 71, 3) := by decide +kernel
theorem dX4_distance_61 : decode cX4_distance 61 = .ok (.istore 6, 2) := by decide +kernel
theorem dX4_distance_63 : decode cX4_distance 63 = .ok (.iload 7, 2) := by decide +kernel
theorem dX4_distance_65 : decode cX4_distance 65 = .ok (.istore 5, 2) := by decide +kernel
theorem dX4_distance_67 : decode cX4_distance 67 = .ok (.iinc 7 1, 3) := by decide +kernel
theorem dX4_distance_70 : decode cX4_distance 70 = .ok (.goto (-49), 3) := by decide +kernel
theorem dX4_distance_73 : decode cX4_distance 73 = .ok (.iload 4, 2) := by decide +kernel
theorem dX4_distance_75 : decode cX4_distance 75 = .ok (.iload 5, 2) := by decide +kernel
theorem dX4_distance_77 : decode cX4_distance 77 = .ok (.if_icmp .ne 7, 3) := by decide +kernel
theorem dX4_distance_80 : decode cX4_distance 80 = .ok (.iconst 0, 1) := by decide +kernel
theorem dX4_distance_81 : decode cX4_distance 81 = .ok (.goto 16, 3) := by decide +kernel
theorem dX4_distance_84 : decode cX4_distance 84 = .ok (.iload 6, 2) := by decide +kernel
theorem dX4_distance_86 : decode cX4_distance 86 = .ok (.iload 4, 2) := by decide +kernel
theorem dX4_distance_88 : decode cX4_distance 88 = .ok (.iload_n 3, 1) := by decide +kernel
theorem dX4_distance_89 : decode cX4_distance 89 = .ok (.iadd, 1) := by decide +kernel
theorem dX4_distance_90 : decode cX4_distance 90 = .ok (.iload 5, 2) := by decide +kernel
theorem dX4_distance_92 : decode cX4_distance 92 = .ok (.isub, 1) := by decide +kernel
theorem dX4_distance_93 : decode cX4_distance 93 = .ok (.iload_n 2, 1) := by decide +kernel
theorem dX4_distance_94 : decode cX4_distance 94 = .ok (.invokestatic 71, 3) := by decide +kernel
theorem dX4_distance_97 : decode cX4_distance 97 = .ok (.ireturn, 1) := by decide +kernel
theorem dX4_further_0 : decode cX4_further 0 = .ok (.iload_n 0, 1) := by decide +kernel
theorem dX4_further_1 : decode cX4_further 1 = .ok (.ifCond .ne 5, 3) := by decide +kernel
theorem dX4_further_4 : decode cX4_further 4 = .ok (.iload_n 1, 1) := by decide +kernel
theorem dX4_further_5 : decode cX4_further 5 = .ok (.ireturn, 1) := by decide +kernel
theorem dX4_further_6 : decode cX4_further 6 = .ok (.iload_n 2, 1) := by decide +kernel
theorem dX4_further_7 : decode cX4_further 7 = .ok (.ifCond .eq 11, 3) := by decide +kernel
theorem dX4_further_10 : decode cX4_further 10 = .ok (.iload_n 0, 1) := by decide +kernel
theorem dX4_further_11 : decode cX4_further 11 = .ok (.iload_n 1, 1) := by decide +kernel
theorem dX4_further_12 : decode cX4_further 12 = .ok (.invokestatic 75, 3) := by decide +kernel
theorem dX4_further_15 : decode cX4_further 15 = .ok (.goto 8, 3) := by decide +kernel
theorem dX4_further_18 : decode cX4_further 18 = .ok (.iload_n 0, 1) := by decide +kernel
theorem dX4_further_19 : decode cX4_further 19 = .ok (.iload_n 1, 1) := by decide +kernel
theorem dX4_further_20 : decode cX4_further 20 = .ok (.invokestatic 80, 3) := by decide +kernel
theorem dX4_further_23 : decode cX4_further 23 = .ok (.ireturn, 1) := by decide +kernel
set_option maxRecDepth 20000 in
theorem ggX4_widest_X2_at : GoodIn wsX4_widest wsX2_at := goodIn_r _ [7, 8, 15] (by decide +kernel) (by decide +kernel)
set_option maxRecDepth 20000 in
theorem gX4_widest_X2_at : GoodIn wsX4_widest (wsV RX4 41 RX2 yX2_at wsX2_at) := goodIn_app (goodIn_of _ (by decide +kernel)) ggX4_widest_X2_at
theorem dX4_widest_0 : decode cX4_widest 0 = .ok (.iconst 0, 1) := by decide +kernel
theorem dX4_widest_1 : decode cX4_widest 1 = .ok (.istore_n 1, 1) := by decide +kernel
theorem dX4_widest_2 : decode cX4_widest 2 = .ok (.iconst 1, 1) := by decide +kernel
theorem dX4_widest_3 : decode cX4_widest 3 = .ok (.istore_n 2, 1) := by decide +kernel
theorem dX4_widest_4 : decode cX4_widest 4 = .ok (.iload_n 2, 1) := by decide +kernel
theorem dX4_widest_5 : decode cX4_widest 5 = .ok (.aload_n 0, 1) := by decide +kernel
theorem dX4_widest_6 : decode cX4_widest 6 = .ok (.getfield 29, 3) := by decide +kernel
theorem dX4_widest_9 : decode cX4_widest 9 = .ok (.if_icmp .ge 30, 3) := by decide +kernel
theorem dX4_widest_12 : decode cX4_widest 12 = .ok (.aload_n 0, 1) := by decide +kernel
theorem dX4_widest_13 : decode cX4_widest 13 = .ok (.getfield 23, 3) := by decide +kernel
theorem dX4_widest_16 : decode cX4_widest 16 = .ok (.iload_n 2, 1) := by decide +kernel
theorem dX4_widest_17 : decode cX4_widest 17 = .ok (.invokevirtual 41, 3) := by decide +kernel
theorem dX4_widest_20 : decode cX4_widest 20 = .ok (.aload_n 0, 1) := by decide +kernel
theorem dX4_widest_21 : decode cX4_widest 21 = .ok (.getfield 23, 3) := by decide +kernel
theorem dX4_widest_24 : decode cX4_widest 24 = .ok (.iload_n 1, 1) := by decide +kernel
theorem dX4_widest_25 : decode cX4_widest 25 = .ok (.invokevirtual 41, 3) := by decide +kernel
theorem dX4_widest_28 : decode cX4_widest 28 = .ok (.if_icmp .le 5, 3) := by decide +kernel
theorem dX4_widest_31 : decode cX4_widest 31 = .ok (.iload_n 2, 1) := by decide +kernel
theorem dX4_widest_32 : decode cX4_widest 32 = .ok (.istore_n 1, 1) := by decide +kernel
theorem dX4_widest_33 : decode cX4_widest 33 = .ok (.iinc 2 1, 3) := by decide +kernel
theorem dX4_widest_36 : decode cX4_widest 36 = .ok (.goto (-32), 3) := by decide +kernel
theorem dX4_widest_39 : decode cX4_widest 39 = .ok (.iload_n 1, 1) := by decide +kernel
theorem dX4_widest_40 : decode cX4_widest 40 = .ok (.ireturn, 1) := by decide +kernel
set_option maxRecDepth 20000 in
theorem ggX5_init_X2_init : GoodIn wsX5_init wsX2_init := goodIn_r _ [10, 11, 2, 3, 12, 13, 14] (by decide +kernel) (by decide +kernel)
set_option maxRecDepth 20000 in
theorem gX5_init_X2_init : GoodIn wsX5_init (wsX2_init) := ggX5_init_X2_init
theorem dX5_init_0 : decode cX5_init 0 = .ok (.aload_n 0, 1) := by decide +kernel
theorem dX5_init_1 : decode cX5_init 1 = .ok (.invokespecial 3, 3) := by decide +kernel
theorem dX5_init_4 : decode cX5_init 4 = .ok (.aload_n 0, 1) := by decide +kernel
theorem dX5_init_5 : decode cX5_init 5 = .ok (.new 9, 3) := by decide +kernel
theorem dX5_init_8 : decode cX5_init 8 = .ok (.dup, 1) := by decide +kernel
theorem dX5_init_9 : decode cX5_init 9 = .ok (.bipush 120, 2) := by decide +kernel
theorem dX5_init_11 : decode cX5_init 11 = .ok (.invokespecial 11, 3) := by decide +kernel
theorem dX5_init_14 : decode cX5_init 14 = .ok (.putfield 14, 3) := by decide +kernel
theorem dX5_init_17 : decode cX5_init 17 = .ok (.return_, 1) := by decide +kernel
set_option maxRecDepth 20000 in
theorem ggX5_spread_X5_measure : GoodIn wsX5_spread wsX5_measure := goodIn_r _ [8, 1, 3, 9, 20, 21, 22, 23] (by decide +kernel) (by decide +kernel)
set_option maxRecDepth 20000 in
theorem gX5_spread_X5_measure : GoodIn wsX5_spread (wsV RX5 20 RX5 yX5_measure wsX5_measure) := goodIn_app (goodIn_of _ (by decide +kernel)) ggX5_spread_X5_measure
set_option maxRecDepth 20000 in
theorem ggX5_spread_X5_spreadKind : GoodIn wsX5_spread wsX5_spreadKind := goodIn_r _ [13, 9, 20, 21, 22, 23] (by decide +kernel) (by decide +kernel)
set_option maxRecDepth 20000 in
theorem gX5_spread_X5_spreadKind : GoodIn wsX5_spread (wsV RX5 31 RX5 yX5_spreadKind wsX5_spreadKind) := goodIn_app (goodIn_of _ (by decide +kernel)) ggX5_spread_X5_spreadKind
set_option maxRecDepth 20000 in
theorem ggX5_spread_X2_put : GoodIn wsX5_spread wsX2_put := goodIn_r _ [18, 19, 24] (by decide +kernel) (by decide +kernel)
set_option maxRecDepth 20000 in
theorem gX5_spread_X2_put : GoodIn wsX5_spread (wsV RX5 35 RX2 yX2_put wsX2_put) := goodIn_app (goodIn_of _ (by decide +kernel)) ggX5_spread_X2_put
theorem dX5_spread_0 : decode cX5_spread 0 = .ok (.aload_n 0, 1) := by decide +kernel
theorem dX5_spread_1 : decode cX5_spread 1 = .ok (.iload_n 1, 1) := by decide +kernel
theorem dX5_spread_2 : decode cX5_spread 2 = .ok (.iload_n 2, 1) := by decide +kernel
theorem dX5_spread_3 : decode cX5_spread 3 = .ok (.invokevirtual 20, 3) := by decide +kernel
theorem dX5_spread_6 : decode cX5_spread 6 = .ok (.ifCond .ne 5, 3) := by decide +kernel
theorem dX5_spread_9 : decode cX5_spread 9 = .ok (.iconst 0, 1) := by decide +kernel
theorem dX5_spread_10 : decode cX5_spread 10 = .ok (.ireturn, 1) := by decide +kernel
theorem dX5_spread_11 : decode cX5_spread 11 = .ok (.iconst 0, 1) := by decide +kernel
theorem dX5_spread_12 : decode cX5_spread 12 = .ok (.istore_n 3, 1) := by decide +kernel
theorem dX5_spread_13 : decode cX5_spread 13 = .ok (.iload_n 3, 1) := by decide +kernel
theorem dX5_spread_14 : decode cX5_spread 14 = .ok (.aload_n 0, 1) := by decide +kernel
theorem dX5_spread_15 : decode cX5_spread 15 = .ok (.getfield 24, 3) := by decide +kernel
theorem dX5_spread_18 : decode cX5_spread 18 = .ok (.if_icmp .ge 30, 3) := by decide +kernel
theorem dX5_spread_21 : decode cX5_spread 21 = .ok (.aload_n 0, 1) := by decide +kernel
theorem dX5_spread_22 : decode cX5_spread 22 = .ok (.getfield 14, 3) := by decide +kernel
theorem dX5_spread_25 : decode cX5_spread 25 = .ok (.iload_n 3, 1) := by decide +kernel
theorem dX5_spread_26 : decode cX5_spread 26 = .ok (.aload_n 0, 1) := by decide +kernel
theorem dX5_spread_27 : decode cX5_spread 27 = .ok (.iload_n 3, 1) := by decide +kernel
theorem dX5_spread_28 : decode cX5_spread 28 = .ok (.aload_n 0, 1) := by decide +kernel
theorem dX5_spread_29 : decode cX5_spread 29 = .ok (.getfield 28, 3) := by decide +kernel
theorem dX5_spread_32 : decode cX5_spread 32 = .ok (.aload_n 0, 1) := by decide +kernel
theorem dX5_spread_33 : decode cX5_spread 33 = .ok (.getfield 24, 3) := by decide +kernel
theorem dX5_spread_36 : decode cX5_spread 36 = .ok (.invokevirtual 31, 3) := by decide +kernel
theorem dX5_spread_39 : decode cX5_spread 39 = .ok (.invokevirtual 35, 3) := by decide +kernel
theorem dX5_spread_42 : decode cX5_spread 42 = .ok (.iinc 3 1, 3) := by decide +kernel
theorem dX5_spread_45 : decode cX5_spread 45 = .ok (.goto (-32), 3) := by decide +kernel
theorem dX5_spread_48 : decode cX5_spread 48 = .ok (.iconst 1, 1) := by decide +kernel
theorem dX5_spread_49 : decode cX5_spread 49 = .ok (.ireturn, 1) := by decide +kernel
set_option maxRecDepth 20000 in
theorem ggX5_mirror_X5_measure : GoodIn wsX5_mirror wsX5_measure := goodIn_r _ [9, 1, 2, 4, 20, 21, 22, 23] (by decide +kernel) (by decide +kernel)
set_option maxRecDepth 20000 in
theorem gX5_mirror_X5_measure : GoodIn wsX5_mirror (wsV RX5 20 RX5 yX5_measure wsX5_measure) := goodIn_app (goodIn_of _ (by decide +kernel)) ggX5_mirror_X5_measure
set_option maxRecDepth 20000 in
theorem ggX5_mirror_X5_spreadKind : GoodIn wsX5_mirror wsX5_spreadKind := goodIn_r _ [13, 4, 20, 21, 22, 23] (by decide +kernel) (by decide +kernel)
set_option maxRecDepth 20000 in
theorem gX5_mirror_X5_spreadKind : GoodIn wsX5_mirror (wsV RX5 31 RX5 yX5_spreadKind wsX5_spreadKind) := goodIn_app (goodIn_of _ (by decide +kernel)) ggX5_mirror_X5_spreadKind
set_option maxRecDepth 20000 in
theorem ggX5_mirror_X2_put : GoodIn wsX5_mirror wsX2_put := goodIn_r _ [18, 19, 24] (by decide +kernel) (by decide +kernel)
set_option maxRecDepth 20000 in
theorem gX5_mirror_X2_put : GoodIn wsX5_mirror (wsV RX5 35 RX2 yX2_put wsX2_put) := goodIn_app (goodIn_of _ (by decide +kernel)) ggX5_mirror_X2_put
theorem dX5_mirror_0 : decode cX5_mirror 0 = .ok (.aload_n 0, 1) := by decide +kernel
theorem dX5_mirror_1 : decode cX5_mirror 1 = .ok (.iload_n 1, 1) := by decide +kernel
theorem dX5_mirror_2 : decode cX5_mirror 2 = .ok (.iload_n 2, 1) := by decide +kernel
theorem dX5_mirror_3 : decode cX5_mirror 3 = .ok (.invokevirtual 20, 3) := by decide +kernel
theorem dX5_mirror_6 : decode cX5_mirror 6 = .ok (.ifCond .ne 5, 3) := by decide +kernel
theorem dX5_mirror_9 : decode cX5_mirror 9 = .ok (.iconst 0, 1) := by decide +kernel
theorem dX5_mirror_10 : decode cX5_mirror 10 = .ok (.ireturn, 1) := by decide +kernel
theorem dX5_mirror_11 : decode cX5_mirror 11 = .ok (.aload_n 0, 1) := by decide +kernel
theorem dX5_mirror_12 : decode cX5_mirror 12 = .ok (.getfield 24, 3) := by decide +kernel
theorem dX5_mirror_15 : decode cX5_mirror 15 = .ok (.iconst 2, 1) := by decide +kernel
theorem dX5_mirror_16 : decode cX5_mirror 16 = .ok (.irem, 1) := by decide +kernel
theorem dX5_mirror_17 : decode cX5_mirror 17 = .ok (.iconst 1, 1) := by decide +kernel
theorem dX5_mirror_18 : decode cX5_mirror 18 = .ok (.if_icmp .ne 7, 3) := by decide +kernel
theorem dX5_mirror_21 : decode cX5_mirror 21 = .ok (.iconst 1, 1) := by decide +kernel
theorem dX5_mirror_22 : decode cX5_mirror 22 = .ok (.goto 4, 3) := by decide +kernel
theorem dX5_mirror_25 : decode cX5_mirror 25 = .ok (.iconst 0, 1) := by decide +kernel
theorem dX5_mirror_26 : decode cX5_mirror 26 = .ok (.istore_n 3, 1) := by decide +kernel
theorem dX5_mirror_27 : decode cX5_mirror 27 = .ok (.aload_n 0, 1) := by decide +kernel
theorem dX5_mirror_28 : decode cX5_mirror 28 = .ok (.getfield 28, 3) := by decide +kernel
theorem dX5_mirror_31 : decode cX5_mirror 31 = .ok (.iconst 2, 1) := by decide +kernel
theorem dX5_mirror_32 : decode cX5_mirror 32 = .ok (.irem, 1) := by decide +kernel
theorem dX5_mirror_33 : decode cX5_mirror 33 = .ok (.iconst 1, 1) := by decide +kernel
theorem dX5_mirror_34 : decode cX5_mirror 34 = .ok (.if_icmp .ne 7, 3) := by decide +kernel
theorem dX5_mirror_37 : decode cX5_mirror 37 = .ok (.iconst 1, 1) := by decide +kernel
theorem dX5_mirror_38 : decode cX5_mirror 38 = .ok (.goto 4, 3) := by decide +kernel
theorem dX5_mirror_41 : decode cX5_mirror 41 = .ok (.iconst 0, 1) := by decide +kernel
theorem dX5_mirror_42 : decode cX5_mirror 42 = .ok (.istore 4, 2) := by decide +kernel
theorem dX5_mirror_44 : decode cX5_mirror 44 = .ok (.iload 4, 2) := by decide +kernel
theorem dX5_mirror_46 : decode cX5_mirror 46 = .ok (.ifCond .eq 9, 3) := by decide +kernel
theorem dX5_mirror_49 : decode cX5_mirror 49 = .ok (.iload_n 3, 1) := by decide +kernel
theorem dX5_mirror_50 : decode cX5_mirror 50 = .ok (.ifCond .ne 5, 3) := by decide +kernel
theorem dX5_mirror_53 : decode cX5_mirror 53 = .ok (.iconst 0, 1) := by decide +kernel
theorem dX5_mirror_54 : decode cX5_mirror 54 = .ok (.ireturn, 1) := by decide +kernel
theorem dX5_mirror_55 : decode cX5_mirror 55 = .ok (.aload_n 0, 1) := by decide +kernel
theorem dX5_mirror_56 : decode cX5_mirror 56 = .ok (.getfield 24, 3) := by decide +kernel
theorem dX5_mirror_59 : decode cX5_mirror 59 = .ok (.iconst 2, 1) := by decide +kernel
theorem dX5_mirror_60 : decode cX5_mirror 60 = .ok (.idiv, 1) := by decide +kernel
theorem dX5_mirror_61 : decode cX5_mirror 61 = .ok (.istore 5, 2) := by decide +kernel
theorem dX5_mirror_63 : decode cX5_mirror 63 = .ok (.iconst 0, 1) := by decide +kernel
theorem dX5_mirror_64 : decode cX5_mirror 64 = .ok (.istore 6, 2) := by decide +kernel
theorem dX5_mirror_66 : decode cX5_mirror 66 = .ok (.iload 6, 2) := by decide +kernel
theorem dX5_mirror_68 : decode cX5_mirror 68 = .ok (.iload 5, 2) := by decide +kernel
theorem dX5_mirror_70 : decode cX5_mirror 70 = .ok (.if_icmp .ge 54, 3) := by decide +kernel
theorem dX5_mirror_73 : decode cX5_mirror 73 = .ok (.aload_n 0, 1) := by decide +kernel
theorem dX5_mirror_74 : decode cX5_mirror 74 = .ok (.iload 6, 2) := by decide +kernel
theorem dX5_mirror_76 : decode cX5_mirror 76 = .ok (.aload_n 0, 1) := by decide +kernel
theorem dX5_mirror_77 : decode cX5_mirror 77 = .ok (.getfield 28, 3) := by decide +kernel
theorem dX5_mirror_80 : decode cX5_mirror 80 = .ok (.iconst 2, 1) := by decide +kernel
theorem dX5_mirror_81 : decode cX5_mirror 81 = .ok (.idiv, 1) := by decide +kernel
theorem dX5_mirror_82 : decode cX5_mirror 82 = .ok (.iload 5, 2) := by decide +kernel
theorem dX5_mirror_84 : decode cX5_mirror 84 = .ok (.invokevirtual 31, 3) := by decide +kernel
theorem dX5_mirror_87 : decode cX5_mirror 87 = .ok (.istore 7, 2) := by decide +kernel
theorem dX5_mirror_89 : decode cX5_mirror 89 = .ok (.aload_n 0, 1) := by decide +kernel
theorem dX5_mirror_90 : decode cX5_mirror 90 = .ok (.getfield 14, 3) := by decide +kernel
theorem dX5_mirror_93 : decode cX5_mirror 93 = .ok (.iload 6, 2) := by decide +kernel
theorem dX5_mirror_95 : decode cX5_mirror 95 = .ok (.iload 7, 2) := by decide +kernel
theorem dX5_mirror_97 : decode cX5_mirror 97 = .ok (.invokevirtual 35, 3) := by decide +kernel
theorem dX5_mirror_100 : decode cX5_mirror 100 = .ok (.aload_n 0, 1) := by decide +kernel
theorem dX5_mirror_101 : decode cX5_mirror 101 = .ok (.getfield 14, 3) := by decide +kernel
theorem dX5_mirror_104 : decode cX5_mirror 104 = .ok (.aload_n 0, 1) := by decide +kernel
theorem dX5_mirror_105 : decode cX5_mirror 105 = .ok (.getfield 24, 3) := by decide +kernel
theorem dX5_mirror_108 : decode cX5_mirror 108 = .ok (.iconst 1, 1) := by decide +kernel
theorem dX5_mirror_109 : decode cX5_mirror 109 = .ok (.isub, 1) := by decide +kernel
theorem dX5_mirror_110 : decode cX5_mirror 110 = .ok (.iload 6, 2) := by decide +kernel
theorem dX5_mirror_112 : decode cX5_mirror 112 = .ok (.isub, 1) := by decide +kernel
theorem dX5_mirror_113 : decode cX5_mirror 113 = .ok (.iload 7, 2) := by decide +kernel
theorem dX5_mirror_115 : decode cX5_mirror 115 = .ok (.invokevirtual 35, 3) := by decide +kernel
theorem dX5_mirror_118 : decode cX5_mirror 118 = .ok (.iinc 6 1, 3) := by decide +kernel
theorem dX5_mirror_121 : decode cX5_mirror 121 = .ok (.goto (-55), 3) := by decide +kernel
theorem dX5_mirror_124 : decode cX5_mirror 124 = .ok (.iload_n 3, 1) := by decide +kernel
theorem dX5_mirror_125 : decode cX5_mirror 125 = .ok (.ifCond .eq 25, 3) := by decide +kernel
theorem dX5_mirror_128 : decode cX5_mirror 128 = .ok (.aload_n 0, 1) := by decide +kernel
theorem dX5_mirror_129 : decode cX5_mirror 129 = .ok (.getfield 14, 3) := by decide +kernel
theorem dX5_mirror_132 : decode cX5_mirror 132 = .ok (.iload 5, 2) := by decide +kernel
theorem dX5_mirror_134 : decode cX5_mirror 134 = .ok (.iload 4, 2) := by decide +kernel
theorem dX5_mirror_136 : decode cX5_mirror 136 = .ok (.ifCond .eq 10, 3) := by decide +kernel
theorem dX5_mirror_139 : decode cX5_mirror 139 = .ok (.aload_n 0, 1) := by decide +kernel
theorem dX5_mirror_140 : decode cX5_mirror 140 = .ok (.getfield 39, 3) := by decide +kernel
theorem dX5_mirror_143 : decode cX5_mirror 143 = .ok (.goto 4, 3) := by decide +kernel
theorem dX5_mirror_146 : decode cX5_mirror 146 = .ok (.iconst 0, 1) := by decide +kernel
theorem dX5_mirror_147 : decode cX5_mirror 147 = .ok (.invokevirtual 35, 3) := by decide +kernel
theorem dX5_mirror_150 : decode cX5_mirror 150 = .ok (.iconst 1, 1) := by decide +kernel
theorem dX5_mirror_151 : decode cX5_mirror 151 = .ok (.ireturn, 1) := by decide +kernel
theorem dX5_measure_0 : decode cX5_measure 0 = .ok (.iload_n 2, 1) := by decide +kernel
theorem dX5_measure_1 : decode cX5_measure 1 = .ok (.iload_n 1, 1) := by decide +kernel
theorem dX5_measure_2 : decode cX5_measure 2 = .ok (.if_icmp .lt 34, 3) := by decide +kernel
theorem dX5_measure_5 : decode cX5_measure 5 = .ok (.aload_n 0, 1) := by decide +kernel
theorem dX5_measure_6 : decode cX5_measure 6 = .ok (.iload_n 1, 1) := by decide +kernel
theorem dX5_measure_7 : decode cX5_measure 7 = .ok (.putfield 24, 3) := by decide +kernel
theorem dX5_measure_10 : decode cX5_measure 10 = .ok (.aload_n 0, 1) := by decide +kernel
theorem dX5_measure_11 : decode cX5_measure 11 = .ok (.iload_n 2, 1) := by decide +kernel
theorem dX5_measure_12 : decode cX5_measure 12 = .ok (.iload_n 1, 1) := by decide +kernel
theorem dX5_measure_13 : decode cX5_measure 13 = .ok (.isub, 1) := by decide +kernel
theorem dX5_measure_14 : decode cX5_measure 14 = .ok (.putfield 28, 3) := by decide +kernel
theorem dX5_measure_17 : decode cX5_measure 17 = .ok (.aload_n 0, 1) := by decide +kernel
theorem dX5_measure_18 : decode cX5_measure 18 = .ok (.iconst 1, 1) := by decide +kernel
theorem dX5_measure_19 : decode cX5_measure 19 = .ok (.putfield 39, 3) := by decide +kernel
theorem dX5_measure_22 : decode cX5_measure 22 = .ok (.aload_n 0, 1) := by decide +kernel
theorem dX5_measure_23 : decode cX5_measure 23 = .ok (.getfield 28, 3) := by decide +kernel
theorem dX5_measure_26 : decode cX5_measure 26 = .ok (.iload_n 1, 1) := by decide +kernel
theorem dX5_measure_27 : decode cX5_measure 27 = .ok (.if_icmp .gt 7, 3) := by decide +kernel
theorem dX5_measure_30 : decode cX5_measure 30 = .ok (.iconst 1, 1) := by decide +kernel
theorem dX5_measure_31 : decode cX5_measure 31 = .ok (.goto 4, 3) := by decide +kernel
theorem dX5_measure_34 : decode cX5_measure 34 = .ok (.iconst 0, 1) := by decide +kernel
theorem dX5_measure_35 : decode cX5_measure 35 = .ok (.ireturn, 1) := by decide +kernel
theorem dX5_measure_36 : decode cX5_measure 36 = .ok (.aload_n 0, 1) := by decide +kernel
theorem dX5_measure_37 : decode cX5_measure 37 = .ok (.iload_n 2, 1) := by decide +kernel
theorem dX5_measure_38 : decode cX5_measure 38 = .ok (.putfield 24, 3) := by decide +kernel
theorem dX5_measure_41 : decode cX5_measure 41 = .ok (.aload_n 0, 1) := by decide +kernel
theorem dX5_measure_42 : decode cX5_measure 42 = .ok (.iload_n 1, 1) := by decide +kernel
theorem dX5_measure_43 : decode cX5_measure 43 = .ok (.iload_n 2, 1) := by decide +kernel
theorem dX5_measure_44 : decode cX5_measure 44 = .ok (.isub, 1) := by decide +kernel
theorem dX5_measure_45 : decode cX5_measure 45 = .ok (.putfield 28, 3) := by decide +kernel
theorem dX5_measure_48 : decode cX5_measure 48 = .ok (.aload_n 0, 1) := by decide +kernel
theorem dX5_measure_49 : decode cX5_measure 49 = .ok (.iconst 2, 1) := by decide +kernel
theorem dX5_measure_50 : decode cX5_measure 50 = .ok (.putfield 39, 3) := by decide +kernel
theorem dX5_measure_53 : decode cX5_measure 53 = .ok (.iconst 2, 1) := by decide +kernel
theorem dX5_measure_54 : decode cX5_measure 54 = .ok (.aload_n 0, 1) := by decide +kernel
theorem dX5_measure_55 : decode cX5_measure 55 = .ok (.getfield 28, 3) := by decide +kernel
theorem dX5_measure_58 : decode cX5_measure 58 = .ok (.imul, 1) := by decide +kernel
theorem dX5_measure_59 : decode cX5_measure 59 = .ok (.iload_n 1, 1) := by decide +kernel
theorem dX5_measure_60 : decode cX5_measure 60 = .ok (.if_icmp .gt 7, 3) := by decide +kernel
theorem dX5_measure_63 : decode cX5_measure 63 = .ok (.iconst 1, 1) := by decide +kernel
theorem dX5_measure_64 : decode cX5_measure 64 = .ok (.goto 4, 3) := by decide +kernel
theorem dX5_measure_67 : decode cX5_measure 67 = .ok (.iconst 0, 1) := by decide +kernel
theorem dX5_measure_68 : decode cX5_measure 68 = .ok (.ireturn, 1) := by decide +kernel
theorem dX5_spreadKind_0 : decode cX5_spreadKind 0 = .ok (.iload_n 3, 1) := by decide +kernel
theorem dX5_spreadKind_1 : decode cX5_spreadKind 1 = .ok (.ifCond .gt 5, 3) := by decide +kernel
theorem dX5_spreadKind_4 : decode cX5_spreadKind 4 = .ok (.iconst 0, 1) := by decide +kernel
theorem dX5_spreadKind_5 : decode cX5_spreadKind 5 = .ok (.ireturn, 1) := by decide +kernel
theorem dX5_spreadKind_6 : decode cX5_spreadKind 6 = .ok (.iload_n 1, 1) := by decide +kernel
theorem dX5_spreadKind_7 : decode cX5_spreadKind 7 = .ok (.iconst 1, 1) := by decide +kernel
theorem dX5_spreadKind_8 : decode cX5_spreadKind 8 = .ok (.iadd, 1) := by decide +kernel
theorem dX5_spreadKind_9 : decode cX5_spreadKind 9 = .ok (.iload_n 2, 1) := by decide +kernel
theorem dX5_spreadKind_10 : decode cX5_spreadKind 10 = .ok (.imul, 1) := by decide +kernel
theorem dX5_spreadKind_11 : decode cX5_spreadKind 11 = .ok (.iload_n 3, 1) := by decide +kernel
theorem dX5_spreadKind_12 : decode cX5_spreadKind 12 = .ok (.idiv, 1) := by decide +kernel
theorem dX5_spreadKind_13 : decode cX5_spreadKind 13 = .ok (.iload_n 1, 1) := by decide +kernel
theorem dX5_spreadKind_14 : decode cX5_spreadKind 14 = .ok (.iload_n 2, 1) := by decide +kernel
theorem dX5_spreadKind_15 : decode cX5_spreadKind 15 = .ok (.imul, 1) := by decide +kernel
theorem dX5_spreadKind_16 : decode cX5_spreadKind 16 = .ok (.iload_n 3, 1) := by decide +kernel
theorem dX5_spreadKind_17 : decode cX5_spreadKind 17 = .ok (.idiv, 1) := by decide +kernel
theorem dX5_spreadKind_18 : decode cX5_spreadKind 18 = .ok (.if_icmp .le 10, 3) := by decide +kernel
theorem dX5_spreadKind_21 : decode cX5_spreadKind 21 = .ok (.aload_n 0, 1) := by decide +kernel
theorem dX5_spreadKind_22 : decode cX5_spreadKind 22 = .ok (.getfield 39, 3) := by decide +kernel
theorem dX5_spreadKind_25 : decode cX5_spreadKind 25 = .ok (.goto 4, 3) := by decide +kernel
theorem dX5_spreadKind_28 : decode cX5_spreadKind 28 = .ok (.iconst 0, 1) := by decide +kernel
theorem dX5_spreadKind_29 : decode cX5_spreadKind 29 = .ok (.ireturn, 1) := by decide +kernel
end
section
set_option maxRecDepth 20000 in
theorem ggX6_init_X4_init : GoodIn wsX6_init wsX4_init := goodIn_r _ [26, 27, 2, 3, 28, 29, 30, 31, 32, 33, 34, 35, 36, 37, 38, 39, 40, 125, 96, 97, 98, 99, 100, 101] (by decide +kernel) (by decide +kernel)
set_option maxRecDepth 20000 in
theorem gX6_init_X4_init_n9 : GoodIn wsX6_init (wsX4_init) := ggX6_init_X4_init
set_option maxRecDepth 20000 in
theorem ggX6_init_X0_init : GoodIn wsX6_init wsX0_init := goodIn_r _ [43, 44, 2, 3, 45, 46, 5, 6, 25, 26, 27, 28, 29, 30, 31, 32, 33, 34, 35, 36, 37, 38, 39, 40, 107, 108, 109, 96, 97, 98, 99, 100, 101, 125] (by decide +kernel) (by decide +kernel)
set_option maxRecDepth 20000 in
theorem gX6_init_X0_init : GoodIn wsX6_init (wsX0_init) := ggX6_init_X0_init
set_option maxRecDepth 20000 in
theorem ggX6_init_X3_init : GoodIn wsX6_init wsX3_init := goodIn_r _ [48, 49, 2, 3, 50, 29, 30, 51, 52, 53, 54, 36, 37, 38, 39, 40, 125, 110, 111, 112, 113, 114, 115, 116, 117, 118, 119] (by decide +kernel) (by decide +kernel)
set_option maxRecDepth 20000 in
theorem gX6_init_X3_init_n25 : GoodIn wsX6_init (wsX3_init) := ggX6_init_X3_init
set_option maxRecDepth 20000 in
theorem ggX6_init_X5_init : GoodIn wsX6_init wsX5_init := goodIn_r _ [56, 57, 2, 3, 58, 29, 30, 59, 60, 36, 37, 38, 39, 40, 125, 120, 121, 122, 123] (by decide +kernel) (by decide +kernel)
set_option maxRecDepth 20000 in
theorem gX6_init_X5_init_n32 : GoodIn wsX6_init (wsX5_init) := ggX6_init_X5_init
set_option maxRecDepth 20000 in
theorem ggX6_init_X1_init : GoodIn wsX6_init wsX1_init := goodIn_r _ [62, 63, 2, 3, 64, 29, 30, 65, 66, 36, 37, 38, 39, 40, 125, 124] (by decide +kernel) (by decide +kernel)
set_option maxRecDepth 20000 in
theorem gX6_init_X1_init_n39 : GoodIn wsX6_init (wsX1_init) := ggX6_init_X1_init
set_option maxRecDepth 20000 in
theorem ggX6_init_X2_put : GoodIn wsX6_init wsX2_put := goodIn_r _ [70, 40, 125] (by decide +kernel) (by decide +kernel)
set_option maxRecDepth 20000 in
theorem gX6_init_X2_put : GoodIn wsX6_init (wsV RX6 48 RX2 yX2_put wsX2_put) := goodIn_app (goodIn_of _ (by decide +kernel)) ggX6_init_X2_put
set_option maxRecDepth 20000 in
theorem ggX6_init_X4_startRing : GoodIn wsX6_init wsX4_startRing := goodIn_r _ [74, 75, 76, 77, 78, 6, 79, 32, 33, 80, 68, 69, 30, 70, 40, 81, 82, 83, 84, 31, 85, 86, 87, 88, 89, 90, 91, 92, 93, 94, 95, 96, 97, 98, 99, 100, 101, 125] (by decide +kernel) (by decide +kernel)
set_option maxRecDepth 20000 in
theorem gX6_init_X4_startRing : GoodIn wsX6_init (wsV RX6 54 RX4 yX4_startRing wsX4_startRing) := goodIn_app (goodIn_of _ (by decide +kernel)) ggX6_init_X4_startRing
theorem dX6_init_0 : decode cX6_init 0 = .ok (.aload_n 0, 1) := by decide +kernel
theorem dX6_init_1 : decode cX6_init 1 = .ok (.invokespecial 1, 3) := by decide +kernel
theorem dX6_init_4 : decode cX6_init 4 = .ok (.aload_n 0, 1) := by decide +kernel
theorem dX6_init_5 : decode cX6_init 5 = .ok (.new 7, 3) := by decide +kernel
theorem dX6_init_8 : decode cX6_init 8 = .ok (.dup, 1) := by decide +kernel
theorem dX6_init_9 : decode cX6_init 9 = .ok (.invokespecial 9, 3) := by decide +kernel
theorem dX6_init_12 : decode cX6_init 12 = .ok (.putfield 10, 3) := by decide +kernel
theorem dX6_init_15 : decode cX6_init 15 = .ok (.aload_n 0, 1) := by decide +kernel
theorem dX6_init_16 : decode cX6_init 16 = .ok (.new 16, 3) := by decide +kernel
theorem dX6_init_19 : decode cX6_init 19 = .ok (.dup, 1) := by decide +kernel
theorem dX6_init_20 : decode cX6_init 20 = .ok (.invokespecial 18, 3) := by decide +kernel
theorem dX6_init_23 : decode cX6_init 23 = .ok (.putfield 19, 3) := by decide +kernel
theorem dX6_init_26 : decode cX6_init 26 = .ok (.aload_n 0, 1) := by decide +kernel
theorem dX6_init_27 : decode cX6_init 27 = .ok (.new 23, 3) := by decide +kernel
theorem dX6_init_30 : decode cX6_init 30 = .ok (.dup, 1) := by decide +kernel
theorem dX6_init_31 : decode cX6_init 31 = .ok (.invokespecial 25, 3) := by decide +kernel
theorem dX6_init_34 : decode cX6_init 34 = .ok (.putfield 26, 3) := by decide +kernel
theorem dX6_init_37 : decode cX6_init 37 = .ok (.aload_n 0, 1) := by decide +kernel
theorem dX6_init_38 : decode cX6_init 38 = .ok (.new 30, 3) := by decide +kernel
theorem dX6_init_41 : decode cX6_init 41 = .ok (.dup, 1) := by decide +kernel
theorem dX6_init_42 : decode cX6_init 42 = .ok (.invokespecial 32, 3) := by decide +kernel
theorem dX6_init_45 : decode cX6_init 45 = .ok (.putfield 33, 3) := by decide +kernel
theorem dX6_init_48 : decode cX6_init 48 = .ok (.aload_n 0, 1) := by decide +kernel
theorem dX6_init_49 : decode cX6_init 49 = .ok (.new 37, 3) := by decide +kernel
theorem dX6_init_52 : decode cX6_init 52 = .ok (.dup, 1) := by decide +kernel
theorem dX6_init_53 : decode cX6_init 53 = .ok (.invokespecial 39, 3) := by decide +kernel
theorem dX6_init_56 : decode cX6_init 56 = .ok (.putfield 40, 3) := by decide +kernel
theorem dX6_init_59 : decode cX6_init 59 = .ok (.aload_n 0, 1) := by decide +kernel
theorem dX6_init_60 : decode cX6_init 60 = .ok (.getfield 10, 3) := by decide +kernel
theorem dX6_init_63 : decode cX6_init 63 = .ok (.getfield 44, 3) := by decide +kernel
theorem dX6_init_66 : decode cX6_init 66 = .ok (.iconst 0, 1) := by decide +kernel
theorem dX6_init_67 : decode cX6_init 67 = .ok (.bipush 10, 2) := by decide +kernel
theorem dX6_init_69 : decode cX6_init 69 = .ok (.invokevirtual 48, 3) := by decide +kernel
theorem dX6_init_72 : decode cX6_init 72 = .ok (.aload_n 0, 1) := by decide +kernel
theorem dX6_init_73 : decode cX6_init 73 = .ok (.getfield 10, 3) := by decide +kernel
theorem dX6_init_76 : decode cX6_init 76 = .ok (.getfield 44, 3) := by decide +kernel
theorem dX6_init_79 : decode cX6_init 79 = .ok (.iconst 1, 1) := by decide +kernel
theorem dX6_init_80 : decode cX6_init 80 = .ok (.bipush 20, 2) := by decide +kernel
theorem dX6_init_82 : decode cX6_init 82 = .ok (.invokevirtual 48, 3) := by decide +kernel
theorem dX6_init_85 : decode cX6_init 85 = .ok (.aload_n 0, 1) := by decide +kernel
theorem dX6_init_86 : decode cX6_init 86 = .ok (.getfield 10, 3) := by decide +kernel
theorem dX6_init_89 : decode cX6_init 89 = .ok (.getfield 44, 3) := by decide +kernel
theorem dX6_init_92 : decode cX6_init 92 = .ok (.iconst 2, 1) := by decide +kernel
theorem dX6_init_93 : decode cX6_init 93 = .ok (.bipush 13, 2) := by decide +kernel
theorem dX6_init_95 : decode cX6_init 95 = .ok (.invokevirtual 48, 3) := by decide +kernel
theorem dX6_init_98 : decode cX6_init 98 = .ok (.aload_n 0, 1) := by decide +kernel
theorem dX6_init_99 : decode cX6_init 99 = .ok (.getfield 10, 3) := by decide +kernel
theorem dX6_init_102 : decode cX6_init 102 = .ok (.bipush 6, 2) := by decide +kernel
theorem dX6_init_104 : decode cX6_init 104 = .ok (.invokevirtual 54, 3) := by decide +kernel
theorem dX6_init_107 : decode cX6_init 107 = .ok (.return_, 1) := by decide +kernel
set_option maxRecDepth 20000 in
theorem ggX6_begin_X6_checkArgument : GoodIn wsX6_begin wsX6_checkArgument := goodIn_ca (goodIn_r _ [7, 8, 9] (by decide +kernel) (by decide +kernel)) (goodIn_sub (fun _ h => List.mem_cons_of_mem _ (List.mem_append_right _ h)) (by decide +kernel))
set_option maxRecDepth 20000 in
theorem gX6_begin_X6_checkArgument : GoodIn wsX6_begin (va_wsS RX6 58 yX6_checkArgument wsX6_checkArgument) := goodIn_app (goodIn_of _ (by decide +kernel)) ggX6_begin_X6_checkArgument
set_option maxRecDepth 20000 in
theorem ggX6_begin_X0_keep : GoodIn wsX6_begin wsX0_keep := goodIn_r _ [14, 15, 16, 17, 18, 19, 20, 21, 22, 23, 13, 24, 25, 26, 27, 28, 29, 30, 31, 32, 33, 34, 35, 36, 37, 38, 39, 40, 41, 42, 43, 44, 45, 46, 47, 48, 49, 50, 51, 82, 83, 84, 76, 77, 78, 79, 80, 81, 85] (by decide +kernel) (by decide +kernel)
set_option maxRecDepth 20000 in
theorem gX6_begin_X0_keep : GoodIn wsX6_begin (wsV RX6 66 RX0 yX0_keep wsX0_keep) := goodIn_app (goodIn_of _ (by decide +kernel)) ggX6_begin_X0_keep
set_option maxRecDepth 20000 in
theorem ggX6_begin_X4_startRing : GoodIn wsX6_begin wsX4_startRing := goodIn_r _ [55, 31, 56, 57, 58, 29, 59, 33, 34, 60, 48, 49, 40, 50, 46, 61, 62, 63, 64, 36, 51, 43, 44, 45, 65, 6, 66, 67, 68, 69, 70, 76, 77, 78, 79, 80, 81, 85] (by decide +kernel) (by decide +kernel)
set_option maxRecDepth 20000 in
theorem gX6_begin_X4_startRing : GoodIn wsX6_begin (wsV RX6 54 RX4 yX4_startRing wsX4_startRing) := goodIn_app (goodIn_of _ (by decide +kernel)) ggX6_begin_X4_startRing
theorem dX6_begin_0 : decode cX6_begin 0 = .ok (.iload_n 1, 1) := by decide +kernel
theorem dX6_begin_1 : decode cX6_begin 1 = .ok (.iconst 3, 1) := by decide +kernel
theorem dX6_begin_2 : decode cX6_begin 2 = .ok (.if_icmp .lt 13, 3) := by decide +kernel
theorem dX6_begin_5 : decode cX6_begin 5 = .ok (.iload_n 1, 1) := by decide +kernel
theorem dX6_begin_6 : decode cX6_begin 6 = .ok (.bipush 12, 2) := by decide +kernel
theorem dX6_begin_8 : decode cX6_begin 8 = .ok (.if_icmp .gt 7, 3) := by decide +kernel
theorem dX6_begin_11 : decode cX6_begin 11 = .ok (.iconst 1, 1) := by decide +kernel
theorem dX6_begin_12 : decode cX6_begin 12 = .ok (.goto 4, 3) := by decide +kernel
theorem dX6_begin_15 : decode cX6_begin 15 = .ok (.iconst 0, 1) := by decide +kernel
theorem dX6_begin_16 : decode cX6_begin 16 = .ok (.invokestatic 58, 3) := by decide +kernel
theorem dX6_begin_19 : decode cX6_begin 19 = .ok (.aload_n 0, 1) := by decide +kernel
theorem dX6_begin_20 : decode cX6_begin 20 = .ok (.getfield 10, 3) := by decide +kernel
theorem dX6_begin_23 : decode cX6_begin 23 = .ok (.getfield 62, 3) := by decide +kernel
theorem dX6_begin_26 : decode cX6_begin 26 = .ok (.istore_n 2, 1) := by decide +kernel
theorem dX6_begin_27 : decode cX6_begin 27 = .ok (.aload_n 0, 1) := by decide +kernel
theorem dX6_begin_28 : decode cX6_begin 28 = .ok (.getfield 19, 3) := by decide +kernel
theorem dX6_begin_31 : decode cX6_begin 31 = .ok (.aload_n 0, 1) := by decide +kernel
theorem dX6_begin_32 : decode cX6_begin 32 = .ok (.getfield 10, 3) := by decide +kernel
theorem dX6_begin_35 : decode cX6_begin 35 = .ok (.invokevirtual 66, 3) := by decide +kernel
theorem dX6_begin_38 : decode cX6_begin 38 = .ok (.aload_n 0, 1) := by decide +kernel
theorem dX6_begin_39 : decode cX6_begin 39 = .ok (.getfield 10, 3) := by decide +kernel
theorem dX6_begin_42 : decode cX6_begin 42 = .ok (.iload_n 1, 1) := by decide +kernel
theorem dX6_begin_43 : decode cX6_begin 43 = .ok (.invokevirtual 54, 3) := by decide +kernel
theorem dX6_begin_46 : decode cX6_begin 46 = .ok (.iload_n 2, 1) := by decide +kernel
theorem dX6_begin_47 : decode cX6_begin 47 = .ok (.ireturn, 1) := by decide +kernel
set_option maxRecDepth 20000 in
theorem ggX6_addRound_X6_isGoal : GoodIn wsX6_addRound wsX6_isGoal := goodIn_r _ [7] (by decide +kernel) (by decide +kernel)
set_option maxRecDepth 20000 in
theorem gX6_addRound_X6_isGoal : GoodIn wsX6_addRound (va_wsS RX6 70 yX6_isGoal wsX6_isGoal) := goodIn_app (goodIn_of _ (by decide +kernel)) ggX6_addRound_X6_isGoal
set_option maxRecDepth 20000 in
theorem ggX6_addRound_X6_checkArgument : GoodIn wsX6_addRound wsX6_checkArgument := goodIn_ca (goodIn_r _ [10, 11, 12] (by decide +kernel) (by decide +kernel)) (goodIn_sub (fun _ h => List.mem_cons_of_mem _ (List.mem_append_left _ (List.mem_append_left _ (List.mem_append_right _ h)))) (by decide +kernel))
set_option maxRecDepth 20000 in
theorem gX6_addRound_X6_checkArgument : GoodIn wsX6_addRound (va_wsS RX6 58 yX6_checkArgument wsX6_checkArgument) := goodIn_app (goodIn_of _ (by decide +kernel)) ggX6_addRound_X6_checkArgument
set_option maxRecDepth 20000 in
theorem ggX6_addRound_X6_checkRoom : GoodIn wsX6_addRound wsX6_checkRoom := goodIn_ca (goodIn_r _ [16, 2, 17, 18, 19, 6, 20, 21, 22, 141, 142, 143, 144, 145, 146, 147, 148, 149, 150, 151] (by decide +kernel) (by decide +kernel)) (goodIn_sub (fun _ h => List.mem_cons_of_mem _ (List.mem_append_left _ (List.mem_append_right _ h))) (by decide +kernel))
set_option maxRecDepth 20000 in
theorem gX6_addRound_X6_checkRoom : GoodIn wsX6_addRound (wsV RX6 74 RX6 yX6_checkRoom wsX6_checkRoom) := goodIn_app (goodIn_of _ (by decide +kernel)) ggX6_addRound_X6_checkRoom
set_option maxRecDepth 20000 in
theorem ggX6_addRound_X4_lastTotal : GoodIn wsX6_addRound wsX4_lastTotal := goodIn_r _ [27, 28, 29, 30, 31, 32, 33, 34, 35, 146, 147, 148, 149, 150, 151, 152] (by decide +kernel) (by decide +kernel)
set_option maxRecDepth 20000 in
theorem gX6_addRound_X4_lastTotal : GoodIn wsX6_addRound (wsV RX6 77 RX4 yX4_lastTotal wsX4_lastTotal) := goodIn_app (goodIn_of _ (by decide +kernel)) ggX6_addRound_X4_lastTotal
set_option maxRecDepth 20000 in
theorem ggX6_addRound_X5_spread : GoodIn wsX6_addRound wsX5_spread := goodIn_r _ [40, 41, 42, 43, 44, 45, 46, 39, 47, 48, 49, 50, 51, 52, 53, 54, 55, 33, 56, 35, 153, 154, 155, 156, 152] (by decide +kernel) (by decide +kernel)
set_option maxRecDepth 20000 in
theorem gX6_addRound_X5_spread : GoodIn wsX6_addRound (wsV RX6 81 RX5 yX5_spread wsX5_spread) := goodIn_app (goodIn_of _ (by decide +kernel)) ggX6_addRound_X5_spread
set_option maxRecDepth 20000 in
theorem ggX6_addRound_X6_checkPossible : GoodIn wsX6_addRound wsX6_checkPossible := goodIn_ca (goodIn_r _ [59, 60, 61] (by decide +kernel) (by decide +kernel)) (goodIn_sub (fun _ h => List.mem_cons_of_mem _ (List.mem_append_right _ h)) (by decide +kernel))
set_option maxRecDepth 20000 in
theorem gX6_addRound_X6_checkPossible : GoodIn wsX6_addRound (va_wsS RX6 85 yX6_checkPossible wsX6_checkPossible) := goodIn_app (goodIn_of _ (by decide +kernel)) ggX6_addRound_X6_checkPossible
set_option maxRecDepth 20000 in
theorem ggX6_addRound_X0_keep : GoodIn wsX6_addRound wsX0_keep := goodIn_r _ [66, 67, 68, 69, 70, 71, 72, 73, 74, 75, 65, 76, 77, 78, 79, 80, 26, 81, 29, 82, 83, 28, 84, 85, 86, 87, 88, 33, 89, 90, 31, 32, 34, 35, 91, 54, 55, 56, 30, 157, 158, 159, 146, 147, 148, 149, 150, 151, 152] (by decide +kernel) (by decide +kernel)
set_option maxRecDepth 20000 in
theorem gX6_addRound_X0_keep : GoodIn wsX6_addRound (wsV RX6 66 RX0 yX0_keep wsX0_keep) := goodIn_app (goodIn_of _ (by decide +kernel)) ggX6_addRound_X0_keep
set_option maxRecDepth 20000 in
theorem ggX6_addRound_X6_addBest : GoodIn wsX6_addRound wsX6_addBest := goodIn_r _ [95, 96, 2, 17, 1, 97, 98, 99, 100, 101, 102, 103, 104, 105, 31, 32, 33, 34, 35, 106, 54, 55, 56, 107, 6, 108, 109, 110, 111, 112, 113, 114, 115, 116, 117, 118, 119, 120, 121, 122, 123, 124, 125, 126, 127, 128, 129, 26, 130, 83, 29, 28, 131, 132, 133, 134, 135, 136, 85, 30, 137, 138, 139, 140, 141, 142, 143, 144, 145, 146, 147, 148, 149, 150, 151, 160, 152, 153, 154, 155, 156] (by decide +kernel) (by decide +kernel)
set_option maxRecDepth 20000 in
theorem gX6_addRound_X6_addBest : GoodIn wsX6_addRound (wsV RX6 88 RX6 yX6_addBest wsX6_addBest) := goodIn_app (goodIn_of _ (by decide +kernel)) ggX6_addRound_X6_addBest
theorem dX6_addRound_0 : decode cX6_addRound 0 = .ok (.iload_n 1, 1) := by decide +kernel
theorem dX6_addRound_1 : decode cX6_addRound 1 = .ok (.invokestatic 70, 3) := by decide +kernel
theorem dX6_addRound_4 : decode cX6_addRound 4 = .ok (.invokestatic 58, 3) := by decide +kernel
theorem dX6_addRound_7 : decode cX6_addRound 7 = .ok (.aload_n 0, 1) := by decide +kernel
theorem dX6_addRound_8 : decode cX6_addRound 8 = .ok (.invokevirtual 74, 3) := by decide +kernel
theorem dX6_addRound_11 : decode cX6_addRound 11 = .ok (.aload_n 0, 1) := by decide +kernel
theorem dX6_addRound_12 : decode cX6_addRound 12 = .ok (.getfield 33, 3) := by decide +kernel
theorem dX6_addRound_15 : decode cX6_addRound 15 = .ok (.aload_n 0, 1) := by decide +kernel
theorem dX6_addRound_16 : decode cX6_addRound 16 = .ok (.getfield 10, 3) := by decide +kernel
theorem dX6_addRound_19 : decode cX6_addRound 19 = .ok (.invokevirtual 77, 3) := by decide +kernel
theorem dX6_addRound_22 : decode cX6_addRound 22 = .ok (.iload_n 1, 1) := by decide +kernel
theorem dX6_addRound_23 : decode cX6_addRound 23 = .ok (.invokevirtual 81, 3) := by decide +kernel
theorem dX6_addRound_26 : decode cX6_addRound 26 = .ok (.invokestatic 85, 3) := by decide +kernel
theorem dX6_addRound_29 : decode cX6_addRound 29 = .ok (.aload_n 0, 1) := by decide +kernel
theorem dX6_addRound_30 : decode cX6_addRound 30 = .ok (.getfield 19, 3) := by decide +kernel
theorem dX6_addRound_33 : decode cX6_addRound 33 = .ok (.aload_n 0, 1) := by decide +kernel
theorem dX6_addRound_34 : decode cX6_addRound 34 = .ok (.getfield 10, 3) := by decide +kernel
theorem dX6_addRound_37 : decode cX6_addRound 37 = .ok (.invokevirtual 66, 3) := by decide +kernel
theorem dX6_addRound_40 : decode cX6_addRound 40 = .ok (.aload_n 0, 1) := by decide +kernel
theorem dX6_addRound_41 : decode cX6_addRound 41 = .ok (.invokevirtual 88, 3) := by decide +kernel
theorem dX6_addRound_44 : decode cX6_addRound 44 = .ok (.ireturn, 1) := by decide +kernel
set_option maxRecDepth 20000 in
theorem ggX6_addShifted_X6_isGoal : GoodIn wsX6_addShifted wsX6_isGoal := goodIn_r _ [7] (by decide +kernel) (by decide +kernel)
set_option maxRecDepth 20000 in
theorem gX6_addShifted_X6_isGoal : GoodIn wsX6_addShifted (va_wsS RX6 70 yX6_isGoal wsX6_isGoal) := goodIn_app (goodIn_of _ (by decide +kernel)) ggX6_addShifted_X6_isGoal
set_option maxRecDepth 20000 in
theorem ggX6_addShifted_X6_isShift : GoodIn wsX6_addShifted wsX6_isShift := goodIn_r _ [10] (by decide +kernel) (by decide +kernel)
set_option maxRecDepth 20000 in
theorem gX6_addShifted_X6_isShift : GoodIn wsX6_addShifted (va_wsS RX6 91 yX6_isShift wsX6_isShift) := goodIn_app (goodIn_of _ (by decide +kernel)) ggX6_addShifted_X6_isShift
set_option maxRecDepth 20000 in
theorem ggX6_addShifted_X6_checkArgument : GoodIn wsX6_addShifted wsX6_checkArgument := goodIn_ca (goodIn_r _ [13, 14, 15] (by decide +kernel) (by decide +kernel)) (goodIn_sub (fun _ h => List.mem_cons_of_mem _ (List.mem_append_left _ (List.mem_append_left _ (List.mem_append_right _ h)))) (by decide +kernel))
set_option maxRecDepth 20000 in
theorem gX6_addShifted_X6_checkArgument : GoodIn wsX6_addShifted (va_wsS RX6 58 yX6_checkArgument wsX6_checkArgument) := goodIn_app (goodIn_of _ (by decide +kernel)) ggX6_addShifted_X6_checkArgument
set_option maxRecDepth 20000 in
theorem ggX6_addShifted_X6_checkRoom : GoodIn wsX6_addShifted wsX6_checkRoom := goodIn_ca (goodIn_r _ [19, 2, 20, 21, 22, 6, 23, 24, 25, 138, 139, 140, 141, 142, 143, 144, 145, 146, 147, 148] (by decide +kernel) (by decide +kernel)) (goodIn_sub (fun _ h => List.mem_cons_of_mem _ (List.mem_append_left _ (List.mem_append_right _ h))) (by decide +kernel))
set_option maxRecDepth 20000 in
theorem gX6_addShifted_X6_checkRoom : GoodIn wsX6_addShifted (wsV RX6 74 RX6 yX6_checkRoom wsX6_checkRoom) := goodIn_app (goodIn_of _ (by decide +kernel)) ggX6_addShifted_X6_checkRoom
set_option maxRecDepth 20000 in
theorem ggX6_addShifted_X4_lastTotal : GoodIn wsX6_addShifted wsX4_lastTotal := goodIn_r _ [30, 31, 32, 33, 34, 35, 36, 37, 38, 143, 144, 145, 146, 147, 148, 149] (by decide +kernel) (by decide +kernel)
set_option maxRecDepth 20000 in
theorem gX6_addShifted_X4_lastTotal : GoodIn wsX6_addShifted (wsV RX6 77 RX4 yX4_lastTotal wsX4_lastTotal) := goodIn_app (goodIn_of _ (by decide +kernel)) ggX6_addShifted_X4_lastTotal
set_option maxRecDepth 20000 in
theorem ggX6_addShifted_X5_spread : GoodIn wsX6_addShifted wsX5_spread := goodIn_r _ [43, 44, 45, 46, 47, 48, 49, 42, 50, 51, 52, 53, 54, 55, 56, 57, 58, 36, 59, 38, 150, 151, 152, 153, 149] (by decide +kernel) (by decide +kernel)
set_option maxRecDepth 20000 in
theorem gX6_addShifted_X5_spread : GoodIn wsX6_addShifted (wsV RX6 81 RX5 yX5_spread wsX5_spread) := goodIn_app (goodIn_of _ (by decide +kernel)) ggX6_addShifted_X5_spread
set_option maxRecDepth 20000 in
theorem ggX6_addShifted_X6_checkPossible : GoodIn wsX6_addShifted wsX6_checkPossible := goodIn_ca (goodIn_r _ [62, 63, 64] (by decide +kernel) (by decide +kernel)) (goodIn_sub (fun _ h => List.mem_cons_of_mem _ (List.mem_append_right _ h)) (by decide +kernel))
set_option maxRecDepth 20000 in
theorem gX6_addShifted_X6_checkPossible : GoodIn wsX6_addShifted (va_wsS RX6 85 yX6_checkPossible wsX6_checkPossible) := goodIn_app (goodIn_of _ (by decide +kernel)) ggX6_addShifted_X6_checkPossible
set_option maxRecDepth 20000 in
theorem ggX6_addShifted_X0_keep : GoodIn wsX6_addShifted wsX0_keep := goodIn_r _ [69, 70, 71, 72, 73, 74, 75, 76, 77, 78, 68, 79, 80, 81, 82, 83, 29, 84, 32, 85, 86, 31, 87, 88, 89, 90, 91, 36, 92, 93, 34, 35, 37, 38, 94, 57, 58, 59, 33, 154, 155, 156, 143, 144, 145, 146, 147, 148, 149] (by decide +kernel) (by decide +kernel)
set_option maxRecDepth 20000 in
theorem gX6_addShifted_X0_keep : GoodIn wsX6_addShifted (wsV RX6 66 RX0 yX0_keep wsX0_keep) := goodIn_app (goodIn_of _ (by decide +kernel)) ggX6_addShifted_X0_keep
set_option maxRecDepth 20000 in
theorem ggX6_addShifted_X6_addPlanned : GoodIn wsX6_addShifted wsX6_addPlanned := goodIn_r _ [98, 99, 2, 20, 1, 100, 101, 102, 103, 104, 105, 106, 107, 108, 109, 110, 34, 35, 36, 37, 38, 111, 57, 58, 59, 112, 6, 113, 114, 115, 116, 117, 118, 119, 120, 121, 122, 123, 124, 125, 126, 29, 127, 86, 32, 31, 128, 129, 130, 131, 132, 133, 88, 33, 134, 135, 136, 137, 138, 139, 140, 141, 142, 143, 144, 145, 146, 147, 148, 150, 151, 152, 153, 157, 149] (by decide +kernel) (by decide +kernel)
set_option maxRecDepth 20000 in
theorem gX6_addShifted_X6_addPlanned : GoodIn wsX6_addShifted (wsV RX6 94 RX6 yX6_addPlanned wsX6_addPlanned) := goodIn_app (goodIn_of _ (by decide +kernel)) ggX6_addShifted_X6_addPlanned
theorem dX6_addShifted_0 : decode cX6_addShifted 0 = .ok (.iload_n 1, 1) := by decide +kernel
theorem dX6_addShifted_1 : decode cX6_addShifted 1 = .ok (.invokestatic 70, 3) := by decide +kernel
theorem dX6_addShifted_4 : decode cX6_addShifted 4 = .ok (.ifCond .eq 14, 3) := by decide +kernel
theorem dX6_addShifted_7 : decode cX6_addShifted 7 = .ok (.iload_n 2, 1) := by decide +kernel
theorem dX6_addShifted_8 : decode cX6_addShifted 8 = .ok (.invokestatic 91, 3) := by decide +kernel
theorem dX6_addShifted_11 : decode cX6_addShifted 11 = .ok (.ifCond .eq 7, 3) := by decide +kernel
theorem dX6_addShifted_14 : decode cX6_addShifted 14 = .ok (.iconst 1, 1) := by decide +kernel
theorem dX6_addShifted_15 : decode cX6_addShifted 15 = .ok (.goto 4, 3) := by decide +kernel
theorem dX6_addShifted_18 : decode cX6_addShifted 18 = .ok (.iconst 0, 1) := by decide +kernel
theorem dX6_addShifted_19 : decode cX6_addShifted 19 = .ok (.invokestatic 58, 3) := by decide +kernel
theorem dX6_addShifted_22 : decode cX6_addShifted 22 = .ok (.aload_n 0, 1) := by decide +kernel
theorem dX6_addShifted_23 : decode cX6_addShifted 23 = .ok (.invokevirtual 74, 3) := by decide +kernel
theorem dX6_addShifted_26 : decode cX6_addShifted 26 = .ok (.aload_n 0, 1) := by decide +kernel
theorem dX6_addShifted_27 : decode cX6_addShifted 27 = .ok (.getfield 33, 3) := by decide +kernel
theorem dX6_addShifted_30 : decode cX6_addShifted 30 = .ok (.aload_n 0, 1) := by decide +kernel
theorem dX6_addShifted_31 : decode cX6_addShifted 31 = .ok (.getfield 10, 3) := by decide +kernel
theorem dX6_addShifted_34 : decode cX6_addShifted 34 = .ok (.invokevirtual 77, 3) := by decide +kernel
theorem dX6_addShifted_37 : decode cX6_addShifted 37 = .ok (.iload_n 1, 1) := by decide +kernel
theorem dX6_addShifted_38 : decode cX6_addShifted 38 = .ok (.invokevirtual 81, 3) := by decide +kernel
theorem dX6_addShifted_41 : decode cX6_addShifted 41 = .ok (.invokestatic 85, 3) := by decide +kernel
theorem dX6_addShifted_44 : decode cX6_addShifted 44 = .ok (.aload_n 0, 1) := by decide +kernel
theorem dX6_addShifted_45 : decode cX6_addShifted 45 = .ok (.getfield 19, 3) := by decide +kernel
theorem dX6_addShifted_48 : decode cX6_addShifted 48 = .ok (.aload_n 0, 1) := by decide +kernel
theorem dX6_addShifted_49 : decode cX6_addShifted 49 = .ok (.getfield 10, 3) := by decide +kernel
theorem dX6_addShifted_52 : decode cX6_addShifted 52 = .ok (.invokevirtual 66, 3) := by decide +kernel
theorem dX6_addShifted_55 : decode cX6_addShifted 55 = .ok (.aload_n 0, 1) := by decide +kernel
theorem dX6_addShifted_56 : decode cX6_addShifted 56 = .ok (.iload_n 2, 1) := by decide +kernel
theorem dX6_addShifted_57 : decode cX6_addShifted 57 = .ok (.invokevirtual 94, 3) := by decide +kernel
theorem dX6_addShifted_60 : decode cX6_addShifted 60 = .ok (.ireturn, 1) := by decide +kernel
set_option maxRecDepth 20000 in
theorem ggX6_addMirrored_X6_isGoal : GoodIn wsX6_addMirrored wsX6_isGoal := goodIn_r _ [7] (by decide +kernel) (by decide +kernel)
set_option maxRecDepth 20000 in
theorem gX6_addMirrored_X6_isGoal : GoodIn wsX6_addMirrored (va_wsS RX6 70 yX6_isGoal wsX6_isGoal) := goodIn_app (goodIn_of _ (by decide +kernel)) ggX6_addMirrored_X6_isGoal
set_option maxRecDepth 20000 in
theorem ggX6_addMirrored_X6_checkArgument : GoodIn wsX6_addMirrored wsX6_checkArgument := goodIn_ca (goodIn_r _ [10, 11, 12] (by decide +kernel) (by decide +kernel)) (goodIn_sub (fun _ h => List.mem_cons_of_mem _ (List.mem_append_left _ (List.mem_append_left _ (List.mem_append_right _ h)))) (by decide +kernel))
set_option maxRecDepth 20000 in
theorem gX6_addMirrored_X6_checkArgument : GoodIn wsX6_addMirrored (va_wsS RX6 58 yX6_checkArgument wsX6_checkArgument) := goodIn_app (goodIn_of _ (by decide +kernel)) ggX6_addMirrored_X6_checkArgument
set_option maxRecDepth 20000 in
theorem ggX6_addMirrored_X6_checkRoom : GoodIn wsX6_addMirrored wsX6_checkRoom := goodIn_ca (goodIn_r _ [16, 2, 17, 18, 19, 6, 20, 21, 22, 135, 136, 137, 138, 139, 140, 141, 142, 143, 144, 145] (by decide +kernel) (by decide +kernel)) (goodIn_sub (fun _ h => List.mem_cons_of_mem _ (List.mem_append_left _ (List.mem_append_right _ h))) (by decide +kernel))
set_option maxRecDepth 20000 in
theorem gX6_addMirrored_X6_checkRoom : GoodIn wsX6_addMirrored (wsV RX6 74 RX6 yX6_checkRoom wsX6_checkRoom) := goodIn_app (goodIn_of _ (by decide +kernel)) ggX6_addMirrored_X6_checkRoom
set_option maxRecDepth 20000 in
theorem ggX6_addMirrored_X4_lastTotal : GoodIn wsX6_addMirrored wsX4_lastTotal := goodIn_r _ [27, 28, 29, 30, 31, 32, 33, 34, 35, 140, 141, 142, 143, 144, 145, 146] (by decide +kernel) (by decide +kernel)
set_option maxRecDepth 20000 in
theorem gX6_addMirrored_X4_lastTotal : GoodIn wsX6_addMirrored (wsV RX6 77 RX4 yX4_lastTotal wsX4_lastTotal) := goodIn_app (goodIn_of _ (by decide +kernel)) ggX6_addMirrored_X4_lastTotal
set_option maxRecDepth 20000 in
theorem ggX6_addMirrored_X5_mirror : GoodIn wsX6_addMirrored wsX5_mirror := goodIn_r _ [40, 41, 42, 43, 44, 45, 46, 47, 39, 48, 49, 50, 51, 52, 53, 54, 55, 33, 56, 35, 147, 148, 149, 150, 146] (by decide +kernel) (by decide +kernel)
set_option maxRecDepth 20000 in
theorem gX6_addMirrored_X5_mirror : GoodIn wsX6_addMirrored (wsV RX6 98 RX5 yX5_mirror wsX5_mirror) := goodIn_app (goodIn_of _ (by decide +kernel)) ggX6_addMirrored_X5_mirror
set_option maxRecDepth 20000 in
theorem ggX6_addMirrored_X6_checkPossible : GoodIn wsX6_addMirrored wsX6_checkPossible := goodIn_ca (goodIn_r _ [59, 60, 61] (by decide +kernel) (by decide +kernel)) (goodIn_sub (fun _ h => List.mem_cons_of_mem _ (List.mem_append_right _ h)) (by decide +kernel))
set_option maxRecDepth 20000 in
theorem gX6_addMirrored_X6_checkPossible : GoodIn wsX6_addMirrored (va_wsS RX6 85 yX6_checkPossible wsX6_checkPossible) := goodIn_app (goodIn_of _ (by decide +kernel)) ggX6_addMirrored_X6_checkPossible
set_option maxRecDepth 20000 in
theorem ggX6_addMirrored_X0_keep : GoodIn wsX6_addMirrored wsX0_keep := goodIn_r _ [66, 67, 68, 69, 70, 71, 72, 73, 74, 75, 65, 76, 77, 78, 79, 80, 26, 81, 29, 82, 83, 28, 84, 85, 86, 87, 88, 33, 89, 90, 31, 32, 34, 35, 91, 54, 55, 56, 30, 151, 152, 153, 140, 141, 142, 143, 144, 145, 146] (by decide +kernel) (by decide +kernel)
set_option maxRecDepth 20000 in
theorem gX6_addMirrored_X0_keep : GoodIn wsX6_addMirrored (wsV RX6 66 RX0 yX0_keep wsX0_keep) := goodIn_app (goodIn_of _ (by decide +kernel)) ggX6_addMirrored_X0_keep
set_option maxRecDepth 20000 in
theorem ggX6_addMirrored_X6_addPlanned : GoodIn wsX6_addMirrored wsX6_addPlanned := goodIn_r _ [95, 96, 2, 17, 1, 97, 98, 99, 100, 101, 102, 103, 104, 105, 106, 107, 31, 32, 33, 34, 35, 108, 54, 55, 56, 109, 6, 110, 111, 112, 113, 114, 115, 116, 117, 118, 119, 120, 121, 122, 123, 26, 124, 83, 29, 28, 125, 126, 127, 128, 129, 130, 85, 30, 131, 132, 133, 134, 135, 136, 137, 138, 139, 140, 141, 142, 143, 144, 145, 147, 148, 149, 150, 154, 146] (by decide +kernel) (by decide +kernel)
set_option maxRecDepth 20000 in
theorem gX6_addMirrored_X6_addPlanned : GoodIn wsX6_addMirrored (wsV RX6 94 RX6 yX6_addPlanned wsX6_addPlanned) := goodIn_app (goodIn_of _ (by decide +kernel)) ggX6_addMirrored_X6_addPlanned
theorem dX6_addMirrored_0 : decode cX6_addMirrored 0 = .ok (.iload_n 1, 1) := by decide +kernel
theorem dX6_addMirrored_1 : decode cX6_addMirrored 1 = .ok (.invokestatic 70, 3) := by decide +kernel
theorem dX6_addMirrored_4 : decode cX6_addMirrored 4 = .ok (.invokestatic 58, 3) := by decide +kernel
theorem dX6_addMirrored_7 : decode cX6_addMirrored 7 = .ok (.aload_n 0, 1) := by decide +kernel
theorem dX6_addMirrored_8 : decode cX6_addMirrored 8 = .ok (.invokevirtual 74, 3) := by decide +kernel
theorem dX6_addMirrored_11 : decode cX6_addMirrored 11 = .ok (.aload_n 0, 1) := by decide +kernel
theorem dX6_addMirrored_12 : decode cX6_addMirrored 12 = .ok (.getfield 33, 3) := by decide +kernel
theorem dX6_addMirrored_15 : decode cX6_addMirrored 15 = .ok (.aload_n 0, 1) := by decide +kernel
theorem dX6_addMirrored_16 : decode cX6_addMirrored 16 = .ok (.getfield 10, 3) := by decide +kernel
theorem dX6_addMirrored_19 : decode cX6_addMirrored 19 = .ok (.invokevirtual 77, 3) := by decide +kernel
theorem dX6_addMirrored_22 : decode cX6_addMirrored 22 = .ok (.iload_n 1, 1) := by decide +kernel
theorem dX6_addMirrored_23 : decode cX6_addMirrored 23 = .ok (.invokevirtual 98, 3) := by decide +kernel
theorem dX6_addMirrored_26 : decode cX6_addMirrored 26 = .ok (.invokestatic 85, 3) := by decide +kernel
theorem dX6_addMirrored_29 : decode cX6_addMirrored 29 = .ok (.aload_n 0, 1) := by decide +kernel
theorem dX6_addMirrored_30 : decode cX6_addMirrored 30 = .ok (.getfield 19, 3) := by decide +kernel
theorem dX6_addMirrored_33 : decode cX6_addMirrored 33 = .ok (.aload_n 0, 1) := by decide +kernel
theorem dX6_addMirrored_34 : decode cX6_addMirrored 34 = .ok (.getfield 10, 3) := by decide +kernel
theorem dX6_addMirrored_37 : decode cX6_addMirrored 37 = .ok (.invokevirtual 66, 3) := by decide +kernel
theorem dX6_addMirrored_40 : decode cX6_addMirrored 40 = .ok (.aload_n 0, 1) := by decide +kernel
theorem dX6_addMirrored_41 : decode cX6_addMirrored 41 = .ok (.iconst 0, 1) := by decide +kernel
theorem dX6_addMirrored_42 : decode cX6_addMirrored 42 = .ok (.invokevirtual 94, 3) := by decide +kernel
theorem dX6_addMirrored_45 : decode cX6_addMirrored 45 = .ok (.ireturn, 1) := by decide +kernel
set_option maxRecDepth 20000 in
theorem ggX6_addShape_X6_isShape : GoodIn wsX6_addShape wsX6_isShape := goodIn_r _ [8] (by decide +kernel) (by decide +kernel)
set_option maxRecDepth 20000 in
theorem gX6_addShape_X6_isShape : GoodIn wsX6_addShape (va_wsS RX6 101 yX6_isShape wsX6_isShape) := goodIn_app (goodIn_of _ (by decide +kernel)) ggX6_addShape_X6_isShape
set_option maxRecDepth 20000 in
theorem ggX6_addShape_X6_isSize : GoodIn wsX6_addShape wsX6_isSize := goodIn_r _ [11] (by decide +kernel) (by decide +kernel)
set_option maxRecDepth 20000 in
theorem gX6_addShape_X6_isSize : GoodIn wsX6_addShape (va_wsS RX6 104 yX6_isSize wsX6_isSize) := goodIn_app (goodIn_of _ (by decide +kernel)) ggX6_addShape_X6_isSize
set_option maxRecDepth 20000 in
theorem ggX6_addShape_X6_checkArgument : GoodIn wsX6_addShape wsX6_checkArgument := goodIn_ca (goodIn_r _ [14, 15, 16] (by decide +kernel) (by decide +kernel)) (goodIn_sub (fun _ h => List.mem_cons_of_mem _ (List.mem_append_right _ h)) (by decide +kernel))
set_option maxRecDepth 20000 in
theorem gX6_addShape_X6_checkArgument : GoodIn wsX6_addShape (va_wsS RX6 58 yX6_checkArgument wsX6_checkArgument) := goodIn_app (goodIn_of _ (by decide +kernel)) ggX6_addShape_X6_checkArgument
set_option maxRecDepth 20000 in
theorem ggX6_addShape_X0_keep : GoodIn wsX6_addShape wsX0_keep := goodIn_r _ [21, 22, 23, 24, 25, 26, 27, 28, 29, 30, 20, 31, 32, 33, 34, 35, 36, 37, 38, 39, 40, 41, 42, 43, 44, 45, 46, 47, 48, 49, 50, 51, 52, 53, 54, 55, 56, 57, 58, 156, 157, 158, 150, 151, 152, 153, 154, 155, 159] (by decide +kernel) (by decide +kernel)
set_option maxRecDepth 20000 in
theorem gX6_addShape_X0_keep : GoodIn wsX6_addShape (wsV RX6 66 RX0 yX0_keep wsX0_keep) := goodIn_app (goodIn_of _ (by decide +kernel)) ggX6_addShape_X0_keep
set_option maxRecDepth 20000 in
theorem ggX6_addShape_X6_shapeGoal : GoodIn wsX6_addShape wsX6_shapeGoal := goodIn_r _ [62, 2, 63, 64, 25, 26, 27, 65, 66, 67, 68, 50, 51, 47, 52, 53, 69, 70, 7, 71, 72, 73, 74, 145, 146, 147, 148, 149, 150, 151, 152, 153, 154, 155, 159] (by decide +kernel) (by decide +kernel)
set_option maxRecDepth 20000 in
theorem gX6_addShape_X6_shapeGoal : GoodIn wsX6_addShape (wsV RX6 107 RX6 yX6_shapeGoal wsX6_shapeGoal) := goodIn_app (goodIn_of _ (by decide +kernel)) ggX6_addShape_X6_shapeGoal
set_option maxRecDepth 20000 in
theorem ggX6_addShape_X4_lastTotal : GoodIn wsX6_addShape wsX4_lastTotal := goodIn_r _ [78, 41, 38, 58, 50, 51, 47, 52, 53, 150, 151, 152, 153, 154, 155, 159] (by decide +kernel) (by decide +kernel)
set_option maxRecDepth 20000 in
theorem gX6_addShape_X4_lastTotal : GoodIn wsX6_addShape (wsV RX6 77 RX4 yX4_lastTotal wsX4_lastTotal) := goodIn_app (goodIn_of _ (by decide +kernel)) ggX6_addShape_X4_lastTotal
set_option maxRecDepth 20000 in
theorem ggX6_addShape_X5_spread : GoodIn wsX6_addShape wsX5_spread := goodIn_r _ [83, 84, 85, 86, 87, 88, 89, 82, 90, 91, 92, 93, 94, 95, 96, 55, 56, 47, 57, 53, 160, 161, 162, 163, 159] (by decide +kernel) (by decide +kernel)
set_option maxRecDepth 20000 in
theorem gX6_addShape_X5_spread : GoodIn wsX6_addShape (wsV RX6 81 RX5 yX5_spread wsX5_spread) := goodIn_app (goodIn_of _ (by decide +kernel)) ggX6_addShape_X5_spread
set_option maxRecDepth 20000 in
theorem ggX6_addShape_X6_addBest : GoodIn wsX6_addShape wsX6_addBest := goodIn_r _ [100, 101, 2, 3, 4, 102, 103, 104, 105, 106, 107, 108, 109, 110, 50, 51, 47, 52, 53, 111, 55, 56, 57, 112, 7, 113, 114, 115, 116, 117, 118, 119, 120, 121, 122, 123, 124, 125, 126, 127, 128, 129, 130, 131, 132, 133, 134, 36, 135, 40, 38, 41, 136, 68, 137, 138, 139, 140, 43, 58, 141, 142, 143, 144, 145, 146, 147, 148, 149, 150, 151, 152, 153, 154, 155, 164, 159, 160, 161, 162, 163] (by decide +kernel) (by decide +kernel)
set_option maxRecDepth 20000 in
theorem gX6_addShape_X6_addBest : GoodIn wsX6_addShape (wsV RX6 88 RX6 yX6_addBest wsX6_addBest) := goodIn_app (goodIn_of _ (by decide +kernel)) ggX6_addShape_X6_addBest
theorem dX6_addShape_0 : decode cX6_addShape 0 = .ok (.iload_n 1, 1) := by decide +kernel
theorem dX6_addShape_1 : decode cX6_addShape 1 = .ok (.invokestatic 101, 3) := by decide +kernel
theorem dX6_addShape_4 : decode cX6_addShape 4 = .ok (.ifCond .eq 14, 3) := by decide +kernel
theorem dX6_addShape_7 : decode cX6_addShape 7 = .ok (.iload_n 2, 1) := by decide +kernel
theorem dX6_addShape_8 : decode cX6_addShape 8 = .ok (.invokestatic 104, 3) := by decide +kernel
theorem dX6_addShape_11 : decode cX6_addShape 11 = .ok (.ifCond .eq 7, 3) := by decide +kernel
theorem dX6_addShape_14 : decode cX6_addShape 14 = .ok (.iconst 1, 1) := by decide +kernel
theorem dX6_addShape_15 : decode cX6_addShape 15 = .ok (.goto 4, 3) := by decide +kernel
theorem dX6_addShape_18 : decode cX6_addShape 18 = .ok (.iconst 0, 1) := by decide +kernel
theorem dX6_addShape_19 : decode cX6_addShape 19 = .ok (.invokestatic 58, 3) := by decide +kernel
theorem dX6_addShape_22 : decode cX6_addShape 22 = .ok (.iload_n 3, 1) := by decide +kernel
theorem dX6_addShape_23 : decode cX6_addShape 23 = .ok (.iconst 1, 1) := by decide +kernel
theorem dX6_addShape_24 : decode cX6_addShape 24 = .ok (.if_icmp .lt 13, 3) := by decide +kernel
theorem dX6_addShape_27 : decode cX6_addShape 27 = .ok (.iload_n 3, 1) := by decide +kernel
theorem dX6_addShape_28 : decode cX6_addShape 28 = .ok (.bipush 40, 2) := by decide +kernel
theorem dX6_addShape_30 : decode cX6_addShape 30 = .ok (.if_icmp .ge 7, 3) := by decide +kernel
theorem dX6_addShape_33 : decode cX6_addShape 33 = .ok (.iconst 1, 1) := by decide +kernel
theorem dX6_addShape_34 : decode cX6_addShape 34 = .ok (.goto 4, 3) := by decide +kernel
theorem dX6_addShape_37 : decode cX6_addShape 37 = .ok (.iconst 0, 1) := by decide +kernel
theorem dX6_addShape_38 : decode cX6_addShape 38 = .ok (.invokestatic 58, 3) := by decide +kernel
theorem dX6_addShape_41 : decode cX6_addShape 41 = .ok (.aload_n 0, 1) := by decide +kernel
theorem dX6_addShape_42 : decode cX6_addShape 42 = .ok (.getfield 19, 3) := by decide +kernel
theorem dX6_addShape_45 : decode cX6_addShape 45 = .ok (.aload_n 0, 1) := by decide +kernel
theorem dX6_addShape_46 : decode cX6_addShape 46 = .ok (.getfield 10, 3) := by decide +kernel
theorem dX6_addShape_49 : decode cX6_addShape 49 = .ok (.invokevirtual 66, 3) := by decide +kernel
theorem dX6_addShape_52 : decode cX6_addShape 52 = .ok (.iconst 0, 1) := by decide +kernel
theorem dX6_addShape_53 : decode cX6_addShape 53 = .ok (.istore 4, 2) := by decide +kernel
theorem dX6_addShape_55 : decode cX6_addShape 55 = .ok (.iload 4, 2) := by decide +kernel
theorem dX6_addShape_57 : decode cX6_addShape 57 = .ok (.iload_n 3, 1) := by decide +kernel
theorem dX6_addShape_58 : decode cX6_addShape 58 = .ok (.if_icmp .ge 63, 3) := by decide +kernel
theorem dX6_addShape_61 : decode cX6_addShape 61 = .ok (.aload_n 0, 1) := by decide +kernel
theorem dX6_addShape_62 : decode cX6_addShape 62 = .ok (.getfield 10, 3) := by decide +kernel
theorem dX6_addShape_65 : decode cX6_addShape 65 = .ok (.getfield 62, 3) := by decide +kernel
theorem dX6_addShape_68 : decode cX6_addShape 68 = .ok (.bipush 40, 2) := by decide +kernel
theorem dX6_addShape_70 : decode cX6_addShape 70 = .ok (.if_icmp .ge 51, 3) := by decide +kernel
theorem dX6_addShape_73 : decode cX6_addShape 73 = .ok (.aload_n 0, 1) := by decide +kernel
theorem dX6_addShape_74 : decode cX6_addShape 74 = .ok (.iload_n 1, 1) := by decide +kernel
theorem dX6_addShape_75 : decode cX6_addShape 75 = .ok (.iload_n 2, 1) := by decide +kernel
theorem dX6_addShape_76 : decode cX6_addShape 76 = .ok (.aload_n 0, 1) := by decide +kernel
theorem dX6_addShape_77 : decode cX6_addShape 77 = .ok (.getfield 10, 3) := by decide +kernel
theorem dX6_addShape_80 : decode cX6_addShape 80 = .ok (.getfield 62, 3) := by decide +kernel
theorem dX6_addShape_83 : decode cX6_addShape 83 = .ok (.invokevirtual 107, 3) := by decide +kernel
theorem dX6_addShape_86 : decode cX6_addShape 86 = .ok (.istore 5, 2) := by decide +kernel
theorem dX6_addShape_88 : decode cX6_addShape 88 = .ok (.aload_n 0, 1) := by decide +kernel
theorem dX6_addShape_89 : decode cX6_addShape 89 = .ok (.getfield 33, 3) := by decide +kernel
theorem dX6_addShape_92 : decode cX6_addShape 92 = .ok (.aload_n 0, 1) := by decide +kernel
theorem dX6_addShape_93 : decode cX6_addShape 93 = .ok (.getfield 10, 3) := by decide +kernel
theorem dX6_addShape_96 : decode cX6_addShape 96 = .ok (.invokevirtual 77, 3) := by decide +kernel
theorem dX6_addShape_99 : decode cX6_addShape 99 = .ok (.iload 5, 2) := by decide +kernel
theorem dX6_addShape_101 : decode cX6_addShape 101 = .ok (.invokevirtual 81, 3) := by decide +kernel
theorem dX6_addShape_104 : decode cX6_addShape 104 = .ok (.ifCond .ne 6, 3) := by decide +kernel
theorem dX6_addShape_107 : decode cX6_addShape 107 = .ok (.iload 4, 2) := by decide +kernel
theorem dX6_addShape_109 : decode cX6_addShape 109 = .ok (.ireturn, 1) := by decide +kernel
theorem dX6_addShape_110 : decode cX6_addShape 110 = .ok (.aload_n 0, 1) := by decide +kernel
theorem dX6_addShape_111 : decode cX6_addShape 111 = .ok (.invokevirtual 88, 3) := by decide +kernel
theorem dX6_addShape_114 : decode cX6_addShape 114 = .ok (.pop, 1) := by decide +kernel
theorem dX6_addShape_115 : decode cX6_addShape 115 = .ok (.iinc 4 1, 3) := by decide +kernel
theorem dX6_addShape_118 : decode cX6_addShape 118 = .ok (.goto (-63), 3) := by decide +kernel
theorem dX6_addShape_121 : decode cX6_addShape 121 = .ok (.iload 4, 2) := by decide +kernel
theorem dX6_addShape_123 : decode cX6_addShape 123 = .ok (.ireturn, 1) := by decide +kernel
set_option maxRecDepth 20000 in
theorem ggX6_rip_X6_checkArgument : GoodIn wsX6_rip wsX6_checkArgument := goodIn_ca (goodIn_r _ [7, 8, 9] (by decide +kernel) (by decide +kernel)) (goodIn_sub (fun _ h => List.mem_cons_of_mem _ (List.mem_append_left _ (List.mem_append_right _ h))) (by decide +kernel))
set_option maxRecDepth 20000 in
theorem gX6_rip_X6_checkArgument : GoodIn wsX6_rip (va_wsS RX6 58 yX6_checkArgument wsX6_checkArgument) := goodIn_app (goodIn_of _ (by decide +kernel)) ggX6_rip_X6_checkArgument
set_option maxRecDepth 20000 in
theorem ggX6_rip_X6_checkState : GoodIn wsX6_rip wsX6_checkState := goodIn_ca (goodIn_r _ [12, 13, 14] (by decide +kernel) (by decide +kernel)) (goodIn_sub (fun _ h => List.mem_cons_of_mem _ (List.mem_append_right _ h)) (by decide +kernel))
set_option maxRecDepth 20000 in
theorem gX6_rip_X6_checkState : GoodIn wsX6_rip (va_wsS RX6 111 yX6_checkState wsX6_checkState) := goodIn_app (goodIn_of _ (by decide +kernel)) ggX6_rip_X6_checkState
set_option maxRecDepth 20000 in
theorem ggX6_rip_X0_keep : GoodIn wsX6_rip wsX0_keep := goodIn_r _ [19, 20, 21, 22, 23, 24, 25, 26, 27, 28, 18, 29, 30, 31, 32, 33, 34, 35, 36, 37, 38, 39, 40, 41, 42, 43, 44, 45, 46, 47, 48, 49, 50, 51, 52, 53, 54, 55, 56, 72, 73, 74, 66, 67, 68, 69, 70, 71, 75] (by decide +kernel) (by decide +kernel)
set_option maxRecDepth 20000 in
theorem gX6_rip_X0_keep : GoodIn wsX6_rip (wsV RX6 66 RX0 yX0_keep wsX0_keep) := goodIn_app (goodIn_of _ (by decide +kernel)) ggX6_rip_X0_keep
set_option maxRecDepth 20000 in
theorem ggX6_rip_X4_lastTotal : GoodIn wsX6_rip wsX4_lastTotal := goodIn_r _ [60, 39, 36, 56, 48, 49, 45, 50, 51, 66, 67, 68, 69, 70, 71, 75] (by decide +kernel) (by decide +kernel)
set_option maxRecDepth 20000 in
theorem gX6_rip_X4_lastTotal : GoodIn wsX6_rip (wsV RX6 77 RX4 yX4_lastTotal wsX4_lastTotal) := goodIn_app (goodIn_of _ (by decide +kernel)) ggX6_rip_X4_lastTotal
theorem dX6_rip_0 : decode cX6_rip 0 = .ok (.iload_n 1, 1) := by decide +kernel
theorem dX6_rip_1 : decode cX6_rip 1 = .ok (.iconst 1, 1) := by decide +kernel
theorem dX6_rip_2 : decode cX6_rip 2 = .ok (.if_icmp .lt 7, 3) := by decide +kernel
theorem dX6_rip_5 : decode cX6_rip 5 = .ok (.iconst 1, 1) := by decide +kernel
theorem dX6_rip_6 : decode cX6_rip 6 = .ok (.goto 4, 3) := by decide +kernel
theorem dX6_rip_9 : decode cX6_rip 9 = .ok (.iconst 0, 1) := by decide +kernel
theorem dX6_rip_10 : decode cX6_rip 10 = .ok (.invokestatic 58, 3) := by decide +kernel
theorem dX6_rip_13 : decode cX6_rip 13 = .ok (.iload_n 1, 1) := by decide +kernel
theorem dX6_rip_14 : decode cX6_rip 14 = .ok (.aload_n 0, 1) := by decide +kernel
theorem dX6_rip_15 : decode cX6_rip 15 = .ok (.getfield 10, 3) := by decide +kernel
theorem dX6_rip_18 : decode cX6_rip 18 = .ok (.getfield 62, 3) := by decide +kernel
theorem dX6_rip_21 : decode cX6_rip 21 = .ok (.if_icmp .ge 7, 3) := by decide +kernel
theorem dX6_rip_24 : decode cX6_rip 24 = .ok (.iconst 1, 1) := by decide +kernel
theorem dX6_rip_25 : decode cX6_rip 25 = .ok (.goto 4, 3) := by decide +kernel
theorem dX6_rip_28 : decode cX6_rip 28 = .ok (.iconst 0, 1) := by decide +kernel
theorem dX6_rip_29 : decode cX6_rip 29 = .ok (.invokestatic 111, 3) := by decide +kernel
theorem dX6_rip_32 : decode cX6_rip 32 = .ok (.aload_n 0, 1) := by decide +kernel
theorem dX6_rip_33 : decode cX6_rip 33 = .ok (.getfield 19, 3) := by decide +kernel
theorem dX6_rip_36 : decode cX6_rip 36 = .ok (.aload_n 0, 1) := by decide +kernel
theorem dX6_rip_37 : decode cX6_rip 37 = .ok (.getfield 10, 3) := by decide +kernel
theorem dX6_rip_40 : decode cX6_rip 40 = .ok (.invokevirtual 66, 3) := by decide +kernel
theorem dX6_rip_43 : decode cX6_rip 43 = .ok (.aload_n 0, 1) := by decide +kernel
theorem dX6_rip_44 : decode cX6_rip 44 = .ok (.getfield 10, 3) := by decide +kernel
theorem dX6_rip_47 : decode cX6_rip 47 = .ok (.dup, 1) := by decide +kernel
theorem dX6_rip_48 : decode cX6_rip 48 = .ok (.getfield 62, 3) := by decide +kernel
theorem dX6_rip_51 : decode cX6_rip 51 = .ok (.iload_n 1, 1) := by decide +kernel
theorem dX6_rip_52 : decode cX6_rip 52 = .ok (.isub, 1) := by decide +kernel
theorem dX6_rip_53 : decode cX6_rip 53 = .ok (.putfield 62, 3) := by decide +kernel
theorem dX6_rip_56 : decode cX6_rip 56 = .ok (.aload_n 0, 1) := by decide +kernel
theorem dX6_rip_57 : decode cX6_rip 57 = .ok (.getfield 10, 3) := by decide +kernel
theorem dX6_rip_60 : decode cX6_rip 60 = .ok (.invokevirtual 77, 3) := by decide +kernel
theorem dX6_rip_63 : decode cX6_rip 63 = .ok (.ireturn, 1) := by decide +kernel
set_option maxRecDepth 20000 in
theorem ggX6_setYarn_X6_checkArgument : GoodIn wsX6_setYarn wsX6_checkArgument := goodIn_ca (goodIn_r _ [7, 8, 9] (by decide +kernel) (by decide +kernel)) (goodIn_sub (fun _ h => List.mem_cons_of_mem _ (List.mem_append_right _ h)) (by decide +kernel))
set_option maxRecDepth 20000 in
theorem gX6_setYarn_X6_checkArgument : GoodIn wsX6_setYarn (va_wsS RX6 58 yX6_checkArgument wsX6_checkArgument) := goodIn_app (goodIn_of _ (by decide +kernel)) ggX6_setYarn_X6_checkArgument
set_option maxRecDepth 20000 in
theorem ggX6_setYarn_X0_keep : GoodIn wsX6_setYarn wsX0_keep := goodIn_r _ [14, 15, 16, 17, 18, 19, 20, 21, 22, 23, 13, 24, 25, 26, 27, 28, 29, 30, 31, 32, 33, 34, 35, 36, 37, 38, 39, 40, 41, 42, 43, 44, 45, 46, 47, 48, 49, 50, 51, 65, 66, 67, 59, 60, 61, 62, 63, 64, 68] (by decide +kernel) (by decide +kernel)
set_option maxRecDepth 20000 in
theorem gX6_setYarn_X0_keep : GoodIn wsX6_setYarn (wsV RX6 66 RX0 yX0_keep wsX0_keep) := goodIn_app (goodIn_of _ (by decide +kernel)) ggX6_setYarn_X0_keep
set_option maxRecDepth 20000 in
theorem ggX6_setYarn_X2_at : GoodIn wsX6_setYarn wsX2_at := goodIn_r _ [45, 46, 68] (by decide +kernel) (by decide +kernel)
set_option maxRecDepth 20000 in
theorem gX6_setYarn_X2_at : GoodIn wsX6_setYarn (wsV RX6 114 RX2 yX2_at wsX2_at) := goodIn_app (goodIn_of _ (by decide +kernel)) ggX6_setYarn_X2_at
set_option maxRecDepth 20000 in
theorem ggX6_setYarn_X2_put : GoodIn wsX6_setYarn wsX2_put := goodIn_r _ [50, 46, 68] (by decide +kernel) (by decide +kernel)
set_option maxRecDepth 20000 in
theorem gX6_setYarn_X2_put : GoodIn wsX6_setYarn (wsV RX6 48 RX2 yX2_put wsX2_put) := goodIn_app (goodIn_of _ (by decide +kernel)) ggX6_setYarn_X2_put
theorem dX6_setYarn_0 : decode cX6_setYarn 0 = .ok (.iload_n 1, 1) := by decide +kernel
theorem dX6_setYarn_1 : decode cX6_setYarn 1 = .ok (.ifCond .lt 23, 3) := by decide +kernel
theorem dX6_setYarn_4 : decode cX6_setYarn 4 = .ok (.iload_n 1, 1) := by decide +kernel
theorem dX6_setYarn_5 : decode cX6_setYarn 5 = .ok (.iconst 3, 1) := by decide +kernel
theorem dX6_setYarn_6 : decode cX6_setYarn 6 = .ok (.if_icmp .ge 18, 3) := by decide +kernel
theorem dX6_setYarn_9 : decode cX6_setYarn 9 = .ok (.iload_n 2, 1) := by decide +kernel
theorem dX6_setYarn_10 : decode cX6_setYarn 10 = .ok (.iconst 1, 1) := by decide +kernel
theorem dX6_setYarn_11 : decode cX6_setYarn 11 = .ok (.if_icmp .lt 13, 3) := by decide +kernel
theorem dX6_setYarn_14 : decode cX6_setYarn 14 = .ok (.iload_n 2, 1) := by decide +kernel
theorem dX6_setYarn_15 : decode cX6_setYarn 15 = .ok (.bipush 60, 2) := by decide +kernel
theorem dX6_setYarn_17 : decode cX6_setYarn 17 = .ok (.if_icmp .gt 7, 3) := by decide +kernel
theorem dX6_setYarn_20 : decode cX6_setYarn 20 = .ok (.iconst 1, 1) := by decide +kernel
theorem dX6_setYarn_21 : decode cX6_setYarn 21 = .ok (.goto 4, 3) := by decide +kernel
theorem dX6_setYarn_24 : decode cX6_setYarn 24 = .ok (.iconst 0, 1) := by decide +kernel
theorem dX6_setYarn_25 : decode cX6_setYarn 25 = .ok (.invokestatic 58, 3) := by decide +kernel
theorem dX6_setYarn_28 : decode cX6_setYarn 28 = .ok (.aload_n 0, 1) := by decide +kernel
theorem dX6_setYarn_29 : decode cX6_setYarn 29 = .ok (.getfield 19, 3) := by decide +kernel
theorem dX6_setYarn_32 : decode cX6_setYarn 32 = .ok (.aload_n 0, 1) := by decide +kernel
theorem dX6_setYarn_33 : decode cX6_setYarn 33 = .ok (.getfield 10, 3) := by decide +kernel
theorem dX6_setYarn_36 : decode cX6_setYarn 36 = .ok (.invokevirtual 66, 3) := by decide +kernel
theorem dX6_setYarn_39 : decode cX6_setYarn 39 = .ok (.aload_n 0, 1) := by decide +kernel
theorem dX6_setYarn_40 : decode cX6_setYarn 40 = .ok (.getfield 10, 3) := by decide +kernel
theorem dX6_setYarn_43 : decode cX6_setYarn 43 = .ok (.getfield 44, 3) := by decide +kernel
theorem dX6_setYarn_46 : decode cX6_setYarn 46 = .ok (.iload_n 1, 1) := by decide +kernel
theorem dX6_setYarn_47 : decode cX6_setYarn 47 = .ok (.invokevirtual 114, 3) := by decide +kernel
theorem dX6_setYarn_50 : decode cX6_setYarn 50 = .ok (.istore_n 3, 1) := by decide +kernel
theorem dX6_setYarn_51 : decode cX6_setYarn 51 = .ok (.aload_n 0, 1) := by decide +kernel
theorem dX6_setYarn_52 : decode cX6_setYarn 52 = .ok (.getfield 10, 3) := by decide +kernel
theorem dX6_setYarn_55 : decode cX6_setYarn 55 = .ok (.getfield 44, 3) := by decide +kernel
theorem dX6_setYarn_58 : decode cX6_setYarn 58 = .ok (.iload_n 1, 1) := by decide +kernel
theorem dX6_setYarn_59 : decode cX6_setYarn 59 = .ok (.iload_n 2, 1) := by decide +kernel
theorem dX6_setYarn_60 : decode cX6_setYarn 60 = .ok (.invokevirtual 48, 3) := by decide +kernel
theorem dX6_setYarn_63 : decode cX6_setYarn 63 = .ok (.iload_n 3, 1) := by decide +kernel
theorem dX6_setYarn_64 : decode cX6_setYarn 64 = .ok (.ireturn, 1) := by decide +kernel
set_option maxRecDepth 20000 in
theorem ggX6_setSpiral_X0_keep : GoodIn wsX6_setSpiral wsX0_keep := goodIn_r _ [8, 9, 10, 11, 12, 13, 14, 15, 16, 17, 7, 18, 19, 20, 21, 22, 23, 24, 25, 26, 27, 28, 29, 30, 31, 32, 33, 34, 35, 36, 37, 38, 39, 40, 41, 42, 43, 44, 45, 57, 58, 59, 51, 52, 53, 54, 55, 56, 60] (by decide +kernel) (by decide +kernel)
set_option maxRecDepth 20000 in
theorem gX6_setSpiral_X0_keep : GoodIn wsX6_setSpiral (wsV RX6 66 RX0 yX0_keep wsX0_keep) := goodIn_app (goodIn_of _ (by decide +kernel)) ggX6_setSpiral_X0_keep
theorem dX6_setSpiral_0 : decode cX6_setSpiral 0 = .ok (.aload_n 0, 1) := by decide +kernel
theorem dX6_setSpiral_1 : decode cX6_setSpiral 1 = .ok (.getfield 19, 3) := by decide +kernel
theorem dX6_setSpiral_4 : decode cX6_setSpiral 4 = .ok (.aload_n 0, 1) := by decide +kernel
theorem dX6_setSpiral_5 : decode cX6_setSpiral 5 = .ok (.getfield 10, 3) := by decide +kernel
theorem dX6_setSpiral_8 : decode cX6_setSpiral 8 = .ok (.invokevirtual 66, 3) := by decide +kernel
theorem dX6_setSpiral_11 : decode cX6_setSpiral 11 = .ok (.aload_n 0, 1) := by decide +kernel
theorem dX6_setSpiral_12 : decode cX6_setSpiral 12 = .ok (.getfield 10, 3) := by decide +kernel
theorem dX6_setSpiral_15 : decode cX6_setSpiral 15 = .ok (.getfield 117, 3) := by decide +kernel
theorem dX6_setSpiral_18 : decode cX6_setSpiral 18 = .ok (.istore_n 2, 1) := by decide +kernel
theorem dX6_setSpiral_19 : decode cX6_setSpiral 19 = .ok (.aload_n 0, 1) := by decide +kernel
theorem dX6_setSpiral_20 : decode cX6_setSpiral 20 = .ok (.getfield 10, 3) := by decide +kernel
theorem dX6_setSpiral_23 : decode cX6_setSpiral 23 = .ok (.iload_n 1, 1) := by decide +kernel
theorem dX6_setSpiral_24 : decode cX6_setSpiral 24 = .ok (.putfield 117, 3) := by decide +kernel
theorem dX6_setSpiral_27 : decode cX6_setSpiral 27 = .ok (.iload_n 2, 1) := by decide +kernel
theorem dX6_setSpiral_28 : decode cX6_setSpiral 28 = .ok (.ireturn, 1) := by decide +kernel
set_option maxRecDepth 20000 in
theorem ggX6_round_X6_checkIndex : GoodIn wsX6_round wsX6_checkIndex := goodIn_ca (goodIn_r _ [6, 7, 8] (by decide +kernel) (by decide +kernel)) (goodIn_sub (fun _ h => List.mem_cons_of_mem _ (List.mem_append_left _ (List.mem_append_right _ h))) (by decide +kernel))
set_option maxRecDepth 20000 in
theorem gX6_round_X6_checkIndex : GoodIn wsX6_round (va_wsS RX6 121 yX6_checkIndex wsX6_checkIndex) := goodIn_app (goodIn_of _ (by decide +kernel)) ggX6_round_X6_checkIndex
set_option maxRecDepth 20000 in
theorem ggX6_round_X6_checkArgument : GoodIn wsX6_round wsX6_checkArgument := goodIn_ca (goodIn_r _ [11, 12, 13] (by decide +kernel) (by decide +kernel)) (goodIn_sub (fun _ h => List.mem_cons_of_mem _ (List.mem_append_right _ h)) (by decide +kernel))
set_option maxRecDepth 20000 in
theorem gX6_round_X6_checkArgument : GoodIn wsX6_round (va_wsS RX6 58 yX6_checkArgument wsX6_checkArgument) := goodIn_app (goodIn_of _ (by decide +kernel)) ggX6_round_X6_checkArgument
set_option maxRecDepth 20000 in
theorem ggX6_round_X6_ofRound : GoodIn wsX6_round wsX6_ofRound := goodIn_r _ [17, 1, 18, 19, 20, 21, 22, 23, 24, 25, 26, 27, 28, 29, 30, 31, 32, 33, 34, 35, 36, 37, 38, 39, 40, 5, 41, 42, 43, 44, 45, 46, 47, 48, 49, 50, 51, 52, 53, 54, 55, 56, 57, 58, 59, 60, 61, 62, 63, 64, 65, 66, 67, 68, 69, 70, 71, 72, 73, 74, 75, 76, 77, 78, 79, 80, 81, 82, 83, 84, 85, 86, 87, 88, 89, 90, 91, 92, 93, 94, 95, 96, 97, 98, 99, 100] (by decide +kernel) (by decide +kernel)
set_option maxRecDepth 20000 in
theorem gX6_round_X6_ofRound : GoodIn wsX6_round (wsV RX6 124 RX6 yX6_ofRound wsX6_ofRound) := goodIn_app (goodIn_of _ (by decide +kernel)) ggX6_round_X6_ofRound
theorem dX6_round_0 : decode cX6_round 0 = .ok (.iload_n 1, 1) := by decide +kernel
theorem dX6_round_1 : decode cX6_round 1 = .ok (.aload_n 0, 1) := by decide +kernel
theorem dX6_round_2 : decode cX6_round 2 = .ok (.getfield 10, 3) := by decide +kernel
theorem dX6_round_5 : decode cX6_round 5 = .ok (.getfield 62, 3) := by decide +kernel
theorem dX6_round_8 : decode cX6_round 8 = .ok (.invokestatic 121, 3) := by decide +kernel
theorem dX6_round_11 : decode cX6_round 11 = .ok (.iload_n 2, 1) := by decide +kernel
theorem dX6_round_12 : decode cX6_round 12 = .ok (.ifCond .lt 13, 3) := by decide +kernel
theorem dX6_round_15 : decode cX6_round 15 = .ok (.iload_n 2, 1) := by decide +kernel
theorem dX6_round_16 : decode cX6_round 16 = .ok (.bipush 10, 2) := by decide +kernel
theorem dX6_round_18 : decode cX6_round 18 = .ok (.if_icmp .gt 7, 3) := by decide +kernel
theorem dX6_round_21 : decode cX6_round 21 = .ok (.iconst 1, 1) := by decide +kernel
theorem dX6_round_22 : decode cX6_round 22 = .ok (.goto 4, 3) := by decide +kernel
theorem dX6_round_25 : decode cX6_round 25 = .ok (.iconst 0, 1) := by decide +kernel
theorem dX6_round_26 : decode cX6_round 26 = .ok (.invokestatic 58, 3) := by decide +kernel
theorem dX6_round_29 : decode cX6_round 29 = .ok (.aload_n 0, 1) := by decide +kernel
theorem dX6_round_30 : decode cX6_round 30 = .ok (.iload_n 1, 1) := by decide +kernel
theorem dX6_round_31 : decode cX6_round 31 = .ok (.iload_n 2, 1) := by decide +kernel
theorem dX6_round_32 : decode cX6_round 32 = .ok (.invokevirtual 124, 3) := by decide +kernel
theorem dX6_round_35 : decode cX6_round 35 = .ok (.ireturn, 1) := by decide +kernel
set_option maxRecDepth 20000 in
theorem ggX6_work_X6_checkIndex : GoodIn wsX6_work wsX6_checkIndex := goodIn_ca (goodIn_r _ [7, 8, 9] (by decide +kernel) (by decide +kernel)) (goodIn_sub (fun _ h => List.mem_cons_of_mem _ (List.mem_append_right _ h)) (by decide +kernel))
set_option maxRecDepth 20000 in
theorem gX6_work_X6_checkIndex : GoodIn wsX6_work (va_wsS RX6 121 yX6_checkIndex wsX6_checkIndex) := goodIn_app (goodIn_of _ (by decide +kernel)) ggX6_work_X6_checkIndex
set_option maxRecDepth 20000 in
theorem ggX6_work_X2_at : GoodIn wsX6_work wsX2_at := goodIn_r _ [14, 15, 34] (by decide +kernel) (by decide +kernel)
set_option maxRecDepth 20000 in
theorem gX6_work_X2_at : GoodIn wsX6_work (wsV RX6 114 RX2 yX2_at wsX2_at) := goodIn_app (goodIn_of _ (by decide +kernel)) ggX6_work_X2_at
set_option maxRecDepth 20000 in
theorem ggX6_work_X4_kindOf : GoodIn wsX6_work wsX4_kindOf := goodIn_r _ [20, 21, 22, 11, 12, 13, 14, 15, 28, 29, 30, 31, 32, 33, 34] (by decide +kernel) (by decide +kernel)
set_option maxRecDepth 20000 in
theorem gX6_work_X4_kindOf : GoodIn wsX6_work (wsV RX6 131 RX4 yX4_kindOf wsX4_kindOf) := goodIn_app (goodIn_of _ (by decide +kernel)) ggX6_work_X4_kindOf
theorem dX6_work_0 : decode cX6_work 0 = .ok (.iload_n 1, 1) := by decide +kernel
theorem dX6_work_1 : decode cX6_work 1 = .ok (.aload_n 0, 1) := by decide +kernel
theorem dX6_work_2 : decode cX6_work 2 = .ok (.getfield 10, 3) := by decide +kernel
theorem dX6_work_5 : decode cX6_work 5 = .ok (.getfield 62, 3) := by decide +kernel
theorem dX6_work_8 : decode cX6_work 8 = .ok (.invokestatic 121, 3) := by decide +kernel
theorem dX6_work_11 : decode cX6_work 11 = .ok (.iload_n 2, 1) := by decide +kernel
theorem dX6_work_12 : decode cX6_work 12 = .ok (.aload_n 0, 1) := by decide +kernel
theorem dX6_work_13 : decode cX6_work 13 = .ok (.getfield 10, 3) := by decide +kernel
theorem dX6_work_16 : decode cX6_work 16 = .ok (.getfield 128, 3) := by decide +kernel
theorem dX6_work_19 : decode cX6_work 19 = .ok (.iload_n 1, 1) := by decide +kernel
theorem dX6_work_20 : decode cX6_work 20 = .ok (.invokevirtual 114, 3) := by decide +kernel
theorem dX6_work_23 : decode cX6_work 23 = .ok (.invokestatic 121, 3) := by decide +kernel
theorem dX6_work_26 : decode cX6_work 26 = .ok (.aload_n 0, 1) := by decide +kernel
theorem dX6_work_27 : decode cX6_work 27 = .ok (.getfield 10, 3) := by decide +kernel
theorem dX6_work_30 : decode cX6_work 30 = .ok (.iload_n 1, 1) := by decide +kernel
theorem dX6_work_31 : decode cX6_work 31 = .ok (.iload_n 2, 1) := by decide +kernel
theorem dX6_work_32 : decode cX6_work 32 = .ok (.invokevirtual 131, 3) := by decide +kernel
theorem dX6_work_35 : decode cX6_work 35 = .ok (.ireturn, 1) := by decide +kernel
set_option maxRecDepth 20000 in
theorem ggX6_value_X6_checkArgument : GoodIn wsX6_value wsX6_checkArgument := goodIn_ca (goodIn_r _ [7, 8, 9] (by decide +kernel) (by decide +kernel)) (goodIn_sub (fun _ h => List.mem_cons_of_mem _ (List.mem_append_right _ h)) (by decide +kernel))
set_option maxRecDepth 20000 in
theorem gX6_value_X6_checkArgument : GoodIn wsX6_value (va_wsS RX6 58 yX6_checkArgument wsX6_checkArgument) := goodIn_app (goodIn_of _ (by decide +kernel)) ggX6_value_X6_checkArgument
set_option maxRecDepth 20000 in
theorem ggX6_value_X4_lastTotal : GoodIn wsX6_value wsX4_lastTotal := goodIn_r _ [14, 15, 16, 17, 18, 19, 20, 21, 22, 103, 104, 105, 106, 107, 108, 109] (by decide +kernel) (by decide +kernel)
set_option maxRecDepth 20000 in
theorem gX6_value_X4_lastTotal : GoodIn wsX6_value (wsV RX6 77 RX4 yX4_lastTotal wsX4_lastTotal) := goodIn_app (goodIn_of _ (by decide +kernel)) ggX6_value_X4_lastTotal
set_option maxRecDepth 20000 in
theorem ggX6_value_X6_sumOverRounds : GoodIn wsX6_value wsX6_sumOverRounds := goodIn_r _ [26, 1, 2, 27, 28, 29, 6, 30, 31, 32, 33, 18, 19, 20, 21, 22, 34, 35, 36, 13, 37, 38, 17, 39, 40, 41, 42, 43, 44, 45, 46, 47, 48, 49, 50, 51, 52, 53, 54, 55, 56, 57, 58, 59, 60, 61, 62, 63, 64, 65, 66, 67, 68, 69, 70, 71, 72, 73, 74, 75, 76, 77, 78, 79, 80, 81, 82, 83, 84, 85, 86, 87, 88, 89, 90, 91, 92, 93, 98, 99, 100, 101, 102, 103, 104, 105, 106, 107, 108, 109, 110] (by decide +kernel) (by decide +kernel)
set_option maxRecDepth 20000 in
theorem gX6_value_X6_sumOverRounds : GoodIn wsX6_value (wsV RX6 149 RX6 yX6_sumOverRounds wsX6_sumOverRounds) := goodIn_app (goodIn_of _ (by decide +kernel)) ggX6_value_X6_sumOverRounds
set_option maxRecDepth 20000 in
theorem ggX6_value_X4_widest : GoodIn wsX6_value wsX4_widest := goodIn_r _ [97, 16, 15, 17, 18, 19, 20, 21, 22, 103, 104, 105, 106, 107, 108, 109] (by decide +kernel) (by decide +kernel)
set_option maxRecDepth 20000 in
theorem gX6_value_X4_widest : GoodIn wsX6_value (wsV RX6 152 RX4 yX4_widest wsX4_widest) := goodIn_app (goodIn_of _ (by decide +kernel)) ggX6_value_X4_widest
theorem dX6_value_0 : decode cX6_value 0 = .ok (.iload_n 1, 1) := by decide +kernel
theorem dX6_value_1 : decode cX6_value 1 = .ok (.ifCond .lt 13, 3) := by decide +kernel
theorem dX6_value_4 : decode cX6_value 4 = .ok (.iload_n 1, 1) := by decide +kernel
theorem dX6_value_5 : decode cX6_value 5 = .ok (.bipush 7, 2) := by decide +kernel
theorem dX6_value_7 : decode cX6_value 7 = .ok (.if_icmp .gt 7, 3) := by decide +kernel
theorem dX6_value_10 : decode cX6_value 10 = .ok (.iconst 1, 1) := by decide +kernel
theorem dX6_value_11 : decode cX6_value 11 = .ok (.goto 4, 3) := by decide +kernel
theorem dX6_value_14 : decode cX6_value 14 = .ok (.iconst 0, 1) := by decide +kernel
theorem dX6_value_15 : decode cX6_value 15 = .ok (.invokestatic 58, 3) := by decide +kernel
theorem dX6_value_18 : decode cX6_value 18 = .ok (.iload_n 1, 1) := by decide +kernel
theorem dX6_value_19 : decode cX6_value 19 = .ok (.tableswitch 91 0 6 #[41, 49, 57, 63, 70, 76, 83], 41) := by decide +kernel
theorem dX6_value_60 : decode cX6_value 60 = .ok (.aload_n 0, 1) := by decide +kernel
theorem dX6_value_61 : decode cX6_value 61 = .ok (.getfield 10, 3) := by decide +kernel
theorem dX6_value_64 : decode cX6_value 64 = .ok (.getfield 62, 3) := by decide +kernel
theorem dX6_value_67 : decode cX6_value 67 = .ok (.ireturn, 1) := by decide +kernel
theorem dX6_value_68 : decode cX6_value 68 = .ok (.aload_n 0, 1) := by decide +kernel
theorem dX6_value_69 : decode cX6_value 69 = .ok (.getfield 10, 3) := by decide +kernel
theorem dX6_value_72 : decode cX6_value 72 = .ok (.invokevirtual 77, 3) := by decide +kernel
theorem dX6_value_75 : decode cX6_value 75 = .ok (.ireturn, 1) := by decide +kernel
theorem dX6_value_76 : decode cX6_value 76 = .ok (.aload_n 0, 1) := by decide +kernel
theorem dX6_value_77 : decode cX6_value 77 = .ok (.iconst 0, 1) := by decide +kernel
theorem dX6_value_78 : decode cX6_value 78 = .ok (.invokevirtual 149, 3) := by decide +kernel
theorem dX6_value_81 : decode cX6_value 81 = .ok (.ireturn, 1) := by decide +kernel
theorem dX6_value_82 : decode cX6_value 82 = .ok (.aload_n 0, 1) := by decide +kernel
theorem dX6_value_83 : decode cX6_value 83 = .ok (.bipush 7, 2) := by decide +kernel
theorem dX6_value_85 : decode cX6_value 85 = .ok (.invokevirtual 149, 3) := by decide +kernel
theorem dX6_value_88 : decode cX6_value 88 = .ok (.ireturn, 1) := by decide +kernel
theorem dX6_value_89 : decode cX6_value 89 = .ok (.aload_n 0, 1) := by decide +kernel
theorem dX6_value_90 : decode cX6_value 90 = .ok (.iconst 5, 1) := by decide +kernel
theorem dX6_value_91 : decode cX6_value 91 = .ok (.invokevirtual 149, 3) := by decide +kernel
theorem dX6_value_94 : decode cX6_value 94 = .ok (.ireturn, 1) := by decide +kernel
theorem dX6_value_95 : decode cX6_value 95 = .ok (.aload_n 0, 1) := by decide +kernel
theorem dX6_value_96 : decode cX6_value 96 = .ok (.bipush 6, 2) := by decide +kernel
theorem dX6_value_98 : decode cX6_value 98 = .ok (.invokevirtual 149, 3) := by decide +kernel
theorem dX6_value_101 : decode cX6_value 101 = .ok (.ireturn, 1) := by decide +kernel
theorem dX6_value_102 : decode cX6_value 102 = .ok (.aload_n 0, 1) := by decide +kernel
theorem dX6_value_103 : decode cX6_value 103 = .ok (.getfield 10, 3) := by decide +kernel
theorem dX6_value_106 : decode cX6_value 106 = .ok (.invokevirtual 152, 3) := by decide +kernel
theorem dX6_value_109 : decode cX6_value 109 = .ok (.ireturn, 1) := by decide +kernel
theorem dX6_value_110 : decode cX6_value 110 = .ok (.aload_n 0, 1) := by decide +kernel
theorem dX6_value_111 : decode cX6_value 111 = .ok (.getfield 10, 3) := by decide +kernel
theorem dX6_value_114 : decode cX6_value 114 = .ok (.getfield 117, 3) := by decide +kernel
theorem dX6_value_117 : decode cX6_value 117 = .ok (.ifCond .eq 7, 3) := by decide +kernel
theorem dX6_value_120 : decode cX6_value 120 = .ok (.iconst 1, 1) := by decide +kernel
theorem dX6_value_121 : decode cX6_value 121 = .ok (.goto 4, 3) := by decide +kernel
theorem dX6_value_124 : decode cX6_value 124 = .ok (.iconst 0, 1) := by decide +kernel
theorem dX6_value_125 : decode cX6_value 125 = .ok (.ireturn, 1) := by decide +kernel
theorem dX6_checkArgument_0 : decode cX6_checkArgument 0 = .ok (.iload_n 0, 1) := by decide +kernel
theorem dX6_checkArgument_1 : decode cX6_checkArgument 1 = .ok (.ifCond .ne 13, 3) := by decide +kernel
theorem dX6_checkArgument_4 : decode cX6_checkArgument 4 = .ok (.new 217, 3) := by decide +kernel
theorem dX6_checkArgument_7 : decode cX6_checkArgument 7 = .ok (.dup, 1) := by decide +kernel
theorem dX6_checkArgument_8 : decode cX6_checkArgument 8 = .ok (.ldc 219, 2) := by decide +kernel
theorem dX6_checkArgument_10 : decode cX6_checkArgument 10 = .ok (.invokespecial 221, 3) := by decide +kernel
theorem dX6_checkArgument_13 : decode cX6_checkArgument 13 = .ok (.athrow, 1) := by decide +kernel
theorem dX6_checkArgument_14 : decode cX6_checkArgument 14 = .ok (.return_, 1) := by decide +kernel
theorem dX6_checkState_0 : decode cX6_checkState 0 = .ok (.iload_n 0, 1) := by decide +kernel
theorem dX6_checkState_1 : decode cX6_checkState 1 = .ok (.ifCond .ne 13, 3) := by decide +kernel
theorem dX6_checkState_4 : decode cX6_checkState 4 = .ok (.new 224, 3) := by decide +kernel
theorem dX6_checkState_7 : decode cX6_checkState 7 = .ok (.dup, 1) := by decide +kernel
theorem dX6_checkState_8 : decode cX6_checkState 8 = .ok (.ldc 226, 2) := by decide +kernel
theorem dX6_checkState_10 : decode cX6_checkState 10 = .ok (.invokespecial 228, 3) := by decide +kernel
theorem dX6_checkState_13 : decode cX6_checkState 13 = .ok (.athrow, 1) := by decide +kernel
theorem dX6_checkState_14 : decode cX6_checkState 14 = .ok (.return_, 1) := by decide +kernel
set_option maxRecDepth 20000 in
theorem ggX6_checkRoom_X6_checkState : GoodIn wsX6_checkRoom wsX6_checkState := goodIn_ca (goodIn_r _ [6, 7, 8] (by decide +kernel) (by decide +kernel)) (goodIn_sub (fun _ h => List.mem_cons_of_mem _ (List.mem_append_right _ h)) (by decide +kernel))
set_option maxRecDepth 20000 in
theorem gX6_checkRoom_X6_checkState : GoodIn wsX6_checkRoom (va_wsS RX6 111 yX6_checkState wsX6_checkState) := goodIn_app (goodIn_of _ (by decide +kernel)) ggX6_checkRoom_X6_checkState
theorem dX6_checkRoom_0 : decode cX6_checkRoom 0 = .ok (.aload_n 0, 1) := by decide +kernel
theorem dX6_checkRoom_1 : decode cX6_checkRoom 1 = .ok (.getfield 10, 3) := by decide +kernel
theorem dX6_checkRoom_4 : decode cX6_checkRoom 4 = .ok (.getfield 62, 3) := by decide +kernel
theorem dX6_checkRoom_7 : decode cX6_checkRoom 7 = .ok (.bipush 40, 2) := by decide +kernel
theorem dX6_checkRoom_9 : decode cX6_checkRoom 9 = .ok (.if_icmp .ge 7, 3) := by decide +kernel
theorem dX6_checkRoom_12 : decode cX6_checkRoom 12 = .ok (.iconst 1, 1) := by decide +kernel
theorem dX6_checkRoom_13 : decode cX6_checkRoom 13 = .ok (.goto 4, 3) := by decide +kernel
theorem dX6_checkRoom_16 : decode cX6_checkRoom 16 = .ok (.iconst 0, 1) := by decide +kernel
theorem dX6_checkRoom_17 : decode cX6_checkRoom 17 = .ok (.invokestatic 111, 3) := by decide +kernel
theorem dX6_checkRoom_20 : decode cX6_checkRoom 20 = .ok (.return_, 1) := by decide +kernel
theorem dX6_checkPossible_0 : decode cX6_checkPossible 0 = .ok (.iload_n 0, 1) := by decide +kernel
theorem dX6_checkPossible_1 : decode cX6_checkPossible 1 = .ok (.ifCond .ne 13, 3) := by decide +kernel
theorem dX6_checkPossible_4 : decode cX6_checkPossible 4 = .ok (.new 229, 3) := by decide +kernel
theorem dX6_checkPossible_7 : decode cX6_checkPossible 7 = .ok (.dup, 1) := by decide +kernel
theorem dX6_checkPossible_8 : decode cX6_checkPossible 8 = .ok (.ldc 231, 2) := by decide +kernel
theorem dX6_checkPossible_10 : decode cX6_checkPossible 10 = .ok (.invokespecial 233, 3) := by decide +kernel
theorem dX6_checkPossible_13 : decode cX6_checkPossible 13 = .ok (.athrow, 1) := by decide +kernel
theorem dX6_checkPossible_14 : decode cX6_checkPossible 14 = .ok (.return_, 1) := by decide +kernel
theorem dX6_checkIndex_0 : decode cX6_checkIndex 0 = .ok (.iload_n 0, 1) := by decide +kernel
theorem dX6_checkIndex_1 : decode cX6_checkIndex 1 = .ok (.ifCond .lt 8, 3) := by decide +kernel
theorem dX6_checkIndex_4 : decode cX6_checkIndex 4 = .ok (.iload_n 0, 1) := by decide +kernel
theorem dX6_checkIndex_5 : decode cX6_checkIndex 5 = .ok (.iload_n 1, 1) := by decide +kernel
theorem dX6_checkIndex_6 : decode cX6_checkIndex 6 = .ok (.if_icmp .lt 13, 3) := by decide +kernel
theorem dX6_checkIndex_9 : decode cX6_checkIndex 9 = .ok (.new 234, 3) := by decide +kernel
theorem dX6_checkIndex_12 : decode cX6_checkIndex 12 = .ok (.dup, 1) := by decide +kernel
theorem dX6_checkIndex_13 : decode cX6_checkIndex 13 = .ok (.ldc 236, 2) := by decide +kernel
theorem dX6_checkIndex_15 : decode cX6_checkIndex 15 = .ok (.invokespecial 238, 3) := by decide +kernel
theorem dX6_checkIndex_18 : decode cX6_checkIndex 18 = .ok (.athrow, 1) := by decide +kernel
theorem dX6_checkIndex_19 : decode cX6_checkIndex 19 = .ok (.return_, 1) := by decide +kernel
theorem dX6_isGoal_0 : decode cX6_isGoal 0 = .ok (.iload_n 0, 1) := by decide +kernel
theorem dX6_isGoal_1 : decode cX6_isGoal 1 = .ok (.iconst 3, 1) := by decide +kernel
theorem dX6_isGoal_2 : decode cX6_isGoal 2 = .ok (.if_icmp .lt 13, 3) := by decide +kernel
theorem dX6_isGoal_5 : decode cX6_isGoal 5 = .ok (.iload_n 0, 1) := by decide +kernel
theorem dX6_isGoal_6 : decode cX6_isGoal 6 = .ok (.bipush 120, 2) := by decide +kernel
theorem dX6_isGoal_8 : decode cX6_isGoal 8 = .ok (.if_icmp .gt 7, 3) := by decide +kernel
theorem dX6_isGoal_11 : decode cX6_isGoal 11 = .ok (.iconst 1, 1) := by decide +kernel
theorem dX6_isGoal_12 : decode cX6_isGoal 12 = .ok (.goto 4, 3) := by decide +kernel
theorem dX6_isGoal_15 : decode cX6_isGoal 15 = .ok (.iconst 0, 1) := by decide +kernel
theorem dX6_isGoal_16 : decode cX6_isGoal 16 = .ok (.ireturn, 1) := by decide +kernel
theorem dX6_isShift_0 : decode cX6_isShift 0 = .ok (.iload_n 0, 1) := by decide +kernel
theorem dX6_isShift_1 : decode cX6_isShift 1 = .ok (.ifCond .lt 13, 3) := by decide +kernel
theorem dX6_isShift_4 : decode cX6_isShift 4 = .ok (.iload_n 0, 1) := by decide +kernel
theorem dX6_isShift_5 : decode cX6_isShift 5 = .ok (.bipush 120, 2) := by decide +kernel
theorem dX6_isShift_7 : decode cX6_isShift 7 = .ok (.if_icmp .ge 7, 3) := by decide +kernel
theorem dX6_isShift_10 : decode cX6_isShift 10 = .ok (.iconst 1, 1) := by decide +kernel
theorem dX6_isShift_11 : decode cX6_isShift 11 = .ok (.goto 4, 3) := by decide +kernel
theorem dX6_isShift_14 : decode cX6_isShift 14 = .ok (.iconst 0, 1) := by decide +kernel
theorem dX6_isShift_15 : decode cX6_isShift 15 = .ok (.ireturn, 1) := by decide +kernel
theorem dX6_isShape_0 : decode cX6_isShape 0 = .ok (.iload_n 0, 1) := by decide +kernel
theorem dX6_isShape_1 : decode cX6_isShape 1 = .ok (.ifCond .lt 12, 3) := by decide +kernel
theorem dX6_isShape_4 : decode cX6_isShape 4 = .ok (.iload_n 0, 1) := by decide +kernel
theorem dX6_isShape_5 : decode cX6_isShape 5 = .ok (.iconst 4, 1) := by decide +kernel
theorem dX6_isShape_6 : decode cX6_isShape 6 = .ok (.if_icmp .gt 7, 3) := by decide +kernel
theorem dX6_isShape_9 : decode cX6_isShape 9 = .ok (.iconst 1, 1) := by decide +kernel
theorem dX6_isShape_10 : decode cX6_isShape 10 = .ok (.goto 4, 3) := by decide +kernel
theorem dX6_isShape_13 : decode cX6_isShape 13 = .ok (.iconst 0, 1) := by decide +kernel
theorem dX6_isShape_14 : decode cX6_isShape 14 = .ok (.ireturn, 1) := by decide +kernel
theorem dX6_isSize_0 : decode cX6_isSize 0 = .ok (.iload_n 0, 1) := by decide +kernel
theorem dX6_isSize_1 : decode cX6_isSize 1 = .ok (.iconst 1, 1) := by decide +kernel
theorem dX6_isSize_2 : decode cX6_isSize 2 = .ok (.if_icmp .lt 13, 3) := by decide +kernel
theorem dX6_isSize_5 : decode cX6_isSize 5 = .ok (.iload_n 0, 1) := by decide +kernel
theorem dX6_isSize_6 : decode cX6_isSize 6 = .ok (.bipush 20, 2) := by decide +kernel
theorem dX6_isSize_8 : decode cX6_isSize 8 = .ok (.if_icmp .gt 7, 3) := by decide +kernel
theorem dX6_isSize_11 : decode cX6_isSize 11 = .ok (.iconst 1, 1) := by decide +kernel
theorem dX6_isSize_12 : decode cX6_isSize 12 = .ok (.goto 4, 3) := by decide +kernel
theorem dX6_isSize_15 : decode cX6_isSize 15 = .ok (.iconst 0, 1) := by decide +kernel
theorem dX6_isSize_16 : decode cX6_isSize 16 = .ok (.ireturn, 1) := by decide +kernel
set_option maxRecDepth 20000 in
theorem ggX6_addBest_X1_load : GoodIn wsX6_addBest wsX1_load := goodIn_r _ [9, 10, 11, 12, 13, 14, 15, 16, 17, 18, 19, 20, 21, 22, 23, 24, 25, 69, 70, 71, 72, 73, 74, 75, 76] (by decide +kernel) (by decide +kernel)
set_option maxRecDepth 20000 in
theorem gX6_addBest_X1_load : GoodIn wsX6_addBest (wsV RX6 155 RX1 yX1_load wsX1_load) := goodIn_app (goodIn_of _ (by decide +kernel)) ggX6_addBest_X1_load
set_option maxRecDepth 20000 in
theorem ggX6_addBest_X1_bestShift : GoodIn wsX6_addBest wsX1_bestShift := goodIn_r _ [29, 30, 31, 32, 33, 34, 8, 35, 12, 13, 14, 15, 16, 17, 18, 36, 24, 37, 77, 78, 79, 80, 75, 76] (by decide +kernel) (by decide +kernel)
set_option maxRecDepth 20000 in
theorem gX6_addBest_X1_bestShift : GoodIn wsX6_addBest (wsV RX6 239 RX1 yX1_bestShift wsX1_bestShift) := goodIn_app (goodIn_of _ (by decide +kernel)) ggX6_addBest_X1_bestShift
set_option maxRecDepth 20000 in
theorem ggX6_addBest_X6_addRow : GoodIn wsX6_addBest wsX6_addRow := goodIn_r _ [41, 4, 42, 2, 43, 44, 45, 46, 47, 48, 49, 50, 51, 52, 20, 21, 16, 22, 18, 53, 14, 15, 17, 54, 55, 56, 57, 58, 59, 23, 24, 25, 60, 61, 62, 63, 64, 65, 66, 67, 68, 77, 78, 79, 80, 69, 70, 71, 72, 73, 74, 76] (by decide +kernel) (by decide +kernel)
set_option maxRecDepth 20000 in
theorem gX6_addBest_X6_addRow : GoodIn wsX6_addBest (wsV RX6 243 RX6 yX6_addRow wsX6_addRow) := goodIn_app (goodIn_of _ (by decide +kernel)) ggX6_addBest_X6_addRow
theorem dX6_addBest_0 : decode cX6_addBest 0 = .ok (.aload_n 0, 1) := by decide +kernel
theorem dX6_addBest_1 : decode cX6_addBest 1 = .ok (.getfield 40, 3) := by decide +kernel
theorem dX6_addBest_4 : decode cX6_addBest 4 = .ok (.aload_n 0, 1) := by decide +kernel
theorem dX6_addBest_5 : decode cX6_addBest 5 = .ok (.getfield 10, 3) := by decide +kernel
theorem dX6_addBest_8 : decode cX6_addBest 8 = .ok (.aload_n 0, 1) := by decide +kernel
theorem dX6_addBest_9 : decode cX6_addBest 9 = .ok (.getfield 10, 3) := by decide +kernel
theorem dX6_addBest_12 : decode cX6_addBest 12 = .ok (.getfield 62, 3) := by decide +kernel
theorem dX6_addBest_15 : decode cX6_addBest 15 = .ok (.iconst 1, 1) := by decide +kernel
theorem dX6_addBest_16 : decode cX6_addBest 16 = .ok (.isub, 1) := by decide +kernel
theorem dX6_addBest_17 : decode cX6_addBest 17 = .ok (.invokevirtual 155, 3) := by decide +kernel
theorem dX6_addBest_20 : decode cX6_addBest 20 = .ok (.aload_n 0, 1) := by decide +kernel
theorem dX6_addBest_21 : decode cX6_addBest 21 = .ok (.getfield 40, 3) := by decide +kernel
theorem dX6_addBest_24 : decode cX6_addBest 24 = .ok (.aload_n 0, 1) := by decide +kernel
theorem dX6_addBest_25 : decode cX6_addBest 25 = .ok (.getfield 33, 3) := by decide +kernel
theorem dX6_addBest_28 : decode cX6_addBest 28 = .ok (.invokevirtual 239, 3) := by decide +kernel
theorem dX6_addBest_31 : decode cX6_addBest 31 = .ok (.istore_n 1, 1) := by decide +kernel
theorem dX6_addBest_32 : decode cX6_addBest 32 = .ok (.aload_n 0, 1) := by decide +kernel
theorem dX6_addBest_33 : decode cX6_addBest 33 = .ok (.iload_n 1, 1) := by decide +kernel
theorem dX6_addBest_34 : decode cX6_addBest 34 = .ok (.invokevirtual 243, 3) := by decide +kernel
theorem dX6_addBest_37 : decode cX6_addBest 37 = .ok (.iload_n 1, 1) := by decide +kernel
theorem dX6_addBest_38 : decode cX6_addBest 38 = .ok (.ireturn, 1) := by decide +kernel
set_option maxRecDepth 20000 in
theorem ggX6_addPlanned_X1_load : GoodIn wsX6_addPlanned wsX1_load := goodIn_r _ [11, 12, 13, 14, 15, 16, 17, 18, 19, 20, 21, 22, 23, 24, 25, 26, 27, 63, 64, 65, 66, 67, 68, 73, 74] (by decide +kernel) (by decide +kernel)
set_option maxRecDepth 20000 in
theorem gX6_addPlanned_X1_load : GoodIn wsX6_addPlanned (wsV RX6 155 RX1 yX1_load wsX1_load) := goodIn_app (goodIn_of _ (by decide +kernel)) ggX6_addPlanned_X1_load
set_option maxRecDepth 20000 in
theorem ggX6_addPlanned_X1_stackedIn : GoodIn wsX6_addPlanned wsX1_stackedIn := goodIn_r _ [31, 14, 15, 16, 17, 18, 19, 20, 32, 26, 33, 73, 74] (by decide +kernel) (by decide +kernel)
set_option maxRecDepth 20000 in
theorem gX6_addPlanned_X1_stackedIn : GoodIn wsX6_addPlanned (wsV RX6 164 RX1 yX1_stackedIn wsX1_stackedIn) := goodIn_app (goodIn_of _ (by decide +kernel)) ggX6_addPlanned_X1_stackedIn
set_option maxRecDepth 20000 in
theorem ggX6_addPlanned_X6_addRow : GoodIn wsX6_addPlanned wsX6_addRow := goodIn_r _ [37, 4, 6, 2, 5, 38, 39, 40, 41, 42, 43, 44, 45, 46, 22, 23, 18, 24, 20, 47, 16, 17, 19, 48, 49, 50, 51, 52, 53, 25, 26, 27, 54, 55, 56, 57, 58, 59, 60, 61, 62, 69, 70, 71, 72, 63, 64, 65, 66, 67, 68, 74] (by decide +kernel) (by decide +kernel)
set_option maxRecDepth 20000 in
theorem gX6_addPlanned_X6_addRow : GoodIn wsX6_addPlanned (wsV RX6 243 RX6 yX6_addRow wsX6_addRow) := goodIn_app (goodIn_of _ (by decide +kernel)) ggX6_addPlanned_X6_addRow
theorem dX6_addPlanned_0 : decode cX6_addPlanned 0 = .ok (.aload_n 0, 1) := by decide +kernel
theorem dX6_addPlanned_1 : decode cX6_addPlanned 1 = .ok (.getfield 40, 3) := by decide +kernel
theorem dX6_addPlanned_4 : decode cX6_addPlanned 4 = .ok (.aload_n 0, 1) := by decide +kernel
theorem dX6_addPlanned_5 : decode cX6_addPlanned 5 = .ok (.getfield 10, 3) := by decide +kernel
theorem dX6_addPlanned_8 : decode cX6_addPlanned 8 = .ok (.aload_n 0, 1) := by decide +kernel
theorem dX6_addPlanned_9 : decode cX6_addPlanned 9 = .ok (.getfield 10, 3) := by decide +kernel
theorem dX6_addPlanned_12 : decode cX6_addPlanned 12 = .ok (.getfield 62, 3) := by decide +kernel
theorem dX6_addPlanned_15 : decode cX6_addPlanned 15 = .ok (.iconst 1, 1) := by decide +kernel
theorem dX6_addPlanned_16 : decode cX6_addPlanned 16 = .ok (.isub, 1) := by decide +kernel
theorem dX6_addPlanned_17 : decode cX6_addPlanned 17 = .ok (.invokevirtual 155, 3) := by decide +kernel
theorem dX6_addPlanned_20 : decode cX6_addPlanned 20 = .ok (.aload_n 0, 1) := by decide +kernel
theorem dX6_addPlanned_21 : decode cX6_addPlanned 21 = .ok (.getfield 40, 3) := by decide +kernel
theorem dX6_addPlanned_24 : decode cX6_addPlanned 24 = .ok (.aload_n 0, 1) := by decide +kernel
theorem dX6_addPlanned_25 : decode cX6_addPlanned 25 = .ok (.getfield 33, 3) := by decide +kernel
theorem dX6_addPlanned_28 : decode cX6_addPlanned 28 = .ok (.getfield 159, 3) := by decide +kernel
theorem dX6_addPlanned_31 : decode cX6_addPlanned 31 = .ok (.iconst 0, 1) := by decide +kernel
theorem dX6_addPlanned_32 : decode cX6_addPlanned 32 = .ok (.aload_n 0, 1) := by decide +kernel
theorem dX6_addPlanned_33 : decode cX6_addPlanned 33 = .ok (.getfield 33, 3) := by decide +kernel
theorem dX6_addPlanned_36 : decode cX6_addPlanned 36 = .ok (.getfield 162, 3) := by decide +kernel
theorem dX6_addPlanned_39 : decode cX6_addPlanned 39 = .ok (.iload_n 1, 1) := by decide +kernel
theorem dX6_addPlanned_40 : decode cX6_addPlanned 40 = .ok (.invokevirtual 164, 3) := by decide +kernel
theorem dX6_addPlanned_43 : decode cX6_addPlanned 43 = .ok (.istore_n 2, 1) := by decide +kernel
theorem dX6_addPlanned_44 : decode cX6_addPlanned 44 = .ok (.aload_n 0, 1) := by decide +kernel
theorem dX6_addPlanned_45 : decode cX6_addPlanned 45 = .ok (.iload_n 1, 1) := by decide +kernel
theorem dX6_addPlanned_46 : decode cX6_addPlanned 46 = .ok (.invokevirtual 243, 3) := by decide +kernel
theorem dX6_addPlanned_49 : decode cX6_addPlanned 49 = .ok (.iload_n 2, 1) := by decide +kernel
theorem dX6_addPlanned_50 : decode cX6_addPlanned 50 = .ok (.ireturn, 1) := by decide +kernel
set_option maxRecDepth 20000 in
theorem ggX6_addRow_X4_openRound : GoodIn wsX6_addRow wsX4_openRound := goodIn_r _ [9, 10, 11, 12, 13, 14, 15, 16, 17, 18, 45, 46, 47, 48, 49, 50, 51] (by decide +kernel) (by decide +kernel)
set_option maxRecDepth 20000 in
theorem gX6_addRow_X4_openRound : GoodIn wsX6_addRow (wsV RX6 246 RX4 yX4_openRound wsX4_openRound) := goodIn_app (goodIn_of _ (by decide +kernel)) ggX6_addRow_X4_openRound
set_option maxRecDepth 20000 in
theorem ggX6_addRow_X2_at : GoodIn wsX6_addRow wsX2_at := goodIn_r _ [22, 18, 51] (by decide +kernel) (by decide +kernel)
set_option maxRecDepth 20000 in
theorem gX6_addRow_X2_at : GoodIn wsX6_addRow (wsV RX6 114 RX2 yX2_at wsX2_at) := goodIn_app (goodIn_of _ (by decide +kernel)) ggX6_addRow_X2_at
set_option maxRecDepth 20000 in
theorem ggX6_addRow_X4_addWork : GoodIn wsX6_addRow wsX4_addWork := goodIn_r _ [26, 10, 11, 27, 12, 28, 20, 21, 16, 22, 18, 13, 14, 15, 17, 29, 30, 31, 45, 46, 47, 48, 49, 50, 51] (by decide +kernel) (by decide +kernel)
set_option maxRecDepth 20000 in
theorem gX6_addRow_X4_addWork : GoodIn wsX6_addRow (wsV RX6 249 RX4 yX4_addWork wsX4_addWork) := goodIn_app (goodIn_of _ (by decide +kernel)) ggX6_addRow_X4_addWork
set_option maxRecDepth 20000 in
theorem ggX6_addRow_X4_closeRound : GoodIn wsX6_addRow wsX4_closeRound := goodIn_r _ [35, 11, 45, 46, 47, 48, 49, 50] (by decide +kernel) (by decide +kernel)
set_option maxRecDepth 20000 in
theorem gX6_addRow_X4_closeRound : GoodIn wsX6_addRow (wsV RX6 252 RX4 yX4_closeRound wsX4_closeRound) := goodIn_app (goodIn_of _ (by decide +kernel)) ggX6_addRow_X4_closeRound
theorem dX6_addRow_0 : decode cX6_addRow 0 = .ok (.aload_n 0, 1) := by decide +kernel
theorem dX6_addRow_1 : decode cX6_addRow 1 = .ok (.getfield 33, 3) := by decide +kernel
theorem dX6_addRow_4 : decode cX6_addRow 4 = .ok (.getfield 162, 3) := by decide +kernel
theorem dX6_addRow_7 : decode cX6_addRow 7 = .ok (.istore_n 2, 1) := by decide +kernel
theorem dX6_addRow_8 : decode cX6_addRow 8 = .ok (.aload_n 0, 1) := by decide +kernel
theorem dX6_addRow_9 : decode cX6_addRow 9 = .ok (.getfield 10, 3) := by decide +kernel
theorem dX6_addRow_12 : decode cX6_addRow 12 = .ok (.invokevirtual 246, 3) := by decide +kernel
theorem dX6_addRow_15 : decode cX6_addRow 15 = .ok (.iconst 0, 1) := by decide +kernel
theorem dX6_addRow_16 : decode cX6_addRow 16 = .ok (.istore_n 3, 1) := by decide +kernel
theorem dX6_addRow_17 : decode cX6_addRow 17 = .ok (.iload_n 3, 1) := by decide +kernel
theorem dX6_addRow_18 : decode cX6_addRow 18 = .ok (.iload_n 2, 1) := by decide +kernel
theorem dX6_addRow_19 : decode cX6_addRow 19 = .ok (.if_icmp .ge 31, 3) := by decide +kernel
theorem dX6_addRow_22 : decode cX6_addRow 22 = .ok (.aload_n 0, 1) := by decide +kernel
theorem dX6_addRow_23 : decode cX6_addRow 23 = .ok (.getfield 10, 3) := by decide +kernel
theorem dX6_addRow_26 : decode cX6_addRow 26 = .ok (.aload_n 0, 1) := by decide +kernel
theorem dX6_addRow_27 : decode cX6_addRow 27 = .ok (.getfield 33, 3) := by decide +kernel
theorem dX6_addRow_30 : decode cX6_addRow 30 = .ok (.getfield 159, 3) := by decide +kernel
theorem dX6_addRow_33 : decode cX6_addRow 33 = .ok (.iload_n 3, 1) := by decide +kernel
theorem dX6_addRow_34 : decode cX6_addRow 34 = .ok (.iload_n 1, 1) := by decide +kernel
theorem dX6_addRow_35 : decode cX6_addRow 35 = .ok (.iadd, 1) := by decide +kernel
theorem dX6_addRow_36 : decode cX6_addRow 36 = .ok (.iload_n 2, 1) := by decide +kernel
theorem dX6_addRow_37 : decode cX6_addRow 37 = .ok (.irem, 1) := by decide +kernel
theorem dX6_addRow_38 : decode cX6_addRow 38 = .ok (.invokevirtual 114, 3) := by decide +kernel
theorem dX6_addRow_41 : decode cX6_addRow 41 = .ok (.invokevirtual 249, 3) := by decide +kernel
theorem dX6_addRow_44 : decode cX6_addRow 44 = .ok (.iinc 3 1, 3) := by decide +kernel
theorem dX6_addRow_47 : decode cX6_addRow 47 = .ok (.goto (-30), 3) := by decide +kernel
theorem dX6_addRow_50 : decode cX6_addRow 50 = .ok (.aload_n 0, 1) := by decide +kernel
theorem dX6_addRow_51 : decode cX6_addRow 51 = .ok (.getfield 10, 3) := by decide +kernel
theorem dX6_addRow_54 : decode cX6_addRow 54 = .ok (.invokevirtual 252, 3) := by decide +kernel
theorem dX6_addRow_57 : decode cX6_addRow 57 = .ok (.return_, 1) := by decide +kernel
set_option maxRecDepth 20000 in
theorem ggX6_ofRound_X2_at : GoodIn wsX6_ofRound wsX2_at := goodIn_r _ [8, 9, 84] (by decide +kernel) (by decide +kernel)
set_option maxRecDepth 20000 in
theorem gX6_ofRound_X2_at : GoodIn wsX6_ofRound (wsV RX6 114 RX2 yX2_at wsX2_at) := goodIn_app (goodIn_of _ (by decide +kernel)) ggX6_ofRound_X2_at
set_option maxRecDepth 20000 in
theorem ggX6_ofRound_X4_countOf : GoodIn wsX6_ofRound wsX4_countOf := goodIn_r _ [14, 15, 16, 5, 6, 7, 8, 9, 17, 18, 19, 13, 20, 21, 78, 79, 80, 81, 82, 83, 84] (by decide +kernel) (by decide +kernel)
set_option maxRecDepth 20000 in
theorem gX6_ofRound_X4_countOf : GoodIn wsX6_ofRound (wsV RX6 267 RX4 yX4_countOf wsX4_countOf) := goodIn_app (goodIn_of _ (by decide +kernel)) ggX6_ofRound_X4_countOf
set_option maxRecDepth 20000 in
theorem ggX6_ofRound_X6_stackedOf : GoodIn wsX6_ofRound wsX6_stackedOf := goodIn_r _ [26, 27, 1, 28, 3, 29, 30, 31, 32, 33, 34, 35, 36, 37, 5, 6, 7, 8, 9, 38, 39, 40, 41, 42, 25, 43, 4, 44, 45, 46, 47, 48, 49, 73, 74, 75, 76, 77, 78, 79, 80, 81, 82, 83, 85, 84] (by decide +kernel) (by decide +kernel)
set_option maxRecDepth 20000 in
theorem gX6_ofRound_X6_stackedOf : GoodIn wsX6_ofRound (wsV RX6 270 RX6 yX6_stackedOf wsX6_stackedOf) := goodIn_app (goodIn_of _ (by decide +kernel)) ggX6_ofRound_X6_stackedOf
set_option maxRecDepth 20000 in
theorem ggX6_ofRound_X4_isMirrored : GoodIn wsX6_ofRound wsX4_isMirrored := goodIn_r _ [53, 15, 16, 5, 6, 7, 8, 9, 17, 18, 19, 13, 20, 21, 78, 79, 80, 81, 82, 83, 84] (by decide +kernel) (by decide +kernel)
set_option maxRecDepth 20000 in
theorem gX6_ofRound_X4_isMirrored : GoodIn wsX6_ofRound (wsV RX6 273 RX4 yX4_isMirrored wsX4_isMirrored) := goodIn_app (goodIn_of _ (by decide +kernel)) ggX6_ofRound_X4_isMirrored
set_option maxRecDepth 20000 in
theorem ggX6_ofRound_X4_yarnOf : GoodIn wsX6_ofRound wsX4_yarnOf := goodIn_r _ [57, 15, 58, 16, 5, 6, 7, 8, 9, 17, 18, 19, 13, 20, 21, 78, 79, 80, 81, 82, 83, 84] (by decide +kernel) (by decide +kernel)
set_option maxRecDepth 20000 in
theorem gX6_ofRound_X4_yarnOf : GoodIn wsX6_ofRound (wsV RX6 276 RX4 yX4_yarnOf wsX4_yarnOf) := goodIn_app (goodIn_of _ (by decide +kernel)) ggX6_ofRound_X4_yarnOf
set_option maxRecDepth 20000 in
theorem ggX6_ofRound_X4_distance : GoodIn wsX6_ofRound wsX4_distance := goodIn_r _ [62, 15, 16, 5, 6, 7, 8, 9, 17, 18, 19, 13, 20, 21, 63, 64, 65, 66, 67, 68, 69, 70, 71, 72, 78, 79, 80, 81, 82, 83, 84] (by decide +kernel) (by decide +kernel)
set_option maxRecDepth 20000 in
theorem gX6_ofRound_X4_distance : GoodIn wsX6_ofRound (wsV RX6 174 RX4 yX4_distance wsX4_distance) := goodIn_app (goodIn_of _ (by decide +kernel)) ggX6_ofRound_X4_distance
theorem dX6_ofRound_0 : decode cX6_ofRound 0 = .ok (.iload_n 2, 1) := by decide +kernel
theorem dX6_ofRound_1 : decode cX6_ofRound 1 = .ok (.tableswitch 161 0 9 #[55, 67, 79, 89, 99, 109, 115, 132, 141, 151], 55) := by decide +kernel
theorem dX6_ofRound_56 : decode cX6_ofRound 56 = .ok (.aload_n 0, 1) := by decide +kernel
theorem dX6_ofRound_57 : decode cX6_ofRound 57 = .ok (.getfield 10, 3) := by decide +kernel
theorem dX6_ofRound_60 : decode cX6_ofRound 60 = .ok (.getfield 146, 3) := by decide +kernel
theorem dX6_ofRound_63 : decode cX6_ofRound 63 = .ok (.iload_n 1, 1) := by decide +kernel
theorem dX6_ofRound_64 : decode cX6_ofRound 64 = .ok (.invokevirtual 114, 3) := by decide +kernel
theorem dX6_ofRound_67 : decode cX6_ofRound 67 = .ok (.ireturn, 1) := by decide +kernel
theorem dX6_ofRound_68 : decode cX6_ofRound 68 = .ok (.aload_n 0, 1) := by decide +kernel
theorem dX6_ofRound_69 : decode cX6_ofRound 69 = .ok (.getfield 10, 3) := by decide +kernel
theorem dX6_ofRound_72 : decode cX6_ofRound 72 = .ok (.getfield 128, 3) := by decide +kernel
theorem dX6_ofRound_75 : decode cX6_ofRound 75 = .ok (.iload_n 1, 1) := by decide +kernel
theorem dX6_ofRound_76 : decode cX6_ofRound 76 = .ok (.invokevirtual 114, 3) := by decide +kernel
theorem dX6_ofRound_79 : decode cX6_ofRound 79 = .ok (.ireturn, 1) := by decide +kernel
theorem dX6_ofRound_80 : decode cX6_ofRound 80 = .ok (.aload_n 0, 1) := by decide +kernel
theorem dX6_ofRound_81 : decode cX6_ofRound 81 = .ok (.getfield 10, 3) := by decide +kernel
theorem dX6_ofRound_84 : decode cX6_ofRound 84 = .ok (.iload_n 1, 1) := by decide +kernel
theorem dX6_ofRound_85 : decode cX6_ofRound 85 = .ok (.iconst 0, 1) := by decide +kernel
theorem dX6_ofRound_86 : decode cX6_ofRound 86 = .ok (.invokevirtual 267, 3) := by decide +kernel
theorem dX6_ofRound_89 : decode cX6_ofRound 89 = .ok (.ireturn, 1) := by decide +kernel
theorem dX6_ofRound_90 : decode cX6_ofRound 90 = .ok (.aload_n 0, 1) := by decide +kernel
theorem dX6_ofRound_91 : decode cX6_ofRound 91 = .ok (.getfield 10, 3) := by decide +kernel
theorem dX6_ofRound_94 : decode cX6_ofRound 94 = .ok (.iload_n 1, 1) := by decide +kernel
theorem dX6_ofRound_95 : decode cX6_ofRound 95 = .ok (.iconst 1, 1) := by decide +kernel
theorem dX6_ofRound_96 : decode cX6_ofRound 96 = .ok (.invokevirtual 267, 3) := by decide +kernel
theorem dX6_ofRound_99 : decode cX6_ofRound 99 = .ok (.ireturn, 1) := by decide +kernel
theorem dX6_ofRound_100 : decode cX6_ofRound 100 = .ok (.aload_n 0, 1) := by decide +kernel
theorem dX6_ofRound_101 : decode cX6_ofRound 101 = .ok (.getfield 10, 3) := by decide +kernel
theorem dX6_ofRound_104 : decode cX6_ofRound 104 = .ok (.iload_n 1, 1) := by decide +kernel
theorem dX6_ofRound_105 : decode cX6_ofRound 105 = .ok (.iconst 2, 1) := by decide +kernel
theorem dX6_ofRound_106 : decode cX6_ofRound 106 = .ok (.invokevirtual 267, 3) := by decide +kernel
theorem dX6_ofRound_109 : decode cX6_ofRound 109 = .ok (.ireturn, 1) := by decide +kernel
theorem dX6_ofRound_110 : decode cX6_ofRound 110 = .ok (.aload_n 0, 1) := by decide +kernel
theorem dX6_ofRound_111 : decode cX6_ofRound 111 = .ok (.iload_n 1, 1) := by decide +kernel
theorem dX6_ofRound_112 : decode cX6_ofRound 112 = .ok (.invokevirtual 270, 3) := by decide +kernel
theorem dX6_ofRound_115 : decode cX6_ofRound 115 = .ok (.ireturn, 1) := by decide +kernel
theorem dX6_ofRound_116 : decode cX6_ofRound 116 = .ok (.aload_n 0, 1) := by decide +kernel
theorem dX6_ofRound_117 : decode cX6_ofRound 117 = .ok (.getfield 10, 3) := by decide +kernel
theorem dX6_ofRound_120 : decode cX6_ofRound 120 = .ok (.iload_n 1, 1) := by decide +kernel
theorem dX6_ofRound_121 : decode cX6_ofRound 121 = .ok (.invokevirtual 273, 3) := by decide +kernel
theorem dX6_ofRound_124 : decode cX6_ofRound 124 = .ok (.ifCond .eq 7, 3) := by decide +kernel
theorem dX6_ofRound_127 : decode cX6_ofRound 127 = .ok (.iconst 1, 1) := by decide +kernel
theorem dX6_ofRound_128 : decode cX6_ofRound 128 = .ok (.goto 4, 3) := by decide +kernel
theorem dX6_ofRound_131 : decode cX6_ofRound 131 = .ok (.iconst 0, 1) := by decide +kernel
theorem dX6_ofRound_132 : decode cX6_ofRound 132 = .ok (.ireturn, 1) := by decide +kernel
theorem dX6_ofRound_133 : decode cX6_ofRound 133 = .ok (.aload_n 0, 1) := by decide +kernel
theorem dX6_ofRound_134 : decode cX6_ofRound 134 = .ok (.getfield 10, 3) := by decide +kernel
theorem dX6_ofRound_137 : decode cX6_ofRound 137 = .ok (.iload_n 1, 1) := by decide +kernel
theorem dX6_ofRound_138 : decode cX6_ofRound 138 = .ok (.invokevirtual 276, 3) := by decide +kernel
theorem dX6_ofRound_141 : decode cX6_ofRound 141 = .ok (.ireturn, 1) := by decide +kernel
theorem dX6_ofRound_142 : decode cX6_ofRound 142 = .ok (.aload_n 0, 1) := by decide +kernel
theorem dX6_ofRound_143 : decode cX6_ofRound 143 = .ok (.getfield 10, 3) := by decide +kernel
theorem dX6_ofRound_146 : decode cX6_ofRound 146 = .ok (.iload_n 1, 1) := by decide +kernel
theorem dX6_ofRound_147 : decode cX6_ofRound 147 = .ok (.iconst 1, 1) := by decide +kernel
theorem dX6_ofRound_148 : decode cX6_ofRound 148 = .ok (.invokevirtual 174, 3) := by decide +kernel
theorem dX6_ofRound_151 : decode cX6_ofRound 151 = .ok (.ireturn, 1) := by decide +kernel
theorem dX6_ofRound_152 : decode cX6_ofRound 152 = .ok (.aload_n 0, 1) := by decide +kernel
theorem dX6_ofRound_153 : decode cX6_ofRound 153 = .ok (.getfield 10, 3) := by decide +kernel
theorem dX6_ofRound_156 : decode cX6_ofRound 156 = .ok (.iload_n 1, 1) := by decide +kernel
theorem dX6_ofRound_157 : decode cX6_ofRound 157 = .ok (.iconst 0, 1) := by decide +kernel
theorem dX6_ofRound_158 : decode cX6_ofRound 158 = .ok (.invokevirtual 174, 3) := by decide +kernel
theorem dX6_ofRound_161 : decode cX6_ofRound 161 = .ok (.ireturn, 1) := by decide +kernel
theorem dX6_ofRound_162 : decode cX6_ofRound 162 = .ok (.aload_n 0, 1) := by decide +kernel
theorem dX6_ofRound_163 : decode cX6_ofRound 163 = .ok (.getfield 10, 3) := by decide +kernel
theorem dX6_ofRound_166 : decode cX6_ofRound 166 = .ok (.getfield 146, 3) := by decide +kernel
theorem dX6_ofRound_169 : decode cX6_ofRound 169 = .ok (.iload_n 1, 1) := by decide +kernel
theorem dX6_ofRound_170 : decode cX6_ofRound 170 = .ok (.invokevirtual 114, 3) := by decide +kernel
theorem dX6_ofRound_173 : decode cX6_ofRound 173 = .ok (.aload_n 0, 1) := by decide +kernel
theorem dX6_ofRound_174 : decode cX6_ofRound 174 = .ok (.getfield 10, 3) := by decide +kernel
theorem dX6_ofRound_177 : decode cX6_ofRound 177 = .ok (.getfield 146, 3) := by decide +kernel
theorem dX6_ofRound_180 : decode cX6_ofRound 180 = .ok (.iconst 0, 1) := by decide +kernel
theorem dX6_ofRound_181 : decode cX6_ofRound 181 = .ok (.invokevirtual 114, 3) := by decide +kernel
theorem dX6_ofRound_184 : decode cX6_ofRound 184 = .ok (.iload_n 1, 1) := by decide +kernel
theorem dX6_ofRound_185 : decode cX6_ofRound 185 = .ok (.iconst 1, 1) := by decide +kernel
theorem dX6_ofRound_186 : decode cX6_ofRound 186 = .ok (.iadd, 1) := by decide +kernel
theorem dX6_ofRound_187 : decode cX6_ofRound 187 = .ok (.imul, 1) := by decide +kernel
theorem dX6_ofRound_188 : decode cX6_ofRound 188 = .ok (.isub, 1) := by decide +kernel
theorem dX6_ofRound_189 : decode cX6_ofRound 189 = .ok (.ireturn, 1) := by decide +kernel
set_option maxRecDepth 20000 in
theorem ggX6_stackedOf_X1_load : GoodIn wsX6_stackedOf wsX1_load := goodIn_r _ [9, 10, 11, 12, 13, 14, 15, 16, 17, 18, 19, 20, 21, 22, 23, 24, 25, 38, 39, 40, 41, 42, 43, 44, 45] (by decide +kernel) (by decide +kernel)
set_option maxRecDepth 20000 in
theorem gX6_stackedOf_X1_load : GoodIn wsX6_stackedOf (wsV RX6 155 RX1 yX1_load wsX1_load) := goodIn_app (goodIn_of _ (by decide +kernel)) ggX6_stackedOf_X1_load
set_option maxRecDepth 20000 in
theorem ggX6_stackedOf_X2_at : GoodIn wsX6_stackedOf wsX2_at := goodIn_r _ [17, 18, 45] (by decide +kernel) (by decide +kernel)
set_option maxRecDepth 20000 in
theorem gX6_stackedOf_X2_at : GoodIn wsX6_stackedOf (wsV RX6 114 RX2 yX2_at wsX2_at) := goodIn_app (goodIn_of _ (by decide +kernel)) ggX6_stackedOf_X2_at
set_option maxRecDepth 20000 in
theorem ggX6_stackedOf_X1_stackedIn : GoodIn wsX6_stackedOf wsX1_stackedIn := goodIn_r _ [30, 12, 13, 14, 15, 16, 17, 18, 31, 24, 32, 44, 45] (by decide +kernel) (by decide +kernel)
set_option maxRecDepth 20000 in
theorem gX6_stackedOf_X1_stackedIn : GoodIn wsX6_stackedOf (wsV RX6 164 RX1 yX1_stackedIn wsX1_stackedIn) := goodIn_app (goodIn_of _ (by decide +kernel)) ggX6_stackedOf_X1_stackedIn
theorem dX6_stackedOf_0 : decode cX6_stackedOf 0 = .ok (.iload_n 1, 1) := by decide +kernel
theorem dX6_stackedOf_1 : decode cX6_stackedOf 1 = .ok (.ifCond .ne 5, 3) := by decide +kernel
theorem dX6_stackedOf_4 : decode cX6_stackedOf 4 = .ok (.iconst 0, 1) := by decide +kernel
theorem dX6_stackedOf_5 : decode cX6_stackedOf 5 = .ok (.ireturn, 1) := by decide +kernel
theorem dX6_stackedOf_6 : decode cX6_stackedOf 6 = .ok (.aload_n 0, 1) := by decide +kernel
theorem dX6_stackedOf_7 : decode cX6_stackedOf 7 = .ok (.getfield 40, 3) := by decide +kernel
theorem dX6_stackedOf_10 : decode cX6_stackedOf 10 = .ok (.aload_n 0, 1) := by decide +kernel
theorem dX6_stackedOf_11 : decode cX6_stackedOf 11 = .ok (.getfield 10, 3) := by decide +kernel
theorem dX6_stackedOf_14 : decode cX6_stackedOf 14 = .ok (.iload_n 1, 1) := by decide +kernel
theorem dX6_stackedOf_15 : decode cX6_stackedOf 15 = .ok (.iconst 1, 1) := by decide +kernel
theorem dX6_stackedOf_16 : decode cX6_stackedOf 16 = .ok (.isub, 1) := by decide +kernel
theorem dX6_stackedOf_17 : decode cX6_stackedOf 17 = .ok (.invokevirtual 155, 3) := by decide +kernel
theorem dX6_stackedOf_20 : decode cX6_stackedOf 20 = .ok (.aload_n 0, 1) := by decide +kernel
theorem dX6_stackedOf_21 : decode cX6_stackedOf 21 = .ok (.getfield 40, 3) := by decide +kernel
theorem dX6_stackedOf_24 : decode cX6_stackedOf 24 = .ok (.aload_n 0, 1) := by decide +kernel
theorem dX6_stackedOf_25 : decode cX6_stackedOf 25 = .ok (.getfield 10, 3) := by decide +kernel
theorem dX6_stackedOf_28 : decode cX6_stackedOf 28 = .ok (.getfield 279, 3) := by decide +kernel
theorem dX6_stackedOf_31 : decode cX6_stackedOf 31 = .ok (.iload_n 1, 1) := by decide +kernel
theorem dX6_stackedOf_32 : decode cX6_stackedOf 32 = .ok (.bipush 120, 2) := by decide +kernel
theorem dX6_stackedOf_34 : decode cX6_stackedOf 34 = .ok (.imul, 1) := by decide +kernel
theorem dX6_stackedOf_35 : decode cX6_stackedOf 35 = .ok (.aload_n 0, 1) := by decide +kernel
theorem dX6_stackedOf_36 : decode cX6_stackedOf 36 = .ok (.getfield 10, 3) := by decide +kernel
theorem dX6_stackedOf_39 : decode cX6_stackedOf 39 = .ok (.getfield 128, 3) := by decide +kernel
theorem dX6_stackedOf_42 : decode cX6_stackedOf 42 = .ok (.iload_n 1, 1) := by decide +kernel
theorem dX6_stackedOf_43 : decode cX6_stackedOf 43 = .ok (.invokevirtual 114, 3) := by decide +kernel
theorem dX6_stackedOf_46 : decode cX6_stackedOf 46 = .ok (.iconst 0, 1) := by decide +kernel
theorem dX6_stackedOf_47 : decode cX6_stackedOf 47 = .ok (.invokevirtual 164, 3) := by decide +kernel
theorem dX6_stackedOf_50 : decode cX6_stackedOf 50 = .ok (.ireturn, 1) := by decide +kernel
set_option maxRecDepth 20000 in
theorem ggX6_sumOverRounds_X6_ofRound : GoodIn wsX6_sumOverRounds wsX6_ofRound := goodIn_r _ [7, 1, 8, 9, 10, 11, 12, 13, 14, 15, 16, 17, 18, 19, 20, 21, 22, 23, 24, 25, 26, 27, 28, 29, 30, 6, 31, 32, 33, 34, 35, 36, 37, 38, 39, 40, 41, 42, 43, 44, 45, 46, 47, 48, 49, 50, 51, 52, 53, 54, 55, 56, 57, 58, 59, 60, 61, 62, 63, 64, 65, 66, 67, 68, 69, 70, 71, 72, 73, 74, 75, 76, 77, 78, 79, 80, 81, 82, 83, 84, 85, 86, 87, 88, 89, 90] (by decide +kernel) (by decide +kernel)
set_option maxRecDepth 20000 in
theorem gX6_sumOverRounds_X6_ofRound : GoodIn wsX6_sumOverRounds (wsV RX6 124 RX6 yX6_ofRound wsX6_ofRound) := goodIn_app (goodIn_of _ (by decide +kernel)) ggX6_sumOverRounds_X6_ofRound
theorem dX6_sumOverRounds_0 : decode cX6_sumOverRounds 0 = .ok (.iconst 0, 1) := by decide +kernel
theorem dX6_sumOverRounds_1 : decode cX6_sumOverRounds 1 = .ok (.istore_n 2, 1) := by decide +kernel
theorem dX6_sumOverRounds_2 : decode cX6_sumOverRounds 2 = .ok (.iconst 0, 1) := by decide +kernel
theorem dX6_sumOverRounds_3 : decode cX6_sumOverRounds 3 = .ok (.istore_n 3, 1) := by decide +kernel
theorem dX6_sumOverRounds_4 : decode cX6_sumOverRounds 4 = .ok (.iload_n 3, 1) := by decide +kernel
theorem dX6_sumOverRounds_5 : decode cX6_sumOverRounds 5 = .ok (.aload_n 0, 1) := by decide +kernel
theorem dX6_sumOverRounds_6 : decode cX6_sumOverRounds 6 = .ok (.getfield 10, 3) := by decide +kernel
theorem dX6_sumOverRounds_9 : decode cX6_sumOverRounds 9 = .ok (.getfield 62, 3) := by decide +kernel
theorem dX6_sumOverRounds_12 : decode cX6_sumOverRounds 12 = .ok (.if_icmp .ge 18, 3) := by decide +kernel
theorem dX6_sumOverRounds_15 : decode cX6_sumOverRounds 15 = .ok (.iload_n 2, 1) := by decide +kernel
theorem dX6_sumOverRounds_16 : decode cX6_sumOverRounds 16 = .ok (.aload_n 0, 1) := by decide +kernel
theorem dX6_sumOverRounds_17 : decode cX6_sumOverRounds 17 = .ok (.iload_n 3, 1) := by decide +kernel
theorem dX6_sumOverRounds_18 : decode cX6_sumOverRounds 18 = .ok (.iload_n 1, 1) := by decide +kernel
theorem dX6_sumOverRounds_19 : decode cX6_sumOverRounds 19 = .ok (.invokevirtual 124, 3) := by decide +kernel
theorem dX6_sumOverRounds_22 : decode cX6_sumOverRounds 22 = .ok (.iadd, 1) := by decide +kernel
theorem dX6_sumOverRounds_23 : decode cX6_sumOverRounds 23 = .ok (.istore_n 2, 1) := by decide +kernel
theorem dX6_sumOverRounds_24 : decode cX6_sumOverRounds 24 = .ok (.iinc 3 1, 3) := by decide +kernel
theorem dX6_sumOverRounds_27 : decode cX6_sumOverRounds 27 = .ok (.goto (-23), 3) := by decide +kernel
theorem dX6_sumOverRounds_30 : decode cX6_sumOverRounds 30 = .ok (.iload_n 2, 1) := by decide +kernel
theorem dX6_sumOverRounds_31 : decode cX6_sumOverRounds 31 = .ok (.ireturn, 1) := by decide +kernel
set_option maxRecDepth 20000 in
theorem ggX6_shapeGoal_X2_at : GoodIn wsX6_shapeGoal wsX2_at := goodIn_r _ [14, 15, 34] (by decide +kernel) (by decide +kernel)
set_option maxRecDepth 20000 in
theorem gX6_shapeGoal_X2_at : GoodIn wsX6_shapeGoal (wsV RX6 114 RX2 yX2_at wsX2_at) := goodIn_app (goodIn_of _ (by decide +kernel)) ggX6_shapeGoal_X2_at
set_option maxRecDepth 20000 in
theorem ggX6_shapeGoal_X6_rawGoal : GoodIn wsX6_shapeGoal wsX6_rawGoal := goodIn_r _ [19, 3, 4, 5, 6, 20, 21, 18, 22] (by decide +kernel) (by decide +kernel)
set_option maxRecDepth 20000 in
theorem gX6_shapeGoal_X6_rawGoal : GoodIn wsX6_shapeGoal (va_wsS RX6 282 yX6_rawGoal wsX6_rawGoal) := goodIn_app (goodIn_of _ (by decide +kernel)) ggX6_shapeGoal_X6_rawGoal
theorem dX6_shapeGoal_0 : decode cX6_shapeGoal 0 = .ok (.aload_n 0, 1) := by decide +kernel
theorem dX6_shapeGoal_1 : decode cX6_shapeGoal 1 = .ok (.getfield 10, 3) := by decide +kernel
theorem dX6_shapeGoal_4 : decode cX6_shapeGoal 4 = .ok (.getfield 146, 3) := by decide +kernel
theorem dX6_shapeGoal_7 : decode cX6_shapeGoal 7 = .ok (.iconst 0, 1) := by decide +kernel
theorem dX6_shapeGoal_8 : decode cX6_shapeGoal 8 = .ok (.invokevirtual 114, 3) := by decide +kernel
theorem dX6_shapeGoal_11 : decode cX6_shapeGoal 11 = .ok (.iload_n 1, 1) := by decide +kernel
theorem dX6_shapeGoal_12 : decode cX6_shapeGoal 12 = .ok (.iload_n 2, 1) := by decide +kernel
theorem dX6_shapeGoal_13 : decode cX6_shapeGoal 13 = .ok (.iload_n 3, 1) := by decide +kernel
theorem dX6_shapeGoal_14 : decode cX6_shapeGoal 14 = .ok (.invokestatic 282, 3) := by decide +kernel
theorem dX6_shapeGoal_17 : decode cX6_shapeGoal 17 = .ok (.istore 4, 2) := by decide +kernel
theorem dX6_shapeGoal_19 : decode cX6_shapeGoal 19 = .ok (.iconst 3, 1) := by decide +kernel
theorem dX6_shapeGoal_20 : decode cX6_shapeGoal 20 = .ok (.bipush 120, 2) := by decide +kernel
theorem dX6_shapeGoal_22 : decode cX6_shapeGoal 22 = .ok (.iload 4, 2) := by decide +kernel
theorem dX6_shapeGoal_24 : decode cX6_shapeGoal 24 = .ok (.invokestatic 286, 3) := by decide +kernel
theorem dX6_shapeGoal_27 : decode cX6_shapeGoal 27 = .ok (.invokestatic 291, 3) := by decide +kernel
theorem dX6_shapeGoal_30 : decode cX6_shapeGoal 30 = .ok (.ireturn, 1) := by decide +kernel
set_option maxRecDepth 20000 in
theorem ggX6_rawGoal_X6_doubled : GoodIn wsX6_rawGoal wsX6_doubled := goodIn_r _ [8] (by decide +kernel) (by decide +kernel)
set_option maxRecDepth 20000 in
theorem gX6_rawGoal_X6_doubled : GoodIn wsX6_rawGoal (va_wsS RX6 294 yX6_doubled wsX6_doubled) := goodIn_app (goodIn_of _ (by decide +kernel)) ggX6_rawGoal_X6_doubled
theorem dX6_rawGoal_0 : decode cX6_rawGoal 0 = .ok (.iload_n 1, 1) := by decide +kernel
theorem dX6_rawGoal_1 : decode cX6_rawGoal 1 = .ok (.tableswitch 67 0 3 #[31, 37, 55, 61], 31) := by decide +kernel
theorem dX6_rawGoal_32 : decode cX6_rawGoal 32 = .ok (.iload_n 0, 1) := by decide +kernel
theorem dX6_rawGoal_33 : decode cX6_rawGoal 33 = .ok (.iload_n 3, 1) := by decide +kernel
theorem dX6_rawGoal_34 : decode cX6_rawGoal 34 = .ok (.iconst 1, 1) := by decide +kernel
theorem dX6_rawGoal_35 : decode cX6_rawGoal 35 = .ok (.iadd, 1) := by decide +kernel
theorem dX6_rawGoal_36 : decode cX6_rawGoal 36 = .ok (.imul, 1) := by decide +kernel
theorem dX6_rawGoal_37 : decode cX6_rawGoal 37 = .ok (.ireturn, 1) := by decide +kernel
theorem dX6_rawGoal_38 : decode cX6_rawGoal 38 = .ok (.iload_n 0, 1) := by decide +kernel
theorem dX6_rawGoal_39 : decode cX6_rawGoal 39 = .ok (.iload_n 3, 1) := by decide +kernel
theorem dX6_rawGoal_40 : decode cX6_rawGoal 40 = .ok (.iconst 1, 1) := by decide +kernel
theorem dX6_rawGoal_41 : decode cX6_rawGoal 41 = .ok (.iadd, 1) := by decide +kernel
theorem dX6_rawGoal_42 : decode cX6_rawGoal 42 = .ok (.iload_n 2, 1) := by decide +kernel
theorem dX6_rawGoal_43 : decode cX6_rawGoal 43 = .ok (.invokestatic 286, 3) := by decide +kernel
theorem dX6_rawGoal_46 : decode cX6_rawGoal 46 = .ok (.iconst 3, 1) := by decide +kernel
theorem dX6_rawGoal_47 : decode cX6_rawGoal 47 = .ok (.iload_n 2, 1) := by decide +kernel
theorem dX6_rawGoal_48 : decode cX6_rawGoal 48 = .ok (.imul, 1) := by decide +kernel
theorem dX6_rawGoal_49 : decode cX6_rawGoal 49 = .ok (.iload_n 3, 1) := by decide +kernel
theorem dX6_rawGoal_50 : decode cX6_rawGoal 50 = .ok (.isub, 1) := by decide +kernel
theorem dX6_rawGoal_51 : decode cX6_rawGoal 51 = .ok (.invokestatic 286, 3) := by decide +kernel
theorem dX6_rawGoal_54 : decode cX6_rawGoal 54 = .ok (.imul, 1) := by decide +kernel
theorem dX6_rawGoal_55 : decode cX6_rawGoal 55 = .ok (.ireturn, 1) := by decide +kernel
theorem dX6_rawGoal_56 : decode cX6_rawGoal 56 = .ok (.iload_n 0, 1) := by decide +kernel
theorem dX6_rawGoal_57 : decode cX6_rawGoal 57 = .ok (.iload_n 3, 1) := by decide +kernel
theorem dX6_rawGoal_58 : decode cX6_rawGoal 58 = .ok (.invokestatic 294, 3) := by decide +kernel
theorem dX6_rawGoal_61 : decode cX6_rawGoal 61 = .ok (.ireturn, 1) := by decide +kernel
theorem dX6_rawGoal_62 : decode cX6_rawGoal 62 = .ok (.iload_n 0, 1) := by decide +kernel
theorem dX6_rawGoal_63 : decode cX6_rawGoal 63 = .ok (.iload_n 3, 1) := by decide +kernel
theorem dX6_rawGoal_64 : decode cX6_rawGoal 64 = .ok (.iload_n 2, 1) := by decide +kernel
theorem dX6_rawGoal_65 : decode cX6_rawGoal 65 = .ok (.imul, 1) := by decide +kernel
theorem dX6_rawGoal_66 : decode cX6_rawGoal 66 = .ok (.iadd, 1) := by decide +kernel
theorem dX6_rawGoal_67 : decode cX6_rawGoal 67 = .ok (.ireturn, 1) := by decide +kernel
theorem dX6_rawGoal_68 : decode cX6_rawGoal 68 = .ok (.iload_n 0, 1) := by decide +kernel
theorem dX6_rawGoal_69 : decode cX6_rawGoal 69 = .ok (.iload_n 3, 1) := by decide +kernel
theorem dX6_rawGoal_70 : decode cX6_rawGoal 70 = .ok (.iconst 1, 1) := by decide +kernel
theorem dX6_rawGoal_71 : decode cX6_rawGoal 71 = .ok (.iadd, 1) := by decide +kernel
theorem dX6_rawGoal_72 : decode cX6_rawGoal 72 = .ok (.iload_n 2, 1) := by decide +kernel
theorem dX6_rawGoal_73 : decode cX6_rawGoal 73 = .ok (.invokestatic 286, 3) := by decide +kernel
theorem dX6_rawGoal_76 : decode cX6_rawGoal 76 = .ok (.imul, 1) := by decide +kernel
theorem dX6_rawGoal_77 : decode cX6_rawGoal 77 = .ok (.ireturn, 1) := by decide +kernel
theorem dX6_doubled_0 : decode cX6_doubled 0 = .ok (.iload_n 0, 1) := by decide +kernel
theorem dX6_doubled_1 : decode cX6_doubled 1 = .ok (.istore_n 2, 1) := by decide +kernel
theorem dX6_doubled_2 : decode cX6_doubled 2 = .ok (.iconst 0, 1) := by decide +kernel
theorem dX6_doubled_3 : decode cX6_doubled 3 = .ok (.istore_n 3, 1) := by decide +kernel
theorem dX6_doubled_4 : decode cX6_doubled 4 = .ok (.iload_n 3, 1) := by decide +kernel
theorem dX6_doubled_5 : decode cX6_doubled 5 = .ok (.iload_n 1, 1) := by decide +kernel
theorem dX6_doubled_6 : decode cX6_doubled 6 = .ok (.if_icmp .ge 19, 3) := by decide +kernel
theorem dX6_doubled_9 : decode cX6_doubled 9 = .ok (.iload_n 2, 1) := by decide +kernel
theorem dX6_doubled_10 : decode cX6_doubled 10 = .ok (.bipush 120, 2) := by decide +kernel
theorem dX6_doubled_12 : decode cX6_doubled 12 = .ok (.if_icmp .gt 13, 3) := by decide +kernel
theorem dX6_doubled_15 : decode cX6_doubled 15 = .ok (.iload_n 2, 1) := by decide +kernel
theorem dX6_doubled_16 : decode cX6_doubled 16 = .ok (.iconst 2, 1) := by decide +kernel
theorem dX6_doubled_17 : decode cX6_doubled 17 = .ok (.imul, 1) := by decide +kernel
theorem dX6_doubled_18 : decode cX6_doubled 18 = .ok (.istore_n 2, 1) := by decide +kernel
theorem dX6_doubled_19 : decode cX6_doubled 19 = .ok (.iinc 3 1, 3) := by decide +kernel
theorem dX6_doubled_22 : decode cX6_doubled 22 = .ok (.goto (-18), 3) := by decide +kernel
theorem dX6_doubled_25 : decode cX6_doubled 25 = .ok (.iload_n 2, 1) := by decide +kernel
theorem dX6_doubled_26 : decode cX6_doubled 26 = .ok (.ireturn, 1) := by decide +kernel
theorem dX6_usedBy_0 : decode cX6_usedBy 0 = .ok (.iload_n 0, 1) := by decide +kernel
theorem dX6_usedBy_1 : decode cX6_usedBy 1 = .ok (.iconst 2, 1) := by decide +kernel
theorem dX6_usedBy_2 : decode cX6_usedBy 2 = .ok (.if_icmp .ne 7, 3) := by decide +kernel
theorem dX6_usedBy_5 : decode cX6_usedBy 5 = .ok (.iconst 2, 1) := by decide +kernel
theorem dX6_usedBy_6 : decode cX6_usedBy 6 = .ok (.goto 4, 3) := by decide +kernel
theorem dX6_usedBy_9 : decode cX6_usedBy 9 = .ok (.iconst 1, 1) := by decide +kernel
theorem dX6_usedBy_10 : decode cX6_usedBy 10 = .ok (.ireturn, 1) := by decide +kernel
theorem dX6_madeBy_0 : decode cX6_madeBy 0 = .ok (.iload_n 0, 1) := by decide +kernel
theorem dX6_madeBy_1 : decode cX6_madeBy 1 = .ok (.iconst 1, 1) := by decide +kernel
theorem dX6_madeBy_2 : decode cX6_madeBy 2 = .ok (.if_icmp .ne 7, 3) := by decide +kernel
theorem dX6_madeBy_5 : decode cX6_madeBy 5 = .ok (.iconst 2, 1) := by decide +kernel
theorem dX6_madeBy_6 : decode cX6_madeBy 6 = .ok (.goto 4, 3) := by decide +kernel
theorem dX6_madeBy_9 : decode cX6_madeBy 9 = .ok (.iconst 1, 1) := by decide +kernel
theorem dX6_madeBy_10 : decode cX6_madeBy 10 = .ok (.ireturn, 1) := by decide +kernel
end
section
theorem dL_cell_0 : decode cL_cell 0 = .ok (.iload_n 1, 1) := by decide +kernel
theorem dL_cell_1 : decode cL_cell 1 = .ok (.aload_n 0, 1) := by decide +kernel
theorem dL_cell_2 : decode cL_cell 2 = .ok (.arraylength, 1) := by decide +kernel
theorem dL_cell_3 : decode cL_cell 3 = .ok (.if_icmp .ge 9, 3) := by decide +kernel
theorem dL_cell_6 : decode cL_cell 6 = .ok (.aload_n 0, 1) := by decide +kernel
theorem dL_cell_7 : decode cL_cell 7 = .ok (.iload_n 1, 1) := by decide +kernel
theorem dL_cell_8 : decode cL_cell 8 = .ok (.iaload, 1) := by decide +kernel
theorem dL_cell_9 : decode cL_cell 9 = .ok (.goto 9, 3) := by decide +kernel
theorem dL_cell_12 : decode cL_cell 12 = .ok (.ldc 7, 2) := by decide +kernel
theorem dL_cell_14 : decode cL_cell 14 = .ok (.iload_n 1, 1) := by decide +kernel
theorem dL_cell_15 : decode cL_cell 15 = .ok (.iconst 3, 1) := by decide +kernel
theorem dL_cell_16 : decode cL_cell 16 = .ok (.iadd, 1) := by decide +kernel
theorem dL_cell_17 : decode cL_cell 17 = .ok (.imul, 1) := by decide +kernel
theorem dL_cell_18 : decode cL_cell 18 = .ok (.ireturn, 1) := by decide +kernel
theorem dL_low_0 : decode cL_low 0 = .ok (.iload_n 0, 1) := by decide +kernel
theorem dL_low_1 : decode cL_low 1 = .ok (.ldc 8, 2) := by decide +kernel
theorem dL_low_3 : decode cL_low 3 = .ok (.iand, 1) := by decide +kernel
theorem dL_low_4 : decode cL_low 4 = .ok (.iload_n 1, 1) := by decide +kernel
theorem dL_low_5 : decode cL_low 5 = .ok (.irem, 1) := by decide +kernel
theorem dL_low_6 : decode cL_low 6 = .ok (.ireturn, 1) := by decide +kernel
set_option maxRecDepth 20000 in
theorem ggL_begins_X6_begin : GoodIn wsL_begins wsX6_begin := goodIn_ca (goodIn_r _ [6, 7, 8, 9, 10, 11, 5, 12, 13, 14, 15, 16, 17, 18, 19, 20, 21, 22, 23, 24, 25, 26, 27, 28, 29, 30, 31, 32, 33, 34, 35, 36, 37, 38, 39, 40, 41, 42, 43, 44, 45, 46, 47, 48, 49, 50, 51, 52, 53, 54, 55, 56, 57, 58, 59, 60, 61, 62, 63, 64, 65, 66, 67, 68, 69, 70, 71, 72, 73, 74, 75, 76, 77, 78, 79, 80, 81, 82, 83, 84, 85, 86, 87, 88, 89, 90] (by decide +kernel) (by decide +kernel)) (goodIn_sub (fun _ h => List.mem_cons_of_mem _ (List.mem_append_right _ h)) (by decide +kernel))
set_option maxRecDepth 20000 in
theorem gL_begins_X6_begin : GoodIn wsL_begins (wsV RL 9 RX6 yX6_begin wsX6_begin) := goodIn_app (goodIn_of _ (by decide +kernel)) ggL_begins_X6_begin
theorem dL_begins_0 : decode cL_begins 0 = .ok (.aload_n 0, 1) := by decide +kernel
theorem dL_begins_1 : decode cL_begins 1 = .ok (.iload_n 1, 1) := by decide +kernel
theorem dL_begins_2 : decode cL_begins 2 = .ok (.invokevirtual 9, 3) := by decide +kernel
theorem dL_begins_5 : decode cL_begins 5 = .ok (.ireturn, 1) := by decide +kernel
theorem dL_begins_6 : decode cL_begins 6 = .ok (.astore_n 2, 1) := by decide +kernel
theorem dL_begins_7 : decode cL_begins 7 = .ok (.sipush (-30001), 3) := by decide +kernel
theorem dL_begins_10 : decode cL_begins 10 = .ok (.ireturn, 1) := by decide +kernel
set_option maxRecDepth 20000 in
theorem ggL_adds_X6_addRound : GoodIn wsL_adds wsX6_addRound := goodIn_ca (goodIn_ca (goodIn_ca (goodIn_r _ [8, 9, 10, 11, 12, 13, 7, 14, 15, 16, 17, 18, 19, 20, 21, 22, 23, 24, 25, 26, 27, 28, 29, 30, 31, 32, 33, 34, 35, 36, 37, 38, 39, 40, 41, 42, 43, 44, 45, 46, 47, 48, 49, 50, 51, 52, 53, 54, 55, 56, 57, 58, 59, 60, 61, 62, 63, 64, 65, 66, 67, 68, 69, 70, 71, 72, 73, 74, 75, 76, 77, 78, 79, 80, 81, 82, 83, 84, 85, 86, 87, 88, 89, 90, 91, 92, 93, 94, 95, 96, 97, 98, 99, 100, 101, 102, 103, 104, 105, 106, 107, 108, 109, 110, 111, 112, 113, 114, 115, 116, 117, 118, 119, 120, 121, 122, 123, 124, 125, 126, 127, 128, 129, 130, 131, 132, 133, 134, 135, 136, 137, 138, 139, 140, 141, 142, 143, 144, 145, 146, 147, 148, 149, 150, 151, 152, 153, 154, 155, 156, 157, 158, 159, 160, 161, 162, 163, 164, 165, 166, 167] (by decide +kernel) (by decide +kernel)) (goodIn_sub (fun _ h => List.mem_cons_of_mem _ (List.mem_append_left _ (List.mem_append_left _ (List.mem_append_right _ h)))) (by decide +kernel))) (goodIn_sub (fun _ h => List.mem_cons_of_mem _ (List.mem_append_left _ (List.mem_append_right _ h))) (by decide +kernel))) (goodIn_sub (fun _ h => List.mem_cons_of_mem _ (List.mem_append_right _ h)) (by decide +kernel))
set_option maxRecDepth 20000 in
theorem gL_adds_X6_addRound : GoodIn wsL_adds (wsV RL 17 RX6 yX6_addRound wsX6_addRound) := goodIn_app (goodIn_of _ (by decide +kernel)) ggL_adds_X6_addRound
theorem dL_adds_0 : decode cL_adds 0 = .ok (.aload_n 0, 1) := by decide +kernel
theorem dL_adds_1 : decode cL_adds 1 = .ok (.iload_n 1, 1) := by decide +kernel
theorem dL_adds_2 : decode cL_adds 2 = .ok (.invokevirtual 17, 3) := by decide +kernel
theorem dL_adds_5 : decode cL_adds 5 = .ok (.ireturn, 1) := by decide +kernel
theorem dL_adds_6 : decode cL_adds 6 = .ok (.astore_n 2, 1) := by decide +kernel
theorem dL_adds_7 : decode cL_adds 7 = .ok (.sipush (-30001), 3) := by decide +kernel
theorem dL_adds_10 : decode cL_adds 10 = .ok (.ireturn, 1) := by decide +kernel
theorem dL_adds_11 : decode cL_adds 11 = .ok (.astore_n 2, 1) := by decide +kernel
theorem dL_adds_12 : decode cL_adds 12 = .ok (.sipush (-30002), 3) := by decide +kernel
theorem dL_adds_15 : decode cL_adds 15 = .ok (.ireturn, 1) := by decide +kernel
theorem dL_adds_16 : decode cL_adds 16 = .ok (.astore_n 2, 1) := by decide +kernel
theorem dL_adds_17 : decode cL_adds 17 = .ok (.sipush (-30003), 3) := by decide +kernel
theorem dL_adds_20 : decode cL_adds 20 = .ok (.ireturn, 1) := by decide +kernel
set_option maxRecDepth 20000 in
theorem ggL_shifts_X6_addShifted : GoodIn wsL_shifts wsX6_addShifted := goodIn_ca (goodIn_ca (goodIn_ca (goodIn_r _ [8, 9, 10, 11, 12, 13, 7, 14, 15, 16, 17, 18, 19, 20, 21, 22, 23, 24, 25, 26, 27, 28, 29, 30, 31, 32, 33, 34, 35, 36, 37, 38, 39, 40, 41, 42, 43, 44, 45, 46, 47, 48, 49, 50, 51, 52, 53, 54, 55, 56, 57, 58, 59, 60, 61, 62, 63, 64, 65, 66, 67, 68, 69, 70, 71, 72, 73, 74, 75, 76, 77, 78, 79, 80, 81, 82, 83, 84, 85, 86, 87, 88, 89, 90, 91, 92, 93, 94, 95, 96, 97, 98, 99, 100, 101, 102, 103, 104, 105, 106, 107, 108, 109, 110, 111, 112, 113, 114, 115, 116, 117, 118, 119, 120, 121, 122, 123, 124, 125, 126, 127, 128, 129, 130, 131, 132, 133, 134, 135, 136, 137, 138, 139, 140, 141, 142, 143, 144, 145, 146, 147, 148, 149, 150, 151, 152, 153, 154, 155, 156, 157, 158, 159, 160, 161, 162, 163, 164] (by decide +kernel) (by decide +kernel)) (goodIn_sub (fun _ h => List.mem_cons_of_mem _ (List.mem_append_left _ (List.mem_append_left _ (List.mem_append_right _ h)))) (by decide +kernel))) (goodIn_sub (fun _ h => List.mem_cons_of_mem _ (List.mem_append_left _ (List.mem_append_right _ h))) (by decide +kernel))) (goodIn_sub (fun _ h => List.mem_cons_of_mem _ (List.mem_append_right _ h)) (by decide +kernel))
set_option maxRecDepth 20000 in
theorem gL_shifts_X6_addShifted : GoodIn wsL_shifts (wsV RL 24 RX6 yX6_addShifted wsX6_addShifted) := goodIn_app (goodIn_of _ (by decide +kernel)) ggL_shifts_X6_addShifted
theorem dL_shifts_0 : decode cL_shifts 0 = .ok (.aload_n 0, 1) := by decide +kernel
theorem dL_shifts_1 : decode cL_shifts 1 = .ok (.iload_n 1, 1) := by decide +kernel
theorem dL_shifts_2 : decode cL_shifts 2 = .ok (.iload_n 2, 1) := by decide +kernel
theorem dL_shifts_3 : decode cL_shifts 3 = .ok (.invokevirtual 24, 3) := by decide +kernel
theorem dL_shifts_6 : decode cL_shifts 6 = .ok (.ireturn, 1) := by decide +kernel
theorem dL_shifts_7 : decode cL_shifts 7 = .ok (.astore_n 3, 1) := by decide +kernel
theorem dL_shifts_8 : decode cL_shifts 8 = .ok (.sipush (-30001), 3) := by decide +kernel
theorem dL_shifts_11 : decode cL_shifts 11 = .ok (.ireturn, 1) := by decide +kernel
theorem dL_shifts_12 : decode cL_shifts 12 = .ok (.astore_n 3, 1) := by decide +kernel
theorem dL_shifts_13 : decode cL_shifts 13 = .ok (.sipush (-30002), 3) := by decide +kernel
theorem dL_shifts_16 : decode cL_shifts 16 = .ok (.ireturn, 1) := by decide +kernel
theorem dL_shifts_17 : decode cL_shifts 17 = .ok (.astore_n 3, 1) := by decide +kernel
theorem dL_shifts_18 : decode cL_shifts 18 = .ok (.sipush (-30003), 3) := by decide +kernel
theorem dL_shifts_21 : decode cL_shifts 21 = .ok (.ireturn, 1) := by decide +kernel
set_option maxRecDepth 20000 in
theorem ggL_mirrors_X6_addMirrored : GoodIn wsL_mirrors wsX6_addMirrored := goodIn_ca (goodIn_ca (goodIn_ca (goodIn_r _ [8, 9, 10, 11, 12, 13, 7, 14, 15, 16, 17, 18, 19, 20, 21, 22, 23, 24, 25, 26, 27, 28, 29, 30, 31, 32, 33, 34, 35, 36, 37, 38, 39, 40, 41, 42, 43, 44, 45, 46, 47, 48, 49, 50, 51, 52, 53, 54, 55, 56, 57, 58, 59, 60, 61, 62, 63, 64, 65, 66, 67, 68, 69, 70, 71, 72, 73, 74, 75, 76, 77, 78, 79, 80, 81, 82, 83, 84, 85, 86, 87, 88, 89, 90, 91, 92, 93, 94, 95, 96, 97, 98, 99, 100, 101, 102, 103, 104, 105, 106, 107, 108, 109, 110, 111, 112, 113, 114, 115, 116, 117, 118, 119, 120, 121, 122, 123, 124, 125, 126, 127, 128, 129, 130, 131, 132, 133, 134, 135, 136, 137, 138, 139, 140, 141, 142, 143, 144, 145, 146, 147, 148, 149, 150, 151, 152, 153, 154, 155, 156, 157, 158, 159, 160, 161] (by decide +kernel) (by decide +kernel)) (goodIn_sub (fun _ h => List.mem_cons_of_mem _ (List.mem_append_left _ (List.mem_append_left _ (List.mem_append_right _ h)))) (by decide +kernel))) (goodIn_sub (fun _ h => List.mem_cons_of_mem _ (List.mem_append_left _ (List.mem_append_right _ h))) (by decide +kernel))) (goodIn_sub (fun _ h => List.mem_cons_of_mem _ (List.mem_append_right _ h)) (by decide +kernel))
set_option maxRecDepth 20000 in
theorem gL_mirrors_X6_addMirrored : GoodIn wsL_mirrors (wsV RL 28 RX6 yX6_addMirrored wsX6_addMirrored) := goodIn_app (goodIn_of _ (by decide +kernel)) ggL_mirrors_X6_addMirrored
theorem dL_mirrors_0 : decode cL_mirrors 0 = .ok (.aload_n 0, 1) := by decide +kernel
theorem dL_mirrors_1 : decode cL_mirrors 1 = .ok (.iload_n 1, 1) := by decide +kernel
theorem dL_mirrors_2 : decode cL_mirrors 2 = .ok (.invokevirtual 28, 3) := by decide +kernel
theorem dL_mirrors_5 : decode cL_mirrors 5 = .ok (.ireturn, 1) := by decide +kernel
theorem dL_mirrors_6 : decode cL_mirrors 6 = .ok (.astore_n 2, 1) := by decide +kernel
theorem dL_mirrors_7 : decode cL_mirrors 7 = .ok (.sipush (-30001), 3) := by decide +kernel
theorem dL_mirrors_10 : decode cL_mirrors 10 = .ok (.ireturn, 1) := by decide +kernel
theorem dL_mirrors_11 : decode cL_mirrors 11 = .ok (.astore_n 2, 1) := by decide +kernel
theorem dL_mirrors_12 : decode cL_mirrors 12 = .ok (.sipush (-30002), 3) := by decide +kernel
theorem dL_mirrors_15 : decode cL_mirrors 15 = .ok (.ireturn, 1) := by decide +kernel
theorem dL_mirrors_16 : decode cL_mirrors 16 = .ok (.astore_n 2, 1) := by decide +kernel
theorem dL_mirrors_17 : decode cL_mirrors 17 = .ok (.sipush (-30003), 3) := by decide +kernel
theorem dL_mirrors_20 : decode cL_mirrors 20 = .ok (.ireturn, 1) := by decide +kernel
set_option maxRecDepth 20000 in
theorem ggL_shapes_X6_addShape : GoodIn wsL_shapes wsX6_addShape := goodIn_ca (goodIn_r _ [6, 7, 8, 9, 10, 11, 12, 5, 13, 14, 15, 16, 17, 18, 19, 20, 21, 22, 23, 24, 25, 26, 27, 28, 29, 30, 31, 32, 33, 34, 35, 36, 37, 38, 39, 40, 41, 42, 43, 44, 45, 46, 47, 48, 49, 50, 51, 52, 53, 54, 55, 56, 57, 58, 59, 60, 61, 62, 63, 64, 65, 66, 67, 68, 69, 70, 71, 72, 73, 74, 75, 76, 77, 78, 79, 80, 81, 82, 83, 84, 85, 86, 87, 88, 89, 90, 91, 92, 93, 94, 95, 96, 97, 98, 99, 100, 101, 102, 103, 104, 105, 106, 107, 108, 109, 110, 111, 112, 113, 114, 115, 116, 117, 118, 119, 120, 121, 122, 123, 124, 125, 126, 127, 128, 129, 130, 131, 132, 133, 134, 135, 136, 137, 138, 139, 140, 141, 142, 143, 144, 145, 146, 147, 148, 149, 150, 151, 152, 153, 154, 155, 156, 157, 158, 159, 160, 161, 162, 163, 164, 165, 166, 167, 168, 169] (by decide +kernel) (by decide +kernel)) (goodIn_sub (fun _ h => List.mem_cons_of_mem _ (List.mem_append_right _ h)) (by decide +kernel))
set_option maxRecDepth 20000 in
theorem gL_shapes_X6_addShape : GoodIn wsL_shapes (wsV RL 31 RX6 yX6_addShape wsX6_addShape) := goodIn_app (goodIn_of _ (by decide +kernel)) ggL_shapes_X6_addShape
theorem dL_shapes_0 : decode cL_shapes 0 = .ok (.aload_n 0, 1) := by decide +kernel
theorem dL_shapes_1 : decode cL_shapes 1 = .ok (.iload_n 1, 1) := by decide +kernel
theorem dL_shapes_2 : decode cL_shapes 2 = .ok (.iload_n 2, 1) := by decide +kernel
theorem dL_shapes_3 : decode cL_shapes 3 = .ok (.iload_n 3, 1) := by decide +kernel
theorem dL_shapes_4 : decode cL_shapes 4 = .ok (.invokevirtual 31, 3) := by decide +kernel
theorem dL_shapes_7 : decode cL_shapes 7 = .ok (.ireturn, 1) := by decide +kernel
theorem dL_shapes_8 : decode cL_shapes 8 = .ok (.astore 4, 2) := by decide +kernel
theorem dL_shapes_10 : decode cL_shapes 10 = .ok (.sipush (-30001), 3) := by decide +kernel
theorem dL_shapes_13 : decode cL_shapes 13 = .ok (.ireturn, 1) := by decide +kernel
set_option maxRecDepth 20000 in
theorem ggL_rips_X6_rip : GoodIn wsL_rips wsX6_rip := goodIn_ca (goodIn_ca (goodIn_r _ [7, 8, 9, 10, 11, 12, 6, 13, 14, 15, 16, 17, 18, 19, 20, 21, 22, 23, 24, 25, 26, 27, 28, 29, 30, 31, 32, 33, 34, 35, 36, 37, 38, 39, 40, 41, 42, 43, 44, 45, 46, 47, 48, 49, 50, 51, 52, 53, 54, 55, 56, 57, 58, 59, 60, 61, 62, 63, 64, 65, 66, 67, 68, 69, 70, 71, 72, 73, 74, 75, 76, 77, 78, 79, 80, 81] (by decide +kernel) (by decide +kernel)) (goodIn_sub (fun _ h => List.mem_cons_of_mem _ (List.mem_append_left _ (List.mem_append_right _ h))) (by decide +kernel))) (goodIn_sub (fun _ h => List.mem_cons_of_mem _ (List.mem_append_right _ h)) (by decide +kernel))
set_option maxRecDepth 20000 in
theorem gL_rips_X6_rip : GoodIn wsL_rips (wsV RL 35 RX6 yX6_rip wsX6_rip) := goodIn_app (goodIn_of _ (by decide +kernel)) ggL_rips_X6_rip
theorem dL_rips_0 : decode cL_rips 0 = .ok (.aload_n 0, 1) := by decide +kernel
theorem dL_rips_1 : decode cL_rips 1 = .ok (.iload_n 1, 1) := by decide +kernel
theorem dL_rips_2 : decode cL_rips 2 = .ok (.invokevirtual 35, 3) := by decide +kernel
theorem dL_rips_5 : decode cL_rips 5 = .ok (.ireturn, 1) := by decide +kernel
theorem dL_rips_6 : decode cL_rips 6 = .ok (.astore_n 2, 1) := by decide +kernel
theorem dL_rips_7 : decode cL_rips 7 = .ok (.sipush (-30001), 3) := by decide +kernel
theorem dL_rips_10 : decode cL_rips 10 = .ok (.ireturn, 1) := by decide +kernel
theorem dL_rips_11 : decode cL_rips 11 = .ok (.astore_n 2, 1) := by decide +kernel
theorem dL_rips_12 : decode cL_rips 12 = .ok (.sipush (-30002), 3) := by decide +kernel
theorem dL_rips_15 : decode cL_rips 15 = .ok (.ireturn, 1) := by decide +kernel
set_option maxRecDepth 20000 in
theorem ggL_yarns_X6_setYarn : GoodIn wsL_yarns wsX6_setYarn := goodIn_ca (goodIn_r _ [6, 7, 8, 9, 10, 11, 5, 12, 13, 14, 15, 16, 17, 18, 19, 20, 21, 22, 23, 24, 25, 26, 27, 28, 29, 30, 31, 32, 33, 34, 35, 36, 37, 38, 39, 40, 41, 42, 43, 44, 45, 46, 47, 48, 49, 50, 51, 52, 53, 54, 55, 56, 57, 58, 59, 60, 61, 62, 63, 64, 65, 66, 67, 68, 69, 70, 71, 72, 73] (by decide +kernel) (by decide +kernel)) (goodIn_sub (fun _ h => List.mem_cons_of_mem _ (List.mem_append_right _ h)) (by decide +kernel))
set_option maxRecDepth 20000 in
theorem gL_yarns_X6_setYarn : GoodIn wsL_yarns (wsV RL 38 RX6 yX6_setYarn wsX6_setYarn) := goodIn_app (goodIn_of _ (by decide +kernel)) ggL_yarns_X6_setYarn
theorem dL_yarns_0 : decode cL_yarns 0 = .ok (.aload_n 0, 1) := by decide +kernel
theorem dL_yarns_1 : decode cL_yarns 1 = .ok (.iload_n 1, 1) := by decide +kernel
theorem dL_yarns_2 : decode cL_yarns 2 = .ok (.iload_n 2, 1) := by decide +kernel
theorem dL_yarns_3 : decode cL_yarns 3 = .ok (.invokevirtual 38, 3) := by decide +kernel
theorem dL_yarns_6 : decode cL_yarns 6 = .ok (.ireturn, 1) := by decide +kernel
theorem dL_yarns_7 : decode cL_yarns 7 = .ok (.astore_n 3, 1) := by decide +kernel
theorem dL_yarns_8 : decode cL_yarns 8 = .ok (.sipush (-30001), 3) := by decide +kernel
theorem dL_yarns_11 : decode cL_yarns 11 = .ok (.ireturn, 1) := by decide +kernel
theorem dL_kind_0 : decode cL_kind 0 = .ok (.aload_n 0, 1) := by decide +kernel
theorem dL_kind_1 : decode cL_kind 1 = .ok (.iconst 4, 1) := by decide +kernel
theorem dL_kind_2 : decode cL_kind 2 = .ok (.iload_n 1, 1) := by decide +kernel
theorem dL_kind_3 : decode cL_kind 3 = .ok (.imul, 1) := by decide +kernel
theorem dL_kind_4 : decode cL_kind 4 = .ok (.iload_n 2, 1) := by decide +kernel
theorem dL_kind_5 : decode cL_kind 5 = .ok (.bipush 32, 2) := by decide +kernel
theorem dL_kind_7 : decode cL_kind 7 = .ok (.idiv, 1) := by decide +kernel
theorem dL_kind_8 : decode cL_kind 8 = .ok (.iadd, 1) := by decide +kernel
theorem dL_kind_9 : decode cL_kind 9 = .ok (.laload, 1) := by decide +kernel
theorem dL_kind_10 : decode cL_kind 10 = .ok (.iload_n 2, 1) := by decide +kernel
theorem dL_kind_11 : decode cL_kind 11 = .ok (.bipush 32, 2) := by decide +kernel
theorem dL_kind_13 : decode cL_kind 13 = .ok (.irem, 1) := by decide +kernel
theorem dL_kind_14 : decode cL_kind 14 = .ok (.iconst 2, 1) := by decide +kernel
theorem dL_kind_15 : decode cL_kind 15 = .ok (.imul, 1) := by decide +kernel
theorem dL_kind_16 : decode cL_kind 16 = .ok (.lshr, 1) := by decide +kernel
theorem dL_kind_17 : decode cL_kind 17 = .ok (.ldc2_w 41, 3) := by decide +kernel
theorem dL_kind_20 : decode cL_kind 20 = .ok (.land, 1) := by decide +kernel
theorem dL_kind_21 : decode cL_kind 21 = .ok (.l2i, 1) := by decide +kernel
theorem dL_kind_22 : decode cL_kind 22 = .ok (.ireturn, 1) := by decide +kernel
set_option maxRecDepth 20000 in
theorem ggL_total_L_kind : GoodIn wsL_total wsL_kind := goodIn_r _ [4, 5] (by decide +kernel) (by decide +kernel)
set_option maxRecDepth 20000 in
theorem gL_total_L_kind : GoodIn wsL_total (va_wsS RL 43 yL_kind wsL_kind) := goodIn_app (goodIn_of _ (by decide +kernel)) ggL_total_L_kind
theorem dL_total_0 : decode cL_total 0 = .ok (.aload_n 0, 1) := by decide +kernel
theorem dL_total_1 : decode cL_total 1 = .ok (.iload_n 2, 1) := by decide +kernel
theorem dL_total_2 : decode cL_total 2 = .ok (.iaload, 1) := by decide +kernel
theorem dL_total_3 : decode cL_total 3 = .ok (.istore_n 3, 1) := by decide +kernel
theorem dL_total_4 : decode cL_total 4 = .ok (.iconst 0, 1) := by decide +kernel
theorem dL_total_5 : decode cL_total 5 = .ok (.istore 4, 2) := by decide +kernel
theorem dL_total_7 : decode cL_total 7 = .ok (.iload 4, 2) := by decide +kernel
theorem dL_total_9 : decode cL_total 9 = .ok (.aload_n 0, 1) := by decide +kernel
theorem dL_total_10 : decode cL_total 10 = .ok (.iload_n 2, 1) := by decide +kernel
theorem dL_total_11 : decode cL_total 11 = .ok (.iaload, 1) := by decide +kernel
theorem dL_total_12 : decode cL_total 12 = .ok (.if_icmp .ge 28, 3) := by decide +kernel
theorem dL_total_15 : decode cL_total 15 = .ok (.iload_n 3, 1) := by decide +kernel
theorem dL_total_16 : decode cL_total 16 = .ok (.aload_n 1, 1) := by decide +kernel
theorem dL_total_17 : decode cL_total 17 = .ok (.iload_n 2, 1) := by decide +kernel
theorem dL_total_18 : decode cL_total 18 = .ok (.iload 4, 2) := by decide +kernel
theorem dL_total_20 : decode cL_total 20 = .ok (.invokestatic 43, 3) := by decide +kernel
theorem dL_total_23 : decode cL_total 23 = .ok (.iconst 1, 1) := by decide +kernel
theorem dL_total_24 : decode cL_total 24 = .ok (.if_icmp .ne 7, 3) := by decide +kernel
theorem dL_total_27 : decode cL_total 27 = .ok (.iconst 1, 1) := by decide +kernel
theorem dL_total_28 : decode cL_total 28 = .ok (.goto 4, 3) := by decide +kernel
theorem dL_total_31 : decode cL_total 31 = .ok (.iconst 0, 1) := by decide +kernel
theorem dL_total_32 : decode cL_total 32 = .ok (.iadd, 1) := by decide +kernel
theorem dL_total_33 : decode cL_total 33 = .ok (.istore_n 3, 1) := by decide +kernel
theorem dL_total_34 : decode cL_total 34 = .ok (.iinc 4 1, 3) := by decide +kernel
theorem dL_total_37 : decode cL_total 37 = .ok (.goto (-30), 3) := by decide +kernel
theorem dL_total_40 : decode cL_total 40 = .ok (.iload_n 3, 1) := by decide +kernel
theorem dL_total_41 : decode cL_total 41 = .ok (.ireturn, 1) := by decide +kernel
set_option maxRecDepth 20000 in
theorem ggL_isMade_L_kind : GoodIn wsL_isMade wsL_kind := goodIn_r _ [4, 5] (by decide +kernel) (by decide +kernel)
set_option maxRecDepth 20000 in
theorem gL_isMade_L_kind : GoodIn wsL_isMade (va_wsS RL 43 yL_kind wsL_kind) := goodIn_app (goodIn_of _ (by decide +kernel)) ggL_isMade_L_kind
theorem dL_isMade_0 : decode cL_isMade 0 = .ok (.iconst 0, 1) := by decide +kernel
theorem dL_isMade_1 : decode cL_isMade 1 = .ok (.istore 5, 2) := by decide +kernel
theorem dL_isMade_3 : decode cL_isMade 3 = .ok (.iconst 0, 1) := by decide +kernel
theorem dL_isMade_4 : decode cL_isMade 4 = .ok (.istore 6, 2) := by decide +kernel
theorem dL_isMade_6 : decode cL_isMade 6 = .ok (.iload 6, 2) := by decide +kernel
theorem dL_isMade_8 : decode cL_isMade 8 = .ok (.aload_n 0, 1) := by decide +kernel
theorem dL_isMade_9 : decode cL_isMade 9 = .ok (.iload_n 2, 1) := by decide +kernel
theorem dL_isMade_10 : decode cL_isMade 10 = .ok (.iaload, 1) := by decide +kernel
theorem dL_isMade_11 : decode cL_isMade 11 = .ok (.if_icmp .ge 67, 3) := by decide +kernel
theorem dL_isMade_14 : decode cL_isMade 14 = .ok (.aload_n 1, 1) := by decide +kernel
theorem dL_isMade_15 : decode cL_isMade 15 = .ok (.iload_n 2, 1) := by decide +kernel
theorem dL_isMade_16 : decode cL_isMade 16 = .ok (.iload 6, 2) := by decide +kernel
theorem dL_isMade_18 : decode cL_isMade 18 = .ok (.invokestatic 43, 3) := by decide +kernel
theorem dL_isMade_21 : decode cL_isMade 21 = .ok (.iconst 1, 1) := by decide +kernel
theorem dL_isMade_22 : decode cL_isMade 22 = .ok (.if_icmp .ne 7, 3) := by decide +kernel
theorem dL_isMade_25 : decode cL_isMade 25 = .ok (.iconst 2, 1) := by decide +kernel
theorem dL_isMade_26 : decode cL_isMade 26 = .ok (.goto 4, 3) := by decide +kernel
theorem dL_isMade_29 : decode cL_isMade 29 = .ok (.iconst 1, 1) := by decide +kernel
theorem dL_isMade_30 : decode cL_isMade 30 = .ok (.istore 7, 2) := by decide +kernel
theorem dL_isMade_32 : decode cL_isMade 32 = .ok (.iload_n 3, 1) := by decide +kernel
theorem dL_isMade_33 : decode cL_isMade 33 = .ok (.iload 5, 2) := by decide +kernel
theorem dL_isMade_35 : decode cL_isMade 35 = .ok (.if_icmp .lt 30, 3) := by decide +kernel
theorem dL_isMade_38 : decode cL_isMade 38 = .ok (.iload_n 3, 1) := by decide +kernel
theorem dL_isMade_39 : decode cL_isMade 39 = .ok (.iload 5, 2) := by decide +kernel
theorem dL_isMade_41 : decode cL_isMade 41 = .ok (.iload 7, 2) := by decide +kernel
theorem dL_isMade_43 : decode cL_isMade 43 = .ok (.iadd, 1) := by decide +kernel
theorem dL_isMade_44 : decode cL_isMade 44 = .ok (.if_icmp .ge 21, 3) := by decide +kernel
theorem dL_isMade_47 : decode cL_isMade 47 = .ok (.aload_n 1, 1) := by decide +kernel
theorem dL_isMade_48 : decode cL_isMade 48 = .ok (.iload_n 2, 1) := by decide +kernel
theorem dL_isMade_49 : decode cL_isMade 49 = .ok (.iload 6, 2) := by decide +kernel
theorem dL_isMade_51 : decode cL_isMade 51 = .ok (.invokestatic 43, 3) := by decide +kernel
theorem dL_isMade_54 : decode cL_isMade 54 = .ok (.iload 4, 2) := by decide +kernel
theorem dL_isMade_56 : decode cL_isMade 56 = .ok (.if_icmp .ne 7, 3) := by decide +kernel
theorem dL_isMade_59 : decode cL_isMade 59 = .ok (.iconst 1, 1) := by decide +kernel
theorem dL_isMade_60 : decode cL_isMade 60 = .ok (.goto 4, 3) := by decide +kernel
theorem dL_isMade_63 : decode cL_isMade 63 = .ok (.iconst 0, 1) := by decide +kernel
theorem dL_isMade_64 : decode cL_isMade 64 = .ok (.ireturn, 1) := by decide +kernel
theorem dL_isMade_65 : decode cL_isMade 65 = .ok (.iload 5, 2) := by decide +kernel
theorem dL_isMade_67 : decode cL_isMade 67 = .ok (.iload 7, 2) := by decide +kernel
theorem dL_isMade_69 : decode cL_isMade 69 = .ok (.iadd, 1) := by decide +kernel
theorem dL_isMade_70 : decode cL_isMade 70 = .ok (.istore 5, 2) := by decide +kernel
theorem dL_isMade_72 : decode cL_isMade 72 = .ok (.iinc 6 1, 3) := by decide +kernel
theorem dL_isMade_75 : decode cL_isMade 75 = .ok (.goto (-69), 3) := by decide +kernel
theorem dL_isMade_78 : decode cL_isMade 78 = .ok (.iconst 0, 1) := by decide +kernel
theorem dL_isMade_79 : decode cL_isMade 79 = .ok (.ireturn, 1) := by decide +kernel
set_option maxRecDepth 20000 in
theorem ggL_stacked_L_kind : GoodIn wsL_stacked wsL_kind := goodIn_r _ [4, 5] (by decide +kernel) (by decide +kernel)
set_option maxRecDepth 20000 in
theorem gL_stacked_L_kind : GoodIn wsL_stacked (va_wsS RL 43 yL_kind wsL_kind) := goodIn_app (goodIn_of _ (by decide +kernel)) ggL_stacked_L_kind
set_option maxRecDepth 20000 in
theorem ggL_stacked_L_isMade : GoodIn wsL_stacked wsL_isMade := goodIn_r _ [8, 1, 2, 3, 4, 5] (by decide +kernel) (by decide +kernel)
set_option maxRecDepth 20000 in
theorem gL_stacked_L_isMade : GoodIn wsL_stacked (va_wsS RL 49 yL_isMade wsL_isMade) := goodIn_app (goodIn_of _ (by decide +kernel)) ggL_stacked_L_isMade
theorem dL_stacked_0 : decode cL_stacked 0 = .ok (.iconst 0, 1) := by decide +kernel
theorem dL_stacked_1 : decode cL_stacked 1 = .ok (.istore_n 3, 1) := by decide +kernel
theorem dL_stacked_2 : decode cL_stacked 2 = .ok (.iconst 0, 1) := by decide +kernel
theorem dL_stacked_3 : decode cL_stacked 3 = .ok (.istore 4, 2) := by decide +kernel
theorem dL_stacked_5 : decode cL_stacked 5 = .ok (.iconst 0, 1) := by decide +kernel
theorem dL_stacked_6 : decode cL_stacked 6 = .ok (.istore 5, 2) := by decide +kernel
theorem dL_stacked_8 : decode cL_stacked 8 = .ok (.iload 5, 2) := by decide +kernel
theorem dL_stacked_10 : decode cL_stacked 10 = .ok (.aload_n 0, 1) := by decide +kernel
theorem dL_stacked_11 : decode cL_stacked 11 = .ok (.iload_n 2, 1) := by decide +kernel
theorem dL_stacked_12 : decode cL_stacked 12 = .ok (.iaload, 1) := by decide +kernel
theorem dL_stacked_13 : decode cL_stacked 13 = .ok (.if_icmp .ge 97, 3) := by decide +kernel
theorem dL_stacked_16 : decode cL_stacked 16 = .ok (.iload_n 2, 1) := by decide +kernel
theorem dL_stacked_17 : decode cL_stacked 17 = .ok (.ifCond .le 93, 3) := by decide +kernel
theorem dL_stacked_20 : decode cL_stacked 20 = .ok (.aload_n 1, 1) := by decide +kernel
theorem dL_stacked_21 : decode cL_stacked 21 = .ok (.iload_n 2, 1) := by decide +kernel
theorem dL_stacked_22 : decode cL_stacked 22 = .ok (.iload 5, 2) := by decide +kernel
theorem dL_stacked_24 : decode cL_stacked 24 = .ok (.invokestatic 43, 3) := by decide +kernel
theorem dL_stacked_27 : decode cL_stacked 27 = .ok (.istore 6, 2) := by decide +kernel
theorem dL_stacked_29 : decode cL_stacked 29 = .ok (.iload 6, 2) := by decide +kernel
theorem dL_stacked_31 : decode cL_stacked 31 = .ok (.iconst 1, 1) := by decide +kernel
theorem dL_stacked_32 : decode cL_stacked 32 = .ok (.if_icmp .ne 17, 3) := by decide +kernel
theorem dL_stacked_35 : decode cL_stacked 35 = .ok (.aload_n 0, 1) := by decide +kernel
theorem dL_stacked_36 : decode cL_stacked 36 = .ok (.aload_n 1, 1) := by decide +kernel
theorem dL_stacked_37 : decode cL_stacked 37 = .ok (.iload_n 2, 1) := by decide +kernel
theorem dL_stacked_38 : decode cL_stacked 38 = .ok (.iconst 1, 1) := by decide +kernel
theorem dL_stacked_39 : decode cL_stacked 39 = .ok (.isub, 1) := by decide +kernel
theorem dL_stacked_40 : decode cL_stacked 40 = .ok (.iload 4, 2) := by decide +kernel
theorem dL_stacked_42 : decode cL_stacked 42 = .ok (.iconst 1, 1) := by decide +kernel
theorem dL_stacked_43 : decode cL_stacked 43 = .ok (.invokestatic 49, 3) := by decide +kernel
theorem dL_stacked_46 : decode cL_stacked 46 = .ok (.ifCond .ne 39, 3) := by decide +kernel
theorem dL_stacked_49 : decode cL_stacked 49 = .ok (.iload 6, 2) := by decide +kernel
theorem dL_stacked_51 : decode cL_stacked 51 = .ok (.iconst 2, 1) := by decide +kernel
theorem dL_stacked_52 : decode cL_stacked 52 = .ok (.if_icmp .ne 36, 3) := by decide +kernel
theorem dL_stacked_55 : decode cL_stacked 55 = .ok (.aload_n 0, 1) := by decide +kernel
theorem dL_stacked_56 : decode cL_stacked 56 = .ok (.aload_n 1, 1) := by decide +kernel
theorem dL_stacked_57 : decode cL_stacked 57 = .ok (.iload_n 2, 1) := by decide +kernel
theorem dL_stacked_58 : decode cL_stacked 58 = .ok (.iconst 1, 1) := by decide +kernel
theorem dL_stacked_59 : decode cL_stacked 59 = .ok (.isub, 1) := by decide +kernel
theorem dL_stacked_60 : decode cL_stacked 60 = .ok (.iload 4, 2) := by decide +kernel
theorem dL_stacked_62 : decode cL_stacked 62 = .ok (.iconst 2, 1) := by decide +kernel
theorem dL_stacked_63 : decode cL_stacked 63 = .ok (.invokestatic 49, 3) := by decide +kernel
theorem dL_stacked_66 : decode cL_stacked 66 = .ok (.ifCond .ne 19, 3) := by decide +kernel
theorem dL_stacked_69 : decode cL_stacked 69 = .ok (.aload_n 0, 1) := by decide +kernel
theorem dL_stacked_70 : decode cL_stacked 70 = .ok (.aload_n 1, 1) := by decide +kernel
theorem dL_stacked_71 : decode cL_stacked 71 = .ok (.iload_n 2, 1) := by decide +kernel
theorem dL_stacked_72 : decode cL_stacked 72 = .ok (.iconst 1, 1) := by decide +kernel
theorem dL_stacked_73 : decode cL_stacked 73 = .ok (.isub, 1) := by decide +kernel
theorem dL_stacked_74 : decode cL_stacked 74 = .ok (.iload 4, 2) := by decide +kernel
theorem dL_stacked_76 : decode cL_stacked 76 = .ok (.iconst 1, 1) := by decide +kernel
theorem dL_stacked_77 : decode cL_stacked 77 = .ok (.iadd, 1) := by decide +kernel
theorem dL_stacked_78 : decode cL_stacked 78 = .ok (.iconst 2, 1) := by decide +kernel
theorem dL_stacked_79 : decode cL_stacked 79 = .ok (.invokestatic 49, 3) := by decide +kernel
theorem dL_stacked_82 : decode cL_stacked 82 = .ok (.ifCond .eq 6, 3) := by decide +kernel
theorem dL_stacked_85 : decode cL_stacked 85 = .ok (.iinc 3 1, 3) := by decide +kernel
theorem dL_stacked_88 : decode cL_stacked 88 = .ok (.iload 4, 2) := by decide +kernel
theorem dL_stacked_90 : decode cL_stacked 90 = .ok (.iload 6, 2) := by decide +kernel
theorem dL_stacked_92 : decode cL_stacked 92 = .ok (.iconst 2, 1) := by decide +kernel
theorem dL_stacked_93 : decode cL_stacked 93 = .ok (.if_icmp .ne 7, 3) := by decide +kernel
theorem dL_stacked_96 : decode cL_stacked 96 = .ok (.iconst 2, 1) := by decide +kernel
theorem dL_stacked_97 : decode cL_stacked 97 = .ok (.goto 4, 3) := by decide +kernel
theorem dL_stacked_100 : decode cL_stacked 100 = .ok (.iconst 1, 1) := by decide +kernel
theorem dL_stacked_101 : decode cL_stacked 101 = .ok (.iadd, 1) := by decide +kernel
theorem dL_stacked_102 : decode cL_stacked 102 = .ok (.istore 4, 2) := by decide +kernel
theorem dL_stacked_104 : decode cL_stacked 104 = .ok (.iinc 5 1, 3) := by decide +kernel
theorem dL_stacked_107 : decode cL_stacked 107 = .ok (.goto (-99), 3) := by decide +kernel
theorem dL_stacked_110 : decode cL_stacked 110 = .ok (.iload_n 3, 1) := by decide +kernel
theorem dL_stacked_111 : decode cL_stacked 111 = .ok (.ireturn, 1) := by decide +kernel
theorem dL_canBe_0 : decode cL_canBe 0 = .ok (.iload_n 0, 1) := by decide +kernel
theorem dL_canBe_1 : decode cL_canBe 1 = .ok (.iconst 2, 1) := by decide +kernel
theorem dL_canBe_2 : decode cL_canBe 2 = .ok (.iload_n 1, 1) := by decide +kernel
theorem dL_canBe_3 : decode cL_canBe 3 = .ok (.imul, 1) := by decide +kernel
theorem dL_canBe_4 : decode cL_canBe 4 = .ok (.if_icmp .gt 14, 3) := by decide +kernel
theorem dL_canBe_7 : decode cL_canBe 7 = .ok (.iconst 2, 1) := by decide +kernel
theorem dL_canBe_8 : decode cL_canBe 8 = .ok (.iload_n 0, 1) := by decide +kernel
theorem dL_canBe_9 : decode cL_canBe 9 = .ok (.imul, 1) := by decide +kernel
theorem dL_canBe_10 : decode cL_canBe 10 = .ok (.iload_n 1, 1) := by decide +kernel
theorem dL_canBe_11 : decode cL_canBe 11 = .ok (.if_icmp .lt 7, 3) := by decide +kernel
theorem dL_canBe_14 : decode cL_canBe 14 = .ok (.iconst 1, 1) := by decide +kernel
theorem dL_canBe_15 : decode cL_canBe 15 = .ok (.goto 4, 3) := by decide +kernel
theorem dL_canBe_18 : decode cL_canBe 18 = .ok (.iconst 0, 1) := by decide +kernel
theorem dL_canBe_19 : decode cL_canBe 19 = .ok (.ireturn, 1) := by decide +kernel
set_option maxRecDepth 20000 in
theorem ggL_lays_L_total : GoodIn wsL_lays wsL_total := goodIn_r _ [5, 6, 7, 4, 8, 9] (by decide +kernel) (by decide +kernel)
set_option maxRecDepth 20000 in
theorem gL_lays_L_total : GoodIn wsL_lays (va_wsS RL 53 yL_total wsL_total) := goodIn_app (goodIn_of _ (by decide +kernel)) ggL_lays_L_total
theorem dL_lays_0 : decode cL_lays 0 = .ok (.aload_n 0, 1) := by decide +kernel
theorem dL_lays_1 : decode cL_lays 1 = .ok (.iconst 0, 1) := by decide +kernel
theorem dL_lays_2 : decode cL_lays 2 = .ok (.iaload, 1) := by decide +kernel
theorem dL_lays_3 : decode cL_lays 3 = .ok (.istore 5, 2) := by decide +kernel
theorem dL_lays_5 : decode cL_lays 5 = .ok (.aload_n 1, 1) := by decide +kernel
theorem dL_lays_6 : decode cL_lays 6 = .ok (.aload_n 2, 1) := by decide +kernel
theorem dL_lays_7 : decode cL_lays 7 = .ok (.iload 5, 2) := by decide +kernel
theorem dL_lays_9 : decode cL_lays 9 = .ok (.iconst 1, 1) := by decide +kernel
theorem dL_lays_10 : decode cL_lays 10 = .ok (.isub, 1) := by decide +kernel
theorem dL_lays_11 : decode cL_lays 11 = .ok (.invokestatic 53, 3) := by decide +kernel
theorem dL_lays_14 : decode cL_lays 14 = .ok (.istore 6, 2) := by decide +kernel
theorem dL_lays_16 : decode cL_lays 16 = .ok (.iload_n 3, 1) := by decide +kernel
theorem dL_lays_17 : decode cL_lays 17 = .ok (.iload 6, 2) := by decide +kernel
theorem dL_lays_19 : decode cL_lays 19 = .ok (.if_icmp .ge 7, 3) := by decide +kernel
theorem dL_lays_22 : decode cL_lays 22 = .ok (.iload_n 3, 1) := by decide +kernel
theorem dL_lays_23 : decode cL_lays 23 = .ok (.goto 5, 3) := by decide +kernel
theorem dL_lays_26 : decode cL_lays 26 = .ok (.iload 6, 2) := by decide +kernel
theorem dL_lays_28 : decode cL_lays 28 = .ok (.istore 7, 2) := by decide +kernel
theorem dL_lays_30 : decode cL_lays 30 = .ok (.iload_n 3, 1) := by decide +kernel
theorem dL_lays_31 : decode cL_lays 31 = .ok (.iload 6, 2) := by decide +kernel
theorem dL_lays_33 : decode cL_lays 33 = .ok (.if_icmp .ge 10, 3) := by decide +kernel
theorem dL_lays_36 : decode cL_lays 36 = .ok (.iload 6, 2) := by decide +kernel
theorem dL_lays_38 : decode cL_lays 38 = .ok (.iload_n 3, 1) := by decide +kernel
theorem dL_lays_39 : decode cL_lays 39 = .ok (.isub, 1) := by decide +kernel
theorem dL_lays_40 : decode cL_lays 40 = .ok (.goto 7, 3) := by decide +kernel
theorem dL_lays_43 : decode cL_lays 43 = .ok (.iload_n 3, 1) := by decide +kernel
theorem dL_lays_44 : decode cL_lays 44 = .ok (.iload 6, 2) := by decide +kernel
theorem dL_lays_46 : decode cL_lays 46 = .ok (.isub, 1) := by decide +kernel
theorem dL_lays_47 : decode cL_lays 47 = .ok (.istore 8, 2) := by decide +kernel
theorem dL_lays_49 : decode cL_lays 49 = .ok (.iconst 0, 1) := by decide +kernel
theorem dL_lays_50 : decode cL_lays 50 = .ok (.istore 9, 2) := by decide +kernel
theorem dL_lays_52 : decode cL_lays 52 = .ok (.iload 9, 2) := by decide +kernel
theorem dL_lays_54 : decode cL_lays 54 = .ok (.iconst 4, 1) := by decide +kernel
theorem dL_lays_55 : decode cL_lays 55 = .ok (.if_icmp .ge 19, 3) := by decide +kernel
theorem dL_lays_58 : decode cL_lays 58 = .ok (.aload_n 2, 1) := by decide +kernel
theorem dL_lays_59 : decode cL_lays 59 = .ok (.iconst 4, 1) := by decide +kernel
theorem dL_lays_60 : decode cL_lays 60 = .ok (.iload 5, 2) := by decide +kernel
theorem dL_lays_62 : decode cL_lays 62 = .ok (.imul, 1) := by decide +kernel
theorem dL_lays_63 : decode cL_lays 63 = .ok (.iload 9, 2) := by decide +kernel
theorem dL_lays_65 : decode cL_lays 65 = .ok (.iadd, 1) := by decide +kernel
theorem dL_lays_66 : decode cL_lays 66 = .ok (.lconst 0, 1) := by decide +kernel
theorem dL_lays_67 : decode cL_lays 67 = .ok (.lastore, 1) := by decide +kernel
theorem dL_lays_68 : decode cL_lays 68 = .ok (.iinc 9 1, 3) := by decide +kernel
theorem dL_lays_71 : decode cL_lays 71 = .ok (.goto (-19), 3) := by decide +kernel
theorem dL_lays_74 : decode cL_lays 74 = .ok (.iconst 0, 1) := by decide +kernel
theorem dL_lays_75 : decode cL_lays 75 = .ok (.istore 9, 2) := by decide +kernel
theorem dL_lays_77 : decode cL_lays 77 = .ok (.iload 9, 2) := by decide +kernel
theorem dL_lays_79 : decode cL_lays 79 = .ok (.iload 7, 2) := by decide +kernel
theorem dL_lays_81 : decode cL_lays 81 = .ok (.if_icmp .ge 176, 3) := by decide +kernel
theorem dL_lays_84 : decode cL_lays 84 = .ok (.iload 4, 2) := by decide +kernel
theorem dL_lays_86 : decode cL_lays 86 = .ok (.ifCond .lt 14, 3) := by decide +kernel
theorem dL_lays_89 : decode cL_lays 89 = .ok (.iload 9, 2) := by decide +kernel
theorem dL_lays_91 : decode cL_lays 91 = .ok (.iload 4, 2) := by decide +kernel
theorem dL_lays_93 : decode cL_lays 93 = .ok (.iadd, 1) := by decide +kernel
theorem dL_lays_94 : decode cL_lays 94 = .ok (.iload 7, 2) := by decide +kernel
theorem dL_lays_96 : decode cL_lays 96 = .ok (.irem, 1) := by decide +kernel
theorem dL_lays_97 : decode cL_lays 97 = .ok (.goto 24, 3) := by decide +kernel
theorem dL_lays_100 : decode cL_lays 100 = .ok (.iload 9, 2) := by decide +kernel
theorem dL_lays_102 : decode cL_lays 102 = .ok (.iload 7, 2) := by decide +kernel
theorem dL_lays_104 : decode cL_lays 104 = .ok (.iconst 2, 1) := by decide +kernel
theorem dL_lays_105 : decode cL_lays 105 = .ok (.idiv, 1) := by decide +kernel
theorem dL_lays_106 : decode cL_lays 106 = .ok (.if_icmp .ge 8, 3) := by decide +kernel
theorem dL_lays_109 : decode cL_lays 109 = .ok (.iload 9, 2) := by decide +kernel
theorem dL_lays_111 : decode cL_lays 111 = .ok (.goto 10, 3) := by decide +kernel
theorem dL_lays_114 : decode cL_lays 114 = .ok (.iload 7, 2) := by decide +kernel
theorem dL_lays_116 : decode cL_lays 116 = .ok (.iconst 1, 1) := by decide +kernel
theorem dL_lays_117 : decode cL_lays 117 = .ok (.isub, 1) := by decide +kernel
theorem dL_lays_118 : decode cL_lays 118 = .ok (.iload 9, 2) := by decide +kernel
theorem dL_lays_120 : decode cL_lays 120 = .ok (.isub, 1) := by decide +kernel
theorem dL_lays_121 : decode cL_lays 121 = .ok (.istore 10, 2) := by decide +kernel
theorem dL_lays_123 : decode cL_lays 123 = .ok (.iload 4, 2) := by decide +kernel
theorem dL_lays_125 : decode cL_lays 125 = .ok (.ifCond .lt 8, 3) := by decide +kernel
theorem dL_lays_128 : decode cL_lays 128 = .ok (.iload 7, 2) := by decide +kernel
theorem dL_lays_130 : decode cL_lays 130 = .ok (.goto 7, 3) := by decide +kernel
theorem dL_lays_133 : decode cL_lays 133 = .ok (.iload 7, 2) := by decide +kernel
theorem dL_lays_135 : decode cL_lays 135 = .ok (.iconst 2, 1) := by decide +kernel
theorem dL_lays_136 : decode cL_lays 136 = .ok (.idiv, 1) := by decide +kernel
theorem dL_lays_137 : decode cL_lays 137 = .ok (.istore 11, 2) := by decide +kernel
theorem dL_lays_139 : decode cL_lays 139 = .ok (.iload 4, 2) := by decide +kernel
theorem dL_lays_141 : decode cL_lays 141 = .ok (.ifCond .lt 8, 3) := by decide +kernel
theorem dL_lays_144 : decode cL_lays 144 = .ok (.iload 8, 2) := by decide +kernel
theorem dL_lays_146 : decode cL_lays 146 = .ok (.goto 7, 3) := by decide +kernel
theorem dL_lays_149 : decode cL_lays 149 = .ok (.iload 8, 2) := by decide +kernel
theorem dL_lays_151 : decode cL_lays 151 = .ok (.iconst 2, 1) := by decide +kernel
theorem dL_lays_152 : decode cL_lays 152 = .ok (.idiv, 1) := by decide +kernel
theorem dL_lays_153 : decode cL_lays 153 = .ok (.istore 12, 2) := by decide +kernel
theorem dL_lays_155 : decode cL_lays 155 = .ok (.iload 10, 2) := by decide +kernel
theorem dL_lays_157 : decode cL_lays 157 = .ok (.iload 11, 2) := by decide +kernel
theorem dL_lays_159 : decode cL_lays 159 = .ok (.if_icmp .lt 19, 3) := by decide +kernel
theorem dL_lays_162 : decode cL_lays 162 = .ok (.iload 8, 2) := by decide +kernel
theorem dL_lays_164 : decode cL_lays 164 = .ok (.iconst 2, 1) := by decide +kernel
theorem dL_lays_165 : decode cL_lays 165 = .ok (.irem, 1) := by decide +kernel
theorem dL_lays_166 : decode cL_lays 166 = .ok (.iconst 1, 1) := by decide +kernel
theorem dL_lays_167 : decode cL_lays 167 = .ok (.if_icmp .ne 7, 3) := by decide +kernel
theorem dL_lays_170 : decode cL_lays 170 = .ok (.iconst 1, 1) := by decide +kernel
theorem dL_lays_171 : decode cL_lays 171 = .ok (.goto 33, 3) := by decide +kernel
theorem dL_lays_174 : decode cL_lays 174 = .ok (.iconst 0, 1) := by decide +kernel
theorem dL_lays_175 : decode cL_lays 175 = .ok (.goto 29, 3) := by decide +kernel
theorem dL_lays_178 : decode cL_lays 178 = .ok (.iload 10, 2) := by decide +kernel
theorem dL_lays_180 : decode cL_lays 180 = .ok (.iconst 1, 1) := by decide +kernel
theorem dL_lays_181 : decode cL_lays 181 = .ok (.iadd, 1) := by decide +kernel
theorem dL_lays_182 : decode cL_lays 182 = .ok (.iload 12, 2) := by decide +kernel
theorem dL_lays_184 : decode cL_lays 184 = .ok (.imul, 1) := by decide +kernel
theorem dL_lays_185 : decode cL_lays 185 = .ok (.iload 11, 2) := by decide +kernel
theorem dL_lays_187 : decode cL_lays 187 = .ok (.idiv, 1) := by decide +kernel
theorem dL_lays_188 : decode cL_lays 188 = .ok (.iload 10, 2) := by decide +kernel
theorem dL_lays_190 : decode cL_lays 190 = .ok (.iload 12, 2) := by decide +kernel
theorem dL_lays_192 : decode cL_lays 192 = .ok (.imul, 1) := by decide +kernel
theorem dL_lays_193 : decode cL_lays 193 = .ok (.iload 11, 2) := by decide +kernel
theorem dL_lays_195 : decode cL_lays 195 = .ok (.idiv, 1) := by decide +kernel
theorem dL_lays_196 : decode cL_lays 196 = .ok (.if_icmp .eq 7, 3) := by decide +kernel
theorem dL_lays_199 : decode cL_lays 199 = .ok (.iconst 1, 1) := by decide +kernel
theorem dL_lays_200 : decode cL_lays 200 = .ok (.goto 4, 3) := by decide +kernel
theorem dL_lays_203 : decode cL_lays 203 = .ok (.iconst 0, 1) := by decide +kernel
theorem dL_lays_204 : decode cL_lays 204 = .ok (.istore 13, 2) := by decide +kernel
theorem dL_lays_206 : decode cL_lays 206 = .ok (.aload_n 2, 1) := by decide +kernel
theorem dL_lays_207 : decode cL_lays 207 = .ok (.iconst 4, 1) := by decide +kernel
theorem dL_lays_208 : decode cL_lays 208 = .ok (.iload 5, 2) := by decide +kernel
theorem dL_lays_210 : decode cL_lays 210 = .ok (.imul, 1) := by decide +kernel
theorem dL_lays_211 : decode cL_lays 211 = .ok (.iload 9, 2) := by decide +kernel
theorem dL_lays_213 : decode cL_lays 213 = .ok (.bipush 32, 2) := by decide +kernel
theorem dL_lays_215 : decode cL_lays 215 = .ok (.idiv, 1) := by decide +kernel
theorem dL_lays_216 : decode cL_lays 216 = .ok (.iadd, 1) := by decide +kernel
theorem dL_lays_217 : decode cL_lays 217 = .ok (.dup2, 1) := by decide +kernel
theorem dL_lays_218 : decode cL_lays 218 = .ok (.laload, 1) := by decide +kernel
theorem dL_lays_219 : decode cL_lays 219 = .ok (.iload 13, 2) := by decide +kernel
theorem dL_lays_221 : decode cL_lays 221 = .ok (.ifCond .eq 19, 3) := by decide +kernel
theorem dL_lays_224 : decode cL_lays 224 = .ok (.iload_n 3, 1) := by decide +kernel
theorem dL_lays_225 : decode cL_lays 225 = .ok (.iload 6, 2) := by decide +kernel
theorem dL_lays_227 : decode cL_lays 227 = .ok (.if_icmp .ge 9, 3) := by decide +kernel
theorem dL_lays_230 : decode cL_lays 230 = .ok (.ldc2_w 57, 3) := by decide +kernel
theorem dL_lays_233 : decode cL_lays 233 = .ok (.goto 8, 3) := by decide +kernel
theorem dL_lays_236 : decode cL_lays 236 = .ok (.lconst 1, 1) := by decide +kernel
theorem dL_lays_237 : decode cL_lays 237 = .ok (.goto 4, 3) := by decide +kernel
theorem dL_lays_240 : decode cL_lays 240 = .ok (.lconst 0, 1) := by decide +kernel
theorem dL_lays_241 : decode cL_lays 241 = .ok (.iload 9, 2) := by decide +kernel
theorem dL_lays_243 : decode cL_lays 243 = .ok (.bipush 32, 2) := by decide +kernel
theorem dL_lays_245 : decode cL_lays 245 = .ok (.irem, 1) := by decide +kernel
theorem dL_lays_246 : decode cL_lays 246 = .ok (.iconst 2, 1) := by decide +kernel
theorem dL_lays_247 : decode cL_lays 247 = .ok (.imul, 1) := by decide +kernel
theorem dL_lays_248 : decode cL_lays 248 = .ok (.lshl, 1) := by decide +kernel
theorem dL_lays_249 : decode cL_lays 249 = .ok (.lor, 1) := by decide +kernel
theorem dL_lays_250 : decode cL_lays 250 = .ok (.lastore, 1) := by decide +kernel
theorem dL_lays_251 : decode cL_lays 251 = .ok (.iinc 9 1, 3) := by decide +kernel
theorem dL_lays_254 : decode cL_lays 254 = .ok (.goto (-177), 3) := by decide +kernel
theorem dL_lays_257 : decode cL_lays 257 = .ok (.aload_n 1, 1) := by decide +kernel
theorem dL_lays_258 : decode cL_lays 258 = .ok (.iload 5, 2) := by decide +kernel
theorem dL_lays_260 : decode cL_lays 260 = .ok (.iload 7, 2) := by decide +kernel
theorem dL_lays_262 : decode cL_lays 262 = .ok (.iastore, 1) := by decide +kernel
theorem dL_lays_263 : decode cL_lays 263 = .ok (.return_, 1) := by decide +kernel
set_option maxRecDepth 20000 in
theorem ggL_best_L_total : GoodIn wsL_best wsL_total := goodIn_r _ [4, 5, 6, 3, 7, 8] (by decide +kernel) (by decide +kernel)
set_option maxRecDepth 20000 in
theorem gL_best_L_total : GoodIn wsL_best (va_wsS RL 53 yL_total wsL_total) := goodIn_app (goodIn_of _ (by decide +kernel)) ggL_best_L_total
set_option maxRecDepth 20000 in
theorem ggL_best_L_lays : GoodIn wsL_best wsL_lays := goodIn_r _ [11, 12, 1, 2, 3, 4, 5, 6, 7, 8] (by decide +kernel) (by decide +kernel)
set_option maxRecDepth 20000 in
theorem gL_best_L_lays : GoodIn wsL_best (va_wsS RL 59 yL_lays wsL_lays) := goodIn_app (goodIn_of _ (by decide +kernel)) ggL_best_L_lays
set_option maxRecDepth 20000 in
theorem ggL_best_L_stacked : GoodIn wsL_best wsL_stacked := goodIn_r _ [15, 5, 6, 3, 7, 8, 16, 17, 18] (by decide +kernel) (by decide +kernel)
set_option maxRecDepth 20000 in
theorem gL_best_L_stacked : GoodIn wsL_best (va_wsS RL 63 yL_stacked wsL_stacked) := goodIn_app (goodIn_of _ (by decide +kernel)) ggL_best_L_stacked
theorem dL_best_0 : decode cL_best 0 = .ok (.aload_n 1, 1) := by decide +kernel
theorem dL_best_1 : decode cL_best 1 = .ok (.aload_n 2, 1) := by decide +kernel
theorem dL_best_2 : decode cL_best 2 = .ok (.aload_n 0, 1) := by decide +kernel
theorem dL_best_3 : decode cL_best 3 = .ok (.iconst 0, 1) := by decide +kernel
theorem dL_best_4 : decode cL_best 4 = .ok (.iaload, 1) := by decide +kernel
theorem dL_best_5 : decode cL_best 5 = .ok (.iconst 1, 1) := by decide +kernel
theorem dL_best_6 : decode cL_best 6 = .ok (.isub, 1) := by decide +kernel
theorem dL_best_7 : decode cL_best 7 = .ok (.invokestatic 53, 3) := by decide +kernel
theorem dL_best_10 : decode cL_best 10 = .ok (.istore 4, 2) := by decide +kernel
theorem dL_best_12 : decode cL_best 12 = .ok (.iconst 0, 1) := by decide +kernel
theorem dL_best_13 : decode cL_best 13 = .ok (.istore 5, 2) := by decide +kernel
theorem dL_best_15 : decode cL_best 15 = .ok (.sipush 999, 3) := by decide +kernel
theorem dL_best_18 : decode cL_best 18 = .ok (.istore 6, 2) := by decide +kernel
theorem dL_best_20 : decode cL_best 20 = .ok (.iconst 0, 1) := by decide +kernel
theorem dL_best_21 : decode cL_best 21 = .ok (.istore 7, 2) := by decide +kernel
theorem dL_best_23 : decode cL_best 23 = .ok (.iload 7, 2) := by decide +kernel
theorem dL_best_25 : decode cL_best 25 = .ok (.iload_n 3, 1) := by decide +kernel
theorem dL_best_26 : decode cL_best 26 = .ok (.iload 4, 2) := by decide +kernel
theorem dL_best_28 : decode cL_best 28 = .ok (.if_icmp .ge 7, 3) := by decide +kernel
theorem dL_best_31 : decode cL_best 31 = .ok (.iload_n 3, 1) := by decide +kernel
theorem dL_best_32 : decode cL_best 32 = .ok (.goto 5, 3) := by decide +kernel
theorem dL_best_35 : decode cL_best 35 = .ok (.iload 4, 2) := by decide +kernel
theorem dL_best_37 : decode cL_best 37 = .ok (.if_icmp .ge 65, 3) := by decide +kernel
theorem dL_best_40 : decode cL_best 40 = .ok (.iload 6, 2) := by decide +kernel
theorem dL_best_42 : decode cL_best 42 = .ok (.ifCond .le 60, 3) := by decide +kernel
theorem dL_best_45 : decode cL_best 45 = .ok (.aload_n 0, 1) := by decide +kernel
theorem dL_best_46 : decode cL_best 46 = .ok (.aload_n 1, 1) := by decide +kernel
theorem dL_best_47 : decode cL_best 47 = .ok (.aload_n 2, 1) := by decide +kernel
theorem dL_best_48 : decode cL_best 48 = .ok (.iload_n 3, 1) := by decide +kernel
theorem dL_best_49 : decode cL_best 49 = .ok (.iload 7, 2) := by decide +kernel
theorem dL_best_51 : decode cL_best 51 = .ok (.invokestatic 59, 3) := by decide +kernel
theorem dL_best_54 : decode cL_best 54 = .ok (.aload_n 1, 1) := by decide +kernel
theorem dL_best_55 : decode cL_best 55 = .ok (.aload_n 2, 1) := by decide +kernel
theorem dL_best_56 : decode cL_best 56 = .ok (.aload_n 0, 1) := by decide +kernel
theorem dL_best_57 : decode cL_best 57 = .ok (.iconst 0, 1) := by decide +kernel
theorem dL_best_58 : decode cL_best 58 = .ok (.iaload, 1) := by decide +kernel
theorem dL_best_59 : decode cL_best 59 = .ok (.invokestatic 63, 3) := by decide +kernel
theorem dL_best_62 : decode cL_best 62 = .ok (.istore 8, 2) := by decide +kernel
theorem dL_best_64 : decode cL_best 64 = .ok (.iload 8, 2) := by decide +kernel
theorem dL_best_66 : decode cL_best 66 = .ok (.iload 6, 2) := by decide +kernel
theorem dL_best_68 : decode cL_best 68 = .ok (.if_icmp .ge 8, 3) := by decide +kernel
theorem dL_best_71 : decode cL_best 71 = .ok (.iload 7, 2) := by decide +kernel
theorem dL_best_73 : decode cL_best 73 = .ok (.goto 5, 3) := by decide +kernel
theorem dL_best_76 : decode cL_best 76 = .ok (.iload 5, 2) := by decide +kernel
theorem dL_best_78 : decode cL_best 78 = .ok (.istore 5, 2) := by decide +kernel
theorem dL_best_80 : decode cL_best 80 = .ok (.iload 8, 2) := by decide +kernel
theorem dL_best_82 : decode cL_best 82 = .ok (.iload 6, 2) := by decide +kernel
theorem dL_best_84 : decode cL_best 84 = .ok (.if_icmp .ge 8, 3) := by decide +kernel
theorem dL_best_87 : decode cL_best 87 = .ok (.iload 8, 2) := by decide +kernel
theorem dL_best_89 : decode cL_best 89 = .ok (.goto 5, 3) := by decide +kernel
theorem dL_best_92 : decode cL_best 92 = .ok (.iload 6, 2) := by decide +kernel
theorem dL_best_94 : decode cL_best 94 = .ok (.istore 6, 2) := by decide +kernel
theorem dL_best_96 : decode cL_best 96 = .ok (.iinc 7 1, 3) := by decide +kernel
theorem dL_best_99 : decode cL_best 99 = .ok (.goto (-76), 3) := by decide +kernel
theorem dL_best_102 : decode cL_best 102 = .ok (.aload_n 0, 1) := by decide +kernel
theorem dL_best_103 : decode cL_best 103 = .ok (.aload_n 1, 1) := by decide +kernel
theorem dL_best_104 : decode cL_best 104 = .ok (.aload_n 2, 1) := by decide +kernel
theorem dL_best_105 : decode cL_best 105 = .ok (.iload_n 3, 1) := by decide +kernel
theorem dL_best_106 : decode cL_best 106 = .ok (.iload 5, 2) := by decide +kernel
theorem dL_best_108 : decode cL_best 108 = .ok (.invokestatic 59, 3) := by decide +kernel
theorem dL_best_111 : decode cL_best 111 = .ok (.aload_n 0, 1) := by decide +kernel
theorem dL_best_112 : decode cL_best 112 = .ok (.iconst 0, 1) := by decide +kernel
theorem dL_best_113 : decode cL_best 113 = .ok (.dup2, 1) := by decide +kernel
theorem dL_best_114 : decode cL_best 114 = .ok (.iaload, 1) := by decide +kernel
theorem dL_best_115 : decode cL_best 115 = .ok (.iconst 1, 1) := by decide +kernel
theorem dL_best_116 : decode cL_best 116 = .ok (.iadd, 1) := by decide +kernel
theorem dL_best_117 : decode cL_best 117 = .ok (.iastore, 1) := by decide +kernel
theorem dL_best_118 : decode cL_best 118 = .ok (.iload 5, 2) := by decide +kernel
theorem dL_best_120 : decode cL_best 120 = .ok (.ireturn, 1) := by decide +kernel
theorem dL_goal_0 : decode cL_goal 0 = .ok (.aload_n 0, 1) := by decide +kernel
theorem dL_goal_1 : decode cL_goal 1 = .ok (.iconst 0, 1) := by decide +kernel
theorem dL_goal_2 : decode cL_goal 2 = .ok (.iaload, 1) := by decide +kernel
theorem dL_goal_3 : decode cL_goal 3 = .ok (.istore 4, 2) := by decide +kernel
theorem dL_goal_5 : decode cL_goal 5 = .ok (.iload_n 1, 1) := by decide +kernel
theorem dL_goal_6 : decode cL_goal 6 = .ok (.iconst 2, 1) := by decide +kernel
theorem dL_goal_7 : decode cL_goal 7 = .ok (.if_icmp .ne 35, 3) := by decide +kernel
theorem dL_goal_10 : decode cL_goal 10 = .ok (.iconst 0, 1) := by decide +kernel
theorem dL_goal_11 : decode cL_goal 11 = .ok (.istore 5, 2) := by decide +kernel
theorem dL_goal_13 : decode cL_goal 13 = .ok (.iload 5, 2) := by decide +kernel
theorem dL_goal_15 : decode cL_goal 15 = .ok (.iload_n 3, 1) := by decide +kernel
theorem dL_goal_16 : decode cL_goal 16 = .ok (.if_icmp .ge 23, 3) := by decide +kernel
theorem dL_goal_19 : decode cL_goal 19 = .ok (.iload 4, 2) := by decide +kernel
theorem dL_goal_21 : decode cL_goal 21 = .ok (.bipush 120, 2) := by decide +kernel
theorem dL_goal_23 : decode cL_goal 23 = .ok (.if_icmp .ge 16, 3) := by decide +kernel
theorem dL_goal_26 : decode cL_goal 26 = .ok (.iload 4, 2) := by decide +kernel
theorem dL_goal_28 : decode cL_goal 28 = .ok (.iload 4, 2) := by decide +kernel
theorem dL_goal_30 : decode cL_goal 30 = .ok (.iadd, 1) := by decide +kernel
theorem dL_goal_31 : decode cL_goal 31 = .ok (.istore 4, 2) := by decide +kernel
theorem dL_goal_33 : decode cL_goal 33 = .ok (.iinc 5 1, 3) := by decide +kernel
theorem dL_goal_36 : decode cL_goal 36 = .ok (.goto (-23), 3) := by decide +kernel
theorem dL_goal_39 : decode cL_goal 39 = .ok (.goto 71, 3) := by decide +kernel
theorem dL_goal_42 : decode cL_goal 42 = .ok (.iload_n 1, 1) := by decide +kernel
theorem dL_goal_43 : decode cL_goal 43 = .ok (.iconst 3, 1) := by decide +kernel
theorem dL_goal_44 : decode cL_goal 44 = .ok (.if_icmp .ne 14, 3) := by decide +kernel
theorem dL_goal_47 : decode cL_goal 47 = .ok (.iload 4, 2) := by decide +kernel
theorem dL_goal_49 : decode cL_goal 49 = .ok (.iload_n 3, 1) := by decide +kernel
theorem dL_goal_50 : decode cL_goal 50 = .ok (.iload_n 2, 1) := by decide +kernel
theorem dL_goal_51 : decode cL_goal 51 = .ok (.imul, 1) := by decide +kernel
theorem dL_goal_52 : decode cL_goal 52 = .ok (.iadd, 1) := by decide +kernel
theorem dL_goal_53 : decode cL_goal 53 = .ok (.istore 4, 2) := by decide +kernel
theorem dL_goal_55 : decode cL_goal 55 = .ok (.goto 55, 3) := by decide +kernel
theorem dL_goal_58 : decode cL_goal 58 = .ok (.iload_n 1, 1) := by decide +kernel
theorem dL_goal_59 : decode cL_goal 59 = .ok (.ifCond .le 12, 3) := by decide +kernel
theorem dL_goal_62 : decode cL_goal 62 = .ok (.iload_n 2, 1) := by decide +kernel
theorem dL_goal_63 : decode cL_goal 63 = .ok (.iload_n 3, 1) := by decide +kernel
theorem dL_goal_64 : decode cL_goal 64 = .ok (.if_icmp .gt 7, 3) := by decide +kernel
theorem dL_goal_67 : decode cL_goal 67 = .ok (.iload_n 2, 1) := by decide +kernel
theorem dL_goal_68 : decode cL_goal 68 = .ok (.goto 6, 3) := by decide +kernel
theorem dL_goal_71 : decode cL_goal 71 = .ok (.iload_n 3, 1) := by decide +kernel
theorem dL_goal_72 : decode cL_goal 72 = .ok (.iconst 1, 1) := by decide +kernel
theorem dL_goal_73 : decode cL_goal 73 = .ok (.iadd, 1) := by decide +kernel
theorem dL_goal_74 : decode cL_goal 74 = .ok (.istore 5, 2) := by decide +kernel
theorem dL_goal_76 : decode cL_goal 76 = .ok (.iload_n 1, 1) := by decide +kernel
theorem dL_goal_77 : decode cL_goal 77 = .ok (.iconst 1, 1) := by decide +kernel
theorem dL_goal_78 : decode cL_goal 78 = .ok (.if_icmp .ne 21, 3) := by decide +kernel
theorem dL_goal_81 : decode cL_goal 81 = .ok (.iconst 3, 1) := by decide +kernel
theorem dL_goal_82 : decode cL_goal 82 = .ok (.iload_n 2, 1) := by decide +kernel
theorem dL_goal_83 : decode cL_goal 83 = .ok (.imul, 1) := by decide +kernel
theorem dL_goal_84 : decode cL_goal 84 = .ok (.iload_n 3, 1) := by decide +kernel
theorem dL_goal_85 : decode cL_goal 85 = .ok (.isub, 1) := by decide +kernel
theorem dL_goal_86 : decode cL_goal 86 = .ok (.iload 5, 2) := by decide +kernel
theorem dL_goal_88 : decode cL_goal 88 = .ok (.if_icmp .ge 11, 3) := by decide +kernel
theorem dL_goal_91 : decode cL_goal 91 = .ok (.iconst 3, 1) := by decide +kernel
theorem dL_goal_92 : decode cL_goal 92 = .ok (.iload_n 2, 1) := by decide +kernel
theorem dL_goal_93 : decode cL_goal 93 = .ok (.imul, 1) := by decide +kernel
theorem dL_goal_94 : decode cL_goal 94 = .ok (.iload_n 3, 1) := by decide +kernel
theorem dL_goal_95 : decode cL_goal 95 = .ok (.isub, 1) := by decide +kernel
theorem dL_goal_96 : decode cL_goal 96 = .ok (.goto 5, 3) := by decide +kernel
theorem dL_goal_99 : decode cL_goal 99 = .ok (.iload 5, 2) := by decide +kernel
theorem dL_goal_101 : decode cL_goal 101 = .ok (.istore 5, 2) := by decide +kernel
theorem dL_goal_103 : decode cL_goal 103 = .ok (.iload 4, 2) := by decide +kernel
theorem dL_goal_105 : decode cL_goal 105 = .ok (.iload 5, 2) := by decide +kernel
theorem dL_goal_107 : decode cL_goal 107 = .ok (.imul, 1) := by decide +kernel
theorem dL_goal_108 : decode cL_goal 108 = .ok (.istore 4, 2) := by decide +kernel
theorem dL_goal_110 : decode cL_goal 110 = .ok (.iload 4, 2) := by decide +kernel
theorem dL_goal_112 : decode cL_goal 112 = .ok (.bipush 120, 2) := by decide +kernel
theorem dL_goal_114 : decode cL_goal 114 = .ok (.if_icmp .le 8, 3) := by decide +kernel
theorem dL_goal_117 : decode cL_goal 117 = .ok (.bipush 120, 2) := by decide +kernel
theorem dL_goal_119 : decode cL_goal 119 = .ok (.goto 15, 3) := by decide +kernel
theorem dL_goal_122 : decode cL_goal 122 = .ok (.iload 4, 2) := by decide +kernel
theorem dL_goal_124 : decode cL_goal 124 = .ok (.iconst 3, 1) := by decide +kernel
theorem dL_goal_125 : decode cL_goal 125 = .ok (.if_icmp .ge 7, 3) := by decide +kernel
theorem dL_goal_128 : decode cL_goal 128 = .ok (.iconst 3, 1) := by decide +kernel
theorem dL_goal_129 : decode cL_goal 129 = .ok (.goto 5, 3) := by decide +kernel
theorem dL_goal_132 : decode cL_goal 132 = .ok (.iload 4, 2) := by decide +kernel
theorem dL_goal_134 : decode cL_goal 134 = .ok (.ireturn, 1) := by decide +kernel
end
section
set_option maxRecDepth 20000 in
theorem ggL_acts_L_low : GoodIn wsL_acts wsL_low := goodIn_r _ [5, 6] (by decide +kernel) (by decide +kernel)
set_option maxRecDepth 20000 in
theorem gL_acts_L_low : GoodIn wsL_acts (va_wsS RL 67 yL_low wsL_low) := goodIn_app (goodIn_of _ (by decide +kernel)) ggL_acts_L_low
set_option maxRecDepth 20000 in
theorem ggL_acts_L_total : GoodIn wsL_acts wsL_total := goodIn_r _ [9, 10, 11, 4, 12, 13] (by decide +kernel) (by decide +kernel)
set_option maxRecDepth 20000 in
theorem gL_acts_L_total : GoodIn wsL_acts (va_wsS RL 53 yL_total wsL_total) := goodIn_app (goodIn_of _ (by decide +kernel)) ggL_acts_L_total
set_option maxRecDepth 20000 in
theorem ggL_acts_L_begins : GoodIn wsL_acts wsL_begins := goodIn_ca (goodIn_r _ [16, 17, 18, 19, 20, 21, 22, 23, 24, 25, 26, 27, 28, 29, 30, 31, 32, 33, 34, 35, 36, 37, 38, 39, 40, 41, 42, 43, 44, 45, 46, 47, 48, 49, 50, 51, 52, 53, 54, 55, 56, 57, 58, 59, 60, 61, 62, 63, 64, 65, 66, 67, 68, 69, 70, 71, 72, 73, 74, 75, 76, 77, 78, 79, 80, 81, 82, 83, 84, 85, 86, 87, 88, 89, 90, 91, 272, 273, 274, 275, 276, 277, 278, 279, 280, 281, 282, 283, 284, 285, 286] (by decide +kernel) (by decide +kernel)) (goodIn_sub (fun _ h => List.mem_cons_of_mem _ (List.mem_append_left _ (List.mem_append_left _ (List.mem_append_right _ h)))) (by decide +kernel))
set_option maxRecDepth 20000 in
theorem gL_acts_L_begins : GoodIn wsL_acts (va_wsS RL 70 yL_begins wsL_begins) := goodIn_app (goodIn_of _ (by decide +kernel)) ggL_acts_L_begins
set_option maxRecDepth 20000 in
theorem ggL_acts_L_yarns : GoodIn wsL_acts wsL_yarns := goodIn_ca (goodIn_r _ [94, 17, 95, 96, 97, 21, 98, 25, 23, 99, 26, 27, 28, 29, 30, 31, 32, 33, 34, 35, 36, 37, 38, 39, 40, 41, 42, 43, 44, 45, 46, 47, 48, 49, 50, 51, 52, 53, 54, 55, 56, 57, 58, 59, 60, 61, 62, 63, 64, 65, 66, 67, 68, 69, 70, 71, 72, 100, 101, 272, 273, 274, 275, 276, 277, 278, 279, 280, 281, 282, 283, 284, 285, 286] (by decide +kernel) (by decide +kernel)) (goodIn_sub (fun _ h => List.mem_cons_of_mem _ (List.mem_append_left _ (List.mem_append_left _ (List.mem_append_right _ h)))) (by decide +kernel))
set_option maxRecDepth 20000 in
theorem gL_acts_L_yarns : GoodIn wsL_acts (va_wsS RL 74 yL_yarns wsL_yarns) := goodIn_app (goodIn_of _ (by decide +kernel)) ggL_acts_L_yarns
set_option maxRecDepth 20000 in
theorem ggL_acts_X6_setSpiral : GoodIn wsL_acts wsX6_setSpiral := goodIn_r _ [105, 25, 23, 106, 31, 32, 33, 34, 35, 36, 37, 38, 39, 40, 41, 42, 43, 44, 45, 46, 47, 48, 49, 50, 51, 52, 53, 54, 55, 56, 57, 58, 59, 60, 61, 62, 63, 64, 65, 66, 67, 68, 69, 70, 71, 72, 272, 273, 274, 275, 276, 277, 278, 279, 280, 281, 282, 283, 284, 285, 286] (by decide +kernel) (by decide +kernel)
set_option maxRecDepth 20000 in
theorem gL_acts_X6_setSpiral : GoodIn wsL_acts (wsV RL 78 RX6 yX6_setSpiral wsX6_setSpiral) := goodIn_app (goodIn_of _ (by decide +kernel)) ggL_acts_X6_setSpiral
set_option maxRecDepth 20000 in
theorem ggL_acts_L_rips : GoodIn wsL_acts wsL_rips := goodIn_ca (goodIn_ca (goodIn_r _ [109, 17, 110, 111, 112, 113, 21, 114, 23, 24, 25, 26, 27, 28, 29, 30, 115, 116, 117, 118, 119, 31, 32, 33, 34, 35, 36, 37, 38, 39, 40, 41, 42, 43, 44, 45, 46, 47, 48, 49, 50, 51, 52, 53, 54, 55, 56, 57, 58, 59, 60, 61, 62, 63, 64, 65, 66, 67, 68, 69, 70, 71, 72, 120, 121, 122, 123, 272, 273, 274, 275, 276, 277, 278, 279, 280, 281, 282, 283, 284, 285, 286] (by decide +kernel) (by decide +kernel)) (goodIn_sub (fun _ h => List.mem_cons_of_mem _ (List.mem_append_left _ (List.mem_append_left _ (List.mem_append_right _ h)))) (by decide +kernel))) (goodIn_sub (fun _ h => List.mem_cons_of_mem _ (List.mem_append_left _ (List.mem_append_right _ h))) (by decide +kernel))
set_option maxRecDepth 20000 in
theorem gL_acts_L_rips : GoodIn wsL_acts (va_wsS RL 82 yL_rips wsL_rips) := goodIn_app (goodIn_of _ (by decide +kernel)) ggL_acts_L_rips
set_option maxRecDepth 20000 in
theorem ggL_acts_L_goal : GoodIn wsL_acts wsL_goal := goodIn_r _ [126] (by decide +kernel) (by decide +kernel)
set_option maxRecDepth 20000 in
theorem gL_acts_L_goal : GoodIn wsL_acts (va_wsS RL 85 yL_goal wsL_goal) := goodIn_app (goodIn_of _ (by decide +kernel)) ggL_acts_L_goal
set_option maxRecDepth 20000 in
theorem ggL_acts_L_canBe : GoodIn wsL_acts wsL_canBe := goodIn_r _ [129] (by decide +kernel) (by decide +kernel)
set_option maxRecDepth 20000 in
theorem gL_acts_L_canBe : GoodIn wsL_acts (va_wsS RL 89 yL_canBe wsL_canBe) := goodIn_app (goodIn_of _ (by decide +kernel)) ggL_acts_L_canBe
set_option maxRecDepth 20000 in
theorem ggL_acts_L_best : GoodIn wsL_acts wsL_best := goodIn_r _ [132, 7, 8, 4, 9, 10, 11, 12, 13, 133, 134, 135, 136, 137, 138, 139, 140, 141, 142] (by decide +kernel) (by decide +kernel)
set_option maxRecDepth 20000 in
theorem gL_acts_L_best : GoodIn wsL_acts (va_wsS RL 93 yL_best wsL_best) := goodIn_app (goodIn_of _ (by decide +kernel)) ggL_acts_L_best
set_option maxRecDepth 20000 in
theorem ggL_acts_L_shapes : GoodIn wsL_acts wsL_shapes := goodIn_ca (goodIn_r _ [145, 17, 146, 147, 148, 21, 149, 25, 23, 24, 150, 151, 152, 153, 154, 155, 156, 26, 27, 28, 29, 30, 31, 32, 33, 34, 35, 36, 37, 38, 39, 40, 41, 42, 43, 44, 45, 46, 47, 48, 49, 50, 51, 52, 53, 54, 55, 56, 57, 58, 59, 60, 61, 62, 63, 64, 65, 66, 67, 68, 69, 70, 71, 72, 157, 158, 159, 160, 161, 162, 163, 164, 165, 100, 166, 167, 168, 169, 170, 171, 120, 121, 122, 123, 172, 173, 174, 175, 176, 177, 178, 179, 180, 181, 182, 183, 184, 185, 186, 187, 188, 189, 190, 191, 192, 193, 194, 195, 196, 197, 198, 199, 200, 201, 202, 203, 204, 86, 87, 205, 206, 207, 208, 209, 210, 211, 212, 213, 214, 215, 216, 217, 218, 219, 220, 221, 222, 223, 78, 79, 80, 81, 224, 83, 84, 85, 225, 89, 90, 91, 272, 273, 274, 275, 276, 277, 278, 279, 280, 281, 282, 283, 284, 285, 286, 287, 288, 289, 290, 291] (by decide +kernel) (by decide +kernel)) (goodIn_sub (fun _ h => List.mem_cons_of_mem _ (List.mem_append_left _ (List.mem_append_left _ (List.mem_append_right _ h)))) (by decide +kernel))
set_option maxRecDepth 20000 in
theorem gL_acts_L_shapes : GoodIn wsL_acts (va_wsS RL 97 yL_shapes wsL_shapes) := goodIn_app (goodIn_of _ (by decide +kernel)) ggL_acts_L_shapes
set_option maxRecDepth 20000 in
theorem ggL_acts_L_adds : GoodIn wsL_acts wsL_adds := goodIn_ca (goodIn_ca (goodIn_ca (goodIn_r _ [228, 17, 110, 229, 230, 231, 232, 21, 233, 150, 23, 25, 234, 235, 236, 26, 27, 28, 29, 30, 237, 238, 239, 240, 24, 115, 116, 117, 118, 119, 120, 121, 122, 50, 123, 55, 52, 72, 64, 65, 61, 66, 67, 172, 173, 174, 175, 176, 177, 178, 179, 180, 181, 182, 183, 184, 185, 186, 187, 188, 189, 69, 70, 71, 241, 242, 243, 244, 245, 31, 32, 33, 34, 35, 36, 37, 38, 39, 40, 41, 42, 43, 44, 45, 46, 47, 48, 49, 51, 53, 54, 56, 57, 58, 59, 60, 62, 63, 68, 190, 191, 192, 193, 194, 195, 196, 197, 198, 199, 200, 201, 202, 203, 204, 86, 87, 205, 206, 207, 208, 209, 210, 211, 212, 213, 214, 215, 216, 217, 218, 219, 220, 221, 222, 223, 78, 79, 80, 81, 100, 224, 83, 84, 85, 225, 89, 90, 91, 272, 273, 274, 275, 276, 277, 278, 279, 280, 281, 282, 286, 287, 288, 289, 290, 283, 284, 285, 291] (by decide +kernel) (by decide +kernel)) (goodIn_sub (fun _ h => List.mem_cons_of_mem _ (List.mem_append_left _ (List.mem_append_left _ (List.mem_append_right _ h)))) (by decide +kernel))) (goodIn_sub (fun _ h => List.mem_cons_of_mem _ (List.mem_append_left _ (List.mem_append_right _ h))) (by decide +kernel))) (goodIn_sub (fun _ h => List.mem_cons_of_mem _ (List.mem_append_right _ h)) (by decide +kernel))
set_option maxRecDepth 20000 in
theorem gL_acts_L_adds : GoodIn wsL_acts (va_wsS RL 101 yL_adds wsL_adds) := goodIn_app (goodIn_of _ (by decide +kernel)) ggL_acts_L_adds
set_option maxRecDepth 20000 in
theorem ggL_acts_L_shifts : GoodIn wsL_acts wsL_shifts := goodIn_ca (goodIn_ca (goodIn_ca (goodIn_r _ [248, 17, 110, 229, 249, 250, 251, 21, 252, 150, 23, 25, 234, 235, 236, 253, 254, 255, 26, 27, 28, 29, 30, 237, 238, 239, 240, 24, 115, 116, 117, 118, 119, 120, 121, 122, 50, 123, 55, 52, 72, 64, 65, 61, 66, 67, 172, 173, 174, 175, 176, 177, 178, 179, 180, 181, 182, 183, 184, 185, 186, 187, 188, 189, 69, 70, 71, 241, 242, 243, 244, 245, 31, 32, 33, 34, 35, 36, 37, 38, 39, 40, 41, 42, 43, 44, 45, 46, 47, 48, 49, 51, 53, 54, 56, 57, 58, 59, 60, 62, 63, 68, 256, 257, 258, 259, 194, 222, 221, 195, 196, 197, 198, 199, 200, 201, 202, 203, 204, 86, 87, 260, 212, 213, 214, 215, 216, 217, 218, 219, 220, 223, 78, 79, 80, 81, 100, 224, 83, 84, 85, 225, 89, 90, 91, 272, 273, 274, 275, 276, 277, 278, 279, 280, 281, 282, 286, 287, 288, 289, 290, 283, 284, 285, 291] (by decide +kernel) (by decide +kernel)) (goodIn_sub (fun _ h => List.mem_cons_of_mem _ (List.mem_append_left _ (List.mem_append_left _ (List.mem_append_right _ h)))) (by decide +kernel))) (goodIn_sub (fun _ h => List.mem_cons_of_mem _ (List.mem_append_left _ (List.mem_append_right _ h))) (by decide +kernel))) (goodIn_sub (fun _ h => List.mem_cons_of_mem _ (List.mem_append_right _ h)) (by decide +kernel))
set_option maxRecDepth 20000 in
theorem gL_acts_L_shifts : GoodIn wsL_acts (va_wsS RL 104 yL_shifts wsL_shifts) := goodIn_app (goodIn_of _ (by decide +kernel)) ggL_acts_L_shifts
set_option maxRecDepth 20000 in
theorem ggL_acts_L_mirrors : GoodIn wsL_acts wsL_mirrors := goodIn_ca (goodIn_ca (goodIn_ca (goodIn_r _ [263, 17, 110, 229, 264, 265, 266, 21, 267, 150, 23, 25, 234, 235, 236, 26, 27, 28, 29, 30, 237, 238, 239, 240, 24, 115, 116, 117, 118, 119, 120, 121, 122, 50, 123, 55, 52, 72, 64, 65, 61, 66, 67, 268, 269, 270, 175, 271, 177, 179, 178, 184, 180, 181, 182, 183, 185, 186, 187, 188, 189, 69, 70, 71, 241, 242, 243, 244, 245, 31, 32, 33, 34, 35, 36, 37, 38, 39, 40, 41, 42, 43, 44, 45, 46, 47, 48, 49, 51, 53, 54, 56, 57, 58, 59, 60, 62, 63, 68, 256, 257, 258, 259, 194, 222, 221, 195, 196, 197, 198, 199, 200, 201, 202, 203, 204, 86, 87, 260, 212, 213, 214, 215, 216, 217, 218, 219, 220, 223, 78, 79, 80, 81, 100, 224, 83, 84, 85, 225, 89, 90, 91, 272, 273, 274, 275, 276, 277, 278, 279, 280, 281, 282, 286, 287, 288, 289, 290, 283, 284, 285, 291] (by decide +kernel) (by decide +kernel)) (goodIn_sub (fun _ h => List.mem_cons_of_mem _ (List.mem_append_left _ (List.mem_append_left _ (List.mem_append_right _ h)))) (by decide +kernel))) (goodIn_sub (fun _ h => List.mem_cons_of_mem _ (List.mem_append_left _ (List.mem_append_right _ h))) (by decide +kernel))) (goodIn_sub (fun _ h => List.mem_cons_of_mem _ (List.mem_append_right _ h)) (by decide +kernel))
set_option maxRecDepth 20000 in
theorem gL_acts_L_mirrors : GoodIn wsL_acts (va_wsS RL 107 yL_mirrors wsL_mirrors) := goodIn_app (goodIn_of _ (by decide +kernel)) ggL_acts_L_mirrors
set_option maxRecDepth 20000 in
theorem ggL_acts_L_lays : GoodIn wsL_acts wsL_lays := goodIn_r _ [135, 136, 7, 8, 4, 9, 10, 11, 12, 13] (by decide +kernel) (by decide +kernel)
set_option maxRecDepth 20000 in
theorem gL_acts_L_lays : GoodIn wsL_acts (va_wsS RL 59 yL_lays wsL_lays) := goodIn_app (goodIn_of _ (by decide +kernel)) ggL_acts_L_lays
set_option maxRecDepth 20000 in
theorem ggL_acts_L_stacked : GoodIn wsL_acts wsL_stacked := goodIn_r _ [139, 10, 11, 4, 12, 13, 140, 141, 142] (by decide +kernel) (by decide +kernel)
set_option maxRecDepth 20000 in
theorem gL_acts_L_stacked : GoodIn wsL_acts (va_wsS RL 63 yL_stacked wsL_stacked) := goodIn_app (goodIn_of _ (by decide +kernel)) ggL_acts_L_stacked
theorem dL_acts_0 : decode cL_acts 0 = .ok (.iload 4, 2) := by decide +kernel
theorem dL_acts_2 : decode cL_acts 2 = .ok (.iconst 5, 1) := by decide +kernel
theorem dL_acts_3 : decode cL_acts 3 = .ok (.ishr, 1) := by decide +kernel
theorem dL_acts_4 : decode cL_acts 4 = .ok (.ldc 66, 2) := by decide +kernel
theorem dL_acts_6 : decode cL_acts 6 = .ok (.invokestatic 67, 3) := by decide +kernel
theorem dL_acts_9 : decode cL_acts 9 = .ok (.istore 5, 2) := by decide +kernel
theorem dL_acts_11 : decode cL_acts 11 = .ok (.iload 4, 2) := by decide +kernel
theorem dL_acts_13 : decode cL_acts 13 = .ok (.bipush 20, 2) := by decide +kernel
theorem dL_acts_15 : decode cL_acts 15 = .ok (.invokestatic 67, 3) := by decide +kernel
theorem dL_acts_18 : decode cL_acts 18 = .ok (.istore 6, 2) := by decide +kernel
theorem dL_acts_20 : decode cL_acts 20 = .ok (.aload_n 2, 1) := by decide +kernel
theorem dL_acts_21 : decode cL_acts 21 = .ok (.aload_n 3, 1) := by decide +kernel
theorem dL_acts_22 : decode cL_acts 22 = .ok (.aload_n 1, 1) := by decide +kernel
theorem dL_acts_23 : decode cL_acts 23 = .ok (.iconst 0, 1) := by decide +kernel
theorem dL_acts_24 : decode cL_acts 24 = .ok (.iaload, 1) := by decide +kernel
theorem dL_acts_25 : decode cL_acts 25 = .ok (.iconst 1, 1) := by decide +kernel
theorem dL_acts_26 : decode cL_acts 26 = .ok (.isub, 1) := by decide +kernel
theorem dL_acts_27 : decode cL_acts 27 = .ok (.invokestatic 53, 3) := by decide +kernel
theorem dL_acts_30 : decode cL_acts 30 = .ok (.istore 7, 2) := by decide +kernel
theorem dL_acts_32 : decode cL_acts 32 = .ok (.iload 5, 2) := by decide +kernel
theorem dL_acts_34 : decode cL_acts 34 = .ok (.iconst 3, 1) := by decide +kernel
theorem dL_acts_35 : decode cL_acts 35 = .ok (.irem, 1) := by decide +kernel
theorem dL_acts_36 : decode cL_acts 36 = .ok (.ifCond .ne 15, 3) := by decide +kernel
theorem dL_acts_39 : decode cL_acts 39 = .ok (.iconst 3, 1) := by decide +kernel
theorem dL_acts_40 : decode cL_acts 40 = .ok (.iload 5, 2) := by decide +kernel
theorem dL_acts_42 : decode cL_acts 42 = .ok (.iconst 3, 1) := by decide +kernel
theorem dL_acts_43 : decode cL_acts 43 = .ok (.idiv, 1) := by decide +kernel
theorem dL_acts_44 : decode cL_acts 44 = .ok (.bipush 118, 2) := by decide +kernel
theorem dL_acts_46 : decode cL_acts 46 = .ok (.irem, 1) := by decide +kernel
theorem dL_acts_47 : decode cL_acts 47 = .ok (.iadd, 1) := by decide +kernel
theorem dL_acts_48 : decode cL_acts 48 = .ok (.goto 16, 3) := by decide +kernel
theorem dL_acts_51 : decode cL_acts 51 = .ok (.iload 7, 2) := by decide +kernel
theorem dL_acts_53 : decode cL_acts 53 = .ok (.iload 5, 2) := by decide +kernel
theorem dL_acts_55 : decode cL_acts 55 = .ok (.iconst 3, 1) := by decide +kernel
theorem dL_acts_56 : decode cL_acts 56 = .ok (.idiv, 1) := by decide +kernel
theorem dL_acts_57 : decode cL_acts 57 = .ok (.bipush 13, 2) := by decide +kernel
theorem dL_acts_59 : decode cL_acts 59 = .ok (.irem, 1) := by decide +kernel
theorem dL_acts_60 : decode cL_acts 60 = .ok (.iadd, 1) := by decide +kernel
theorem dL_acts_61 : decode cL_acts 61 = .ok (.bipush 6, 2) := by decide +kernel
theorem dL_acts_63 : decode cL_acts 63 = .ok (.isub, 1) := by decide +kernel
theorem dL_acts_64 : decode cL_acts 64 = .ok (.istore 8, 2) := by decide +kernel
theorem dL_acts_66 : decode cL_acts 66 = .ok (.iload 8, 2) := by decide +kernel
theorem dL_acts_68 : decode cL_acts 68 = .ok (.iconst 3, 1) := by decide +kernel
theorem dL_acts_69 : decode cL_acts 69 = .ok (.if_icmp .ge 7, 3) := by decide +kernel
theorem dL_acts_72 : decode cL_acts 72 = .ok (.iconst 3, 1) := by decide +kernel
theorem dL_acts_73 : decode cL_acts 73 = .ok (.goto 17, 3) := by decide +kernel
theorem dL_acts_76 : decode cL_acts 76 = .ok (.iload 8, 2) := by decide +kernel
theorem dL_acts_78 : decode cL_acts 78 = .ok (.bipush 120, 2) := by decide +kernel
theorem dL_acts_80 : decode cL_acts 80 = .ok (.if_icmp .le 8, 3) := by decide +kernel
theorem dL_acts_83 : decode cL_acts 83 = .ok (.bipush 120, 2) := by decide +kernel
theorem dL_acts_85 : decode cL_acts 85 = .ok (.goto 5, 3) := by decide +kernel
theorem dL_acts_88 : decode cL_acts 88 = .ok (.iload 8, 2) := by decide +kernel
theorem dL_acts_90 : decode cL_acts 90 = .ok (.istore 8, 2) := by decide +kernel
theorem dL_acts_92 : decode cL_acts 92 = .ok (.iload 6, 2) := by decide +kernel
theorem dL_acts_94 : decode cL_acts 94 = .ok (.ifCond .ne 63, 3) := by decide +kernel
theorem dL_acts_97 : decode cL_acts 97 = .ok (.iconst 3, 1) := by decide +kernel
theorem dL_acts_98 : decode cL_acts 98 = .ok (.iload 5, 2) := by decide +kernel
theorem dL_acts_100 : decode cL_acts 100 = .ok (.bipush 10, 2) := by decide +kernel
theorem dL_acts_102 : decode cL_acts 102 = .ok (.irem, 1) := by decide +kernel
theorem dL_acts_103 : decode cL_acts 103 = .ok (.iadd, 1) := by decide +kernel
theorem dL_acts_104 : decode cL_acts 104 = .ok (.istore 9, 2) := by decide +kernel
theorem dL_acts_106 : decode cL_acts 106 = .ok (.aload_n 1, 1) := by decide +kernel
theorem dL_acts_107 : decode cL_acts 107 = .ok (.iconst 0, 1) := by decide +kernel
theorem dL_acts_108 : decode cL_acts 108 = .ok (.iaload, 1) := by decide +kernel
theorem dL_acts_109 : decode cL_acts 109 = .ok (.istore 10, 2) := by decide +kernel
theorem dL_acts_111 : decode cL_acts 111 = .ok (.aload_n 1, 1) := by decide +kernel
theorem dL_acts_112 : decode cL_acts 112 = .ok (.iconst 0, 1) := by decide +kernel
theorem dL_acts_113 : decode cL_acts 113 = .ok (.iconst 1, 1) := by decide +kernel
theorem dL_acts_114 : decode cL_acts 114 = .ok (.iastore, 1) := by decide +kernel
theorem dL_acts_115 : decode cL_acts 115 = .ok (.aload_n 2, 1) := by decide +kernel
theorem dL_acts_116 : decode cL_acts 116 = .ok (.iconst 0, 1) := by decide +kernel
theorem dL_acts_117 : decode cL_acts 117 = .ok (.iload 9, 2) := by decide +kernel
theorem dL_acts_119 : decode cL_acts 119 = .ok (.iastore, 1) := by decide +kernel
theorem dL_acts_120 : decode cL_acts 120 = .ok (.iconst 0, 1) := by decide +kernel
theorem dL_acts_121 : decode cL_acts 121 = .ok (.istore 11, 2) := by decide +kernel
theorem dL_acts_123 : decode cL_acts 123 = .ok (.iload 11, 2) := by decide +kernel
theorem dL_acts_125 : decode cL_acts 125 = .ok (.iconst 4, 1) := by decide +kernel
theorem dL_acts_126 : decode cL_acts 126 = .ok (.if_icmp .ge 14, 3) := by decide +kernel
theorem dL_acts_129 : decode cL_acts 129 = .ok (.aload_n 3, 1) := by decide +kernel
theorem dL_acts_130 : decode cL_acts 130 = .ok (.iload 11, 2) := by decide +kernel
theorem dL_acts_132 : decode cL_acts 132 = .ok (.lconst 0, 1) := by decide +kernel
theorem dL_acts_133 : decode cL_acts 133 = .ok (.lastore, 1) := by decide +kernel
theorem dL_acts_134 : decode cL_acts 134 = .ok (.iinc 11 1, 3) := by decide +kernel
theorem dL_acts_137 : decode cL_acts 137 = .ok (.goto (-14), 3) := by decide +kernel
theorem dL_acts_140 : decode cL_acts 140 = .ok (.aload_n 0, 1) := by decide +kernel
theorem dL_acts_141 : decode cL_acts 141 = .ok (.iload 9, 2) := by decide +kernel
theorem dL_acts_143 : decode cL_acts 143 = .ok (.invokestatic 70, 3) := by decide +kernel
theorem dL_acts_146 : decode cL_acts 146 = .ok (.iload 10, 2) := by decide +kernel
theorem dL_acts_148 : decode cL_acts 148 = .ok (.if_icmp .ne 7, 3) := by decide +kernel
theorem dL_acts_151 : decode cL_acts 151 = .ok (.iconst 1, 1) := by decide +kernel
theorem dL_acts_152 : decode cL_acts 152 = .ok (.goto 4, 3) := by decide +kernel
theorem dL_acts_155 : decode cL_acts 155 = .ok (.iconst 0, 1) := by decide +kernel
theorem dL_acts_156 : decode cL_acts 156 = .ok (.ireturn, 1) := by decide +kernel
theorem dL_acts_157 : decode cL_acts 157 = .ok (.iload 6, 2) := by decide +kernel
theorem dL_acts_159 : decode cL_acts 159 = .ok (.iconst 1, 1) := by decide +kernel
theorem dL_acts_160 : decode cL_acts 160 = .ok (.if_icmp .ne 55, 3) := by decide +kernel
theorem dL_acts_163 : decode cL_acts 163 = .ok (.iload 5, 2) := by decide +kernel
theorem dL_acts_165 : decode cL_acts 165 = .ok (.iconst 3, 1) := by decide +kernel
theorem dL_acts_166 : decode cL_acts 166 = .ok (.irem, 1) := by decide +kernel
theorem dL_acts_167 : decode cL_acts 167 = .ok (.istore 9, 2) := by decide +kernel
theorem dL_acts_169 : decode cL_acts 169 = .ok (.aload_n 1, 1) := by decide +kernel
theorem dL_acts_170 : decode cL_acts 170 = .ok (.iconst 2, 1) := by decide +kernel
theorem dL_acts_171 : decode cL_acts 171 = .ok (.iload 9, 2) := by decide +kernel
theorem dL_acts_173 : decode cL_acts 173 = .ok (.iadd, 1) := by decide +kernel
theorem dL_acts_174 : decode cL_acts 174 = .ok (.iaload, 1) := by decide +kernel
theorem dL_acts_175 : decode cL_acts 175 = .ok (.istore 10, 2) := by decide +kernel
theorem dL_acts_177 : decode cL_acts 177 = .ok (.aload_n 1, 1) := by decide +kernel
theorem dL_acts_178 : decode cL_acts 178 = .ok (.iconst 2, 1) := by decide +kernel
theorem dL_acts_179 : decode cL_acts 179 = .ok (.iload 9, 2) := by decide +kernel
theorem dL_acts_181 : decode cL_acts 181 = .ok (.iadd, 1) := by decide +kernel
theorem dL_acts_182 : decode cL_acts 182 = .ok (.iconst 1, 1) := by decide +kernel
theorem dL_acts_183 : decode cL_acts 183 = .ok (.iload 5, 2) := by decide +kernel
theorem dL_acts_185 : decode cL_acts 185 = .ok (.iconst 3, 1) := by decide +kernel
theorem dL_acts_186 : decode cL_acts 186 = .ok (.idiv, 1) := by decide +kernel
theorem dL_acts_187 : decode cL_acts 187 = .ok (.bipush 60, 2) := by decide +kernel
theorem dL_acts_189 : decode cL_acts 189 = .ok (.irem, 1) := by decide +kernel
theorem dL_acts_190 : decode cL_acts 190 = .ok (.iadd, 1) := by decide +kernel
theorem dL_acts_191 : decode cL_acts 191 = .ok (.iastore, 1) := by decide +kernel
theorem dL_acts_192 : decode cL_acts 192 = .ok (.aload_n 0, 1) := by decide +kernel
theorem dL_acts_193 : decode cL_acts 193 = .ok (.iload 9, 2) := by decide +kernel
theorem dL_acts_195 : decode cL_acts 195 = .ok (.aload_n 1, 1) := by decide +kernel
theorem dL_acts_196 : decode cL_acts 196 = .ok (.iconst 2, 1) := by decide +kernel
theorem dL_acts_197 : decode cL_acts 197 = .ok (.iload 9, 2) := by decide +kernel
theorem dL_acts_199 : decode cL_acts 199 = .ok (.iadd, 1) := by decide +kernel
theorem dL_acts_200 : decode cL_acts 200 = .ok (.iaload, 1) := by decide +kernel
theorem dL_acts_201 : decode cL_acts 201 = .ok (.invokestatic 74, 3) := by decide +kernel
theorem dL_acts_204 : decode cL_acts 204 = .ok (.iload 10, 2) := by decide +kernel
theorem dL_acts_206 : decode cL_acts 206 = .ok (.if_icmp .ne 7, 3) := by decide +kernel
theorem dL_acts_209 : decode cL_acts 209 = .ok (.iconst 1, 1) := by decide +kernel
theorem dL_acts_210 : decode cL_acts 210 = .ok (.goto 4, 3) := by decide +kernel
theorem dL_acts_213 : decode cL_acts 213 = .ok (.iconst 0, 1) := by decide +kernel
theorem dL_acts_214 : decode cL_acts 214 = .ok (.ireturn, 1) := by decide +kernel
theorem dL_acts_215 : decode cL_acts 215 = .ok (.iload 6, 2) := by decide +kernel
theorem dL_acts_217 : decode cL_acts 217 = .ok (.iconst 2, 1) := by decide +kernel
theorem dL_acts_218 : decode cL_acts 218 = .ok (.if_icmp .ne 52, 3) := by decide +kernel
theorem dL_acts_221 : decode cL_acts 221 = .ok (.aload_n 1, 1) := by decide +kernel
theorem dL_acts_222 : decode cL_acts 222 = .ok (.iconst 1, 1) := by decide +kernel
theorem dL_acts_223 : decode cL_acts 223 = .ok (.iaload, 1) := by decide +kernel
theorem dL_acts_224 : decode cL_acts 224 = .ok (.iconst 1, 1) := by decide +kernel
theorem dL_acts_225 : decode cL_acts 225 = .ok (.if_icmp .ne 7, 3) := by decide +kernel
theorem dL_acts_228 : decode cL_acts 228 = .ok (.iconst 1, 1) := by decide +kernel
theorem dL_acts_229 : decode cL_acts 229 = .ok (.goto 4, 3) := by decide +kernel
theorem dL_acts_232 : decode cL_acts 232 = .ok (.iconst 0, 1) := by decide +kernel
theorem dL_acts_233 : decode cL_acts 233 = .ok (.istore 9, 2) := by decide +kernel
theorem dL_acts_235 : decode cL_acts 235 = .ok (.aload_n 1, 1) := by decide +kernel
theorem dL_acts_236 : decode cL_acts 236 = .ok (.iconst 1, 1) := by decide +kernel
theorem dL_acts_237 : decode cL_acts 237 = .ok (.iload 5, 2) := by decide +kernel
theorem dL_acts_239 : decode cL_acts 239 = .ok (.iconst 2, 1) := by decide +kernel
theorem dL_acts_240 : decode cL_acts 240 = .ok (.irem, 1) := by decide +kernel
theorem dL_acts_241 : decode cL_acts 241 = .ok (.iastore, 1) := by decide +kernel
theorem dL_acts_242 : decode cL_acts 242 = .ok (.aload_n 0, 1) := by decide +kernel
theorem dL_acts_243 : decode cL_acts 243 = .ok (.iload 5, 2) := by decide +kernel
theorem dL_acts_245 : decode cL_acts 245 = .ok (.iconst 2, 1) := by decide +kernel
theorem dL_acts_246 : decode cL_acts 246 = .ok (.irem, 1) := by decide +kernel
theorem dL_acts_247 : decode cL_acts 247 = .ok (.iconst 1, 1) := by decide +kernel
theorem dL_acts_248 : decode cL_acts 248 = .ok (.if_icmp .ne 7, 3) := by decide +kernel
theorem dL_acts_251 : decode cL_acts 251 = .ok (.iconst 1, 1) := by decide +kernel
theorem dL_acts_252 : decode cL_acts 252 = .ok (.goto 4, 3) := by decide +kernel
theorem dL_acts_255 : decode cL_acts 255 = .ok (.iconst 0, 1) := by decide +kernel
theorem dL_acts_256 : decode cL_acts 256 = .ok (.invokevirtual 78, 3) := by decide +kernel
theorem dL_acts_259 : decode cL_acts 259 = .ok (.iload 9, 2) := by decide +kernel
theorem dL_acts_261 : decode cL_acts 261 = .ok (.if_icmp .ne 7, 3) := by decide +kernel
theorem dL_acts_264 : decode cL_acts 264 = .ok (.iconst 1, 1) := by decide +kernel
theorem dL_acts_265 : decode cL_acts 265 = .ok (.goto 4, 3) := by decide +kernel
theorem dL_acts_268 : decode cL_acts 268 = .ok (.iconst 0, 1) := by decide +kernel
theorem dL_acts_269 : decode cL_acts 269 = .ok (.ireturn, 1) := by decide +kernel
theorem dL_acts_270 : decode cL_acts 270 = .ok (.iload 6, 2) := by decide +kernel
theorem dL_acts_272 : decode cL_acts 272 = .ok (.iconst 5, 1) := by decide +kernel
theorem dL_acts_273 : decode cL_acts 273 = .ok (.if_icmp .lt 11, 3) := by decide +kernel
theorem dL_acts_276 : decode cL_acts 276 = .ok (.aload_n 1, 1) := by decide +kernel
theorem dL_acts_277 : decode cL_acts 277 = .ok (.iconst 0, 1) := by decide +kernel
theorem dL_acts_278 : decode cL_acts 278 = .ok (.iaload, 1) := by decide +kernel
theorem dL_acts_279 : decode cL_acts 279 = .ok (.bipush 11, 2) := by decide +kernel
theorem dL_acts_281 : decode cL_acts 281 = .ok (.if_icmp .le 83, 3) := by decide +kernel
theorem dL_acts_284 : decode cL_acts 284 = .ok (.iconst 1, 1) := by decide +kernel
theorem dL_acts_285 : decode cL_acts 285 = .ok (.iload 5, 2) := by decide +kernel
theorem dL_acts_287 : decode cL_acts 287 = .ok (.aload_n 1, 1) := by decide +kernel
theorem dL_acts_288 : decode cL_acts 288 = .ok (.iconst 0, 1) := by decide +kernel
theorem dL_acts_289 : decode cL_acts 289 = .ok (.iaload, 1) := by decide +kernel
theorem dL_acts_290 : decode cL_acts 290 = .ok (.bipush 8, 2) := by decide +kernel
theorem dL_acts_292 : decode cL_acts 292 = .ok (.if_icmp .le 8, 3) := by decide +kernel
theorem dL_acts_295 : decode cL_acts 295 = .ok (.bipush 9, 2) := by decide +kernel
theorem dL_acts_297 : decode cL_acts 297 = .ok (.goto 4, 3) := by decide +kernel
theorem dL_acts_300 : decode cL_acts 300 = .ok (.iconst 3, 1) := by decide +kernel
theorem dL_acts_301 : decode cL_acts 301 = .ok (.irem, 1) := by decide +kernel
theorem dL_acts_302 : decode cL_acts 302 = .ok (.iadd, 1) := by decide +kernel
theorem dL_acts_303 : decode cL_acts 303 = .ok (.istore 9, 2) := by decide +kernel
theorem dL_acts_305 : decode cL_acts 305 = .ok (.iload 9, 2) := by decide +kernel
theorem dL_acts_307 : decode cL_acts 307 = .ok (.aload_n 1, 1) := by decide +kernel
theorem dL_acts_308 : decode cL_acts 308 = .ok (.iconst 0, 1) := by decide +kernel
theorem dL_acts_309 : decode cL_acts 309 = .ok (.iaload, 1) := by decide +kernel
theorem dL_acts_310 : decode cL_acts 310 = .ok (.if_icmp .lt 21, 3) := by decide +kernel
theorem dL_acts_313 : decode cL_acts 313 = .ok (.aload_n 0, 1) := by decide +kernel
theorem dL_acts_314 : decode cL_acts 314 = .ok (.iload 9, 2) := by decide +kernel
theorem dL_acts_316 : decode cL_acts 316 = .ok (.invokestatic 82, 3) := by decide +kernel
theorem dL_acts_319 : decode cL_acts 319 = .ok (.sipush (-30002), 3) := by decide +kernel
theorem dL_acts_322 : decode cL_acts 322 = .ok (.if_icmp .ne 7, 3) := by decide +kernel
theorem dL_acts_325 : decode cL_acts 325 = .ok (.iconst 1, 1) := by decide +kernel
theorem dL_acts_326 : decode cL_acts 326 = .ok (.goto 4, 3) := by decide +kernel
theorem dL_acts_329 : decode cL_acts 329 = .ok (.iconst 0, 1) := by decide +kernel
theorem dL_acts_330 : decode cL_acts 330 = .ok (.ireturn, 1) := by decide +kernel
theorem dL_acts_331 : decode cL_acts 331 = .ok (.aload_n 1, 1) := by decide +kernel
theorem dL_acts_332 : decode cL_acts 332 = .ok (.iconst 0, 1) := by decide +kernel
theorem dL_acts_333 : decode cL_acts 333 = .ok (.dup2, 1) := by decide +kernel
theorem dL_acts_334 : decode cL_acts 334 = .ok (.iaload, 1) := by decide +kernel
theorem dL_acts_335 : decode cL_acts 335 = .ok (.iload 9, 2) := by decide +kernel
theorem dL_acts_337 : decode cL_acts 337 = .ok (.isub, 1) := by decide +kernel
theorem dL_acts_338 : decode cL_acts 338 = .ok (.iastore, 1) := by decide +kernel
theorem dL_acts_339 : decode cL_acts 339 = .ok (.aload_n 0, 1) := by decide +kernel
theorem dL_acts_340 : decode cL_acts 340 = .ok (.iload 9, 2) := by decide +kernel
theorem dL_acts_342 : decode cL_acts 342 = .ok (.invokestatic 82, 3) := by decide +kernel
theorem dL_acts_345 : decode cL_acts 345 = .ok (.aload_n 2, 1) := by decide +kernel
theorem dL_acts_346 : decode cL_acts 346 = .ok (.aload_n 3, 1) := by decide +kernel
theorem dL_acts_347 : decode cL_acts 347 = .ok (.aload_n 1, 1) := by decide +kernel
theorem dL_acts_348 : decode cL_acts 348 = .ok (.iconst 0, 1) := by decide +kernel
theorem dL_acts_349 : decode cL_acts 349 = .ok (.iaload, 1) := by decide +kernel
theorem dL_acts_350 : decode cL_acts 350 = .ok (.iconst 1, 1) := by decide +kernel
theorem dL_acts_351 : decode cL_acts 351 = .ok (.isub, 1) := by decide +kernel
theorem dL_acts_352 : decode cL_acts 352 = .ok (.invokestatic 53, 3) := by decide +kernel
theorem dL_acts_355 : decode cL_acts 355 = .ok (.if_icmp .ne 7, 3) := by decide +kernel
theorem dL_acts_358 : decode cL_acts 358 = .ok (.iconst 1, 1) := by decide +kernel
theorem dL_acts_359 : decode cL_acts 359 = .ok (.goto 4, 3) := by decide +kernel
theorem dL_acts_362 : decode cL_acts 362 = .ok (.iconst 0, 1) := by decide +kernel
theorem dL_acts_363 : decode cL_acts 363 = .ok (.ireturn, 1) := by decide +kernel
theorem dL_acts_364 : decode cL_acts 364 = .ok (.iload 6, 2) := by decide +kernel
theorem dL_acts_366 : decode cL_acts 366 = .ok (.iconst 5, 1) := by decide +kernel
theorem dL_acts_367 : decode cL_acts 367 = .ok (.if_icmp .ne 121, 3) := by decide +kernel
theorem dL_acts_370 : decode cL_acts 370 = .ok (.iload 5, 2) := by decide +kernel
theorem dL_acts_372 : decode cL_acts 372 = .ok (.iconst 5, 1) := by decide +kernel
theorem dL_acts_373 : decode cL_acts 373 = .ok (.irem, 1) := by decide +kernel
theorem dL_acts_374 : decode cL_acts 374 = .ok (.istore 9, 2) := by decide +kernel
theorem dL_acts_376 : decode cL_acts 376 = .ok (.iconst 1, 1) := by decide +kernel
theorem dL_acts_377 : decode cL_acts 377 = .ok (.iload 5, 2) := by decide +kernel
theorem dL_acts_379 : decode cL_acts 379 = .ok (.iconst 5, 1) := by decide +kernel
theorem dL_acts_380 : decode cL_acts 380 = .ok (.idiv, 1) := by decide +kernel
theorem dL_acts_381 : decode cL_acts 381 = .ok (.bipush 20, 2) := by decide +kernel
theorem dL_acts_383 : decode cL_acts 383 = .ok (.irem, 1) := by decide +kernel
theorem dL_acts_384 : decode cL_acts 384 = .ok (.iadd, 1) := by decide +kernel
theorem dL_acts_385 : decode cL_acts 385 = .ok (.istore 10, 2) := by decide +kernel
theorem dL_acts_387 : decode cL_acts 387 = .ok (.iconst 1, 1) := by decide +kernel
theorem dL_acts_388 : decode cL_acts 388 = .ok (.iload 5, 2) := by decide +kernel
theorem dL_acts_390 : decode cL_acts 390 = .ok (.bipush 100, 2) := by decide +kernel
theorem dL_acts_392 : decode cL_acts 392 = .ok (.idiv, 1) := by decide +kernel
theorem dL_acts_393 : decode cL_acts 393 = .ok (.iconst 3, 1) := by decide +kernel
theorem dL_acts_394 : decode cL_acts 394 = .ok (.irem, 1) := by decide +kernel
theorem dL_acts_395 : decode cL_acts 395 = .ok (.iadd, 1) := by decide +kernel
theorem dL_acts_396 : decode cL_acts 396 = .ok (.istore 11, 2) := by decide +kernel
theorem dL_acts_398 : decode cL_acts 398 = .ok (.iconst 0, 1) := by decide +kernel
theorem dL_acts_399 : decode cL_acts 399 = .ok (.istore 12, 2) := by decide +kernel
theorem dL_acts_401 : decode cL_acts 401 = .ok (.iconst 0, 1) := by decide +kernel
theorem dL_acts_402 : decode cL_acts 402 = .ok (.istore 13, 2) := by decide +kernel
theorem dL_acts_404 : decode cL_acts 404 = .ok (.iload 13, 2) := by decide +kernel
theorem dL_acts_406 : decode cL_acts 406 = .ok (.iload 11, 2) := by decide +kernel
theorem dL_acts_408 : decode cL_acts 408 = .ok (.if_icmp .ge 59, 3) := by decide +kernel
theorem dL_acts_411 : decode cL_acts 411 = .ok (.aload_n 2, 1) := by decide +kernel
theorem dL_acts_412 : decode cL_acts 412 = .ok (.iload 9, 2) := by decide +kernel
theorem dL_acts_414 : decode cL_acts 414 = .ok (.iload 10, 2) := by decide +kernel
theorem dL_acts_416 : decode cL_acts 416 = .ok (.aload_n 1, 1) := by decide +kernel
theorem dL_acts_417 : decode cL_acts 417 = .ok (.iconst 0, 1) := by decide +kernel
theorem dL_acts_418 : decode cL_acts 418 = .ok (.iaload, 1) := by decide +kernel
theorem dL_acts_419 : decode cL_acts 419 = .ok (.invokestatic 85, 3) := by decide +kernel
theorem dL_acts_422 : decode cL_acts 422 = .ok (.istore 14, 2) := by decide +kernel
theorem dL_acts_424 : decode cL_acts 424 = .ok (.iload 12, 2) := by decide +kernel
theorem dL_acts_426 : decode cL_acts 426 = .ok (.iload 13, 2) := by decide +kernel
theorem dL_acts_428 : decode cL_acts 428 = .ok (.if_icmp .ne 33, 3) := by decide +kernel
theorem dL_acts_431 : decode cL_acts 431 = .ok (.iload 14, 2) := by decide +kernel
theorem dL_acts_433 : decode cL_acts 433 = .ok (.aload_n 2, 1) := by decide +kernel
theorem dL_acts_434 : decode cL_acts 434 = .ok (.aload_n 3, 1) := by decide +kernel
theorem dL_acts_435 : decode cL_acts 435 = .ok (.aload_n 1, 1) := by decide +kernel
theorem dL_acts_436 : decode cL_acts 436 = .ok (.iconst 0, 1) := by decide +kernel
theorem dL_acts_437 : decode cL_acts 437 = .ok (.iaload, 1) := by decide +kernel
theorem dL_acts_438 : decode cL_acts 438 = .ok (.iconst 1, 1) := by decide +kernel
theorem dL_acts_439 : decode cL_acts 439 = .ok (.isub, 1) := by decide +kernel
theorem dL_acts_440 : decode cL_acts 440 = .ok (.invokestatic 53, 3) := by decide +kernel
theorem dL_acts_443 : decode cL_acts 443 = .ok (.invokestatic 89, 3) := by decide +kernel
theorem dL_acts_446 : decode cL_acts 446 = .ok (.ifCond .eq 15, 3) := by decide +kernel
theorem dL_acts_449 : decode cL_acts 449 = .ok (.aload_n 1, 1) := by decide +kernel
theorem dL_acts_450 : decode cL_acts 450 = .ok (.aload_n 2, 1) := by decide +kernel
theorem dL_acts_451 : decode cL_acts 451 = .ok (.aload_n 3, 1) := by decide +kernel
theorem dL_acts_452 : decode cL_acts 452 = .ok (.iload 14, 2) := by decide +kernel
theorem dL_acts_454 : decode cL_acts 454 = .ok (.invokestatic 93, 3) := by decide +kernel
theorem dL_acts_457 : decode cL_acts 457 = .ok (.pop, 1) := by decide +kernel
theorem dL_acts_458 : decode cL_acts 458 = .ok (.iinc 12 1, 3) := by decide +kernel
theorem dL_acts_461 : decode cL_acts 461 = .ok (.iinc 13 1, 3) := by decide +kernel
theorem dL_acts_464 : decode cL_acts 464 = .ok (.goto (-60), 3) := by decide +kernel
theorem dL_acts_467 : decode cL_acts 467 = .ok (.aload_n 0, 1) := by decide +kernel
theorem dL_acts_468 : decode cL_acts 468 = .ok (.iload 9, 2) := by decide +kernel
theorem dL_acts_470 : decode cL_acts 470 = .ok (.iload 10, 2) := by decide +kernel
theorem dL_acts_472 : decode cL_acts 472 = .ok (.iload 11, 2) := by decide +kernel
theorem dL_acts_474 : decode cL_acts 474 = .ok (.invokestatic 97, 3) := by decide +kernel
theorem dL_acts_477 : decode cL_acts 477 = .ok (.iload 12, 2) := by decide +kernel
theorem dL_acts_479 : decode cL_acts 479 = .ok (.if_icmp .ne 7, 3) := by decide +kernel
theorem dL_acts_482 : decode cL_acts 482 = .ok (.iconst 1, 1) := by decide +kernel
theorem dL_acts_483 : decode cL_acts 483 = .ok (.goto 4, 3) := by decide +kernel
theorem dL_acts_486 : decode cL_acts 486 = .ok (.iconst 0, 1) := by decide +kernel
theorem dL_acts_487 : decode cL_acts 487 = .ok (.ireturn, 1) := by decide +kernel
theorem dL_acts_488 : decode cL_acts 488 = .ok (.iload 8, 2) := by decide +kernel
theorem dL_acts_490 : decode cL_acts 490 = .ok (.iload 7, 2) := by decide +kernel
theorem dL_acts_492 : decode cL_acts 492 = .ok (.invokestatic 89, 3) := by decide +kernel
theorem dL_acts_495 : decode cL_acts 495 = .ok (.ifCond .ne 46, 3) := by decide +kernel
theorem dL_acts_498 : decode cL_acts 498 = .ok (.aload_n 0, 1) := by decide +kernel
theorem dL_acts_499 : decode cL_acts 499 = .ok (.iload 8, 2) := by decide +kernel
theorem dL_acts_501 : decode cL_acts 501 = .ok (.invokestatic 101, 3) := by decide +kernel
theorem dL_acts_504 : decode cL_acts 504 = .ok (.sipush (-30003), 3) := by decide +kernel
theorem dL_acts_507 : decode cL_acts 507 = .ok (.if_icmp .ne 32, 3) := by decide +kernel
theorem dL_acts_510 : decode cL_acts 510 = .ok (.aload_n 0, 1) := by decide +kernel
theorem dL_acts_511 : decode cL_acts 511 = .ok (.iload 8, 2) := by decide +kernel
theorem dL_acts_513 : decode cL_acts 513 = .ok (.iconst 1, 1) := by decide +kernel
theorem dL_acts_514 : decode cL_acts 514 = .ok (.invokestatic 104, 3) := by decide +kernel
theorem dL_acts_517 : decode cL_acts 517 = .ok (.sipush (-30003), 3) := by decide +kernel
theorem dL_acts_520 : decode cL_acts 520 = .ok (.if_icmp .ne 19, 3) := by decide +kernel
theorem dL_acts_523 : decode cL_acts 523 = .ok (.aload_n 0, 1) := by decide +kernel
theorem dL_acts_524 : decode cL_acts 524 = .ok (.iload 8, 2) := by decide +kernel
theorem dL_acts_526 : decode cL_acts 526 = .ok (.invokestatic 107, 3) := by decide +kernel
theorem dL_acts_529 : decode cL_acts 529 = .ok (.sipush (-30003), 3) := by decide +kernel
theorem dL_acts_532 : decode cL_acts 532 = .ok (.if_icmp .ne 7, 3) := by decide +kernel
theorem dL_acts_535 : decode cL_acts 535 = .ok (.iconst 1, 1) := by decide +kernel
theorem dL_acts_536 : decode cL_acts 536 = .ok (.goto 4, 3) := by decide +kernel
theorem dL_acts_539 : decode cL_acts 539 = .ok (.iconst 0, 1) := by decide +kernel
theorem dL_acts_540 : decode cL_acts 540 = .ok (.ireturn, 1) := by decide +kernel
theorem dL_acts_541 : decode cL_acts 541 = .ok (.iload 6, 2) := by decide +kernel
theorem dL_acts_543 : decode cL_acts 543 = .ok (.bipush 9, 2) := by decide +kernel
theorem dL_acts_545 : decode cL_acts 545 = .ok (.if_icmp .ge 72, 3) := by decide +kernel
theorem dL_acts_548 : decode cL_acts 548 = .ok (.iload 5, 2) := by decide +kernel
theorem dL_acts_550 : decode cL_acts 550 = .ok (.bipush 50, 2) := by decide +kernel
theorem dL_acts_552 : decode cL_acts 552 = .ok (.idiv, 1) := by decide +kernel
theorem dL_acts_553 : decode cL_acts 553 = .ok (.bipush 120, 2) := by decide +kernel
theorem dL_acts_555 : decode cL_acts 555 = .ok (.irem, 1) := by decide +kernel
theorem dL_acts_556 : decode cL_acts 556 = .ok (.istore 9, 2) := by decide +kernel
theorem dL_acts_558 : decode cL_acts 558 = .ok (.aload_n 1, 1) := by decide +kernel
theorem dL_acts_559 : decode cL_acts 559 = .ok (.aload_n 2, 1) := by decide +kernel
theorem dL_acts_560 : decode cL_acts 560 = .ok (.aload_n 3, 1) := by decide +kernel
theorem dL_acts_561 : decode cL_acts 561 = .ok (.iload 8, 2) := by decide +kernel
theorem dL_acts_563 : decode cL_acts 563 = .ok (.iload 9, 2) := by decide +kernel
theorem dL_acts_565 : decode cL_acts 565 = .ok (.iload 8, 2) := by decide +kernel
theorem dL_acts_567 : decode cL_acts 567 = .ok (.iload 7, 2) := by decide +kernel
theorem dL_acts_569 : decode cL_acts 569 = .ok (.if_icmp .ge 8, 3) := by decide +kernel
theorem dL_acts_572 : decode cL_acts 572 = .ok (.iload 8, 2) := by decide +kernel
theorem dL_acts_574 : decode cL_acts 574 = .ok (.goto 5, 3) := by decide +kernel
theorem dL_acts_577 : decode cL_acts 577 = .ok (.iload 7, 2) := by decide +kernel
theorem dL_acts_579 : decode cL_acts 579 = .ok (.irem, 1) := by decide +kernel
theorem dL_acts_580 : decode cL_acts 580 = .ok (.invokestatic 59, 3) := by decide +kernel
theorem dL_acts_583 : decode cL_acts 583 = .ok (.aload_n 1, 1) := by decide +kernel
theorem dL_acts_584 : decode cL_acts 584 = .ok (.iconst 0, 1) := by decide +kernel
theorem dL_acts_585 : decode cL_acts 585 = .ok (.dup2, 1) := by decide +kernel
theorem dL_acts_586 : decode cL_acts 586 = .ok (.iaload, 1) := by decide +kernel
theorem dL_acts_587 : decode cL_acts 587 = .ok (.iconst 1, 1) := by decide +kernel
theorem dL_acts_588 : decode cL_acts 588 = .ok (.iadd, 1) := by decide +kernel
theorem dL_acts_589 : decode cL_acts 589 = .ok (.iastore, 1) := by decide +kernel
theorem dL_acts_590 : decode cL_acts 590 = .ok (.aload_n 0, 1) := by decide +kernel
theorem dL_acts_591 : decode cL_acts 591 = .ok (.iload 8, 2) := by decide +kernel
theorem dL_acts_593 : decode cL_acts 593 = .ok (.iload 9, 2) := by decide +kernel
theorem dL_acts_595 : decode cL_acts 595 = .ok (.invokestatic 104, 3) := by decide +kernel
theorem dL_acts_598 : decode cL_acts 598 = .ok (.aload_n 2, 1) := by decide +kernel
theorem dL_acts_599 : decode cL_acts 599 = .ok (.aload_n 3, 1) := by decide +kernel
theorem dL_acts_600 : decode cL_acts 600 = .ok (.aload_n 1, 1) := by decide +kernel
theorem dL_acts_601 : decode cL_acts 601 = .ok (.iconst 0, 1) := by decide +kernel
theorem dL_acts_602 : decode cL_acts 602 = .ok (.iaload, 1) := by decide +kernel
theorem dL_acts_603 : decode cL_acts 603 = .ok (.iconst 1, 1) := by decide +kernel
theorem dL_acts_604 : decode cL_acts 604 = .ok (.isub, 1) := by decide +kernel
theorem dL_acts_605 : decode cL_acts 605 = .ok (.invokestatic 63, 3) := by decide +kernel
theorem dL_acts_608 : decode cL_acts 608 = .ok (.if_icmp .ne 7, 3) := by decide +kernel
theorem dL_acts_611 : decode cL_acts 611 = .ok (.iconst 1, 1) := by decide +kernel
theorem dL_acts_612 : decode cL_acts 612 = .ok (.goto 4, 3) := by decide +kernel
theorem dL_acts_615 : decode cL_acts 615 = .ok (.iconst 0, 1) := by decide +kernel
theorem dL_acts_616 : decode cL_acts 616 = .ok (.ireturn, 1) := by decide +kernel
theorem dL_acts_617 : decode cL_acts 617 = .ok (.iload 6, 2) := by decide +kernel
theorem dL_acts_619 : decode cL_acts 619 = .ok (.bipush 12, 2) := by decide +kernel
theorem dL_acts_621 : decode cL_acts 621 = .ok (.if_icmp .ge 95, 3) := by decide +kernel
theorem dL_acts_624 : decode cL_acts 624 = .ok (.iload 8, 2) := by decide +kernel
theorem dL_acts_626 : decode cL_acts 626 = .ok (.iload 7, 2) := by decide +kernel
theorem dL_acts_628 : decode cL_acts 628 = .ok (.if_icmp .ge 8, 3) := by decide +kernel
theorem dL_acts_631 : decode cL_acts 631 = .ok (.iload 8, 2) := by decide +kernel
theorem dL_acts_633 : decode cL_acts 633 = .ok (.goto 5, 3) := by decide +kernel
theorem dL_acts_636 : decode cL_acts 636 = .ok (.iload 7, 2) := by decide +kernel
theorem dL_acts_638 : decode cL_acts 638 = .ok (.istore 9, 2) := by decide +kernel
theorem dL_acts_640 : decode cL_acts 640 = .ok (.iload 8, 2) := by decide +kernel
theorem dL_acts_642 : decode cL_acts 642 = .ok (.iload 7, 2) := by decide +kernel
theorem dL_acts_644 : decode cL_acts 644 = .ok (.isub, 1) := by decide +kernel
theorem dL_acts_645 : decode cL_acts 645 = .ok (.iconst 2, 1) := by decide +kernel
theorem dL_acts_646 : decode cL_acts 646 = .ok (.irem, 1) := by decide +kernel
theorem dL_acts_647 : decode cL_acts 647 = .ok (.ifCond .eq 28, 3) := by decide +kernel
theorem dL_acts_650 : decode cL_acts 650 = .ok (.iload 9, 2) := by decide +kernel
theorem dL_acts_652 : decode cL_acts 652 = .ok (.iconst 2, 1) := by decide +kernel
theorem dL_acts_653 : decode cL_acts 653 = .ok (.irem, 1) := by decide +kernel
theorem dL_acts_654 : decode cL_acts 654 = .ok (.ifCond .ne 21, 3) := by decide +kernel
theorem dL_acts_657 : decode cL_acts 657 = .ok (.aload_n 0, 1) := by decide +kernel
theorem dL_acts_658 : decode cL_acts 658 = .ok (.iload 8, 2) := by decide +kernel
theorem dL_acts_660 : decode cL_acts 660 = .ok (.invokestatic 107, 3) := by decide +kernel
theorem dL_acts_663 : decode cL_acts 663 = .ok (.sipush (-30003), 3) := by decide +kernel
theorem dL_acts_666 : decode cL_acts 666 = .ok (.if_icmp .ne 7, 3) := by decide +kernel
theorem dL_acts_669 : decode cL_acts 669 = .ok (.iconst 1, 1) := by decide +kernel
theorem dL_acts_670 : decode cL_acts 670 = .ok (.goto 4, 3) := by decide +kernel
theorem dL_acts_673 : decode cL_acts 673 = .ok (.iconst 0, 1) := by decide +kernel
theorem dL_acts_674 : decode cL_acts 674 = .ok (.ireturn, 1) := by decide +kernel
theorem dL_acts_675 : decode cL_acts 675 = .ok (.aload_n 1, 1) := by decide +kernel
theorem dL_acts_676 : decode cL_acts 676 = .ok (.aload_n 2, 1) := by decide +kernel
theorem dL_acts_677 : decode cL_acts 677 = .ok (.aload_n 3, 1) := by decide +kernel
theorem dL_acts_678 : decode cL_acts 678 = .ok (.iload 8, 2) := by decide +kernel
theorem dL_acts_680 : decode cL_acts 680 = .ok (.iconst (-1), 1) := by decide +kernel
theorem dL_acts_681 : decode cL_acts 681 = .ok (.invokestatic 59, 3) := by decide +kernel
theorem dL_acts_684 : decode cL_acts 684 = .ok (.aload_n 1, 1) := by decide +kernel
theorem dL_acts_685 : decode cL_acts 685 = .ok (.iconst 0, 1) := by decide +kernel
theorem dL_acts_686 : decode cL_acts 686 = .ok (.dup2, 1) := by decide +kernel
theorem dL_acts_687 : decode cL_acts 687 = .ok (.iaload, 1) := by decide +kernel
theorem dL_acts_688 : decode cL_acts 688 = .ok (.iconst 1, 1) := by decide +kernel
theorem dL_acts_689 : decode cL_acts 689 = .ok (.iadd, 1) := by decide +kernel
theorem dL_acts_690 : decode cL_acts 690 = .ok (.iastore, 1) := by decide +kernel
theorem dL_acts_691 : decode cL_acts 691 = .ok (.aload_n 0, 1) := by decide +kernel
theorem dL_acts_692 : decode cL_acts 692 = .ok (.iload 8, 2) := by decide +kernel
theorem dL_acts_694 : decode cL_acts 694 = .ok (.invokestatic 107, 3) := by decide +kernel
theorem dL_acts_697 : decode cL_acts 697 = .ok (.aload_n 2, 1) := by decide +kernel
theorem dL_acts_698 : decode cL_acts 698 = .ok (.aload_n 3, 1) := by decide +kernel
theorem dL_acts_699 : decode cL_acts 699 = .ok (.aload_n 1, 1) := by decide +kernel
theorem dL_acts_700 : decode cL_acts 700 = .ok (.iconst 0, 1) := by decide +kernel
theorem dL_acts_701 : decode cL_acts 701 = .ok (.iaload, 1) := by decide +kernel
theorem dL_acts_702 : decode cL_acts 702 = .ok (.iconst 1, 1) := by decide +kernel
theorem dL_acts_703 : decode cL_acts 703 = .ok (.isub, 1) := by decide +kernel
theorem dL_acts_704 : decode cL_acts 704 = .ok (.invokestatic 63, 3) := by decide +kernel
theorem dL_acts_707 : decode cL_acts 707 = .ok (.if_icmp .ne 7, 3) := by decide +kernel
theorem dL_acts_710 : decode cL_acts 710 = .ok (.iconst 1, 1) := by decide +kernel
theorem dL_acts_711 : decode cL_acts 711 = .ok (.goto 4, 3) := by decide +kernel
theorem dL_acts_714 : decode cL_acts 714 = .ok (.iconst 0, 1) := by decide +kernel
theorem dL_acts_715 : decode cL_acts 715 = .ok (.ireturn, 1) := by decide +kernel
theorem dL_acts_716 : decode cL_acts 716 = .ok (.aload_n 1, 1) := by decide +kernel
theorem dL_acts_717 : decode cL_acts 717 = .ok (.aload_n 2, 1) := by decide +kernel
theorem dL_acts_718 : decode cL_acts 718 = .ok (.aload_n 3, 1) := by decide +kernel
theorem dL_acts_719 : decode cL_acts 719 = .ok (.iload 8, 2) := by decide +kernel
theorem dL_acts_721 : decode cL_acts 721 = .ok (.invokestatic 93, 3) := by decide +kernel
theorem dL_acts_724 : decode cL_acts 724 = .ok (.istore 9, 2) := by decide +kernel
theorem dL_acts_726 : decode cL_acts 726 = .ok (.aload_n 0, 1) := by decide +kernel
theorem dL_acts_727 : decode cL_acts 727 = .ok (.iload 8, 2) := by decide +kernel
theorem dL_acts_729 : decode cL_acts 729 = .ok (.invokestatic 101, 3) := by decide +kernel
theorem dL_acts_732 : decode cL_acts 732 = .ok (.iload 9, 2) := by decide +kernel
theorem dL_acts_734 : decode cL_acts 734 = .ok (.if_icmp .ne 7, 3) := by decide +kernel
theorem dL_acts_737 : decode cL_acts 737 = .ok (.iconst 1, 1) := by decide +kernel
theorem dL_acts_738 : decode cL_acts 738 = .ok (.goto 4, 3) := by decide +kernel
theorem dL_acts_741 : decode cL_acts 741 = .ok (.iconst 0, 1) := by decide +kernel
theorem dL_acts_742 : decode cL_acts 742 = .ok (.ireturn, 1) := by decide +kernel
end
section
set_option maxRecDepth 20000 in
theorem ggL_roundOf_X6_round : GoodIn wsL_roundOf wsX6_round := goodIn_ca (goodIn_ca (goodIn_r _ [7, 8, 9, 10, 11, 6, 12, 13, 14, 15, 16, 17, 18, 19, 20, 21, 22, 23, 24, 25, 26, 27, 28, 29, 30, 31, 32, 33, 34, 35, 36, 37, 38, 39, 40, 41, 42, 43, 44, 45, 46, 47, 48, 49, 50, 51, 52, 53, 54, 55, 56, 57, 58, 59, 60, 61, 62, 63, 64, 65, 66, 67, 68, 69, 70, 71, 72, 73, 74, 75, 76, 77, 78, 79, 80, 81, 82, 83, 84, 85, 86, 87, 88, 89, 90, 91, 92, 93, 94, 95, 96, 97, 98, 99, 100, 101, 102, 103, 104, 105, 106] (by decide +kernel) (by decide +kernel)) (goodIn_sub (fun _ h => List.mem_cons_of_mem _ (List.mem_append_left _ (List.mem_append_right _ h))) (by decide +kernel))) (goodIn_sub (fun _ h => List.mem_cons_of_mem _ (List.mem_append_right _ h)) (by decide +kernel))
set_option maxRecDepth 20000 in
theorem gL_roundOf_X6_round : GoodIn wsL_roundOf (wsV RL 110 RX6 yX6_round wsX6_round) := goodIn_app (goodIn_of _ (by decide +kernel)) ggL_roundOf_X6_round
theorem dL_roundOf_0 : decode cL_roundOf 0 = .ok (.aload_n 0, 1) := by decide +kernel
theorem dL_roundOf_1 : decode cL_roundOf 1 = .ok (.iload_n 1, 1) := by decide +kernel
theorem dL_roundOf_2 : decode cL_roundOf 2 = .ok (.iload_n 2, 1) := by decide +kernel
theorem dL_roundOf_3 : decode cL_roundOf 3 = .ok (.invokevirtual 110, 3) := by decide +kernel
theorem dL_roundOf_6 : decode cL_roundOf 6 = .ok (.ireturn, 1) := by decide +kernel
theorem dL_roundOf_7 : decode cL_roundOf 7 = .ok (.astore_n 3, 1) := by decide +kernel
theorem dL_roundOf_8 : decode cL_roundOf 8 = .ok (.sipush (-30004), 3) := by decide +kernel
theorem dL_roundOf_11 : decode cL_roundOf 11 = .ok (.ireturn, 1) := by decide +kernel
theorem dL_roundOf_12 : decode cL_roundOf 12 = .ok (.astore_n 3, 1) := by decide +kernel
theorem dL_roundOf_13 : decode cL_roundOf 13 = .ok (.sipush (-30001), 3) := by decide +kernel
theorem dL_roundOf_16 : decode cL_roundOf 16 = .ok (.ireturn, 1) := by decide +kernel
set_option maxRecDepth 20000 in
theorem ggL_workOf_X6_work : GoodIn wsL_workOf wsX6_work := goodIn_ca (goodIn_r _ [6, 7, 8, 9, 10, 11, 5, 12, 13, 14, 15, 16, 17, 18, 19, 20, 21, 22, 23, 24, 25, 26, 27, 28, 29, 30, 31, 32, 33, 34, 35, 36, 37, 38, 39] (by decide +kernel) (by decide +kernel)) (goodIn_sub (fun _ h => List.mem_cons_of_mem _ (List.mem_append_right _ h)) (by decide +kernel))
set_option maxRecDepth 20000 in
theorem gL_workOf_X6_work : GoodIn wsL_workOf (wsV RL 115 RX6 yX6_work wsX6_work) := goodIn_app (goodIn_of _ (by decide +kernel)) ggL_workOf_X6_work
theorem dL_workOf_0 : decode cL_workOf 0 = .ok (.aload_n 0, 1) := by decide +kernel
theorem dL_workOf_1 : decode cL_workOf 1 = .ok (.iload_n 1, 1) := by decide +kernel
theorem dL_workOf_2 : decode cL_workOf 2 = .ok (.iload_n 2, 1) := by decide +kernel
theorem dL_workOf_3 : decode cL_workOf 3 = .ok (.invokevirtual 115, 3) := by decide +kernel
theorem dL_workOf_6 : decode cL_workOf 6 = .ok (.ireturn, 1) := by decide +kernel
theorem dL_workOf_7 : decode cL_workOf 7 = .ok (.astore_n 3, 1) := by decide +kernel
theorem dL_workOf_8 : decode cL_workOf 8 = .ok (.sipush (-30004), 3) := by decide +kernel
theorem dL_workOf_11 : decode cL_workOf 11 = .ok (.ireturn, 1) := by decide +kernel
set_option maxRecDepth 20000 in
theorem ggL_valueOf_X6_value : GoodIn wsL_valueOf wsX6_value := goodIn_ca (goodIn_r _ [6, 7, 8, 9, 10, 11, 5, 12, 13, 14, 15, 16, 17, 18, 19, 20, 21, 22, 23, 24, 25, 26, 27, 28, 29, 30, 31, 32, 33, 34, 35, 36, 37, 38, 39, 40, 41, 42, 43, 44, 45, 46, 47, 48, 49, 50, 51, 52, 53, 54, 55, 56, 57, 58, 59, 60, 61, 62, 63, 64, 65, 66, 67, 68, 69, 70, 71, 72, 73, 74, 75, 76, 77, 78, 79, 80, 81, 82, 83, 84, 85, 86, 87, 88, 89, 90, 91, 92, 93, 94, 95, 96, 97, 98, 99, 100, 101, 102, 103, 104, 105, 106, 107, 108, 109, 110, 111, 112, 113, 114, 115] (by decide +kernel) (by decide +kernel)) (goodIn_sub (fun _ h => List.mem_cons_of_mem _ (List.mem_append_right _ h)) (by decide +kernel))
set_option maxRecDepth 20000 in
theorem gL_valueOf_X6_value : GoodIn wsL_valueOf (wsV RL 118 RX6 yX6_value wsX6_value) := goodIn_app (goodIn_of _ (by decide +kernel)) ggL_valueOf_X6_value
theorem dL_valueOf_0 : decode cL_valueOf 0 = .ok (.aload_n 0, 1) := by decide +kernel
theorem dL_valueOf_1 : decode cL_valueOf 1 = .ok (.iload_n 1, 1) := by decide +kernel
theorem dL_valueOf_2 : decode cL_valueOf 2 = .ok (.invokevirtual 118, 3) := by decide +kernel
theorem dL_valueOf_5 : decode cL_valueOf 5 = .ok (.ireturn, 1) := by decide +kernel
theorem dL_valueOf_6 : decode cL_valueOf 6 = .ok (.astore_n 2, 1) := by decide +kernel
theorem dL_valueOf_7 : decode cL_valueOf 7 = .ok (.sipush (-30001), 3) := by decide +kernel
theorem dL_valueOf_10 : decode cL_valueOf 10 = .ok (.ireturn, 1) := by decide +kernel
set_option maxRecDepth 20000 in
theorem ggL_isRound_L_total : GoodIn wsL_isRound wsL_total := goodIn_r _ [4, 5, 6, 3, 7, 8] (by decide +kernel) (by decide +kernel)
set_option maxRecDepth 20000 in
theorem gL_isRound_L_total : GoodIn wsL_isRound (va_wsS RL 53 yL_total wsL_total) := goodIn_app (goodIn_of _ (by decide +kernel)) ggL_isRound_L_total
set_option maxRecDepth 20000 in
theorem ggL_isRound_L_kind : GoodIn wsL_isRound wsL_kind := goodIn_r _ [7, 8] (by decide +kernel) (by decide +kernel)
set_option maxRecDepth 20000 in
theorem gL_isRound_L_kind : GoodIn wsL_isRound (va_wsS RL 43 yL_kind wsL_kind) := goodIn_app (goodIn_of _ (by decide +kernel)) ggL_isRound_L_kind
set_option maxRecDepth 20000 in
theorem ggL_isRound_L_workOf : GoodIn wsL_isRound wsL_workOf := goodIn_ca (goodIn_r _ [11, 12, 13, 14, 15, 16, 17, 18, 19, 20, 21, 22, 23, 24, 25, 26, 27, 28, 29, 30, 31, 32, 33, 34, 35, 36, 37, 38, 119, 120, 121, 122, 123, 124, 125, 126, 127, 128, 129, 130] (by decide +kernel) (by decide +kernel)) (goodIn_sub (fun _ h => List.mem_cons_of_mem _ (List.mem_append_left _ (List.mem_append_right _ h))) (by decide +kernel))
set_option maxRecDepth 20000 in
theorem gL_isRound_L_workOf : GoodIn wsL_isRound (va_wsS RL 121 yL_workOf wsL_workOf) := goodIn_app (goodIn_of _ (by decide +kernel)) ggL_isRound_L_workOf
set_option maxRecDepth 20000 in
theorem ggL_isRound_L_roundOf : GoodIn wsL_isRound wsL_roundOf := goodIn_ca (goodIn_ca (goodIn_r _ [41, 12, 42, 43, 44, 45, 16, 46, 18, 19, 21, 22, 23, 24, 25, 47, 48, 49, 50, 51, 52, 53, 54, 55, 56, 20, 26, 27, 28, 29, 30, 31, 57, 58, 59, 35, 60, 61, 38, 62, 33, 34, 36, 37, 63, 64, 65, 66, 67, 68, 69, 70, 71, 72, 73, 74, 75, 76, 77, 78, 79, 80, 81, 82, 83, 84, 85, 86, 87, 88, 89, 90, 91, 92, 93, 94, 95, 96, 97, 98, 99, 100, 101, 102, 103, 104, 105, 106, 107, 108, 109, 110, 111, 112, 119, 120, 121, 122, 123, 124, 125, 126, 127, 128, 129, 130, 131] (by decide +kernel) (by decide +kernel)) (goodIn_sub (fun _ h => List.mem_cons_of_mem _ (List.mem_append_left _ (List.mem_append_right _ h))) (by decide +kernel))) (goodIn_sub (fun _ h => List.mem_cons_of_mem _ (List.mem_append_right _ h)) (by decide +kernel))
set_option maxRecDepth 20000 in
theorem gL_isRound_L_roundOf : GoodIn wsL_isRound (va_wsS RL 124 yL_roundOf wsL_roundOf) := goodIn_app (goodIn_of _ (by decide +kernel)) ggL_isRound_L_roundOf
set_option maxRecDepth 20000 in
theorem ggL_isRound_L_stacked : GoodIn wsL_isRound wsL_stacked := goodIn_r _ [115, 5, 6, 3, 7, 8, 116, 117, 118] (by decide +kernel) (by decide +kernel)
set_option maxRecDepth 20000 in
theorem gL_isRound_L_stacked : GoodIn wsL_isRound (va_wsS RL 63 yL_stacked wsL_stacked) := goodIn_app (goodIn_of _ (by decide +kernel)) ggL_isRound_L_stacked
theorem dL_isRound_0 : decode cL_isRound 0 = .ok (.aload_n 2, 1) := by decide +kernel
theorem dL_isRound_1 : decode cL_isRound 1 = .ok (.aload_n 3, 1) := by decide +kernel
theorem dL_isRound_2 : decode cL_isRound 2 = .ok (.iload 4, 2) := by decide +kernel
theorem dL_isRound_4 : decode cL_isRound 4 = .ok (.invokestatic 53, 3) := by decide +kernel
theorem dL_isRound_7 : decode cL_isRound 7 = .ok (.istore 5, 2) := by decide +kernel
theorem dL_isRound_9 : decode cL_isRound 9 = .ok (.iconst 0, 1) := by decide +kernel
theorem dL_isRound_10 : decode cL_isRound 10 = .ok (.istore 6, 2) := by decide +kernel
theorem dL_isRound_12 : decode cL_isRound 12 = .ok (.iconst 0, 1) := by decide +kernel
theorem dL_isRound_13 : decode cL_isRound 13 = .ok (.istore 7, 2) := by decide +kernel
theorem dL_isRound_15 : decode cL_isRound 15 = .ok (.iconst (-1), 1) := by decide +kernel
theorem dL_isRound_16 : decode cL_isRound 16 = .ok (.istore 8, 2) := by decide +kernel
theorem dL_isRound_18 : decode cL_isRound 18 = .ok (.iconst (-1), 1) := by decide +kernel
theorem dL_isRound_19 : decode cL_isRound 19 = .ok (.istore 9, 2) := by decide +kernel
theorem dL_isRound_21 : decode cL_isRound 21 = .ok (.iconst 0, 1) := by decide +kernel
theorem dL_isRound_22 : decode cL_isRound 22 = .ok (.istore 10, 2) := by decide +kernel
theorem dL_isRound_24 : decode cL_isRound 24 = .ok (.sipush 999, 3) := by decide +kernel
theorem dL_isRound_27 : decode cL_isRound 27 = .ok (.istore 11, 2) := by decide +kernel
theorem dL_isRound_29 : decode cL_isRound 29 = .ok (.iconst 1, 1) := by decide +kernel
theorem dL_isRound_30 : decode cL_isRound 30 = .ok (.istore 12, 2) := by decide +kernel
theorem dL_isRound_32 : decode cL_isRound 32 = .ok (.iconst 1, 1) := by decide +kernel
theorem dL_isRound_33 : decode cL_isRound 33 = .ok (.istore 13, 2) := by decide +kernel
theorem dL_isRound_35 : decode cL_isRound 35 = .ok (.iconst 0, 1) := by decide +kernel
theorem dL_isRound_36 : decode cL_isRound 36 = .ok (.istore 14, 2) := by decide +kernel
theorem dL_isRound_38 : decode cL_isRound 38 = .ok (.iload 14, 2) := by decide +kernel
theorem dL_isRound_40 : decode cL_isRound 40 = .ok (.aload_n 2, 1) := by decide +kernel
theorem dL_isRound_41 : decode cL_isRound 41 = .ok (.iload 4, 2) := by decide +kernel
theorem dL_isRound_43 : decode cL_isRound 43 = .ok (.iaload, 1) := by decide +kernel
theorem dL_isRound_44 : decode cL_isRound 44 = .ok (.if_icmp .ge 185, 3) := by decide +kernel
theorem dL_isRound_47 : decode cL_isRound 47 = .ok (.iload 13, 2) := by decide +kernel
theorem dL_isRound_49 : decode cL_isRound 49 = .ok (.ifCond .eq 180, 3) := by decide +kernel
theorem dL_isRound_52 : decode cL_isRound 52 = .ok (.aload_n 3, 1) := by decide +kernel
theorem dL_isRound_53 : decode cL_isRound 53 = .ok (.iload 4, 2) := by decide +kernel
theorem dL_isRound_55 : decode cL_isRound 55 = .ok (.iload 14, 2) := by decide +kernel
theorem dL_isRound_57 : decode cL_isRound 57 = .ok (.invokestatic 43, 3) := by decide +kernel
theorem dL_isRound_60 : decode cL_isRound 60 = .ok (.istore 15, 2) := by decide +kernel
theorem dL_isRound_62 : decode cL_isRound 62 = .ok (.iload 6, 2) := by decide +kernel
theorem dL_isRound_64 : decode cL_isRound 64 = .ok (.iload 15, 2) := by decide +kernel
theorem dL_isRound_66 : decode cL_isRound 66 = .ok (.iconst 1, 1) := by decide +kernel
theorem dL_isRound_67 : decode cL_isRound 67 = .ok (.if_icmp .ne 7, 3) := by decide +kernel
theorem dL_isRound_70 : decode cL_isRound 70 = .ok (.iconst 1, 1) := by decide +kernel
theorem dL_isRound_71 : decode cL_isRound 71 = .ok (.goto 4, 3) := by decide +kernel
theorem dL_isRound_74 : decode cL_isRound 74 = .ok (.iconst 0, 1) := by decide +kernel
theorem dL_isRound_75 : decode cL_isRound 75 = .ok (.iadd, 1) := by decide +kernel
theorem dL_isRound_76 : decode cL_isRound 76 = .ok (.istore 6, 2) := by decide +kernel
theorem dL_isRound_78 : decode cL_isRound 78 = .ok (.iload 7, 2) := by decide +kernel
theorem dL_isRound_80 : decode cL_isRound 80 = .ok (.iload 15, 2) := by decide +kernel
theorem dL_isRound_82 : decode cL_isRound 82 = .ok (.iconst 2, 1) := by decide +kernel
theorem dL_isRound_83 : decode cL_isRound 83 = .ok (.if_icmp .ne 7, 3) := by decide +kernel
theorem dL_isRound_86 : decode cL_isRound 86 = .ok (.iconst 1, 1) := by decide +kernel
theorem dL_isRound_87 : decode cL_isRound 87 = .ok (.goto 4, 3) := by decide +kernel
theorem dL_isRound_90 : decode cL_isRound 90 = .ok (.iconst 0, 1) := by decide +kernel
theorem dL_isRound_91 : decode cL_isRound 91 = .ok (.iadd, 1) := by decide +kernel
theorem dL_isRound_92 : decode cL_isRound 92 = .ok (.istore 7, 2) := by decide +kernel
theorem dL_isRound_94 : decode cL_isRound 94 = .ok (.iload 12, 2) := by decide +kernel
theorem dL_isRound_96 : decode cL_isRound 96 = .ok (.ifCond .eq 27, 3) := by decide +kernel
theorem dL_isRound_99 : decode cL_isRound 99 = .ok (.iload 15, 2) := by decide +kernel
theorem dL_isRound_101 : decode cL_isRound 101 = .ok (.aload_n 3, 1) := by decide +kernel
theorem dL_isRound_102 : decode cL_isRound 102 = .ok (.iload 4, 2) := by decide +kernel
theorem dL_isRound_104 : decode cL_isRound 104 = .ok (.aload_n 2, 1) := by decide +kernel
theorem dL_isRound_105 : decode cL_isRound 105 = .ok (.iload 4, 2) := by decide +kernel
theorem dL_isRound_107 : decode cL_isRound 107 = .ok (.iaload, 1) := by decide +kernel
theorem dL_isRound_108 : decode cL_isRound 108 = .ok (.iconst 1, 1) := by decide +kernel
theorem dL_isRound_109 : decode cL_isRound 109 = .ok (.isub, 1) := by decide +kernel
theorem dL_isRound_110 : decode cL_isRound 110 = .ok (.iload 14, 2) := by decide +kernel
theorem dL_isRound_112 : decode cL_isRound 112 = .ok (.isub, 1) := by decide +kernel
theorem dL_isRound_113 : decode cL_isRound 113 = .ok (.invokestatic 43, 3) := by decide +kernel
theorem dL_isRound_116 : decode cL_isRound 116 = .ok (.if_icmp .ne 7, 3) := by decide +kernel
theorem dL_isRound_119 : decode cL_isRound 119 = .ok (.iconst 1, 1) := by decide +kernel
theorem dL_isRound_120 : decode cL_isRound 120 = .ok (.goto 4, 3) := by decide +kernel
theorem dL_isRound_123 : decode cL_isRound 123 = .ok (.iconst 0, 1) := by decide +kernel
theorem dL_isRound_124 : decode cL_isRound 124 = .ok (.istore 12, 2) := by decide +kernel
theorem dL_isRound_126 : decode cL_isRound 126 = .ok (.iload 15, 2) := by decide +kernel
theorem dL_isRound_128 : decode cL_isRound 128 = .ok (.ifCond .le 75, 3) := by decide +kernel
theorem dL_isRound_131 : decode cL_isRound 131 = .ok (.iload 9, 2) := by decide +kernel
theorem dL_isRound_133 : decode cL_isRound 133 = .ok (.ifCond .lt 21, 3) := by decide +kernel
theorem dL_isRound_136 : decode cL_isRound 136 = .ok (.iload 14, 2) := by decide +kernel
theorem dL_isRound_138 : decode cL_isRound 138 = .ok (.iload 9, 2) := by decide +kernel
theorem dL_isRound_140 : decode cL_isRound 140 = .ok (.isub, 1) := by decide +kernel
theorem dL_isRound_141 : decode cL_isRound 141 = .ok (.iload 10, 2) := by decide +kernel
theorem dL_isRound_143 : decode cL_isRound 143 = .ok (.if_icmp .le 11, 3) := by decide +kernel
theorem dL_isRound_146 : decode cL_isRound 146 = .ok (.iload 14, 2) := by decide +kernel
theorem dL_isRound_148 : decode cL_isRound 148 = .ok (.iload 9, 2) := by decide +kernel
theorem dL_isRound_150 : decode cL_isRound 150 = .ok (.isub, 1) := by decide +kernel
theorem dL_isRound_151 : decode cL_isRound 151 = .ok (.goto 5, 3) := by decide +kernel
theorem dL_isRound_154 : decode cL_isRound 154 = .ok (.iload 10, 2) := by decide +kernel
theorem dL_isRound_156 : decode cL_isRound 156 = .ok (.istore 10, 2) := by decide +kernel
theorem dL_isRound_158 : decode cL_isRound 158 = .ok (.iload 9, 2) := by decide +kernel
theorem dL_isRound_160 : decode cL_isRound 160 = .ok (.ifCond .lt 21, 3) := by decide +kernel
theorem dL_isRound_163 : decode cL_isRound 163 = .ok (.iload 14, 2) := by decide +kernel
theorem dL_isRound_165 : decode cL_isRound 165 = .ok (.iload 9, 2) := by decide +kernel
theorem dL_isRound_167 : decode cL_isRound 167 = .ok (.isub, 1) := by decide +kernel
theorem dL_isRound_168 : decode cL_isRound 168 = .ok (.iload 11, 2) := by decide +kernel
theorem dL_isRound_170 : decode cL_isRound 170 = .ok (.if_icmp .ge 11, 3) := by decide +kernel
theorem dL_isRound_173 : decode cL_isRound 173 = .ok (.iload 14, 2) := by decide +kernel
theorem dL_isRound_175 : decode cL_isRound 175 = .ok (.iload 9, 2) := by decide +kernel
theorem dL_isRound_177 : decode cL_isRound 177 = .ok (.isub, 1) := by decide +kernel
theorem dL_isRound_178 : decode cL_isRound 178 = .ok (.goto 5, 3) := by decide +kernel
theorem dL_isRound_181 : decode cL_isRound 181 = .ok (.iload 11, 2) := by decide +kernel
theorem dL_isRound_183 : decode cL_isRound 183 = .ok (.istore 11, 2) := by decide +kernel
theorem dL_isRound_185 : decode cL_isRound 185 = .ok (.iload 8, 2) := by decide +kernel
theorem dL_isRound_187 : decode cL_isRound 187 = .ok (.ifCond .ge 8, 3) := by decide +kernel
theorem dL_isRound_190 : decode cL_isRound 190 = .ok (.iload 14, 2) := by decide +kernel
theorem dL_isRound_192 : decode cL_isRound 192 = .ok (.goto 5, 3) := by decide +kernel
theorem dL_isRound_195 : decode cL_isRound 195 = .ok (.iload 8, 2) := by decide +kernel
theorem dL_isRound_197 : decode cL_isRound 197 = .ok (.istore 8, 2) := by decide +kernel
theorem dL_isRound_199 : decode cL_isRound 199 = .ok (.iload 14, 2) := by decide +kernel
theorem dL_isRound_201 : decode cL_isRound 201 = .ok (.istore 9, 2) := by decide +kernel
theorem dL_isRound_203 : decode cL_isRound 203 = .ok (.aload_n 0, 1) := by decide +kernel
theorem dL_isRound_204 : decode cL_isRound 204 = .ok (.iload 4, 2) := by decide +kernel
theorem dL_isRound_206 : decode cL_isRound 206 = .ok (.iload 14, 2) := by decide +kernel
theorem dL_isRound_208 : decode cL_isRound 208 = .ok (.invokestatic 121, 3) := by decide +kernel
theorem dL_isRound_211 : decode cL_isRound 211 = .ok (.iload 15, 2) := by decide +kernel
theorem dL_isRound_213 : decode cL_isRound 213 = .ok (.if_icmp .ne 7, 3) := by decide +kernel
theorem dL_isRound_216 : decode cL_isRound 216 = .ok (.iconst 1, 1) := by decide +kernel
theorem dL_isRound_217 : decode cL_isRound 217 = .ok (.goto 4, 3) := by decide +kernel
theorem dL_isRound_220 : decode cL_isRound 220 = .ok (.iconst 0, 1) := by decide +kernel
theorem dL_isRound_221 : decode cL_isRound 221 = .ok (.istore 13, 2) := by decide +kernel
theorem dL_isRound_223 : decode cL_isRound 223 = .ok (.iinc 14 1, 3) := by decide +kernel
theorem dL_isRound_226 : decode cL_isRound 226 = .ok (.goto (-188), 3) := by decide +kernel
theorem dL_isRound_229 : decode cL_isRound 229 = .ok (.iload 8, 2) := by decide +kernel
theorem dL_isRound_231 : decode cL_isRound 231 = .ok (.aload_n 2, 1) := by decide +kernel
theorem dL_isRound_232 : decode cL_isRound 232 = .ok (.iload 4, 2) := by decide +kernel
theorem dL_isRound_234 : decode cL_isRound 234 = .ok (.iaload, 1) := by decide +kernel
theorem dL_isRound_235 : decode cL_isRound 235 = .ok (.iadd, 1) := by decide +kernel
theorem dL_isRound_236 : decode cL_isRound 236 = .ok (.iload 9, 2) := by decide +kernel
theorem dL_isRound_238 : decode cL_isRound 238 = .ok (.isub, 1) := by decide +kernel
theorem dL_isRound_239 : decode cL_isRound 239 = .ok (.istore 14, 2) := by decide +kernel
theorem dL_isRound_241 : decode cL_isRound 241 = .ok (.iload 6, 2) := by decide +kernel
theorem dL_isRound_243 : decode cL_isRound 243 = .ok (.iload 7, 2) := by decide +kernel
theorem dL_isRound_245 : decode cL_isRound 245 = .ok (.iadd, 1) := by decide +kernel
theorem dL_isRound_246 : decode cL_isRound 246 = .ok (.iconst 1, 1) := by decide +kernel
theorem dL_isRound_247 : decode cL_isRound 247 = .ok (.if_icmp .le 7, 3) := by decide +kernel
theorem dL_isRound_250 : decode cL_isRound 250 = .ok (.iconst 1, 1) := by decide +kernel
theorem dL_isRound_251 : decode cL_isRound 251 = .ok (.goto 4, 3) := by decide +kernel
theorem dL_isRound_254 : decode cL_isRound 254 = .ok (.iconst 0, 1) := by decide +kernel
theorem dL_isRound_255 : decode cL_isRound 255 = .ok (.istore 15, 2) := by decide +kernel
theorem dL_isRound_257 : decode cL_isRound 257 = .ok (.iload 15, 2) := by decide +kernel
theorem dL_isRound_259 : decode cL_isRound 259 = .ok (.ifCond .ne 7, 3) := by decide +kernel
theorem dL_isRound_262 : decode cL_isRound 262 = .ok (.iconst 0, 1) := by decide +kernel
theorem dL_isRound_263 : decode cL_isRound 263 = .ok (.goto 17, 3) := by decide +kernel
theorem dL_isRound_266 : decode cL_isRound 266 = .ok (.iload 14, 2) := by decide +kernel
theorem dL_isRound_268 : decode cL_isRound 268 = .ok (.iload 10, 2) := by decide +kernel
theorem dL_isRound_270 : decode cL_isRound 270 = .ok (.if_icmp .le 8, 3) := by decide +kernel
theorem dL_isRound_273 : decode cL_isRound 273 = .ok (.iload 14, 2) := by decide +kernel
theorem dL_isRound_275 : decode cL_isRound 275 = .ok (.goto 5, 3) := by decide +kernel
theorem dL_isRound_278 : decode cL_isRound 278 = .ok (.iload 10, 2) := by decide +kernel
theorem dL_isRound_280 : decode cL_isRound 280 = .ok (.istore 10, 2) := by decide +kernel
theorem dL_isRound_282 : decode cL_isRound 282 = .ok (.iload 15, 2) := by decide +kernel
theorem dL_isRound_284 : decode cL_isRound 284 = .ok (.ifCond .ne 7, 3) := by decide +kernel
theorem dL_isRound_287 : decode cL_isRound 287 = .ok (.iconst 0, 1) := by decide +kernel
theorem dL_isRound_288 : decode cL_isRound 288 = .ok (.goto 17, 3) := by decide +kernel
theorem dL_isRound_291 : decode cL_isRound 291 = .ok (.iload 14, 2) := by decide +kernel
theorem dL_isRound_293 : decode cL_isRound 293 = .ok (.iload 11, 2) := by decide +kernel
theorem dL_isRound_295 : decode cL_isRound 295 = .ok (.if_icmp .ge 8, 3) := by decide +kernel
theorem dL_isRound_298 : decode cL_isRound 298 = .ok (.iload 14, 2) := by decide +kernel
theorem dL_isRound_300 : decode cL_isRound 300 = .ok (.goto 5, 3) := by decide +kernel
theorem dL_isRound_303 : decode cL_isRound 303 = .ok (.iload 11, 2) := by decide +kernel
theorem dL_isRound_305 : decode cL_isRound 305 = .ok (.istore 11, 2) := by decide +kernel
theorem dL_isRound_307 : decode cL_isRound 307 = .ok (.aload_n 2, 1) := by decide +kernel
theorem dL_isRound_308 : decode cL_isRound 308 = .ok (.iload 4, 2) := by decide +kernel
theorem dL_isRound_310 : decode cL_isRound 310 = .ok (.iaload, 1) := by decide +kernel
theorem dL_isRound_311 : decode cL_isRound 311 = .ok (.iload 6, 2) := by decide +kernel
theorem dL_isRound_313 : decode cL_isRound 313 = .ok (.isub, 1) := by decide +kernel
theorem dL_isRound_314 : decode cL_isRound 314 = .ok (.iload 7, 2) := by decide +kernel
theorem dL_isRound_316 : decode cL_isRound 316 = .ok (.isub, 1) := by decide +kernel
theorem dL_isRound_317 : decode cL_isRound 317 = .ok (.istore 16, 2) := by decide +kernel
theorem dL_isRound_319 : decode cL_isRound 319 = .ok (.iload 16, 2) := by decide +kernel
theorem dL_isRound_321 : decode cL_isRound 321 = .ok (.aload_n 1, 1) := by decide +kernel
theorem dL_isRound_322 : decode cL_isRound 322 = .ok (.iconst 2, 1) := by decide +kernel
theorem dL_isRound_323 : decode cL_isRound 323 = .ok (.iaload, 1) := by decide +kernel
theorem dL_isRound_324 : decode cL_isRound 324 = .ok (.imul, 1) := by decide +kernel
theorem dL_isRound_325 : decode cL_isRound 325 = .ok (.iload 6, 2) := by decide +kernel
theorem dL_isRound_327 : decode cL_isRound 327 = .ok (.aload_n 1, 1) := by decide +kernel
theorem dL_isRound_328 : decode cL_isRound 328 = .ok (.iconst 3, 1) := by decide +kernel
theorem dL_isRound_329 : decode cL_isRound 329 = .ok (.iaload, 1) := by decide +kernel
theorem dL_isRound_330 : decode cL_isRound 330 = .ok (.imul, 1) := by decide +kernel
theorem dL_isRound_331 : decode cL_isRound 331 = .ok (.iadd, 1) := by decide +kernel
theorem dL_isRound_332 : decode cL_isRound 332 = .ok (.iload 7, 2) := by decide +kernel
theorem dL_isRound_334 : decode cL_isRound 334 = .ok (.aload_n 1, 1) := by decide +kernel
theorem dL_isRound_335 : decode cL_isRound 335 = .ok (.iconst 4, 1) := by decide +kernel
theorem dL_isRound_336 : decode cL_isRound 336 = .ok (.iaload, 1) := by decide +kernel
theorem dL_isRound_337 : decode cL_isRound 337 = .ok (.imul, 1) := by decide +kernel
theorem dL_isRound_338 : decode cL_isRound 338 = .ok (.iadd, 1) := by decide +kernel
theorem dL_isRound_339 : decode cL_isRound 339 = .ok (.istore 17, 2) := by decide +kernel
theorem dL_isRound_341 : decode cL_isRound 341 = .ok (.iload 4, 2) := by decide +kernel
theorem dL_isRound_343 : decode cL_isRound 343 = .ok (.ifCond .eq 25, 3) := by decide +kernel
theorem dL_isRound_346 : decode cL_isRound 346 = .ok (.iload 16, 2) := by decide +kernel
theorem dL_isRound_348 : decode cL_isRound 348 = .ok (.iload 6, 2) := by decide +kernel
theorem dL_isRound_350 : decode cL_isRound 350 = .ok (.iadd, 1) := by decide +kernel
theorem dL_isRound_351 : decode cL_isRound 351 = .ok (.iconst 2, 1) := by decide +kernel
theorem dL_isRound_352 : decode cL_isRound 352 = .ok (.iload 7, 2) := by decide +kernel
theorem dL_isRound_354 : decode cL_isRound 354 = .ok (.imul, 1) := by decide +kernel
theorem dL_isRound_355 : decode cL_isRound 355 = .ok (.iadd, 1) := by decide +kernel
theorem dL_isRound_356 : decode cL_isRound 356 = .ok (.aload_n 2, 1) := by decide +kernel
theorem dL_isRound_357 : decode cL_isRound 357 = .ok (.aload_n 3, 1) := by decide +kernel
theorem dL_isRound_358 : decode cL_isRound 358 = .ok (.iload 4, 2) := by decide +kernel
theorem dL_isRound_360 : decode cL_isRound 360 = .ok (.iconst 1, 1) := by decide +kernel
theorem dL_isRound_361 : decode cL_isRound 361 = .ok (.isub, 1) := by decide +kernel
theorem dL_isRound_362 : decode cL_isRound 362 = .ok (.invokestatic 53, 3) := by decide +kernel
theorem dL_isRound_365 : decode cL_isRound 365 = .ok (.if_icmp .ne 7, 3) := by decide +kernel
theorem dL_isRound_368 : decode cL_isRound 368 = .ok (.iconst 1, 1) := by decide +kernel
theorem dL_isRound_369 : decode cL_isRound 369 = .ok (.goto 4, 3) := by decide +kernel
theorem dL_isRound_372 : decode cL_isRound 372 = .ok (.iconst 0, 1) := by decide +kernel
theorem dL_isRound_373 : decode cL_isRound 373 = .ok (.istore 18, 2) := by decide +kernel
theorem dL_isRound_375 : decode cL_isRound 375 = .ok (.iload 13, 2) := by decide +kernel
theorem dL_isRound_377 : decode cL_isRound 377 = .ok (.ifCond .eq 203, 3) := by decide +kernel
theorem dL_isRound_380 : decode cL_isRound 380 = .ok (.iload 18, 2) := by decide +kernel
theorem dL_isRound_382 : decode cL_isRound 382 = .ok (.ifCond .eq 198, 3) := by decide +kernel
theorem dL_isRound_385 : decode cL_isRound 385 = .ok (.aload_n 0, 1) := by decide +kernel
theorem dL_isRound_386 : decode cL_isRound 386 = .ok (.iload 4, 2) := by decide +kernel
theorem dL_isRound_388 : decode cL_isRound 388 = .ok (.iconst 0, 1) := by decide +kernel
theorem dL_isRound_389 : decode cL_isRound 389 = .ok (.invokestatic 124, 3) := by decide +kernel
theorem dL_isRound_392 : decode cL_isRound 392 = .ok (.iload 5, 2) := by decide +kernel
theorem dL_isRound_394 : decode cL_isRound 394 = .ok (.if_icmp .ne 186, 3) := by decide +kernel
theorem dL_isRound_397 : decode cL_isRound 397 = .ok (.aload_n 0, 1) := by decide +kernel
theorem dL_isRound_398 : decode cL_isRound 398 = .ok (.iload 4, 2) := by decide +kernel
theorem dL_isRound_400 : decode cL_isRound 400 = .ok (.iconst 1, 1) := by decide +kernel
theorem dL_isRound_401 : decode cL_isRound 401 = .ok (.invokestatic 124, 3) := by decide +kernel
theorem dL_isRound_404 : decode cL_isRound 404 = .ok (.aload_n 2, 1) := by decide +kernel
theorem dL_isRound_405 : decode cL_isRound 405 = .ok (.iload 4, 2) := by decide +kernel
theorem dL_isRound_407 : decode cL_isRound 407 = .ok (.iaload, 1) := by decide +kernel
theorem dL_isRound_408 : decode cL_isRound 408 = .ok (.if_icmp .ne 172, 3) := by decide +kernel
theorem dL_isRound_411 : decode cL_isRound 411 = .ok (.aload_n 0, 1) := by decide +kernel
theorem dL_isRound_412 : decode cL_isRound 412 = .ok (.iload 4, 2) := by decide +kernel
theorem dL_isRound_414 : decode cL_isRound 414 = .ok (.iconst 2, 1) := by decide +kernel
theorem dL_isRound_415 : decode cL_isRound 415 = .ok (.invokestatic 124, 3) := by decide +kernel
theorem dL_isRound_418 : decode cL_isRound 418 = .ok (.iload 16, 2) := by decide +kernel
theorem dL_isRound_420 : decode cL_isRound 420 = .ok (.if_icmp .ne 160, 3) := by decide +kernel
theorem dL_isRound_423 : decode cL_isRound 423 = .ok (.aload_n 0, 1) := by decide +kernel
theorem dL_isRound_424 : decode cL_isRound 424 = .ok (.iload 4, 2) := by decide +kernel
theorem dL_isRound_426 : decode cL_isRound 426 = .ok (.iconst 3, 1) := by decide +kernel
theorem dL_isRound_427 : decode cL_isRound 427 = .ok (.invokestatic 124, 3) := by decide +kernel
theorem dL_isRound_430 : decode cL_isRound 430 = .ok (.iload 6, 2) := by decide +kernel
theorem dL_isRound_432 : decode cL_isRound 432 = .ok (.if_icmp .ne 148, 3) := by decide +kernel
theorem dL_isRound_435 : decode cL_isRound 435 = .ok (.aload_n 0, 1) := by decide +kernel
theorem dL_isRound_436 : decode cL_isRound 436 = .ok (.iload 4, 2) := by decide +kernel
theorem dL_isRound_438 : decode cL_isRound 438 = .ok (.iconst 4, 1) := by decide +kernel
theorem dL_isRound_439 : decode cL_isRound 439 = .ok (.invokestatic 124, 3) := by decide +kernel
theorem dL_isRound_442 : decode cL_isRound 442 = .ok (.iload 7, 2) := by decide +kernel
theorem dL_isRound_444 : decode cL_isRound 444 = .ok (.if_icmp .ne 136, 3) := by decide +kernel
theorem dL_isRound_447 : decode cL_isRound 447 = .ok (.aload_n 0, 1) := by decide +kernel
theorem dL_isRound_448 : decode cL_isRound 448 = .ok (.iload 4, 2) := by decide +kernel
theorem dL_isRound_450 : decode cL_isRound 450 = .ok (.iconst 5, 1) := by decide +kernel
theorem dL_isRound_451 : decode cL_isRound 451 = .ok (.invokestatic 124, 3) := by decide +kernel
theorem dL_isRound_454 : decode cL_isRound 454 = .ok (.aload_n 2, 1) := by decide +kernel
theorem dL_isRound_455 : decode cL_isRound 455 = .ok (.aload_n 3, 1) := by decide +kernel
theorem dL_isRound_456 : decode cL_isRound 456 = .ok (.iload 4, 2) := by decide +kernel
theorem dL_isRound_458 : decode cL_isRound 458 = .ok (.invokestatic 63, 3) := by decide +kernel
theorem dL_isRound_461 : decode cL_isRound 461 = .ok (.if_icmp .ne 119, 3) := by decide +kernel
theorem dL_isRound_464 : decode cL_isRound 464 = .ok (.aload_n 0, 1) := by decide +kernel
theorem dL_isRound_465 : decode cL_isRound 465 = .ok (.iload 4, 2) := by decide +kernel
theorem dL_isRound_467 : decode cL_isRound 467 = .ok (.bipush 6, 2) := by decide +kernel
theorem dL_isRound_469 : decode cL_isRound 469 = .ok (.invokestatic 124, 3) := by decide +kernel
theorem dL_isRound_472 : decode cL_isRound 472 = .ok (.iload 12, 2) := by decide +kernel
theorem dL_isRound_474 : decode cL_isRound 474 = .ok (.ifCond .eq 7, 3) := by decide +kernel
theorem dL_isRound_477 : decode cL_isRound 477 = .ok (.iconst 1, 1) := by decide +kernel
theorem dL_isRound_478 : decode cL_isRound 478 = .ok (.goto 4, 3) := by decide +kernel
theorem dL_isRound_481 : decode cL_isRound 481 = .ok (.iconst 0, 1) := by decide +kernel
theorem dL_isRound_482 : decode cL_isRound 482 = .ok (.if_icmp .ne 98, 3) := by decide +kernel
theorem dL_isRound_485 : decode cL_isRound 485 = .ok (.aload_n 0, 1) := by decide +kernel
theorem dL_isRound_486 : decode cL_isRound 486 = .ok (.iload 4, 2) := by decide +kernel
theorem dL_isRound_488 : decode cL_isRound 488 = .ok (.bipush 7, 2) := by decide +kernel
theorem dL_isRound_490 : decode cL_isRound 490 = .ok (.invokestatic 124, 3) := by decide +kernel
theorem dL_isRound_493 : decode cL_isRound 493 = .ok (.iload 17, 2) := by decide +kernel
theorem dL_isRound_495 : decode cL_isRound 495 = .ok (.if_icmp .ne 85, 3) := by decide +kernel
theorem dL_isRound_498 : decode cL_isRound 498 = .ok (.aload_n 0, 1) := by decide +kernel
theorem dL_isRound_499 : decode cL_isRound 499 = .ok (.iload 4, 2) := by decide +kernel
theorem dL_isRound_501 : decode cL_isRound 501 = .ok (.bipush 8, 2) := by decide +kernel
theorem dL_isRound_503 : decode cL_isRound 503 = .ok (.invokestatic 124, 3) := by decide +kernel
theorem dL_isRound_506 : decode cL_isRound 506 = .ok (.iload 10, 2) := by decide +kernel
theorem dL_isRound_508 : decode cL_isRound 508 = .ok (.if_icmp .ne 72, 3) := by decide +kernel
theorem dL_isRound_511 : decode cL_isRound 511 = .ok (.aload_n 0, 1) := by decide +kernel
theorem dL_isRound_512 : decode cL_isRound 512 = .ok (.iload 4, 2) := by decide +kernel
theorem dL_isRound_514 : decode cL_isRound 514 = .ok (.bipush 9, 2) := by decide +kernel
theorem dL_isRound_516 : decode cL_isRound 516 = .ok (.invokestatic 124, 3) := by decide +kernel
theorem dL_isRound_519 : decode cL_isRound 519 = .ok (.iload 11, 2) := by decide +kernel
theorem dL_isRound_521 : decode cL_isRound 521 = .ok (.if_icmp .ne 59, 3) := by decide +kernel
theorem dL_isRound_524 : decode cL_isRound 524 = .ok (.aload_n 0, 1) := by decide +kernel
theorem dL_isRound_525 : decode cL_isRound 525 = .ok (.iload 4, 2) := by decide +kernel
theorem dL_isRound_527 : decode cL_isRound 527 = .ok (.bipush 10, 2) := by decide +kernel
theorem dL_isRound_529 : decode cL_isRound 529 = .ok (.invokestatic 124, 3) := by decide +kernel
theorem dL_isRound_532 : decode cL_isRound 532 = .ok (.iload 5, 2) := by decide +kernel
theorem dL_isRound_534 : decode cL_isRound 534 = .ok (.aload_n 2, 1) := by decide +kernel
theorem dL_isRound_535 : decode cL_isRound 535 = .ok (.iconst 0, 1) := by decide +kernel
theorem dL_isRound_536 : decode cL_isRound 536 = .ok (.iaload, 1) := by decide +kernel
theorem dL_isRound_537 : decode cL_isRound 537 = .ok (.iload 4, 2) := by decide +kernel
theorem dL_isRound_539 : decode cL_isRound 539 = .ok (.iconst 1, 1) := by decide +kernel
theorem dL_isRound_540 : decode cL_isRound 540 = .ok (.iadd, 1) := by decide +kernel
theorem dL_isRound_541 : decode cL_isRound 541 = .ok (.imul, 1) := by decide +kernel
theorem dL_isRound_542 : decode cL_isRound 542 = .ok (.isub, 1) := by decide +kernel
theorem dL_isRound_543 : decode cL_isRound 543 = .ok (.if_icmp .ne 37, 3) := by decide +kernel
theorem dL_isRound_546 : decode cL_isRound 546 = .ok (.aload_n 0, 1) := by decide +kernel
theorem dL_isRound_547 : decode cL_isRound 547 = .ok (.iload 4, 2) := by decide +kernel
theorem dL_isRound_549 : decode cL_isRound 549 = .ok (.aload_n 2, 1) := by decide +kernel
theorem dL_isRound_550 : decode cL_isRound 550 = .ok (.iload 4, 2) := by decide +kernel
theorem dL_isRound_552 : decode cL_isRound 552 = .ok (.iaload, 1) := by decide +kernel
theorem dL_isRound_553 : decode cL_isRound 553 = .ok (.invokestatic 121, 3) := by decide +kernel
theorem dL_isRound_556 : decode cL_isRound 556 = .ok (.sipush (-30004), 3) := by decide +kernel
theorem dL_isRound_559 : decode cL_isRound 559 = .ok (.if_icmp .ne 21, 3) := by decide +kernel
theorem dL_isRound_562 : decode cL_isRound 562 = .ok (.aload_n 0, 1) := by decide +kernel
theorem dL_isRound_563 : decode cL_isRound 563 = .ok (.iload 4, 2) := by decide +kernel
theorem dL_isRound_565 : decode cL_isRound 565 = .ok (.bipush 11, 2) := by decide +kernel
theorem dL_isRound_567 : decode cL_isRound 567 = .ok (.invokestatic 124, 3) := by decide +kernel
theorem dL_isRound_570 : decode cL_isRound 570 = .ok (.sipush (-30001), 3) := by decide +kernel
theorem dL_isRound_573 : decode cL_isRound 573 = .ok (.if_icmp .ne 7, 3) := by decide +kernel
theorem dL_isRound_576 : decode cL_isRound 576 = .ok (.iconst 1, 1) := by decide +kernel
theorem dL_isRound_577 : decode cL_isRound 577 = .ok (.goto 4, 3) := by decide +kernel
theorem dL_isRound_580 : decode cL_isRound 580 = .ok (.iconst 0, 1) := by decide +kernel
theorem dL_isRound_581 : decode cL_isRound 581 = .ok (.ireturn, 1) := by decide +kernel
set_option maxRecDepth 20000 in
theorem ggL_isSo_L_isRound : GoodIn wsL_isSo wsL_isRound := goodIn_ca (goodIn_ca (goodIn_r _ [4, 5, 6, 3, 7, 8, 9, 10, 11, 12, 13, 14, 15, 16, 17, 18, 19, 20, 21, 22, 23, 24, 25, 26, 27, 28, 29, 30, 31, 32, 33, 34, 35, 36, 37, 38, 39, 40, 41, 42, 43, 44, 45, 46, 47, 48, 49, 50, 51, 52, 53, 54, 55, 56, 57, 58, 59, 60, 61, 62, 63, 64, 65, 66, 67, 68, 69, 70, 71, 72, 73, 74, 75, 76, 77, 78, 79, 80, 81, 82, 83, 84, 85, 86, 87, 88, 89, 90, 91, 92, 93, 94, 95, 96, 97, 98, 99, 100, 101, 102, 103, 104, 105, 106, 107, 108, 109, 110, 111, 112, 113, 114, 115, 116, 117, 118, 119, 120, 121, 144, 145, 146, 147, 148, 149, 150, 151, 152, 153, 154, 155, 156] (by decide +kernel) (by decide +kernel)) (goodIn_sub (fun _ h => List.mem_cons_of_mem _ (List.mem_append_left _ (List.mem_append_right _ h))) (by decide +kernel))) (goodIn_sub (fun _ h => List.mem_cons_of_mem _ (List.mem_append_right _ h)) (by decide +kernel))
set_option maxRecDepth 20000 in
theorem gL_isSo_L_isRound : GoodIn wsL_isSo (va_wsS RL 127 yL_isRound wsL_isRound) := goodIn_app (goodIn_of _ (by decide +kernel)) ggL_isSo_L_isRound
set_option maxRecDepth 20000 in
theorem ggL_isSo_L_total : GoodIn wsL_isSo wsL_total := goodIn_r _ [7, 8, 9, 3, 10, 11] (by decide +kernel) (by decide +kernel)
set_option maxRecDepth 20000 in
theorem gL_isSo_L_total : GoodIn wsL_isSo (va_wsS RL 53 yL_total wsL_total) := goodIn_app (goodIn_of _ (by decide +kernel)) ggL_isSo_L_total
set_option maxRecDepth 20000 in
theorem ggL_isSo_L_roundOf : GoodIn wsL_isSo wsL_roundOf := goodIn_ca (goodIn_ca (goodIn_r _ [44, 15, 45, 46, 47, 48, 19, 49, 21, 22, 24, 25, 26, 27, 28, 50, 51, 52, 53, 54, 55, 56, 57, 58, 59, 23, 29, 30, 31, 32, 33, 34, 60, 61, 62, 38, 63, 64, 41, 65, 36, 37, 39, 40, 66, 67, 68, 69, 70, 71, 72, 73, 74, 75, 76, 77, 78, 79, 80, 81, 82, 83, 84, 85, 86, 87, 88, 89, 90, 91, 92, 93, 94, 95, 96, 97, 98, 99, 100, 101, 102, 103, 104, 105, 106, 107, 108, 109, 110, 111, 112, 113, 114, 115, 144, 145, 146, 147, 148, 149, 150, 151, 152, 153, 154, 155, 156] (by decide +kernel) (by decide +kernel)) (goodIn_sub (fun _ h => List.mem_cons_of_mem _ (List.mem_append_left _ (List.mem_append_right _ h))) (by decide +kernel))) (goodIn_sub (fun _ h => List.mem_cons_of_mem _ (List.mem_append_right _ h)) (by decide +kernel))
set_option maxRecDepth 20000 in
theorem gL_isSo_L_roundOf : GoodIn wsL_isSo (va_wsS RL 124 yL_roundOf wsL_roundOf) := goodIn_app (goodIn_of _ (by decide +kernel)) ggL_isSo_L_roundOf
set_option maxRecDepth 20000 in
theorem ggL_isSo_L_stacked : GoodIn wsL_isSo wsL_stacked := goodIn_r _ [118, 8, 9, 3, 10, 11, 119, 120, 121] (by decide +kernel) (by decide +kernel)
set_option maxRecDepth 20000 in
theorem gL_isSo_L_stacked : GoodIn wsL_isSo (va_wsS RL 63 yL_stacked wsL_stacked) := goodIn_app (goodIn_of _ (by decide +kernel)) ggL_isSo_L_stacked
set_option maxRecDepth 20000 in
theorem ggL_isSo_L_valueOf : GoodIn wsL_isSo wsL_valueOf := goodIn_ca (goodIn_r _ [124, 45, 125, 126, 127, 19, 128, 21, 22, 129, 50, 51, 52, 53, 54, 130, 131, 132, 38, 133, 134, 135, 41, 30, 31, 32, 33, 34, 136, 137, 138, 139, 55, 56, 57, 58, 59, 23, 29, 60, 61, 62, 63, 64, 65, 36, 37, 39, 40, 66, 67, 68, 69, 70, 71, 72, 73, 74, 75, 76, 77, 78, 79, 80, 81, 82, 83, 84, 85, 86, 87, 88, 89, 90, 91, 92, 93, 94, 95, 96, 97, 98, 99, 100, 101, 102, 103, 104, 105, 106, 107, 108, 109, 110, 111, 112, 113, 114, 115, 140, 141, 142, 143, 144, 145, 146, 147, 148, 149, 150, 151, 152, 153, 154, 155, 156] (by decide +kernel) (by decide +kernel)) (goodIn_sub (fun _ h => List.mem_cons_of_mem _ (List.mem_append_right _ h)) (by decide +kernel))
set_option maxRecDepth 20000 in
theorem gL_isSo_L_valueOf : GoodIn wsL_isSo (va_wsS RL 131 yL_valueOf wsL_valueOf) := goodIn_app (goodIn_of _ (by decide +kernel)) ggL_isSo_L_valueOf
theorem dL_isSo_0 : decode cL_isSo 0 = .ok (.iconst 1, 1) := by decide +kernel
theorem dL_isSo_1 : decode cL_isSo 1 = .ok (.istore 4, 2) := by decide +kernel
theorem dL_isSo_3 : decode cL_isSo 3 = .ok (.iconst 0, 1) := by decide +kernel
theorem dL_isSo_4 : decode cL_isSo 4 = .ok (.istore 5, 2) := by decide +kernel
theorem dL_isSo_6 : decode cL_isSo 6 = .ok (.iconst 0, 1) := by decide +kernel
theorem dL_isSo_7 : decode cL_isSo 7 = .ok (.istore 6, 2) := by decide +kernel
theorem dL_isSo_9 : decode cL_isSo 9 = .ok (.iconst 0, 1) := by decide +kernel
theorem dL_isSo_10 : decode cL_isSo 10 = .ok (.istore 7, 2) := by decide +kernel
theorem dL_isSo_12 : decode cL_isSo 12 = .ok (.iconst 0, 1) := by decide +kernel
theorem dL_isSo_13 : decode cL_isSo 13 = .ok (.istore 8, 2) := by decide +kernel
theorem dL_isSo_15 : decode cL_isSo 15 = .ok (.iconst 0, 1) := by decide +kernel
theorem dL_isSo_16 : decode cL_isSo 16 = .ok (.istore 9, 2) := by decide +kernel
theorem dL_isSo_18 : decode cL_isSo 18 = .ok (.iconst 0, 1) := by decide +kernel
theorem dL_isSo_19 : decode cL_isSo 19 = .ok (.istore 10, 2) := by decide +kernel
theorem dL_isSo_21 : decode cL_isSo 21 = .ok (.iload 10, 2) := by decide +kernel
theorem dL_isSo_23 : decode cL_isSo 23 = .ok (.aload_n 1, 1) := by decide +kernel
theorem dL_isSo_24 : decode cL_isSo 24 = .ok (.iconst 0, 1) := by decide +kernel
theorem dL_isSo_25 : decode cL_isSo 25 = .ok (.iaload, 1) := by decide +kernel
theorem dL_isSo_26 : decode cL_isSo 26 = .ok (.if_icmp .ge 100, 3) := by decide +kernel
theorem dL_isSo_29 : decode cL_isSo 29 = .ok (.iload 4, 2) := by decide +kernel
theorem dL_isSo_31 : decode cL_isSo 31 = .ok (.ifCond .eq 95, 3) := by decide +kernel
theorem dL_isSo_34 : decode cL_isSo 34 = .ok (.aload_n 0, 1) := by decide +kernel
theorem dL_isSo_35 : decode cL_isSo 35 = .ok (.aload_n 1, 1) := by decide +kernel
theorem dL_isSo_36 : decode cL_isSo 36 = .ok (.aload_n 2, 1) := by decide +kernel
theorem dL_isSo_37 : decode cL_isSo 37 = .ok (.aload_n 3, 1) := by decide +kernel
theorem dL_isSo_38 : decode cL_isSo 38 = .ok (.iload 10, 2) := by decide +kernel
theorem dL_isSo_40 : decode cL_isSo 40 = .ok (.invokestatic 127, 3) := by decide +kernel
theorem dL_isSo_43 : decode cL_isSo 43 = .ok (.istore 4, 2) := by decide +kernel
theorem dL_isSo_45 : decode cL_isSo 45 = .ok (.aload_n 2, 1) := by decide +kernel
theorem dL_isSo_46 : decode cL_isSo 46 = .ok (.aload_n 3, 1) := by decide +kernel
theorem dL_isSo_47 : decode cL_isSo 47 = .ok (.iload 10, 2) := by decide +kernel
theorem dL_isSo_49 : decode cL_isSo 49 = .ok (.invokestatic 53, 3) := by decide +kernel
theorem dL_isSo_52 : decode cL_isSo 52 = .ok (.istore 11, 2) := by decide +kernel
theorem dL_isSo_54 : decode cL_isSo 54 = .ok (.iload 5, 2) := by decide +kernel
theorem dL_isSo_56 : decode cL_isSo 56 = .ok (.iload 11, 2) := by decide +kernel
theorem dL_isSo_58 : decode cL_isSo 58 = .ok (.iadd, 1) := by decide +kernel
theorem dL_isSo_59 : decode cL_isSo 59 = .ok (.istore 5, 2) := by decide +kernel
theorem dL_isSo_61 : decode cL_isSo 61 = .ok (.iload 6, 2) := by decide +kernel
theorem dL_isSo_63 : decode cL_isSo 63 = .ok (.aload_n 0, 1) := by decide +kernel
theorem dL_isSo_64 : decode cL_isSo 64 = .ok (.iload 10, 2) := by decide +kernel
theorem dL_isSo_66 : decode cL_isSo 66 = .ok (.bipush 7, 2) := by decide +kernel
theorem dL_isSo_68 : decode cL_isSo 68 = .ok (.invokestatic 124, 3) := by decide +kernel
theorem dL_isSo_71 : decode cL_isSo 71 = .ok (.iadd, 1) := by decide +kernel
theorem dL_isSo_72 : decode cL_isSo 72 = .ok (.istore 6, 2) := by decide +kernel
theorem dL_isSo_74 : decode cL_isSo 74 = .ok (.iload 7, 2) := by decide +kernel
theorem dL_isSo_76 : decode cL_isSo 76 = .ok (.aload_n 2, 1) := by decide +kernel
theorem dL_isSo_77 : decode cL_isSo 77 = .ok (.aload_n 3, 1) := by decide +kernel
theorem dL_isSo_78 : decode cL_isSo 78 = .ok (.iload 10, 2) := by decide +kernel
theorem dL_isSo_80 : decode cL_isSo 80 = .ok (.invokestatic 63, 3) := by decide +kernel
theorem dL_isSo_83 : decode cL_isSo 83 = .ok (.iadd, 1) := by decide +kernel
theorem dL_isSo_84 : decode cL_isSo 84 = .ok (.istore 7, 2) := by decide +kernel
theorem dL_isSo_86 : decode cL_isSo 86 = .ok (.iload 8, 2) := by decide +kernel
theorem dL_isSo_88 : decode cL_isSo 88 = .ok (.aload_n 0, 1) := by decide +kernel
theorem dL_isSo_89 : decode cL_isSo 89 = .ok (.iload 10, 2) := by decide +kernel
theorem dL_isSo_91 : decode cL_isSo 91 = .ok (.bipush 6, 2) := by decide +kernel
theorem dL_isSo_93 : decode cL_isSo 93 = .ok (.invokestatic 124, 3) := by decide +kernel
theorem dL_isSo_96 : decode cL_isSo 96 = .ok (.iadd, 1) := by decide +kernel
theorem dL_isSo_97 : decode cL_isSo 97 = .ok (.istore 8, 2) := by decide +kernel
theorem dL_isSo_99 : decode cL_isSo 99 = .ok (.iload 11, 2) := by decide +kernel
theorem dL_isSo_101 : decode cL_isSo 101 = .ok (.aload_n 2, 1) := by decide +kernel
theorem dL_isSo_102 : decode cL_isSo 102 = .ok (.aload_n 3, 1) := by decide +kernel
theorem dL_isSo_103 : decode cL_isSo 103 = .ok (.iload 9, 2) := by decide +kernel
theorem dL_isSo_105 : decode cL_isSo 105 = .ok (.invokestatic 53, 3) := by decide +kernel
theorem dL_isSo_108 : decode cL_isSo 108 = .ok (.if_icmp .le 8, 3) := by decide +kernel
theorem dL_isSo_111 : decode cL_isSo 111 = .ok (.iload 10, 2) := by decide +kernel
theorem dL_isSo_113 : decode cL_isSo 113 = .ok (.goto 5, 3) := by decide +kernel
theorem dL_isSo_116 : decode cL_isSo 116 = .ok (.iload 9, 2) := by decide +kernel
theorem dL_isSo_118 : decode cL_isSo 118 = .ok (.istore 9, 2) := by decide +kernel
theorem dL_isSo_120 : decode cL_isSo 120 = .ok (.iinc 10 1, 3) := by decide +kernel
theorem dL_isSo_123 : decode cL_isSo 123 = .ok (.goto (-102), 3) := by decide +kernel
theorem dL_isSo_126 : decode cL_isSo 126 = .ok (.iload 4, 2) := by decide +kernel
theorem dL_isSo_128 : decode cL_isSo 128 = .ok (.ifCond .eq 125, 3) := by decide +kernel
theorem dL_isSo_131 : decode cL_isSo 131 = .ok (.aload_n 0, 1) := by decide +kernel
theorem dL_isSo_132 : decode cL_isSo 132 = .ok (.aload_n 1, 1) := by decide +kernel
theorem dL_isSo_133 : decode cL_isSo 133 = .ok (.iconst 0, 1) := by decide +kernel
theorem dL_isSo_134 : decode cL_isSo 134 = .ok (.iaload, 1) := by decide +kernel
theorem dL_isSo_135 : decode cL_isSo 135 = .ok (.iconst 0, 1) := by decide +kernel
theorem dL_isSo_136 : decode cL_isSo 136 = .ok (.invokestatic 124, 3) := by decide +kernel
theorem dL_isSo_139 : decode cL_isSo 139 = .ok (.sipush (-30004), 3) := by decide +kernel
theorem dL_isSo_142 : decode cL_isSo 142 = .ok (.if_icmp .ne 111, 3) := by decide +kernel
theorem dL_isSo_145 : decode cL_isSo 145 = .ok (.aload_n 0, 1) := by decide +kernel
theorem dL_isSo_146 : decode cL_isSo 146 = .ok (.iconst (-1), 1) := by decide +kernel
theorem dL_isSo_147 : decode cL_isSo 147 = .ok (.iconst 0, 1) := by decide +kernel
theorem dL_isSo_148 : decode cL_isSo 148 = .ok (.invokestatic 124, 3) := by decide +kernel
theorem dL_isSo_151 : decode cL_isSo 151 = .ok (.sipush (-30004), 3) := by decide +kernel
theorem dL_isSo_154 : decode cL_isSo 154 = .ok (.if_icmp .ne 99, 3) := by decide +kernel
theorem dL_isSo_157 : decode cL_isSo 157 = .ok (.aload_n 0, 1) := by decide +kernel
theorem dL_isSo_158 : decode cL_isSo 158 = .ok (.iconst 0, 1) := by decide +kernel
theorem dL_isSo_159 : decode cL_isSo 159 = .ok (.invokestatic 131, 3) := by decide +kernel
theorem dL_isSo_162 : decode cL_isSo 162 = .ok (.aload_n 1, 1) := by decide +kernel
theorem dL_isSo_163 : decode cL_isSo 163 = .ok (.iconst 0, 1) := by decide +kernel
theorem dL_isSo_164 : decode cL_isSo 164 = .ok (.iaload, 1) := by decide +kernel
theorem dL_isSo_165 : decode cL_isSo 165 = .ok (.if_icmp .ne 88, 3) := by decide +kernel
theorem dL_isSo_168 : decode cL_isSo 168 = .ok (.aload_n 0, 1) := by decide +kernel
theorem dL_isSo_169 : decode cL_isSo 169 = .ok (.iconst 1, 1) := by decide +kernel
theorem dL_isSo_170 : decode cL_isSo 170 = .ok (.invokestatic 131, 3) := by decide +kernel
theorem dL_isSo_173 : decode cL_isSo 173 = .ok (.aload_n 2, 1) := by decide +kernel
theorem dL_isSo_174 : decode cL_isSo 174 = .ok (.aload_n 3, 1) := by decide +kernel
theorem dL_isSo_175 : decode cL_isSo 175 = .ok (.aload_n 1, 1) := by decide +kernel
theorem dL_isSo_176 : decode cL_isSo 176 = .ok (.iconst 0, 1) := by decide +kernel
theorem dL_isSo_177 : decode cL_isSo 177 = .ok (.iaload, 1) := by decide +kernel
theorem dL_isSo_178 : decode cL_isSo 178 = .ok (.iconst 1, 1) := by decide +kernel
theorem dL_isSo_179 : decode cL_isSo 179 = .ok (.isub, 1) := by decide +kernel
theorem dL_isSo_180 : decode cL_isSo 180 = .ok (.invokestatic 53, 3) := by decide +kernel
theorem dL_isSo_183 : decode cL_isSo 183 = .ok (.if_icmp .ne 70, 3) := by decide +kernel
theorem dL_isSo_186 : decode cL_isSo 186 = .ok (.aload_n 0, 1) := by decide +kernel
theorem dL_isSo_187 : decode cL_isSo 187 = .ok (.iconst 2, 1) := by decide +kernel
theorem dL_isSo_188 : decode cL_isSo 188 = .ok (.invokestatic 131, 3) := by decide +kernel
theorem dL_isSo_191 : decode cL_isSo 191 = .ok (.iload 5, 2) := by decide +kernel
theorem dL_isSo_193 : decode cL_isSo 193 = .ok (.if_icmp .ne 60, 3) := by decide +kernel
theorem dL_isSo_196 : decode cL_isSo 196 = .ok (.aload_n 0, 1) := by decide +kernel
theorem dL_isSo_197 : decode cL_isSo 197 = .ok (.iconst 3, 1) := by decide +kernel
theorem dL_isSo_198 : decode cL_isSo 198 = .ok (.invokestatic 131, 3) := by decide +kernel
theorem dL_isSo_201 : decode cL_isSo 201 = .ok (.iload 6, 2) := by decide +kernel
theorem dL_isSo_203 : decode cL_isSo 203 = .ok (.if_icmp .ne 50, 3) := by decide +kernel
theorem dL_isSo_206 : decode cL_isSo 206 = .ok (.aload_n 0, 1) := by decide +kernel
theorem dL_isSo_207 : decode cL_isSo 207 = .ok (.iconst 4, 1) := by decide +kernel
theorem dL_isSo_208 : decode cL_isSo 208 = .ok (.invokestatic 131, 3) := by decide +kernel
theorem dL_isSo_211 : decode cL_isSo 211 = .ok (.iload 7, 2) := by decide +kernel
theorem dL_isSo_213 : decode cL_isSo 213 = .ok (.if_icmp .ne 40, 3) := by decide +kernel
theorem dL_isSo_216 : decode cL_isSo 216 = .ok (.aload_n 0, 1) := by decide +kernel
theorem dL_isSo_217 : decode cL_isSo 217 = .ok (.iconst 5, 1) := by decide +kernel
theorem dL_isSo_218 : decode cL_isSo 218 = .ok (.invokestatic 131, 3) := by decide +kernel
theorem dL_isSo_221 : decode cL_isSo 221 = .ok (.iload 8, 2) := by decide +kernel
theorem dL_isSo_223 : decode cL_isSo 223 = .ok (.if_icmp .ne 30, 3) := by decide +kernel
theorem dL_isSo_226 : decode cL_isSo 226 = .ok (.aload_n 0, 1) := by decide +kernel
theorem dL_isSo_227 : decode cL_isSo 227 = .ok (.bipush 6, 2) := by decide +kernel
theorem dL_isSo_229 : decode cL_isSo 229 = .ok (.invokestatic 131, 3) := by decide +kernel
theorem dL_isSo_232 : decode cL_isSo 232 = .ok (.iload 9, 2) := by decide +kernel
theorem dL_isSo_234 : decode cL_isSo 234 = .ok (.if_icmp .ne 19, 3) := by decide +kernel
theorem dL_isSo_237 : decode cL_isSo 237 = .ok (.aload_n 0, 1) := by decide +kernel
theorem dL_isSo_238 : decode cL_isSo 238 = .ok (.bipush 7, 2) := by decide +kernel
theorem dL_isSo_240 : decode cL_isSo 240 = .ok (.invokestatic 131, 3) := by decide +kernel
theorem dL_isSo_243 : decode cL_isSo 243 = .ok (.aload_n 1, 1) := by decide +kernel
theorem dL_isSo_244 : decode cL_isSo 244 = .ok (.iconst 1, 1) := by decide +kernel
theorem dL_isSo_245 : decode cL_isSo 245 = .ok (.iaload, 1) := by decide +kernel
theorem dL_isSo_246 : decode cL_isSo 246 = .ok (.if_icmp .ne 7, 3) := by decide +kernel
theorem dL_isSo_249 : decode cL_isSo 249 = .ok (.iconst 1, 1) := by decide +kernel
theorem dL_isSo_250 : decode cL_isSo 250 = .ok (.goto 4, 3) := by decide +kernel
theorem dL_isSo_253 : decode cL_isSo 253 = .ok (.iconst 0, 1) := by decide +kernel
theorem dL_isSo_254 : decode cL_isSo 254 = .ok (.ireturn, 1) := by decide +kernel
set_option maxRecDepth 20000 in
theorem ggL_law_X6_init : GoodIn wsL_law wsX6_init := goodIn_r _ [7, 8, 9, 10, 11, 12, 13, 14, 15, 16, 17, 18, 19, 20, 21, 22, 23, 24, 25, 26, 27, 28, 29, 30, 31, 32, 33, 34, 35, 36, 37, 38, 39, 40, 41, 42, 43, 44, 45, 3, 46, 47, 48, 49, 50, 51, 52, 53, 54, 55, 56, 57, 58, 59, 60, 61, 62, 63, 64, 65, 66, 67, 68, 69, 70, 71, 72, 73, 74, 75, 76, 77, 78, 79, 80, 81, 82, 83, 84, 85, 86, 87, 88, 89, 90, 91, 92, 93, 94, 95, 2, 96, 97, 98, 99, 100, 414, 415, 416, 417, 418, 419, 409, 410, 411, 412, 413, 420, 421, 422, 423, 424, 425, 426, 427, 428, 429, 430, 431, 432, 433, 434, 435, 436, 437, 438] (by decide +kernel) (by decide +kernel)
set_option maxRecDepth 20000 in
theorem gL_law_X6_init : GoodIn wsL_law (wsX6_init) := ggL_law_X6_init
set_option maxRecDepth 20000 in
theorem ggL_law_L_isSo : GoodIn wsL_law wsL_isSo := goodIn_ca (goodIn_ca (goodIn_r _ [104, 105, 106, 103, 107, 108, 109, 110, 111, 112, 113, 114, 115, 116, 117, 118, 119, 120, 121, 2, 122, 14, 123, 124, 125, 126, 127, 128, 129, 130, 92, 93, 37, 94, 46, 131, 132, 133, 13, 134, 38, 91, 135, 136, 137, 138, 139, 140, 141, 142, 143, 144, 145, 146, 147, 148, 149, 150, 151, 152, 153, 154, 155, 156, 39, 157, 158, 159, 160, 161, 30, 162, 163, 164, 165, 29, 166, 167, 168, 71, 169, 170, 74, 75, 76, 95, 96, 171, 172, 173, 174, 175, 176, 177, 178, 179, 180, 181, 182, 183, 184, 41, 185, 186, 187, 188, 189, 190, 191, 192, 193, 194, 195, 196, 197, 198, 199, 200, 201, 202, 203, 204, 205, 206, 207, 208, 209, 210, 211, 212, 213, 214, 215, 216, 40, 81, 217, 218, 219, 220, 221, 222, 223, 224, 409, 410, 411, 412, 413, 414, 415, 416, 417, 418, 419, 438, 437] (by decide +kernel) (by decide +kernel)) (goodIn_sub (fun _ h => List.mem_append_left _ (List.mem_append_left _ (List.mem_append_left _ (List.mem_append_right _ h)))) (by decide +kernel))) (goodIn_sub (fun _ h => List.mem_append_left _ (List.mem_append_left _ (List.mem_append_right _ h))) (by decide +kernel))
set_option maxRecDepth 20000 in
theorem gL_law_L_isSo : GoodIn wsL_law (va_wsS RL 135 yL_isSo wsL_isSo) := goodIn_app (goodIn_of _ (by decide +kernel)) ggL_law_L_isSo
set_option maxRecDepth 20000 in
theorem ggL_law_L_cell : GoodIn wsL_law wsL_cell := goodIn_r _ [227, 228] (by decide +kernel) (by decide +kernel)
set_option maxRecDepth 20000 in
theorem gL_law_L_cell : GoodIn wsL_law (va_wsS RL 139 yL_cell wsL_cell) := goodIn_app (goodIn_of _ (by decide +kernel)) ggL_law_L_cell
set_option maxRecDepth 20000 in
theorem ggL_law_L_low : GoodIn wsL_law wsL_low := goodIn_r _ [231, 232] (by decide +kernel) (by decide +kernel)
set_option maxRecDepth 20000 in
theorem gL_law_L_low : GoodIn wsL_law (va_wsS RL 67 yL_low wsL_low) := goodIn_app (goodIn_of _ (by decide +kernel)) ggL_law_L_low
set_option maxRecDepth 20000 in
theorem ggL_law_L_acts : GoodIn wsL_law wsL_acts := goodIn_ca (goodIn_ca (goodIn_ca (goodIn_r _ [235, 236, 229, 230, 103, 231, 232, 108, 109, 110, 111, 112, 113, 114, 237, 238, 239, 138, 240, 241, 242, 2, 243, 14, 123, 18, 143, 144, 145, 146, 147, 244, 245, 246, 17, 247, 248, 249, 250, 197, 194, 198, 251, 252, 253, 254, 52, 255, 256, 257, 13, 258, 81, 259, 39, 40, 41, 38, 260, 261, 262, 37, 263, 264, 92, 93, 94, 46, 265, 74, 75, 76, 91, 77, 78, 79, 80, 82, 83, 84, 85, 86, 87, 88, 89, 90, 95, 96, 97, 98, 99, 100, 266, 267, 268, 269, 270, 271, 272, 31, 130, 73, 273, 274, 275, 276, 212, 277, 278, 279, 280, 281, 282, 283, 284, 285, 286, 287, 288, 289, 213, 214, 215, 216, 290, 291, 292, 293, 294, 295, 296, 297, 298, 299, 300, 301, 302, 199, 200, 201, 202, 203, 204, 303, 304, 305, 306, 307, 308, 309, 26, 310, 311, 312, 313, 314, 315, 316, 317, 318, 319, 152, 320, 321, 193, 195, 322, 323, 324, 325, 326, 327, 328, 329, 330, 25, 331, 332, 65, 333, 334, 335, 336, 337, 338, 339, 340, 341, 342, 343, 344, 345, 346, 347, 30, 163, 164, 165, 29, 166, 167, 168, 71, 169, 170, 348, 349, 350, 351, 352, 353, 354, 172, 173, 174, 175, 176, 355, 356, 357, 358, 359, 360, 361, 362, 363, 364, 365, 366, 367, 368, 369, 370, 371, 372, 373, 374, 375, 376, 377, 378, 379, 380, 381, 382, 383, 384, 385, 386, 387, 388, 389, 390, 391, 392, 393, 394, 395, 396, 397, 171, 398, 399, 400, 401, 402, 403, 404, 405, 406, 407, 408, 409, 410, 411, 412, 413, 414, 415, 416, 417, 418, 419, 420, 421, 422, 438, 433, 434, 435, 436, 437] (by decide +kernel) (by decide +kernel)) (goodIn_sub (fun _ h => List.mem_append_left _ (List.mem_append_left _ (List.mem_append_right _ h))) (by decide +kernel))) (goodIn_sub (fun _ h => List.mem_append_left _ (List.mem_append_right _ h)) (by decide +kernel))) (goodIn_sub (fun _ h => List.mem_append_right _ h) (by decide +kernel))
set_option maxRecDepth 20000 in
theorem gL_law_L_acts : GoodIn wsL_law (va_wsS RL 143 yL_acts wsL_acts) := goodIn_app (goodIn_of _ (by decide +kernel)) ggL_law_L_acts
set_option maxRecDepth 20000 in
theorem ggL_law_L_valueOf : GoodIn wsL_law wsL_valueOf := goodIn_ca (goodIn_r _ [207, 138, 208, 209, 210, 2, 211, 14, 123, 212, 143, 144, 145, 146, 147, 213, 214, 215, 13, 216, 40, 81, 91, 92, 93, 37, 94, 46, 217, 218, 219, 220, 148, 149, 150, 151, 152, 124, 130, 153, 154, 155, 156, 39, 157, 132, 133, 134, 38, 158, 159, 160, 161, 30, 162, 163, 164, 165, 29, 166, 167, 168, 71, 169, 170, 74, 75, 76, 95, 96, 171, 172, 173, 174, 175, 176, 177, 178, 179, 180, 181, 182, 183, 184, 41, 185, 186, 187, 188, 189, 190, 191, 192, 193, 194, 195, 196, 197, 198, 221, 222, 223, 224, 409, 410, 411, 412, 413, 414, 415, 416, 417, 418, 419, 438, 437] (by decide +kernel) (by decide +kernel)) (goodIn_sub (fun _ h => List.mem_append_left _ (List.mem_append_left _ (List.mem_append_right _ h))) (by decide +kernel))
set_option maxRecDepth 20000 in
theorem gL_law_L_valueOf : GoodIn wsL_law (va_wsS RL 131 yL_valueOf wsL_valueOf) := goodIn_app (goodIn_of _ (by decide +kernel)) ggL_law_L_valueOf
theorem dL_law_0 : decode cL_law 0 = .ok (.new 10, 3) := by decide +kernel
theorem dL_law_3 : decode cL_law 3 = .ok (.dup, 1) := by decide +kernel
theorem dL_law_4 : decode cL_law 4 = .ok (.invokespecial 134, 3) := by decide +kernel
theorem dL_law_7 : decode cL_law 7 = .ok (.astore_n 1, 1) := by decide +kernel
theorem dL_law_8 : decode cL_law 8 = .ok (.iconst 5, 1) := by decide +kernel
theorem dL_law_9 : decode cL_law 9 = .ok (.newarray .int, 2) := by decide +kernel
theorem dL_law_11 : decode cL_law 11 = .ok (.astore_n 2, 1) := by decide +kernel
theorem dL_law_12 : decode cL_law 12 = .ok (.bipush 16, 2) := by decide +kernel
theorem dL_law_14 : decode cL_law 14 = .ok (.newarray .int, 2) := by decide +kernel
theorem dL_law_16 : decode cL_law 16 = .ok (.astore_n 3, 1) := by decide +kernel
theorem dL_law_17 : decode cL_law 17 = .ok (.bipush 64, 2) := by decide +kernel
theorem dL_law_19 : decode cL_law 19 = .ok (.newarray .long, 2) := by decide +kernel
theorem dL_law_21 : decode cL_law 21 = .ok (.astore 4, 2) := by decide +kernel
theorem dL_law_23 : decode cL_law 23 = .ok (.aload_n 2, 1) := by decide +kernel
theorem dL_law_24 : decode cL_law 24 = .ok (.iconst 0, 1) := by decide +kernel
theorem dL_law_25 : decode cL_law 25 = .ok (.iconst 1, 1) := by decide +kernel
theorem dL_law_26 : decode cL_law 26 = .ok (.iastore, 1) := by decide +kernel
theorem dL_law_27 : decode cL_law 27 = .ok (.aload_n 2, 1) := by decide +kernel
theorem dL_law_28 : decode cL_law 28 = .ok (.iconst 2, 1) := by decide +kernel
theorem dL_law_29 : decode cL_law 29 = .ok (.bipush 10, 2) := by decide +kernel
theorem dL_law_31 : decode cL_law 31 = .ok (.iastore, 1) := by decide +kernel
theorem dL_law_32 : decode cL_law 32 = .ok (.aload_n 2, 1) := by decide +kernel
theorem dL_law_33 : decode cL_law 33 = .ok (.iconst 3, 1) := by decide +kernel
theorem dL_law_34 : decode cL_law 34 = .ok (.bipush 20, 2) := by decide +kernel
theorem dL_law_36 : decode cL_law 36 = .ok (.iastore, 1) := by decide +kernel
theorem dL_law_37 : decode cL_law 37 = .ok (.aload_n 2, 1) := by decide +kernel
theorem dL_law_38 : decode cL_law 38 = .ok (.iconst 4, 1) := by decide +kernel
theorem dL_law_39 : decode cL_law 39 = .ok (.bipush 13, 2) := by decide +kernel
theorem dL_law_41 : decode cL_law 41 = .ok (.iastore, 1) := by decide +kernel
theorem dL_law_42 : decode cL_law 42 = .ok (.aload_n 3, 1) := by decide +kernel
theorem dL_law_43 : decode cL_law 43 = .ok (.iconst 0, 1) := by decide +kernel
theorem dL_law_44 : decode cL_law 44 = .ok (.bipush 6, 2) := by decide +kernel
theorem dL_law_46 : decode cL_law 46 = .ok (.iastore, 1) := by decide +kernel
theorem dL_law_47 : decode cL_law 47 = .ok (.aload_n 1, 1) := by decide +kernel
theorem dL_law_48 : decode cL_law 48 = .ok (.aload_n 2, 1) := by decide +kernel
theorem dL_law_49 : decode cL_law 49 = .ok (.aload_n 3, 1) := by decide +kernel
theorem dL_law_50 : decode cL_law 50 = .ok (.aload 4, 2) := by decide +kernel
theorem dL_law_52 : decode cL_law 52 = .ok (.invokestatic 135, 3) := by decide +kernel
theorem dL_law_55 : decode cL_law 55 = .ok (.istore 5, 2) := by decide +kernel
theorem dL_law_57 : decode cL_law 57 = .ok (.bipush 8, 2) := by decide +kernel
theorem dL_law_59 : decode cL_law 59 = .ok (.aload_n 0, 1) := by decide +kernel
theorem dL_law_60 : decode cL_law 60 = .ok (.iconst 0, 1) := by decide +kernel
theorem dL_law_61 : decode cL_law 61 = .ok (.invokestatic 139, 3) := by decide +kernel
theorem dL_law_64 : decode cL_law 64 = .ok (.bipush 40, 2) := by decide +kernel
theorem dL_law_66 : decode cL_law 66 = .ok (.invokestatic 67, 3) := by decide +kernel
theorem dL_law_69 : decode cL_law 69 = .ok (.iadd, 1) := by decide +kernel
theorem dL_law_70 : decode cL_law 70 = .ok (.istore 6, 2) := by decide +kernel
theorem dL_law_72 : decode cL_law 72 = .ok (.iconst 0, 1) := by decide +kernel
theorem dL_law_73 : decode cL_law 73 = .ok (.istore 7, 2) := by decide +kernel
theorem dL_law_75 : decode cL_law 75 = .ok (.iload 7, 2) := by decide +kernel
theorem dL_law_77 : decode cL_law 77 = .ok (.iload 6, 2) := by decide +kernel
theorem dL_law_79 : decode cL_law 79 = .ok (.if_icmp .ge 58, 3) := by decide +kernel
theorem dL_law_82 : decode cL_law 82 = .ok (.iload 5, 2) := by decide +kernel
theorem dL_law_84 : decode cL_law 84 = .ok (.ifCond .eq 53, 3) := by decide +kernel
theorem dL_law_87 : decode cL_law 87 = .ok (.aload_n 1, 1) := by decide +kernel
theorem dL_law_88 : decode cL_law 88 = .ok (.aload_n 2, 1) := by decide +kernel
theorem dL_law_89 : decode cL_law 89 = .ok (.aload_n 3, 1) := by decide +kernel
theorem dL_law_90 : decode cL_law 90 = .ok (.aload 4, 2) := by decide +kernel
theorem dL_law_92 : decode cL_law 92 = .ok (.aload_n 0, 1) := by decide +kernel
theorem dL_law_93 : decode cL_law 93 = .ok (.iconst 1, 1) := by decide +kernel
theorem dL_law_94 : decode cL_law 94 = .ok (.iload 7, 2) := by decide +kernel
theorem dL_law_96 : decode cL_law 96 = .ok (.iadd, 1) := by decide +kernel
theorem dL_law_97 : decode cL_law 97 = .ok (.invokestatic 139, 3) := by decide +kernel
theorem dL_law_100 : decode cL_law 100 = .ok (.sipush 7919, 3) := by decide +kernel
theorem dL_law_103 : decode cL_law 103 = .ok (.iload 7, 2) := by decide +kernel
theorem dL_law_105 : decode cL_law 105 = .ok (.imul, 1) := by decide +kernel
theorem dL_law_106 : decode cL_law 106 = .ok (.ixor, 1) := by decide +kernel
theorem dL_law_107 : decode cL_law 107 = .ok (.invokestatic 143, 3) := by decide +kernel
theorem dL_law_110 : decode cL_law 110 = .ok (.ifCond .eq 18, 3) := by decide +kernel
theorem dL_law_113 : decode cL_law 113 = .ok (.aload_n 1, 1) := by decide +kernel
theorem dL_law_114 : decode cL_law 114 = .ok (.aload_n 2, 1) := by decide +kernel
theorem dL_law_115 : decode cL_law 115 = .ok (.aload_n 3, 1) := by decide +kernel
theorem dL_law_116 : decode cL_law 116 = .ok (.aload 4, 2) := by decide +kernel
theorem dL_law_118 : decode cL_law 118 = .ok (.invokestatic 135, 3) := by decide +kernel
theorem dL_law_121 : decode cL_law 121 = .ok (.ifCond .eq 7, 3) := by decide +kernel
theorem dL_law_124 : decode cL_law 124 = .ok (.iconst 1, 1) := by decide +kernel
theorem dL_law_125 : decode cL_law 125 = .ok (.goto 4, 3) := by decide +kernel
theorem dL_law_128 : decode cL_law 128 = .ok (.iconst 0, 1) := by decide +kernel
theorem dL_law_129 : decode cL_law 129 = .ok (.istore 5, 2) := by decide +kernel
theorem dL_law_131 : decode cL_law 131 = .ok (.iinc 7 1, 3) := by decide +kernel
theorem dL_law_134 : decode cL_law 134 = .ok (.goto (-59), 3) := by decide +kernel
theorem dL_law_137 : decode cL_law 137 = .ok (.iload 5, 2) := by decide +kernel
theorem dL_law_139 : decode cL_law 139 = .ok (.ifCond .eq 30, 3) := by decide +kernel
theorem dL_law_142 : decode cL_law 142 = .ok (.aload_n 1, 1) := by decide +kernel
theorem dL_law_143 : decode cL_law 143 = .ok (.iconst (-1), 1) := by decide +kernel
theorem dL_law_144 : decode cL_law 144 = .ok (.invokestatic 131, 3) := by decide +kernel
theorem dL_law_147 : decode cL_law 147 = .ok (.sipush (-30001), 3) := by decide +kernel
theorem dL_law_150 : decode cL_law 150 = .ok (.if_icmp .ne 19, 3) := by decide +kernel
theorem dL_law_153 : decode cL_law 153 = .ok (.aload_n 1, 1) := by decide +kernel
theorem dL_law_154 : decode cL_law 154 = .ok (.bipush 8, 2) := by decide +kernel
theorem dL_law_156 : decode cL_law 156 = .ok (.invokestatic 131, 3) := by decide +kernel
theorem dL_law_159 : decode cL_law 159 = .ok (.sipush (-30001), 3) := by decide +kernel
theorem dL_law_162 : decode cL_law 162 = .ok (.if_icmp .ne 7, 3) := by decide +kernel
theorem dL_law_165 : decode cL_law 165 = .ok (.iconst 1, 1) := by decide +kernel
theorem dL_law_166 : decode cL_law 166 = .ok (.goto 4, 3) := by decide +kernel
theorem dL_law_169 : decode cL_law 169 = .ok (.iconst 0, 1) := by decide +kernel
theorem dL_law_170 : decode cL_law 170 = .ok (.ireturn, 1) := by decide +kernel
end
