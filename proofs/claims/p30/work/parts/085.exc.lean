/-! methods that throw: what rides along (tables' words that no list holds, texts, the two statics of Throwable) -/
def xI : String := "java/lang/IllegalArgumentException"
def xS : String := "java/lang/IllegalStateException"
def xU : String := "java/lang/UnsupportedOperationException"
def xB : String := "java/lang/IndexOutOfBoundsException"
def kBadL : List Cond := [.declares ⟨"java/lang/RuntimeException", "<init>", "(Ljava/lang/String;)V"⟩, .declares ⟨"java/lang/Exception", "<init>", "(Ljava/lang/String;)V"⟩, .declares ⟨"java/lang/Throwable", "<init>", "(Ljava/lang/String;)V"⟩, .castable "java/lang/IllegalArgumentException" "java/lang/IllegalArgumentException", .castable "java/lang/IllegalStateException" "java/lang/IllegalStateException", .castable "java/lang/UnsupportedOperationException" "java/lang/UnsupportedOperationException", .castable "java/lang/IndexOutOfBoundsException" "java/lang/IndexOutOfBoundsException"]
def kBad (U : State) : Prop := ∀ w ∈ kBadL, va_Nw w U
theorem kBad.moved {u U : State} (hvm : u.vm.Alike U.vm) (h : kBad u) : kBad U := by
  intro w hw
  have h1 := h w hw
  have key : w.before #[] (u.setVm U.vm) = true → va_Nw w U := fun z => va_tabs (by simp only [kBadL, List.mem_cons, List.not_mem_nil, or_false] at hw; rcases hw with rfl | rfl | rfl | rfl | rfl | rfl | rfl <;> rfl) (rfl : (u.setVm U.vm).vm = U.vm) z
  apply key
  unfold va_Nw at h1
  simp only [kBadL, List.mem_cons, List.not_mem_nil, or_false] at hw
  rcases hw with rfl | rfl | rfl | rfl | rfl | rfl | rfl
  · rw [Cond.declares_setVm hvm]; exact h1
  · rw [Cond.declares_setVm hvm]; exact h1
  · rw [Cond.declares_setVm hvm]; exact h1
  · rw [Cond.castable_setVm hvm]; exact h1
  · rw [Cond.castable_setVm hvm]; exact h1
  · rw [Cond.castable_setVm hvm]; exact h1
  · rw [Cond.castable_setVm hvm]; exact h1
def kStr (U : State) : Prop := (∃ a, vk_R RX6 219 "an argument is out of range" a U) ∧ (∃ a, vk_R RX6 226 "not in this state" a U) ∧ (∃ a, vk_R RX6 231 "the goal is not possible" a U) ∧ ∃ a, vk_R RX6 236 "there is no such thing" a U
def kNo (U : State) : Prop := va_Nc xS xI U ∧ va_Nc xU xI U ∧ va_Nc xU xS U ∧ va_Nc xI xB U
def kXs (U : State) : Prop := kBad U ∧ kStr U ∧ kNo U
theorem kXs.warm {s U : State} (hW : s.WarmedH U.vm) (h : kXs s) : kXs U := by
  obtain ⟨h1, ⟨⟨a1, b1⟩, ⟨a2, b2⟩, ⟨a3, b3⟩, a4, b4⟩, c1, c2, c3, c4⟩ := h
  exact ⟨h1.moved hW.alike, ⟨⟨a1, b1.warm hW⟩, ⟨a2, b2.warm hW⟩, ⟨a3, b3.warm hW⟩, a4, b4.warm hW⟩, c1.moved hW.alike, c2.moved hW.alike, c3.moved hW.alike, c4.moved hW.alike⟩
theorem kXs.same {u U : State} (e : u.vm = U.vm) (h : kXs u) : kXs U := by
  obtain ⟨h1, ⟨⟨a1, b1⟩, ⟨a2, b2⟩, ⟨a3, b3⟩, a4, b4⟩, c1, c2, c3, c4⟩ := h
  have hv : u.vm.Alike U.vm := by rw [e]; exact Vm.Alike.refl _
  exact ⟨h1.moved hv, ⟨⟨a1, b1.same e.symm⟩, ⟨a2, b2.same e.symm⟩, ⟨a3, b3.same e.symm⟩, a4, b4.same e.symm⟩, c1.moved hv, c2.moved hv, c3.moved hv, c4.moved hv⟩
def kSt (A : Nat → Prop) (U : State) (H : Heap) : Prop := vx_Zq Bundle.tN "UNASSIGNED_STACK" Bundle.steD A U H ∧ vx_Zq Bundle.tN "SUPPRESSED_SENTINEL" Bundle.listD A U H
def kPreX (G : kG) (wp : va_W) (sz : Nat) (U : State) : Prop := kPre G wp sz U ∧ kXs U ∧ kSt (va_A wp sz) U U.heap
theorem kPreX_blind {G : kG} {wp : va_W} {sz : Nat} {av : List Value} : FrameBlind (va_Pc av (kPreX G wp sz)) := fun a U g mk q => by
  obtain ⟨q0, q1, q2, q3, q4⟩ := q
  exact ⟨q0, (kPre_blind a U g mk ⟨q0, q1⟩).2, kXs.same (u := U) (U := U.calling g mk a) rfl q2, vx_Zq.moved (u := U) (U := U.calling g mk a) (Vm.Alike.refl U.vm) q3, vx_Zq.moved (u := U) (U := U.calling g mk a) (Vm.Alike.refl U.vm) q4⟩
def kXC (G : kG) (A : Nat → Prop) (E : String) (post : va_W → Prop) : String → State → State → Prop := fun E2 st t => E2 = E ∧ (∃ wq : va_W, post wq ∧ va_P G.1 vwCl wq t.heap ∧ va_D A wq) ∧ va_F A st t
def kNo2 : Array Value → State → Outcome → State → Prop := fun _ _ _ _ => False
/-- the contract of a method that throws E -/
def kXM (l : Launch) (y : MethodName) (ws : List Cond) (fr lo mc ms : Nat) (G : kG) (av : List Value) (wp : va_W) (E : String) (post : va_W → Prop) : Prop :=
  ∀ sz : Nat, vx_Met l y ws { frames := fr, cells := mc, slots := ms, locals := lo } (va_Pc av (kPreX G wp sz)) kNo2 (kXC G (va_A wp sz) E post) mc ms (va_A wp sz)
def kZx (below : List Frame) (G : kG) (A : Nat → Prop) (E : String) (post : va_W → Prop) (args : Array Value) (s : State) (mc ms : Nat) : State → Prop := vx_MQ below kNo2 (kXC G A E post) args s mc ms A
theorem kXM.of {l : Launch} {y : MethodName} {ws ws' : List Cond} {fr lo mc ms : Nat} {G : kG} {av : List Value} {wp : va_W} {E : String} {post : va_W → Prop} {cc : ByteArray} {maxL : Nat} {ret : Option FieldType} (hy : plainName y.cls = true) (hwd : ws = Cond.code y cc maxL ret :: ws') (hlen : (lg_sl av).length ≤ maxL)
    (body : ∀ (p : Program) (e : Env) (s : State) (m : MethodId) (args : Array Value) (below : List Frame) (meth : Method) (c : Code) (A : Nat → Prop) (ls : Array Slot) (Q : State → Prop), Q = kZx below G A E post args s mc ms → (∀ x ∈ c.exceptionTable.toList, False) → kXs s → kSt A s s.heap → kM p m c cc maxL s args ws y.cls meth ret → kW G A s wp s.heap [] → lv_has ls maxL (lv_args 0 av) →
      W p l e { frames := fr, cells := mc, slots := ms, locals := lo } s m args below meth c s.heap [] 0 0 Q (F0 m 0 ls [])) : kXM l y ws fr lo mc ms G av wp E post := by
  intro sz
  refine vx_ofW (cc := cc) (maxL := maxL) (ret := ret) hy hwd ?_
  intro p e s m args below meth c s₁ B hml hnt hv
  obtain ⟨rfl, ⟨hsz, hP, hK, hD0⟩, hxs, hst⟩ := hv
  subst hsz
  have hl := lv_entry av (n := maxL) hlen
  rw [lg_entry_eq]
  exact body p e s m _ below meth c _ _ _ rfl hnt hxs hst ⟨B.exec, B.bytes, hml, findClass_of_methodNamed B.named, atoms_spec (ws := ws) B.pre, B.returns, B.notSynchronized⟩ ⟨hP, hD0.self, va_S.rf, hK, fun q h => Or.inr h⟩ hl
section KXC
variable {p : Program} {l : Launch} {e : Env} {R : Room} {s : State} {m : MethodId} {args : Array Value} {below : List Frame} {meth : Method} {c : Code} {H : Heap} {locs : List Loc} {cells slots : Nat} {Q : State → Prop}
variable {cc : ByteArray} {pc nL : Nat} {ls : Array Slot} {rest st : List Value} {Ts : List Cond} {own : String} {ret : Option FieldType} {G : kG} {A : Nat → Prop} {ws wq : va_W} {ll : List (Nat × Value)} {mc ms : Nat}
/-- 'throw new E("text")' -/
theorem k_throwS (hm : kM p m c cc nL s args Ts own meth ret) (hw : kW G A s wq H locs) (hl : lv_has ls nL ll) {E text : String} {post : va_W → Prop} (hQ : Q = kZx below G A E post args s mc ms) (hnt : ∀ x ∈ c.exceptionTable.toList, False) (hxs : kXs s) (hst : kSt A s s.heap) (htr : l.stackTraces = false) {ik is ic sa : Nat} (hs : vk_R own is text sa s)
    (hfit : Bundle.fit E = true) (hf1 : ∀ n ∈ ["java/lang/RuntimeException", "java/lang/Exception"], Bundle.fit n = true) (hk : Cond.classLink own ik E ∈ Ts) (hini : Cond.initialized E ∈ Ts) (hat : ∀ w ∈ (vx_atS own ic E ["java/lang/RuntimeException", "java/lang/Exception"]).filter goodWord, w ∈ Ts) (hbad : ∀ w ∈ (vx_atS own ic E ["java/lang/RuntimeException", "java/lang/Exception"]).filter (fun w => !goodWord w), w ∈ kBadL) (hgood : ∀ w ∈ Cond.classLink own ik E :: Cond.initialized E :: vx_atS own ic E ["java/lang/RuntimeException", "java/lang/Exception"], vx_ot w = true)
    (d0 : decode cc pc = .ok (.new ik, 3)) (d3 : decode cc (pc + 3) = .ok (.dup, 1)) (d4 : decode cc (pc + 4) = .ok (.ldc is, 2)) (d6 : decode cc (pc + 6) = .ok (.invokespecial ic, 3)) (d9 : decode cc (pc + 9) = .ok (.athrow, 1))
    (h1 : 5 < R.frames) (h2 : (rest.map fun v => v.category).sum + 82 ≤ R.locals) (h3 : cells + 1 ≤ R.cells) (h4 : slots + 6 ≤ R.slots) (h5 : cells + 1 ≤ mc) (h6 : slots + 6 ≤ ms) (hp : post wq) : W p l e R s m args below meth c H locs cells slots Q (F0 m pc ls rest) := by
  subst hQ
  refine vx_throwS (names := ["java/lang/RuntimeException", "java/lang/Exception"]) hm.1 hm.2.1 htr hm.2.2.2.1 hfit hf1 (hm.2.2.2.2.1 _ hk) (hm.2.2.2.2.1 _ hini) hs ?_ hgood hst.1 hst.2 hw.2.2.1 (hl.1.trans hm.2.2.1.symm) d0 d3 d4 d6 d9 (fun x hx => (hnt x hx).elim) h1 h2 h3 h4 hm.2.2.2.2.2.2 ?_ hw.2.2.1.2.2 h5 h6
  · exact vx_hat (B := kBadL) (fun w hw => hm.2.2.2.2.1 _ (hat w hw)) hbad (fun w hw => va_Nw.use (by simp only [kBadL, List.mem_cons, List.not_mem_nil, or_false] at hw; rcases hw with rfl | rfl | rfl | rfl | rfl | rfl | rfl <;> rfl) (hxs.1 w hw))
  · intro t hvm hz hkeep
    have hlt : ∀ (k : Nat) (q : Nat × va_E), wq[k]? = some q → q.1 < H.size := fun k q hq => (hw.1 k q hq).lt
    exact ⟨rfl, ⟨wq, hp, hw.1.kept (fun k q hq => hkeep q.1 (hlt k q hq)), hw.2.1⟩, Nat.le_trans hw.2.2.1.1 hz, fun q q1 q2 => by rw [hkeep q (Nat.lt_of_lt_of_le q1 hw.2.2.1.1)]; exact hw.2.2.1.2.1 q q1 q2⟩
/-- behind a call that throws -/
theorem k_afterX {wp wr : va_W} {av : Array Value} {E : String} {post1 : va_W → Prop} {mc1 ms1 : Nat} (hw : kW G A s ws H locs) (isC isR : List Nat) (hC : isC.map (fun i => ws[i]?) = wp.map some) (hR : isR.map (fun i => ws[i]?) = wr.map some) (hn : va_nd isR = true) (hdis : ∀ i ∈ isR, i ∉ isC)
    (hr : vx_Run p l e R s m args below meth c H locs cells slots mc1 ms1 (F0 m pc ls st) rest (kNo2 av) (kXC G (va_A wp H.size) E post1) (va_A wp H.size))
    (kk : ∀ (q : Addr) (ce : Cell) (w1 : va_W) (H1 : Heap) (locs1 : List Loc), post1 w1 → kW G A s (wr ++ w1) H1 locs1 → H1[q]? = some ce → ce.vm = .none → s.vm.findClass E = some ce.cls → vx_W p l e R s m args below meth c H1 locs1 (cells + mc1) (slots + ms1) Q (F0 m pc ls rest) q) : W p l e R s m args below meth c H locs cells slots Q (F0 m pc ls st) := by
  obtain ⟨hP, hD, hS, hK, hA⟩ := hw
  have hF := va_free (wc := wp) hD hS hA isC hC
  intro T hT X
  rcases hr T hT X with ⟨v, st₀, t, T', L, h0, X', hL, e1, e2, hno, stp⟩ | ⟨q, st₀, t, T', L, E2, ce, h0, X', hL, e1, e2, ⟨rfl, ⟨w1, hp, hP1, hD1⟩, hz, hk⟩, hce, hcv, hcl, stp⟩
  · exact hno.elim
  · rw [h0] at hz hk
    obtain ⟨hP2, hD2⟩ := va_join (wr := wr) (w1 := w1) hP hD isC isR hC hR hn hdis (fun q h1 h2 => by rw [hk q h1 h2]) hF hP1 hD1
    obtain ⟨t2, a1, b1⟩ := kk q ce w1 T'.heap (locs ++ L) hp ⟨by rw [e1]; exact hP2, hD2, ⟨Nat.le_trans hS.1 (by rw [e1]; exact hz), fun q h1 h2 => by rw [e1, hk q (Nat.lt_of_lt_of_le h1 hS.1) (fun z => h2 (hF q z))]; exact hS.2.1 q h1 h2, fun q hq => by
      rcases List.mem_append.mp hq with h | h
      · exact hS.2.2 q h
      · exact hF _ (hL q h)⟩, hK, hA⟩ (by rw [e1]; exact hce) hcv hcl T' rfl X'
    exact ⟨t2, stp.trans a1, b1⟩
theorem kSt.at {H1 : Heap} {locs1 : List Loc} (h : kSt A s s.heap) (hS : va_S A s.heap H1 locs1) {B : Nat → Prop} (hB : ∀ q, B q → A q) {U : State} (hvm : s.vm.Alike U.vm) : kSt B U H1 :=
  ⟨((h.1.kept (fun a h1 h2 => hS.2.1 a h1 h2)).narrow hB).moved hvm, ((h.2.kept (fun a h1 h2 => hS.2.1 a h1 h2)).narrow hB).moved hvm⟩
theorem kW.preX {wp : va_W} (hw : kW G A s ws H locs) (hxs : kXs s) (hst : kSt A s s.heap) (isC : List Nat) (hnC : va_nd isC = true) (hC : isC.map (fun i => ws[i]?) = wp.map some) (av : List Value) : ∀ U : State, U.heap = H → s.WarmedH U.vm → va_Pc av (kPreX G wp H.size) av.toArray U := fun U hU hW =>
  ⟨rfl, (hw.pre isC hnC hC av U hU hW).2, hxs.warm hW, by rw [hU]; exact hst.at hw.2.2.1 (va_free (wc := wp) hw.2.1 hw.2.2.1 hw.2.2.2.2 isC hC) hW.alike⟩
theorem k_callVx (hm : kM p m c cc nL s args Ts own meth ret) (hw : kW G A s ws H locs) (hl : lv_has ls nL ll) (hxs : kXs s) (hst : kSt A s s.heap) {y : MethodName} {wsC wsC' : List Cond} {fr lo mc1 ms1 maxL index n : Nat} {bytes : ByteArray} {retC : Option FieldType} {b : Nat} {As : List Value} {wp wr : va_W} {E : String} {post1 : va_W → Prop} {C : String} {ci : Nat} {T : u_T} {N : Nat} {fs : List Value} (hC : kXM l y wsC fr lo mc1 ms1 G (.ref b :: As) wp E post1) (hT : GoodIn Ts (wsV own index C y wsC)) (hwd : wsC = Cond.code y bytes maxL retC :: wsC') (hd : y.cls = C ∧ y.cls ≠ "java/lang/invoke/MethodHandle" ∧ y.cls ≠ "java/lang/invoke/VarHandle" ∧ (parseMethodDescriptor y.desc).map (fun d => d.parameters.length) = some n) (hR : fr + 1 ≤ R.frames ∧ 8 + (maxL + 11) + lo ≤ R.locals)
    (hcl : vwCl[ci]? = some (C, T, N)) (q0 : Nat) (he : ws[q0]? = some (b, .inr (ci, fs))) (isC isR : List Nat) (hnC : va_nd isC = true) (hCe : isC.map (fun i => ws[i]?) = wp.map some) (hRe : isR.map (fun i => ws[i]?) = wr.map some) (hnR : va_nd isR = true) (hdis : ∀ i ∈ isR, i ∉ isC) (hn : As.length = n) (hst2 : st = As.reverse ++ .ref b :: rest) (hcat : (rest.map fun v => v.category).sum ≤ 8) (hf : cells + mc1 ≤ R.cells ∧ slots + ms1 ≤ R.slots) (hdg : decode cc pc = .ok (.invokevirtual index, 3))
    (kk : ∀ (q : Addr) (ce : Cell) (w1 : va_W) (H1 : Heap) (locs1 : List Loc), post1 w1 → kW G A s (wr ++ w1) H1 locs1 → H1[q]? = some ce → ce.vm = .none → s.vm.findClass E = some ce.cls → vx_W p l e R s m args below meth c H1 locs1 (cells + mc1) (slots + ms1) Q (F0 m pc ls rest) q) : W p l e R s m args below meth c H locs cells slots Q (F0 m pc ls st) :=
  k_afterX hw isC isR hCe hRe hnR hdis (vx_runV (As := As) (b := b) (rest := rest) ⟨hm.1, hm.2.1, hm.2.2.1, hm.2.2.2.1, hm.2.2.2.2.1⟩ (hC H.size) (cwV n hm.2.2.2.2.1 hT hwd rfl rfl hd hR) ⟨kPreX_blind, va_recv hw.2.2.2.1.1 hw.1 hcl he, hw.preX hxs hst isC hnC hCe _⟩ rfl hn hl.1 hst2 (lv_room hcat) hdg hf) kk
theorem k_callSx (hm : kM p m c cc nL s args Ts own meth ret) (hw : kW G A s ws H locs) (hl : lv_has ls nL ll) (hxs : kXs s) (hst : kSt A s s.heap) {y : MethodName} {wsC wsC' : List Cond} {fr lo mc1 ms1 maxL index n : Nat} {bytes : ByteArray} {retC : Option FieldType} {As : List Value} {wp wr : va_W} {E : String} {post1 : va_W → Prop} (hC : kXM l y wsC fr lo mc1 ms1 G As wp E post1) (hT : GoodIn Ts (va_wsS own index y wsC)) (hwd : wsC = Cond.code y bytes maxL retC :: wsC') (hd : y.cls ≠ "java/lang/invoke/MethodHandle" ∧ y.cls ≠ "java/lang/invoke/VarHandle" ∧ (parseMethodDescriptor y.desc).map (fun d => d.parameters.length) = some n) (hR : fr + 1 ≤ R.frames ∧ 8 + (maxL + 11) + lo ≤ R.locals)
    (isC isR : List Nat) (hnC : va_nd isC = true) (hCe : isC.map (fun i => ws[i]?) = wp.map some) (hRe : isR.map (fun i => ws[i]?) = wr.map some) (hnR : va_nd isR = true) (hdis : ∀ i ∈ isR, i ∉ isC) (hn : As.length = n) (hst2 : st = As.reverse ++ rest) (hcat : (rest.map fun v => v.category).sum ≤ 8) (hf : cells + mc1 ≤ R.cells ∧ slots + ms1 ≤ R.slots) (hdg : decode cc pc = .ok (.invokestatic index, 3))
    (kk : ∀ (q : Addr) (ce : Cell) (w1 : va_W) (H1 : Heap) (locs1 : List Loc), post1 w1 → kW G A s (wr ++ w1) H1 locs1 → H1[q]? = some ce → ce.vm = .none → s.vm.findClass E = some ce.cls → vx_W p l e R s m args below meth c H1 locs1 (cells + mc1) (slots + ms1) Q (F0 m pc ls rest) q) : W p l e R s m args below meth c H locs cells slots Q (F0 m pc ls st) :=
  k_afterX hw isC isR hCe hRe hnR hdis (vx_runS (As := As) (rest := rest) ⟨hm.1, hm.2.1, hm.2.2.1, hm.2.2.2.1, hm.2.2.2.2.1⟩ (hC H.size) (va_cwS n hm.2.2.2.2.1 hT hwd rfl rfl hd hR) ⟨kPreX_blind, hw.preX hxs hst isC hnC hCe _⟩ rfl hn hl.1 hst2 (lv_room hcat) hdg hf) kk
/-- it goes on to the caller -/
theorem k_out (hm : kM p m c cc nL s args Ts own meth ret) {E : String} {post : va_W → Prop} (hQ : Q = kZx below G A E post args s mc ms) (hnt : ∀ x ∈ c.exceptionTable.toList, False) {q : Addr} {ce : Cell} (hw : kW G A s wq H locs) (hp : post wq) (hcell : H[q]? = some ce) (hv : ce.vm = .none) (hcl : s.vm.findClass E = some ce.cls) (h1 : cells ≤ mc) (h2 : slots ≤ ms) : vx_W p l e R s m args below meth c H locs cells slots Q (F0 m pc ls rest) q := by
  subst hQ
  refine vx_out (fun x hx => (hnt x hx).elim) hm.2.2.2.2.2.2 hcell hv hcl ?_ hw.2.2.1.2.2 h1 h2
  intro t ht hvm
  exact ⟨rfl, ⟨wq, hp, by rw [ht]; exact hw.1, hw.2.1⟩, hw.2.2.1.F ht⟩
end KXC
