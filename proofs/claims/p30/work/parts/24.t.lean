section KROWT
variable {p : Program} {l : Launch} {e : Env} {R : Room} {s : State} {m : MethodId} {args : Array Value} {below : List Frame} {meth : Method} {c : Code} {H : Heap} {locs : List Loc} {cells slots : Nat} {Q : State → Prop}
variable {cc : ByteArray} {pc nL : Nat} {ls : Array Slot} {rest : List Value} {Ts : List Cond} {own : String} {ret : Option FieldType} {G : kG} {A : Nat → Prop} {ws : va_W} {ll : List (Nat × Value)}
theorem sh63 {n : Nat} (h : n < 64) : (iI (n : Int)).toInt64 &&& 63 = lI (n : Int) := by
  have q : ∀ k : Fin 64, (iI ((k.val : Nat) : Int)).toInt64 &&& 63 = lI ((k.val : Nat) : Int) := by decide +kernel
  exact q ⟨n, h⟩
theorem k_lshr (hm : kM p m c cc nL s args Ts own meth ret) {x : Int64} {n : Nat} (hn : n < 64) (hdg : decode cc pc = .ok (.lshr, 1)) (k : W p l e R s m args below meth c H locs cells slots Q (F0 m (pc + 1) ls (.long (x >>> lI (n : Int)) :: rest))) : W p l e R s m args below meth c H locs cells slots Q (F0 m pc ls (.int (iI (n : Int)) :: .long x :: rest)) :=
  lv_lshr hm.1 hm.2.1 hdg (by rw [sh63 hn]) k
theorem k_lshl (hm : kM p m c cc nL s args Ts own meth ret) {x : Int64} {n : Nat} (hn : n < 64) (hdg : decode cc pc = .ok (.lshl, 1)) (k : W p l e R s m args below meth c H locs cells slots Q (F0 m (pc + 1) ls (.long (x <<< lI (n : Int)) :: rest))) : W p l e R s m args below meth c H locs cells slots Q (F0 m pc ls (.int (iI (n : Int)) :: .long x :: rest)) :=
  lv_lshl hm.1 hm.2.1 hdg (by rw [sh63 hn]) k
end KROWT
theorem lI_0 : lI 0 = 0 := by decide
/-- the kind at a place of a packed word -/
def fd (a : Int64) (j : Nat) : Int64 := (a >>> lI ((j * 2 : Nat) : Int)) &&& lI 3
theorem fd_0 {j : Nat} (h : j < 32) : fd 0 j = 0 := by
  have q : ∀ k : Fin 32, fd 0 k.val = 0 := by decide +kernel
  exact q ⟨j, h⟩
theorem fd_x {x i j : Nat} (hx : x < 3) (hi : i < 32) (hj : j < 32) : fd (lI (x : Int) <<< lI ((i * 2 : Nat) : Int)) j = if j = i then lI (x : Int) else 0 := by
  have q : ∀ (x : Fin 3) (i j : Fin 32), fd (lI ((x.val : Nat) : Int) <<< lI ((i.val * 2 : Nat) : Int)) j.val = if j.val = i.val then lI ((x.val : Nat) : Int) else 0 := by decide +kernel
  exact q ⟨x, hx⟩ ⟨i, hi⟩ ⟨j, hj⟩
theorem fd_or (a b : Int64) (j : Nat) : fd (a ||| b) j = fd a j ||| fd b j := by
  unfold fd
  apply Int64.toBitVec_inj.mp
  simp only [Int64.toBitVec_and, Int64.toBitVec_or, Int64.toBitVec_shiftRight, BitVec.sshiftRight', BitVec.sshiftRight_or_distrib]
  generalize a.toBitVec.sshiftRight _ = u
  generalize b.toBitVec.sshiftRight _ = v
  generalize (lI 3).toBitVec = t
  ext i hi
  simp [Bool.and_or_distrib_right]
theorem fd_set {a : Int64} {x i j : Nat} (hx : x < 3) (hi : i < 32) (hj : j < 32) (h0 : fd a i = 0) : fd (a ||| (lI (x : Int) <<< lI ((i * 2 : Nat) : Int))) j = if j = i then lI (x : Int) else fd a j := by
  rw [fd_or, fd_x hx hi hj]
  by_cases q : j = i
  · rw [if_pos q, if_pos q, q, h0]
    apply Int64.toBitVec_inj.mp
    simp
  · rw [if_neg q, if_neg q]
    apply Int64.toBitVec_inj.mp
    simp
theorem updL_s {f : Nat → Int64} {k : Nat} {x : Int64} : vp_updL f k x k = x := if_pos rfl
theorem updL_n {f : Nat → Int64} {k j : Nat} {x : Int64} (h : j ≠ k) : vp_updL f k x j = f j := if_neg h
/-- a row of works in the law's packed words -/
def RwB (wf : Nat → Int64) (r : Nat) (k : Nat → Nat) (n : Nat) : Prop := n ≤ 120 ∧ ∀ i, i < n → k i ≤ 2 ∧ fd (wf (4 * r + i / 32)) (i % 32) = lI (k i : Int)
theorem RwB_ext {wf wf2 : Nat → Int64} {r : Nat} {k : Nat → Nat} {n : Nat} (h : RwB wf r k n) (e : ∀ q, q < 4 * (r + 1) → wf2 q = wf q) : RwB wf2 r k n :=
  ⟨h.1, fun i hi => by have := h.1; rw [e _ (by omega)]; exact h.2 i hi⟩
/-- the law's own piece -/
def LOk (gf mg : Nat → Nat) (wf : Nat → Int64) (R : Nat) (sp : Bool) (K : Nat → Nat → Nat) (w y : Nat → Nat) : Prop :=
  (R ≤ 14 ∧ gf 0 = R ∧ ((gf 1 : Nat) : Int) = bI sp ∧ ∀ k, k < 3 → gf (2 + k) = y k) ∧ ∀ r, r < R → mg r = w r ∧ RwB wf r (K r) (w r)
theorem LOk_add {gf mg mg2 : Nat → Nat} {wf wf2 : Nat → Int64} {R m : Nat} {sp : Bool} {K : Nat → Nat → Nat} {w y row : Nat → Nat} (h : LOk gf mg wf R sp K w y) (hR : R + 1 ≤ 14) (h1 : RwB wf2 R row m) (h2 : mg2 R = m) (h3 : ∀ q, q < R → mg2 q = mg q) (h4 : ∀ q, q < 4 * R → wf2 q = wf q) : LOk (nU gf 0 (R + 1)) mg2 wf2 (R + 1) sp (fup K R row) (fup w R m) y := by
  obtain ⟨⟨a1, a2, a3, a4⟩, a5⟩ := h
  refine ⟨⟨hR, nU_s, by rw [nU_n (by omega)]; exact a3, fun k hk => by rw [nU_n (by omega)]; exact a4 k hk⟩, fun r hr => ?_⟩
  by_cases q : r = R
  · subst q; rw [fup_s, fup_s]; exact ⟨h2, h1⟩
  · rw [fup_n q, fup_n q, h3 r (by omega)]
    exact ⟨(a5 r (by omega)).1, RwB_ext (a5 r (by omega)).2 (fun z hz => h4 z (by omega))⟩
theorem LOk_rip {gf mg : Nat → Nat} {wf : Nat → Int64} {R k : Nat} {sp : Bool} {K : Nat → Nat → Nat} {w y : Nat → Nat} (h : LOk gf mg wf R sp K w y) : LOk (nU gf 0 (R - k)) mg wf (R - k) sp K w y := by
  obtain ⟨⟨a1, a2, a3, a4⟩, a5⟩ := h
  exact ⟨⟨by omega, nU_s, by rw [nU_n (by omega)]; exact a3, fun k hk => by rw [nU_n (by omega)]; exact a4 k hk⟩, fun r hr => a5 r (by omega)⟩
theorem LOk_yarn {gf mg : Nat → Nat} {wf : Nat → Int64} {R k x : Nat} {sp : Bool} {K : Nat → Nat → Nat} {w y : Nat → Nat} (h : LOk gf mg wf R sp K w y) : LOk (nU gf (2 + k) x) mg wf R sp K w (nU y k x) := by
  obtain ⟨⟨a1, a2, a3, a4⟩, a5⟩ := h
  refine ⟨⟨a1, by rw [nU_n (by omega)]; exact a2, by rw [nU_n (by omega)]; exact a3, fun j hj => ?_⟩, a5⟩
  by_cases q : j = k
  · rw [q, nU_s, nU_s]
  · rw [nU_n q, nU_n (by omega)]; exact a4 j hj
theorem LOk_sp {gf mg : Nat → Nat} {wf : Nat → Int64} {R v : Nat} {sp b : Bool} {K : Nat → Nat → Nat} {w y : Nat → Nat} (h : LOk gf mg wf R sp K w y) (hv : ((v : Nat) : Int) = bI b) : LOk (nU gf 1 v) mg wf R b K w y := by
  obtain ⟨⟨a1, a2, a3, a4⟩, a5⟩ := h
  exact ⟨⟨a1, by rw [nU_n (by omega)]; exact a2, by rw [nU_s]; exact hv, fun j hj => by rw [nU_n (by omega)]; exact a4 j hj⟩, a5⟩
theorem LOk_ring {gf mg : Nat → Nat} {wf wf2 : Nat → Int64} {R n : Nat} {sp : Bool} {K : Nat → Nat → Nat} {w y : Nat → Nat} (h : LOk gf mg wf R sp K w y) (hn : n ≤ 12) (hz : ∀ q, q < 4 → wf2 q = 0) : LOk (nU gf 0 1) (nU mg 0 n) wf2 1 sp (fun _ _ => 0) (fun _ => n) y := by
  obtain ⟨⟨a1, a2, a3, a4⟩, a5⟩ := h
  refine ⟨⟨by omega, nU_s, by rw [nU_n (by omega)]; exact a3, fun j hj => by rw [nU_n (by omega)]; exact a4 j hj⟩, fun r hr => ?_⟩
  have e : r = 0 := by omega
  subst e
  refine ⟨nU_s, (show n ≤ 120 by omega), fun i hi => ⟨Nat.zero_le _, ?_⟩⟩
  have hi : i < n := hi
  rw [hz _ (by omega), fd_0 (by omega)]; exact lI_0.symm
theorem spR_mod {n t x : Nat} : spR n t (x % pm n t) = spR n t x := by
  funext i; unfold spR; rw [Nat.add_mod_mod]
theorem i32_and31 (x : Int32) : ∃ n : Nat, n < 2147483648 ∧ x &&& iI ((2147483647 : Nat) : Int) = iI ((n : Nat) : Int) := by
  refine ⟨x.toBitVec.toNat % 2147483648, Nat.mod_lt _ (by decide), ?_⟩
  apply Int32.toBitVec_inj.mp
  apply BitVec.eq_of_toNat_eq
  have e : (iI ((2147483647 : Nat) : Int)).toBitVec.toNat = 2 ^ 31 - 1 := by decide
  rw [Int32.toBitVec_and, BitVec.toNat_and, e, Nat.and_two_pow_sub_one_eq_mod]
  have h : x.toBitVec.toNat % 2147483648 < 2147483648 := Nat.mod_lt _ (by decide)
  show x.toBitVec.toNat % 2147483648 = _
  generalize x.toBitVec.toNat % 2147483648 = k at h
  rw [← iI_nI]
  show k = (BitVec.ofNat 32 k).toNat
  rw [BitVec.toNat_ofNat, Nat.mod_eq_of_lt (by omega)]
/-- yarn, by kinds -/
theorem yrn_cnt {y k : Nat → Nat} : ∀ {n : Nat}, (∀ i, i < n → k i ≤ 2) → yrn y k n = cnt k 0 n * y 0 + cnt k 1 n * y 1 + cnt k 2 n * y 2 ∧ cnt k 0 n + cnt k 1 n + cnt k 2 n = n
  | 0, _ => by simp [yrn, cnt]
  | n + 1, h => by
    have h1 := yrn_cnt (y := y) (n := n) (fun i hi => h i (Nat.lt_succ_of_lt hi))
    have h2 := h n (Nat.lt_succ_self n)
    simp only [yrn, cnt]
    rcases (show k n = 0 ∨ k n = 1 ∨ k n = 2 by omega) with q | q | q <;> rw [q, h1.1] <;> simp [Nat.add_mul] <;> omega
section KROWT2
variable {p : Program} {l : Launch} {e : Env} {R : Room} {s : State} {m : MethodId} {args : Array Value} {below : List Frame} {meth : Method} {c : Code} {H : Heap} {locs : List Loc} {cells slots : Nat} {Q : State → Prop}
variable {cc : ByteArray} {pc nL : Nat} {ls : Array Slot} {rest st : List Value} {Ts : List Cond} {own : String} {ret : Option FieldType} {G : kG} {A : Nat → Prop} {ws wq : va_W} {ll : List (Nat × Value)} {post : Option Value → va_W → Prop} {mc ms : Nat}
theorem k_sldR (hm : kM p m c cc nL s args Ts own meth ret) {b Ln : Nat} {xs : Nat → Int32} (hX : va_X b Ln xs s s.heap) (hbl : b < s.heap.size) (hbA : ¬ A b) (hw : kW G A s ws H locs) {i : Nat} (hi : i < Ln ∧ i < 2147483648) (hdg : decode cc pc = .ok (.iaload, 1)) (kk : W p l e R s m args below meth c H locs cells slots Q (F0 m (pc + 1) ls (.int (xs i) :: rest))) : W p l e R s m args below meth c H locs cells slots Q (F0 m pc ls (.int (iI (i : Int)) :: .ref b :: rest)) :=
  va_sld hm.1 hm.2.1 hX hbl hbA hw.2.2.1 (iI_in (by omega)) hdg (by rw [iI_clamp (by omega) (by omega)]; exact kk)
theorem k_slen (hm : kM p m c cc nL s args Ts own meth ret) {b Ln : Nat} {xs : Nat → Int32} (hX : va_X b Ln xs s s.heap) (hbl : b < s.heap.size) (hbA : ¬ A b) (hw : kW G A s ws H locs) (hi : Ln < 2147483648) (hdg : decode cc pc = .ok (.arraylength, 1)) (kk : W p l e R s m args below meth c H locs cells slots Q (F0 m (pc + 1) ls (.int (iI ((Ln : Nat) : Int)) :: rest))) : W p l e R s m args below meth c H locs cells slots Q (F0 m pc ls (.ref b :: rest)) :=
  va_slen hm.1 hm.2.1 hX hbl hbA hw.2.2.1 hdg (by rw [show Int32.ofNat Ln = iI ((Ln : Nat) : Int) from (iI_nI Ln).symm]; exact kk)
end KROWT2
/-! the script's ints, read by a method of the law's -/
def kPreS (G : kG) (b Ln : Nat) (xs : Nat → Int32) (sz : Nat) (U : State) : Prop := kPre G [] sz U ∧ va_X b Ln xs U U.heap ∧ b < sz
theorem kPreS_blind {G : kG} {b Ln sz : Nat} {xs : Nat → Int32} {av : List Value} : FrameBlind (va_Pc av (kPreS G b Ln xs sz)) := fun a U g mk q => by
  obtain ⟨q0, q1, q2, q3⟩ := q
  exact ⟨q0, (kPre_blind a U g mk ⟨q0, q1⟩).2, va_X.moved (u := U) (U := U.calling g mk a) (Vm.Alike.refl U.vm) q2, q3⟩
set_option maxHeartbeats 4000000 in
theorem c_cell (l : Launch) (G : kG) (b Ln : Nat) (xs : Nat → Int32) (k : Nat) (hk : k ≤ 1000) (hLn : Ln ≤ 2048) (sz : Nat) : Met l yL_cell wsL_cell { frames := 0, cells := 0, slots := 0, locals := 0 } (va_Pc [.ref b, vN k] (kPreS G b Ln xs sz)) (kPost G (va_A [] sz) (fun v u => (∃ x : Int32, v = some (.int x)) ∧ u = [])) 0 0 (va_A [] sz) := by
  refine Met.ofW (cc := cL_cell) (maxL := 2) (ret := some .int) (by decide) rfl ?_
  intro p e s m args below meth c s₁ B hml hv
  obtain ⟨rfl, ⟨hsz, hP, hK, hD0⟩, hX, hbl⟩ := hv
  subst hsz
  have hl := lv_entry [.ref b, vN k] (n := 2) (Nat.le_of_ble_eq_true rfl)
  rw [lg_entry_eq]
  generalize (lg_sl ([.ref b, vN k]) ++ List.replicate (2 - (lg_sl ([.ref b, vN k])).length) Slot.unset).toArray = ls at hl ⊢
  have hl : lv_has ls 2 [(0, .ref b), (1, vN k)] := hl
  have hm : kM p m c cL_cell 2 s ([.ref b, vN k] : List Value).toArray wsL_cell RL meth (some .int) := ⟨B.exec, B.bytes, hml, findClass_of_methodNamed B.named, atoms_spec (ws := wsL_cell) B.pre, B.returns, B.notSynchronized⟩
  have hw : kW G (va_A [] s.heap.size) s [] s.heap [] := ⟨hP, hD0.self, va_S.rf, hK, fun q h => Or.inr h⟩
  have hbA : ¬ va_A [] s.heap.size b := by
    rintro (⟨k2, e2, h2⟩ | h2)
    · simp at h2
    · omega
  refine k_iload_n hm hl 1 rfl dL_cell_0 ?_
  refine k_aload_n hm hl 0 rfl dL_cell_1 ?_
  refine k_slen hm hX hbl hbA hw (by omega) dL_cell_2 ?_
  refine k_icmpge (tgt := 12) hm dL_cell_3 (by decide) (by omega) (fun c1 => ?_) (fun c1 => ?_)
  · refine lv_ldc hm.1 hm.2.1 (own := RL) hm.2.2.2.1 (hm.2.2.2.2.1 (.constant RL 7 (iI ((40503 : Nat) : Int))) (by decide +kernel)) dL_cell_12 ?_
    refine k_iload_n hm hl 1 rfl dL_cell_14 ?_
    refine k_iconstN hm 3 dL_cell_15 ?_
    refine k_iaddN hm dL_cell_16 ?_
    refine k_imulN hm dL_cell_17 ?_
    exact k_iret (post := _) hm rfl rfl rfl hw (⟨⟨_, rfl⟩, rfl⟩) (Nat.le_refl _) (Nat.le_refl _) dL_cell_18
  · refine k_aload_n hm hl 0 rfl dL_cell_6 ?_
    refine k_iload_n hm hl 1 rfl dL_cell_7 ?_
    refine k_sldR hm hX hbl hbA hw (by omega) dL_cell_8 ?_
    refine k_goto (tgt := 18) hm dL_cell_9 (by decide) ?_
    exact k_iret (post := _) hm rfl rfl rfl hw (⟨⟨_, rfl⟩, rfl⟩) (Nat.le_refl _) (Nat.le_refl _) dL_cell_18
section KROWT3
variable {p : Program} {l : Launch} {e : Env} {R : Room} {s : State} {m : MethodId} {args : Array Value} {below : List Frame} {meth : Method} {c : Code} {H : Heap} {locs : List Loc} {cells slots : Nat} {Q : State → Prop}
variable {cc : ByteArray} {pc nL : Nat} {ls : Array Slot} {rest st : List Value} {Ts : List Cond} {own : String} {ret : Option FieldType} {G : kG} {A : Nat → Prop} {ws wq : va_W} {ll : List (Nat × Value)} {post : Option Value → va_W → Prop} {mc ms : Nat}
theorem k_callCell (hm : kM p m c cc nL s args Ts own meth ret) (hw : kW G A s ws H locs) (hl : lv_has ls nL ll) {b Ln : Nat} {xs : Nat → Int32} (hX : va_X b Ln xs s s.heap) (hbl : b < s.heap.size) (hbA : ¬ A b) {k index : Nat} (hk : k ≤ 1000) (hLn : Ln ≤ 2048) (hT : GoodIn Ts (va_wsS own index yL_cell wsL_cell)) (hR : 1 ≤ R.frames ∧ 21 ≤ R.locals) (hcat : (rest.map fun v => v.category).sum ≤ 8) (hf : cells ≤ R.cells ∧ slots ≤ R.slots) (hdg : decode cc pc = .ok (.invokestatic index, 3))
    (kk : ∀ (x : Int32) (H1 : Heap) (locs1 : List Loc), kW G A s ws H1 locs1 → W p l e R s m args below meth c H1 locs1 cells slots Q (F0 m (pc + 3) ls (.int x :: rest))) : W p l e R s m args below meth c H locs cells slots Q (F0 m pc ls (vN k :: .ref b :: rest)) := by
  refine k_afterR (wp := []) (post1 := fun v => ∃ x : Int32, v = some (.int x)) hw [] rfl (va_runS (As := [.ref b, vN k]) (rest := rest) ⟨hm.1, hm.2.1, hm.2.2.1, hm.2.2.2.1, hm.2.2.2.2.1⟩ (c_cell l G b Ln xs k hk hLn H.size) (va_cwS 2 hm.2.2.2.2.1 hT rfl rfl rfl (by decide +kernel) hR) ⟨kPreS_blind, fun U hU hW => ⟨rfl, (hw.pre [] rfl rfl [.ref b, vN k] U hU hW).2, ?_, Nat.lt_of_lt_of_le hbl hw.2.2.1.1⟩⟩ rfl rfl hl.1 rfl (lv_room hcat) hdg hf) (fun v H1 locs1 hp hw1 => ?_)
  · rw [hU]
    exact (hX.kept (H1 := H) (hw.2.2.1.2.1 b hbl hbA)).moved hW.alike
  · obtain ⟨x, rfl⟩ := hp
    exact kk x H1 locs1 hw1
end KROWT3
set_option maxHeartbeats 4000000 in
set_option maxRecDepth 100000 in
theorem c_l_low (l : Launch) (G : kG) (z : Int32) (n : Nat) (hn : 1 ≤ n ∧ n < 2147483648) : kCR l yL_low wsL_low 0 0 G [.int (z), vN (n)] ([]) (fun vv => ∃ (q : Nat), vv = some (vN (q)) ∧ (q < n)) := by
  refine kCM.of (cc := cL_low) (maxL := 2) (ret := (some .int)) (by decide) rfl (Nat.le_of_ble_eq_true rfl) ?_
  intro p e s m args below meth c A ls Qz hQ hin hm hw hl
  have hl : lv_has ls 2 [(0, .int (z)), (1, vN (n))] := hl
  refine k_iload_n hm hl 0 rfl dL_low_0 ?_
  refine lv_ldc hm.1 hm.2.1 (own := RL) hm.2.2.2.1 (hm.2.2.2.2.1 (.constant RL 8 (iI ((2147483647 : Nat) : Int))) (by decide +kernel)) dL_low_1 ?_
  refine lv_iand hm.1 hm.2.1 dL_low_3 ?_
  obtain ⟨a9, ha9, he9⟩ := i32_and31 z
  refine k_rwV (y := vN (a9)) (congrArg Value.int he9) ?_
  refine k_iload_n hm hl 1 rfl dL_low_4 ?_
  refine k_iremN hm (by omega) dL_low_5 ?_
  exact k_iret (post := _) hm hQ rfl rfl hw (⟨⟨_, rfl, Nat.mod_lt _ (by omega)⟩, rfl⟩) (by omega) (by omega) dL_low_6
set_option maxHeartbeats 4000000 in
set_option maxRecDepth 100000 in
theorem c_l_kind (l : Launch) (G : kG) (wa : Nat) (wf : Nat → Int64) (r : Nat) (i : Nat) (k : Nat → Nat) (n : Nat) (hrw : RwB wf r k n) (hr : r ≤ 15) (hi : i < n) : kCR l yL_kind wsL_kind 0 0 G [.ref (wa), vN (r), vN (i)] ([(wa, .inl (G.2 1, 64, .inr (.inl wf)))]) (fun vv => vv = some (vN (k i))) := by
  refine kCM.of (cc := cL_kind) (maxL := 3) (ret := (some .int)) (by decide) rfl (Nat.le_of_ble_eq_true rfl) ?_
  intro p e s m args below meth c A ls Qz hQ hin hm hw hl
  have hl : lv_has ls 3 [(0, .ref (wa)), (1, vN (r)), (2, vN (i))] := hl
  have hk := hrw.2 i hi
  have hn := hrw.1
  refine k_aload_n hm hl 0 rfl dL_kind_0 ?_
  refine k_iconstN hm 4 dL_kind_1 ?_
  refine k_iload_n hm hl 1 rfl dL_kind_2 ?_
  refine k_imulN hm dL_kind_3 ?_
  refine k_iload_n hm hl 2 rfl dL_kind_4 ?_
  refine k_bipushN hm 32 dL_kind_5 rfl ?_
  refine k_idivN hm (by omega) dL_kind_7 ?_
  refine k_iaddN hm dL_kind_8 ?_
  refine k_lald hm hw 0 rfl (by omega) dL_kind_9 ?_
  refine k_iload_n hm hl 2 rfl dL_kind_10 ?_
  refine k_bipushN hm 32 dL_kind_11 rfl ?_
  refine k_iremN hm (by omega) dL_kind_13 ?_
  refine k_iconstN hm 2 dL_kind_14 ?_
  refine k_imulN hm dL_kind_15 ?_
  refine k_lshr (n := (i % 32) * 2) hm (by omega) dL_kind_16 ?_
  refine lv_ldc2 hm.1 hm.2.1 (own := RL) hm.2.2.2.1 (hm.2.2.2.2.1 (.constantLong RL 41 (lI 3)) (by decide +kernel)) dL_kind_17 ?_
  refine lv_land hm.1 hm.2.1 dL_kind_20 ?_
  rw [show ((wf ((4 * r) + (i / 32))) >>> lI (((i % 32) * 2 : Nat) : Int)) &&& (lI 3) = lI (k i : Int) from hk.2]
  refine k_l2i hm dL_kind_21 ?_
  exact k_iret (post := _) hm hQ rfl rfl hw (⟨rfl, rfl⟩) (by omega) (by omega) dL_kind_22
