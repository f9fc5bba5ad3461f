theorem rmC_le {x : Nat} (h : x ≤ 601024) : x ≤ room_1.cells := h
theorem rmS_le {x : Nat} (h : x ≤ 7293034) : x ≤ room_1.slots := h
theorem i32_ex (x : Int32) : ∃ z : Int, x = iI z ∧ -2147483648 ≤ z ∧ z < 2147483648 :=
  ⟨x.toInt, (Int32.ofInt_toInt x).symm, Int32.le_toInt x, Int32.toInt_lt x⟩
theorem i32_and (x : Int32) : ∃ n : Nat, n < 32 ∧ x &&& iI ((31 : Nat) : Int) = iI ((n : Nat) : Int) := by
  refine ⟨x.toBitVec.toNat % 32, Nat.mod_lt _ (by decide), ?_⟩
  apply Int32.toBitVec_inj.mp
  apply BitVec.eq_of_toNat_eq
  have e : (iI ((31 : Nat) : Int)).toBitVec.toNat = 2 ^ 5 - 1 := by decide
  rw [Int32.toBitVec_and, BitVec.toNat_and, e, Nat.and_two_pow_sub_one_eq_mod]
  have h : x.toBitVec.toNat % 2 ^ 5 < 32 := Nat.mod_lt _ (by decide)
  show x.toBitVec.toNat % 2 ^ 5 = (Int32.ofInt ((x.toBitVec.toNat % 2 ^ 5 : Nat) : Int)).toBitVec.toNat
  generalize x.toBitVec.toNat % 2 ^ 5 = k at h
  have q : ∀ k : Fin 32, k.val = (Int32.ofInt ((k.val : Nat) : Int)).toBitVec.toNat := by decide
  exact q ⟨k, h⟩
theorem lg_cmp_self (x : Int64) : lg_cmp x x = iI ((0 : Nat) : Int) := by
  unfold lg_cmp
  rw [if_neg (Int64.lt_irrefl), if_pos rfl]; rfl
def dcv (x : UInt64) : Int32 := Op.cmpValue (FP.dcmp x x) CmpOp.l
theorem vfu_s {f : Nat → UInt64} {k : Nat} {x : UInt64} : vf_upd f k x k = x := if_pos rfl
section KROWAO
variable {p : Program} {l : Launch} {e : Env} {R : Room} {s : State} {m : MethodId} {args : Array Value} {below : List Frame} {meth : Method} {c : Code} {H : Heap} {locs : List Loc} {cells slots : Nat} {Q : State → Prop}
variable {cc : ByteArray} {pc nL : Nat} {ls : Array Slot} {rest st : List Value} {Ts : List Cond} {own : String} {ret : Option FieldType} {G : kG} {A : Nat → Prop} {ws wq : va_W} {ll : List (Nat × Value)} {post : Option Value → va_W → Prop} {mc ms : Nat}
theorem k_sld (hm : kM p m c cc nL s args Ts own meth ret) {b Ln : Nat} {xs : Nat → Int32} (hX : va_X b Ln xs s s.heap) (hbl : b < s.heap.size) (hbA : ¬ A b) (hw : kW G A s ws H locs) {i : Nat} {z : Int} (hi : i < Ln ∧ i < 2147483648) (hz : xs i = iI z) (hdg : decode cc pc = .ok (.iaload, 1)) (kk : W p l e R s m args below meth c H locs cells slots Q (F0 m (pc + 1) ls (.int (iI z) :: rest))) : W p l e R s m args below meth c H locs cells slots Q (F0 m pc ls (.int (iI (i : Int)) :: .ref b :: rest)) :=
  va_sld hm.1 hm.2.1 hX hbl hbA hw.2.2.1 (iI_in (by omega)) hdg (by rw [iI_clamp (by omega) (by omega), show ((i : Nat) : Int).toNat = i from rfl, hz]; exact kk)
theorem k_sldR (hm : kM p m c cc nL s args Ts own meth ret) {b Ln : Nat} {xs : Nat → Int32} (hX : va_X b Ln xs s s.heap) (hbl : b < s.heap.size) (hbA : ¬ A b) (hw : kW G A s ws H locs) {i : Nat} (hi : i < Ln ∧ i < 2147483648) (hdg : decode cc pc = .ok (.iaload, 1)) (kk : W p l e R s m args below meth c H locs cells slots Q (F0 m (pc + 1) ls (.int (xs i) :: rest))) : W p l e R s m args below meth c H locs cells slots Q (F0 m pc ls (.int (iI (i : Int)) :: .ref b :: rest)) :=
  va_sld hm.1 hm.2.1 hX hbl hbA hw.2.2.1 (iI_in (by omega)) hdg (by rw [iI_clamp (by omega) (by omega)]; exact kk)
theorem k_slen (hm : kM p m c cc nL s args Ts own meth ret) {b Ln : Nat} {xs : Nat → Int32} (hX : va_X b Ln xs s s.heap) (hbl : b < s.heap.size) (hbA : ¬ A b) (hw : kW G A s ws H locs) (hi : Ln < 2147483648) (hdg : decode cc pc = .ok (.arraylength, 1)) (kk : W p l e R s m args below meth c H locs cells slots Q (F0 m (pc + 1) ls (.int (iI ((Ln : Nat) : Int)) :: rest))) : W p l e R s m args below meth c H locs cells slots Q (F0 m pc ls (.ref b :: rest)) :=
  va_slen hm.1 hm.2.1 hX hbl hbA hw.2.2.1 hdg (by rw [show Int32.ofNat Ln = iI ((Ln : Nat) : Int) from (iI_nI Ln).symm]; exact kk)
theorem k_lcmpQ (hm : kM p m c cc nL s args Ts own meth ret) {x y : Int64} (h : x = y) (hdg : decode cc pc = .ok (.lcmp, 1)) (k : W p l e R s m args below meth c H locs cells slots Q (F0 m (pc + 1) ls (.int (iI ((0 : Nat) : Int)) :: rest))) : W p l e R s m args below meth c H locs cells slots Q (F0 m pc ls (.long y :: .long x :: rest)) := by
  subst h
  refine W.lcmp hm.1 hm.2.1 hdg ?_
  rw [show lg_cmp x x = iI ((0 : Nat) : Int) from lg_cmp_self x]
  exact k
theorem k_dald (hm : kM p m c cc nL s args Ts own meth ret) (hw : kW G A s ws H locs) (q0 : Nat) {a n : Nat} {f : Nat → UInt64} {i : Nat} (ha : ws[q0]? = some (a, .inl (G.2 3, n, .inr (.inr (.inr (.inl f)))))) (hi : i < n ∧ i < 2147483648) (hdg : decode cc pc = .ok (.daload, 1)) (kk : W p l e R s m args below meth c H locs cells slots Q (F0 m (pc + 1) ls (.double (f i) :: rest))) : W p l e R s m args below meth c H locs cells slots Q (F0 m pc ls (.int (iI (i : Int)) :: .ref a :: rest)) :=
  va_dald (D := G.1) (cl := vwCl) (tys := kT G) hm.1 hm.2.1 hw.2.2.2.1.1 hw.1 q0 3 ha rfl (iI_in (by omega)) hdg (by rw [iI_clamp (by omega) (by omega)]; exact kk)
theorem k_dcmpS (hm : kM p m c cc nL s args Ts own meth ret) {x : UInt64} (hdg : decode cc pc = .ok (.dcmp .l, 1)) (k : W p l e R s m args below meth c H locs cells slots Q (F0 m (pc + 1) ls (.int (dcv x) :: rest))) : W p l e R s m args below meth c H locs cells slots Q (F0 m pc ls (.double x :: .double x :: rest)) := lv_dcmp hm.1 hm.2.1 hdg k
theorem k_iandR (hm : kM p m c cc nL s args Ts own meth ret) {x y : Int32} (hdg : decode cc pc = .ok (.iand, 1)) (k : W p l e R s m args below meth c H locs cells slots Q (F0 m (pc + 1) ls (.int (x &&& y) :: rest))) : W p l e R s m args below meth c H locs cells slots Q (F0 m pc ls (.int y :: .int x :: rest)) := lv_iand hm.1 hm.2.1 hdg k
theorem k_dload (hm : kM p m c cc nL s args Ts own meth ret) (hl : lv_has ls nL ll) (k : Nat) {i : Nat} {x : UInt64} (hk : ll[k]? = some (i, .double x)) (hdg : decode cc pc = .ok (.dload i, 2)) (kk : W p l e R s m args below meth c H locs cells slots Q (F0 m (pc + 2) ls (.double x :: rest))) : W p l e R s m args below meth c H locs cells slots Q (F0 m pc ls rest) := lv_dload hm.1 hm.2.1 hdg (lv_at hl k hk) kk
theorem k_dstore (hm : kM p m c cc nL s args Ts own meth ret) (hl : lv_has ls nL ll) {i : Nat} {x : UInt64} (l2 : List (Nat × Value)) (hn : i + 1 < nL) (h2 : (i, Value.double x) :: ll.filter (fun q => !(q.1 == i) && (!(q.1 == i + 1) && !(q.1 + 1 == i && q.2.category == 2))) = l2) (hdg : decode cc pc = .ok (.dstore i, 2)) (kk : ∀ ls', lv_has ls' nL l2 → W p l e R s m args below meth c H locs cells slots Q (F0 m (pc + 2) ls' rest)) : W p l e R s m args below meth c H locs cells slots Q (F0 m pc ls (.double x :: rest)) := lv_dstore hm.1 hm.2.1 hdg hl hn h2 kk
end KROWAO
theorem isNs_lt {D : Nat → Nat → Nat} {N b : Nat} (h : isNs D N b) : b < N := by
  obtain ⟨s1, z1, -, -, -, -, h5, -⟩ := h
  exact h5
/-- the way on, behind a call of the script -/
def LK (p : Program) (l : Launch) (e : Env) (s : State) (m : MethodId) (args : Array Value) (below : List Frame) (meth : Method) (c : Code) (A : Nat → Prop) (G : kG) (Qz : State → Prop) (b : Nat) (o : Nat) (P : Nat → Nat) (h : Nat) (T : Nat → Nat) (L : Nat → Nat) (M : Nat → Nat) (hs : Nat) (Q : Nat → Nat → Nat) (D : Nat → Nat) (ou : Nat) (od : Nat) (j c0 s0 : Nat) : Prop :=
  ∀ (cl sl : Nat) (gk : Nat → Nat) (gw : Nat → Nat) (gt : Nat → Nat) (gy : Nat → Nat) (R : Nat) (sp : Bool) (ak : Nat → Nat → Nat) (aw : Nat → Nat → Nat) (au : Nat → Nat → Nat) (ay : Nat → Nat → Nat) (aR : Nat → Nat) (aS : Nat → Bool) (nx : Nat) (sz : Nat) (tb : Nat → Nat) (tk : Nat → Int) (tc : Nat → Nat) (tn : Nat) (ti : Nat) (tt : Nat) (tu : Nat) (tm : Nat) (tp : Nat) (te : Int) (f : Nat → Nat) (wk : Nat) (sd : Nat) (kd : Nat) (mf : Nat → Nat) (sa : Nat → Int64) (pa : Nat → Int64) (rf7 : Nat) (ro7 : Nat → Nat) (wk7 : Nat) (mb7 : Nat → Nat) (so7 : Nat) (kd7 : Nat → Nat) (nu7 : Nat → Nat) (it7 : Nat) (ti7 : Nat) (rd7 : Nat) (ad7 : Nat → Int64) (fo : Nat → Int64) (fd7 : Nat → UInt64) (K : Nat → Nat → Nat) (w : Nat → Nat) (y : Nat → Nat) (sv : Nat → PSt) (hok : POk gk gw gt gy R K w y) (hho : HOk ak aw au ay aR aS nx sz sv) (hmo : MOk sa R sp K w y) (hpa : PaOk pa sz sv) (htn : tn ≤ 120) (htb : ∀ i, i < tn → tb i ≤ 127) (_ : cl ≤ c0 + 1) (_ : sl ≤ s0 + 6) (H : Heap) (locs : List Loc) (ls : Array Slot), kW G A s (wMain G o P h T L M ++ (wPiece G P gk gw gt gy R sp ++ (wHist G h hs Q ak aw au ay aR aS nx sz ++ (wPat G T tb tk tc tn ti tt tu tm tp te ++ (wPlan G L f wk sd kd ++ (wMk G M mf ++ (wMod G D sa pa sz tb tn rf7 ro7 wk7 mb7 so7 kd7 nu7 it7 ti7 rd7 ad7 ++ ([(ou, .inl (G.2 1, 1, .inr (.inl fo)))] ++ [(od, .inl (G.2 3, 1, .inr (.inr (.inr (.inl fd7)))))])))))))) H locs → lv_has ls 9 [(0, .ref (b)), (1, .ref (o)), (2, .ref (D 0)), (3, .ref (ou)), (4, .ref (od)), (5, vN (4 * j))] → W p l e room_1 s m args below meth c H locs cl sl Qz (F0 m 1640 ls [])

