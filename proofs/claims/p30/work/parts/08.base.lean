abbrev vwCl : List vw_C := [(RX0, TX0, 3), (RX1, TX1, 1), (RX2, TX2, 1), (RX3, TX3, 10), (RX4, TX4, 6), (RX5, TX5, 4), (RX6, TX6, 5)]
/-! numbers: every int is iI of an Int, every long lI of an Int -/
def iI (z : Int) : Int32 := Int32.ofInt z
def lI (z : Int) : Int64 := Int64.ofInt z
def bI (b : Bool) : Int := if b then 1 else 0
theorem bI_t : bI true = 1 := rfl
theorem bI_f : bI false = 0 := rfl
theorem bI_0 {b : Bool} (h : bI b = 0) : b = false := by
  cases b with
  | false => rfl
  | true => exact absurd h (by decide)
theorem bI_n0 {b : Bool} (h : ¬ bI b = 0) : b = true := by
  cases b with
  | false => exact absurd rfl h
  | true => rfl
theorem bI_01 (b : Bool) : 0 ≤ bI b ∧ bI b ≤ 1 := by cases b <;> decide
theorem iI_add (a b : Int) : iI a + iI b = iI (a + b) := (Int32.ofInt_add a b).symm
theorem iI_sub (a b : Int) : iI a - iI b = iI (a - b) := (Int32.ofInt_sub a b).symm
theorem iI_mul (a b : Int) : iI a * iI b = iI (a * b) := (Int32.ofInt_mul a b).symm
theorem iI_neg (a : Int) : - iI a = iI (-a) := (Int32.ofInt_neg a).symm
theorem lI_add (a b : Int) : lI a + lI b = lI (a + b) := (Int64.ofInt_add a b).symm
theorem lI_sub (a b : Int) : lI a - lI b = lI (a - b) := (Int64.ofInt_sub a b).symm
theorem lI_mul (a b : Int) : lI a * lI b = lI (a * b) := (Int64.ofInt_mul a b).symm
theorem iI_toInt {z : Int} (h : -2147483648 ≤ z) (h2 : z < 2147483648) : (iI z).toInt = z := Int32.toInt_ofInt_of_le (by omega) (by omega)
theorem lI_toInt {z : Int} (h : -9223372036854775808 ≤ z) (h2 : z < 9223372036854775808) : (lI z).toInt = z := Int64.toInt_ofInt_of_le (by omega) (by omega)
theorem iI_of (x : Int32) : ∃ z : Int, -2147483648 ≤ z ∧ z < 2147483648 ∧ x = iI z := ⟨x.toInt, by have := x.le_toInt; omega, by have := x.toInt_lt; omega, (Int32.ofInt_toInt x).symm⟩
theorem iI_l {z : Int} (h : -2147483648 ≤ z) (h2 : z < 2147483648) : (iI z).toInt64 = lI z := by
  have q1 : Int32.minValue.toInt = -2147483648 := by decide
  have q2 : Int32.maxValue.toInt = 2147483647 := by decide
  exact Int32.toInt64_ofInt (by rw [q1]; exact h) (by rw [q2]; omega)
theorem lI_i (z : Int) : (lI z).toInt32 = iI z := Int64.toInt32_ofInt
theorem iI_lt {x y : Int} (h : (-2147483648 ≤ x ∧ x < 2147483648) ∧ -2147483648 ≤ y ∧ y < 2147483648) : iI x < iI y ↔ x < y := by
  rw [Int32.lt_iff_toInt_lt, iI_toInt h.1.1 h.1.2, iI_toInt h.2.1 h.2.2]
theorem iI_le {x y : Int} (h : (-2147483648 ≤ x ∧ x < 2147483648) ∧ -2147483648 ≤ y ∧ y < 2147483648) : iI x ≤ iI y ↔ x ≤ y := by
  rw [Int32.le_iff_toInt_le, iI_toInt h.1.1 h.1.2, iI_toInt h.2.1 h.2.2]
theorem iI_eq {x y : Int} (h : (-2147483648 ≤ x ∧ x < 2147483648) ∧ -2147483648 ≤ y ∧ y < 2147483648) : iI x = iI y ↔ x = y :=
  ⟨fun e => by have := congrArg Int32.toInt e; rwa [iI_toInt h.1.1 h.1.2, iI_toInt h.2.1 h.2.2] at this, fun e => by rw [e]⟩
theorem lI_eq {x y : Int} (h : (-9223372036854775808 ≤ x ∧ x < 9223372036854775808) ∧ -9223372036854775808 ≤ y ∧ y < 9223372036854775808) : lI x = lI y ↔ x = y :=
  ⟨fun e => by have := congrArg Int64.toInt e; rwa [lI_toInt h.1.1 h.1.2, lI_toInt h.2.1 h.2.2] at this, fun e => by rw [e]⟩
theorem lI_lt {x y : Int} (h : (-9223372036854775808 ≤ x ∧ x < 9223372036854775808) ∧ -9223372036854775808 ≤ y ∧ y < 9223372036854775808) : lI x < lI y ↔ x < y := by
  rw [Int64.lt_iff_toInt_lt, lI_toInt h.1.1 h.1.2, lI_toInt h.2.1 h.2.2]
theorem iI_0 : iI 0 = 0 := by decide
theorem iI_nI (n : Nat) : Int32.ofNat n = iI (n : Int) := (Int32.ofInt_eq_ofNat).symm
theorem iI_ne0 {y : Int} (h : 0 < y) (h2 : y < 2147483648) : ¬ iI y = 0 := fun e => by
  rw [← iI_0, iI_eq (by omega)] at e; omega
theorem iI_div {x y : Int} (h : (0 ≤ x ∧ x < 2147483648) ∧ 0 < y ∧ y < 2147483648) : iI x / iI y = iI (x / y) := by
  obtain ⟨⟨h1, h2⟩, h3, h4⟩ := h
  apply Int32.toInt_inj.mp
  have q0 : 0 ≤ x / y := Int.ediv_nonneg h1 (by omega)
  have q1 : x / y ≤ x := Int.ediv_le_self y h1
  rw [Int32.toInt_div_of_ne_right _ _ (fun e => by have := congrArg Int32.toInt e; rw [iI_toInt (by omega) h4] at this; rw [this] at h3; exact absurd h3 (by decide)), iI_toInt (by omega) h2, iI_toInt (by omega) h4, iI_toInt (by omega) (by omega), Int.tdiv_eq_ediv_of_nonneg h1]
theorem iI_mod {x y : Int} (h : (0 ≤ x ∧ x < 2147483648) ∧ 0 < y ∧ y < 2147483648) : iI x - iI x / iI y * iI y = iI (x % y) := by
  rw [iI_div h, iI_mul, iI_sub]
  congr 1
  have := Int.emod_add_mul_ediv x y
  rw [Int.mul_comm] at this
  omega
theorem iI_clamp {z : Int} (h : 0 ≤ z) (h2 : z < 2147483648) : (iI z).toNatClampNeg = z.toNat := by
  exact Int32.toNatClampNeg_ofInt_of_le (by omega) (by omega)
theorem iI_in {z : Int} {n : Nat} (h : 0 ≤ z ∧ z < n ∧ z < 2147483648) : vp_in (iI z) n := by
  rw [vp_in_iff, iI_toInt (by omega) h.2.2]; omega
/-- int arrays hold Ints, long arrays too -/
def iF (g : Nat → Int) : Nat → Int32 := fun n => iI (g n)
def nF (f : Nat → Nat) : Nat → Int32 := fun n => iI (f n : Int)
def nU (f : Nat → Nat) (k : Nat) (x : Nat) : Nat → Nat := fun j => if j = k then x else f j
def zU (g : Nat → Int) (k : Nat) (x : Int) : Nat → Int := fun j => if j = k then x else g j
theorem iF_upd (g : Nat → Int) (k : Nat) (x : Int) : upd (iF g) k (iI x) = iF (zU g k x) := by
  funext j; simp only [upd, iF, zU]; split <;> rfl
theorem nF_upd (f : Nat → Nat) (k x : Nat) : nF (nU f k x) = iF (zU (fun n => (f n : Int)) k x) := by
  funext j; simp only [nF, iF, nU, zU]; split <;> rfl
theorem nU_s {f : Nat → Nat} {k x : Nat} : nU f k x k = x := if_pos rfl
theorem nU_n {f : Nat → Nat} {k j x : Nat} (h : j ≠ k) : nU f k x j = f j := if_neg h
theorem zU_s {g : Nat → Int} {k : Nat} {x : Int} : zU g k x k = x := if_pos rfl
theorem zU_n {g : Nat → Int} {k j : Nat} {x : Int} (h : j ≠ k) : zU g k x j = g j := if_neg h
/-! the method's facts, the world, in one hypothesis each -/
abbrev kG : Type := va_G × (Nat → ClassId)
def kT (G : kG) : List (ClassId × FieldType) := [(G.2 0, .int), (G.2 1, .long), (G.2 2, .object "CrochetRounds$Piece")]
def kM (p : Program) (m : MethodId) (c : Code) (cc : ByteArray) (nL : Nat) (s : State) (args : Array Value) (Ts : List Cond) (own : String) (meth : Method) (ret : Option FieldType) : Prop :=
  p.tables.exec = Jvm.exec ∧ c.code = cc ∧ c.maxLocals = nL ∧ s.vm.findClass own = some m.cls ∧ (∀ w ∈ Ts, w.before args s = true) ∧ meth.sig.returnType = ret ∧ meth.locks = false
/-- the links to private members of nest mates -/
def kNestL : List (String × Nat × MethodName × String) := [(RX6, 9, yX4_init, RX6), (RX0, 17, yX4_init, RX6), (RX6, 25, yX3_init, RX6), (RX6, 32, yX5_init, RX6), (RX6, 39, yX1_init, RX6), (RX4, 58, yX6_madeBy, RX6), (RX1, 34, yX6_madeBy, RX6), (RX1, 37, yX6_usedBy, RX6)]
/-- .. and the class of arrays of pieces -/
def kNest (U : State) : Prop := (∀ q ∈ kNestL, va_Nw (.methodLinkNest q.1 q.2.1 q.2.2.1 q.2.2.2) U) ∧ va_AO RX4 U
theorem kNest.warm {s U : State} (hW : s.WarmedH U.vm) (h : kNest s) : kNest U := ⟨fun q hq => va_Nw.warmM hW (h.1 q hq), h.2.moved hW.alike⟩
theorem kNest.same {u U : State} (e : u.vm = U.vm) (h : kNest u) : kNest U := ⟨fun q hq => va_Nw.same rfl e (h.1 q hq), h.2.moved (by rw [e]; exact Vm.Alike.refl _)⟩
/-- what the tables say, at a state -/
def kK (G : kG) (U : State) : Prop := va_K G.1 vwCl (kT G) U ∧ kNest U
theorem kK.warm {G : kG} {s U : State} (hW : s.WarmedH U.vm) (h : kK G s) : kK G U := ⟨va_K.moved hW.alike h.1, h.2.warm hW⟩
def kW (G : kG) (A : Nat → Prop) (s : State) (ws : va_W) (H : Heap) (locs : List Loc) : Prop :=
  va_P G.1 vwCl ws H ∧ va_D A ws ∧ va_S A s.heap H locs ∧ kK G s ∧ (∀ q : Nat, s.heap.size ≤ q → A q)
def kPre (G : kG) (wp : va_W) (sz : Nat) (U : State) : Prop := U.heap.size = sz ∧ va_P G.1 vwCl wp U.heap ∧ kK G U ∧ va_D (fun _ => True) wp
def kPost (G : kG) (A : Nat → Prop) (post : Option Value → va_W → Prop) : Array Value → State → Outcome → State → Prop := fun _ st oc t =>
  (∃ (v : Option Value) (wq : va_W), oc = .returned v ∧ post v wq ∧ va_P G.1 vwCl wq t.heap ∧ kK G t ∧ va_D A wq) ∧ va_F A st t
/-- the contract of a method: from the world wp to a world with post -/
def kCM (l : Launch) (y : MethodName) (ws : List Cond) (fr lo mc ms : Nat) (G : kG) (av : List Value) (wp : va_W) (post : Option Value → va_W → Prop) : Prop :=
  ∀ sz : Nat, Met l y ws { frames := fr, cells := mc, slots := ms, locals := lo } (va_Pc av (kPre G wp sz)) (kPost G (va_A wp sz) post) mc ms (va_A wp sz)
/-- .. of one that changes nothing -/
def kCR (l : Launch) (y : MethodName) (ws : List Cond) (fr lo : Nat) (G : kG) (av : List Value) (wp : va_W) (post : Option Value → Prop) : Prop :=
  kCM l y ws fr lo 0 0 G av wp (fun v wq => post v ∧ wq = wp)
def kZ (below : List Frame) (G : kG) (A : Nat → Prop) (post : Option Value → va_W → Prop) (args : Array Value) (s : State) (mc ms : Nat) : State → Prop := MQ below (kPost G A post) args s mc ms A
theorem kW.sub {G : kG} {A : Nat → Prop} {s : State} {ws ws' : va_W} {H : Heap} {locs : List Loc} (h : kW G A s ws H locs) (is : List Nat) (hn : va_nd is = true) (hs : is.map (fun i => ws[i]?) = ws'.map some) : kW G A s ws' H locs := by
  obtain ⟨hP, hD, hS, hK, hA⟩ := h
  exact ⟨hP.sub is (by have q := congrArg (List.filterMap id) hs; simpa [List.filterMap_map] using q), hD.sub is hn hs, hS, hK, hA⟩
abbrev vN (n : Nat) : Value := .int (iI (n : Int))
abbrev vZ (z : Int) : Value := .int (iI z)
abbrev vB (b : Bool) : Value := .int (iI (bI b))
theorem kN_bool (b : Bool) : narrow .boolean (vB b) = vB b := by cases b <;> rfl
theorem kF_bool (b : Bool) : fits .boolean (vB b) = true := by cases b <;> rfl
section KR
variable {p : Program} {l : Launch} {e : Env} {R : Room} {s : State} {m : MethodId} {args : Array Value} {below : List Frame} {meth : Method} {c : Code} {H : Heap} {locs : List Loc} {cells slots : Nat} {Q : State → Prop}
variable {cc : ByteArray} {pc nL : Nat} {ls : Array Slot} {rest : List Value} {Ts : List Cond} {own : String} {ret : Option FieldType} {G : kG} {A : Nat → Prop} {ws : va_W} {ll : List (Nat × Value)}
/-! loads, stores, constants -/
theorem k_iconst (hm : kM p m c cc nL s args Ts own meth ret) {n : Int} (hdg : decode cc pc = .ok (.iconst n, 1)) (k : W p l e R s m args below meth c H locs cells slots Q (F0 m (pc + 1) ls (.int (iI n) :: rest))) : W p l e R s m args below meth c H locs cells slots Q (F0 m pc ls rest) := lv_iconst hm.1 hm.2.1 hdg rfl k
theorem k_bipush (hm : kM p m c cc nL s args Ts own meth ret) {n : Int} (hdg : decode cc pc = .ok (.bipush n, 2)) (hn : (Int8.ofInt n).toInt32 = iI n) (k : W p l e R s m args below meth c H locs cells slots Q (F0 m (pc + 2) ls (.int (iI n) :: rest))) : W p l e R s m args below meth c H locs cells slots Q (F0 m pc ls rest) := lv_bipush hm.1 hm.2.1 hdg hn k
theorem k_sipush (hm : kM p m c cc nL s args Ts own meth ret) {n : Int} (hdg : decode cc pc = .ok (.sipush n, 3)) (hn : (Int16.ofInt n).toInt32 = iI n) (k : W p l e R s m args below meth c H locs cells slots Q (F0 m (pc + 3) ls (.int (iI n) :: rest))) : W p l e R s m args below meth c H locs cells slots Q (F0 m pc ls rest) := lv_sipush hm.1 hm.2.1 hdg hn k
theorem k_lconst (hm : kM p m c cc nL s args Ts own meth ret) {n : Fin 2} (hdg : decode cc pc = .ok (.lconst n, 1)) (k : W p l e R s m args below meth c H locs cells slots Q (F0 m (pc + 1) ls (.long (lI ((n : Nat) : Int)) :: rest))) : W p l e R s m args below meth c H locs cells slots Q (F0 m pc ls rest) := lv_lconst hm.1 hm.2.1 hdg (Int64.ofInt_eq_ofNat).symm k
theorem k_iload_n (hm : kM p m c cc nL s args Ts own meth ret) (hl : lv_has ls nL ll) (k : Nat) {i : Fin 4} {x : Int32} (hk : ll[k]? = some ((i : Nat), .int x)) (hdg : decode cc pc = .ok (.iload_n i, 1)) (kk : W p l e R s m args below meth c H locs cells slots Q (F0 m (pc + 1) ls (.int x :: rest))) : W p l e R s m args below meth c H locs cells slots Q (F0 m pc ls rest) := lv_iload_n hm.1 hm.2.1 hdg rfl (lv_at hl k hk) kk
theorem k_iload (hm : kM p m c cc nL s args Ts own meth ret) (hl : lv_has ls nL ll) (k : Nat) {i : Nat} {x : Int32} (hk : ll[k]? = some (i, .int x)) (hdg : decode cc pc = .ok (.iload i, 2)) (kk : W p l e R s m args below meth c H locs cells slots Q (F0 m (pc + 2) ls (.int x :: rest))) : W p l e R s m args below meth c H locs cells slots Q (F0 m pc ls rest) := lv_iload hm.1 hm.2.1 hdg (lv_at hl k hk) kk
theorem k_lload_n (hm : kM p m c cc nL s args Ts own meth ret) (hl : lv_has ls nL ll) (k : Nat) {i : Fin 4} {x : Int64} (hk : ll[k]? = some ((i : Nat), .long x)) (hdg : decode cc pc = .ok (.lload_n i, 1)) (kk : W p l e R s m args below meth c H locs cells slots Q (F0 m (pc + 1) ls (.long x :: rest))) : W p l e R s m args below meth c H locs cells slots Q (F0 m pc ls rest) := lv_lload_n hm.1 hm.2.1 hdg rfl (lv_at hl k hk) kk
theorem k_lload (hm : kM p m c cc nL s args Ts own meth ret) (hl : lv_has ls nL ll) (k : Nat) {i : Nat} {x : Int64} (hk : ll[k]? = some (i, .long x)) (hdg : decode cc pc = .ok (.lload i, 2)) (kk : W p l e R s m args below meth c H locs cells slots Q (F0 m (pc + 2) ls (.long x :: rest))) : W p l e R s m args below meth c H locs cells slots Q (F0 m pc ls rest) := lv_lload hm.1 hm.2.1 hdg (lv_at hl k hk) kk
theorem k_aload_n (hm : kM p m c cc nL s args Ts own meth ret) (hl : lv_has ls nL ll) (k : Nat) {i : Fin 4} {x : Nat} (hk : ll[k]? = some ((i : Nat), .ref x)) (hdg : decode cc pc = .ok (.aload_n i, 1)) (kk : W p l e R s m args below meth c H locs cells slots Q (F0 m (pc + 1) ls (.ref x :: rest))) : W p l e R s m args below meth c H locs cells slots Q (F0 m pc ls rest) := lv_aload_n hm.1 hm.2.1 hdg rfl (lv_at hl k hk) kk
theorem k_aload (hm : kM p m c cc nL s args Ts own meth ret) (hl : lv_has ls nL ll) (k : Nat) {i : Nat} {x : Nat} (hk : ll[k]? = some (i, .ref x)) (hdg : decode cc pc = .ok (.aload i, 2)) (kk : W p l e R s m args below meth c H locs cells slots Q (F0 m (pc + 2) ls (.ref x :: rest))) : W p l e R s m args below meth c H locs cells slots Q (F0 m pc ls rest) := lv_aload hm.1 hm.2.1 hdg (lv_at hl k hk) kk
theorem k_istore_n (hm : kM p m c cc nL s args Ts own meth ret) (hl : lv_has ls nL ll) {i : Fin 4} {x : Int32} (l2 : List (Nat × Value)) (hn : (i : Nat) < nL) (h2 : ((i : Nat), Value.int x) :: ll.filter (fun q => !(q.1 == (i : Nat)) && !(q.1 + 1 == (i : Nat) && q.2.category == 2)) = l2) (hdg : decode cc pc = .ok (.istore_n i, 1)) (kk : ∀ ls', lv_has ls' nL l2 → W p l e R s m args below meth c H locs cells slots Q (F0 m (pc + 1) ls' rest)) : W p l e R s m args below meth c H locs cells slots Q (F0 m pc ls (.int x :: rest)) := lv_istore_n hm.1 hm.2.1 hdg rfl hl hn h2 kk
theorem k_istore (hm : kM p m c cc nL s args Ts own meth ret) (hl : lv_has ls nL ll) {i : Nat} {x : Int32} (l2 : List (Nat × Value)) (hn : i < nL) (h2 : (i, Value.int x) :: ll.filter (fun q => !(q.1 == i) && !(q.1 + 1 == i && q.2.category == 2)) = l2) (hdg : decode cc pc = .ok (.istore i, 2)) (kk : ∀ ls', lv_has ls' nL l2 → W p l e R s m args below meth c H locs cells slots Q (F0 m (pc + 2) ls' rest)) : W p l e R s m args below meth c H locs cells slots Q (F0 m pc ls (.int x :: rest)) := lv_istore hm.1 hm.2.1 hdg hl hn h2 kk
theorem k_lstore_n (hm : kM p m c cc nL s args Ts own meth ret) (hl : lv_has ls nL ll) {i : Fin 4} {x : Int64} (l2 : List (Nat × Value)) (hn : (i : Nat) + 1 < nL) (h2 : ((i : Nat), Value.long x) :: ll.filter (fun q => !(q.1 == (i : Nat)) && (!(q.1 == (i : Nat) + 1) && !(q.1 + 1 == (i : Nat) && q.2.category == 2))) = l2) (hdg : decode cc pc = .ok (.lstore_n i, 1)) (kk : ∀ ls', lv_has ls' nL l2 → W p l e R s m args below meth c H locs cells slots Q (F0 m (pc + 1) ls' rest)) : W p l e R s m args below meth c H locs cells slots Q (F0 m pc ls (.long x :: rest)) := lv_lstore_n hm.1 hm.2.1 hdg rfl hl hn h2 kk
theorem k_lstore (hm : kM p m c cc nL s args Ts own meth ret) (hl : lv_has ls nL ll) {i : Nat} {x : Int64} (l2 : List (Nat × Value)) (hn : i + 1 < nL) (h2 : (i, Value.long x) :: ll.filter (fun q => !(q.1 == i) && (!(q.1 == i + 1) && !(q.1 + 1 == i && q.2.category == 2))) = l2) (hdg : decode cc pc = .ok (.lstore i, 2)) (kk : ∀ ls', lv_has ls' nL l2 → W p l e R s m args below meth c H locs cells slots Q (F0 m (pc + 2) ls' rest)) : W p l e R s m args below meth c H locs cells slots Q (F0 m pc ls (.long x :: rest)) := lv_lstore hm.1 hm.2.1 hdg hl hn h2 kk
theorem k_astore_n (hm : kM p m c cc nL s args Ts own meth ret) (hl : lv_has ls nL ll) {i : Fin 4} {x : Nat} (l2 : List (Nat × Value)) (hn : (i : Nat) < nL) (h2 : ((i : Nat), Value.ref x) :: ll.filter (fun q => !(q.1 == (i : Nat)) && !(q.1 + 1 == (i : Nat) && q.2.category == 2)) = l2) (hdg : decode cc pc = .ok (.astore_n i, 1)) (kk : ∀ ls', lv_has ls' nL l2 → W p l e R s m args below meth c H locs cells slots Q (F0 m (pc + 1) ls' rest)) : W p l e R s m args below meth c H locs cells slots Q (F0 m pc ls (.ref x :: rest)) := lv_astore_n hm.1 hm.2.1 hdg rfl hl hn h2 kk
theorem k_astore (hm : kM p m c cc nL s args Ts own meth ret) (hl : lv_has ls nL ll) {i : Nat} {x : Nat} (l2 : List (Nat × Value)) (hn : i < nL) (h2 : (i, Value.ref x) :: ll.filter (fun q => !(q.1 == i) && !(q.1 + 1 == i && q.2.category == 2)) = l2) (hdg : decode cc pc = .ok (.astore i, 2)) (kk : ∀ ls', lv_has ls' nL l2 → W p l e R s m args below meth c H locs cells slots Q (F0 m (pc + 2) ls' rest)) : W p l e R s m args below meth c H locs cells slots Q (F0 m pc ls (.ref x :: rest)) := lv_astore hm.1 hm.2.1 hdg hl hn h2 kk
theorem k_iinc (hm : kM p m c cc nL s args Ts own meth ret) (hl : lv_has ls nL ll) (k : Nat) {i : Nat} {n x : Int} (hk : ll[k]? = some (i, .int (iI x))) (l2 : List (Nat × Value)) (hn : i < nL) (h2 : (i, Value.int (iI (x + n))) :: ll.filter (fun q => !(q.1 == i) && !(q.1 + 1 == i && q.2.category == 2)) = l2) (hdg : decode cc pc = .ok (.iinc i n, 3)) (kk : ∀ ls', lv_has ls' nL l2 → W p l e R s m args below meth c H locs cells slots Q (F0 m (pc + 3) ls' rest)) : W p l e R s m args below meth c H locs cells slots Q (F0 m pc ls rest) := lv_iinc hm.1 hm.2.1 hdg hl hk (iI_add x n) hn h2 kk
/-! arithmetic -/
theorem k_iadd (hm : kM p m c cc nL s args Ts own meth ret) {x y : Int} (hdg : decode cc pc = .ok (.iadd, 1)) (k : W p l e R s m args below meth c H locs cells slots Q (F0 m (pc + 1) ls (.int (iI (x + y)) :: rest))) : W p l e R s m args below meth c H locs cells slots Q (F0 m pc ls (.int (iI y) :: .int (iI x) :: rest)) := lv_iadd hm.1 hm.2.1 hdg (by rw [iI_add]; exact k)
theorem k_isub (hm : kM p m c cc nL s args Ts own meth ret) {x y : Int} (hdg : decode cc pc = .ok (.isub, 1)) (k : W p l e R s m args below meth c H locs cells slots Q (F0 m (pc + 1) ls (.int (iI (x - y)) :: rest))) : W p l e R s m args below meth c H locs cells slots Q (F0 m pc ls (.int (iI y) :: .int (iI x) :: rest)) := lv_isub hm.1 hm.2.1 hdg (by rw [iI_sub]; exact k)
theorem k_imul (hm : kM p m c cc nL s args Ts own meth ret) {x y : Int} (hdg : decode cc pc = .ok (.imul, 1)) (k : W p l e R s m args below meth c H locs cells slots Q (F0 m (pc + 1) ls (.int (iI (x * y)) :: rest))) : W p l e R s m args below meth c H locs cells slots Q (F0 m pc ls (.int (iI y) :: .int (iI x) :: rest)) := lv_imul hm.1 hm.2.1 hdg (by rw [iI_mul]; exact k)
theorem k_ineg (hm : kM p m c cc nL s args Ts own meth ret) {x : Int} (hdg : decode cc pc = .ok (.ineg, 1)) (k : W p l e R s m args below meth c H locs cells slots Q (F0 m (pc + 1) ls (.int (iI (-x)) :: rest))) : W p l e R s m args below meth c H locs cells slots Q (F0 m pc ls (.int (iI x) :: rest)) := lv_ineg hm.1 hm.2.1 hdg (by rw [iI_neg]; exact k)
theorem k_idiv (hm : kM p m c cc nL s args Ts own meth ret) {x y : Int} (hdg : decode cc pc = .ok (.idiv, 1)) (h : (0 ≤ x ∧ x < 2147483648) ∧ 0 < y ∧ y < 2147483648) (k : W p l e R s m args below meth c H locs cells slots Q (F0 m (pc + 1) ls (.int (iI (x / y)) :: rest))) : W p l e R s m args below meth c H locs cells slots Q (F0 m pc ls (.int (iI y) :: .int (iI x) :: rest)) := lv_idiv hm.1 hm.2.1 hdg (iI_ne0 h.2.1 h.2.2) (by rw [iI_div h]; exact k)
theorem k_irem (hm : kM p m c cc nL s args Ts own meth ret) {x y : Int} (hdg : decode cc pc = .ok (.irem, 1)) (h : (0 ≤ x ∧ x < 2147483648) ∧ 0 < y ∧ y < 2147483648) (k : W p l e R s m args below meth c H locs cells slots Q (F0 m (pc + 1) ls (.int (iI (x % y)) :: rest))) : W p l e R s m args below meth c H locs cells slots Q (F0 m pc ls (.int (iI y) :: .int (iI x) :: rest)) := lv_irem hm.1 hm.2.1 hdg (iI_ne0 h.2.1 h.2.2) (by rw [iI_mod h]; exact k)
theorem k_ladd (hm : kM p m c cc nL s args Ts own meth ret) {x y : Int} (hdg : decode cc pc = .ok (.ladd, 1)) (k : W p l e R s m args below meth c H locs cells slots Q (F0 m (pc + 1) ls (.long (lI (x + y)) :: rest))) : W p l e R s m args below meth c H locs cells slots Q (F0 m pc ls (.long (lI y) :: .long (lI x) :: rest)) := lv_ladd hm.1 hm.2.1 hdg (by rw [lI_add]; exact k)
theorem k_lsub (hm : kM p m c cc nL s args Ts own meth ret) {x y : Int} (hdg : decode cc pc = .ok (.lsub, 1)) (k : W p l e R s m args below meth c H locs cells slots Q (F0 m (pc + 1) ls (.long (lI (x - y)) :: rest))) : W p l e R s m args below meth c H locs cells slots Q (F0 m pc ls (.long (lI y) :: .long (lI x) :: rest)) := lv_lsub hm.1 hm.2.1 hdg (by rw [lI_sub]; exact k)
theorem k_lmul (hm : kM p m c cc nL s args Ts own meth ret) {x y : Int} (hdg : decode cc pc = .ok (.lmul, 1)) (k : W p l e R s m args below meth c H locs cells slots Q (F0 m (pc + 1) ls (.long (lI (x * y)) :: rest))) : W p l e R s m args below meth c H locs cells slots Q (F0 m pc ls (.long (lI y) :: .long (lI x) :: rest)) := lv_lmul hm.1 hm.2.1 hdg (by rw [lI_mul]; exact k)
theorem k_i2l (hm : kM p m c cc nL s args Ts own meth ret) {x : Int} (hdg : decode cc pc = .ok (.i2l, 1)) (h : -2147483648 ≤ x ∧ x < 2147483648) (k : W p l e R s m args below meth c H locs cells slots Q (F0 m (pc + 1) ls (.long (lI x) :: rest))) : W p l e R s m args below meth c H locs cells slots Q (F0 m pc ls (.int (iI x) :: rest)) := lv_i2l hm.1 hm.2.1 hdg (iI_l h.1 h.2) k
theorem k_l2i (hm : kM p m c cc nL s args Ts own meth ret) {x : Int} (hdg : decode cc pc = .ok (.l2i, 1)) (k : W p l e R s m args below meth c H locs cells slots Q (F0 m (pc + 1) ls (.int (iI x) :: rest))) : W p l e R s m args below meth c H locs cells slots Q (F0 m pc ls (.long (lI x) :: rest)) := lv_l2i hm.1 hm.2.1 hdg (lI_i x) k
/-! names and other words for the top -/
theorem k_nm {x : Int} (k : ∀ y : Int, y = x → W p l e R s m args below meth c H locs cells slots Q (F0 m pc ls (.int (iI y) :: rest))) : W p l e R s m args below meth c H locs cells slots Q (F0 m pc ls (.int (iI x) :: rest)) := k x rfl
theorem k_rw {x y : Int} (h : x = y) (k : W p l e R s m args below meth c H locs cells slots Q (F0 m pc ls (.int (iI y) :: rest))) : W p l e R s m args below meth c H locs cells slots Q (F0 m pc ls (.int (iI x) :: rest)) := by rw [h]; exact k
theorem k_rwl {x y : Int} (h : x = y) (k : W p l e R s m args below meth c H locs cells slots Q (F0 m pc ls (.long (lI y) :: rest))) : W p l e R s m args below meth c H locs cells slots Q (F0 m pc ls (.long (lI x) :: rest)) := by rw [h]; exact k
/-! branches -/
theorem k_ifeq (hm : kM p m c cc nL s args Ts own meth ret) {x : Int} {off : Int} {tgt : Nat} (hdg : decode cc pc = .ok (.ifCond .eq off, 3)) (ht : (pc : Int) + off = (tgt : Int)) (h : -2147483648 ≤ x ∧ x < 2147483648) (kt : x = 0 → W p l e R s m args below meth c H locs cells slots Q (F0 m tgt ls rest)) (kf : ¬ x = 0 → W p l e R s m args below meth c H locs cells slots Q (F0 m (pc + 3) ls rest)) : W p l e R s m args below meth c H locs cells slots Q (F0 m pc ls (.int (iI x) :: rest)) :=
  lv_if_eq hm.1 hm.2.1 hdg ht (fun q => kt ((iI_eq (y := 0) (by omega)).mp q)) (fun q => kf (fun z => q ((iI_eq (y := 0) (by omega)).mpr z)))
theorem k_ifne (hm : kM p m c cc nL s args Ts own meth ret) {x : Int} {off : Int} {tgt : Nat} (hdg : decode cc pc = .ok (.ifCond .ne off, 3)) (ht : (pc : Int) + off = (tgt : Int)) (h : -2147483648 ≤ x ∧ x < 2147483648) (kt : ¬ x = 0 → W p l e R s m args below meth c H locs cells slots Q (F0 m tgt ls rest)) (kf : x = 0 → W p l e R s m args below meth c H locs cells slots Q (F0 m (pc + 3) ls rest)) : W p l e R s m args below meth c H locs cells slots Q (F0 m pc ls (.int (iI x) :: rest)) :=
  lv_if_ne hm.1 hm.2.1 hdg ht (fun q => kt (fun z => q ((iI_eq (y := 0) (by omega)).mpr z))) (fun q => kf ((iI_eq (y := 0) (by omega)).mp q))
theorem k_iflt (hm : kM p m c cc nL s args Ts own meth ret) {x : Int} {off : Int} {tgt : Nat} (hdg : decode cc pc = .ok (.ifCond .lt off, 3)) (ht : (pc : Int) + off = (tgt : Int)) (h : -2147483648 ≤ x ∧ x < 2147483648) (kt : x < 0 → W p l e R s m args below meth c H locs cells slots Q (F0 m tgt ls rest)) (kf : ¬ x < 0 → W p l e R s m args below meth c H locs cells slots Q (F0 m (pc + 3) ls rest)) : W p l e R s m args below meth c H locs cells slots Q (F0 m pc ls (.int (iI x) :: rest)) :=
  lv_if_lt hm.1 hm.2.1 hdg ht (fun q => kt ((iI_lt (y := 0) (by omega)).mp q)) (fun q => kf (fun z => q ((iI_lt (y := 0) (by omega)).mpr z)))
theorem k_ifge (hm : kM p m c cc nL s args Ts own meth ret) {x : Int} {off : Int} {tgt : Nat} (hdg : decode cc pc = .ok (.ifCond .ge off, 3)) (ht : (pc : Int) + off = (tgt : Int)) (h : -2147483648 ≤ x ∧ x < 2147483648) (kt : 0 ≤ x → W p l e R s m args below meth c H locs cells slots Q (F0 m tgt ls rest)) (kf : ¬ 0 ≤ x → W p l e R s m args below meth c H locs cells slots Q (F0 m (pc + 3) ls rest)) : W p l e R s m args below meth c H locs cells slots Q (F0 m pc ls (.int (iI x) :: rest)) :=
  lv_if_ge hm.1 hm.2.1 hdg ht (fun q => kt ((iI_le (x := 0) (by omega)).mp q)) (fun q => kf (fun z => q ((iI_le (x := 0) (by omega)).mpr z)))
theorem k_ifgt (hm : kM p m c cc nL s args Ts own meth ret) {x : Int} {off : Int} {tgt : Nat} (hdg : decode cc pc = .ok (.ifCond .gt off, 3)) (ht : (pc : Int) + off = (tgt : Int)) (h : -2147483648 ≤ x ∧ x < 2147483648) (kt : 0 < x → W p l e R s m args below meth c H locs cells slots Q (F0 m tgt ls rest)) (kf : ¬ 0 < x → W p l e R s m args below meth c H locs cells slots Q (F0 m (pc + 3) ls rest)) : W p l e R s m args below meth c H locs cells slots Q (F0 m pc ls (.int (iI x) :: rest)) :=
  lv_if_gt hm.1 hm.2.1 hdg ht (fun q => kt ((iI_lt (x := 0) (by omega)).mp q)) (fun q => kf (fun z => q ((iI_lt (x := 0) (by omega)).mpr z)))
theorem k_ifle (hm : kM p m c cc nL s args Ts own meth ret) {x : Int} {off : Int} {tgt : Nat} (hdg : decode cc pc = .ok (.ifCond .le off, 3)) (ht : (pc : Int) + off = (tgt : Int)) (h : -2147483648 ≤ x ∧ x < 2147483648) (kt : x ≤ 0 → W p l e R s m args below meth c H locs cells slots Q (F0 m tgt ls rest)) (kf : ¬ x ≤ 0 → W p l e R s m args below meth c H locs cells slots Q (F0 m (pc + 3) ls rest)) : W p l e R s m args below meth c H locs cells slots Q (F0 m pc ls (.int (iI x) :: rest)) :=
  lv_if_le hm.1 hm.2.1 hdg ht (fun q => kt ((iI_le (y := 0) (by omega)).mp q)) (fun q => kf (fun z => q ((iI_le (y := 0) (by omega)).mpr z)))
theorem k_ifeqB (hm : kM p m c cc nL s args Ts own meth ret) {b : Bool} {off : Int} {tgt : Nat} (hdg : decode cc pc = .ok (.ifCond .eq off, 3)) (ht : (pc : Int) + off = (tgt : Int)) (kt : b = false → W p l e R s m args below meth c H locs cells slots Q (F0 m tgt ls rest)) (kf : b = true → W p l e R s m args below meth c H locs cells slots Q (F0 m (pc + 3) ls rest)) : W p l e R s m args below meth c H locs cells slots Q (F0 m pc ls (.int (iI (bI b)) :: rest)) :=
  k_ifeq hm hdg ht (by have := bI_01 b; omega) (fun q => kt (bI_0 q)) (fun q => kf (bI_n0 q))
theorem k_ifneB (hm : kM p m c cc nL s args Ts own meth ret) {b : Bool} {off : Int} {tgt : Nat} (hdg : decode cc pc = .ok (.ifCond .ne off, 3)) (ht : (pc : Int) + off = (tgt : Int)) (kt : b = true → W p l e R s m args below meth c H locs cells slots Q (F0 m tgt ls rest)) (kf : b = false → W p l e R s m args below meth c H locs cells slots Q (F0 m (pc + 3) ls rest)) : W p l e R s m args below meth c H locs cells slots Q (F0 m pc ls (.int (iI (bI b)) :: rest)) :=
  k_ifne hm hdg ht (by have := bI_01 b; omega) (fun q => kt (bI_n0 q)) (fun q => kf (bI_0 q))
theorem k_icmpeq (hm : kM p m c cc nL s args Ts own meth ret) {x y : Int} {off : Int} {tgt : Nat} (hdg : decode cc pc = .ok (.if_icmp .eq off, 3)) (ht : (pc : Int) + off = (tgt : Int)) (h : (-2147483648 ≤ x ∧ x < 2147483648) ∧ -2147483648 ≤ y ∧ y < 2147483648) (kt : x = y → W p l e R s m args below meth c H locs cells slots Q (F0 m tgt ls rest)) (kf : ¬ x = y → W p l e R s m args below meth c H locs cells slots Q (F0 m (pc + 3) ls rest)) : W p l e R s m args below meth c H locs cells slots Q (F0 m pc ls (.int (iI y) :: .int (iI x) :: rest)) :=
  lv_icmp_eq hm.1 hm.2.1 hdg ht (fun q => kt ((iI_eq h).mp q)) (fun q => kf (fun z => q ((iI_eq h).mpr z)))
theorem k_icmpne (hm : kM p m c cc nL s args Ts own meth ret) {x y : Int} {off : Int} {tgt : Nat} (hdg : decode cc pc = .ok (.if_icmp .ne off, 3)) (ht : (pc : Int) + off = (tgt : Int)) (h : (-2147483648 ≤ x ∧ x < 2147483648) ∧ -2147483648 ≤ y ∧ y < 2147483648) (kt : ¬ x = y → W p l e R s m args below meth c H locs cells slots Q (F0 m tgt ls rest)) (kf : x = y → W p l e R s m args below meth c H locs cells slots Q (F0 m (pc + 3) ls rest)) : W p l e R s m args below meth c H locs cells slots Q (F0 m pc ls (.int (iI y) :: .int (iI x) :: rest)) :=
  lv_icmp_ne hm.1 hm.2.1 hdg ht (fun q => kt (fun z => q ((iI_eq h).mpr z))) (fun q => kf ((iI_eq h).mp q))
theorem k_icmplt (hm : kM p m c cc nL s args Ts own meth ret) {x y : Int} {off : Int} {tgt : Nat} (hdg : decode cc pc = .ok (.if_icmp .lt off, 3)) (ht : (pc : Int) + off = (tgt : Int)) (h : (-2147483648 ≤ x ∧ x < 2147483648) ∧ -2147483648 ≤ y ∧ y < 2147483648) (kt : x < y → W p l e R s m args below meth c H locs cells slots Q (F0 m tgt ls rest)) (kf : ¬ x < y → W p l e R s m args below meth c H locs cells slots Q (F0 m (pc + 3) ls rest)) : W p l e R s m args below meth c H locs cells slots Q (F0 m pc ls (.int (iI y) :: .int (iI x) :: rest)) :=
  lv_icmp_lt hm.1 hm.2.1 hdg ht (fun q => kt ((iI_lt h).mp q)) (fun q => kf (fun z => q ((iI_lt h).mpr z)))
theorem k_icmpge (hm : kM p m c cc nL s args Ts own meth ret) {x y : Int} {off : Int} {tgt : Nat} (hdg : decode cc pc = .ok (.if_icmp .ge off, 3)) (ht : (pc : Int) + off = (tgt : Int)) (h : (-2147483648 ≤ x ∧ x < 2147483648) ∧ -2147483648 ≤ y ∧ y < 2147483648) (kt : y ≤ x → W p l e R s m args below meth c H locs cells slots Q (F0 m tgt ls rest)) (kf : ¬ y ≤ x → W p l e R s m args below meth c H locs cells slots Q (F0 m (pc + 3) ls rest)) : W p l e R s m args below meth c H locs cells slots Q (F0 m pc ls (.int (iI y) :: .int (iI x) :: rest)) :=
  lv_icmp_ge hm.1 hm.2.1 hdg ht (fun q => kt ((iI_le ⟨h.2, h.1⟩).mp q)) (fun q => kf (fun z => q ((iI_le ⟨h.2, h.1⟩).mpr z)))
theorem k_icmpgt (hm : kM p m c cc nL s args Ts own meth ret) {x y : Int} {off : Int} {tgt : Nat} (hdg : decode cc pc = .ok (.if_icmp .gt off, 3)) (ht : (pc : Int) + off = (tgt : Int)) (h : (-2147483648 ≤ x ∧ x < 2147483648) ∧ -2147483648 ≤ y ∧ y < 2147483648) (kt : y < x → W p l e R s m args below meth c H locs cells slots Q (F0 m tgt ls rest)) (kf : ¬ y < x → W p l e R s m args below meth c H locs cells slots Q (F0 m (pc + 3) ls rest)) : W p l e R s m args below meth c H locs cells slots Q (F0 m pc ls (.int (iI y) :: .int (iI x) :: rest)) :=
  lv_icmp_gt hm.1 hm.2.1 hdg ht (fun q => kt ((iI_lt ⟨h.2, h.1⟩).mp q)) (fun q => kf (fun z => q ((iI_lt ⟨h.2, h.1⟩).mpr z)))
theorem k_icmple (hm : kM p m c cc nL s args Ts own meth ret) {x y : Int} {off : Int} {tgt : Nat} (hdg : decode cc pc = .ok (.if_icmp .le off, 3)) (ht : (pc : Int) + off = (tgt : Int)) (h : (-2147483648 ≤ x ∧ x < 2147483648) ∧ -2147483648 ≤ y ∧ y < 2147483648) (kt : x ≤ y → W p l e R s m args below meth c H locs cells slots Q (F0 m tgt ls rest)) (kf : ¬ x ≤ y → W p l e R s m args below meth c H locs cells slots Q (F0 m (pc + 3) ls rest)) : W p l e R s m args below meth c H locs cells slots Q (F0 m pc ls (.int (iI y) :: .int (iI x) :: rest)) :=
  lv_icmp_le hm.1 hm.2.1 hdg ht (fun q => kt ((iI_le h).mp q)) (fun q => kf (fun z => q ((iI_le h).mpr z)))
theorem k_goto (hm : kM p m c cc nL s args Ts own meth ret) {off : Int} {tgt : Nat} (hdg : decode cc pc = .ok (.goto off, 3)) (ht : (pc : Int) + off = (tgt : Int)) (k : W p l e R s m args below meth c H locs cells slots Q (F0 m tgt ls rest)) : W p l e R s m args below meth c H locs cells slots Q (F0 m pc ls rest) := lv_goto hm.1 hm.2.1 hdg ht k
theorem k_dup (hm : kM p m c cc nL s args Ts own meth ret) {va : Value} (hdg : decode cc pc = .ok (.dup, 1)) (hva : va.category = 1) (k : W p l e R s m args below meth c H locs cells slots Q (F0 m (pc + 1) ls (va :: va :: rest))) : W p l e R s m args below meth c H locs cells slots Q (F0 m pc ls (va :: rest)) := lv_dup hm.1 hm.2.1 hdg hva k
theorem k_pop (hm : kM p m c cc nL s args Ts own meth ret) {va : Value} (hdg : decode cc pc = .ok (.pop, 1)) (hva : va.category = 1) (k : W p l e R s m args below meth c H locs cells slots Q (F0 m (pc + 1) ls rest)) : W p l e R s m args below meth c H locs cells slots Q (F0 m pc ls (va :: rest)) := lv_pop hm.1 hm.2.1 hdg hva k
/-! the same with natural numbers -/
theorem k_iconstN (hm : kM p m c cc nL s args Ts own meth ret) (n : Nat) (hdg : decode cc pc = .ok (.iconst (n : Int), 1)) (k : W p l e R s m args below meth c H locs cells slots Q (F0 m (pc + 1) ls (.int (iI (n : Int)) :: rest))) : W p l e R s m args below meth c H locs cells slots Q (F0 m pc ls rest) := k_iconst hm hdg k
theorem k_bipushN (hm : kM p m c cc nL s args Ts own meth ret) (n : Nat) (hdg : decode cc pc = .ok (.bipush (n : Int), 2)) (hn : (Int8.ofInt (n : Int)).toInt32 = iI (n : Int)) (k : W p l e R s m args below meth c H locs cells slots Q (F0 m (pc + 2) ls (.int (iI (n : Int)) :: rest))) : W p l e R s m args below meth c H locs cells slots Q (F0 m pc ls rest) := k_bipush hm hdg hn k
theorem k_sipushN (hm : kM p m c cc nL s args Ts own meth ret) (n : Nat) (hdg : decode cc pc = .ok (.sipush (n : Int), 3)) (hn : (Int16.ofInt (n : Int)).toInt32 = iI (n : Int)) (k : W p l e R s m args below meth c H locs cells slots Q (F0 m (pc + 3) ls (.int (iI (n : Int)) :: rest))) : W p l e R s m args below meth c H locs cells slots Q (F0 m pc ls rest) := k_sipush hm hdg hn k
theorem k_iaddN (hm : kM p m c cc nL s args Ts own meth ret) {x y : Nat} (hdg : decode cc pc = .ok (.iadd, 1)) (k : W p l e R s m args below meth c H locs cells slots Q (F0 m (pc + 1) ls (.int (iI ((x + y : Nat) : Int)) :: rest))) : W p l e R s m args below meth c H locs cells slots Q (F0 m pc ls (.int (iI (y : Int)) :: .int (iI (x : Int)) :: rest)) := k_iadd hm hdg k
theorem k_imulN (hm : kM p m c cc nL s args Ts own meth ret) {x y : Nat} (hdg : decode cc pc = .ok (.imul, 1)) (k : W p l e R s m args below meth c H locs cells slots Q (F0 m (pc + 1) ls (.int (iI ((x * y : Nat) : Int)) :: rest))) : W p l e R s m args below meth c H locs cells slots Q (F0 m pc ls (.int (iI (y : Int)) :: .int (iI (x : Int)) :: rest)) := k_imul hm hdg k
theorem k_isubN (hm : kM p m c cc nL s args Ts own meth ret) {x y : Nat} (h : y ≤ x) (hdg : decode cc pc = .ok (.isub, 1)) (k : W p l e R s m args below meth c H locs cells slots Q (F0 m (pc + 1) ls (.int (iI ((x - y : Nat) : Int)) :: rest))) : W p l e R s m args below meth c H locs cells slots Q (F0 m pc ls (.int (iI (y : Int)) :: .int (iI (x : Int)) :: rest)) := k_isub hm hdg (by rw [← Int.ofNat_sub h]; exact k)
theorem k_idivN (hm : kM p m c cc nL s args Ts own meth ret) {x y : Nat} (h : x < 2147483648 ∧ 0 < y ∧ y < 2147483648) (hdg : decode cc pc = .ok (.idiv, 1)) (k : W p l e R s m args below meth c H locs cells slots Q (F0 m (pc + 1) ls (.int (iI ((x / y : Nat) : Int)) :: rest))) : W p l e R s m args below meth c H locs cells slots Q (F0 m pc ls (.int (iI (y : Int)) :: .int (iI (x : Int)) :: rest)) := k_idiv hm hdg (by omega) (by rw [← Int.natCast_ediv]; exact k)
theorem k_iremN (hm : kM p m c cc nL s args Ts own meth ret) {x y : Nat} (h : x < 2147483648 ∧ 0 < y ∧ y < 2147483648) (hdg : decode cc pc = .ok (.irem, 1)) (k : W p l e R s m args below meth c H locs cells slots Q (F0 m (pc + 1) ls (.int (iI ((x % y : Nat) : Int)) :: rest))) : W p l e R s m args below meth c H locs cells slots Q (F0 m pc ls (.int (iI (y : Int)) :: .int (iI (x : Int)) :: rest)) := k_irem hm hdg (by omega) (by rw [← Int.natCast_emod]; exact k)
theorem k_iincN (hm : kM p m c cc nL s args Ts own meth ret) (hl : lv_has ls nL ll) (k : Nat) {i x : Nat} (n : Nat) (hk : ll[k]? = some (i, .int (iI (x : Int)))) (l2 : List (Nat × Value)) (hn : i < nL) (h2 : (i, Value.int (iI ((x + n : Nat) : Int))) :: ll.filter (fun q => !(q.1 == i) && !(q.1 + 1 == i && q.2.category == 2)) = l2) (hdg : decode cc pc = .ok (.iinc i (n : Int), 3)) (kk : ∀ ls', lv_has ls' nL l2 → W p l e R s m args below meth c H locs cells slots Q (F0 m (pc + 3) ls' rest)) : W p l e R s m args below meth c H locs cells slots Q (F0 m pc ls rest) := k_iinc hm hl k hk l2 hn h2 hdg kk
theorem k_nmN {x : Nat} (k : ∀ y : Nat, y = x → W p l e R s m args below meth c H locs cells slots Q (F0 m pc ls (.int (iI (y : Int)) :: rest))) : W p l e R s m args below meth c H locs cells slots Q (F0 m pc ls (.int (iI (x : Int)) :: rest)) := k x rfl
theorem k_rwV {x y : Value} (h : x = y) (k : W p l e R s m args below meth c H locs cells slots Q (F0 m pc ls (y :: rest))) : W p l e R s m args below meth c H locs cells slots Q (F0 m pc ls (x :: rest)) := by rw [h]; exact k
/-! fields and arrays of the world -/
theorem k_get (hm : kM p m c cc nL s args Ts own meth ret) (hw : kW G A s ws H locs) (q0 : Nat) {a ci index N : Nat} {C : String} {T : u_T} {fs : List Value} {v : Value} (k : Nat) (hin : ∀ w ∈ u_ws C T N, w ∈ Ts) (he : ws[q0]? = some (a, .inr (ci, fs))) (hc : vwCl[ci]? = some (C, T, N)) (hk : k < N) (hlk : Cond.fieldLink own index (T k).1 (T k).2.1 (T k).2.2.1 ∈ Ts) (hv : fs[k]? = some v) (hdg : decode cc pc = .ok (.getfield index, 3)) (kk : W p l e R s m args below meth c H locs cells slots Q (F0 m (pc + 3) ls (v :: rest))) : W p l e R s m args below meth c H locs cells slots Q (F0 m pc ls (.ref a :: rest)) :=
  va_get (D := G.1) (cl := vwCl) hm.1 hm.2.1 hm.2.2.2.2.1 hin hm.2.2.2.1 hw.2.2.2.1.1 hw.1 q0 he hc k hk (hm.2.2.2.2.1 _ hlk) (fun _ h => h) hv hdg kk
theorem k_put (hm : kM p m c cc nL s args Ts own meth ret) (hw : kW G A s ws H locs) (q0 : Nat) {a ci index N : Nat} {C : String} {T : u_T} {fs : List Value} {v : Value} {ty : FieldType} (k : Nat) (ws2 : va_W) (hin : ∀ w ∈ u_ws C T N, w ∈ Ts) (ty0 : Nat → FieldType) (hty : ∀ k, k < N → parseFieldDescriptor (T k).2.2.1 = some (ty0 k)) (hnm : ∀ a, a < N → ∀ b, b < N → a ≠ b → (T a).2.1 ≠ (T b).2.1) (he : ws[q0]? = some (a, .inr (ci, fs))) (hc : vwCl[ci]? = some (C, T, N)) (hk : k < N) (hlk : Cond.fieldLink own index (T k).1 (T k).2.1 (T k).2.2.1 ∈ Ts) (hfin : (T k).2.2.2 = false) (hd : parseFieldDescriptor (T k).2.2.1 = some ty) (hn : narrow ty v = v) (hfit : fits ty v = true) (hlen : k < fs.length) (h2 : ws.set q0 (a, .inr (ci, fs.set k v)) = ws2) (hdg : decode cc pc = .ok (.putfield index, 3))
    (kk : ∀ H1 locs1, kW G A s ws2 H1 locs1 → W p l e R s m args below meth c H1 locs1 cells slots Q (F0 m (pc + 3) ls rest)) : W p l e R s m args below meth c H locs cells slots Q (F0 m pc ls (v :: .ref a :: rest)) := by
  subst h2
  exact va_put (D := G.1) (cl := vwCl) hm.1 hm.2.1 hm.2.2.2.2.1 hin ty0 hty hnm hm.2.2.2.1 hw.2.2.2.1.1 hw.1 hw.2.1 hw.2.2.1 q0 he hc k hk (hm.2.2.2.2.1 _ hlk) (fun _ h => h) hfin hd hn hfit hlen hdg (fun H1 l1 hP hD hS => kk H1 l1 ⟨hP, hD, hS, hw.2.2.2.1, hw.2.2.2.2⟩)
theorem k_putF (hm : kM p m c cc nL s args Ts own meth ret) (hw : kW G A s ws H locs) (hin2 : meth.name = "<init>") (q0 : Nat) {a ci index N : Nat} {T : u_T} {fs : List Value} {v : Value} {ty : FieldType} (k : Nat) (ws2 : va_W) (hin : ∀ w ∈ u_ws own T N, w ∈ Ts) (ty0 : Nat → FieldType) (hty : ∀ k, k < N → parseFieldDescriptor (T k).2.2.1 = some (ty0 k)) (hnm : ∀ a, a < N → ∀ b, b < N → a ≠ b → (T a).2.1 ≠ (T b).2.1) (he : ws[q0]? = some (a, .inr (ci, fs))) (hc : vwCl[ci]? = some (own, T, N)) (hk : k < N) (hlk : Cond.fieldLink own index own (T k).2.1 (T k).2.2.1 ∈ Ts) (hown : (T k).1 = own) (hfin : (T k).2.2.2 = true) (hd : parseFieldDescriptor (T k).2.2.1 = some ty) (hn : narrow ty v = v) (hfit : fits ty v = true) (hlen : k < fs.length) (h2 : ws.set q0 (a, .inr (ci, fs.set k v)) = ws2) (hdg : decode cc pc = .ok (.putfield index, 3))
    (kk : ∀ H1 locs1, kW G A s ws2 H1 locs1 → W p l e R s m args below meth c H1 locs1 cells slots Q (F0 m (pc + 3) ls rest)) : W p l e R s m args below meth c H locs cells slots Q (F0 m pc ls (v :: .ref a :: rest)) := by
  subst h2
  exact va_putF (D := G.1) (cl := vwCl) hm.1 hm.2.1 hm.2.2.2.2.1 hin ty0 hty hnm hm.2.2.2.1 hw.2.2.2.1.1 hw.1 hw.2.1 hw.2.2.1 q0 he hc k hk (hm.2.2.2.2.1 _ hlk) (fun _ h => by first | exact h | (rw [hown] at h; exact h)) hfin hin2 (by first | exact hown | exact hown.symm | rfl) hd hn hfit hlen hdg (fun H1 l1 hP hD hS => kk H1 l1 ⟨hP, hD, hS, hw.2.2.2.1, hw.2.2.2.2⟩)
theorem k_iald (hm : kM p m c cc nL s args Ts own meth ret) (hw : kW G A s ws H locs) (q0 : Nat) {a n : Nat} {g : Nat → Int} {i : Int} (ha : ws[q0]? = some (a, .inl (G.2 0, n, .inl (iF g)))) (hi : 0 ≤ i ∧ i < n ∧ i < 2147483648) (hdg : decode cc pc = .ok (.iaload, 1)) (kk : W p l e R s m args below meth c H locs cells slots Q (F0 m (pc + 1) ls (.int (iI (g i.toNat)) :: rest))) : W p l e R s m args below meth c H locs cells slots Q (F0 m pc ls (.int (iI i) :: .ref a :: rest)) :=
  va_iald (D := G.1) (cl := vwCl) (tys := kT G) hm.1 hm.2.1 hw.2.2.2.1.1 hw.1 q0 0 ha rfl (iI_in hi) hdg (by rw [iI_clamp hi.1 hi.2.2]; exact kk)
theorem k_iast (hm : kM p m c cc nL s args Ts own meth ret) (hw : kW G A s ws H locs) (q0 : Nat) {a n : Nat} {g : Nat → Int} {i x : Int} (ws2 : va_W) (ha : ws[q0]? = some (a, .inl (G.2 0, n, .inl (iF g)))) (hi : 0 ≤ i ∧ i < n ∧ i < 2147483648) (h2 : ws.set q0 (a, .inl (G.2 0, n, .inl (iF (zU g i.toNat x)))) = ws2) (hdg : decode cc pc = .ok (.iastore, 1))
    (kk : ∀ H1 locs1, kW G A s ws2 H1 locs1 → W p l e R s m args below meth c H1 locs1 cells slots Q (F0 m (pc + 1) ls rest)) : W p l e R s m args below meth c H locs cells slots Q (F0 m pc ls (.int (iI x) :: .int (iI i) :: .ref a :: rest)) := by
  subst h2
  exact va_iast (D := G.1) (cl := vwCl) (tys := kT G) hm.1 hm.2.1 hw.2.2.2.1.1 hw.1 hw.2.1 hw.2.2.1 q0 0 ha rfl (iI_in hi) hdg (fun H1 l1 hP hD hS => kk H1 l1 ⟨by rw [iI_clamp hi.1 hi.2.2, iF_upd] at hP; exact hP, by rw [iI_clamp hi.1 hi.2.2, iF_upd] at hD; exact hD, hS, hw.2.2.2.1, hw.2.2.2.2⟩)
theorem k_ialdN (hm : kM p m c cc nL s args Ts own meth ret) (hw : kW G A s ws H locs) (q0 : Nat) {a n : Nat} {f : Nat → Nat} {i : Nat} (ha : ws[q0]? = some (a, .inl (G.2 0, n, .inl (nF f)))) (hi : i < n ∧ i < 2147483648) (hdg : decode cc pc = .ok (.iaload, 1)) (kk : W p l e R s m args below meth c H locs cells slots Q (F0 m (pc + 1) ls (.int (iI (f i : Int)) :: rest))) : W p l e R s m args below meth c H locs cells slots Q (F0 m pc ls (.int (iI (i : Int)) :: .ref a :: rest)) :=
  k_iald (g := fun n => (f n : Int)) hm hw q0 ha (by omega) hdg kk
theorem k_iastN (hm : kM p m c cc nL s args Ts own meth ret) (hw : kW G A s ws H locs) (q0 : Nat) {a n : Nat} {f : Nat → Nat} {i x : Nat} (ws2 : va_W) (ha : ws[q0]? = some (a, .inl (G.2 0, n, .inl (nF f)))) (hi : i < n ∧ i < 2147483648) (h2 : ws.set q0 (a, .inl (G.2 0, n, .inl (nF (nU f i x)))) = ws2) (hdg : decode cc pc = .ok (.iastore, 1))
    (kk : ∀ H1 locs1, kW G A s ws2 H1 locs1 → W p l e R s m args below meth c H1 locs1 cells slots Q (F0 m (pc + 1) ls rest)) : W p l e R s m args below meth c H locs cells slots Q (F0 m pc ls (.int (iI (x : Int)) :: .int (iI (i : Int)) :: .ref a :: rest)) :=
  k_iast (g := fun n => (f n : Int)) hm hw q0 ws2 ha (by omega) (by rw [← h2, nF_upd]; rfl) hdg kk
theorem k_lald (hm : kM p m c cc nL s args Ts own meth ret) (hw : kW G A s ws H locs) (q0 : Nat) {a n : Nat} {f : Nat → Int64} {i : Nat} (ha : ws[q0]? = some (a, .inl (G.2 1, n, .inr (.inl f)))) (hi : i < n ∧ i < 2147483648) (hdg : decode cc pc = .ok (.laload, 1)) (kk : W p l e R s m args below meth c H locs cells slots Q (F0 m (pc + 1) ls (.long (f i) :: rest))) : W p l e R s m args below meth c H locs cells slots Q (F0 m pc ls (.int (iI (i : Int)) :: .ref a :: rest)) :=
  va_lald (D := G.1) (cl := vwCl) (tys := kT G) hm.1 hm.2.1 hw.2.2.2.1.1 hw.1 q0 1 ha rfl (iI_in (by omega)) hdg (by rw [iI_clamp (by omega) (by omega)]; exact kk)
theorem k_last (hm : kM p m c cc nL s args Ts own meth ret) (hw : kW G A s ws H locs) (q0 : Nat) {a n : Nat} {f : Nat → Int64} {i : Nat} {x : Int64} (ws2 : va_W) (ha : ws[q0]? = some (a, .inl (G.2 1, n, .inr (.inl f)))) (hi : i < n ∧ i < 2147483648) (h2 : ws.set q0 (a, .inl (G.2 1, n, .inr (.inl (vp_updL f i x)))) = ws2) (hdg : decode cc pc = .ok (.lastore, 1))
    (kk : ∀ H1 locs1, kW G A s ws2 H1 locs1 → W p l e R s m args below meth c H1 locs1 cells slots Q (F0 m (pc + 1) ls rest)) : W p l e R s m args below meth c H locs cells slots Q (F0 m pc ls (.long x :: .int (iI (i : Int)) :: .ref a :: rest)) := by
  subst h2
  exact va_last (D := G.1) (cl := vwCl) (tys := kT G) hm.1 hm.2.1 hw.2.2.2.1.1 hw.1 hw.2.1 hw.2.2.1 q0 1 ha rfl (iI_in (by omega)) hdg (fun H1 l1 hP hD hS => kk H1 l1 ⟨by rw [iI_clamp (by omega) (by omega)] at hP; exact hP, by rw [iI_clamp (by omega) (by omega)] at hD; exact hD, hS, hw.2.2.2.1, hw.2.2.2.2⟩)
theorem k_alen (hm : kM p m c cc nL s args Ts own meth ret) (hw : kW G A s ws H locs) (q0 t0 : Nat) {a : Nat} {cA : ClassId} {x : vp_A} {ty : FieldType} (ha : ws[q0]? = some (a, .inl (cA, x))) (ht : (kT G)[t0]? = some (cA, ty)) (hdg : decode cc pc = .ok (.arraylength, 1)) (kk : W p l e R s m args below meth c H locs cells slots Q (F0 m (pc + 1) ls (.int (iI (x.1 : Int)) :: rest))) : W p l e R s m args below meth c H locs cells slots Q (F0 m pc ls (.ref a :: rest)) :=
  va_alen (D := G.1) (cl := vwCl) (tys := kT G) hm.1 hm.2.1 hw.2.2.2.1.1 hw.1 q0 t0 ha ht (iI_nI _) hdg kk
theorem k_aldq (hm : kM p m c cc nL s args Ts own meth ret) (hw : kW G A s ws H locs) (q0 : Nat) {a n : Nat} {f : Nat → Option Nat} {i : Int} (ha : ws[q0]? = some (a, .inl (G.2 2, n, .inr (.inr (.inr (.inr f)))))) (hi : 0 ≤ i ∧ i < n ∧ i < 2147483648) (hdg : decode cc pc = .ok (.aaload, 1)) (kk : W p l e R s m args below meth c H locs cells slots Q (F0 m (pc + 1) ls (va_rf (f i.toNat) :: rest))) : W p l e R s m args below meth c H locs cells slots Q (F0 m pc ls (.int (iI i) :: .ref a :: rest)) :=
  va_aldq (D := G.1) (cl := vwCl) (tys := kT G) hm.1 hm.2.1 hw.2.2.2.1.1 hw.1 q0 2 ha rfl (iI_in hi) hdg (by rw [iI_clamp hi.1 hi.2.2]; exact kk)
end KR
/-! contracts: start, end, calls -/
theorem kPre_blind {G : kG} {wp : va_W} {sz : Nat} {av : List Value} : FrameBlind (va_Pc av (kPre G wp sz)) := fun a U g mk q => by
  obtain ⟨q0, q1, qP, qK, qD⟩ := q
  exact ⟨q0, q1, qP, ⟨va_K.moved (u := U) (U := U.calling g mk a) (Vm.Alike.refl U.vm) qK.1, kNest.same (u := U) (U := U.calling g mk a) rfl qK.2⟩, qD⟩
theorem kCM.of {l : Launch} {y : MethodName} {ws ws' : List Cond} {fr lo mc ms : Nat} {G : kG} {av : List Value} {wp : va_W} {post : Option Value → va_W → Prop} {cc : ByteArray} {maxL : Nat} {ret : Option FieldType} (hy : plainName y.cls = true) (hwd : ws = Cond.code y cc maxL ret :: ws') (hlen : (lg_sl av).length ≤ maxL)
    (body : ∀ (p : Program) (e : Env) (s : State) (m : MethodId) (args : Array Value) (below : List Frame) (meth : Method) (c : Code) (A : Nat → Prop) (ls : Array Slot) (Q : State → Prop), Q = kZ below G A post args s mc ms → meth.name = y.name → kM p m c cc maxL s args ws y.cls meth ret → kW G A s wp s.heap [] → lv_has ls maxL (lv_args 0 av) →
      W p l e { frames := fr, cells := mc, slots := ms, locals := lo } s m args below meth c s.heap [] 0 0 Q (F0 m 0 ls [])) : kCM l y ws fr lo mc ms G av wp post := by
  intro sz
  refine Met.ofW (cc := cc) (maxL := maxL) (ret := ret) hy hwd ?_
  intro p e s m args below meth c s₁ B hml hv
  obtain ⟨rfl, hsz, hP, hK, hD0⟩ := hv
  have hin : meth.name = y.name := (name_of_methodNamed B.named B.method).1
  subst hsz
  have hl := lv_entry av (n := maxL) hlen
  rw [lg_entry_eq]
  exact body p e s m _ below meth c _ _ _ rfl hin ⟨B.exec, B.bytes, hml, findClass_of_methodNamed B.named, atoms_spec (ws := ws) B.pre, B.returns, B.notSynchronized⟩ ⟨hP, hD0.self, va_S.rf, hK, fun q h => Or.inr h⟩ hl
section KC
variable {p : Program} {l : Launch} {e : Env} {R : Room} {s : State} {m : MethodId} {args : Array Value} {below : List Frame} {meth : Method} {c : Code} {H : Heap} {locs : List Loc} {cells slots : Nat} {Q : State → Prop}
variable {cc : ByteArray} {pc nL : Nat} {ls : Array Slot} {rest st : List Value} {Ts : List Cond} {own : String} {ret : Option FieldType} {G : kG} {A : Nat → Prop} {ws wq : va_W} {ll : List (Nat × Value)} {post : Option Value → va_W → Prop} {mc ms : Nat}
theorem kW.end_ (hw : kW G A s wq H locs) {v : Option Value} (hp : post v wq) : ∀ t : State, t.heap = H → s.WarmedH t.vm → kPost G A post args s (.returned v) t :=
  fun t ht hW => ⟨⟨v, wq, rfl, hp, by rw [ht]; exact hw.1, hw.2.2.2.1.warm hW, hw.2.1⟩, hw.2.2.1.F ht⟩
theorem k_iret (hm : kM p m c cc nL s args Ts own meth ret) (hQ : Q = kZ below G A post args s mc ms) {ty : FieldType} {v : Int32} (hr : ret = some ty) (hn : narrow ty (.int v) = .int v) (hw : kW G A s wq H locs) (hp : post (some (.int v)) wq) (h1 : cells ≤ mc) (h2 : slots ≤ ms) (hdg : decode cc pc = .ok (.ireturn, 1)) : W p l e R s m args below meth c H locs cells slots Q (F0 m pc ls [.int v]) := by
  rw [hQ]; exact W.widen h1 h2 (W.zret hm.1 hm.2.1 (hm.2.2.2.2.2.1.trans hr) hn (hw.end_ hp) hw.2.2.1.2.2 hdg hm.2.2.2.2.2.2)
theorem k_lret (hm : kM p m c cc nL s args Ts own meth ret) (hQ : Q = kZ below G A post args s mc ms) {v : Int64} (hr : ret = some .long) (hw : kW G A s wq H locs) (hp : post (some (.long v)) wq) (h1 : cells ≤ mc) (h2 : slots ≤ ms) (hdg : decode cc pc = .ok (.lreturn, 1)) : W p l e R s m args below meth c H locs cells slots Q (F0 m pc ls [.long v]) := by
  rw [hQ]; exact W.widen h1 h2 (W.lret hm.1 hm.2.1 (hm.2.2.2.2.2.1.trans hr) (hw.end_ hp) hw.2.2.1.2.2 hdg hm.2.2.2.2.2.2)
theorem k_vret (hm : kM p m c cc nL s args Ts own meth ret) (hQ : Q = kZ below G A post args s mc ms) (hr : ret = none) (hw : kW G A s wq H locs) (hp : post none wq) (h1 : cells ≤ mc) (h2 : slots ≤ ms) (hdg : decode cc pc = .ok (.return_, 1)) : W p l e R s m args below meth c H locs cells slots Q (F0 m pc ls []) := by
  rw [hQ]; exact W.widen h1 h2 (W.vret hm.1 hm.2.1 (hm.2.2.2.2.2.1.trans hr) (hw.end_ hp) hw.2.2.1.2.2 hdg hm.2.2.2.2.2.2)
theorem k_aret (hm : kM p m c cc nL s args Ts own meth ret) (hQ : Q = kZ below G A post args s mc ms) {rt : FieldType} {v : Value} (hr : ret = some rt) (hrt : (∃ n, rt = .object n) ∨ ∃ t, rt = .array t) (hv : v = .null ∨ ∃ a, v = .ref a) (hw : kW G A s wq H locs) (hp : post (some v) wq) (h1 : cells ≤ mc) (h2 : slots ≤ ms) (hdg : decode cc pc = .ok (.areturn, 1)) : W p l e R s m args below meth c H locs cells slots Q (F0 m pc ls [v]) := by
  rw [hQ]; exact W.widen h1 h2 (W.aret hm.1 hm.2.1 (hm.2.2.2.2.2.1.trans hr) hrt hv (hw.end_ hp) hw.2.2.1.2.2 hdg hm.2.2.2.2.2.2)
/-- behind any call: the rest of the world beside the callee's -/
theorem k_after {wp wr : va_W} {av : Array Value} {post1 : Option Value → va_W → Prop} {mc1 ms1 : Nat} (hw : kW G A s ws H locs) (isC isR : List Nat) (hC : isC.map (fun i => ws[i]?) = wp.map some) (hR : isR.map (fun i => ws[i]?) = wr.map some) (hn : va_nd isR = true) (hdis : ∀ i ∈ isR, i ∉ isC)
    (hr : va_Run p l e R s m args below meth c H locs cells slots mc1 ms1 (F0 m pc ls st) rest (kPost G (va_A wp H.size) post1 av) (va_A wp H.size))
    (kk : ∀ (v : Option Value) (w1 : va_W) (H1 : Heap) (locs1 : List Loc), post1 v w1 → kW G A s (wr ++ w1) H1 locs1 → W p l e R s m args below meth c H1 locs1 (cells + mc1) (slots + ms1) Q (F0 m (pc + 3) ls (v.toList ++ rest))) : W p l e R s m args below meth c H locs cells slots Q (F0 m pc ls st) := by
  obtain ⟨hP, hD, hS, hK, hA⟩ := hw
  have hF := va_free (wc := wp) hD hS hA isC hC
  intro T hT X
  obtain ⟨v, st₀, t, T', L, h0, X', hL, e1, e2, ⟨⟨v', w1, hv, hp, hP1, hK1, hD1⟩, hz, hk⟩, stp⟩ := hr T hT X
  cases hv
  rw [h0] at hz hk
  obtain ⟨hP2, hD2⟩ := va_join (wr := wr) (w1 := w1) hP hD isC isR hC hR hn hdis (fun q h1 h2 => by rw [hk q h1 h2]) hF hP1 hD1
  obtain ⟨t2, a1, b1⟩ := kk v w1 T'.heap (locs ++ L) hp ⟨by rw [e1]; exact hP2, hD2, ⟨Nat.le_trans hS.1 (by rw [e1]; exact hz), fun q h1 h2 => by rw [e1, hk q (Nat.lt_of_lt_of_le h1 hS.1) (fun z => h2 (hF q z))]; exact hS.2.1 q h1 h2, fun q hq => by
      rcases List.mem_append.mp hq with h | h
      · exact hS.2.2 q h
      · exact hF _ (hL q h)⟩, hK, hA⟩ T' rfl X'
  exact ⟨t2, stp t2 a1, b1⟩
/-- .. the same world again, where the callee changes nothing -/
theorem kW.back {wp w1 : va_W} {H1 : Heap} {t : State} (hw : kW G A s ws H locs) (isC : List Nat) (hC : isC.map (fun i => ws[i]?) = wp.map some) (hP1 : va_P G.1 vwCl wp H1) (hk : ∀ q : Nat, q < H.size → ¬ va_A wp H.size q → H1[q]? = H[q]?) : va_P G.1 vwCl ws H1 := by
  obtain ⟨hP, hD, -⟩ := hw
  intro k q hq
  by_cases h : va_A wp H.size q.1
  · rcases h with ⟨k2, e2, h2⟩ | h
    · have h3 : (isC.map (fun i => ws[i]?))[k2]? = some (some (q.1, e2)) := by rw [hC, List.getElem?_map, h2]; rfl
      rw [List.getElem?_map] at h3
      cases hi : isC[k2]? with
      | none => rw [hi] at h3; cases h3
      | some i =>
        rw [hi] at h3
        have h4 : ws[i]? = some (q.1, e2) := Option.some.inj h3
        have hik := hD.1 i k (q.1, e2) q h4 hq rfl
        subst hik
        have e5 : (q.1, e2) = q := Option.some.inj (h4.symm.trans hq)
        have h5 := hP1 k2 _ h2
        rw [e5] at h5
        exact h5
    · exact absurd (hP k q hq).lt (by omega)
  · exact (hP k q hq).kept (hk q.1 (hP k q hq).lt h)
theorem k_afterR {wp : va_W} {av : Array Value} {post1 : Option Value → Prop} (hw : kW G A s ws H locs) (isC : List Nat) (hC : isC.map (fun i => ws[i]?) = wp.map some)
    (hr : va_Run p l e R s m args below meth c H locs cells slots 0 0 (F0 m pc ls st) rest (kPost G (va_A wp H.size) (fun v wq => post1 v ∧ wq = wp) av) (va_A wp H.size))
    (kk : ∀ (v : Option Value) (H1 : Heap) (locs1 : List Loc), post1 v → kW G A s ws H1 locs1 → W p l e R s m args below meth c H1 locs1 cells slots Q (F0 m (pc + 3) ls (v.toList ++ rest))) : W p l e R s m args below meth c H locs cells slots Q (F0 m pc ls st) := by
  have hw0 := hw
  obtain ⟨hP, hD, hS, hK, hA⟩ := hw
  have hF := va_free (wc := wp) hD hS hA isC hC
  intro T hT X
  obtain ⟨v, st₀, t, T', L, h0, X', hL, e1, e2, ⟨⟨v', w1, hv, ⟨hp, rfl⟩, hP1, hK1, hD1⟩, hz, hk⟩, stp⟩ := hr T hT X
  cases hv
  rw [h0] at hz hk
  have hP2 := hw0.back (t := T) (w1 := w1) isC hC (by rw [← e1] at hP1; exact hP1) (fun q h1 h2 => by rw [e1, hk q h1 h2])
  obtain ⟨t2, a1, b1⟩ := kk v T'.heap (locs ++ L) hp ⟨hP2, hD, ⟨Nat.le_trans hS.1 (by rw [e1]; exact hz), fun q h1 h2 => by rw [e1, hk q (Nat.lt_of_lt_of_le h1 hS.1) (fun z => h2 (hF q z))]; exact hS.2.1 q h1 h2, fun q hq => by
      rcases List.mem_append.mp hq with h | h
      · exact hS.2.2 q h
      · exact hF _ (hL q h)⟩, hK, hA⟩ T' rfl X'
  exact ⟨t2, stp t2 a1, b1⟩
theorem kW.pre {wp : va_W} (hw : kW G A s ws H locs) (isC : List Nat) (hnC : va_nd isC = true) (hC : isC.map (fun i => ws[i]?) = wp.map some) (av : List Value) : ∀ U : State, U.heap = H → s.WarmedH U.vm → va_Pc av (kPre G wp H.size) av.toArray U := fun U hU hW =>
  ⟨rfl, by rw [hU], by rw [hU]; exact (hw.sub isC hnC hC).1, hw.2.2.2.1.warm hW, (hw.sub isC hnC hC).2.1.weaken (fun _ _ _ _ => trivial)⟩
theorem k_callV (hm : kM p m c cc nL s args Ts own meth ret) (hw : kW G A s ws H locs) (hl : lv_has ls nL ll) {y : MethodName} {wsC wsC' : List Cond} {fr lo mc1 ms1 maxL index n : Nat} {bytes : ByteArray} {retC : Option FieldType} {b : Nat} {As : List Value} {wp wr : va_W} {post1 : Option Value → va_W → Prop} {C : String} {ci : Nat} {T : u_T} {N : Nat} {fs : List Value} (hC : kCM l y wsC fr lo mc1 ms1 G (.ref b :: As) wp post1) (hT : GoodIn Ts (wsV own index C y wsC)) (hwd : wsC = Cond.code y bytes maxL retC :: wsC') (hd : y.cls = C ∧ y.cls ≠ "java/lang/invoke/MethodHandle" ∧ y.cls ≠ "java/lang/invoke/VarHandle" ∧ (parseMethodDescriptor y.desc).map (fun d => d.parameters.length) = some n) (hR : fr + 1 ≤ R.frames ∧ 8 + (maxL + 11) + lo ≤ R.locals)
    (hcl : vwCl[ci]? = some (C, T, N)) (q0 : Nat) (he : ws[q0]? = some (b, .inr (ci, fs))) (isC isR : List Nat) (hnC : va_nd isC = true) (hCe : isC.map (fun i => ws[i]?) = wp.map some) (hRe : isR.map (fun i => ws[i]?) = wr.map some) (hnR : va_nd isR = true) (hdis : ∀ i ∈ isR, i ∉ isC) (hn : As.length = n) (hst : st = As.reverse ++ .ref b :: rest) (hcat : (rest.map fun v => v.category).sum ≤ 8) (hf : cells + mc1 ≤ R.cells ∧ slots + ms1 ≤ R.slots) (hdg : decode cc pc = .ok (.invokevirtual index, 3))
    (kk : ∀ (v : Option Value) (w1 : va_W) (H1 : Heap) (locs1 : List Loc), post1 v w1 → kW G A s (wr ++ w1) H1 locs1 → W p l e R s m args below meth c H1 locs1 (cells + mc1) (slots + ms1) Q (F0 m (pc + 3) ls (v.toList ++ rest))) : W p l e R s m args below meth c H locs cells slots Q (F0 m pc ls st) :=
  k_after hw isC isR hCe hRe hnR hdis (va_runV (As := As) (b := b) (rest := rest) ⟨hm.1, hm.2.1, hm.2.2.1, hm.2.2.2.1, hm.2.2.2.2.1⟩ (hC H.size) (cwV n hm.2.2.2.2.1 hT hwd rfl rfl hd hR) ⟨kPre_blind, va_recv hw.2.2.2.1.1 hw.1 hcl he, hw.pre isC hnC hCe _⟩ rfl hn hl.1 hst (lv_room hcat) hdg hf) kk
theorem k_callVr (hm : kM p m c cc nL s args Ts own meth ret) (hw : kW G A s ws H locs) (hl : lv_has ls nL ll) {y : MethodName} {wsC wsC' : List Cond} {fr lo maxL index n : Nat} {bytes : ByteArray} {retC : Option FieldType} {b : Nat} {As : List Value} {wp : va_W} {post1 : Option Value → Prop} {C : String} {ci : Nat} {T : u_T} {N : Nat} {fs : List Value} (hC : kCR l y wsC fr lo G (.ref b :: As) wp post1) (hT : GoodIn Ts (wsV own index C y wsC)) (hwd : wsC = Cond.code y bytes maxL retC :: wsC') (hd : y.cls = C ∧ y.cls ≠ "java/lang/invoke/MethodHandle" ∧ y.cls ≠ "java/lang/invoke/VarHandle" ∧ (parseMethodDescriptor y.desc).map (fun d => d.parameters.length) = some n) (hR : fr + 1 ≤ R.frames ∧ 8 + (maxL + 11) + lo ≤ R.locals)
    (hcl : vwCl[ci]? = some (C, T, N)) (q0 : Nat) (he : ws[q0]? = some (b, .inr (ci, fs))) (isC : List Nat) (hnC : va_nd isC = true) (hCe : isC.map (fun i => ws[i]?) = wp.map some) (hn : As.length = n) (hst : st = As.reverse ++ .ref b :: rest) (hcat : (rest.map fun v => v.category).sum ≤ 8) (hf : cells ≤ R.cells ∧ slots ≤ R.slots) (hdg : decode cc pc = .ok (.invokevirtual index, 3))
    (kk : ∀ (v : Option Value) (H1 : Heap) (locs1 : List Loc), post1 v → kW G A s ws H1 locs1 → W p l e R s m args below meth c H1 locs1 cells slots Q (F0 m (pc + 3) ls (v.toList ++ rest))) : W p l e R s m args below meth c H locs cells slots Q (F0 m pc ls st) :=
  k_afterR hw isC hCe (va_runV (As := As) (b := b) (rest := rest) ⟨hm.1, hm.2.1, hm.2.2.1, hm.2.2.2.1, hm.2.2.2.2.1⟩ (hC H.size) (cwV n hm.2.2.2.2.1 hT hwd rfl rfl hd hR) ⟨kPre_blind, va_recv hw.2.2.2.1.1 hw.1 hcl he, hw.pre isC hnC hCe _⟩ rfl hn hl.1 hst (lv_room hcat) hdg hf) kk
/-- a static method of the same class -/
theorem k_callS (hm : kM p m c cc nL s args Ts own meth ret) (hw : kW G A s ws H locs) (hl : lv_has ls nL ll) {y : MethodName} {wsC wsC' : List Cond} {fr lo mc1 ms1 maxL index n : Nat} {bytes : ByteArray} {retC : Option FieldType} {As : List Value} {wp wr : va_W} {post1 : Option Value → va_W → Prop} (hC : kCM l y wsC fr lo mc1 ms1 G As wp post1) (hT : GoodIn Ts (va_wsS own index y wsC)) (hwd : wsC = Cond.code y bytes maxL retC :: wsC') (hd : y.cls ≠ "java/lang/invoke/MethodHandle" ∧ y.cls ≠ "java/lang/invoke/VarHandle" ∧ (parseMethodDescriptor y.desc).map (fun d => d.parameters.length) = some n) (hR : fr + 1 ≤ R.frames ∧ 8 + (maxL + 11) + lo ≤ R.locals)
    (isC isR : List Nat) (hnC : va_nd isC = true) (hCe : isC.map (fun i => ws[i]?) = wp.map some) (hRe : isR.map (fun i => ws[i]?) = wr.map some) (hnR : va_nd isR = true) (hdis : ∀ i ∈ isR, i ∉ isC) (hn : As.length = n) (hst : st = As.reverse ++ rest) (hcat : (rest.map fun v => v.category).sum ≤ 8) (hf : cells + mc1 ≤ R.cells ∧ slots + ms1 ≤ R.slots) (hdg : decode cc pc = .ok (.invokestatic index, 3))
    (kk : ∀ (v : Option Value) (w1 : va_W) (H1 : Heap) (locs1 : List Loc), post1 v w1 → kW G A s (wr ++ w1) H1 locs1 → W p l e R s m args below meth c H1 locs1 (cells + mc1) (slots + ms1) Q (F0 m (pc + 3) ls (v.toList ++ rest))) : W p l e R s m args below meth c H locs cells slots Q (F0 m pc ls st) :=
  k_after hw isC isR hCe hRe hnR hdis (va_runS (As := As) (rest := rest) ⟨hm.1, hm.2.1, hm.2.2.1, hm.2.2.2.1, hm.2.2.2.2.1⟩ (hC H.size) (va_cwS n hm.2.2.2.2.1 hT hwd rfl rfl hd hR) ⟨kPre_blind, hw.pre isC hnC hCe _⟩ rfl hn hl.1 hst (lv_room hcat) hdg hf) kk
theorem k_callSr (hm : kM p m c cc nL s args Ts own meth ret) (hw : kW G A s ws H locs) (hl : lv_has ls nL ll) {y : MethodName} {wsC wsC' : List Cond} {fr lo maxL index n : Nat} {bytes : ByteArray} {retC : Option FieldType} {As : List Value} {wp : va_W} {post1 : Option Value → Prop} (hC : kCR l y wsC fr lo G As wp post1) (hT : GoodIn Ts (va_wsS own index y wsC)) (hwd : wsC = Cond.code y bytes maxL retC :: wsC') (hd : y.cls ≠ "java/lang/invoke/MethodHandle" ∧ y.cls ≠ "java/lang/invoke/VarHandle" ∧ (parseMethodDescriptor y.desc).map (fun d => d.parameters.length) = some n) (hR : fr + 1 ≤ R.frames ∧ 8 + (maxL + 11) + lo ≤ R.locals)
    (isC : List Nat) (hnC : va_nd isC = true) (hCe : isC.map (fun i => ws[i]?) = wp.map some) (hn : As.length = n) (hst : st = As.reverse ++ rest) (hcat : (rest.map fun v => v.category).sum ≤ 8) (hf : cells ≤ R.cells ∧ slots ≤ R.slots) (hdg : decode cc pc = .ok (.invokestatic index, 3))
    (kk : ∀ (v : Option Value) (H1 : Heap) (locs1 : List Loc), post1 v → kW G A s ws H1 locs1 → W p l e R s m args below meth c H1 locs1 cells slots Q (F0 m (pc + 3) ls (v.toList ++ rest))) : W p l e R s m args below meth c H locs cells slots Q (F0 m pc ls st) :=
  k_afterR hw isC hCe (va_runS (As := As) (rest := rest) ⟨hm.1, hm.2.1, hm.2.2.1, hm.2.2.2.1, hm.2.2.2.2.1⟩ (hC H.size) (va_cwS n hm.2.2.2.2.1 hT hwd rfl rfl hd hR) ⟨kPre_blind, hw.pre isC hnC hCe _⟩ rfl hn hl.1 hst (lv_room hcat) hdg hf) kk
/-- a private static method of the nest's host -/
theorem k_callSNr (hm : kM p m c cc nL s args Ts own meth ret) (hw : kW G A s ws H locs) (hl : lv_has ls nL ll) {y : MethodName} {wsC wsC' : List Cond} {fr lo maxL index n : Nat} {host : String} {bytes : ByteArray} {retC : Option FieldType} {As : List Value} {wp : va_W} {post1 : Option Value → Prop} (hC : kCR l y wsC fr lo G As wp post1) (hT : GoodIn Ts wsC) (hsta : Cond.static y ∈ Ts) (hini : Cond.initialized y.cls ∈ Ts) (kn : Nat) (hkn : kNestL[kn]? = some (own, index, y, host)) (hwd : wsC = Cond.code y bytes maxL retC :: wsC') (hd : y.cls ≠ "java/lang/invoke/MethodHandle" ∧ y.cls ≠ "java/lang/invoke/VarHandle" ∧ (parseMethodDescriptor y.desc).map (fun d => d.parameters.length) = some n) (hR : fr + 1 ≤ R.frames ∧ 8 + (maxL + 11) + lo ≤ R.locals)
    (isC : List Nat) (hnC : va_nd isC = true) (hCe : isC.map (fun i => ws[i]?) = wp.map some) (hn : As.length = n) (hst : st = As.reverse ++ rest) (hcat : (rest.map fun v => v.category).sum ≤ 8) (hf : cells ≤ R.cells ∧ slots ≤ R.slots) (hdg : decode cc pc = .ok (.invokestatic index, 3))
    (kk : ∀ (v : Option Value) (H1 : Heap) (locs1 : List Loc), post1 v → kW G A s ws H1 locs1 → W p l e R s m args below meth c H1 locs1 cells slots Q (F0 m (pc + 3) ls (v.toList ++ rest))) : W p l e R s m args below meth c H locs cells slots Q (F0 m pc ls st) :=
  k_afterR hw isC hCe (va_runSN (As := As) (rest := rest) (host := host) ⟨hm.1, hm.2.1, hm.2.2.1, hm.2.2.2.1, hm.2.2.2.2.1⟩ (hC H.size) ⟨va_cnB n hm.2.2.2.2.1 hT hwd rfl rfl (hw.2.2.2.1.2.1 _ (List.mem_of_getElem? hkn)) (hm.2.2.2.2.1 _ hini) hd hR, hm.2.2.2.2.1 _ hsta, trivial⟩ ⟨kPre_blind, hw.pre isC hnC hCe _⟩ rfl hn hl.1 hst (lv_room hcat) hdg hf) kk
end KC
section KX
variable {p : Program} {l : Launch} {e : Env} {R : Room} {s : State} {m : MethodId} {args : Array Value} {below : List Frame} {meth : Method} {c : Code} {H : Heap} {locs : List Loc} {cells slots : Nat} {Q : State → Prop}
variable {cc : ByteArray} {pc nL : Nat} {ls : Array Slot} {rest : List Value} {Ts : List Cond} {own : String} {ret : Option FieldType} {G : kG} {A : Nat → Prop} {ws : va_W} {ll : List (Nat × Value)}
theorem k_tsw (hm : kM p m c cc nL s args Ts own meth ret) {dflt lo hi : Int} {offs : Array Int} {len x tgt : Nat} {off : Int} (hdg : decode cc pc = .ok (.tableswitch dflt lo hi offs, len)) (hx : x < 2147483648) (h1 : ¬ (x : Int) < lo) (h2 : ¬ hi < (x : Int)) (ho : offs[((x : Int) - lo).toNat]? = some off) (ht : (pc : Int) + off = (tgt : Int)) (k : W p l e R s m args below meth c H locs cells slots Q (F0 m tgt ls rest)) : W p l e R s m args below meth c H locs cells slots Q (F0 m pc ls (.int (iI (x : Int)) :: rest)) := by
  have q : (iI (x : Int)).toInt = x := iI_toInt (by omega) (by omega)
  exact lv_tableIn hm.1 hm.2.1 hdg (by rw [q]; exact h1) (by rw [q]; exact h2) (by rw [q]; exact ho) ht k
theorem k_tsd (hm : kM p m c cc nL s args Ts own meth ret) {dflt lo hi : Int} {offs : Array Int} {len x tgt : Nat} (hdg : decode cc pc = .ok (.tableswitch dflt lo hi offs, len)) (hx : x < 2147483648) (h : (x : Int) < lo ∨ hi < (x : Int)) (ht : (pc : Int) + dflt = (tgt : Int)) (k : W p l e R s m args below meth c H locs cells slots Q (F0 m tgt ls rest)) : W p l e R s m args below meth c H locs cells slots Q (F0 m pc ls (.int (iI (x : Int)) :: rest)) := by
  have q : (iI (x : Int)).toInt = x := iI_toInt (by omega) (by omega)
  exact lv_tableOut hm.1 hm.2.1 hdg (by rw [q]; exact h) ht k
theorem k_mmax (hm : kM p m c cc nL s args Ts own meth ret) (hl : lv_has ls nL ll) {index : Nat} (h1 : Cond.methodLink own index Lib.Math.max.name ∈ Ts) (h2 : Cond.static Lib.Math.max.name ∈ Ts) (h3 : Cond.initialized "java/lang/Math" ∈ Ts) (h4 : Cond.code Lib.Math.max.name Lib.Math.max.code 2 (some .int) ∈ Ts) (h5 : 1 ≤ R.frames) (h6 : (rest.map fun v => v.category).sum + 13 ≤ R.locals) (h7 : cells ≤ R.cells) (h8 : slots ≤ R.slots) {x y : Int} (h : (-2147483648 ≤ x ∧ x < 2147483648) ∧ -2147483648 ≤ y ∧ y < 2147483648) (hdg : decode cc pc = .ok (.invokestatic index, 3)) (k : W p l e R s m args below meth c H locs cells slots Q (F0 m (pc + 3) ls (.int (iI (if x < y then y else x)) :: rest))) : W p l e R s m args below meth c H locs cells slots Q (F0 m pc ls (.int (iI y) :: .int (iI x) :: rest)) := by
  refine va_mmax hm.1 hm.2.1 (hm.2.2.1.trans hl.1.symm) hm.2.2.2.1 (hm.2.2.2.2.1 _ h1) (hm.2.2.2.2.1 _ h2) (hm.2.2.2.2.1 _ h3) (hm.2.2.2.2.1 _ h4) h5 h6 h7 h8 hdg ?_
  have q : (if iI x < iI y then iI y else iI x) = iI (if x < y then y else x) := by
    by_cases hc : x < y
    · rw [if_pos hc, if_pos ((iI_lt h).mpr hc)]
    · rw [if_neg hc, if_neg (fun z => hc ((iI_lt h).mp z))]
  rw [q]; exact k
theorem k_mmin (hm : kM p m c cc nL s args Ts own meth ret) (hl : lv_has ls nL ll) {index : Nat} (h1 : Cond.methodLink own index Lib.Math.min.name ∈ Ts) (h2 : Cond.static Lib.Math.min.name ∈ Ts) (h3 : Cond.initialized "java/lang/Math" ∈ Ts) (h4 : Cond.code Lib.Math.min.name Lib.Math.min.code 2 (some .int) ∈ Ts) (h5 : 1 ≤ R.frames) (h6 : (rest.map fun v => v.category).sum + 13 ≤ R.locals) (h7 : cells ≤ R.cells) (h8 : slots ≤ R.slots) {x y : Int} (h : (-2147483648 ≤ x ∧ x < 2147483648) ∧ -2147483648 ≤ y ∧ y < 2147483648) (hdg : decode cc pc = .ok (.invokestatic index, 3)) (k : W p l e R s m args below meth c H locs cells slots Q (F0 m (pc + 3) ls (.int (iI (if x ≤ y then x else y)) :: rest))) : W p l e R s m args below meth c H locs cells slots Q (F0 m pc ls (.int (iI y) :: .int (iI x) :: rest)) := by
  refine va_mmin hm.1 hm.2.1 (hm.2.2.1.trans hl.1.symm) hm.2.2.2.1 (hm.2.2.2.2.1 _ h1) (hm.2.2.2.2.1 _ h2) (hm.2.2.2.2.1 _ h3) (hm.2.2.2.2.1 _ h4) h5 h6 h7 h8 hdg ?_
  first
  | (have q : (if iI x ≤ iI y then iI x else iI y) = iI (if x ≤ y then x else y) := by
      by_cases hc : x ≤ y
      · rw [if_pos hc, if_pos ((iI_le h).mpr hc)]
      · rw [if_neg hc, if_neg (fun z => hc ((iI_le h).mp z))]
     rw [q]; exact k)
  | (have q : (if iI y < iI x then iI y else iI x) = iI (if x ≤ y then x else y) := by
      by_cases hc : x ≤ y
      · rw [if_pos hc, if_neg (fun z => absurd ((iI_lt ⟨h.2, h.1⟩).mp z) (by omega))]
      · rw [if_neg hc, if_pos ((iI_lt ⟨h.2, h.1⟩).mpr (by omega))]
     rw [q]; exact k)
theorem k_mmaxN (hm : kM p m c cc nL s args Ts own meth ret) (hl : lv_has ls nL ll) {index : Nat} (h1 : Cond.methodLink own index Lib.Math.max.name ∈ Ts) (h2 : Cond.static Lib.Math.max.name ∈ Ts) (h3 : Cond.initialized "java/lang/Math" ∈ Ts) (h4 : Cond.code Lib.Math.max.name Lib.Math.max.code 2 (some .int) ∈ Ts) (h5 : 1 ≤ R.frames) (h6 : (rest.map fun v => v.category).sum + 13 ≤ R.locals) (h7 : cells ≤ R.cells) (h8 : slots ≤ R.slots) {x y : Nat} (h : x < 2147483648 ∧ y < 2147483648) (hdg : decode cc pc = .ok (.invokestatic index, 3)) (k : W p l e R s m args below meth c H locs cells slots Q (F0 m (pc + 3) ls (.int (iI ((Nat.max x y : Nat) : Int)) :: rest))) : W p l e R s m args below meth c H locs cells slots Q (F0 m pc ls (.int (iI (y : Int)) :: .int (iI (x : Int)) :: rest)) := by
  refine k_mmax hm hl h1 h2 h3 h4 h5 h6 h7 h8 (by omega) hdg ?_
  have q : (if (x : Int) < y then (y : Int) else x) = ((Nat.max x y : Nat) : Int) := by
    have : Nat.max x y = max x y := rfl
    rw [this]; split <;> omega
  rw [q]; exact k
theorem k_mminN (hm : kM p m c cc nL s args Ts own meth ret) (hl : lv_has ls nL ll) {index : Nat} (h1 : Cond.methodLink own index Lib.Math.min.name ∈ Ts) (h2 : Cond.static Lib.Math.min.name ∈ Ts) (h3 : Cond.initialized "java/lang/Math" ∈ Ts) (h4 : Cond.code Lib.Math.min.name Lib.Math.min.code 2 (some .int) ∈ Ts) (h5 : 1 ≤ R.frames) (h6 : (rest.map fun v => v.category).sum + 13 ≤ R.locals) (h7 : cells ≤ R.cells) (h8 : slots ≤ R.slots) {x y : Nat} (h : x < 2147483648 ∧ y < 2147483648) (hdg : decode cc pc = .ok (.invokestatic index, 3)) (k : W p l e R s m args below meth c H locs cells slots Q (F0 m (pc + 3) ls (.int (iI ((Nat.min x y : Nat) : Int)) :: rest))) : W p l e R s m args below meth c H locs cells slots Q (F0 m pc ls (.int (iI (y : Int)) :: .int (iI (x : Int)) :: rest)) := by
  refine k_mmin hm hl h1 h2 h3 h4 h5 h6 h7 h8 (by omega) hdg ?_
  have q : (if (x : Int) ≤ y then (x : Int) else y) = ((Nat.min x y : Nat) : Int) := by
    have : Nat.min x y = min x y := rfl
    rw [this]; split <;> omega
  rw [q]; exact k
theorem k_i2lN (hm : kM p m c cc nL s args Ts own meth ret) {x : Int} (hdg : decode cc pc = .ok (.i2l, 1)) (h : -2147483648 ≤ x ∧ x < 2147483648) (k : W p l e R s m args below meth c H locs cells slots Q (F0 m (pc + 1) ls (.long (lI x) :: rest))) : W p l e R s m args below meth c H locs cells slots Q (F0 m pc ls (.int (iI x) :: rest)) := k_i2l hm hdg h k
theorem k_idecN (hm : kM p m c cc nL s args Ts own meth ret) (hl : lv_has ls nL ll) (k : Nat) {i x : Nat} (n : Nat) (h : n ≤ x) (hk : ll[k]? = some (i, .int (iI (x : Int)))) (l2 : List (Nat × Value)) (hn : i < nL) (h2 : (i, Value.int (iI ((x - n : Nat) : Int))) :: ll.filter (fun q => !(q.1 == i) && !(q.1 + 1 == i && q.2.category == 2)) = l2) (hdg : decode cc pc = .ok (.iinc i (-(n : Int)), 3)) (kk : ∀ ls', lv_has ls' nL l2 → W p l e R s m args below meth c H locs cells slots Q (F0 m (pc + 3) ls' rest)) : W p l e R s m args below meth c H locs cells slots Q (F0 m pc ls rest) := k_iinc hm hl k hk l2 hn (by rw [show (x : Int) + -(n : Int) = ((x - n : Nat) : Int) by omega]; exact h2) hdg kk
end KX
