section KROWR
variable {p : Program} {l : Launch} {e : Env} {R : Room} {s : State} {m : MethodId} {args : Array Value} {below : List Frame} {meth : Method} {c : Code} {H : Heap} {locs : List Loc} {cells slots : Nat} {Q : State → Prop}
variable {cc : ByteArray} {pc nL : Nat} {ls : Array Slot} {rest st : List Value} {Ts : List Cond} {own : String} {ret : Option FieldType} {G : kG} {A : Nat → Prop} {ws wq : va_W} {ll : List (Nat × Value)} {post : Option Value → va_W → Prop} {mc ms : Nat}
theorem k_objI (hm : kM p m c cc nL s args Ts own meth ret) (hl : lv_has ls nL ll) {index a : Nat} (h1 : Cond.methodLink own index Lib.objectInit ∈ Ts) (h2 : Cond.instanceMethod Lib.objectInit ∈ Ts) (h3 : Cond.code Lib.objectInit ⟨#[0xb1]⟩ 1 none ∈ Ts) (h5 : 1 ≤ R.frames) (h6 : (rest.map fun v => v.category).sum + 12 ≤ R.locals) (hdg : decode cc pc = .ok (.invokespecial index, 3)) (kk : W p l e R s m args below meth c H locs cells slots Q (F0 m (pc + 3) ls rest)) : W p l e R s m args below meth c H locs cells slots Q (F0 m pc ls (.ref a :: rest)) :=
  W.objInit hm.1 hm.2.1 hm.2.2.2.1 (hm.2.2.2.2.1 _ h1) (hm.2.2.2.2.1 _ h2) (hm.2.2.2.2.1 _ h3) rfl (by rw [hm.2.2.1]; exact hl.1) rfl hdg h5 (by show 2 * 0 + _ + 12 ≤ _; omega) kk
theorem k_new (hm : kM p m c cc nL s args Ts own meth ret) (hw : kW G A s ws H locs) {ci index N : Nat} {C : String} {T : u_T} {fs : List Value} (hin : ∀ w ∈ u_ws C T N, w ∈ Ts) (ty : Nat → FieldType) (hty : ∀ k, k < N → parseFieldDescriptor (T k).2.2.1 = some (ty k)) (h1 : Cond.classLink own index C ∈ Ts) (h2 : Cond.instantiable C N ∈ Ts) (h3 : Cond.initialized C ∈ Ts) (hc : vwCl[ci]? = some (C, T, N)) (hfs : ∀ j, j < N → defaultValue (ty j) = vp_V fs j) (h4 : cells + 1 ≤ R.cells) (h5 : slots + N ≤ R.slots) (hdg : decode cc pc = .ok (.new index, 3))
    (kk : ∀ (q : Nat) (H1 : Heap), kW G A s (ws ++ [(q, .inr (ci, fs))]) H1 locs → W p l e R s m args below meth c H1 locs (cells + 1) (slots + N) Q (F0 m (pc + 3) ls (.ref q :: rest))) : W p l e R s m args below meth c H locs cells slots Q (F0 m pc ls rest) :=
  va_new (D := G.1) (cl := vwCl) (tys := kT G) hm.1 hm.2.1 hm.2.2.2.2.1 hin ty hty hm.2.2.2.1 (hm.2.2.2.2.1 _ h1) (hm.2.2.2.2.1 _ h2) (hm.2.2.2.2.1 _ h3) hw.2.2.2.1.1 hw.1 hw.2.1 hw.2.2.1 hw.2.2.2.2 hc hfs h4 h5 hdg (fun q H1 hP hD hS => kk q H1 ⟨hP, hD, hS, hw.2.2.2.1, hw.2.2.2.2⟩)
theorem k_newI (hm : kM p m c cc nL s args Ts own meth ret) (hw : kW G A s ws H locs) {n : Nat} (h1 : Cond.arrayClass .int ∈ Ts) (hn : n ≤ 100000000) (h4 : cells + 1 ≤ R.cells) (h5 : slots + n ≤ R.slots) (hdg : decode cc pc = .ok (.newarray .int, 2))
    (kk : ∀ (q : Nat) (H1 : Heap), kW G A s (ws ++ [(q, .inl (G.2 0, n, .inl (nF (fun _ => 0))))]) H1 locs → W p l e R s m args below meth c H1 locs (cells + 1) (slots + n) Q (F0 m (pc + 2) ls (.ref q :: rest))) : W p l e R s m args below meth c H locs cells slots Q (F0 m pc ls (.int (iI (n : Int)) :: rest)) := by
  refine va_newa (D := G.1) (cl := vwCl) (tys := kT G) (atype := .int) (ty := .int) (a0 := (n, .inl (nF (fun _ => 0)))) hm.1 hm.2.1 (hm.2.2.2.2.1 _ h1) rfl hw.2.2.2.1.1 hw.1 hw.2.1 hw.2.2.1 hw.2.2.2.2 (fun cA => ?_) ?_ ?_ ?_ h4 h5 hdg (fun q cA H1 hK hP hD hS => ?_)
  · rw [vp_cell_i]
    show arrV cA n (fun j => Value.int (iI ((0 : Nat) : Int))) = _
    rw [show iI ((0 : Nat) : Int) = 0 from iI_0]; rfl
  · intro q
    rw [← iI_0, iI_lt (by omega)] at q; omega
  · rw [iI_clamp (by omega) (by omega)]; rfl
  · show n * 4 ≤ _; omega
  · have e1 := (hK.2 3 (cA, .int) rfl).2
    have e2 := (hw.2.2.2.1.1.2 0 (G.2 0, .int) rfl).2
    have e : cA = G.2 0 := Option.some.inj ((show _ = some cA from e1).symm.trans (show _ = some (G.2 0) from e2))
    subst e
    exact kk q H1 ⟨hP, hD, hS, hw.2.2.2.1, hw.2.2.2.2⟩
theorem k_newP (hm : kM p m c cc nL s args Ts own meth ret) (hw : kW G A s ws H locs) {n index : Nat} (h1 : Cond.classLink own index RX4 ∈ Ts) (hn : n ≤ 100000000) (h4 : cells + 1 ≤ R.cells) (h5 : slots + n ≤ R.slots) (hdg : decode cc pc = .ok (.anewarray index, 3))
    (kk : ∀ (q : Nat) (H1 : Heap), kW G A s (ws ++ [(q, .inl (G.2 2, n, .inr (.inr (.inr (.inr (fun _ => none))))))]) H1 locs → W p l e R s m args below meth c H1 locs (cells + 1) (slots + n) Q (F0 m (pc + 3) ls (.ref q :: rest))) : W p l e R s m args below meth c H locs cells slots Q (F0 m pc ls (.int (iI (n : Int)) :: rest)) := by
  refine va_newq (D := G.1) (cl := vwCl) (tys := kT G) (C := RX4) (N' := n) hm.1 hm.2.1 hm.2.2.2.1 (hm.2.2.2.2.1 _ h1) hw.2.2.2.1.2.2 hw.2.2.2.1.1 hw.1 hw.2.1 hw.2.2.1 hw.2.2.2.2 ?_ ?_ ?_ h4 h5 hdg (fun q cA H1 hK hP hD hS => ?_)
  · intro q
    rw [← iI_0, iI_lt (by omega)] at q; omega
  · rw [iI_clamp (by omega) (by omega)]; rfl
  · omega
  · obtain ⟨k1, c1, a1, a2, a3, a4⟩ := (show va_RA s cA (.object RX4) from (hK.2 3 (cA, .object RX4) rfl).2)
    obtain ⟨k2, c2, b1, b2, b3, b4⟩ := (show va_RA s (G.2 2) (.object "CrochetRounds$Piece") from (hw.2.2.2.1.1.2 2 (G.2 2, .object "CrochetRounds$Piece") rfl).2)
    have e : cA = G.2 2 := Option.some.inj (a4.symm.trans b4)
    subst e
    exact kk q H1 ⟨hP, hD, hS, hw.2.2.2.1, hw.2.2.2.2⟩
theorem k_aastP (hm : kM p m c cc nL s args Ts own meth ret) (hw : kW G A s ws H locs) (q0 qk : Nat) {a v n i : Nat} {vs : List Value} {f : Nat → Option Nat} (ws2 : va_W) (ha : ws[q0]? = some (a, .inl (G.2 2, n, .inr (.inr (.inr (.inr f)))))) (hv : ws[qk]? = some (v, .inr (4, vs))) (hi : i < n ∧ i < 2147483648) (h2 : ws.set q0 (a, .inl (G.2 2, n, .inr (.inr (.inr (.inr (va_up f i (some v))))))) = ws2) (hdg : decode cc pc = .ok (.aastore, 1))
    (kk : ∀ H1 locs1, kW G A s ws2 H1 locs1 → W p l e R s m args below meth c H1 locs1 cells slots Q (F0 m (pc + 1) ls rest)) : W p l e R s m args below meth c H locs cells slots Q (F0 m pc ls (.ref v :: .int (iI (i : Int)) :: .ref a :: rest)) := by
  subst h2
  have e : (iI (i : Int)).toNatClampNeg = i := by rw [iI_clamp (by omega) (by omega)]; rfl
  exact va_astq (D := G.1) (cl := vwCl) (tys := kT G) (r := (RX4, TX4, 6)) hm.1 hm.2.1 hw.2.2.2.1.1 hw.1 hw.2.1 hw.2.2.1 q0 2 qk 4 ha rfl hv rfl (iI_in (by omega)) hdg (fun H1 l1 hP hD hS => kk H1 l1 ⟨by rw [e] at hP; exact hP, by rw [e] at hD; exact hD, hS, hw.2.2.2.1, hw.2.2.2.2⟩)
theorem k_callI (hm : kM p m c cc nL s args Ts own meth ret) (hw : kW G A s ws H locs) (hl : lv_has ls nL ll) {y : MethodName} {wsC wsC' : List Cond} {fr lo mc1 ms1 maxL index n b : Nat} {bytes : ByteArray} {As : List Value} {wp wr : va_W} {post1 : Option Value → va_W → Prop} (hC : kCM l y wsC fr lo mc1 ms1 G (.ref b :: As) wp post1) (hT : GoodIn Ts wsC) (hwd : wsC = Cond.code y bytes maxL none :: wsC') (h1 : Cond.initialized y.cls ∈ Ts) (h2 : Cond.methodLink own index y ∈ Ts) (h3 : Cond.instanceMethod y ∈ Ts) (h4 : y.name = "<init>") (hd : y.cls ≠ "java/lang/invoke/MethodHandle" ∧ y.cls ≠ "java/lang/invoke/VarHandle" ∧ (parseMethodDescriptor y.desc).map (fun d => d.parameters.length) = some n) (hR : fr + 1 ≤ R.frames ∧ 8 + (maxL + 11) + lo ≤ R.locals)
    (isC isR : List Nat) (hnC : va_nd isC = true) (hCe : isC.map (fun i => ws[i]?) = wp.map some) (hRe : isR.map (fun i => ws[i]?) = wr.map some) (hnR : va_nd isR = true) (hdis : ∀ i ∈ isR, i ∉ isC) (hn : As.length = n) (hst : st = As.reverse ++ .ref b :: rest) (hcat : (rest.map fun v => v.category).sum ≤ 8) (hf : cells + mc1 ≤ R.cells ∧ slots + ms1 ≤ R.slots) (hdg : decode cc pc = .ok (.invokespecial index, 3))
    (kk : ∀ (v : Option Value) (w1 : va_W) (H1 : Heap) (locs1 : List Loc), post1 v w1 → kW G A s (wr ++ w1) H1 locs1 → W p l e R s m args below meth c H1 locs1 (cells + mc1) (slots + ms1) Q (F0 m (pc + 3) ls (v.toList ++ rest))) : W p l e R s m args below meth c H locs cells slots Q (F0 m pc ls st) :=
  k_after hw isC isR hCe hRe hnR hdis (va_runI (As := As) (b := b) (rest := rest) ⟨hm.1, hm.2.1, hm.2.2.1, hm.2.2.2.1, hm.2.2.2.2.1⟩ (hC H.size) (cwI n hm.2.2.2.2.1 hT hwd rfl rfl (hm.2.2.2.2.1 _ h1) (hm.2.2.2.2.1 _ h2) (hm.2.2.2.2.1 _ h3) h4 hd hR) ⟨kPre_blind, hw.pre isC hnC hCe _⟩ rfl hn hl.1 hst (lv_room hcat) hdg hf) kk
theorem k_callIN (hm : kM p m c cc nL s args Ts own meth ret) (hw : kW G A s ws H locs) (hl : lv_has ls nL ll) {y : MethodName} {wsC wsC' : List Cond} {fr lo mc1 ms1 maxL index n b : Nat} {host : String} {bytes : ByteArray} {As : List Value} {wp wr : va_W} {post1 : Option Value → va_W → Prop} (hC : kCM l y wsC fr lo mc1 ms1 G (.ref b :: As) wp post1) (hT : GoodIn Ts wsC) (h1 : Cond.initialized y.cls ∈ Ts) (h3 : Cond.instanceMethod y ∈ Ts) (kn : Nat) (hkn : kNestL[kn]? = some (own, index, y, host)) (hwd : wsC = Cond.code y bytes maxL none :: wsC') (h4 : y.name = "<init>") (hd : y.cls ≠ "java/lang/invoke/MethodHandle" ∧ y.cls ≠ "java/lang/invoke/VarHandle" ∧ (parseMethodDescriptor y.desc).map (fun d => d.parameters.length) = some n) (hR : fr + 1 ≤ R.frames ∧ 8 + (maxL + 11) + lo ≤ R.locals)
    (isC isR : List Nat) (hnC : va_nd isC = true) (hCe : isC.map (fun i => ws[i]?) = wp.map some) (hRe : isR.map (fun i => ws[i]?) = wr.map some) (hnR : va_nd isR = true) (hdis : ∀ i ∈ isR, i ∉ isC) (hn : As.length = n) (hst : st = As.reverse ++ .ref b :: rest) (hcat : (rest.map fun v => v.category).sum ≤ 8) (hf : cells + mc1 ≤ R.cells ∧ slots + ms1 ≤ R.slots) (hdg : decode cc pc = .ok (.invokespecial index, 3))
    (kk : ∀ (v : Option Value) (w1 : va_W) (H1 : Heap) (locs1 : List Loc), post1 v w1 → kW G A s (wr ++ w1) H1 locs1 → W p l e R s m args below meth c H1 locs1 (cells + mc1) (slots + ms1) Q (F0 m (pc + 3) ls (v.toList ++ rest))) : W p l e R s m args below meth c H locs cells slots Q (F0 m pc ls st) :=
  k_after hw isC isR hCe hRe hnR hdis (va_runIN (As := As) (b := b) (rest := rest) (host := host) ⟨hm.1, hm.2.1, hm.2.2.1, hm.2.2.2.1, hm.2.2.2.2.1⟩ (hC H.size) ⟨va_cnB n hm.2.2.2.2.1 hT hwd rfl rfl (hw.2.2.2.1.2.1 _ (List.mem_of_getElem? hkn)) (hm.2.2.2.2.1 _ h1) hd hR, h4, hm.2.2.2.2.1 _ h3⟩ ⟨kPre_blind, hw.pre isC hnC hCe _⟩ rfl hn hl.1 hst (lv_room hcat) hdg hf) kk
/-- an array of references, told by another function that agrees on its places -/
theorem kW.refEq (hw : kW G A s ws H locs) (q0 : Nat) {a n : Nat} {f g : Nat → Option Nat} (ha : ws[q0]? = some (a, .inl (G.2 2, n, .inr (.inr (.inr (.inr f)))))) (h : ∀ j, j < n → f j = g j) : kW G A s (ws.set q0 (a, .inl (G.2 2, n, .inr (.inr (.inr (.inr g)))))) H locs := by
  have e : vp_cell (G.2 2) (n, .inr (.inr (.inr (.inr f)))) = vp_cell (G.2 2) (n, .inr (.inr (.inr (.inr g)))) := by
    rw [vp_cell_q, vp_cell_q]
    unfold arrV
    congr 2
    funext j
    show va_rf (f j.val) = va_rf (g j.val)
    rw [h j.val j.isLt]
  have q := hw.1 q0 _ ha
  refine ⟨hw.1.set hw.2.1 ha ?_ (fun _ _ => rfl), hw.2.1.set ha, hw.2.2⟩
  show H[a]? = some (vp_cell (G.2 2) (n, .inr (.inr (.inr (.inr g)))))
  rw [← e]; exact q
end KROWR
set_option maxHeartbeats 4000000 in
set_option maxRecDepth 100000 in
theorem c_Num_init (l : Launch) (G : kG) (a : Nat) (n : Nat) (hn : 1 ≤ n ∧ n ≤ 100000) : kCM l yX2_init wsX2_init 1 20 1 n G [.ref (a), vN (n)] ([(a, .inr (2, [.null]))]) (fun vv uu => ∃ (b : Nat), vv = none ∧ uu = [(a, .inr (2, [.ref (b)])), (b, .inl (G.2 0, n, .inl (nF (fun _ => 0))))]) := by
  refine kCM.of (cc := cX2_init) (maxL := 2) (ret := none) (by decide) rfl (Nat.le_of_ble_eq_true rfl) ?_
  intro p e s m args below meth c A ls Qz hQ hin hm hw hl
  have hl : lv_has ls 2 [(0, .ref (a)), (1, vN (n))] := hl
  have i2 : ∀ w ∈ wsX20, w ∈ wsX2_init := by decide +kernel
  refine k_aload_n hm hl 0 rfl dX2_init_0 ?_
  refine k_objI hm hl (by decide +kernel) (by decide +kernel) (by decide +kernel) (Nat.le_of_ble_eq_true rfl) (Nat.le_of_ble_eq_true rfl) dX2_init_1 ?_
  refine W.eq (g2 := F0 m 4 ls []) rfl ?_
  refine k_aload_n hm hl 0 rfl dX2_init_4 ?_
  refine k_iload_n hm hl 1 rfl dX2_init_5 ?_
  refine k_ifle (tgt := 13) hm dX2_init_6 (by decide) (by omega) (fun c_1 => absurd c_1 (by omega)) (fun c_1 => ?_)
  refine k_iload_n hm hl 1 rfl dX2_init_9 ?_
  refine k_goto (tgt := 14) hm dX2_init_10 (by decide) ?_
  refine k_newI (n := n) hm hw (by decide +kernel) (by omega) (Nat.le_of_ble_eq_true rfl) (by first | exact Nat.le_of_ble_eq_true rfl | (show 0 + n ≤ n; omega)) dX2_init_14 (fun q_2 H hw => ?_)
  have hw : kW G A s ([(a, .inr (2, [.null]))] ++ [(q_2, .inl (G.2 0, n, .inl (nF (fun _ => 0))))]) _ _ := hw
  refine k_putF (T := TX2) hm hw hin 0 0 ([(a, .inr (2, [.ref (q_2)]))] ++ [(q_2, .inl (G.2 0, n, .inl (nF (fun _ => 0))))]) i2 tyX2 tyX2_ok nmX2 rfl rfl (by decide) (by decide +kernel) rfl rfl (tyX2_ok 0 (by decide)) rfl rfl (Nat.le_of_ble_eq_true rfl) rfl dX2_init_16 (fun H locs hw => ?_)
  exact k_vret hm hQ rfl hw (⟨_, rfl, rfl⟩) (by omega) (by omega) dX2_init_19
def pL (l : List Nat) : Nat → Nat := fun i => l.getD i 0
set_option maxHeartbeats 4000000 in
set_option maxRecDepth 100000 in
theorem c_Plan_init (l : Launch) (G : kG) (a : Nat)  : kCM l yX5_init wsX5_init 2 41 2 121 G [.ref (a)] ([(a, .inr (5, [.null, vN (0), vN (0), vN (0)]))]) (fun vv uu => ∃ (P : Nat → Nat), vv = none ∧ uu = wPlan G P (fun _ => 0) 0 0 0 ∧ (P 0 = a)) := by
  refine kCM.of (cc := cX5_init) (maxL := 1) (ret := none) (by decide) rfl (Nat.le_of_ble_eq_true rfl) ?_
  intro p e s m args below meth c A ls Qz hQ hin hm hw hl
  have hl : lv_has ls 1 [(0, .ref (a))] := hl
  have i2 : ∀ w ∈ wsX20, w ∈ wsX5_init := by decide +kernel
  have i5 : ∀ w ∈ wsX50, w ∈ wsX5_init := by decide +kernel
  refine k_aload_n hm hl 0 rfl dX5_init_0 ?_
  refine k_objI hm hl (by decide +kernel) (by decide +kernel) (by decide +kernel) (Nat.le_of_ble_eq_true rfl) (Nat.le_of_ble_eq_true rfl) dX5_init_1 ?_
  refine W.eq (g2 := F0 m 4 ls []) rfl ?_
  refine k_aload_n hm hl 0 rfl dX5_init_4 ?_
  refine k_new (T := TX2) (fs := [.null]) hm hw i2 tyX2 tyX2_ok (by decide +kernel) (by decide +kernel) (by decide +kernel) (ci := 2) rfl (fun j hj => by rcases (show j = 0 by omega) with rfl <;> rfl) (Nat.le_of_ble_eq_true rfl) (Nat.le_of_ble_eq_true rfl) dX5_init_5 (fun q_1 H hw => ?_)
  have hw : kW G A s ([(a, .inr (5, [.null, vN (0), vN (0), vN (0)]))] ++ [(q_1, .inr (2, [.null]))]) _ _ := hw
  refine k_dup hm dX5_init_8 rfl ?_
  refine k_bipushN hm 120 dX5_init_9 rfl ?_
  refine k_callI (n := 1) (As := [vN (120)]) (rest := [.ref (q_1), .ref (a)]) (wr := [(a, .inr (5, [.null, vN (0), vN (0), vN (0)]))]) hm hw hl (c_Num_init l G q_1 120 (by first | assumption | omega)) gX5_init_X2_init rfl (by decide +kernel) (by decide +kernel) (by decide +kernel) rfl (by decide +kernel) ⟨by decide, by decide⟩ [1] [0] (by decide) rfl rfl (by decide) (by decide) rfl rfl (by simp [Value.category]) ⟨Nat.le_of_ble_eq_true rfl, Nat.le_of_ble_eq_true rfl⟩ dX5_init_11 (fun v w1 H locs hp hw => ?_)
  obtain ⟨b_3, rfl, rfl⟩ := hp
  have hw : kW G A s ([(a, .inr (5, [.null, vN (0), vN (0), vN (0)]))] ++ [(q_1, .inr (2, [.ref (b_3)])), (b_3, .inl (G.2 0, 120, .inl (nF (fun _ => 0))))]) _ _ := hw
  refine W.eq (g2 := F0 m 14 ls [.ref (q_1), .ref (a)]) rfl ?_
  refine k_putF (T := TX5) hm hw hin 0 0 ([(a, .inr (5, [.ref (q_1), vN (0), vN (0), vN (0)]))] ++ [(q_1, .inr (2, [.ref (b_3)])), (b_3, .inl (G.2 0, 120, .inl (nF (fun _ => 0))))]) i5 tyX5 tyX5_ok nmX5 rfl rfl (by decide) (by decide +kernel) rfl rfl (tyX5_ok 0 (by decide)) rfl rfl (Nat.le_of_ble_eq_true rfl) rfl dX5_init_14 (fun H locs hw => ?_)
  have hw := hw.sub (ws' := [(a, .inr (5, [.ref (q_1), vN (0), vN (0), vN (0)])), (q_1, .inr (2, [.ref (b_3)])), (b_3, .inl (G.2 0, 120, .inl (nF (fun _ => 0))))]) [0, 1, 2] (by decide) rfl
  exact k_vret hm hQ rfl hw (⟨pL [a, q_1, b_3], rfl, rfl, rfl⟩) (by omega) (by omega) dX5_init_17
set_option maxHeartbeats 4000000 in
set_option maxRecDepth 100000 in
theorem c_Makers_init (l : Launch) (G : kG) (a : Nat)  : kCM l yX1_init wsX1_init 2 41 2 121 G [.ref (a)] ([(a, .inr (1, [.null]))]) (fun vv uu => ∃ (P : Nat → Nat), vv = none ∧ uu = wMk G P (fun _ => 0) ∧ (P 0 = a)) := by
  refine kCM.of (cc := cX1_init) (maxL := 1) (ret := none) (by decide) rfl (Nat.le_of_ble_eq_true rfl) ?_
  intro p e s m args below meth c A ls Qz hQ hin hm hw hl
  have hl : lv_has ls 1 [(0, .ref (a))] := hl
  have i1 : ∀ w ∈ wsX10, w ∈ wsX1_init := by decide +kernel
  have i2 : ∀ w ∈ wsX20, w ∈ wsX1_init := by decide +kernel
  refine k_aload_n hm hl 0 rfl dX1_init_0 ?_
  refine k_objI hm hl (by decide +kernel) (by decide +kernel) (by decide +kernel) (Nat.le_of_ble_eq_true rfl) (Nat.le_of_ble_eq_true rfl) dX1_init_1 ?_
  refine W.eq (g2 := F0 m 4 ls []) rfl ?_
  refine k_aload_n hm hl 0 rfl dX1_init_4 ?_
  refine k_new (T := TX2) (fs := [.null]) hm hw i2 tyX2 tyX2_ok (by decide +kernel) (by decide +kernel) (by decide +kernel) (ci := 2) rfl (fun j hj => by rcases (show j = 0 by omega) with rfl <;> rfl) (Nat.le_of_ble_eq_true rfl) (Nat.le_of_ble_eq_true rfl) dX1_init_5 (fun q_1 H hw => ?_)
  have hw : kW G A s ([(a, .inr (1, [.null]))] ++ [(q_1, .inr (2, [.null]))]) _ _ := hw
  refine k_dup hm dX1_init_8 rfl ?_
  refine k_bipushN hm 120 dX1_init_9 rfl ?_
  refine k_callI (n := 1) (As := [vN (120)]) (rest := [.ref (q_1), .ref (a)]) (wr := [(a, .inr (1, [.null]))]) hm hw hl (c_Num_init l G q_1 120 (by first | assumption | omega)) gX1_init_X2_init rfl (by decide +kernel) (by decide +kernel) (by decide +kernel) rfl (by decide +kernel) ⟨by decide, by decide⟩ [1] [0] (by decide) rfl rfl (by decide) (by decide) rfl rfl (by simp [Value.category]) ⟨Nat.le_of_ble_eq_true rfl, Nat.le_of_ble_eq_true rfl⟩ dX1_init_11 (fun v w1 H locs hp hw => ?_)
  obtain ⟨b_3, rfl, rfl⟩ := hp
  have hw : kW G A s ([(a, .inr (1, [.null]))] ++ [(q_1, .inr (2, [.ref (b_3)])), (b_3, .inl (G.2 0, 120, .inl (nF (fun _ => 0))))]) _ _ := hw
  refine W.eq (g2 := F0 m 14 ls [.ref (q_1), .ref (a)]) rfl ?_
  refine k_putF (T := TX1) hm hw hin 0 0 ([(a, .inr (1, [.ref (q_1)]))] ++ [(q_1, .inr (2, [.ref (b_3)])), (b_3, .inl (G.2 0, 120, .inl (nF (fun _ => 0))))]) i1 tyX1 tyX1_ok nmX1 rfl rfl (by decide) (by decide +kernel) rfl rfl (tyX1_ok 0 (by decide)) rfl rfl (Nat.le_of_ble_eq_true rfl) rfl dX1_init_14 (fun H locs hw => ?_)
  have hw := hw.sub (ws' := [(a, .inr (1, [.ref (q_1)])), (q_1, .inr (2, [.ref (b_3)])), (b_3, .inl (G.2 0, 120, .inl (nF (fun _ => 0))))]) [0, 1, 2] (by decide) rfl
  exact k_vret hm hQ rfl hw (⟨pL [a, q_1, b_3], rfl, rfl, rfl⟩) (by omega) (by omega) dX1_init_17
set_option maxHeartbeats 4000000 in
set_option maxRecDepth 100000 in
theorem c_Piece_init (l : Launch) (G : kG) (a : Nat)  : kCM l yX4_init wsX4_init 2 41 8 4887 G [.ref (a)] ([(a, .inr (4, [.null, .null, .null, .null, vN (0), vB (false)]))]) (fun vv uu => ∃ (P : Nat → Nat), vv = none ∧ uu = wPiece G P (fun _ => 0) (fun _ => 0) (fun _ => 0) (fun _ => 0) 0 false ∧ (P 0 = a)) := by
  refine kCM.of (cc := cX4_init) (maxL := 1) (ret := none) (by decide) rfl (Nat.le_of_ble_eq_true rfl) ?_
  intro p e s m args below meth c A ls Qz hQ hin hm hw hl
  have hl : lv_has ls 1 [(0, .ref (a))] := hl
  have i2 : ∀ w ∈ wsX20, w ∈ wsX4_init := by decide +kernel
  have i4 : ∀ w ∈ wsX40, w ∈ wsX4_init := by decide +kernel
  refine k_aload_n hm hl 0 rfl dX4_init_0 ?_
  refine k_objI hm hl (by decide +kernel) (by decide +kernel) (by decide +kernel) (Nat.le_of_ble_eq_true rfl) (Nat.le_of_ble_eq_true rfl) dX4_init_1 ?_
  refine W.eq (g2 := F0 m 4 ls []) rfl ?_
  refine k_aload_n hm hl 0 rfl dX4_init_4 ?_
  refine k_new (T := TX2) (fs := [.null]) hm hw i2 tyX2 tyX2_ok (by decide +kernel) (by decide +kernel) (by decide +kernel) (ci := 2) rfl (fun j hj => by rcases (show j = 0 by omega) with rfl <;> rfl) (Nat.le_of_ble_eq_true rfl) (Nat.le_of_ble_eq_true rfl) dX4_init_5 (fun q_1 H hw => ?_)
  have hw : kW G A s ([(a, .inr (4, [.null, .null, .null, .null, vN (0), vB (false)]))] ++ [(q_1, .inr (2, [.null]))]) _ _ := hw
  refine k_dup hm dX4_init_8 rfl ?_
  refine k_sipushN hm 4800 dX4_init_9 rfl ?_
  refine k_callI (n := 1) (As := [vN (4800)]) (rest := [.ref (q_1), .ref (a)]) (wr := [(a, .inr (4, [.null, .null, .null, .null, vN (0), vB (false)]))]) hm hw hl (c_Num_init l G q_1 4800 (by first | assumption | omega)) gX4_init_X2_init rfl (by decide +kernel) (by decide +kernel) (by decide +kernel) rfl (by decide +kernel) ⟨by decide, by decide⟩ [1] [0] (by decide) rfl rfl (by decide) (by decide) rfl rfl (by simp [Value.category]) ⟨Nat.le_of_ble_eq_true rfl, Nat.le_of_ble_eq_true rfl⟩ dX4_init_12 (fun v w1 H locs hp hw => ?_)
  obtain ⟨b_3, rfl, rfl⟩ := hp
  have hw : kW G A s ([(a, .inr (4, [.null, .null, .null, .null, vN (0), vB (false)]))] ++ [(q_1, .inr (2, [.ref (b_3)])), (b_3, .inl (G.2 0, 4800, .inl (nF (fun _ => 0))))]) _ _ := hw
  refine W.eq (g2 := F0 m 15 ls [.ref (q_1), .ref (a)]) rfl ?_
  refine k_putF (T := TX4) hm hw hin 0 0 ([(a, .inr (4, [.ref (q_1), .null, .null, .null, vN (0), vB (false)]))] ++ [(q_1, .inr (2, [.ref (b_3)])), (b_3, .inl (G.2 0, 4800, .inl (nF (fun _ => 0))))]) i4 tyX4 tyX4_ok nmX4 rfl rfl (by decide) (by decide +kernel) rfl rfl (tyX4_ok 0 (by decide)) rfl rfl (Nat.le_of_ble_eq_true rfl) rfl dX4_init_15 (fun H locs hw => ?_)
  refine k_aload_n hm hl 0 rfl dX4_init_18 ?_
  refine k_new (T := TX2) (fs := [.null]) hm hw i2 tyX2 tyX2_ok (by decide +kernel) (by decide +kernel) (by decide +kernel) (ci := 2) rfl (fun j hj => by rcases (show j = 0 by omega) with rfl <;> rfl) (Nat.le_of_ble_eq_true rfl) (Nat.le_of_ble_eq_true rfl) dX4_init_19 (fun q_4 H hw => ?_)
  have hw : kW G A s ([(a, .inr (4, [.ref (q_1), .null, .null, .null, vN (0), vB (false)]))] ++ ([(q_1, .inr (2, [.ref (b_3)])), (b_3, .inl (G.2 0, 4800, .inl (nF (fun _ => 0))))] ++ [(q_4, .inr (2, [.null]))])) _ _ := hw
  refine k_dup hm dX4_init_22 rfl ?_
  refine k_bipushN hm 40 dX4_init_23 rfl ?_
  refine k_callI (n := 1) (As := [vN (40)]) (rest := [.ref (q_4), .ref (a)]) (wr := [(a, .inr (4, [.ref (q_1), .null, .null, .null, vN (0), vB (false)])), (q_1, .inr (2, [.ref (b_3)])), (b_3, .inl (G.2 0, 4800, .inl (nF (fun _ => 0))))]) hm hw hl (c_Num_init l G q_4 40 (by first | assumption | omega)) gX4_init_X2_init rfl (by decide +kernel) (by decide +kernel) (by decide +kernel) rfl (by decide +kernel) ⟨by decide, by decide⟩ [3] [0, 1, 2] (by decide) rfl rfl (by decide) (by decide) rfl rfl (by simp [Value.category]) ⟨Nat.le_of_ble_eq_true rfl, Nat.le_of_ble_eq_true rfl⟩ dX4_init_25 (fun v w1 H locs hp hw => ?_)
  obtain ⟨b_6, rfl, rfl⟩ := hp
  have hw : kW G A s ([(a, .inr (4, [.ref (q_1), .null, .null, .null, vN (0), vB (false)]))] ++ ([(q_1, .inr (2, [.ref (b_3)])), (b_3, .inl (G.2 0, 4800, .inl (nF (fun _ => 0))))] ++ [(q_4, .inr (2, [.ref (b_6)])), (b_6, .inl (G.2 0, 40, .inl (nF (fun _ => 0))))])) _ _ := hw
  refine W.eq (g2 := F0 m 28 ls [.ref (q_4), .ref (a)]) rfl ?_
  refine k_putF (T := TX4) hm hw hin 0 1 ([(a, .inr (4, [.ref (q_1), .ref (q_4), .null, .null, vN (0), vB (false)]))] ++ ([(q_1, .inr (2, [.ref (b_3)])), (b_3, .inl (G.2 0, 4800, .inl (nF (fun _ => 0))))] ++ [(q_4, .inr (2, [.ref (b_6)])), (b_6, .inl (G.2 0, 40, .inl (nF (fun _ => 0))))])) i4 tyX4 tyX4_ok nmX4 rfl rfl (by decide) (by decide +kernel) rfl rfl (tyX4_ok 1 (by decide)) rfl rfl (Nat.le_of_ble_eq_true rfl) rfl dX4_init_28 (fun H locs hw => ?_)
  refine k_aload_n hm hl 0 rfl dX4_init_31 ?_
  refine k_new (T := TX2) (fs := [.null]) hm hw i2 tyX2 tyX2_ok (by decide +kernel) (by decide +kernel) (by decide +kernel) (ci := 2) rfl (fun j hj => by rcases (show j = 0 by omega) with rfl <;> rfl) (Nat.le_of_ble_eq_true rfl) (Nat.le_of_ble_eq_true rfl) dX4_init_32 (fun q_7 H hw => ?_)
  have hw : kW G A s ([(a, .inr (4, [.ref (q_1), .ref (q_4), .null, .null, vN (0), vB (false)]))] ++ ([(q_1, .inr (2, [.ref (b_3)])), (b_3, .inl (G.2 0, 4800, .inl (nF (fun _ => 0))))] ++ ([(q_4, .inr (2, [.ref (b_6)])), (b_6, .inl (G.2 0, 40, .inl (nF (fun _ => 0))))] ++ [(q_7, .inr (2, [.null]))]))) _ _ := hw
  refine k_dup hm dX4_init_35 rfl ?_
  refine k_bipushN hm 40 dX4_init_36 rfl ?_
  refine k_callI (n := 1) (As := [vN (40)]) (rest := [.ref (q_7), .ref (a)]) (wr := [(a, .inr (4, [.ref (q_1), .ref (q_4), .null, .null, vN (0), vB (false)])), (q_1, .inr (2, [.ref (b_3)])), (b_3, .inl (G.2 0, 4800, .inl (nF (fun _ => 0)))), (q_4, .inr (2, [.ref (b_6)])), (b_6, .inl (G.2 0, 40, .inl (nF (fun _ => 0))))]) hm hw hl (c_Num_init l G q_7 40 (by first | assumption | omega)) gX4_init_X2_init rfl (by decide +kernel) (by decide +kernel) (by decide +kernel) rfl (by decide +kernel) ⟨by decide, by decide⟩ [5] [0, 1, 2, 3, 4] (by decide) rfl rfl (by decide) (by decide) rfl rfl (by simp [Value.category]) ⟨Nat.le_of_ble_eq_true rfl, Nat.le_of_ble_eq_true rfl⟩ dX4_init_38 (fun v w1 H locs hp hw => ?_)
  obtain ⟨b_9, rfl, rfl⟩ := hp
  have hw : kW G A s ([(a, .inr (4, [.ref (q_1), .ref (q_4), .null, .null, vN (0), vB (false)]))] ++ ([(q_1, .inr (2, [.ref (b_3)])), (b_3, .inl (G.2 0, 4800, .inl (nF (fun _ => 0))))] ++ ([(q_4, .inr (2, [.ref (b_6)])), (b_6, .inl (G.2 0, 40, .inl (nF (fun _ => 0))))] ++ [(q_7, .inr (2, [.ref (b_9)])), (b_9, .inl (G.2 0, 40, .inl (nF (fun _ => 0))))]))) _ _ := hw
  refine W.eq (g2 := F0 m 41 ls [.ref (q_7), .ref (a)]) rfl ?_
  refine k_putF (T := TX4) hm hw hin 0 2 ([(a, .inr (4, [.ref (q_1), .ref (q_4), .ref (q_7), .null, vN (0), vB (false)]))] ++ ([(q_1, .inr (2, [.ref (b_3)])), (b_3, .inl (G.2 0, 4800, .inl (nF (fun _ => 0))))] ++ ([(q_4, .inr (2, [.ref (b_6)])), (b_6, .inl (G.2 0, 40, .inl (nF (fun _ => 0))))] ++ [(q_7, .inr (2, [.ref (b_9)])), (b_9, .inl (G.2 0, 40, .inl (nF (fun _ => 0))))]))) i4 tyX4 tyX4_ok nmX4 rfl rfl (by decide) (by decide +kernel) rfl rfl (tyX4_ok 2 (by decide)) rfl rfl (Nat.le_of_ble_eq_true rfl) rfl dX4_init_41 (fun H locs hw => ?_)
  refine k_aload_n hm hl 0 rfl dX4_init_44 ?_
  refine k_new (T := TX2) (fs := [.null]) hm hw i2 tyX2 tyX2_ok (by decide +kernel) (by decide +kernel) (by decide +kernel) (ci := 2) rfl (fun j hj => by rcases (show j = 0 by omega) with rfl <;> rfl) (Nat.le_of_ble_eq_true rfl) (Nat.le_of_ble_eq_true rfl) dX4_init_45 (fun q_10 H hw => ?_)
  have hw : kW G A s ([(a, .inr (4, [.ref (q_1), .ref (q_4), .ref (q_7), .null, vN (0), vB (false)]))] ++ ([(q_1, .inr (2, [.ref (b_3)])), (b_3, .inl (G.2 0, 4800, .inl (nF (fun _ => 0))))] ++ ([(q_4, .inr (2, [.ref (b_6)])), (b_6, .inl (G.2 0, 40, .inl (nF (fun _ => 0))))] ++ ([(q_7, .inr (2, [.ref (b_9)])), (b_9, .inl (G.2 0, 40, .inl (nF (fun _ => 0))))] ++ [(q_10, .inr (2, [.null]))])))) _ _ := hw
  refine k_dup hm dX4_init_48 rfl ?_
  refine k_iconstN hm 3 dX4_init_49 ?_
  refine k_callI (n := 1) (As := [vN (3)]) (rest := [.ref (q_10), .ref (a)]) (wr := [(a, .inr (4, [.ref (q_1), .ref (q_4), .ref (q_7), .null, vN (0), vB (false)])), (q_1, .inr (2, [.ref (b_3)])), (b_3, .inl (G.2 0, 4800, .inl (nF (fun _ => 0)))), (q_4, .inr (2, [.ref (b_6)])), (b_6, .inl (G.2 0, 40, .inl (nF (fun _ => 0)))), (q_7, .inr (2, [.ref (b_9)])), (b_9, .inl (G.2 0, 40, .inl (nF (fun _ => 0))))]) hm hw hl (c_Num_init l G q_10 3 (by first | assumption | omega)) gX4_init_X2_init rfl (by decide +kernel) (by decide +kernel) (by decide +kernel) rfl (by decide +kernel) ⟨by decide, by decide⟩ [7] [0, 1, 2, 3, 4, 5, 6] (by decide) rfl rfl (by decide) (by decide) rfl rfl (by simp [Value.category]) ⟨Nat.le_of_ble_eq_true rfl, Nat.le_of_ble_eq_true rfl⟩ dX4_init_50 (fun v w1 H locs hp hw => ?_)
  obtain ⟨b_12, rfl, rfl⟩ := hp
  have hw : kW G A s ([(a, .inr (4, [.ref (q_1), .ref (q_4), .ref (q_7), .null, vN (0), vB (false)]))] ++ ([(q_1, .inr (2, [.ref (b_3)])), (b_3, .inl (G.2 0, 4800, .inl (nF (fun _ => 0))))] ++ ([(q_4, .inr (2, [.ref (b_6)])), (b_6, .inl (G.2 0, 40, .inl (nF (fun _ => 0))))] ++ ([(q_7, .inr (2, [.ref (b_9)])), (b_9, .inl (G.2 0, 40, .inl (nF (fun _ => 0))))] ++ [(q_10, .inr (2, [.ref (b_12)])), (b_12, .inl (G.2 0, 3, .inl (nF (fun _ => 0))))])))) _ _ := hw
  refine W.eq (g2 := F0 m 53 ls [.ref (q_10), .ref (a)]) rfl ?_
  refine k_putF (T := TX4) hm hw hin 0 3 ([(a, .inr (4, [.ref (q_1), .ref (q_4), .ref (q_7), .ref (q_10), vN (0), vB (false)]))] ++ ([(q_1, .inr (2, [.ref (b_3)])), (b_3, .inl (G.2 0, 4800, .inl (nF (fun _ => 0))))] ++ ([(q_4, .inr (2, [.ref (b_6)])), (b_6, .inl (G.2 0, 40, .inl (nF (fun _ => 0))))] ++ ([(q_7, .inr (2, [.ref (b_9)])), (b_9, .inl (G.2 0, 40, .inl (nF (fun _ => 0))))] ++ [(q_10, .inr (2, [.ref (b_12)])), (b_12, .inl (G.2 0, 3, .inl (nF (fun _ => 0))))])))) i4 tyX4 tyX4_ok nmX4 rfl rfl (by decide) (by decide +kernel) rfl rfl (tyX4_ok 3 (by decide)) rfl rfl (Nat.le_of_ble_eq_true rfl) rfl dX4_init_53 (fun H locs hw => ?_)
  have hw := hw.sub (ws' := [(a, .inr (4, [.ref (q_1), .ref (q_4), .ref (q_7), .ref (q_10), vN (0), vB (false)])), (q_1, .inr (2, [.ref (b_3)])), (b_3, .inl (G.2 0, 4800, .inl (nF (fun _ => 0)))), (q_4, .inr (2, [.ref (b_6)])), (b_6, .inl (G.2 0, 40, .inl (nF (fun _ => 0)))), (q_7, .inr (2, [.ref (b_9)])), (b_9, .inl (G.2 0, 40, .inl (nF (fun _ => 0)))), (q_10, .inr (2, [.ref (b_12)])), (b_12, .inl (G.2 0, 3, .inl (nF (fun _ => 0))))]) [0, 1, 2, 3, 4, 5, 6, 7, 8] (by decide) rfl
  exact k_vret hm hQ rfl hw (⟨pL [a, q_1, b_3, q_4, b_6, q_7, b_9, q_10, b_12], rfl, rfl, rfl⟩) (by omega) (by omega) dX4_init_56
