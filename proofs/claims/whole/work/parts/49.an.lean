/-- a method that catches what it calls -/
def kCX (l : Launch) (y : MethodName) (ws : List Cond) (fr lo mc ms : Nat) (G : kG) (av : List Value) (wp : va_W) (post : Option Value → va_W → Prop) : Prop :=
  ∀ sz : Nat, Met l y ws { frames := fr, cells := mc, slots := ms, locals := lo } (va_Pc av (kPreX G wp sz)) (kPost G (va_A wp sz) post) mc ms (va_A wp sz)
theorem kCX.of {l : Launch} {y : MethodName} {ws ws' : List Cond} {fr lo mc ms : Nat} {G : kG} {av : List Value} {wp : va_W} {post : Option Value → va_W → Prop} {cc : ByteArray} {maxL : Nat} {ret : Option FieldType} {hh : List (Nat × Nat × Nat × Nat)} (hy : plainName y.cls = true) (hwd : ws = Cond.codeWith y cc maxL ret hh :: ws') (hlen : (lg_sl av).length ≤ maxL)
    (body : ∀ (p : Program) (e : Env) (s : State) (m : MethodId) (args : Array Value) (below : List Frame) (meth : Method) (c : Code) (A : Nat → Prop) (ls : Array Slot) (Q : State → Prop), Q = kZ below G A post args s mc ms → c.exceptionTable.toList = tableOf hh → kXs s → kSt A s s.heap → kM p m c cc maxL s args ws y.cls meth ret → kW G A s wp s.heap [] → lv_has ls maxL (lv_args 0 av) →
      W p l e { frames := fr, cells := mc, slots := ms, locals := lo } s m args below meth c s.heap [] 0 0 Q (F0 m 0 ls [])) : kCX l y ws fr lo mc ms G av wp post := by
  intro sz
  have key : vx_Met l y ws { frames := fr, cells := mc, slots := ms, locals := lo } (va_Pc av (kPreX G wp sz)) (kPost G (va_A wp sz) post) (fun _ _ _ => False) mc ms (va_A wp sz) := by
    refine vx_ofWH (cc := cc) (maxL := maxL) (ret := ret) hy hwd ?_
    intro p e s m args below meth c s₁ B hml hv
    obtain ⟨rfl, ⟨hsz, hP, hK, hD0⟩, hxs, hst⟩ := hv
    subst hsz
    have hl := lv_entry av (n := maxL) hlen
    rw [lg_entry_eq]
    have ht := vx_table (x := y) B (atoms_spec (ws := ws) B.pre _ (by rw [hwd]; exact List.mem_cons_self))
    exact vx_ret (body p e s m _ below meth c _ _ _ rfl ht hxs hst ⟨B.exec, B.bytes, hml, findClass_of_methodNamed B.named, atoms_spec (ws := ws) B.pre, B.returns, B.notSynchronized⟩ ⟨hP, hD0.self, va_S.rf, hK, fun q h => Or.inr h⟩ hl)
  refine MetFree.mono key (fun _ _ q => q) (fun _ _ _ _ _ q => q) ?_
  rintro a st o t - (h | ⟨q, rfl, E, ce, L, hf, -⟩)
  · exact h
  · exact hf.elim
theorem k_cast {s : State} {args : Array Value} {E : String} (hxs : kXs s) (hE : Cond.castable E E ∈ kBadL) : (Cond.castable E E).before args s = true := va_Nw.use rfl (hxs.1 _ hE)
def i2L (z : Int) : Int64 := (iI z).toInt64
section KROWAN
variable {p : Program} {l : Launch} {e : Env} {R : Room} {s : State} {m : MethodId} {args : Array Value} {below : List Frame} {meth : Method} {c : Code} {H : Heap} {locs : List Loc} {cells slots : Nat} {Q : State → Prop}
variable {cc : ByteArray} {pc nL : Nat} {ls : Array Slot} {rest st : List Value} {Ts : List Cond} {own : String} {ret : Option FieldType} {G : kG} {A : Nat → Prop} {ws wq : va_W} {ll : List (Nat × Value)} {post : Option Value → va_W → Prop} {mc ms : Nat}
theorem k_i2lR (hm : kM p m c cc nL s args Ts own meth ret) {x : Int} (hdg : decode cc pc = .ok (.i2l, 1)) (k : W p l e R s m args below meth c H locs cells slots Q (F0 m (pc + 1) ls (.long (i2L x) :: rest))) : W p l e R s m args below meth c H locs cells slots Q (F0 m pc ls (.int (iI x) :: rest)) := lv_i2l hm.1 hm.2.1 hdg rfl k
theorem k_dast (hm : kM p m c cc nL s args Ts own meth ret) (hw : kW G A s ws H locs) (q0 : Nat) {a n : Nat} {f : Nat → UInt64} {i : Nat} {x : UInt64} (ws2 : va_W) (ha : ws[q0]? = some (a, .inl (G.2 3, n, .inr (.inr (.inr (.inl f)))))) (hi : i < n ∧ i < 2147483648) (h2 : ws.set q0 (a, .inl (G.2 3, n, .inr (.inr (.inr (.inl (vf_upd f i x)))))) = ws2) (hdg : decode cc pc = .ok (.dastore, 1))
    (kk : ∀ H1 locs1, kW G A s ws2 H1 locs1 → W p l e R s m args below meth c H1 locs1 cells slots Q (F0 m (pc + 1) ls rest)) : W p l e R s m args below meth c H locs cells slots Q (F0 m pc ls (.double x :: .int (iI (i : Int)) :: .ref a :: rest)) := by
  subst h2
  exact va_dast (D := G.1) (cl := vwCl) (tys := kT G) hm.1 hm.2.1 hw.2.2.2.1.1 hw.1 hw.2.1 hw.2.2.1 q0 3 ha rfl (iI_in (by omega)) hdg (fun H1 l1 hP hD hS => kk H1 l1 ⟨by rw [iI_clamp (by omega) (by omega)] at hP; exact hP, by rw [iI_clamp (by omega) (by omega)] at hD; exact hD, hS, hw.2.2.2.1, hw.2.2.2.2⟩)
/-- a call of a method that catches -/
theorem k_callSX (hm : kM p m c cc nL s args Ts own meth ret) (hw : kW G A s ws H locs) (hl : lv_has ls nL ll) (hxs : kXs s) (hst : kSt A s s.heap) {y : MethodName} {wsC wsC' : List Cond} {fr lo mc1 ms1 maxL index n : Nat} {bytes : ByteArray} {retC : Option FieldType} {hh : List (Nat × Nat × Nat × Nat)} {As : List Value} {wp wr : va_W} {post1 : Option Value → va_W → Prop} (hC : kCX l y wsC fr lo mc1 ms1 G As wp post1) (hT : GoodIn Ts (va_wsS own index y wsC)) (hwd : wsC = Cond.codeWith y bytes maxL retC hh :: wsC') (hd : y.cls ≠ "java/lang/invoke/MethodHandle" ∧ y.cls ≠ "java/lang/invoke/VarHandle" ∧ (parseMethodDescriptor y.desc).map (fun d => d.parameters.length) = some n) (hR : fr + 1 ≤ R.frames ∧ 8 + (maxL + 11) + lo ≤ R.locals)
    (isC isR : List Nat) (hnC : va_nd isC = true) (hCe : isC.map (fun i => ws[i]?) = wp.map some) (hRe : isR.map (fun i => ws[i]?) = wr.map some) (hnR : va_nd isR = true) (hdis : ∀ i ∈ isR, i ∉ isC) (hn : As.length = n) (hst2 : st = As.reverse ++ rest) (hcat : (rest.map fun v => v.category).sum ≤ 8) (hf : cells + mc1 ≤ R.cells ∧ slots + ms1 ≤ R.slots) (hdg : decode cc pc = .ok (.invokestatic index, 3))
    (kk : ∀ (v : Option Value) (w1 : va_W) (H1 : Heap) (locs1 : List Loc), post1 v w1 → kW G A s (wr ++ w1) H1 locs1 → W p l e R s m args below meth c H1 locs1 (cells + mc1) (slots + ms1) Q (F0 m (pc + 3) ls (v.toList ++ rest))) : W p l e R s m args below meth c H locs cells slots Q (F0 m pc ls st) :=
  k_after hw isC isR hCe hRe hnR hdis (vx_runSW (As := As) (rest := rest) ⟨hm.1, hm.2.1, hm.2.2.1, hm.2.2.2.1, hm.2.2.2.2.1⟩ (hC H.size) (vx_cwSW n hm.2.2.2.2.1 hT hwd rfl rfl hd hR) ⟨kPreX_blind, hw.preX hxs hst isC hnC hCe _⟩ rfl hn hl.1 hst2 (lv_room hcat) hdg hf) kk
end KROWAN
set_option maxHeartbeats 4000000 in
set_option maxRecDepth 100000 in
theorem c_w_begin_ok (l : Launch) (G : kG) (o : Nat) (T : Nat → Nat) (L : Nat → Nat) (M : Nat → Nat) (P : Nat → Nat) (gk : Nat → Nat) (gw : Nat → Nat) (gt : Nat → Nat) (gy : Nat → Nat) (R : Nat) (sp : Bool) (h : Nat) (hs : Nat) (Q : Nat → Nat → Nat) (ak : Nat → Nat → Nat) (aw : Nat → Nat → Nat) (au : Nat → Nat → Nat) (ay : Nat → Nat → Nat) (aR : Nat → Nat) (aS : Nat → Bool) (nx : Nat) (sz : Nat) (K : Nat → Nat → Nat) (w : Nat → Nat) (y : Nat → Nat) (sv : Nat → PSt) (n : Nat) (ou : Nat) (fo : Nat → Int64) (hok : POk gk gw gt gy R K w y) (hho : HOk ak aw au ay aR aS nx sz sv) (hn : 3 ≤ n ∧ n ≤ 12) : kCX l yL_begin wsL_begin 8 132 1 6 G [.ref (o), vN (n), .ref (ou)] (wMain G o P h T L M ++ (wPiece G P gk gw gt gy R sp ++ (wHist G h hs Q ak aw au ay aR aS nx sz ++ [(ou, .inl (G.2 1, 1, .inr (.inl fo)))]))) (fun vv uu => ∃ (gk2 : Nat → Nat), ∃ (gw2 : Nat → Nat), ∃ (gt2 : Nat → Nat), ∃ (ak2 : Nat → Nat → Nat), ∃ (aw2 : Nat → Nat → Nat), ∃ (au2 : Nat → Nat → Nat), ∃ (ay2 : Nat → Nat → Nat), ∃ (aR2 : Nat → Nat), ∃ (aS2 : Nat → Bool), vv = some (vN (0)) ∧ uu = wMain G o P h T L M ++ (wPiece G P gk2 gw2 gt2 gy 1 sp ++ (wHist G h hs Q ak2 aw2 au2 ay2 aR2 aS2 ((nx + 1) % 4) (Nat.min (sz + 1) 4) ++ [(ou, .inl (G.2 1, 1, .inr (.inl (vp_updL fo 0 (i2L ((R : Nat) : Int))))))])) ∧ (POk gk2 gw2 gt2 gy 1 (fun _ _ => 0) (fun _ => n) y) ∧ (HOk ak2 aw2 au2 ay2 aR2 aS2 ((nx + 1) % 4) (Nat.min (sz + 1) 4) (svPush (R, sp, K, w, y) sv))) := by
  refine kCX.of (cc := cL_begin) (maxL := 4) (ret := (some .int)) (by decide) rfl (Nat.le_of_ble_eq_true rfl) ?_
  intro p e s m args below meth c A ls Qz hQ htb hxs hst hm hw hl
  have hl : lv_has ls 4 [(0, .ref (o)), (1, vN (n)), (2, .ref (ou))] := hl
  refine k_aload_n hm hl 2 rfl dL_begin_0 ?_
  refine k_iconstN hm 0 dL_begin_1 ?_
  refine k_aload_n hm hl 0 rfl dL_begin_2 ?_
  refine k_iload_n hm hl 1 rfl dL_begin_3 ?_
  refine k_callV (n := 1) (As := [vN (n)]) (rest := [vN (0), .ref (ou)]) (wr := [(ou, .inl (G.2 1, 1, .inr (.inl fo)))]) hm hw hl (c_begin_ok l G o T L M P gk gw gt gy R sp h hs Q ak aw au ay aR aS nx sz K w y sv n (by first | assumption | omega) (by first | assumption | omega) (by first | assumption | omega)) gL_begin_X6_begin rfl (by decide +kernel) ⟨by decide, by decide⟩ (ci := 6) rfl 0 rfl [0, 1, 2, 3, 4, 5, 6, 7, 8, 9, 10, 11, 12, 13, 14, 15, 16, 17, 18, 19, 20, 21, 22, 23, 24, 25, 26, 27, 28, 29, 30, 31, 32, 33, 34, 35, 36, 37, 38, 39, 40, 41, 42, 43, 44, 45, 46, 47] [48] (by decide) rfl rfl (by decide) (by decide) rfl rfl (by simp [Value.category]) ⟨by decide, by decide⟩ dL_begin_4 (fun v w1 H locs hp hw => ?_)
  obtain ⟨gk2_2, gw2_3, gt2_4, ak2_5, aw2_6, au2_7, ay2_8, aR2_9, aS2_10, rfl, rfl, hok2_11, hho2_12⟩ := hp
  have hw := hw.sub (ws' := wMain G o P h T L M ++ (wPiece G P gk2_2 gw2_3 gt2_4 gy 1 sp ++ (wHist G h hs Q ak2_5 aw2_6 au2_7 ay2_8 aR2_9 aS2_10 ((nx + 1) % 4) (Nat.min (sz + 1) 4) ++ [(ou, .inl (G.2 1, 1, .inr (.inl fo)))]))) [1, 2, 3, 4, 5, 6, 7, 8, 9, 10, 11, 12, 13, 14, 15, 16, 17, 18, 19, 20, 21, 22, 23, 24, 25, 26, 27, 28, 29, 30, 31, 32, 33, 34, 35, 36, 37, 38, 39, 40, 41, 42, 43, 44, 45, 46, 47, 48, 0] (by decide) rfl
  refine W.eq (g2 := F0 m 7 ls [vN (R), vN (0), .ref (ou)]) rfl ?_
  refine k_i2lR (x := ((R : Nat) : Int)) hm dL_begin_7 ?_
  refine k_last hm hw 48 (wMain G o P h T L M ++ (wPiece G P gk2_2 gw2_3 gt2_4 gy 1 sp ++ (wHist G h hs Q ak2_5 aw2_6 au2_7 ay2_8 aR2_9 aS2_10 ((nx + 1) % 4) (Nat.min (sz + 1) 4) ++ [(ou, .inl (G.2 1, 1, .inr (.inl (vp_updL fo 0 (i2L ((R : Nat) : Int))))))]))) rfl (by omega) rfl dL_begin_8 (fun H locs hw => ?_)
  refine k_goto (tgt := 15) hm dL_begin_9 (by decide) ?_
  refine k_iconstN hm 0 dL_begin_15 ?_
  exact k_iret (post := _) hm hQ rfl rfl hw (⟨gk2_2, gw2_3, gt2_4, ak2_5, aw2_6, au2_7, ay2_8, aR2_9, aS2_10, rfl, rfl, hok2_11, hho2_12⟩) (by omega) (by omega) dL_begin_16
set_option maxHeartbeats 4000000 in
set_option maxRecDepth 100000 in
theorem c_w_begin_x (l : Launch) (G : kG) (o : Nat) (h : Nat) (T : Nat → Nat) (L : Nat → Nat) (M : Nat → Nat) (P : Nat → Nat) (gk : Nat → Nat) (gw : Nat → Nat) (gt : Nat → Nat) (gy : Nat → Nat) (R : Nat) (sp : Bool) (z : Int) (ou : Nat) (fo : Nat → Int64) (htr : l.stackTraces = false) (hz : -2147483648 ≤ z ∧ z < 2147483648) (hx : ¬ (3 ≤ z ∧ z ≤ 12)) : kCX l yL_begin wsL_begin 8 132 1 6 G [.ref (o), vZ (z), .ref (ou)] (wMain G o P h T L M ++ (wPiece G P gk gw gt gy R sp ++ [(ou, .inl (G.2 1, 1, .inr (.inl fo)))])) (fun vv uu => vv = some (vN (1)) ∧ uu = wMain G o P h T L M ++ (wPiece G P gk gw gt gy R sp ++ [(ou, .inl (G.2 1, 1, .inr (.inl fo)))])) := by
  refine kCX.of (cc := cL_begin) (maxL := 4) (ret := (some .int)) (by decide) rfl (Nat.le_of_ble_eq_true rfl) ?_
  intro p e s m args below meth c A ls Qz hQ htb hxs hst hm hw hl
  have hl : lv_has ls 4 [(0, .ref (o)), (1, vZ (z)), (2, .ref (ou))] := hl
  refine k_aload_n hm hl 2 rfl dL_begin_0 ?_
  refine k_iconstN hm 0 dL_begin_1 ?_
  refine k_aload_n hm hl 0 rfl dL_begin_2 ?_
  refine k_iload_n hm hl 1 rfl dL_begin_3 ?_
  refine k_callVx (n := 1) (As := [vZ (z)]) (rest := [vN (0), .ref (ou)]) (wr := [(ou, .inl (G.2 1, 1, .inr (.inl fo)))]) hm hw hl hxs hst (c_begin_x l G o h T L M P gk gw gt gy R sp z (by first | assumption | omega) (by first | assumption | omega) (by first | assumption | omega)) gL_begin_X6_begin rfl (by decide +kernel) ⟨by decide, by decide⟩ (ci := 6) rfl 0 rfl [0, 1, 2, 3, 4, 5, 6, 7, 8, 9] [10] (by decide) rfl rfl (by decide) (by decide) rfl rfl (by simp [Value.category]) ⟨by decide, by decide⟩ dL_begin_4 (fun q ce w1 H locs hp hw he1 he2 he3 => ?_)
  obtain rfl := hp
  have hw := hw.sub (ws' := wMain G o P h T L M ++ (wPiece G P gk gw gt gy R sp ++ [(ou, .inl (G.2 1, 1, .inr (.inl fo)))])) [1, 2, 3, 4, 5, 6, 7, 8, 9, 10, 0] (by decide) rfl
  refine vx_catch (name := xI) hm.2.2.2.1 [] ⟨0, 9, 12, 13⟩ [] (htb.trans rfl) (fun z hz => by exact absurd hz List.not_mem_nil) (by decide) (by decide) (hm.2.2.2.2.1 (.classLink RL 13 xI) (by decide +kernel)) (k_cast hxs (by decide)) he1 he2 he3 ?_
  refine W.eq (g2 := F0 m 12 ls [.ref (q)]) rfl ?_
  refine k_astore_n hm hl [(3, .ref (q)), (0, .ref (o)), (1, vZ (z)), (2, .ref (ou))] (by decide) rfl dL_begin_12 (fun ls hl => ?_)
  refine k_iconstN hm 1 dL_begin_13 ?_
  exact k_iret (post := _) hm hQ rfl rfl hw (⟨rfl, rfl⟩) (by omega) (by omega) dL_begin_14
set_option maxHeartbeats 4000000 in
set_option maxRecDepth 100000 in
theorem c_w_addRound_ok (l : Launch) (G : kG) (o : Nat) (T : Nat → Nat) (L : Nat → Nat) (M : Nat → Nat) (P : Nat → Nat) (gk : Nat → Nat) (gw : Nat → Nat) (gt : Nat → Nat) (gy : Nat → Nat) (R : Nat) (sp : Bool) (h : Nat) (hs : Nat) (Q : Nat → Nat → Nat) (ak : Nat → Nat → Nat) (aw : Nat → Nat → Nat) (au : Nat → Nat → Nat) (ay : Nat → Nat → Nat) (aR : Nat → Nat) (aS : Nat → Bool) (nx : Nat) (sz : Nat) (f : Nat → Nat) (wk : Nat) (sd : Nat) (kd : Nat) (mf : Nat → Nat) (K : Nat → Nat → Nat) (w : Nat → Nat) (y : Nat → Nat) (sv : Nat → PSt) (t : Nat) (ou : Nat) (fo : Nat → Int64) (hok : POk gk gw gt gy R K w y) (hho : HOk ak aw au ay aR aS nx sz sv) (hR40 : R < 40) (ht : 3 ≤ t ∧ t ≤ 120) (hpo : isPo (sumM (K (R - 1)) (w (R - 1))) t) : kCX l yL_addRound wsL_addRound 9 151 1 6 G [.ref (o), vN (t), .ref (ou)] (wMain G o P h T L M ++ (wPiece G P gk gw gt gy R sp ++ (wHist G h hs Q ak aw au ay aR aS nx sz ++ (wPlan G L f wk sd kd ++ (wMk G M mf ++ [(ou, .inl (G.2 1, 1, .inr (.inl fo)))]))))) (fun vv uu => ∃ (b : Nat), ∃ (gk2 : Nat → Nat), ∃ (gw2 : Nat → Nat), ∃ (gt2 : Nat → Nat), ∃ (ak2 : Nat → Nat → Nat), ∃ (aw2 : Nat → Nat → Nat), ∃ (au2 : Nat → Nat → Nat), ∃ (ay2 : Nat → Nat → Nat), ∃ (aR2 : Nat → Nat), ∃ (aS2 : Nat → Bool), ∃ (f2 : Nat → Nat), ∃ (mf2 : Nat → Nat), vv = some (vN (0)) ∧ uu = wMain G o P h T L M ++ (wPiece G P gk2 gw2 gt2 gy (R + 1) sp ++ (wHist G h hs Q ak2 aw2 au2 ay2 aR2 aS2 ((nx + 1) % 4) (Nat.min (sz + 1) 4) ++ (wPlan G L f2 (pm (sumM (K (R - 1)) (w (R - 1))) t) (pd (sumM (K (R - 1)) (w (R - 1))) t) (pk (sumM (K (R - 1)) (w (R - 1))) t) ++ (wMk G M mf2 ++ [(ou, .inl (G.2 1, 1, .inr (.inl (vp_updL fo 0 (i2L ((b : Nat) : Int))))))])))) ∧ (isBst (stkC (K (R - 1)) (w (R - 1)) (sumM (K (R - 1)) (w (R - 1))) t) (pm (sumM (K (R - 1)) (w (R - 1))) t) b) ∧ (POk gk2 gw2 gt2 gy (R + 1) (fup K R (spR (sumM (K (R - 1)) (w (R - 1))) t b)) (fup w R (pm (sumM (K (R - 1)) (w (R - 1))) t)) y) ∧ (HOk ak2 aw2 au2 ay2 aR2 aS2 ((nx + 1) % 4) (Nat.min (sz + 1) 4) (svPush (R, sp, K, w, y) sv))) := by
  refine kCX.of (cc := cL_addRound) (maxL := 4) (ret := (some .int)) (by decide) rfl (Nat.le_of_ble_eq_true rfl) ?_
  intro p e s m args below meth c A ls Qz hQ htb hxs hst hm hw hl
  have hl : lv_has ls 4 [(0, .ref (o)), (1, vN (t)), (2, .ref (ou))] := hl
  refine k_aload_n hm hl 2 rfl dL_addRound_0 ?_
  refine k_iconstN hm 0 dL_addRound_1 ?_
  refine k_aload_n hm hl 0 rfl dL_addRound_2 ?_
  refine k_iload_n hm hl 1 rfl dL_addRound_3 ?_
  refine k_callV (n := 1) (As := [vN (t)]) (rest := [vN (0), .ref (ou)]) (wr := [(ou, .inl (G.2 1, 1, .inr (.inl fo)))]) hm hw hl (c_addRound_ok l G o T L M P gk gw gt gy R sp h hs Q ak aw au ay aR aS nx sz f wk sd kd mf K w y sv t (by first | assumption | omega) (by first | assumption | omega) (by first | assumption | omega) (by first | assumption | omega) (by first | assumption | omega)) gL_addRound_X6_addRound rfl (by decide +kernel) ⟨by decide, by decide⟩ (ci := 6) rfl 0 rfl [0, 1, 2, 3, 4, 5, 6, 7, 8, 9, 10, 11, 12, 13, 14, 15, 16, 17, 18, 19, 20, 21, 22, 23, 24, 25, 26, 27, 28, 29, 30, 31, 32, 33, 34, 35, 36, 37, 38, 39, 40, 41, 42, 43, 44, 45, 46, 47, 48, 49, 50, 51, 52, 53] [54] (by decide) rfl rfl (by decide) (by decide) rfl rfl (by simp [Value.category]) ⟨by decide, by decide⟩ dL_addRound_4 (fun v w1 H locs hp hw => ?_)
  obtain ⟨b_2, gk2_3, gw2_4, gt2_5, ak2_6, aw2_7, au2_8, ay2_9, aR2_10, aS2_11, f2_12, mf2_13, rfl, rfl, hbst_14, hok2_15, hho2_16⟩ := hp
  have hw := hw.sub (ws' := wMain G o P h T L M ++ (wPiece G P gk2_3 gw2_4 gt2_5 gy (R + 1) sp ++ (wHist G h hs Q ak2_6 aw2_7 au2_8 ay2_9 aR2_10 aS2_11 ((nx + 1) % 4) (Nat.min (sz + 1) 4) ++ (wPlan G L f2_12 (pm (sumM (K (R - 1)) (w (R - 1))) t) (pd (sumM (K (R - 1)) (w (R - 1))) t) (pk (sumM (K (R - 1)) (w (R - 1))) t) ++ (wMk G M mf2_13 ++ [(ou, .inl (G.2 1, 1, .inr (.inl fo)))]))))) [1, 2, 3, 4, 5, 6, 7, 8, 9, 10, 11, 12, 13, 14, 15, 16, 17, 18, 19, 20, 21, 22, 23, 24, 25, 26, 27, 28, 29, 30, 31, 32, 33, 34, 35, 36, 37, 38, 39, 40, 41, 42, 43, 44, 45, 46, 47, 48, 49, 50, 51, 52, 53, 54, 0] (by decide) rfl
  refine W.eq (g2 := F0 m 7 ls [vN (b_2), vN (0), .ref (ou)]) rfl ?_
  refine k_i2lR (x := ((b_2 : Nat) : Int)) hm dL_addRound_7 ?_
  refine k_last hm hw 54 (wMain G o P h T L M ++ (wPiece G P gk2_3 gw2_4 gt2_5 gy (R + 1) sp ++ (wHist G h hs Q ak2_6 aw2_7 au2_8 ay2_9 aR2_10 aS2_11 ((nx + 1) % 4) (Nat.min (sz + 1) 4) ++ (wPlan G L f2_12 (pm (sumM (K (R - 1)) (w (R - 1))) t) (pd (sumM (K (R - 1)) (w (R - 1))) t) (pk (sumM (K (R - 1)) (w (R - 1))) t) ++ (wMk G M mf2_13 ++ [(ou, .inl (G.2 1, 1, .inr (.inl (vp_updL fo 0 (i2L ((b_2 : Nat) : Int))))))]))))) rfl (by omega) rfl dL_addRound_8 (fun H locs hw => ?_)
  refine k_goto (tgt := 21) hm dL_addRound_9 (by decide) ?_
  refine k_iconstN hm 0 dL_addRound_21 ?_
  exact k_iret (post := _) hm hQ rfl rfl hw (⟨b_2, gk2_3, gw2_4, gt2_5, ak2_6, aw2_7, au2_8, ay2_9, aR2_10, aS2_11, f2_12, mf2_13, rfl, rfl, hbst_14, hok2_15, hho2_16⟩) (by omega) (by omega) dL_addRound_22
set_option maxHeartbeats 4000000 in
set_option maxRecDepth 100000 in
theorem c_w_addRound_x1 (l : Launch) (G : kG) (o : Nat) (h : Nat) (T : Nat → Nat) (L : Nat → Nat) (M : Nat → Nat) (P : Nat → Nat) (gk : Nat → Nat) (gw : Nat → Nat) (gt : Nat → Nat) (gy : Nat → Nat) (R : Nat) (sp : Bool) (z : Int) (ou : Nat) (fo : Nat → Int64) (htr : l.stackTraces = false) (hz : -2147483648 ≤ z ∧ z < 2147483648) (hx : ¬ (3 ≤ z ∧ z ≤ 120)) : kCX l yL_addRound wsL_addRound 9 151 1 6 G [.ref (o), vZ (z), .ref (ou)] (wMain G o P h T L M ++ (wPiece G P gk gw gt gy R sp ++ [(ou, .inl (G.2 1, 1, .inr (.inl fo)))])) (fun vv uu => vv = some (vN (1)) ∧ uu = wMain G o P h T L M ++ (wPiece G P gk gw gt gy R sp ++ [(ou, .inl (G.2 1, 1, .inr (.inl fo)))])) := by
  refine kCX.of (cc := cL_addRound) (maxL := 4) (ret := (some .int)) (by decide) rfl (Nat.le_of_ble_eq_true rfl) ?_
  intro p e s m args below meth c A ls Qz hQ htb hxs hst hm hw hl
  have hl : lv_has ls 4 [(0, .ref (o)), (1, vZ (z)), (2, .ref (ou))] := hl
  refine k_aload_n hm hl 2 rfl dL_addRound_0 ?_
  refine k_iconstN hm 0 dL_addRound_1 ?_
  refine k_aload_n hm hl 0 rfl dL_addRound_2 ?_
  refine k_iload_n hm hl 1 rfl dL_addRound_3 ?_
  refine k_callVx (n := 1) (As := [vZ (z)]) (rest := [vN (0), .ref (ou)]) (wr := [(ou, .inl (G.2 1, 1, .inr (.inl fo)))]) hm hw hl hxs hst (c_addRound_x1 l G o h T L M P gk gw gt gy R sp z (by first | assumption | omega) (by first | assumption | omega) (by first | assumption | omega)) gL_addRound_X6_addRound rfl (by decide +kernel) ⟨by decide, by decide⟩ (ci := 6) rfl 0 rfl [0, 1, 2, 3, 4, 5, 6, 7, 8, 9] [10] (by decide) rfl rfl (by decide) (by decide) rfl rfl (by simp [Value.category]) ⟨by decide, by decide⟩ dL_addRound_4 (fun q ce w1 H locs hp hw he1 he2 he3 => ?_)
  obtain rfl := hp
  have hw := hw.sub (ws' := wMain G o P h T L M ++ (wPiece G P gk gw gt gy R sp ++ [(ou, .inl (G.2 1, 1, .inr (.inl fo)))])) [1, 2, 3, 4, 5, 6, 7, 8, 9, 10, 0] (by decide) rfl
  refine vx_catch (name := xI) hm.2.2.2.1 [] ⟨0, 9, 12, 13⟩ [⟨0, 9, 15, 18⟩, ⟨0, 9, 18, 20⟩] (htb.trans rfl) (fun z hz => by exact absurd hz List.not_mem_nil) (by decide) (by decide) (hm.2.2.2.2.1 (.classLink RL 13 xI) (by decide +kernel)) (k_cast hxs (by decide)) he1 he2 he3 ?_
  refine W.eq (g2 := F0 m 12 ls [.ref (q)]) rfl ?_
  refine k_astore_n hm hl [(3, .ref (q)), (0, .ref (o)), (1, vZ (z)), (2, .ref (ou))] (by decide) rfl dL_addRound_12 (fun ls hl => ?_)
  refine k_iconstN hm 1 dL_addRound_13 ?_
  exact k_iret (post := _) hm hQ rfl rfl hw (⟨rfl, rfl⟩) (by omega) (by omega) dL_addRound_14
set_option maxHeartbeats 4000000 in
set_option maxRecDepth 100000 in
theorem c_w_addRound_x2 (l : Launch) (G : kG) (o : Nat) (h : Nat) (T : Nat → Nat) (L : Nat → Nat) (M : Nat → Nat) (P : Nat → Nat) (gk : Nat → Nat) (gw : Nat → Nat) (gt : Nat → Nat) (gy : Nat → Nat) (R : Nat) (sp : Bool) (t : Nat) (ou : Nat) (fo : Nat → Int64) (htr : l.stackTraces = false) (ht : 3 ≤ t ∧ t ≤ 120) (hR40 : 40 ≤ R ∧ R ≤ 40) : kCX l yL_addRound wsL_addRound 9 151 1 6 G [.ref (o), vN (t), .ref (ou)] (wMain G o P h T L M ++ (wPiece G P gk gw gt gy R sp ++ [(ou, .inl (G.2 1, 1, .inr (.inl fo)))])) (fun vv uu => vv = some (vN (2)) ∧ uu = wMain G o P h T L M ++ (wPiece G P gk gw gt gy R sp ++ [(ou, .inl (G.2 1, 1, .inr (.inl fo)))])) := by
  refine kCX.of (cc := cL_addRound) (maxL := 4) (ret := (some .int)) (by decide) rfl (Nat.le_of_ble_eq_true rfl) ?_
  intro p e s m args below meth c A ls Qz hQ htb hxs hst hm hw hl
  have hl : lv_has ls 4 [(0, .ref (o)), (1, vN (t)), (2, .ref (ou))] := hl
  refine k_aload_n hm hl 2 rfl dL_addRound_0 ?_
  refine k_iconstN hm 0 dL_addRound_1 ?_
  refine k_aload_n hm hl 0 rfl dL_addRound_2 ?_
  refine k_iload_n hm hl 1 rfl dL_addRound_3 ?_
  refine k_callVx (n := 1) (As := [vN (t)]) (rest := [vN (0), .ref (ou)]) (wr := [(ou, .inl (G.2 1, 1, .inr (.inl fo)))]) hm hw hl hxs hst (c_addRound_x2 l G o h T L M P gk gw gt gy R sp t (by first | assumption | omega) (by first | assumption | omega) (by first | assumption | omega)) gL_addRound_X6_addRound rfl (by decide +kernel) ⟨by decide, by decide⟩ (ci := 6) rfl 0 rfl [0, 1, 2, 3, 4, 5, 6, 7, 8, 9] [10] (by decide) rfl rfl (by decide) (by decide) rfl rfl (by simp [Value.category]) ⟨by decide, by decide⟩ dL_addRound_4 (fun q ce w1 H locs hp hw he1 he2 he3 => ?_)
  obtain rfl := hp
  have hw := hw.sub (ws' := wMain G o P h T L M ++ (wPiece G P gk gw gt gy R sp ++ [(ou, .inl (G.2 1, 1, .inr (.inl fo)))])) [1, 2, 3, 4, 5, 6, 7, 8, 9, 10, 0] (by decide) rfl
  refine vx_catch (name := xS) hm.2.2.2.1 [⟨0, 9, 12, 13⟩] ⟨0, 9, 15, 18⟩ [⟨0, 9, 18, 20⟩] (htb.trans rfl) (fun z hz => by rcases List.mem_cons.mp hz with rfl | hz; exact Or.inr ⟨by decide, xI, hm.2.2.2.2.1 (.classLink RL 13 xI) (by decide +kernel), hxs.2.2.1⟩; exact absurd hz List.not_mem_nil) (by decide) (by decide) (hm.2.2.2.2.1 (.classLink RL 18 xS) (by decide +kernel)) (k_cast hxs (by decide)) he1 he2 he3 ?_
  refine W.eq (g2 := F0 m 15 ls [.ref (q)]) rfl ?_
  refine k_astore_n hm hl [(3, .ref (q)), (0, .ref (o)), (1, vN (t)), (2, .ref (ou))] (by decide) rfl dL_addRound_15 (fun ls hl => ?_)
  refine k_iconstN hm 2 dL_addRound_16 ?_
  exact k_iret (post := _) hm hQ rfl rfl hw (⟨rfl, rfl⟩) (by omega) (by omega) dL_addRound_17
set_option maxHeartbeats 4000000 in
set_option maxRecDepth 100000 in
theorem c_w_addRound_x3 (l : Launch) (G : kG) (o : Nat) (h : Nat) (T : Nat → Nat) (L : Nat → Nat) (M : Nat → Nat) (P : Nat → Nat) (gk : Nat → Nat) (gw : Nat → Nat) (gt : Nat → Nat) (gy : Nat → Nat) (R : Nat) (sp : Bool) (f : Nat → Nat) (wk : Nat) (sd : Nat) (kd : Nat) (K : Nat → Nat → Nat) (w : Nat → Nat) (y : Nat → Nat) (t : Nat) (ou : Nat) (fo : Nat → Int64) (htr : l.stackTraces = false) (hok : POk gk gw gt gy R K w y) (ht : 3 ≤ t ∧ t ≤ 120) (hR40 : R < 40) (hpo : ¬ isPo (sumM (K (R - 1)) (w (R - 1))) t) : kCX l yL_addRound wsL_addRound 9 151 1 6 G [.ref (o), vN (t), .ref (ou)] (wMain G o P h T L M ++ (wPiece G P gk gw gt gy R sp ++ (wPlan G L f wk sd kd ++ [(ou, .inl (G.2 1, 1, .inr (.inl fo)))]))) (fun vv uu => ∃ (f2 : Nat → Nat), vv = some (vN (3)) ∧ uu = wMain G o P h T L M ++ (wPiece G P gk gw gt gy R sp ++ (wPlan G L f2 (pm (sumM (K (R - 1)) (w (R - 1))) t) (pd (sumM (K (R - 1)) (w (R - 1))) t) (pk (sumM (K (R - 1)) (w (R - 1))) t) ++ [(ou, .inl (G.2 1, 1, .inr (.inl fo)))]))) := by
  refine kCX.of (cc := cL_addRound) (maxL := 4) (ret := (some .int)) (by decide) rfl (Nat.le_of_ble_eq_true rfl) ?_
  intro p e s m args below meth c A ls Qz hQ htb hxs hst hm hw hl
  have hl : lv_has ls 4 [(0, .ref (o)), (1, vN (t)), (2, .ref (ou))] := hl
  refine k_aload_n hm hl 2 rfl dL_addRound_0 ?_
  refine k_iconstN hm 0 dL_addRound_1 ?_
  refine k_aload_n hm hl 0 rfl dL_addRound_2 ?_
  refine k_iload_n hm hl 1 rfl dL_addRound_3 ?_
  refine k_callVx (n := 1) (As := [vN (t)]) (rest := [vN (0), .ref (ou)]) (wr := [(ou, .inl (G.2 1, 1, .inr (.inl fo)))]) hm hw hl hxs hst (c_addRound_x3 l G o h T L M P gk gw gt gy R sp f wk sd kd K w y t (by first | assumption | omega) (by first | assumption | omega) (by first | assumption | omega) (by first | assumption | omega) (by first | assumption | omega)) gL_addRound_X6_addRound rfl (by decide +kernel) ⟨by decide, by decide⟩ (ci := 6) rfl 0 rfl [0, 1, 2, 3, 4, 5, 6, 7, 8, 9, 10, 11, 12] [13] (by decide) rfl rfl (by decide) (by decide) rfl rfl (by simp [Value.category]) ⟨by decide, by decide⟩ dL_addRound_4 (fun q ce w1 H locs hp hw he1 he2 he3 => ?_)
  obtain ⟨f2_2, rfl⟩ := hp
  have hw := hw.sub (ws' := wMain G o P h T L M ++ (wPiece G P gk gw gt gy R sp ++ (wPlan G L f2_2 (pm (sumM (K (R - 1)) (w (R - 1))) t) (pd (sumM (K (R - 1)) (w (R - 1))) t) (pk (sumM (K (R - 1)) (w (R - 1))) t) ++ [(ou, .inl (G.2 1, 1, .inr (.inl fo)))]))) [1, 2, 3, 4, 5, 6, 7, 8, 9, 10, 11, 12, 13, 0] (by decide) rfl
  refine vx_catch (name := xU) hm.2.2.2.1 [⟨0, 9, 12, 13⟩, ⟨0, 9, 15, 18⟩] ⟨0, 9, 18, 20⟩ [] (htb.trans rfl) (fun z hz => by rcases List.mem_cons.mp hz with rfl | hz; exact Or.inr ⟨by decide, xI, hm.2.2.2.2.1 (.classLink RL 13 xI) (by decide +kernel), hxs.2.2.2.1⟩; rcases List.mem_cons.mp hz with rfl | hz; exact Or.inr ⟨by decide, xS, hm.2.2.2.2.1 (.classLink RL 18 xS) (by decide +kernel), hxs.2.2.2.2.1⟩; exact absurd hz List.not_mem_nil) (by decide) (by decide) (hm.2.2.2.2.1 (.classLink RL 20 xU) (by decide +kernel)) (k_cast hxs (by decide)) he1 he2 he3 ?_
  refine W.eq (g2 := F0 m 18 ls [.ref (q)]) rfl ?_
  refine k_astore_n hm hl [(3, .ref (q)), (0, .ref (o)), (1, vN (t)), (2, .ref (ou))] (by decide) rfl dL_addRound_18 (fun ls hl => ?_)
  refine k_iconstN hm 3 dL_addRound_19 ?_
  exact k_iret (post := _) hm hQ rfl rfl hw (⟨f2_2, rfl, rfl⟩) (by omega) (by omega) dL_addRound_20
set_option maxHeartbeats 4000000 in
set_option maxRecDepth 100000 in
theorem c_w_addShifted_ok (l : Launch) (G : kG) (o : Nat) (T : Nat → Nat) (L : Nat → Nat) (M : Nat → Nat) (P : Nat → Nat) (gk : Nat → Nat) (gw : Nat → Nat) (gt : Nat → Nat) (gy : Nat → Nat) (R : Nat) (sp : Bool) (h : Nat) (hs : Nat) (Q : Nat → Nat → Nat) (ak : Nat → Nat → Nat) (aw : Nat → Nat → Nat) (au : Nat → Nat → Nat) (ay : Nat → Nat → Nat) (aR : Nat → Nat) (aS : Nat → Bool) (nx : Nat) (sz : Nat) (f : Nat → Nat) (wk : Nat) (sd : Nat) (kd : Nat) (mf : Nat → Nat) (K : Nat → Nat → Nat) (w : Nat → Nat) (y : Nat → Nat) (sv : Nat → PSt) (t : Nat) (x : Nat) (ou : Nat) (fo : Nat → Int64) (hok : POk gk gw gt gy R K w y) (hho : HOk ak aw au ay aR aS nx sz sv) (hR40 : R < 40) (ht : 3 ≤ t ∧ t ≤ 120) (hpo : isPo (sumM (K (R - 1)) (w (R - 1))) t) (hx : x < 120) : kCX l yL_addShifted wsL_addShifted 9 152 1 6 G [.ref (o), vN (t), vN (x), .ref (ou)] (wMain G o P h T L M ++ (wPiece G P gk gw gt gy R sp ++ (wHist G h hs Q ak aw au ay aR aS nx sz ++ (wPlan G L f wk sd kd ++ (wMk G M mf ++ [(ou, .inl (G.2 1, 1, .inr (.inl fo)))]))))) (fun vv uu => ∃ (gk2 : Nat → Nat), ∃ (gw2 : Nat → Nat), ∃ (gt2 : Nat → Nat), ∃ (ak2 : Nat → Nat → Nat), ∃ (aw2 : Nat → Nat → Nat), ∃ (au2 : Nat → Nat → Nat), ∃ (ay2 : Nat → Nat → Nat), ∃ (aR2 : Nat → Nat), ∃ (aS2 : Nat → Bool), ∃ (f2 : Nat → Nat), ∃ (mf2 : Nat → Nat), vv = some (vN (0)) ∧ uu = wMain G o P h T L M ++ (wPiece G P gk2 gw2 gt2 gy (R + 1) sp ++ (wHist G h hs Q ak2 aw2 au2 ay2 aR2 aS2 ((nx + 1) % 4) (Nat.min (sz + 1) 4) ++ (wPlan G L f2 (pm (sumM (K (R - 1)) (w (R - 1))) t) (pd (sumM (K (R - 1)) (w (R - 1))) t) (pk (sumM (K (R - 1)) (w (R - 1))) t) ++ (wMk G M mf2 ++ [(ou, .inl (G.2 1, 1, .inr (.inl (vp_updL fo 0 (i2L ((stkC (K (R - 1)) (w (R - 1)) (sumM (K (R - 1)) (w (R - 1))) t x : Nat) : Int))))))])))) ∧ (POk gk2 gw2 gt2 gy (R + 1) (fup K R (spR (sumM (K (R - 1)) (w (R - 1))) t x)) (fup w R (pm (sumM (K (R - 1)) (w (R - 1))) t)) y) ∧ (HOk ak2 aw2 au2 ay2 aR2 aS2 ((nx + 1) % 4) (Nat.min (sz + 1) 4) (svPush (R, sp, K, w, y) sv))) := by
  refine kCX.of (cc := cL_addShifted) (maxL := 5) (ret := (some .int)) (by decide) rfl (Nat.le_of_ble_eq_true rfl) ?_
  intro p e s m args below meth c A ls Qz hQ htb hxs hst hm hw hl
  have hl : lv_has ls 5 [(0, .ref (o)), (1, vN (t)), (2, vN (x)), (3, .ref (ou))] := hl
  refine k_aload_n hm hl 3 rfl dL_addShifted_0 ?_
  refine k_iconstN hm 0 dL_addShifted_1 ?_
  refine k_aload_n hm hl 0 rfl dL_addShifted_2 ?_
  refine k_iload_n hm hl 1 rfl dL_addShifted_3 ?_
  refine k_iload_n hm hl 2 rfl dL_addShifted_4 ?_
  refine k_callV (n := 2) (As := [vN (t), vN (x)]) (rest := [vN (0), .ref (ou)]) (wr := [(ou, .inl (G.2 1, 1, .inr (.inl fo)))]) hm hw hl (c_addShifted_ok l G o T L M P gk gw gt gy R sp h hs Q ak aw au ay aR aS nx sz f wk sd kd mf K w y sv t x (by first | assumption | omega) (by first | assumption | omega) (by first | assumption | omega) (by first | assumption | omega) (by first | assumption | omega) (by first | assumption | omega)) gL_addShifted_X6_addShifted rfl (by decide +kernel) ⟨by decide, by decide⟩ (ci := 6) rfl 0 rfl [0, 1, 2, 3, 4, 5, 6, 7, 8, 9, 10, 11, 12, 13, 14, 15, 16, 17, 18, 19, 20, 21, 22, 23, 24, 25, 26, 27, 28, 29, 30, 31, 32, 33, 34, 35, 36, 37, 38, 39, 40, 41, 42, 43, 44, 45, 46, 47, 48, 49, 50, 51, 52, 53] [54] (by decide) rfl rfl (by decide) (by decide) rfl rfl (by simp [Value.category]) ⟨by decide, by decide⟩ dL_addShifted_5 (fun v w1 H locs hp hw => ?_)
  obtain ⟨gk2_2, gw2_3, gt2_4, ak2_5, aw2_6, au2_7, ay2_8, aR2_9, aS2_10, f2_11, mf2_12, rfl, rfl, hok2_13, hho2_14⟩ := hp
  have hw := hw.sub (ws' := wMain G o P h T L M ++ (wPiece G P gk2_2 gw2_3 gt2_4 gy (R + 1) sp ++ (wHist G h hs Q ak2_5 aw2_6 au2_7 ay2_8 aR2_9 aS2_10 ((nx + 1) % 4) (Nat.min (sz + 1) 4) ++ (wPlan G L f2_11 (pm (sumM (K (R - 1)) (w (R - 1))) t) (pd (sumM (K (R - 1)) (w (R - 1))) t) (pk (sumM (K (R - 1)) (w (R - 1))) t) ++ (wMk G M mf2_12 ++ [(ou, .inl (G.2 1, 1, .inr (.inl fo)))]))))) [1, 2, 3, 4, 5, 6, 7, 8, 9, 10, 11, 12, 13, 14, 15, 16, 17, 18, 19, 20, 21, 22, 23, 24, 25, 26, 27, 28, 29, 30, 31, 32, 33, 34, 35, 36, 37, 38, 39, 40, 41, 42, 43, 44, 45, 46, 47, 48, 49, 50, 51, 52, 53, 54, 0] (by decide) rfl
  refine W.eq (g2 := F0 m 8 ls [vN (stkC (K (R - 1)) (w (R - 1)) (sumM (K (R - 1)) (w (R - 1))) t x), vN (0), .ref (ou)]) rfl ?_
  refine k_i2lR (x := ((stkC (K (R - 1)) (w (R - 1)) (sumM (K (R - 1)) (w (R - 1))) t x : Nat) : Int)) hm dL_addShifted_8 ?_
  refine k_last hm hw 54 (wMain G o P h T L M ++ (wPiece G P gk2_2 gw2_3 gt2_4 gy (R + 1) sp ++ (wHist G h hs Q ak2_5 aw2_6 au2_7 ay2_8 aR2_9 aS2_10 ((nx + 1) % 4) (Nat.min (sz + 1) 4) ++ (wPlan G L f2_11 (pm (sumM (K (R - 1)) (w (R - 1))) t) (pd (sumM (K (R - 1)) (w (R - 1))) t) (pk (sumM (K (R - 1)) (w (R - 1))) t) ++ (wMk G M mf2_12 ++ [(ou, .inl (G.2 1, 1, .inr (.inl (vp_updL fo 0 (i2L ((stkC (K (R - 1)) (w (R - 1)) (sumM (K (R - 1)) (w (R - 1))) t x : Nat) : Int))))))]))))) rfl (by omega) rfl dL_addShifted_9 (fun H locs hw => ?_)
  refine k_goto (tgt := 25) hm dL_addShifted_10 (by decide) ?_
  refine k_iconstN hm 0 dL_addShifted_25 ?_
  exact k_iret (post := _) hm hQ rfl rfl hw (⟨gk2_2, gw2_3, gt2_4, ak2_5, aw2_6, au2_7, ay2_8, aR2_9, aS2_10, f2_11, mf2_12, rfl, rfl, hok2_13, hho2_14⟩) (by omega) (by omega) dL_addShifted_26
set_option maxHeartbeats 4000000 in
set_option maxRecDepth 100000 in
theorem c_w_addShifted_x1 (l : Launch) (G : kG) (o : Nat) (h : Nat) (T : Nat → Nat) (L : Nat → Nat) (M : Nat → Nat) (P : Nat → Nat) (gk : Nat → Nat) (gw : Nat → Nat) (gt : Nat → Nat) (gy : Nat → Nat) (R : Nat) (sp : Bool) (z : Int) (x : Int) (ou : Nat) (fo : Nat → Int64) (htr : l.stackTraces = false) (hzz : -2147483648 ≤ z ∧ z < 2147483648) (hzx : -2147483648 ≤ x ∧ x < 2147483648) (hx : ¬ ((3 ≤ z ∧ z ≤ 120) ∧ 0 ≤ x ∧ x < 120)) : kCX l yL_addShifted wsL_addShifted 9 152 1 6 G [.ref (o), vZ (z), vZ (x), .ref (ou)] (wMain G o P h T L M ++ (wPiece G P gk gw gt gy R sp ++ [(ou, .inl (G.2 1, 1, .inr (.inl fo)))])) (fun vv uu => vv = some (vN (1)) ∧ uu = wMain G o P h T L M ++ (wPiece G P gk gw gt gy R sp ++ [(ou, .inl (G.2 1, 1, .inr (.inl fo)))])) := by
  refine kCX.of (cc := cL_addShifted) (maxL := 5) (ret := (some .int)) (by decide) rfl (Nat.le_of_ble_eq_true rfl) ?_
  intro p e s m args below meth c A ls Qz hQ htb hxs hst hm hw hl
  have hl : lv_has ls 5 [(0, .ref (o)), (1, vZ (z)), (2, vZ (x)), (3, .ref (ou))] := hl
  refine k_aload_n hm hl 3 rfl dL_addShifted_0 ?_
  refine k_iconstN hm 0 dL_addShifted_1 ?_
  refine k_aload_n hm hl 0 rfl dL_addShifted_2 ?_
  refine k_iload_n hm hl 1 rfl dL_addShifted_3 ?_
  refine k_iload_n hm hl 2 rfl dL_addShifted_4 ?_
  refine k_callVx (n := 2) (As := [vZ (z), vZ (x)]) (rest := [vN (0), .ref (ou)]) (wr := [(ou, .inl (G.2 1, 1, .inr (.inl fo)))]) hm hw hl hxs hst (c_addShifted_x1 l G o h T L M P gk gw gt gy R sp z x (by first | assumption | omega) (by first | assumption | omega) (by first | assumption | omega) (by first | assumption | omega)) gL_addShifted_X6_addShifted rfl (by decide +kernel) ⟨by decide, by decide⟩ (ci := 6) rfl 0 rfl [0, 1, 2, 3, 4, 5, 6, 7, 8, 9] [10] (by decide) rfl rfl (by decide) (by decide) rfl rfl (by simp [Value.category]) ⟨by decide, by decide⟩ dL_addShifted_5 (fun q ce w1 H locs hp hw he1 he2 he3 => ?_)
  obtain rfl := hp
  have hw := hw.sub (ws' := wMain G o P h T L M ++ (wPiece G P gk gw gt gy R sp ++ [(ou, .inl (G.2 1, 1, .inr (.inl fo)))])) [1, 2, 3, 4, 5, 6, 7, 8, 9, 10, 0] (by decide) rfl
  refine vx_catch (name := xI) hm.2.2.2.1 [] ⟨0, 10, 13, 13⟩ [⟨0, 10, 17, 18⟩, ⟨0, 10, 21, 20⟩] (htb.trans rfl) (fun z hz => by exact absurd hz List.not_mem_nil) (by decide) (by decide) (hm.2.2.2.2.1 (.classLink RL 13 xI) (by decide +kernel)) (k_cast hxs (by decide)) he1 he2 he3 ?_
  refine W.eq (g2 := F0 m 13 ls [.ref (q)]) rfl ?_
  refine k_astore hm hl [(4, .ref (q)), (0, .ref (o)), (1, vZ (z)), (2, vZ (x)), (3, .ref (ou))] (by decide) rfl dL_addShifted_13 (fun ls hl => ?_)
  refine k_iconstN hm 1 dL_addShifted_15 ?_
  exact k_iret (post := _) hm hQ rfl rfl hw (⟨rfl, rfl⟩) (by omega) (by omega) dL_addShifted_16
set_option maxHeartbeats 4000000 in
set_option maxRecDepth 100000 in
theorem c_w_addShifted_x2 (l : Launch) (G : kG) (o : Nat) (h : Nat) (T : Nat → Nat) (L : Nat → Nat) (M : Nat → Nat) (P : Nat → Nat) (gk : Nat → Nat) (gw : Nat → Nat) (gt : Nat → Nat) (gy : Nat → Nat) (R : Nat) (sp : Bool) (t : Nat) (x : Nat) (ou : Nat) (fo : Nat → Int64) (htr : l.stackTraces = false) (ht : 3 ≤ t ∧ t ≤ 120) (hx : x < 120) (hR40 : 40 ≤ R ∧ R ≤ 40) : kCX l yL_addShifted wsL_addShifted 9 152 1 6 G [.ref (o), vN (t), vN (x), .ref (ou)] (wMain G o P h T L M ++ (wPiece G P gk gw gt gy R sp ++ [(ou, .inl (G.2 1, 1, .inr (.inl fo)))])) (fun vv uu => vv = some (vN (2)) ∧ uu = wMain G o P h T L M ++ (wPiece G P gk gw gt gy R sp ++ [(ou, .inl (G.2 1, 1, .inr (.inl fo)))])) := by
  refine kCX.of (cc := cL_addShifted) (maxL := 5) (ret := (some .int)) (by decide) rfl (Nat.le_of_ble_eq_true rfl) ?_
  intro p e s m args below meth c A ls Qz hQ htb hxs hst hm hw hl
  have hl : lv_has ls 5 [(0, .ref (o)), (1, vN (t)), (2, vN (x)), (3, .ref (ou))] := hl
  refine k_aload_n hm hl 3 rfl dL_addShifted_0 ?_
  refine k_iconstN hm 0 dL_addShifted_1 ?_
  refine k_aload_n hm hl 0 rfl dL_addShifted_2 ?_
  refine k_iload_n hm hl 1 rfl dL_addShifted_3 ?_
  refine k_iload_n hm hl 2 rfl dL_addShifted_4 ?_
  refine k_callVx (n := 2) (As := [vN (t), vN (x)]) (rest := [vN (0), .ref (ou)]) (wr := [(ou, .inl (G.2 1, 1, .inr (.inl fo)))]) hm hw hl hxs hst (c_addShifted_x2 l G o h T L M P gk gw gt gy R sp t x (by first | assumption | omega) (by first | assumption | omega) (by first | assumption | omega) (by first | assumption | omega)) gL_addShifted_X6_addShifted rfl (by decide +kernel) ⟨by decide, by decide⟩ (ci := 6) rfl 0 rfl [0, 1, 2, 3, 4, 5, 6, 7, 8, 9] [10] (by decide) rfl rfl (by decide) (by decide) rfl rfl (by simp [Value.category]) ⟨by decide, by decide⟩ dL_addShifted_5 (fun q ce w1 H locs hp hw he1 he2 he3 => ?_)
  obtain rfl := hp
  have hw := hw.sub (ws' := wMain G o P h T L M ++ (wPiece G P gk gw gt gy R sp ++ [(ou, .inl (G.2 1, 1, .inr (.inl fo)))])) [1, 2, 3, 4, 5, 6, 7, 8, 9, 10, 0] (by decide) rfl
  refine vx_catch (name := xS) hm.2.2.2.1 [⟨0, 10, 13, 13⟩] ⟨0, 10, 17, 18⟩ [⟨0, 10, 21, 20⟩] (htb.trans rfl) (fun z hz => by rcases List.mem_cons.mp hz with rfl | hz; exact Or.inr ⟨by decide, xI, hm.2.2.2.2.1 (.classLink RL 13 xI) (by decide +kernel), hxs.2.2.1⟩; exact absurd hz List.not_mem_nil) (by decide) (by decide) (hm.2.2.2.2.1 (.classLink RL 18 xS) (by decide +kernel)) (k_cast hxs (by decide)) he1 he2 he3 ?_
  refine W.eq (g2 := F0 m 17 ls [.ref (q)]) rfl ?_
  refine k_astore hm hl [(4, .ref (q)), (0, .ref (o)), (1, vN (t)), (2, vN (x)), (3, .ref (ou))] (by decide) rfl dL_addShifted_17 (fun ls hl => ?_)
  refine k_iconstN hm 2 dL_addShifted_19 ?_
  exact k_iret (post := _) hm hQ rfl rfl hw (⟨rfl, rfl⟩) (by omega) (by omega) dL_addShifted_20
set_option maxHeartbeats 4000000 in
set_option maxRecDepth 100000 in
theorem c_w_addShifted_x3 (l : Launch) (G : kG) (o : Nat) (h : Nat) (T : Nat → Nat) (L : Nat → Nat) (M : Nat → Nat) (P : Nat → Nat) (gk : Nat → Nat) (gw : Nat → Nat) (gt : Nat → Nat) (gy : Nat → Nat) (R : Nat) (sp : Bool) (f : Nat → Nat) (wk : Nat) (sd : Nat) (kd : Nat) (K : Nat → Nat → Nat) (w : Nat → Nat) (y : Nat → Nat) (t : Nat) (x : Nat) (ou : Nat) (fo : Nat → Int64) (htr : l.stackTraces = false) (hok : POk gk gw gt gy R K w y) (ht : 3 ≤ t ∧ t ≤ 120) (hx : x < 120) (hR40 : R < 40) (hpo : ¬ isPo (sumM (K (R - 1)) (w (R - 1))) t) : kCX l yL_addShifted wsL_addShifted 9 152 1 6 G [.ref (o), vN (t), vN (x), .ref (ou)] (wMain G o P h T L M ++ (wPiece G P gk gw gt gy R sp ++ (wPlan G L f wk sd kd ++ [(ou, .inl (G.2 1, 1, .inr (.inl fo)))]))) (fun vv uu => ∃ (f2 : Nat → Nat), vv = some (vN (3)) ∧ uu = wMain G o P h T L M ++ (wPiece G P gk gw gt gy R sp ++ (wPlan G L f2 (pm (sumM (K (R - 1)) (w (R - 1))) t) (pd (sumM (K (R - 1)) (w (R - 1))) t) (pk (sumM (K (R - 1)) (w (R - 1))) t) ++ [(ou, .inl (G.2 1, 1, .inr (.inl fo)))]))) := by
  refine kCX.of (cc := cL_addShifted) (maxL := 5) (ret := (some .int)) (by decide) rfl (Nat.le_of_ble_eq_true rfl) ?_
  intro p e s m args below meth c A ls Qz hQ htb hxs hst hm hw hl
  have hl : lv_has ls 5 [(0, .ref (o)), (1, vN (t)), (2, vN (x)), (3, .ref (ou))] := hl
  refine k_aload_n hm hl 3 rfl dL_addShifted_0 ?_
  refine k_iconstN hm 0 dL_addShifted_1 ?_
  refine k_aload_n hm hl 0 rfl dL_addShifted_2 ?_
  refine k_iload_n hm hl 1 rfl dL_addShifted_3 ?_
  refine k_iload_n hm hl 2 rfl dL_addShifted_4 ?_
  refine k_callVx (n := 2) (As := [vN (t), vN (x)]) (rest := [vN (0), .ref (ou)]) (wr := [(ou, .inl (G.2 1, 1, .inr (.inl fo)))]) hm hw hl hxs hst (c_addShifted_x3 l G o h T L M P gk gw gt gy R sp f wk sd kd K w y t x (by first | assumption | omega) (by first | assumption | omega) (by first | assumption | omega) (by first | assumption | omega) (by first | assumption | omega) (by first | assumption | omega)) gL_addShifted_X6_addShifted rfl (by decide +kernel) ⟨by decide, by decide⟩ (ci := 6) rfl 0 rfl [0, 1, 2, 3, 4, 5, 6, 7, 8, 9, 10, 11, 12] [13] (by decide) rfl rfl (by decide) (by decide) rfl rfl (by simp [Value.category]) ⟨by decide, by decide⟩ dL_addShifted_5 (fun q ce w1 H locs hp hw he1 he2 he3 => ?_)
  obtain ⟨f2_2, rfl⟩ := hp
  have hw := hw.sub (ws' := wMain G o P h T L M ++ (wPiece G P gk gw gt gy R sp ++ (wPlan G L f2_2 (pm (sumM (K (R - 1)) (w (R - 1))) t) (pd (sumM (K (R - 1)) (w (R - 1))) t) (pk (sumM (K (R - 1)) (w (R - 1))) t) ++ [(ou, .inl (G.2 1, 1, .inr (.inl fo)))]))) [1, 2, 3, 4, 5, 6, 7, 8, 9, 10, 11, 12, 13, 0] (by decide) rfl
  refine vx_catch (name := xU) hm.2.2.2.1 [⟨0, 10, 13, 13⟩, ⟨0, 10, 17, 18⟩] ⟨0, 10, 21, 20⟩ [] (htb.trans rfl) (fun z hz => by rcases List.mem_cons.mp hz with rfl | hz; exact Or.inr ⟨by decide, xI, hm.2.2.2.2.1 (.classLink RL 13 xI) (by decide +kernel), hxs.2.2.2.1⟩; rcases List.mem_cons.mp hz with rfl | hz; exact Or.inr ⟨by decide, xS, hm.2.2.2.2.1 (.classLink RL 18 xS) (by decide +kernel), hxs.2.2.2.2.1⟩; exact absurd hz List.not_mem_nil) (by decide) (by decide) (hm.2.2.2.2.1 (.classLink RL 20 xU) (by decide +kernel)) (k_cast hxs (by decide)) he1 he2 he3 ?_
  refine W.eq (g2 := F0 m 21 ls [.ref (q)]) rfl ?_
  refine k_astore hm hl [(4, .ref (q)), (0, .ref (o)), (1, vN (t)), (2, vN (x)), (3, .ref (ou))] (by decide) rfl dL_addShifted_21 (fun ls hl => ?_)
  refine k_iconstN hm 3 dL_addShifted_23 ?_
  exact k_iret (post := _) hm hQ rfl rfl hw (⟨f2_2, rfl, rfl⟩) (by omega) (by omega) dL_addShifted_24
set_option maxHeartbeats 4000000 in
set_option maxRecDepth 100000 in
theorem c_w_addMirrored_ok (l : Launch) (G : kG) (o : Nat) (T : Nat → Nat) (L : Nat → Nat) (M : Nat → Nat) (P : Nat → Nat) (gk : Nat → Nat) (gw : Nat → Nat) (gt : Nat → Nat) (gy : Nat → Nat) (R : Nat) (sp : Bool) (h : Nat) (hs : Nat) (Q : Nat → Nat → Nat) (ak : Nat → Nat → Nat) (aw : Nat → Nat → Nat) (au : Nat → Nat → Nat) (ay : Nat → Nat → Nat) (aR : Nat → Nat) (aS : Nat → Bool) (nx : Nat) (sz : Nat) (f : Nat → Nat) (wk : Nat) (sd : Nat) (kd : Nat) (mf : Nat → Nat) (K : Nat → Nat → Nat) (w : Nat → Nat) (y : Nat → Nat) (sv : Nat → PSt) (t : Nat) (ou : Nat) (fo : Nat → Int64) (hok : POk gk gw gt gy R K w y) (hho : HOk ak aw au ay aR aS nx sz sv) (hR40 : R < 40) (ht : 3 ≤ t ∧ t ≤ 120) (hpo : isPo (sumM (K (R - 1)) (w (R - 1))) t ∧ ¬ (pd (sumM (K (R - 1)) (w (R - 1))) t % 2 = 1 ∧ pm (sumM (K (R - 1)) (w (R - 1))) t % 2 = 0)) : kCX l yL_addMirrored wsL_addMirrored 9 151 1 6 G [.ref (o), vN (t), .ref (ou)] (wMain G o P h T L M ++ (wPiece G P gk gw gt gy R sp ++ (wHist G h hs Q ak aw au ay aR aS nx sz ++ (wPlan G L f wk sd kd ++ (wMk G M mf ++ [(ou, .inl (G.2 1, 1, .inr (.inl fo)))]))))) (fun vv uu => ∃ (gk2 : Nat → Nat), ∃ (gw2 : Nat → Nat), ∃ (gt2 : Nat → Nat), ∃ (ak2 : Nat → Nat → Nat), ∃ (aw2 : Nat → Nat → Nat), ∃ (au2 : Nat → Nat → Nat), ∃ (ay2 : Nat → Nat → Nat), ∃ (aR2 : Nat → Nat), ∃ (aS2 : Nat → Bool), ∃ (f2 : Nat → Nat), ∃ (mf2 : Nat → Nat), vv = some (vN (0)) ∧ uu = wMain G o P h T L M ++ (wPiece G P gk2 gw2 gt2 gy (R + 1) sp ++ (wHist G h hs Q ak2 aw2 au2 ay2 aR2 aS2 ((nx + 1) % 4) (Nat.min (sz + 1) 4) ++ (wPlan G L f2 (pm (sumM (K (R - 1)) (w (R - 1))) t) (pd (sumM (K (R - 1)) (w (R - 1))) t) (pk (sumM (K (R - 1)) (w (R - 1))) t) ++ (wMk G M mf2 ++ [(ou, .inl (G.2 1, 1, .inr (.inl (vp_updL fo 0 (i2L ((nstk (mkF (K (R - 1)) (w (R - 1))) (miR (sumM (K (R - 1)) (w (R - 1))) t) (pm (sumM (K (R - 1)) (w (R - 1))) t) : Nat) : Int))))))])))) ∧ (POk gk2 gw2 gt2 gy (R + 1) (fup K R (miR (sumM (K (R - 1)) (w (R - 1))) t)) (fup w R (pm (sumM (K (R - 1)) (w (R - 1))) t)) y) ∧ (HOk ak2 aw2 au2 ay2 aR2 aS2 ((nx + 1) % 4) (Nat.min (sz + 1) 4) (svPush (R, sp, K, w, y) sv))) := by
  refine kCX.of (cc := cL_addMirrored) (maxL := 4) (ret := (some .int)) (by decide) rfl (Nat.le_of_ble_eq_true rfl) ?_
  intro p e s m args below meth c A ls Qz hQ htb hxs hst hm hw hl
  have hl : lv_has ls 4 [(0, .ref (o)), (1, vN (t)), (2, .ref (ou))] := hl
  refine k_aload_n hm hl 2 rfl dL_addMirrored_0 ?_
  refine k_iconstN hm 0 dL_addMirrored_1 ?_
  refine k_aload_n hm hl 0 rfl dL_addMirrored_2 ?_
  refine k_iload_n hm hl 1 rfl dL_addMirrored_3 ?_
  refine k_callV (n := 1) (As := [vN (t)]) (rest := [vN (0), .ref (ou)]) (wr := [(ou, .inl (G.2 1, 1, .inr (.inl fo)))]) hm hw hl (c_addMirrored_ok l G o T L M P gk gw gt gy R sp h hs Q ak aw au ay aR aS nx sz f wk sd kd mf K w y sv t (by first | assumption | omega) (by first | assumption | omega) (by first | assumption | omega) (by first | assumption | omega) (by first | assumption | omega)) gL_addMirrored_X6_addMirrored rfl (by decide +kernel) ⟨by decide, by decide⟩ (ci := 6) rfl 0 rfl [0, 1, 2, 3, 4, 5, 6, 7, 8, 9, 10, 11, 12, 13, 14, 15, 16, 17, 18, 19, 20, 21, 22, 23, 24, 25, 26, 27, 28, 29, 30, 31, 32, 33, 34, 35, 36, 37, 38, 39, 40, 41, 42, 43, 44, 45, 46, 47, 48, 49, 50, 51, 52, 53] [54] (by decide) rfl rfl (by decide) (by decide) rfl rfl (by simp [Value.category]) ⟨by decide, by decide⟩ dL_addMirrored_4 (fun v w1 H locs hp hw => ?_)
  obtain ⟨gk2_2, gw2_3, gt2_4, ak2_5, aw2_6, au2_7, ay2_8, aR2_9, aS2_10, f2_11, mf2_12, rfl, rfl, hok2_13, hho2_14⟩ := hp
  have hw := hw.sub (ws' := wMain G o P h T L M ++ (wPiece G P gk2_2 gw2_3 gt2_4 gy (R + 1) sp ++ (wHist G h hs Q ak2_5 aw2_6 au2_7 ay2_8 aR2_9 aS2_10 ((nx + 1) % 4) (Nat.min (sz + 1) 4) ++ (wPlan G L f2_11 (pm (sumM (K (R - 1)) (w (R - 1))) t) (pd (sumM (K (R - 1)) (w (R - 1))) t) (pk (sumM (K (R - 1)) (w (R - 1))) t) ++ (wMk G M mf2_12 ++ [(ou, .inl (G.2 1, 1, .inr (.inl fo)))]))))) [1, 2, 3, 4, 5, 6, 7, 8, 9, 10, 11, 12, 13, 14, 15, 16, 17, 18, 19, 20, 21, 22, 23, 24, 25, 26, 27, 28, 29, 30, 31, 32, 33, 34, 35, 36, 37, 38, 39, 40, 41, 42, 43, 44, 45, 46, 47, 48, 49, 50, 51, 52, 53, 54, 0] (by decide) rfl
  refine W.eq (g2 := F0 m 7 ls [vN (nstk (mkF (K (R - 1)) (w (R - 1))) (miR (sumM (K (R - 1)) (w (R - 1))) t) (pm (sumM (K (R - 1)) (w (R - 1))) t)), vN (0), .ref (ou)]) rfl ?_
  refine k_i2lR (x := ((nstk (mkF (K (R - 1)) (w (R - 1))) (miR (sumM (K (R - 1)) (w (R - 1))) t) (pm (sumM (K (R - 1)) (w (R - 1))) t) : Nat) : Int)) hm dL_addMirrored_7 ?_
  refine k_last hm hw 54 (wMain G o P h T L M ++ (wPiece G P gk2_2 gw2_3 gt2_4 gy (R + 1) sp ++ (wHist G h hs Q ak2_5 aw2_6 au2_7 ay2_8 aR2_9 aS2_10 ((nx + 1) % 4) (Nat.min (sz + 1) 4) ++ (wPlan G L f2_11 (pm (sumM (K (R - 1)) (w (R - 1))) t) (pd (sumM (K (R - 1)) (w (R - 1))) t) (pk (sumM (K (R - 1)) (w (R - 1))) t) ++ (wMk G M mf2_12 ++ [(ou, .inl (G.2 1, 1, .inr (.inl (vp_updL fo 0 (i2L ((nstk (mkF (K (R - 1)) (w (R - 1))) (miR (sumM (K (R - 1)) (w (R - 1))) t) (pm (sumM (K (R - 1)) (w (R - 1))) t) : Nat) : Int))))))]))))) rfl (by omega) rfl dL_addMirrored_8 (fun H locs hw => ?_)
  refine k_goto (tgt := 21) hm dL_addMirrored_9 (by decide) ?_
  refine k_iconstN hm 0 dL_addMirrored_21 ?_
  exact k_iret (post := _) hm hQ rfl rfl hw (⟨gk2_2, gw2_3, gt2_4, ak2_5, aw2_6, au2_7, ay2_8, aR2_9, aS2_10, f2_11, mf2_12, rfl, rfl, hok2_13, hho2_14⟩) (by omega) (by omega) dL_addMirrored_22
set_option maxHeartbeats 4000000 in
set_option maxRecDepth 100000 in
theorem c_w_addMirrored_x1 (l : Launch) (G : kG) (o : Nat) (h : Nat) (T : Nat → Nat) (L : Nat → Nat) (M : Nat → Nat) (P : Nat → Nat) (gk : Nat → Nat) (gw : Nat → Nat) (gt : Nat → Nat) (gy : Nat → Nat) (R : Nat) (sp : Bool) (z : Int) (ou : Nat) (fo : Nat → Int64) (htr : l.stackTraces = false) (hz : -2147483648 ≤ z ∧ z < 2147483648) (hx : ¬ (3 ≤ z ∧ z ≤ 120)) : kCX l yL_addMirrored wsL_addMirrored 9 151 1 6 G [.ref (o), vZ (z), .ref (ou)] (wMain G o P h T L M ++ (wPiece G P gk gw gt gy R sp ++ [(ou, .inl (G.2 1, 1, .inr (.inl fo)))])) (fun vv uu => vv = some (vN (1)) ∧ uu = wMain G o P h T L M ++ (wPiece G P gk gw gt gy R sp ++ [(ou, .inl (G.2 1, 1, .inr (.inl fo)))])) := by
  refine kCX.of (cc := cL_addMirrored) (maxL := 4) (ret := (some .int)) (by decide) rfl (Nat.le_of_ble_eq_true rfl) ?_
  intro p e s m args below meth c A ls Qz hQ htb hxs hst hm hw hl
  have hl : lv_has ls 4 [(0, .ref (o)), (1, vZ (z)), (2, .ref (ou))] := hl
  refine k_aload_n hm hl 2 rfl dL_addMirrored_0 ?_
  refine k_iconstN hm 0 dL_addMirrored_1 ?_
  refine k_aload_n hm hl 0 rfl dL_addMirrored_2 ?_
  refine k_iload_n hm hl 1 rfl dL_addMirrored_3 ?_
  refine k_callVx (n := 1) (As := [vZ (z)]) (rest := [vN (0), .ref (ou)]) (wr := [(ou, .inl (G.2 1, 1, .inr (.inl fo)))]) hm hw hl hxs hst (c_addMirrored_x1 l G o h T L M P gk gw gt gy R sp z (by first | assumption | omega) (by first | assumption | omega) (by first | assumption | omega)) gL_addMirrored_X6_addMirrored rfl (by decide +kernel) ⟨by decide, by decide⟩ (ci := 6) rfl 0 rfl [0, 1, 2, 3, 4, 5, 6, 7, 8, 9] [10] (by decide) rfl rfl (by decide) (by decide) rfl rfl (by simp [Value.category]) ⟨by decide, by decide⟩ dL_addMirrored_4 (fun q ce w1 H locs hp hw he1 he2 he3 => ?_)
  obtain rfl := hp
  have hw := hw.sub (ws' := wMain G o P h T L M ++ (wPiece G P gk gw gt gy R sp ++ [(ou, .inl (G.2 1, 1, .inr (.inl fo)))])) [1, 2, 3, 4, 5, 6, 7, 8, 9, 10, 0] (by decide) rfl
  refine vx_catch (name := xI) hm.2.2.2.1 [] ⟨0, 9, 12, 13⟩ [⟨0, 9, 15, 18⟩, ⟨0, 9, 18, 20⟩] (htb.trans rfl) (fun z hz => by exact absurd hz List.not_mem_nil) (by decide) (by decide) (hm.2.2.2.2.1 (.classLink RL 13 xI) (by decide +kernel)) (k_cast hxs (by decide)) he1 he2 he3 ?_
  refine W.eq (g2 := F0 m 12 ls [.ref (q)]) rfl ?_
  refine k_astore_n hm hl [(3, .ref (q)), (0, .ref (o)), (1, vZ (z)), (2, .ref (ou))] (by decide) rfl dL_addMirrored_12 (fun ls hl => ?_)
  refine k_iconstN hm 1 dL_addMirrored_13 ?_
  exact k_iret (post := _) hm hQ rfl rfl hw (⟨rfl, rfl⟩) (by omega) (by omega) dL_addMirrored_14
set_option maxHeartbeats 4000000 in
set_option maxRecDepth 100000 in
theorem c_w_addMirrored_x2 (l : Launch) (G : kG) (o : Nat) (h : Nat) (T : Nat → Nat) (L : Nat → Nat) (M : Nat → Nat) (P : Nat → Nat) (gk : Nat → Nat) (gw : Nat → Nat) (gt : Nat → Nat) (gy : Nat → Nat) (R : Nat) (sp : Bool) (t : Nat) (ou : Nat) (fo : Nat → Int64) (htr : l.stackTraces = false) (ht : 3 ≤ t ∧ t ≤ 120) (hR40 : 40 ≤ R ∧ R ≤ 40) : kCX l yL_addMirrored wsL_addMirrored 9 151 1 6 G [.ref (o), vN (t), .ref (ou)] (wMain G o P h T L M ++ (wPiece G P gk gw gt gy R sp ++ [(ou, .inl (G.2 1, 1, .inr (.inl fo)))])) (fun vv uu => vv = some (vN (2)) ∧ uu = wMain G o P h T L M ++ (wPiece G P gk gw gt gy R sp ++ [(ou, .inl (G.2 1, 1, .inr (.inl fo)))])) := by
  refine kCX.of (cc := cL_addMirrored) (maxL := 4) (ret := (some .int)) (by decide) rfl (Nat.le_of_ble_eq_true rfl) ?_
  intro p e s m args below meth c A ls Qz hQ htb hxs hst hm hw hl
  have hl : lv_has ls 4 [(0, .ref (o)), (1, vN (t)), (2, .ref (ou))] := hl
  refine k_aload_n hm hl 2 rfl dL_addMirrored_0 ?_
  refine k_iconstN hm 0 dL_addMirrored_1 ?_
  refine k_aload_n hm hl 0 rfl dL_addMirrored_2 ?_
  refine k_iload_n hm hl 1 rfl dL_addMirrored_3 ?_
  refine k_callVx (n := 1) (As := [vN (t)]) (rest := [vN (0), .ref (ou)]) (wr := [(ou, .inl (G.2 1, 1, .inr (.inl fo)))]) hm hw hl hxs hst (c_addMirrored_x2 l G o h T L M P gk gw gt gy R sp t (by first | assumption | omega) (by first | assumption | omega) (by first | assumption | omega)) gL_addMirrored_X6_addMirrored rfl (by decide +kernel) ⟨by decide, by decide⟩ (ci := 6) rfl 0 rfl [0, 1, 2, 3, 4, 5, 6, 7, 8, 9] [10] (by decide) rfl rfl (by decide) (by decide) rfl rfl (by simp [Value.category]) ⟨by decide, by decide⟩ dL_addMirrored_4 (fun q ce w1 H locs hp hw he1 he2 he3 => ?_)
  obtain rfl := hp
  have hw := hw.sub (ws' := wMain G o P h T L M ++ (wPiece G P gk gw gt gy R sp ++ [(ou, .inl (G.2 1, 1, .inr (.inl fo)))])) [1, 2, 3, 4, 5, 6, 7, 8, 9, 10, 0] (by decide) rfl
  refine vx_catch (name := xS) hm.2.2.2.1 [⟨0, 9, 12, 13⟩] ⟨0, 9, 15, 18⟩ [⟨0, 9, 18, 20⟩] (htb.trans rfl) (fun z hz => by rcases List.mem_cons.mp hz with rfl | hz; exact Or.inr ⟨by decide, xI, hm.2.2.2.2.1 (.classLink RL 13 xI) (by decide +kernel), hxs.2.2.1⟩; exact absurd hz List.not_mem_nil) (by decide) (by decide) (hm.2.2.2.2.1 (.classLink RL 18 xS) (by decide +kernel)) (k_cast hxs (by decide)) he1 he2 he3 ?_
  refine W.eq (g2 := F0 m 15 ls [.ref (q)]) rfl ?_
  refine k_astore_n hm hl [(3, .ref (q)), (0, .ref (o)), (1, vN (t)), (2, .ref (ou))] (by decide) rfl dL_addMirrored_15 (fun ls hl => ?_)
  refine k_iconstN hm 2 dL_addMirrored_16 ?_
  exact k_iret (post := _) hm hQ rfl rfl hw (⟨rfl, rfl⟩) (by omega) (by omega) dL_addMirrored_17
set_option maxHeartbeats 4000000 in
set_option maxRecDepth 100000 in
theorem c_w_addMirrored_x3 (l : Launch) (G : kG) (o : Nat) (h : Nat) (T : Nat → Nat) (L : Nat → Nat) (M : Nat → Nat) (P : Nat → Nat) (gk : Nat → Nat) (gw : Nat → Nat) (gt : Nat → Nat) (gy : Nat → Nat) (R : Nat) (sp : Bool) (f : Nat → Nat) (wk : Nat) (sd : Nat) (kd : Nat) (K : Nat → Nat → Nat) (w : Nat → Nat) (y : Nat → Nat) (t : Nat) (ou : Nat) (fo : Nat → Int64) (htr : l.stackTraces = false) (hok : POk gk gw gt gy R K w y) (ht : 3 ≤ t ∧ t ≤ 120) (hR40 : R < 40) (hpo : ¬ (isPo (sumM (K (R - 1)) (w (R - 1))) t ∧ ¬ (pd (sumM (K (R - 1)) (w (R - 1))) t % 2 = 1 ∧ pm (sumM (K (R - 1)) (w (R - 1))) t % 2 = 0))) : kCX l yL_addMirrored wsL_addMirrored 9 151 1 6 G [.ref (o), vN (t), .ref (ou)] (wMain G o P h T L M ++ (wPiece G P gk gw gt gy R sp ++ (wPlan G L f wk sd kd ++ [(ou, .inl (G.2 1, 1, .inr (.inl fo)))]))) (fun vv uu => ∃ (f2 : Nat → Nat), vv = some (vN (3)) ∧ uu = wMain G o P h T L M ++ (wPiece G P gk gw gt gy R sp ++ (wPlan G L f2 (pm (sumM (K (R - 1)) (w (R - 1))) t) (pd (sumM (K (R - 1)) (w (R - 1))) t) (pk (sumM (K (R - 1)) (w (R - 1))) t) ++ [(ou, .inl (G.2 1, 1, .inr (.inl fo)))]))) := by
  refine kCX.of (cc := cL_addMirrored) (maxL := 4) (ret := (some .int)) (by decide) rfl (Nat.le_of_ble_eq_true rfl) ?_
  intro p e s m args below meth c A ls Qz hQ htb hxs hst hm hw hl
  have hl : lv_has ls 4 [(0, .ref (o)), (1, vN (t)), (2, .ref (ou))] := hl
  refine k_aload_n hm hl 2 rfl dL_addMirrored_0 ?_
  refine k_iconstN hm 0 dL_addMirrored_1 ?_
  refine k_aload_n hm hl 0 rfl dL_addMirrored_2 ?_
  refine k_iload_n hm hl 1 rfl dL_addMirrored_3 ?_
  refine k_callVx (n := 1) (As := [vN (t)]) (rest := [vN (0), .ref (ou)]) (wr := [(ou, .inl (G.2 1, 1, .inr (.inl fo)))]) hm hw hl hxs hst (c_addMirrored_x3 l G o h T L M P gk gw gt gy R sp f wk sd kd K w y t (by first | assumption | omega) (by first | assumption | omega) (by first | assumption | omega) (by first | assumption | omega) (by first | assumption | omega)) gL_addMirrored_X6_addMirrored rfl (by decide +kernel) ⟨by decide, by decide⟩ (ci := 6) rfl 0 rfl [0, 1, 2, 3, 4, 5, 6, 7, 8, 9, 10, 11, 12] [13] (by decide) rfl rfl (by decide) (by decide) rfl rfl (by simp [Value.category]) ⟨by decide, by decide⟩ dL_addMirrored_4 (fun q ce w1 H locs hp hw he1 he2 he3 => ?_)
  obtain ⟨f2_2, rfl⟩ := hp
  have hw := hw.sub (ws' := wMain G o P h T L M ++ (wPiece G P gk gw gt gy R sp ++ (wPlan G L f2_2 (pm (sumM (K (R - 1)) (w (R - 1))) t) (pd (sumM (K (R - 1)) (w (R - 1))) t) (pk (sumM (K (R - 1)) (w (R - 1))) t) ++ [(ou, .inl (G.2 1, 1, .inr (.inl fo)))]))) [1, 2, 3, 4, 5, 6, 7, 8, 9, 10, 11, 12, 13, 0] (by decide) rfl
  refine vx_catch (name := xU) hm.2.2.2.1 [⟨0, 9, 12, 13⟩, ⟨0, 9, 15, 18⟩] ⟨0, 9, 18, 20⟩ [] (htb.trans rfl) (fun z hz => by rcases List.mem_cons.mp hz with rfl | hz; exact Or.inr ⟨by decide, xI, hm.2.2.2.2.1 (.classLink RL 13 xI) (by decide +kernel), hxs.2.2.2.1⟩; rcases List.mem_cons.mp hz with rfl | hz; exact Or.inr ⟨by decide, xS, hm.2.2.2.2.1 (.classLink RL 18 xS) (by decide +kernel), hxs.2.2.2.2.1⟩; exact absurd hz List.not_mem_nil) (by decide) (by decide) (hm.2.2.2.2.1 (.classLink RL 20 xU) (by decide +kernel)) (k_cast hxs (by decide)) he1 he2 he3 ?_
  refine W.eq (g2 := F0 m 18 ls [.ref (q)]) rfl ?_
  refine k_astore_n hm hl [(3, .ref (q)), (0, .ref (o)), (1, vN (t)), (2, .ref (ou))] (by decide) rfl dL_addMirrored_18 (fun ls hl => ?_)
  refine k_iconstN hm 3 dL_addMirrored_19 ?_
  exact k_iret (post := _) hm hQ rfl rfl hw (⟨f2_2, rfl, rfl⟩) (by omega) (by omega) dL_addMirrored_20
set_option maxHeartbeats 4000000 in
set_option maxRecDepth 100000 in
theorem c_w_addShape_x (l : Launch) (G : kG) (o : Nat) (h : Nat) (T : Nat → Nat) (L : Nat → Nat) (M : Nat → Nat) (P : Nat → Nat) (gk : Nat → Nat) (gw : Nat → Nat) (gt : Nat → Nat) (gy : Nat → Nat) (R : Nat) (sp : Bool) (z : Int) (x : Int) (k : Int) (ou : Nat) (fo : Nat → Int64) (htr : l.stackTraces = false) (hzz : -2147483648 ≤ z ∧ z < 2147483648) (hzx : -2147483648 ≤ x ∧ x < 2147483648) (hzk : -2147483648 ≤ k ∧ k < 2147483648) (hx : ¬ ((0 ≤ z ∧ z ≤ 4) ∧ (1 ≤ x ∧ x ≤ 20) ∧ 1 ≤ k ∧ k < 40)) : kCX l yL_addShape wsL_addShape 8 135 1 6 G [.ref (o), vZ (z), vZ (x), vZ (k), .ref (ou)] (wMain G o P h T L M ++ (wPiece G P gk gw gt gy R sp ++ [(ou, .inl (G.2 1, 1, .inr (.inl fo)))])) (fun vv uu => vv = some (vN (1)) ∧ uu = wMain G o P h T L M ++ (wPiece G P gk gw gt gy R sp ++ [(ou, .inl (G.2 1, 1, .inr (.inl fo)))])) := by
  refine kCX.of (cc := cL_addShape) (maxL := 6) (ret := (some .int)) (by decide) rfl (Nat.le_of_ble_eq_true rfl) ?_
  intro p e s m args below meth c A ls Qz hQ htb hxs hst hm hw hl
  have hl : lv_has ls 6 [(0, .ref (o)), (1, vZ (z)), (2, vZ (x)), (3, vZ (k)), (4, .ref (ou))] := hl
  refine k_aload hm hl 4 rfl dL_addShape_0 ?_
  refine k_iconstN hm 0 dL_addShape_2 ?_
  refine k_aload_n hm hl 0 rfl dL_addShape_3 ?_
  refine k_iload_n hm hl 1 rfl dL_addShape_4 ?_
  refine k_iload_n hm hl 2 rfl dL_addShape_5 ?_
  refine k_iload_n hm hl 3 rfl dL_addShape_6 ?_
  refine k_callVx (n := 3) (As := [vZ (z), vZ (x), vZ (k)]) (rest := [vN (0), .ref (ou)]) (wr := [(ou, .inl (G.2 1, 1, .inr (.inl fo)))]) hm hw hl hxs hst (c_addShape_x l G o h T L M P gk gw gt gy R sp z x k (by first | assumption | omega) (by first | assumption | omega) (by first | assumption | omega) (by first | assumption | omega) (by first | assumption | omega)) gL_addShape_X6_addShape rfl (by decide +kernel) ⟨by decide, by decide⟩ (ci := 6) rfl 0 rfl [0, 1, 2, 3, 4, 5, 6, 7, 8, 9] [10] (by decide) rfl rfl (by decide) (by decide) rfl rfl (by simp [Value.category]) ⟨by decide, by decide⟩ dL_addShape_7 (fun q ce w1 H locs hp hw he1 he2 he3 => ?_)
  obtain rfl := hp
  have hw := hw.sub (ws' := wMain G o P h T L M ++ (wPiece G P gk gw gt gy R sp ++ [(ou, .inl (G.2 1, 1, .inr (.inl fo)))])) [1, 2, 3, 4, 5, 6, 7, 8, 9, 10, 0] (by decide) rfl
  refine vx_catch (name := xI) hm.2.2.2.1 [] ⟨0, 12, 15, 13⟩ [] (htb.trans rfl) (fun z hz => by exact absurd hz List.not_mem_nil) (by decide) (by decide) (hm.2.2.2.2.1 (.classLink RL 13 xI) (by decide +kernel)) (k_cast hxs (by decide)) he1 he2 he3 ?_
  refine W.eq (g2 := F0 m 15 ls [.ref (q)]) rfl ?_
  refine k_astore hm hl [(5, .ref (q)), (0, .ref (o)), (1, vZ (z)), (2, vZ (x)), (3, vZ (k)), (4, .ref (ou))] (by decide) rfl dL_addShape_15 (fun ls hl => ?_)
  refine k_iconstN hm 1 dL_addShape_17 ?_
  exact k_iret (post := _) hm hQ rfl rfl hw (⟨rfl, rfl⟩) (by omega) (by omega) dL_addShape_18
set_option maxHeartbeats 4000000 in
set_option maxRecDepth 100000 in
theorem c_w_addShape_ok (l : Launch) (G : kG) (o : Nat) (T : Nat → Nat) (L : Nat → Nat) (M : Nat → Nat) (P : Nat → Nat) (gk : Nat → Nat) (gw : Nat → Nat) (gt : Nat → Nat) (gy : Nat → Nat) (R : Nat) (sp : Bool) (h : Nat) (hs : Nat) (Q : Nat → Nat → Nat) (ak : Nat → Nat → Nat) (aw : Nat → Nat → Nat) (au : Nat → Nat → Nat) (ay : Nat → Nat → Nat) (aR : Nat → Nat) (aS : Nat → Bool) (nx : Nat) (sz : Nat) (f : Nat → Nat) (wk : Nat) (sd : Nat) (kd : Nat) (mf : Nat → Nat) (K : Nat → Nat → Nat) (w : Nat → Nat) (y : Nat → Nat) (sv : Nat → PSt) (sh : Nat) (sz2 : Nat) (k : Nat) (ou : Nat) (fo : Nat → Int64) (hok : POk gk gw gt gy R K w y) (hho : HOk ak aw au ay aR aS nx sz sv) (hsk : sh < 5 ∧ 1 ≤ sz2 ∧ sz2 ≤ 20 ∧ 1 ≤ k ∧ k < 40) : kCX l yL_addShape wsL_addShape 8 135 1 6 G [.ref (o), vN (sh), vN (sz2), vN (k), .ref (ou)] (wMain G o P h T L M ++ (wPiece G P gk gw gt gy R sp ++ (wHist G h hs Q ak aw au ay aR aS nx sz ++ (wPlan G L f wk sd kd ++ (wMk G M mf ++ [(ou, .inl (G.2 1, 1, .inr (.inl fo)))]))))) (fun vv uu => ∃ (q : Nat), ∃ (K2 : Nat → Nat → Nat), ∃ (w2 : Nat → Nat), ∃ (gk2 : Nat → Nat), ∃ (gw2 : Nat → Nat), ∃ (gt2 : Nat → Nat), ∃ (ak2 : Nat → Nat → Nat), ∃ (aw2 : Nat → Nat → Nat), ∃ (au2 : Nat → Nat → Nat), ∃ (ay2 : Nat → Nat → Nat), ∃ (aR2 : Nat → Nat), ∃ (aS2 : Nat → Bool), ∃ (f2 : Nat → Nat), ∃ (wk2 : Nat), ∃ (sd2 : Nat), ∃ (kd2 : Nat), ∃ (mf2 : Nat → Nat), vv = some (vN (0)) ∧ uu = wMain G o P h T L M ++ (wPiece G P gk2 gw2 gt2 gy (R + q) sp ++ (wHist G h hs Q ak2 aw2 au2 ay2 aR2 aS2 ((nx + 1) % 4) (Nat.min (sz + 1) 4) ++ (wPlan G L f2 wk2 sd2 kd2 ++ (wMk G M mf2 ++ [(ou, .inl (G.2 1, 1, .inr (.inl (vp_updL fo 0 (i2L ((q : Nat) : Int))))))])))) ∧ (shS sh sz2 k R K w q K2 w2) ∧ (POk gk2 gw2 gt2 gy (R + q) K2 w2 y) ∧ (HOk ak2 aw2 au2 ay2 aR2 aS2 ((nx + 1) % 4) (Nat.min (sz + 1) 4) (svPush (R, sp, K, w, y) sv))) := by
  refine kCX.of (cc := cL_addShape) (maxL := 6) (ret := (some .int)) (by decide) rfl (Nat.le_of_ble_eq_true rfl) ?_
  intro p e s m args below meth c A ls Qz hQ htb hxs hst hm hw hl
  have hl : lv_has ls 6 [(0, .ref (o)), (1, vN (sh)), (2, vN (sz2)), (3, vN (k)), (4, .ref (ou))] := hl
  refine k_aload hm hl 4 rfl dL_addShape_0 ?_
  refine k_iconstN hm 0 dL_addShape_2 ?_
  refine k_aload_n hm hl 0 rfl dL_addShape_3 ?_
  refine k_iload_n hm hl 1 rfl dL_addShape_4 ?_
  refine k_iload_n hm hl 2 rfl dL_addShape_5 ?_
  refine k_iload_n hm hl 3 rfl dL_addShape_6 ?_
  refine k_callV (n := 3) (As := [vN (sh), vN (sz2), vN (k)]) (rest := [vN (0), .ref (ou)]) (wr := [(ou, .inl (G.2 1, 1, .inr (.inl fo)))]) hm hw hl (c_addShape_ok l G o T L M P gk gw gt gy R sp h hs Q ak aw au ay aR aS nx sz f wk sd kd mf K w y sv sh sz2 k (by first | assumption | omega) (by first | assumption | omega) (by first | assumption | omega)) gL_addShape_X6_addShape rfl (by decide +kernel) ⟨by decide, by decide⟩ (ci := 6) rfl 0 rfl [0, 1, 2, 3, 4, 5, 6, 7, 8, 9, 10, 11, 12, 13, 14, 15, 16, 17, 18, 19, 20, 21, 22, 23, 24, 25, 26, 27, 28, 29, 30, 31, 32, 33, 34, 35, 36, 37, 38, 39, 40, 41, 42, 43, 44, 45, 46, 47, 48, 49, 50, 51, 52, 53] [54] (by decide) rfl rfl (by decide) (by decide) rfl rfl (by simp [Value.category]) ⟨by decide, by decide⟩ dL_addShape_7 (fun v w1 H locs hp hw => ?_)
  obtain ⟨q_2, K2_3, w2_4, gk2_5, gw2_6, gt2_7, ak2_8, aw2_9, au2_10, ay2_11, aR2_12, aS2_13, f2_14, wk2_15, sd2_16, kd2_17, mf2_18, rfl, rfl, hsh_19, hok2_20, hho2_21⟩ := hp
  have hw := hw.sub (ws' := wMain G o P h T L M ++ (wPiece G P gk2_5 gw2_6 gt2_7 gy (R + q_2) sp ++ (wHist G h hs Q ak2_8 aw2_9 au2_10 ay2_11 aR2_12 aS2_13 ((nx + 1) % 4) (Nat.min (sz + 1) 4) ++ (wPlan G L f2_14 wk2_15 sd2_16 kd2_17 ++ (wMk G M mf2_18 ++ [(ou, .inl (G.2 1, 1, .inr (.inl fo)))]))))) [1, 2, 3, 4, 5, 6, 7, 8, 9, 10, 11, 12, 13, 14, 15, 16, 17, 18, 19, 20, 21, 22, 23, 24, 25, 26, 27, 28, 29, 30, 31, 32, 33, 34, 35, 36, 37, 38, 39, 40, 41, 42, 43, 44, 45, 46, 47, 48, 49, 50, 51, 52, 53, 54, 0] (by decide) rfl
  refine W.eq (g2 := F0 m 10 ls [vN (q_2), vN (0), .ref (ou)]) rfl ?_
  refine k_i2lR (x := ((q_2 : Nat) : Int)) hm dL_addShape_10 ?_
  refine k_last hm hw 54 (wMain G o P h T L M ++ (wPiece G P gk2_5 gw2_6 gt2_7 gy (R + q_2) sp ++ (wHist G h hs Q ak2_8 aw2_9 au2_10 ay2_11 aR2_12 aS2_13 ((nx + 1) % 4) (Nat.min (sz + 1) 4) ++ (wPlan G L f2_14 wk2_15 sd2_16 kd2_17 ++ (wMk G M mf2_18 ++ [(ou, .inl (G.2 1, 1, .inr (.inl (vp_updL fo 0 (i2L ((q_2 : Nat) : Int))))))]))))) rfl (by omega) rfl dL_addShape_11 (fun H locs hw => ?_)
  refine k_goto (tgt := 19) hm dL_addShape_12 (by decide) ?_
  refine k_iconstN hm 0 dL_addShape_19 ?_
  exact k_iret (post := _) hm hQ rfl rfl hw (⟨q_2, K2_3, w2_4, gk2_5, gw2_6, gt2_7, ak2_8, aw2_9, au2_10, ay2_11, aR2_12, aS2_13, f2_14, wk2_15, sd2_16, kd2_17, mf2_18, rfl, rfl, hsh_19, hok2_20, hho2_21⟩) (by omega) (by omega) dL_addShape_20
set_option maxHeartbeats 4000000 in
set_option maxRecDepth 100000 in
theorem c_w_rip_ok (l : Launch) (G : kG) (o : Nat) (T : Nat → Nat) (L : Nat → Nat) (M : Nat → Nat) (P : Nat → Nat) (gk : Nat → Nat) (gw : Nat → Nat) (gt : Nat → Nat) (gy : Nat → Nat) (R : Nat) (sp : Bool) (h : Nat) (hs : Nat) (Q : Nat → Nat → Nat) (ak : Nat → Nat → Nat) (aw : Nat → Nat → Nat) (au : Nat → Nat → Nat) (ay : Nat → Nat → Nat) (aR : Nat → Nat) (aS : Nat → Bool) (nx : Nat) (sz : Nat) (K : Nat → Nat → Nat) (w : Nat → Nat) (y : Nat → Nat) (sv : Nat → PSt) (k : Nat) (ou : Nat) (fo : Nat → Int64) (hok : POk gk gw gt gy R K w y) (hho : HOk ak aw au ay aR aS nx sz sv) (hk : 1 ≤ k ∧ k < R) : kCX l yL_rip wsL_rip 8 131 1 6 G [.ref (o), vN (k), .ref (ou)] (wMain G o P h T L M ++ (wPiece G P gk gw gt gy R sp ++ (wHist G h hs Q ak aw au ay aR aS nx sz ++ [(ou, .inl (G.2 1, 1, .inr (.inl fo)))]))) (fun vv uu => ∃ (ak2 : Nat → Nat → Nat), ∃ (aw2 : Nat → Nat → Nat), ∃ (au2 : Nat → Nat → Nat), ∃ (ay2 : Nat → Nat → Nat), ∃ (aR2 : Nat → Nat), ∃ (aS2 : Nat → Bool), vv = some (vN (0)) ∧ uu = wMain G o P h T L M ++ (wPiece G P gk gw gt gy (R - k) sp ++ (wHist G h hs Q ak2 aw2 au2 ay2 aR2 aS2 ((nx + 1) % 4) (Nat.min (sz + 1) 4) ++ [(ou, .inl (G.2 1, 1, .inr (.inl (vp_updL fo 0 (i2L ((sumM (K (R - k - 1)) (w (R - k - 1)) : Nat) : Int))))))])) ∧ (POk gk gw gt gy (R - k) K w y) ∧ (HOk ak2 aw2 au2 ay2 aR2 aS2 ((nx + 1) % 4) (Nat.min (sz + 1) 4) (svPush (R, sp, K, w, y) sv))) := by
  refine kCX.of (cc := cL_rip) (maxL := 4) (ret := (some .int)) (by decide) rfl (Nat.le_of_ble_eq_true rfl) ?_
  intro p e s m args below meth c A ls Qz hQ htb hxs hst hm hw hl
  have hl : lv_has ls 4 [(0, .ref (o)), (1, vN (k)), (2, .ref (ou))] := hl
  refine k_aload_n hm hl 2 rfl dL_rip_0 ?_
  refine k_iconstN hm 0 dL_rip_1 ?_
  refine k_aload_n hm hl 0 rfl dL_rip_2 ?_
  refine k_iload_n hm hl 1 rfl dL_rip_3 ?_
  refine k_callV (n := 1) (As := [vN (k)]) (rest := [vN (0), .ref (ou)]) (wr := [(ou, .inl (G.2 1, 1, .inr (.inl fo)))]) hm hw hl (c_rip_ok l G o T L M P gk gw gt gy R sp h hs Q ak aw au ay aR aS nx sz K w y sv k (by first | assumption | omega) (by first | assumption | omega) (by first | assumption | omega)) gL_rip_X6_rip rfl (by decide +kernel) ⟨by decide, by decide⟩ (ci := 6) rfl 0 rfl [0, 1, 2, 3, 4, 5, 6, 7, 8, 9, 10, 11, 12, 13, 14, 15, 16, 17, 18, 19, 20, 21, 22, 23, 24, 25, 26, 27, 28, 29, 30, 31, 32, 33, 34, 35, 36, 37, 38, 39, 40, 41, 42, 43, 44, 45, 46, 47] [48] (by decide) rfl rfl (by decide) (by decide) rfl rfl (by simp [Value.category]) ⟨by decide, by decide⟩ dL_rip_4 (fun v w1 H locs hp hw => ?_)
  obtain ⟨ak2_2, aw2_3, au2_4, ay2_5, aR2_6, aS2_7, rfl, rfl, hok2_8, hho2_9⟩ := hp
  have hw := hw.sub (ws' := wMain G o P h T L M ++ (wPiece G P gk gw gt gy (R - k) sp ++ (wHist G h hs Q ak2_2 aw2_3 au2_4 ay2_5 aR2_6 aS2_7 ((nx + 1) % 4) (Nat.min (sz + 1) 4) ++ [(ou, .inl (G.2 1, 1, .inr (.inl fo)))]))) [1, 2, 3, 4, 5, 6, 7, 8, 9, 10, 11, 12, 13, 14, 15, 16, 17, 18, 19, 20, 21, 22, 23, 24, 25, 26, 27, 28, 29, 30, 31, 32, 33, 34, 35, 36, 37, 38, 39, 40, 41, 42, 43, 44, 45, 46, 47, 48, 0] (by decide) rfl
  refine W.eq (g2 := F0 m 7 ls [vN (sumM (K (R - k - 1)) (w (R - k - 1))), vN (0), .ref (ou)]) rfl ?_
  refine k_i2lR (x := ((sumM (K (R - k - 1)) (w (R - k - 1)) : Nat) : Int)) hm dL_rip_7 ?_
  refine k_last hm hw 48 (wMain G o P h T L M ++ (wPiece G P gk gw gt gy (R - k) sp ++ (wHist G h hs Q ak2_2 aw2_3 au2_4 ay2_5 aR2_6 aS2_7 ((nx + 1) % 4) (Nat.min (sz + 1) 4) ++ [(ou, .inl (G.2 1, 1, .inr (.inl (vp_updL fo 0 (i2L ((sumM (K (R - k - 1)) (w (R - k - 1)) : Nat) : Int))))))]))) rfl (by omega) rfl dL_rip_8 (fun H locs hw => ?_)
  refine k_goto (tgt := 18) hm dL_rip_9 (by decide) ?_
  refine k_iconstN hm 0 dL_rip_18 ?_
  exact k_iret (post := _) hm hQ rfl rfl hw (⟨ak2_2, aw2_3, au2_4, ay2_5, aR2_6, aS2_7, rfl, rfl, hok2_8, hho2_9⟩) (by omega) (by omega) dL_rip_19
set_option maxHeartbeats 4000000 in
set_option maxRecDepth 100000 in
theorem c_w_rip_x1 (l : Launch) (G : kG) (o : Nat) (h : Nat) (T : Nat → Nat) (L : Nat → Nat) (M : Nat → Nat) (P : Nat → Nat) (gk : Nat → Nat) (gw : Nat → Nat) (gt : Nat → Nat) (gy : Nat → Nat) (R : Nat) (sp : Bool) (z : Int) (ou : Nat) (fo : Nat → Int64) (htr : l.stackTraces = false) (hzz : -2147483648 ≤ z ∧ z < 2147483648) (hx : z < 1) : kCX l yL_rip wsL_rip 8 131 1 6 G [.ref (o), vZ (z), .ref (ou)] (wMain G o P h T L M ++ (wPiece G P gk gw gt gy R sp ++ [(ou, .inl (G.2 1, 1, .inr (.inl fo)))])) (fun vv uu => vv = some (vN (1)) ∧ uu = wMain G o P h T L M ++ (wPiece G P gk gw gt gy R sp ++ [(ou, .inl (G.2 1, 1, .inr (.inl fo)))])) := by
  refine kCX.of (cc := cL_rip) (maxL := 4) (ret := (some .int)) (by decide) rfl (Nat.le_of_ble_eq_true rfl) ?_
  intro p e s m args below meth c A ls Qz hQ htb hxs hst hm hw hl
  have hl : lv_has ls 4 [(0, .ref (o)), (1, vZ (z)), (2, .ref (ou))] := hl
  refine k_aload_n hm hl 2 rfl dL_rip_0 ?_
  refine k_iconstN hm 0 dL_rip_1 ?_
  refine k_aload_n hm hl 0 rfl dL_rip_2 ?_
  refine k_iload_n hm hl 1 rfl dL_rip_3 ?_
  refine k_callVx (n := 1) (As := [vZ (z)]) (rest := [vN (0), .ref (ou)]) (wr := [(ou, .inl (G.2 1, 1, .inr (.inl fo)))]) hm hw hl hxs hst (c_rip_x1 l G o h T L M P gk gw gt gy R sp z (by first | assumption | omega) (by first | assumption | omega) (by first | assumption | omega)) gL_rip_X6_rip rfl (by decide +kernel) ⟨by decide, by decide⟩ (ci := 6) rfl 0 rfl [0, 1, 2, 3, 4, 5, 6, 7, 8, 9] [10] (by decide) rfl rfl (by decide) (by decide) rfl rfl (by simp [Value.category]) ⟨by decide, by decide⟩ dL_rip_4 (fun q ce w1 H locs hp hw he1 he2 he3 => ?_)
  obtain rfl := hp
  have hw := hw.sub (ws' := wMain G o P h T L M ++ (wPiece G P gk gw gt gy R sp ++ [(ou, .inl (G.2 1, 1, .inr (.inl fo)))])) [1, 2, 3, 4, 5, 6, 7, 8, 9, 10, 0] (by decide) rfl
  refine vx_catch (name := xI) hm.2.2.2.1 [] ⟨0, 9, 12, 13⟩ [⟨0, 9, 15, 18⟩] (htb.trans rfl) (fun z hz => by exact absurd hz List.not_mem_nil) (by decide) (by decide) (hm.2.2.2.2.1 (.classLink RL 13 xI) (by decide +kernel)) (k_cast hxs (by decide)) he1 he2 he3 ?_
  refine W.eq (g2 := F0 m 12 ls [.ref (q)]) rfl ?_
  refine k_astore_n hm hl [(3, .ref (q)), (0, .ref (o)), (1, vZ (z)), (2, .ref (ou))] (by decide) rfl dL_rip_12 (fun ls hl => ?_)
  refine k_iconstN hm 1 dL_rip_13 ?_
  exact k_iret (post := _) hm hQ rfl rfl hw (⟨rfl, rfl⟩) (by omega) (by omega) dL_rip_14
set_option maxHeartbeats 4000000 in
set_option maxRecDepth 100000 in
theorem c_w_rip_x2 (l : Launch) (G : kG) (o : Nat) (h : Nat) (T : Nat → Nat) (L : Nat → Nat) (M : Nat → Nat) (P : Nat → Nat) (gk : Nat → Nat) (gw : Nat → Nat) (gt : Nat → Nat) (gy : Nat → Nat) (R : Nat) (sp : Bool) (z : Int) (ou : Nat) (fo : Nat → Int64) (htr : l.stackTraces = false) (hzz : -2147483648 ≤ z ∧ z < 2147483648) (hx : 1 ≤ z ∧ (R : Int) ≤ z ∧ R ≤ 40) : kCX l yL_rip wsL_rip 8 131 1 6 G [.ref (o), vZ (z), .ref (ou)] (wMain G o P h T L M ++ (wPiece G P gk gw gt gy R sp ++ [(ou, .inl (G.2 1, 1, .inr (.inl fo)))])) (fun vv uu => vv = some (vN (2)) ∧ uu = wMain G o P h T L M ++ (wPiece G P gk gw gt gy R sp ++ [(ou, .inl (G.2 1, 1, .inr (.inl fo)))])) := by
  refine kCX.of (cc := cL_rip) (maxL := 4) (ret := (some .int)) (by decide) rfl (Nat.le_of_ble_eq_true rfl) ?_
  intro p e s m args below meth c A ls Qz hQ htb hxs hst hm hw hl
  have hl : lv_has ls 4 [(0, .ref (o)), (1, vZ (z)), (2, .ref (ou))] := hl
  refine k_aload_n hm hl 2 rfl dL_rip_0 ?_
  refine k_iconstN hm 0 dL_rip_1 ?_
  refine k_aload_n hm hl 0 rfl dL_rip_2 ?_
  refine k_iload_n hm hl 1 rfl dL_rip_3 ?_
  refine k_callVx (n := 1) (As := [vZ (z)]) (rest := [vN (0), .ref (ou)]) (wr := [(ou, .inl (G.2 1, 1, .inr (.inl fo)))]) hm hw hl hxs hst (c_rip_x2 l G o h T L M P gk gw gt gy R sp z (by first | assumption | omega) (by first | assumption | omega) (by first | assumption | omega)) gL_rip_X6_rip rfl (by decide +kernel) ⟨by decide, by decide⟩ (ci := 6) rfl 0 rfl [0, 1, 2, 3, 4, 5, 6, 7, 8, 9] [10] (by decide) rfl rfl (by decide) (by decide) rfl rfl (by simp [Value.category]) ⟨by decide, by decide⟩ dL_rip_4 (fun q ce w1 H locs hp hw he1 he2 he3 => ?_)
  obtain rfl := hp
  have hw := hw.sub (ws' := wMain G o P h T L M ++ (wPiece G P gk gw gt gy R sp ++ [(ou, .inl (G.2 1, 1, .inr (.inl fo)))])) [1, 2, 3, 4, 5, 6, 7, 8, 9, 10, 0] (by decide) rfl
  refine vx_catch (name := xS) hm.2.2.2.1 [⟨0, 9, 12, 13⟩] ⟨0, 9, 15, 18⟩ [] (htb.trans rfl) (fun z hz => by rcases List.mem_cons.mp hz with rfl | hz; exact Or.inr ⟨by decide, xI, hm.2.2.2.2.1 (.classLink RL 13 xI) (by decide +kernel), hxs.2.2.1⟩; exact absurd hz List.not_mem_nil) (by decide) (by decide) (hm.2.2.2.2.1 (.classLink RL 18 xS) (by decide +kernel)) (k_cast hxs (by decide)) he1 he2 he3 ?_
  refine W.eq (g2 := F0 m 15 ls [.ref (q)]) rfl ?_
  refine k_astore_n hm hl [(3, .ref (q)), (0, .ref (o)), (1, vZ (z)), (2, .ref (ou))] (by decide) rfl dL_rip_15 (fun ls hl => ?_)
  refine k_iconstN hm 2 dL_rip_16 ?_
  exact k_iret (post := _) hm hQ rfl rfl hw (⟨rfl, rfl⟩) (by omega) (by omega) dL_rip_17
set_option maxHeartbeats 4000000 in
set_option maxRecDepth 100000 in
theorem c_w_setYarn_ok (l : Launch) (G : kG) (o : Nat) (T : Nat → Nat) (L : Nat → Nat) (M : Nat → Nat) (P : Nat → Nat) (gk : Nat → Nat) (gw : Nat → Nat) (gt : Nat → Nat) (gy : Nat → Nat) (R : Nat) (sp : Bool) (h : Nat) (hs : Nat) (Q : Nat → Nat → Nat) (ak : Nat → Nat → Nat) (aw : Nat → Nat → Nat) (au : Nat → Nat → Nat) (ay : Nat → Nat → Nat) (aR : Nat → Nat) (aS : Nat → Bool) (nx : Nat) (sz : Nat) (K : Nat → Nat → Nat) (w : Nat → Nat) (y : Nat → Nat) (sv : Nat → PSt) (k : Nat) (x : Nat) (ou : Nat) (fo : Nat → Int64) (hok : POk gk gw gt gy R K w y) (hho : HOk ak aw au ay aR aS nx sz sv) (hk : k < 3 ∧ 1 ≤ x ∧ x ≤ 60) : kCX l yL_setYarn wsL_setYarn 8 133 1 6 G [.ref (o), vN (k), vN (x), .ref (ou)] (wMain G o P h T L M ++ (wPiece G P gk gw gt gy R sp ++ (wHist G h hs Q ak aw au ay aR aS nx sz ++ [(ou, .inl (G.2 1, 1, .inr (.inl fo)))]))) (fun vv uu => ∃ (gy2 : Nat → Nat), ∃ (ak2 : Nat → Nat → Nat), ∃ (aw2 : Nat → Nat → Nat), ∃ (au2 : Nat → Nat → Nat), ∃ (ay2 : Nat → Nat → Nat), ∃ (aR2 : Nat → Nat), ∃ (aS2 : Nat → Bool), vv = some (vN (0)) ∧ uu = wMain G o P h T L M ++ (wPiece G P gk gw gt gy2 R sp ++ (wHist G h hs Q ak2 aw2 au2 ay2 aR2 aS2 ((nx + 1) % 4) (Nat.min (sz + 1) 4) ++ [(ou, .inl (G.2 1, 1, .inr (.inl (vp_updL fo 0 (i2L ((y k : Nat) : Int))))))])) ∧ (POk gk gw gt gy2 R K w (nU y k x)) ∧ (HOk ak2 aw2 au2 ay2 aR2 aS2 ((nx + 1) % 4) (Nat.min (sz + 1) 4) (svPush (R, sp, K, w, y) sv))) := by
  refine kCX.of (cc := cL_setYarn) (maxL := 5) (ret := (some .int)) (by decide) rfl (Nat.le_of_ble_eq_true rfl) ?_
  intro p e s m args below meth c A ls Qz hQ htb hxs hst hm hw hl
  have hl : lv_has ls 5 [(0, .ref (o)), (1, vN (k)), (2, vN (x)), (3, .ref (ou))] := hl
  refine k_aload_n hm hl 3 rfl dL_setYarn_0 ?_
  refine k_iconstN hm 0 dL_setYarn_1 ?_
  refine k_aload_n hm hl 0 rfl dL_setYarn_2 ?_
  refine k_iload_n hm hl 1 rfl dL_setYarn_3 ?_
  refine k_iload_n hm hl 2 rfl dL_setYarn_4 ?_
  refine k_callV (n := 2) (As := [vN (k), vN (x)]) (rest := [vN (0), .ref (ou)]) (wr := [(ou, .inl (G.2 1, 1, .inr (.inl fo)))]) hm hw hl (c_setYarn_ok l G o T L M P gk gw gt gy R sp h hs Q ak aw au ay aR aS nx sz K w y sv k x (by first | assumption | omega) (by first | assumption | omega) (by first | assumption | omega)) gL_setYarn_X6_setYarn rfl (by decide +kernel) ⟨by decide, by decide⟩ (ci := 6) rfl 0 rfl [0, 1, 2, 3, 4, 5, 6, 7, 8, 9, 10, 11, 12, 13, 14, 15, 16, 17, 18, 19, 20, 21, 22, 23, 24, 25, 26, 27, 28, 29, 30, 31, 32, 33, 34, 35, 36, 37, 38, 39, 40, 41, 42, 43, 44, 45, 46, 47] [48] (by decide) rfl rfl (by decide) (by decide) rfl rfl (by simp [Value.category]) ⟨by decide, by decide⟩ dL_setYarn_5 (fun v w1 H locs hp hw => ?_)
  obtain ⟨gy2_2, ak2_3, aw2_4, au2_5, ay2_6, aR2_7, aS2_8, rfl, rfl, hok2_9, hho2_10⟩ := hp
  have hw := hw.sub (ws' := wMain G o P h T L M ++ (wPiece G P gk gw gt gy2_2 R sp ++ (wHist G h hs Q ak2_3 aw2_4 au2_5 ay2_6 aR2_7 aS2_8 ((nx + 1) % 4) (Nat.min (sz + 1) 4) ++ [(ou, .inl (G.2 1, 1, .inr (.inl fo)))]))) [1, 2, 3, 4, 5, 6, 7, 8, 9, 10, 11, 12, 13, 14, 15, 16, 17, 18, 19, 20, 21, 22, 23, 24, 25, 26, 27, 28, 29, 30, 31, 32, 33, 34, 35, 36, 37, 38, 39, 40, 41, 42, 43, 44, 45, 46, 47, 48, 0] (by decide) rfl
  refine W.eq (g2 := F0 m 8 ls [vN (y k), vN (0), .ref (ou)]) rfl ?_
  refine k_i2lR (x := ((y k : Nat) : Int)) hm dL_setYarn_8 ?_
  refine k_last hm hw 48 (wMain G o P h T L M ++ (wPiece G P gk gw gt gy2_2 R sp ++ (wHist G h hs Q ak2_3 aw2_4 au2_5 ay2_6 aR2_7 aS2_8 ((nx + 1) % 4) (Nat.min (sz + 1) 4) ++ [(ou, .inl (G.2 1, 1, .inr (.inl (vp_updL fo 0 (i2L ((y k : Nat) : Int))))))]))) rfl (by omega) rfl dL_setYarn_9 (fun H locs hw => ?_)
  refine k_goto (tgt := 17) hm dL_setYarn_10 (by decide) ?_
  refine k_iconstN hm 0 dL_setYarn_17 ?_
  exact k_iret (post := _) hm hQ rfl rfl hw (⟨gy2_2, ak2_3, aw2_4, au2_5, ay2_6, aR2_7, aS2_8, rfl, rfl, hok2_9, hho2_10⟩) (by omega) (by omega) dL_setYarn_18
set_option maxHeartbeats 4000000 in
set_option maxRecDepth 100000 in
theorem c_w_setYarn_x (l : Launch) (G : kG) (o : Nat) (h : Nat) (T : Nat → Nat) (L : Nat → Nat) (M : Nat → Nat) (P : Nat → Nat) (gk : Nat → Nat) (gw : Nat → Nat) (gt : Nat → Nat) (gy : Nat → Nat) (R : Nat) (sp : Bool) (z : Int) (x : Int) (ou : Nat) (fo : Nat → Int64) (htr : l.stackTraces = false) (hzz : -2147483648 ≤ z ∧ z < 2147483648) (hzx : -2147483648 ≤ x ∧ x < 2147483648) (hx : ¬ (0 ≤ z ∧ z < 3 ∧ 1 ≤ x ∧ x ≤ 60)) : kCX l yL_setYarn wsL_setYarn 8 133 1 6 G [.ref (o), vZ (z), vZ (x), .ref (ou)] (wMain G o P h T L M ++ (wPiece G P gk gw gt gy R sp ++ [(ou, .inl (G.2 1, 1, .inr (.inl fo)))])) (fun vv uu => vv = some (vN (1)) ∧ uu = wMain G o P h T L M ++ (wPiece G P gk gw gt gy R sp ++ [(ou, .inl (G.2 1, 1, .inr (.inl fo)))])) := by
  refine kCX.of (cc := cL_setYarn) (maxL := 5) (ret := (some .int)) (by decide) rfl (Nat.le_of_ble_eq_true rfl) ?_
  intro p e s m args below meth c A ls Qz hQ htb hxs hst hm hw hl
  have hl : lv_has ls 5 [(0, .ref (o)), (1, vZ (z)), (2, vZ (x)), (3, .ref (ou))] := hl
  refine k_aload_n hm hl 3 rfl dL_setYarn_0 ?_
  refine k_iconstN hm 0 dL_setYarn_1 ?_
  refine k_aload_n hm hl 0 rfl dL_setYarn_2 ?_
  refine k_iload_n hm hl 1 rfl dL_setYarn_3 ?_
  refine k_iload_n hm hl 2 rfl dL_setYarn_4 ?_
  refine k_callVx (n := 2) (As := [vZ (z), vZ (x)]) (rest := [vN (0), .ref (ou)]) (wr := [(ou, .inl (G.2 1, 1, .inr (.inl fo)))]) hm hw hl hxs hst (c_setYarn_x l G o h T L M P gk gw gt gy R sp z x (by first | assumption | omega) (by first | assumption | omega) (by first | assumption | omega) (by first | assumption | omega)) gL_setYarn_X6_setYarn rfl (by decide +kernel) ⟨by decide, by decide⟩ (ci := 6) rfl 0 rfl [0, 1, 2, 3, 4, 5, 6, 7, 8, 9] [10] (by decide) rfl rfl (by decide) (by decide) rfl rfl (by simp [Value.category]) ⟨by decide, by decide⟩ dL_setYarn_5 (fun q ce w1 H locs hp hw he1 he2 he3 => ?_)
  obtain rfl := hp
  have hw := hw.sub (ws' := wMain G o P h T L M ++ (wPiece G P gk gw gt gy R sp ++ [(ou, .inl (G.2 1, 1, .inr (.inl fo)))])) [1, 2, 3, 4, 5, 6, 7, 8, 9, 10, 0] (by decide) rfl
  refine vx_catch (name := xI) hm.2.2.2.1 [] ⟨0, 10, 13, 13⟩ [] (htb.trans rfl) (fun z hz => by exact absurd hz List.not_mem_nil) (by decide) (by decide) (hm.2.2.2.2.1 (.classLink RL 13 xI) (by decide +kernel)) (k_cast hxs (by decide)) he1 he2 he3 ?_
  refine W.eq (g2 := F0 m 13 ls [.ref (q)]) rfl ?_
  refine k_astore hm hl [(4, .ref (q)), (0, .ref (o)), (1, vZ (z)), (2, vZ (x)), (3, .ref (ou))] (by decide) rfl dL_setYarn_13 (fun ls hl => ?_)
  refine k_iconstN hm 1 dL_setYarn_15 ?_
  exact k_iret (post := _) hm hQ rfl rfl hw (⟨rfl, rfl⟩) (by omega) (by omega) dL_setYarn_16
set_option maxHeartbeats 4000000 in
set_option maxRecDepth 100000 in
theorem c_w_round_ok (l : Launch) (G : kG) (o : Nat) (h : Nat) (T : Nat → Nat) (L : Nat → Nat) (M : Nat → Nat) (mf : Nat → Nat) (P : Nat → Nat) (gk : Nat → Nat) (gw : Nat → Nat) (gt : Nat → Nat) (gy : Nat → Nat) (R : Nat) (sp : Bool) (K : Nat → Nat → Nat) (w : Nat → Nat) (y : Nat → Nat) (r : Nat) (x : Nat) (ou : Nat) (fo : Nat → Int64) (hok : POk gk gw gt gy R K w y) (hr : r < R) (hx : x ≤ 10) : kCX l yL_round wsL_round 8 133 1 6 G [.ref (o), vN (r), vN (x), .ref (ou)] (wMain G o P h T L M ++ (wPiece G P gk gw gt gy R sp ++ (wMk G M mf ++ [(ou, .inl (G.2 1, 1, .inr (.inl fo)))]))) (fun vv uu => ∃ (mf2 : Nat → Nat), vv = some (vN (0)) ∧ uu = wMain G o P h T L M ++ (wPiece G P gk gw gt gy R sp ++ (wMk G M mf2 ++ [(ou, .inl (G.2 1, 1, .inr (.inl (vp_updL fo 0 (i2L (rv K w y r x))))))]))) := by
  refine kCX.of (cc := cL_round) (maxL := 5) (ret := (some .int)) (by decide) rfl (Nat.le_of_ble_eq_true rfl) ?_
  intro p e s m args below meth c A ls Qz hQ htb hxs hst hm hw hl
  have hl : lv_has ls 5 [(0, .ref (o)), (1, vN (r)), (2, vN (x)), (3, .ref (ou))] := hl
  refine k_aload_n hm hl 3 rfl dL_round_0 ?_
  refine k_iconstN hm 0 dL_round_1 ?_
  refine k_aload_n hm hl 0 rfl dL_round_2 ?_
  refine k_iload_n hm hl 1 rfl dL_round_3 ?_
  refine k_iload_n hm hl 2 rfl dL_round_4 ?_
  refine k_callV (n := 2) (As := [vN (r), vN (x)]) (rest := [vN (0), .ref (ou)]) (wr := [(ou, .inl (G.2 1, 1, .inr (.inl fo)))]) hm hw hl (c_round_ok l G o h T L M mf P gk gw gt gy R sp K w y r x (by first | assumption | omega) (by first | assumption | omega) (by first | assumption | omega)) gL_round_X6_round rfl (by decide +kernel) ⟨by decide, by decide⟩ (ci := 6) rfl 0 rfl [0, 1, 2, 3, 4, 5, 6, 7, 8, 9, 10, 11, 12] [13] (by decide) rfl rfl (by decide) (by decide) rfl rfl (by simp [Value.category]) ⟨by decide, by decide⟩ dL_round_5 (fun v w1 H locs hp hw => ?_)
  obtain ⟨mf2_2, rfl, rfl⟩ := hp
  have hw := hw.sub (ws' := wMain G o P h T L M ++ (wPiece G P gk gw gt gy R sp ++ (wMk G M mf2_2 ++ [(ou, .inl (G.2 1, 1, .inr (.inl fo)))]))) [1, 2, 3, 4, 5, 6, 7, 8, 9, 10, 11, 12, 13, 0] (by decide) rfl
  refine W.eq (g2 := F0 m 8 ls [vZ (rv K w y r x), vN (0), .ref (ou)]) rfl ?_
  refine k_i2lR (x := (rv K w y r x)) hm dL_round_8 ?_
  refine k_last hm hw 13 (wMain G o P h T L M ++ (wPiece G P gk gw gt gy R sp ++ (wMk G M mf2_2 ++ [(ou, .inl (G.2 1, 1, .inr (.inl (vp_updL fo 0 (i2L (rv K w y r x))))))]))) rfl (by omega) rfl dL_round_9 (fun H locs hw => ?_)
  refine k_goto (tgt := 21) hm dL_round_10 (by decide) ?_
  refine k_iconstN hm 0 dL_round_21 ?_
  exact k_iret (post := _) hm hQ rfl rfl hw (⟨mf2_2, rfl, rfl⟩) (by omega) (by omega) dL_round_22
set_option maxHeartbeats 4000000 in
set_option maxRecDepth 100000 in
theorem c_w_round_x1 (l : Launch) (G : kG) (o : Nat) (h : Nat) (T : Nat → Nat) (L : Nat → Nat) (M : Nat → Nat) (P : Nat → Nat) (gk : Nat → Nat) (gw : Nat → Nat) (gt : Nat → Nat) (gy : Nat → Nat) (R : Nat) (sp : Bool) (z : Int) (x : Int) (ou : Nat) (fo : Nat → Int64) (htr : l.stackTraces = false) (hzz : -2147483648 ≤ z ∧ z < 2147483648) (hzx : -2147483648 ≤ x ∧ x < 2147483648) (hR : R ≤ 40) (hx : ¬ (0 ≤ z ∧ z < (R : Int))) : kCX l yL_round wsL_round 8 133 1 6 G [.ref (o), vZ (z), vZ (x), .ref (ou)] (wMain G o P h T L M ++ (wPiece G P gk gw gt gy R sp ++ [(ou, .inl (G.2 1, 1, .inr (.inl fo)))])) (fun vv uu => vv = some (vN (1)) ∧ uu = wMain G o P h T L M ++ (wPiece G P gk gw gt gy R sp ++ [(ou, .inl (G.2 1, 1, .inr (.inl fo)))])) := by
  refine kCX.of (cc := cL_round) (maxL := 5) (ret := (some .int)) (by decide) rfl (Nat.le_of_ble_eq_true rfl) ?_
  intro p e s m args below meth c A ls Qz hQ htb hxs hst hm hw hl
  have hl : lv_has ls 5 [(0, .ref (o)), (1, vZ (z)), (2, vZ (x)), (3, .ref (ou))] := hl
  refine k_aload_n hm hl 3 rfl dL_round_0 ?_
  refine k_iconstN hm 0 dL_round_1 ?_
  refine k_aload_n hm hl 0 rfl dL_round_2 ?_
  refine k_iload_n hm hl 1 rfl dL_round_3 ?_
  refine k_iload_n hm hl 2 rfl dL_round_4 ?_
  refine k_callVx (n := 2) (As := [vZ (z), vZ (x)]) (rest := [vN (0), .ref (ou)]) (wr := [(ou, .inl (G.2 1, 1, .inr (.inl fo)))]) hm hw hl hxs hst (c_round_x1 l G o h T L M P gk gw gt gy R sp z x (by first | assumption | omega) (by first | assumption | omega) (by first | assumption | omega) (by first | assumption | omega) (by first | assumption | omega)) gL_round_X6_round rfl (by decide +kernel) ⟨by decide, by decide⟩ (ci := 6) rfl 0 rfl [0, 1, 2, 3, 4, 5, 6, 7, 8, 9] [10] (by decide) rfl rfl (by decide) (by decide) rfl rfl (by simp [Value.category]) ⟨by decide, by decide⟩ dL_round_5 (fun q ce w1 H locs hp hw he1 he2 he3 => ?_)
  obtain rfl := hp
  have hw := hw.sub (ws' := wMain G o P h T L M ++ (wPiece G P gk gw gt gy R sp ++ [(ou, .inl (G.2 1, 1, .inr (.inl fo)))])) [1, 2, 3, 4, 5, 6, 7, 8, 9, 10, 0] (by decide) rfl
  refine vx_catch (name := xB) hm.2.2.2.1 [] ⟨0, 10, 13, 42⟩ [⟨0, 10, 17, 13⟩] (htb.trans rfl) (fun z hz => by exact absurd hz List.not_mem_nil) (by decide) (by decide) (hm.2.2.2.2.1 (.classLink RL 42 xB) (by decide +kernel)) (k_cast hxs (by decide)) he1 he2 he3 ?_
  refine W.eq (g2 := F0 m 13 ls [.ref (q)]) rfl ?_
  refine k_astore hm hl [(4, .ref (q)), (0, .ref (o)), (1, vZ (z)), (2, vZ (x)), (3, .ref (ou))] (by decide) rfl dL_round_13 (fun ls hl => ?_)
  refine k_iconstN hm 1 dL_round_15 ?_
  exact k_iret (post := _) hm hQ rfl rfl hw (⟨rfl, rfl⟩) (by omega) (by omega) dL_round_16
set_option maxHeartbeats 4000000 in
set_option maxRecDepth 100000 in
theorem c_w_round_x2 (l : Launch) (G : kG) (o : Nat) (h : Nat) (T : Nat → Nat) (L : Nat → Nat) (M : Nat → Nat) (P : Nat → Nat) (gk : Nat → Nat) (gw : Nat → Nat) (gt : Nat → Nat) (gy : Nat → Nat) (R : Nat) (sp : Bool) (r : Nat) (x : Int) (ou : Nat) (fo : Nat → Int64) (htr : l.stackTraces = false) (hzx : -2147483648 ≤ x ∧ x < 2147483648) (hR : R ≤ 40) (hr : r < R) (hx : ¬ (0 ≤ x ∧ x ≤ 10)) : kCX l yL_round wsL_round 8 133 1 6 G [.ref (o), vN (r), vZ (x), .ref (ou)] (wMain G o P h T L M ++ (wPiece G P gk gw gt gy R sp ++ [(ou, .inl (G.2 1, 1, .inr (.inl fo)))])) (fun vv uu => vv = some (vN (2)) ∧ uu = wMain G o P h T L M ++ (wPiece G P gk gw gt gy R sp ++ [(ou, .inl (G.2 1, 1, .inr (.inl fo)))])) := by
  refine kCX.of (cc := cL_round) (maxL := 5) (ret := (some .int)) (by decide) rfl (Nat.le_of_ble_eq_true rfl) ?_
  intro p e s m args below meth c A ls Qz hQ htb hxs hst hm hw hl
  have hl : lv_has ls 5 [(0, .ref (o)), (1, vN (r)), (2, vZ (x)), (3, .ref (ou))] := hl
  refine k_aload_n hm hl 3 rfl dL_round_0 ?_
  refine k_iconstN hm 0 dL_round_1 ?_
  refine k_aload_n hm hl 0 rfl dL_round_2 ?_
  refine k_iload_n hm hl 1 rfl dL_round_3 ?_
  refine k_iload_n hm hl 2 rfl dL_round_4 ?_
  refine k_callVx (n := 2) (As := [vN (r), vZ (x)]) (rest := [vN (0), .ref (ou)]) (wr := [(ou, .inl (G.2 1, 1, .inr (.inl fo)))]) hm hw hl hxs hst (c_round_x2 l G o h T L M P gk gw gt gy R sp r x (by first | assumption | omega) (by first | assumption | omega) (by first | assumption | omega) (by first | assumption | omega) (by first | assumption | omega)) gL_round_X6_round rfl (by decide +kernel) ⟨by decide, by decide⟩ (ci := 6) rfl 0 rfl [0, 1, 2, 3, 4, 5, 6, 7, 8, 9] [10] (by decide) rfl rfl (by decide) (by decide) rfl rfl (by simp [Value.category]) ⟨by decide, by decide⟩ dL_round_5 (fun q ce w1 H locs hp hw he1 he2 he3 => ?_)
  obtain rfl := hp
  have hw := hw.sub (ws' := wMain G o P h T L M ++ (wPiece G P gk gw gt gy R sp ++ [(ou, .inl (G.2 1, 1, .inr (.inl fo)))])) [1, 2, 3, 4, 5, 6, 7, 8, 9, 10, 0] (by decide) rfl
  refine vx_catch (name := xI) hm.2.2.2.1 [⟨0, 10, 13, 42⟩] ⟨0, 10, 17, 13⟩ [] (htb.trans rfl) (fun z hz => by rcases List.mem_cons.mp hz with rfl | hz; exact Or.inr ⟨by decide, xB, hm.2.2.2.2.1 (.classLink RL 42 xB) (by decide +kernel), hxs.2.2.2.2.2⟩; exact absurd hz List.not_mem_nil) (by decide) (by decide) (hm.2.2.2.2.1 (.classLink RL 13 xI) (by decide +kernel)) (k_cast hxs (by decide)) he1 he2 he3 ?_
  refine W.eq (g2 := F0 m 17 ls [.ref (q)]) rfl ?_
  refine k_astore hm hl [(4, .ref (q)), (0, .ref (o)), (1, vN (r)), (2, vZ (x)), (3, .ref (ou))] (by decide) rfl dL_round_17 (fun ls hl => ?_)
  refine k_iconstN hm 2 dL_round_19 ?_
  exact k_iret (post := _) hm hQ rfl rfl hw (⟨rfl, rfl⟩) (by omega) (by omega) dL_round_20
set_option maxHeartbeats 4000000 in
set_option maxRecDepth 100000 in
theorem c_w_work_ok (l : Launch) (G : kG) (o : Nat) (h : Nat) (T : Nat → Nat) (L : Nat → Nat) (M : Nat → Nat) (P : Nat → Nat) (gk : Nat → Nat) (gw : Nat → Nat) (gt : Nat → Nat) (gy : Nat → Nat) (R : Nat) (sp : Bool) (K : Nat → Nat → Nat) (w : Nat → Nat) (y : Nat → Nat) (r : Nat) (x : Nat) (ou : Nat) (fo : Nat → Int64) (hok : POk gk gw gt gy R K w y) (hr : r < R) (hx : x < w r) : kCX l yL_work wsL_work 8 133 1 6 G [.ref (o), vN (r), vN (x), .ref (ou)] (wMain G o P h T L M ++ (wPiece G P gk gw gt gy R sp ++ [(ou, .inl (G.2 1, 1, .inr (.inl fo)))])) (fun vv uu => vv = some (vN (0)) ∧ uu = wMain G o P h T L M ++ (wPiece G P gk gw gt gy R sp ++ [(ou, .inl (G.2 1, 1, .inr (.inl (vp_updL fo 0 (i2L ((K r x : Nat) : Int))))))])) := by
  refine kCX.of (cc := cL_work) (maxL := 5) (ret := (some .int)) (by decide) rfl (Nat.le_of_ble_eq_true rfl) ?_
  intro p e s m args below meth c A ls Qz hQ htb hxs hst hm hw hl
  have hl : lv_has ls 5 [(0, .ref (o)), (1, vN (r)), (2, vN (x)), (3, .ref (ou))] := hl
  refine k_aload_n hm hl 3 rfl dL_work_0 ?_
  refine k_iconstN hm 0 dL_work_1 ?_
  refine k_aload_n hm hl 0 rfl dL_work_2 ?_
  refine k_iload_n hm hl 1 rfl dL_work_3 ?_
  refine k_iload_n hm hl 2 rfl dL_work_4 ?_
  refine k_callVr (n := 2) (As := [vN (r), vN (x)]) (rest := [vN (0), .ref (ou)]) hm hw hl (c_work_ok l G o h T L M P gk gw gt gy R sp K w y r x (by first | assumption | omega) (by first | assumption | omega) (by first | assumption | omega)) gL_work_X6_work rfl (by decide +kernel) ⟨by decide, by decide⟩ (ci := 6) rfl 0 rfl [0, 1, 2, 3, 4, 5, 6, 7, 8, 9] (by decide) rfl rfl rfl (by simp [Value.category]) ⟨by decide, by decide⟩ dL_work_5 (fun v H locs hp hw => ?_)
  obtain rfl := hp
  refine W.eq (g2 := F0 m 8 ls [vN (K r x), vN (0), .ref (ou)]) rfl ?_
  refine k_i2lR (x := ((K r x : Nat) : Int)) hm dL_work_8 ?_
  refine k_last hm hw 10 (wMain G o P h T L M ++ (wPiece G P gk gw gt gy R sp ++ [(ou, .inl (G.2 1, 1, .inr (.inl (vp_updL fo 0 (i2L ((K r x : Nat) : Int))))))])) rfl (by omega) rfl dL_work_9 (fun H locs hw => ?_)
  refine k_goto (tgt := 17) hm dL_work_10 (by decide) ?_
  refine k_iconstN hm 0 dL_work_17 ?_
  exact k_iret (post := _) hm hQ rfl rfl hw (⟨rfl, rfl⟩) (by omega) (by omega) dL_work_18
set_option maxHeartbeats 4000000 in
set_option maxRecDepth 100000 in
theorem c_w_work_x1 (l : Launch) (G : kG) (o : Nat) (h : Nat) (T : Nat → Nat) (L : Nat → Nat) (M : Nat → Nat) (P : Nat → Nat) (gk : Nat → Nat) (gw : Nat → Nat) (gt : Nat → Nat) (gy : Nat → Nat) (R : Nat) (sp : Bool) (z : Int) (x : Int) (ou : Nat) (fo : Nat → Int64) (htr : l.stackTraces = false) (hzz : -2147483648 ≤ z ∧ z < 2147483648) (hzx : -2147483648 ≤ x ∧ x < 2147483648) (hR : R ≤ 40) (hx : ¬ (0 ≤ z ∧ z < (R : Int))) : kCX l yL_work wsL_work 8 133 1 6 G [.ref (o), vZ (z), vZ (x), .ref (ou)] (wMain G o P h T L M ++ (wPiece G P gk gw gt gy R sp ++ [(ou, .inl (G.2 1, 1, .inr (.inl fo)))])) (fun vv uu => vv = some (vN (1)) ∧ uu = wMain G o P h T L M ++ (wPiece G P gk gw gt gy R sp ++ [(ou, .inl (G.2 1, 1, .inr (.inl fo)))])) := by
  refine kCX.of (cc := cL_work) (maxL := 5) (ret := (some .int)) (by decide) rfl (Nat.le_of_ble_eq_true rfl) ?_
  intro p e s m args below meth c A ls Qz hQ htb hxs hst hm hw hl
  have hl : lv_has ls 5 [(0, .ref (o)), (1, vZ (z)), (2, vZ (x)), (3, .ref (ou))] := hl
  refine k_aload_n hm hl 3 rfl dL_work_0 ?_
  refine k_iconstN hm 0 dL_work_1 ?_
  refine k_aload_n hm hl 0 rfl dL_work_2 ?_
  refine k_iload_n hm hl 1 rfl dL_work_3 ?_
  refine k_iload_n hm hl 2 rfl dL_work_4 ?_
  refine k_callVx (n := 2) (As := [vZ (z), vZ (x)]) (rest := [vN (0), .ref (ou)]) (wr := [(ou, .inl (G.2 1, 1, .inr (.inl fo)))]) hm hw hl hxs hst (c_work_x1 l G o h T L M P gk gw gt gy R sp z x (by first | assumption | omega) (by first | assumption | omega) (by first | assumption | omega) (by first | assumption | omega) (by first | assumption | omega)) gL_work_X6_work rfl (by decide +kernel) ⟨by decide, by decide⟩ (ci := 6) rfl 0 rfl [0, 1, 2, 3, 4, 5, 6, 7, 8, 9] [10] (by decide) rfl rfl (by decide) (by decide) rfl rfl (by simp [Value.category]) ⟨by decide, by decide⟩ dL_work_5 (fun q ce w1 H locs hp hw he1 he2 he3 => ?_)
  obtain rfl := hp
  have hw := hw.sub (ws' := wMain G o P h T L M ++ (wPiece G P gk gw gt gy R sp ++ [(ou, .inl (G.2 1, 1, .inr (.inl fo)))])) [1, 2, 3, 4, 5, 6, 7, 8, 9, 10, 0] (by decide) rfl
  refine vx_catch (name := xB) hm.2.2.2.1 [] ⟨0, 10, 13, 42⟩ [] (htb.trans rfl) (fun z hz => by exact absurd hz List.not_mem_nil) (by decide) (by decide) (hm.2.2.2.2.1 (.classLink RL 42 xB) (by decide +kernel)) (k_cast hxs (by decide)) he1 he2 he3 ?_
  refine W.eq (g2 := F0 m 13 ls [.ref (q)]) rfl ?_
  refine k_astore hm hl [(4, .ref (q)), (0, .ref (o)), (1, vZ (z)), (2, vZ (x)), (3, .ref (ou))] (by decide) rfl dL_work_13 (fun ls hl => ?_)
  refine k_iconstN hm 1 dL_work_15 ?_
  exact k_iret (post := _) hm hQ rfl rfl hw (⟨rfl, rfl⟩) (by omega) (by omega) dL_work_16
set_option maxHeartbeats 4000000 in
set_option maxRecDepth 100000 in
theorem c_w_work_x2 (l : Launch) (G : kG) (o : Nat) (h : Nat) (T : Nat → Nat) (L : Nat → Nat) (M : Nat → Nat) (P : Nat → Nat) (gk : Nat → Nat) (gw : Nat → Nat) (gt : Nat → Nat) (gy : Nat → Nat) (R : Nat) (sp : Bool) (K : Nat → Nat → Nat) (w : Nat → Nat) (y : Nat → Nat) (r : Nat) (x : Int) (ou : Nat) (fo : Nat → Int64) (htr : l.stackTraces = false) (hok : POk gk gw gt gy R K w y) (hzx : -2147483648 ≤ x ∧ x < 2147483648) (hr : r < R) (hx : ¬ (0 ≤ x ∧ x < (w r : Int))) : kCX l yL_work wsL_work 8 133 1 6 G [.ref (o), vN (r), vZ (x), .ref (ou)] (wMain G o P h T L M ++ (wPiece G P gk gw gt gy R sp ++ [(ou, .inl (G.2 1, 1, .inr (.inl fo)))])) (fun vv uu => vv = some (vN (1)) ∧ uu = wMain G o P h T L M ++ (wPiece G P gk gw gt gy R sp ++ [(ou, .inl (G.2 1, 1, .inr (.inl fo)))])) := by
  refine kCX.of (cc := cL_work) (maxL := 5) (ret := (some .int)) (by decide) rfl (Nat.le_of_ble_eq_true rfl) ?_
  intro p e s m args below meth c A ls Qz hQ htb hxs hst hm hw hl
  have hl : lv_has ls 5 [(0, .ref (o)), (1, vN (r)), (2, vZ (x)), (3, .ref (ou))] := hl
  refine k_aload_n hm hl 3 rfl dL_work_0 ?_
  refine k_iconstN hm 0 dL_work_1 ?_
  refine k_aload_n hm hl 0 rfl dL_work_2 ?_
  refine k_iload_n hm hl 1 rfl dL_work_3 ?_
  refine k_iload_n hm hl 2 rfl dL_work_4 ?_
  refine k_callVx (n := 2) (As := [vN (r), vZ (x)]) (rest := [vN (0), .ref (ou)]) (wr := [(ou, .inl (G.2 1, 1, .inr (.inl fo)))]) hm hw hl hxs hst (c_work_x2 l G o h T L M P gk gw gt gy R sp K w y r x (by first | assumption | omega) (by first | assumption | omega) (by first | assumption | omega) (by first | assumption | omega) (by first | assumption | omega)) gL_work_X6_work rfl (by decide +kernel) ⟨by decide, by decide⟩ (ci := 6) rfl 0 rfl [0, 1, 2, 3, 4, 5, 6, 7, 8, 9] [10] (by decide) rfl rfl (by decide) (by decide) rfl rfl (by simp [Value.category]) ⟨by decide, by decide⟩ dL_work_5 (fun q ce w1 H locs hp hw he1 he2 he3 => ?_)
  obtain rfl := hp
  have hw := hw.sub (ws' := wMain G o P h T L M ++ (wPiece G P gk gw gt gy R sp ++ [(ou, .inl (G.2 1, 1, .inr (.inl fo)))])) [1, 2, 3, 4, 5, 6, 7, 8, 9, 10, 0] (by decide) rfl
  refine vx_catch (name := xB) hm.2.2.2.1 [] ⟨0, 10, 13, 42⟩ [] (htb.trans rfl) (fun z hz => by exact absurd hz List.not_mem_nil) (by decide) (by decide) (hm.2.2.2.2.1 (.classLink RL 42 xB) (by decide +kernel)) (k_cast hxs (by decide)) he1 he2 he3 ?_
  refine W.eq (g2 := F0 m 13 ls [.ref (q)]) rfl ?_
  refine k_astore hm hl [(4, .ref (q)), (0, .ref (o)), (1, vN (r)), (2, vZ (x)), (3, .ref (ou))] (by decide) rfl dL_work_13 (fun ls hl => ?_)
  refine k_iconstN hm 1 dL_work_15 ?_
  exact k_iret (post := _) hm hQ rfl rfl hw (⟨rfl, rfl⟩) (by omega) (by omega) dL_work_16
set_option maxHeartbeats 4000000 in
set_option maxRecDepth 100000 in
theorem c_w_maker_ok (l : Launch) (G : kG) (o : Nat) (h : Nat) (T : Nat → Nat) (L : Nat → Nat) (M : Nat → Nat) (P : Nat → Nat) (gk : Nat → Nat) (gw : Nat → Nat) (gt : Nat → Nat) (gy : Nat → Nat) (R : Nat) (sp : Bool) (K : Nat → Nat → Nat) (w : Nat → Nat) (y : Nat → Nat) (r : Nat) (x : Nat) (ou : Nat) (fo : Nat → Int64) (hok : POk gk gw gt gy R K w y) (hr : r < R) (hx : x < sumM (K r) (w r)) : kCX l yL_maker wsL_maker 9 155 1 6 G [.ref (o), vN (r), vN (x), .ref (ou)] (wMain G o P h T L M ++ (wPiece G P gk gw gt gy R sp ++ [(ou, .inl (G.2 1, 1, .inr (.inl fo)))])) (fun vv uu => ∃ (i : Nat), vv = some (vN (0)) ∧ uu = wMain G o P h T L M ++ (wPiece G P gk gw gt gy R sp ++ [(ou, .inl (G.2 1, 1, .inr (.inl (vp_updL fo 0 (i2L ((i : Nat) : Int))))))]) ∧ (isMk (K r) x i)) := by
  refine kCX.of (cc := cL_maker) (maxL := 5) (ret := (some .int)) (by decide) rfl (Nat.le_of_ble_eq_true rfl) ?_
  intro p e s m args below meth c A ls Qz hQ htb hxs hst hm hw hl
  have hl : lv_has ls 5 [(0, .ref (o)), (1, vN (r)), (2, vN (x)), (3, .ref (ou))] := hl
  refine k_aload_n hm hl 3 rfl dL_maker_0 ?_
  refine k_iconstN hm 0 dL_maker_1 ?_
  refine k_aload_n hm hl 0 rfl dL_maker_2 ?_
  refine k_iload_n hm hl 1 rfl dL_maker_3 ?_
  refine k_iload_n hm hl 2 rfl dL_maker_4 ?_
  refine k_callVr (n := 2) (As := [vN (r), vN (x)]) (rest := [vN (0), .ref (ou)]) hm hw hl (c_maker_ok l G o h T L M P gk gw gt gy R sp K w y r x (by first | assumption | omega) (by first | assumption | omega) (by first | assumption | omega)) gL_maker_X6_maker rfl (by decide +kernel) ⟨by decide, by decide⟩ (ci := 6) rfl 0 rfl [0, 1, 2, 3, 4, 5, 6, 7, 8, 9] (by decide) rfl rfl rfl (by simp [Value.category]) ⟨by decide, by decide⟩ dL_maker_5 (fun v H locs hp hw => ?_)
  obtain ⟨i_2, rfl, hmk_3⟩ := hp
  refine W.eq (g2 := F0 m 8 ls [vN (i_2), vN (0), .ref (ou)]) rfl ?_
  refine k_i2lR (x := ((i_2 : Nat) : Int)) hm dL_maker_8 ?_
  refine k_last hm hw 10 (wMain G o P h T L M ++ (wPiece G P gk gw gt gy R sp ++ [(ou, .inl (G.2 1, 1, .inr (.inl (vp_updL fo 0 (i2L ((i_2 : Nat) : Int))))))])) rfl (by omega) rfl dL_maker_9 (fun H locs hw => ?_)
  refine k_goto (tgt := 17) hm dL_maker_10 (by decide) ?_
  refine k_iconstN hm 0 dL_maker_17 ?_
  exact k_iret (post := _) hm hQ rfl rfl hw (⟨i_2, rfl, rfl, hmk_3⟩) (by omega) (by omega) dL_maker_18
set_option maxHeartbeats 4000000 in
set_option maxRecDepth 100000 in
theorem c_w_maker_x1 (l : Launch) (G : kG) (o : Nat) (h : Nat) (T : Nat → Nat) (L : Nat → Nat) (M : Nat → Nat) (P : Nat → Nat) (gk : Nat → Nat) (gw : Nat → Nat) (gt : Nat → Nat) (gy : Nat → Nat) (R : Nat) (sp : Bool) (z : Int) (x : Int) (ou : Nat) (fo : Nat → Int64) (htr : l.stackTraces = false) (hzz : -2147483648 ≤ z ∧ z < 2147483648) (hzx : -2147483648 ≤ x ∧ x < 2147483648) (hR : R ≤ 40) (hx : ¬ (0 ≤ z ∧ z < (R : Int))) : kCX l yL_maker wsL_maker 9 155 1 6 G [.ref (o), vZ (z), vZ (x), .ref (ou)] (wMain G o P h T L M ++ (wPiece G P gk gw gt gy R sp ++ [(ou, .inl (G.2 1, 1, .inr (.inl fo)))])) (fun vv uu => vv = some (vN (1)) ∧ uu = wMain G o P h T L M ++ (wPiece G P gk gw gt gy R sp ++ [(ou, .inl (G.2 1, 1, .inr (.inl fo)))])) := by
  refine kCX.of (cc := cL_maker) (maxL := 5) (ret := (some .int)) (by decide) rfl (Nat.le_of_ble_eq_true rfl) ?_
  intro p e s m args below meth c A ls Qz hQ htb hxs hst hm hw hl
  have hl : lv_has ls 5 [(0, .ref (o)), (1, vZ (z)), (2, vZ (x)), (3, .ref (ou))] := hl
  refine k_aload_n hm hl 3 rfl dL_maker_0 ?_
  refine k_iconstN hm 0 dL_maker_1 ?_
  refine k_aload_n hm hl 0 rfl dL_maker_2 ?_
  refine k_iload_n hm hl 1 rfl dL_maker_3 ?_
  refine k_iload_n hm hl 2 rfl dL_maker_4 ?_
  refine k_callVx (n := 2) (As := [vZ (z), vZ (x)]) (rest := [vN (0), .ref (ou)]) (wr := [(ou, .inl (G.2 1, 1, .inr (.inl fo)))]) hm hw hl hxs hst (c_maker_x1 l G o h T L M P gk gw gt gy R sp z x (by first | assumption | omega) (by first | assumption | omega) (by first | assumption | omega) (by first | assumption | omega) (by first | assumption | omega)) gL_maker_X6_maker rfl (by decide +kernel) ⟨by decide, by decide⟩ (ci := 6) rfl 0 rfl [0, 1, 2, 3, 4, 5, 6, 7, 8, 9] [10] (by decide) rfl rfl (by decide) (by decide) rfl rfl (by simp [Value.category]) ⟨by decide, by decide⟩ dL_maker_5 (fun q ce w1 H locs hp hw he1 he2 he3 => ?_)
  obtain rfl := hp
  have hw := hw.sub (ws' := wMain G o P h T L M ++ (wPiece G P gk gw gt gy R sp ++ [(ou, .inl (G.2 1, 1, .inr (.inl fo)))])) [1, 2, 3, 4, 5, 6, 7, 8, 9, 10, 0] (by decide) rfl
  refine vx_catch (name := xB) hm.2.2.2.1 [] ⟨0, 10, 13, 42⟩ [] (htb.trans rfl) (fun z hz => by exact absurd hz List.not_mem_nil) (by decide) (by decide) (hm.2.2.2.2.1 (.classLink RL 42 xB) (by decide +kernel)) (k_cast hxs (by decide)) he1 he2 he3 ?_
  refine W.eq (g2 := F0 m 13 ls [.ref (q)]) rfl ?_
  refine k_astore hm hl [(4, .ref (q)), (0, .ref (o)), (1, vZ (z)), (2, vZ (x)), (3, .ref (ou))] (by decide) rfl dL_maker_13 (fun ls hl => ?_)
  refine k_iconstN hm 1 dL_maker_15 ?_
  exact k_iret (post := _) hm hQ rfl rfl hw (⟨rfl, rfl⟩) (by omega) (by omega) dL_maker_16
set_option maxHeartbeats 4000000 in
set_option maxRecDepth 100000 in
theorem c_w_maker_x2 (l : Launch) (G : kG) (o : Nat) (h : Nat) (T : Nat → Nat) (L : Nat → Nat) (M : Nat → Nat) (P : Nat → Nat) (gk : Nat → Nat) (gw : Nat → Nat) (gt : Nat → Nat) (gy : Nat → Nat) (R : Nat) (sp : Bool) (K : Nat → Nat → Nat) (w : Nat → Nat) (y : Nat → Nat) (r : Nat) (x : Int) (ou : Nat) (fo : Nat → Int64) (htr : l.stackTraces = false) (hok : POk gk gw gt gy R K w y) (hzx : -2147483648 ≤ x ∧ x < 2147483648) (hr : r < R) (hx : ¬ (0 ≤ x ∧ x < (sumM (K r) (w r) : Int))) : kCX l yL_maker wsL_maker 9 155 1 6 G [.ref (o), vN (r), vZ (x), .ref (ou)] (wMain G o P h T L M ++ (wPiece G P gk gw gt gy R sp ++ [(ou, .inl (G.2 1, 1, .inr (.inl fo)))])) (fun vv uu => vv = some (vN (1)) ∧ uu = wMain G o P h T L M ++ (wPiece G P gk gw gt gy R sp ++ [(ou, .inl (G.2 1, 1, .inr (.inl fo)))])) := by
  refine kCX.of (cc := cL_maker) (maxL := 5) (ret := (some .int)) (by decide) rfl (Nat.le_of_ble_eq_true rfl) ?_
  intro p e s m args below meth c A ls Qz hQ htb hxs hst hm hw hl
  have hl : lv_has ls 5 [(0, .ref (o)), (1, vN (r)), (2, vZ (x)), (3, .ref (ou))] := hl
  refine k_aload_n hm hl 3 rfl dL_maker_0 ?_
  refine k_iconstN hm 0 dL_maker_1 ?_
  refine k_aload_n hm hl 0 rfl dL_maker_2 ?_
  refine k_iload_n hm hl 1 rfl dL_maker_3 ?_
  refine k_iload_n hm hl 2 rfl dL_maker_4 ?_
  refine k_callVx (n := 2) (As := [vN (r), vZ (x)]) (rest := [vN (0), .ref (ou)]) (wr := [(ou, .inl (G.2 1, 1, .inr (.inl fo)))]) hm hw hl hxs hst (c_maker_x2 l G o h T L M P gk gw gt gy R sp K w y r x (by first | assumption | omega) (by first | assumption | omega) (by first | assumption | omega) (by first | assumption | omega) (by first | assumption | omega)) gL_maker_X6_maker rfl (by decide +kernel) ⟨by decide, by decide⟩ (ci := 6) rfl 0 rfl [0, 1, 2, 3, 4, 5, 6, 7, 8, 9] [10] (by decide) rfl rfl (by decide) (by decide) rfl rfl (by simp [Value.category]) ⟨by decide, by decide⟩ dL_maker_5 (fun q ce w1 H locs hp hw he1 he2 he3 => ?_)
  obtain rfl := hp
  have hw := hw.sub (ws' := wMain G o P h T L M ++ (wPiece G P gk gw gt gy R sp ++ [(ou, .inl (G.2 1, 1, .inr (.inl fo)))])) [1, 2, 3, 4, 5, 6, 7, 8, 9, 10, 0] (by decide) rfl
  refine vx_catch (name := xB) hm.2.2.2.1 [] ⟨0, 10, 13, 42⟩ [] (htb.trans rfl) (fun z hz => by exact absurd hz List.not_mem_nil) (by decide) (by decide) (hm.2.2.2.2.1 (.classLink RL 42 xB) (by decide +kernel)) (k_cast hxs (by decide)) he1 he2 he3 ?_
  refine W.eq (g2 := F0 m 13 ls [.ref (q)]) rfl ?_
  refine k_astore hm hl [(4, .ref (q)), (0, .ref (o)), (1, vN (r)), (2, vZ (x)), (3, .ref (ou))] (by decide) rfl dL_maker_13 (fun ls hl => ?_)
  refine k_iconstN hm 1 dL_maker_15 ?_
  exact k_iret (post := _) hm hQ rfl rfl hw (⟨rfl, rfl⟩) (by omega) (by omega) dL_maker_16
set_option maxHeartbeats 4000000 in
set_option maxRecDepth 100000 in
theorem c_w_parent_ok (l : Launch) (G : kG) (o : Nat) (h : Nat) (T : Nat → Nat) (L : Nat → Nat) (M : Nat → Nat) (P : Nat → Nat) (gk : Nat → Nat) (gw : Nat → Nat) (gt : Nat → Nat) (gy : Nat → Nat) (R : Nat) (sp : Bool) (K : Nat → Nat → Nat) (w : Nat → Nat) (y : Nat → Nat) (r : Nat) (x : Nat) (ou : Nat) (fo : Nat → Int64) (hok : POk gk gw gt gy R K w y) (hr : r < R) (hx : x < sumM (K r) (w r)) : kCX l yL_parent wsL_parent 9 155 1 6 G [.ref (o), vN (r), vN (x), .ref (ou)] (wMain G o P h T L M ++ (wPiece G P gk gw gt gy R sp ++ [(ou, .inl (G.2 1, 1, .inr (.inl fo)))])) (fun vv uu => ∃ (v : Int), vv = some (vN (0)) ∧ uu = wMain G o P h T L M ++ (wPiece G P gk gw gt gy R sp ++ [(ou, .inl (G.2 1, 1, .inr (.inl (vp_updL fo 0 (i2L (v))))))]) ∧ (isPar K r x v)) := by
  refine kCX.of (cc := cL_parent) (maxL := 5) (ret := (some .int)) (by decide) rfl (Nat.le_of_ble_eq_true rfl) ?_
  intro p e s m args below meth c A ls Qz hQ htb hxs hst hm hw hl
  have hl : lv_has ls 5 [(0, .ref (o)), (1, vN (r)), (2, vN (x)), (3, .ref (ou))] := hl
  refine k_aload_n hm hl 3 rfl dL_parent_0 ?_
  refine k_iconstN hm 0 dL_parent_1 ?_
  refine k_aload_n hm hl 0 rfl dL_parent_2 ?_
  refine k_iload_n hm hl 1 rfl dL_parent_3 ?_
  refine k_iload_n hm hl 2 rfl dL_parent_4 ?_
  refine k_callVr (n := 2) (As := [vN (r), vN (x)]) (rest := [vN (0), .ref (ou)]) hm hw hl (c_parent_ok l G o h T L M P gk gw gt gy R sp K w y r x (by first | assumption | omega) (by first | assumption | omega) (by first | assumption | omega)) gL_parent_X6_parent rfl (by decide +kernel) ⟨by decide, by decide⟩ (ci := 6) rfl 0 rfl [0, 1, 2, 3, 4, 5, 6, 7, 8, 9] (by decide) rfl rfl rfl (by simp [Value.category]) ⟨by decide, by decide⟩ dL_parent_5 (fun v H locs hp hw => ?_)
  obtain ⟨v_2, rfl, hv_3⟩ := hp
  refine W.eq (g2 := F0 m 8 ls [vZ (v_2), vN (0), .ref (ou)]) rfl ?_
  refine k_i2lR (x := (v_2)) hm dL_parent_8 ?_
  refine k_last hm hw 10 (wMain G o P h T L M ++ (wPiece G P gk gw gt gy R sp ++ [(ou, .inl (G.2 1, 1, .inr (.inl (vp_updL fo 0 (i2L (v_2))))))])) rfl (by omega) rfl dL_parent_9 (fun H locs hw => ?_)
  refine k_goto (tgt := 17) hm dL_parent_10 (by decide) ?_
  refine k_iconstN hm 0 dL_parent_17 ?_
  exact k_iret (post := _) hm hQ rfl rfl hw (⟨v_2, rfl, rfl, hv_3⟩) (by omega) (by omega) dL_parent_18
set_option maxHeartbeats 4000000 in
set_option maxRecDepth 100000 in
theorem c_w_parent_x1 (l : Launch) (G : kG) (o : Nat) (h : Nat) (T : Nat → Nat) (L : Nat → Nat) (M : Nat → Nat) (P : Nat → Nat) (gk : Nat → Nat) (gw : Nat → Nat) (gt : Nat → Nat) (gy : Nat → Nat) (R : Nat) (sp : Bool) (z : Int) (x : Int) (ou : Nat) (fo : Nat → Int64) (htr : l.stackTraces = false) (hzz : -2147483648 ≤ z ∧ z < 2147483648) (hzx : -2147483648 ≤ x ∧ x < 2147483648) (hR : R ≤ 40) (hx : ¬ (0 ≤ z ∧ z < (R : Int))) : kCX l yL_parent wsL_parent 9 155 1 6 G [.ref (o), vZ (z), vZ (x), .ref (ou)] (wMain G o P h T L M ++ (wPiece G P gk gw gt gy R sp ++ [(ou, .inl (G.2 1, 1, .inr (.inl fo)))])) (fun vv uu => vv = some (vN (1)) ∧ uu = wMain G o P h T L M ++ (wPiece G P gk gw gt gy R sp ++ [(ou, .inl (G.2 1, 1, .inr (.inl fo)))])) := by
  refine kCX.of (cc := cL_parent) (maxL := 5) (ret := (some .int)) (by decide) rfl (Nat.le_of_ble_eq_true rfl) ?_
  intro p e s m args below meth c A ls Qz hQ htb hxs hst hm hw hl
  have hl : lv_has ls 5 [(0, .ref (o)), (1, vZ (z)), (2, vZ (x)), (3, .ref (ou))] := hl
  refine k_aload_n hm hl 3 rfl dL_parent_0 ?_
  refine k_iconstN hm 0 dL_parent_1 ?_
  refine k_aload_n hm hl 0 rfl dL_parent_2 ?_
  refine k_iload_n hm hl 1 rfl dL_parent_3 ?_
  refine k_iload_n hm hl 2 rfl dL_parent_4 ?_
  refine k_callVx (n := 2) (As := [vZ (z), vZ (x)]) (rest := [vN (0), .ref (ou)]) (wr := [(ou, .inl (G.2 1, 1, .inr (.inl fo)))]) hm hw hl hxs hst (c_parent_x1 l G o h T L M P gk gw gt gy R sp z x (by first | assumption | omega) (by first | assumption | omega) (by first | assumption | omega) (by first | assumption | omega) (by first | assumption | omega)) gL_parent_X6_parent rfl (by decide +kernel) ⟨by decide, by decide⟩ (ci := 6) rfl 0 rfl [0, 1, 2, 3, 4, 5, 6, 7, 8, 9] [10] (by decide) rfl rfl (by decide) (by decide) rfl rfl (by simp [Value.category]) ⟨by decide, by decide⟩ dL_parent_5 (fun q ce w1 H locs hp hw he1 he2 he3 => ?_)
  obtain rfl := hp
  have hw := hw.sub (ws' := wMain G o P h T L M ++ (wPiece G P gk gw gt gy R sp ++ [(ou, .inl (G.2 1, 1, .inr (.inl fo)))])) [1, 2, 3, 4, 5, 6, 7, 8, 9, 10, 0] (by decide) rfl
  refine vx_catch (name := xB) hm.2.2.2.1 [] ⟨0, 10, 13, 42⟩ [] (htb.trans rfl) (fun z hz => by exact absurd hz List.not_mem_nil) (by decide) (by decide) (hm.2.2.2.2.1 (.classLink RL 42 xB) (by decide +kernel)) (k_cast hxs (by decide)) he1 he2 he3 ?_
  refine W.eq (g2 := F0 m 13 ls [.ref (q)]) rfl ?_
  refine k_astore hm hl [(4, .ref (q)), (0, .ref (o)), (1, vZ (z)), (2, vZ (x)), (3, .ref (ou))] (by decide) rfl dL_parent_13 (fun ls hl => ?_)
  refine k_iconstN hm 1 dL_parent_15 ?_
  exact k_iret (post := _) hm hQ rfl rfl hw (⟨rfl, rfl⟩) (by omega) (by omega) dL_parent_16
set_option maxHeartbeats 4000000 in
set_option maxRecDepth 100000 in
theorem c_w_parent_x2 (l : Launch) (G : kG) (o : Nat) (h : Nat) (T : Nat → Nat) (L : Nat → Nat) (M : Nat → Nat) (P : Nat → Nat) (gk : Nat → Nat) (gw : Nat → Nat) (gt : Nat → Nat) (gy : Nat → Nat) (R : Nat) (sp : Bool) (K : Nat → Nat → Nat) (w : Nat → Nat) (y : Nat → Nat) (r : Nat) (x : Int) (ou : Nat) (fo : Nat → Int64) (htr : l.stackTraces = false) (hok : POk gk gw gt gy R K w y) (hzx : -2147483648 ≤ x ∧ x < 2147483648) (hr : r < R) (hx : ¬ (0 ≤ x ∧ x < (sumM (K r) (w r) : Int))) : kCX l yL_parent wsL_parent 9 155 1 6 G [.ref (o), vN (r), vZ (x), .ref (ou)] (wMain G o P h T L M ++ (wPiece G P gk gw gt gy R sp ++ [(ou, .inl (G.2 1, 1, .inr (.inl fo)))])) (fun vv uu => vv = some (vN (1)) ∧ uu = wMain G o P h T L M ++ (wPiece G P gk gw gt gy R sp ++ [(ou, .inl (G.2 1, 1, .inr (.inl fo)))])) := by
  refine kCX.of (cc := cL_parent) (maxL := 5) (ret := (some .int)) (by decide) rfl (Nat.le_of_ble_eq_true rfl) ?_
  intro p e s m args below meth c A ls Qz hQ htb hxs hst hm hw hl
  have hl : lv_has ls 5 [(0, .ref (o)), (1, vN (r)), (2, vZ (x)), (3, .ref (ou))] := hl
  refine k_aload_n hm hl 3 rfl dL_parent_0 ?_
  refine k_iconstN hm 0 dL_parent_1 ?_
  refine k_aload_n hm hl 0 rfl dL_parent_2 ?_
  refine k_iload_n hm hl 1 rfl dL_parent_3 ?_
  refine k_iload_n hm hl 2 rfl dL_parent_4 ?_
  refine k_callVx (n := 2) (As := [vN (r), vZ (x)]) (rest := [vN (0), .ref (ou)]) (wr := [(ou, .inl (G.2 1, 1, .inr (.inl fo)))]) hm hw hl hxs hst (c_parent_x2 l G o h T L M P gk gw gt gy R sp K w y r x (by first | assumption | omega) (by first | assumption | omega) (by first | assumption | omega) (by first | assumption | omega) (by first | assumption | omega)) gL_parent_X6_parent rfl (by decide +kernel) ⟨by decide, by decide⟩ (ci := 6) rfl 0 rfl [0, 1, 2, 3, 4, 5, 6, 7, 8, 9] [10] (by decide) rfl rfl (by decide) (by decide) rfl rfl (by simp [Value.category]) ⟨by decide, by decide⟩ dL_parent_5 (fun q ce w1 H locs hp hw he1 he2 he3 => ?_)
  obtain rfl := hp
  have hw := hw.sub (ws' := wMain G o P h T L M ++ (wPiece G P gk gw gt gy R sp ++ [(ou, .inl (G.2 1, 1, .inr (.inl fo)))])) [1, 2, 3, 4, 5, 6, 7, 8, 9, 10, 0] (by decide) rfl
  refine vx_catch (name := xB) hm.2.2.2.1 [] ⟨0, 10, 13, 42⟩ [] (htb.trans rfl) (fun z hz => by exact absurd hz List.not_mem_nil) (by decide) (by decide) (hm.2.2.2.2.1 (.classLink RL 42 xB) (by decide +kernel)) (k_cast hxs (by decide)) he1 he2 he3 ?_
  refine W.eq (g2 := F0 m 13 ls [.ref (q)]) rfl ?_
  refine k_astore hm hl [(4, .ref (q)), (0, .ref (o)), (1, vN (r)), (2, vZ (x)), (3, .ref (ou))] (by decide) rfl dL_parent_13 (fun ls hl => ?_)
  refine k_iconstN hm 1 dL_parent_15 ?_
  exact k_iret (post := _) hm hQ rfl rfl hw (⟨rfl, rfl⟩) (by omega) (by omega) dL_parent_16
set_option maxHeartbeats 4000000 in
set_option maxRecDepth 100000 in
theorem c_w_child_ok (l : Launch) (G : kG) (o : Nat) (h : Nat) (T : Nat → Nat) (L : Nat → Nat) (M : Nat → Nat) (P : Nat → Nat) (gk : Nat → Nat) (gw : Nat → Nat) (gt : Nat → Nat) (gy : Nat → Nat) (R : Nat) (sp : Bool) (K : Nat → Nat → Nat) (w : Nat → Nat) (y : Nat → Nat) (r : Nat) (x : Nat) (ou : Nat) (fo : Nat → Int64) (hok : POk gk gw gt gy R K w y) (hr : r < R) (hx : x < sumM (K r) (w r)) : kCX l yL_child wsL_child 9 155 1 6 G [.ref (o), vN (r), vN (x), .ref (ou)] (wMain G o P h T L M ++ (wPiece G P gk gw gt gy R sp ++ [(ou, .inl (G.2 1, 1, .inr (.inl fo)))])) (fun vv uu => ∃ (v : Int), vv = some (vN (0)) ∧ uu = wMain G o P h T L M ++ (wPiece G P gk gw gt gy R sp ++ [(ou, .inl (G.2 1, 1, .inr (.inl (vp_updL fo 0 (i2L (v))))))]) ∧ (isChi K R r x v)) := by
  refine kCX.of (cc := cL_child) (maxL := 5) (ret := (some .int)) (by decide) rfl (Nat.le_of_ble_eq_true rfl) ?_
  intro p e s m args below meth c A ls Qz hQ htb hxs hst hm hw hl
  have hl : lv_has ls 5 [(0, .ref (o)), (1, vN (r)), (2, vN (x)), (3, .ref (ou))] := hl
  refine k_aload_n hm hl 3 rfl dL_child_0 ?_
  refine k_iconstN hm 0 dL_child_1 ?_
  refine k_aload_n hm hl 0 rfl dL_child_2 ?_
  refine k_iload_n hm hl 1 rfl dL_child_3 ?_
  refine k_iload_n hm hl 2 rfl dL_child_4 ?_
  refine k_callVr (n := 2) (As := [vN (r), vN (x)]) (rest := [vN (0), .ref (ou)]) hm hw hl (c_child_ok l G o h T L M P gk gw gt gy R sp K w y r x (by first | assumption | omega) (by first | assumption | omega) (by first | assumption | omega)) gL_child_X6_child rfl (by decide +kernel) ⟨by decide, by decide⟩ (ci := 6) rfl 0 rfl [0, 1, 2, 3, 4, 5, 6, 7, 8, 9] (by decide) rfl rfl rfl (by simp [Value.category]) ⟨by decide, by decide⟩ dL_child_5 (fun v H locs hp hw => ?_)
  obtain ⟨v_2, rfl, hv_3⟩ := hp
  refine W.eq (g2 := F0 m 8 ls [vZ (v_2), vN (0), .ref (ou)]) rfl ?_
  refine k_i2lR (x := (v_2)) hm dL_child_8 ?_
  refine k_last hm hw 10 (wMain G o P h T L M ++ (wPiece G P gk gw gt gy R sp ++ [(ou, .inl (G.2 1, 1, .inr (.inl (vp_updL fo 0 (i2L (v_2))))))])) rfl (by omega) rfl dL_child_9 (fun H locs hw => ?_)
  refine k_goto (tgt := 17) hm dL_child_10 (by decide) ?_
  refine k_iconstN hm 0 dL_child_17 ?_
  exact k_iret (post := _) hm hQ rfl rfl hw (⟨v_2, rfl, rfl, hv_3⟩) (by omega) (by omega) dL_child_18
set_option maxHeartbeats 4000000 in
set_option maxRecDepth 100000 in
theorem c_w_child_x1 (l : Launch) (G : kG) (o : Nat) (h : Nat) (T : Nat → Nat) (L : Nat → Nat) (M : Nat → Nat) (P : Nat → Nat) (gk : Nat → Nat) (gw : Nat → Nat) (gt : Nat → Nat) (gy : Nat → Nat) (R : Nat) (sp : Bool) (z : Int) (x : Int) (ou : Nat) (fo : Nat → Int64) (htr : l.stackTraces = false) (hzz : -2147483648 ≤ z ∧ z < 2147483648) (hzx : -2147483648 ≤ x ∧ x < 2147483648) (hR : R ≤ 40) (hx : ¬ (0 ≤ z ∧ z < (R : Int))) : kCX l yL_child wsL_child 9 155 1 6 G [.ref (o), vZ (z), vZ (x), .ref (ou)] (wMain G o P h T L M ++ (wPiece G P gk gw gt gy R sp ++ [(ou, .inl (G.2 1, 1, .inr (.inl fo)))])) (fun vv uu => vv = some (vN (1)) ∧ uu = wMain G o P h T L M ++ (wPiece G P gk gw gt gy R sp ++ [(ou, .inl (G.2 1, 1, .inr (.inl fo)))])) := by
  refine kCX.of (cc := cL_child) (maxL := 5) (ret := (some .int)) (by decide) rfl (Nat.le_of_ble_eq_true rfl) ?_
  intro p e s m args below meth c A ls Qz hQ htb hxs hst hm hw hl
  have hl : lv_has ls 5 [(0, .ref (o)), (1, vZ (z)), (2, vZ (x)), (3, .ref (ou))] := hl
  refine k_aload_n hm hl 3 rfl dL_child_0 ?_
  refine k_iconstN hm 0 dL_child_1 ?_
  refine k_aload_n hm hl 0 rfl dL_child_2 ?_
  refine k_iload_n hm hl 1 rfl dL_child_3 ?_
  refine k_iload_n hm hl 2 rfl dL_child_4 ?_
  refine k_callVx (n := 2) (As := [vZ (z), vZ (x)]) (rest := [vN (0), .ref (ou)]) (wr := [(ou, .inl (G.2 1, 1, .inr (.inl fo)))]) hm hw hl hxs hst (c_child_x1 l G o h T L M P gk gw gt gy R sp z x (by first | assumption | omega) (by first | assumption | omega) (by first | assumption | omega) (by first | assumption | omega) (by first | assumption | omega)) gL_child_X6_child rfl (by decide +kernel) ⟨by decide, by decide⟩ (ci := 6) rfl 0 rfl [0, 1, 2, 3, 4, 5, 6, 7, 8, 9] [10] (by decide) rfl rfl (by decide) (by decide) rfl rfl (by simp [Value.category]) ⟨by decide, by decide⟩ dL_child_5 (fun q ce w1 H locs hp hw he1 he2 he3 => ?_)
  obtain rfl := hp
  have hw := hw.sub (ws' := wMain G o P h T L M ++ (wPiece G P gk gw gt gy R sp ++ [(ou, .inl (G.2 1, 1, .inr (.inl fo)))])) [1, 2, 3, 4, 5, 6, 7, 8, 9, 10, 0] (by decide) rfl
  refine vx_catch (name := xB) hm.2.2.2.1 [] ⟨0, 10, 13, 42⟩ [] (htb.trans rfl) (fun z hz => by exact absurd hz List.not_mem_nil) (by decide) (by decide) (hm.2.2.2.2.1 (.classLink RL 42 xB) (by decide +kernel)) (k_cast hxs (by decide)) he1 he2 he3 ?_
  refine W.eq (g2 := F0 m 13 ls [.ref (q)]) rfl ?_
  refine k_astore hm hl [(4, .ref (q)), (0, .ref (o)), (1, vZ (z)), (2, vZ (x)), (3, .ref (ou))] (by decide) rfl dL_child_13 (fun ls hl => ?_)
  refine k_iconstN hm 1 dL_child_15 ?_
  exact k_iret (post := _) hm hQ rfl rfl hw (⟨rfl, rfl⟩) (by omega) (by omega) dL_child_16
set_option maxHeartbeats 4000000 in
set_option maxRecDepth 100000 in
theorem c_w_child_x2 (l : Launch) (G : kG) (o : Nat) (h : Nat) (T : Nat → Nat) (L : Nat → Nat) (M : Nat → Nat) (P : Nat → Nat) (gk : Nat → Nat) (gw : Nat → Nat) (gt : Nat → Nat) (gy : Nat → Nat) (R : Nat) (sp : Bool) (K : Nat → Nat → Nat) (w : Nat → Nat) (y : Nat → Nat) (r : Nat) (x : Int) (ou : Nat) (fo : Nat → Int64) (htr : l.stackTraces = false) (hok : POk gk gw gt gy R K w y) (hzx : -2147483648 ≤ x ∧ x < 2147483648) (hr : r < R) (hx : ¬ (0 ≤ x ∧ x < (sumM (K r) (w r) : Int))) : kCX l yL_child wsL_child 9 155 1 6 G [.ref (o), vN (r), vZ (x), .ref (ou)] (wMain G o P h T L M ++ (wPiece G P gk gw gt gy R sp ++ [(ou, .inl (G.2 1, 1, .inr (.inl fo)))])) (fun vv uu => vv = some (vN (1)) ∧ uu = wMain G o P h T L M ++ (wPiece G P gk gw gt gy R sp ++ [(ou, .inl (G.2 1, 1, .inr (.inl fo)))])) := by
  refine kCX.of (cc := cL_child) (maxL := 5) (ret := (some .int)) (by decide) rfl (Nat.le_of_ble_eq_true rfl) ?_
  intro p e s m args below meth c A ls Qz hQ htb hxs hst hm hw hl
  have hl : lv_has ls 5 [(0, .ref (o)), (1, vN (r)), (2, vZ (x)), (3, .ref (ou))] := hl
  refine k_aload_n hm hl 3 rfl dL_child_0 ?_
  refine k_iconstN hm 0 dL_child_1 ?_
  refine k_aload_n hm hl 0 rfl dL_child_2 ?_
  refine k_iload_n hm hl 1 rfl dL_child_3 ?_
  refine k_iload_n hm hl 2 rfl dL_child_4 ?_
  refine k_callVx (n := 2) (As := [vN (r), vZ (x)]) (rest := [vN (0), .ref (ou)]) (wr := [(ou, .inl (G.2 1, 1, .inr (.inl fo)))]) hm hw hl hxs hst (c_child_x2 l G o h T L M P gk gw gt gy R sp K w y r x (by first | assumption | omega) (by first | assumption | omega) (by first | assumption | omega) (by first | assumption | omega) (by first | assumption | omega)) gL_child_X6_child rfl (by decide +kernel) ⟨by decide, by decide⟩ (ci := 6) rfl 0 rfl [0, 1, 2, 3, 4, 5, 6, 7, 8, 9] [10] (by decide) rfl rfl (by decide) (by decide) rfl rfl (by simp [Value.category]) ⟨by decide, by decide⟩ dL_child_5 (fun q ce w1 H locs hp hw he1 he2 he3 => ?_)
  obtain rfl := hp
  have hw := hw.sub (ws' := wMain G o P h T L M ++ (wPiece G P gk gw gt gy R sp ++ [(ou, .inl (G.2 1, 1, .inr (.inl fo)))])) [1, 2, 3, 4, 5, 6, 7, 8, 9, 10, 0] (by decide) rfl
  refine vx_catch (name := xB) hm.2.2.2.1 [] ⟨0, 10, 13, 42⟩ [] (htb.trans rfl) (fun z hz => by exact absurd hz List.not_mem_nil) (by decide) (by decide) (hm.2.2.2.2.1 (.classLink RL 42 xB) (by decide +kernel)) (k_cast hxs (by decide)) he1 he2 he3 ?_
  refine W.eq (g2 := F0 m 13 ls [.ref (q)]) rfl ?_
  refine k_astore hm hl [(4, .ref (q)), (0, .ref (o)), (1, vN (r)), (2, vZ (x)), (3, .ref (ou))] (by decide) rfl dL_child_13 (fun ls hl => ?_)
  refine k_iconstN hm 1 dL_child_15 ?_
  exact k_iret (post := _) hm hQ rfl rfl hw (⟨rfl, rfl⟩) (by omega) (by omega) dL_child_16
set_option maxHeartbeats 4000000 in
set_option maxRecDepth 100000 in
theorem c_w_root_ok (l : Launch) (G : kG) (o : Nat) (h : Nat) (T : Nat → Nat) (L : Nat → Nat) (M : Nat → Nat) (P : Nat → Nat) (gk : Nat → Nat) (gw : Nat → Nat) (gt : Nat → Nat) (gy : Nat → Nat) (R : Nat) (sp : Bool) (K : Nat → Nat → Nat) (w : Nat → Nat) (y : Nat → Nat) (r : Nat) (x : Nat) (ou : Nat) (fo : Nat → Int64) (hok : POk gk gw gt gy R K w y) (hr : r < R) (hx : x < sumM (K r) (w r)) : kCX l yL_root wsL_root 9 157 1 6 G [.ref (o), vN (r), vN (x), .ref (ou)] (wMain G o P h T L M ++ (wPiece G P gk gw gt gy R sp ++ [(ou, .inl (G.2 1, 1, .inr (.inl fo)))])) (fun vv uu => ∃ (z : Nat), vv = some (vN (0)) ∧ uu = wMain G o P h T L M ++ (wPiece G P gk gw gt gy R sp ++ [(ou, .inl (G.2 1, 1, .inr (.inl (vp_updL fo 0 (i2L ((z : Nat) : Int))))))]) ∧ (rtP K r x z)) := by
  refine kCX.of (cc := cL_root) (maxL := 5) (ret := (some .int)) (by decide) rfl (Nat.le_of_ble_eq_true rfl) ?_
  intro p e s m args below meth c A ls Qz hQ htb hxs hst hm hw hl
  have hl : lv_has ls 5 [(0, .ref (o)), (1, vN (r)), (2, vN (x)), (3, .ref (ou))] := hl
  refine k_aload_n hm hl 3 rfl dL_root_0 ?_
  refine k_iconstN hm 0 dL_root_1 ?_
  refine k_aload_n hm hl 0 rfl dL_root_2 ?_
  refine k_iload_n hm hl 1 rfl dL_root_3 ?_
  refine k_iload_n hm hl 2 rfl dL_root_4 ?_
  refine k_callVr (n := 2) (As := [vN (r), vN (x)]) (rest := [vN (0), .ref (ou)]) hm hw hl (c_root_ok l G o h T L M P gk gw gt gy R sp K w y r x (by first | assumption | omega) (by first | assumption | omega) (by first | assumption | omega)) gL_root_X6_root rfl (by decide +kernel) ⟨by decide, by decide⟩ (ci := 6) rfl 0 rfl [0, 1, 2, 3, 4, 5, 6, 7, 8, 9] (by decide) rfl rfl rfl (by simp [Value.category]) ⟨by decide, by decide⟩ dL_root_5 (fun v H locs hp hw => ?_)
  obtain ⟨z_2, rfl, hz_3⟩ := hp
  refine W.eq (g2 := F0 m 8 ls [vN (z_2), vN (0), .ref (ou)]) rfl ?_
  refine k_i2lR (x := ((z_2 : Nat) : Int)) hm dL_root_8 ?_
  refine k_last hm hw 10 (wMain G o P h T L M ++ (wPiece G P gk gw gt gy R sp ++ [(ou, .inl (G.2 1, 1, .inr (.inl (vp_updL fo 0 (i2L ((z_2 : Nat) : Int))))))])) rfl (by omega) rfl dL_root_9 (fun H locs hw => ?_)
  refine k_goto (tgt := 17) hm dL_root_10 (by decide) ?_
  refine k_iconstN hm 0 dL_root_17 ?_
  exact k_iret (post := _) hm hQ rfl rfl hw (⟨z_2, rfl, rfl, hz_3⟩) (by omega) (by omega) dL_root_18
set_option maxHeartbeats 4000000 in
set_option maxRecDepth 100000 in
theorem c_w_root_x1 (l : Launch) (G : kG) (o : Nat) (h : Nat) (T : Nat → Nat) (L : Nat → Nat) (M : Nat → Nat) (P : Nat → Nat) (gk : Nat → Nat) (gw : Nat → Nat) (gt : Nat → Nat) (gy : Nat → Nat) (R : Nat) (sp : Bool) (z : Int) (x : Int) (ou : Nat) (fo : Nat → Int64) (htr : l.stackTraces = false) (hzz : -2147483648 ≤ z ∧ z < 2147483648) (hzx : -2147483648 ≤ x ∧ x < 2147483648) (hR : R ≤ 40) (hx : ¬ (0 ≤ z ∧ z < (R : Int))) : kCX l yL_root wsL_root 9 157 1 6 G [.ref (o), vZ (z), vZ (x), .ref (ou)] (wMain G o P h T L M ++ (wPiece G P gk gw gt gy R sp ++ [(ou, .inl (G.2 1, 1, .inr (.inl fo)))])) (fun vv uu => vv = some (vN (1)) ∧ uu = wMain G o P h T L M ++ (wPiece G P gk gw gt gy R sp ++ [(ou, .inl (G.2 1, 1, .inr (.inl fo)))])) := by
  refine kCX.of (cc := cL_root) (maxL := 5) (ret := (some .int)) (by decide) rfl (Nat.le_of_ble_eq_true rfl) ?_
  intro p e s m args below meth c A ls Qz hQ htb hxs hst hm hw hl
  have hl : lv_has ls 5 [(0, .ref (o)), (1, vZ (z)), (2, vZ (x)), (3, .ref (ou))] := hl
  refine k_aload_n hm hl 3 rfl dL_root_0 ?_
  refine k_iconstN hm 0 dL_root_1 ?_
  refine k_aload_n hm hl 0 rfl dL_root_2 ?_
  refine k_iload_n hm hl 1 rfl dL_root_3 ?_
  refine k_iload_n hm hl 2 rfl dL_root_4 ?_
  refine k_callVx (n := 2) (As := [vZ (z), vZ (x)]) (rest := [vN (0), .ref (ou)]) (wr := [(ou, .inl (G.2 1, 1, .inr (.inl fo)))]) hm hw hl hxs hst (c_root_x1 l G o h T L M P gk gw gt gy R sp z x (by first | assumption | omega) (by first | assumption | omega) (by first | assumption | omega) (by first | assumption | omega) (by first | assumption | omega)) gL_root_X6_root rfl (by decide +kernel) ⟨by decide, by decide⟩ (ci := 6) rfl 0 rfl [0, 1, 2, 3, 4, 5, 6, 7, 8, 9] [10] (by decide) rfl rfl (by decide) (by decide) rfl rfl (by simp [Value.category]) ⟨by decide, by decide⟩ dL_root_5 (fun q ce w1 H locs hp hw he1 he2 he3 => ?_)
  obtain rfl := hp
  have hw := hw.sub (ws' := wMain G o P h T L M ++ (wPiece G P gk gw gt gy R sp ++ [(ou, .inl (G.2 1, 1, .inr (.inl fo)))])) [1, 2, 3, 4, 5, 6, 7, 8, 9, 10, 0] (by decide) rfl
  refine vx_catch (name := xB) hm.2.2.2.1 [] ⟨0, 10, 13, 42⟩ [] (htb.trans rfl) (fun z hz => by exact absurd hz List.not_mem_nil) (by decide) (by decide) (hm.2.2.2.2.1 (.classLink RL 42 xB) (by decide +kernel)) (k_cast hxs (by decide)) he1 he2 he3 ?_
  refine W.eq (g2 := F0 m 13 ls [.ref (q)]) rfl ?_
  refine k_astore hm hl [(4, .ref (q)), (0, .ref (o)), (1, vZ (z)), (2, vZ (x)), (3, .ref (ou))] (by decide) rfl dL_root_13 (fun ls hl => ?_)
  refine k_iconstN hm 1 dL_root_15 ?_
  exact k_iret (post := _) hm hQ rfl rfl hw (⟨rfl, rfl⟩) (by omega) (by omega) dL_root_16
set_option maxHeartbeats 4000000 in
set_option maxRecDepth 100000 in
theorem c_w_root_x2 (l : Launch) (G : kG) (o : Nat) (h : Nat) (T : Nat → Nat) (L : Nat → Nat) (M : Nat → Nat) (P : Nat → Nat) (gk : Nat → Nat) (gw : Nat → Nat) (gt : Nat → Nat) (gy : Nat → Nat) (R : Nat) (sp : Bool) (K : Nat → Nat → Nat) (w : Nat → Nat) (y : Nat → Nat) (r : Nat) (x : Int) (ou : Nat) (fo : Nat → Int64) (htr : l.stackTraces = false) (hok : POk gk gw gt gy R K w y) (hzx : -2147483648 ≤ x ∧ x < 2147483648) (hr : r < R) (hx : ¬ (0 ≤ x ∧ x < (sumM (K r) (w r) : Int))) : kCX l yL_root wsL_root 9 157 1 6 G [.ref (o), vN (r), vZ (x), .ref (ou)] (wMain G o P h T L M ++ (wPiece G P gk gw gt gy R sp ++ [(ou, .inl (G.2 1, 1, .inr (.inl fo)))])) (fun vv uu => vv = some (vN (1)) ∧ uu = wMain G o P h T L M ++ (wPiece G P gk gw gt gy R sp ++ [(ou, .inl (G.2 1, 1, .inr (.inl fo)))])) := by
  refine kCX.of (cc := cL_root) (maxL := 5) (ret := (some .int)) (by decide) rfl (Nat.le_of_ble_eq_true rfl) ?_
  intro p e s m args below meth c A ls Qz hQ htb hxs hst hm hw hl
  have hl : lv_has ls 5 [(0, .ref (o)), (1, vN (r)), (2, vZ (x)), (3, .ref (ou))] := hl
  refine k_aload_n hm hl 3 rfl dL_root_0 ?_
  refine k_iconstN hm 0 dL_root_1 ?_
  refine k_aload_n hm hl 0 rfl dL_root_2 ?_
  refine k_iload_n hm hl 1 rfl dL_root_3 ?_
  refine k_iload_n hm hl 2 rfl dL_root_4 ?_
  refine k_callVx (n := 2) (As := [vN (r), vZ (x)]) (rest := [vN (0), .ref (ou)]) (wr := [(ou, .inl (G.2 1, 1, .inr (.inl fo)))]) hm hw hl hxs hst (c_root_x2 l G o h T L M P gk gw gt gy R sp K w y r x (by first | assumption | omega) (by first | assumption | omega) (by first | assumption | omega) (by first | assumption | omega) (by first | assumption | omega)) gL_root_X6_root rfl (by decide +kernel) ⟨by decide, by decide⟩ (ci := 6) rfl 0 rfl [0, 1, 2, 3, 4, 5, 6, 7, 8, 9] [10] (by decide) rfl rfl (by decide) (by decide) rfl rfl (by simp [Value.category]) ⟨by decide, by decide⟩ dL_root_5 (fun q ce w1 H locs hp hw he1 he2 he3 => ?_)
  obtain rfl := hp
  have hw := hw.sub (ws' := wMain G o P h T L M ++ (wPiece G P gk gw gt gy R sp ++ [(ou, .inl (G.2 1, 1, .inr (.inl fo)))])) [1, 2, 3, 4, 5, 6, 7, 8, 9, 10, 0] (by decide) rfl
  refine vx_catch (name := xB) hm.2.2.2.1 [] ⟨0, 10, 13, 42⟩ [] (htb.trans rfl) (fun z hz => by exact absurd hz List.not_mem_nil) (by decide) (by decide) (hm.2.2.2.2.1 (.classLink RL 42 xB) (by decide +kernel)) (k_cast hxs (by decide)) he1 he2 he3 ?_
  refine W.eq (g2 := F0 m 13 ls [.ref (q)]) rfl ?_
  refine k_astore hm hl [(4, .ref (q)), (0, .ref (o)), (1, vN (r)), (2, vZ (x)), (3, .ref (ou))] (by decide) rfl dL_root_13 (fun ls hl => ?_)
  refine k_iconstN hm 1 dL_root_15 ?_
  exact k_iret (post := _) hm hQ rfl rfl hw (⟨rfl, rfl⟩) (by omega) (by omega) dL_root_16
set_option maxHeartbeats 4000000 in
set_option maxRecDepth 100000 in
theorem c_w_place_ok (l : Launch) (G : kG) (o : Nat) (h : Nat) (T : Nat → Nat) (L : Nat → Nat) (M : Nat → Nat) (P : Nat → Nat) (gk : Nat → Nat) (gw : Nat → Nat) (gt : Nat → Nat) (gy : Nat → Nat) (R : Nat) (sp : Bool) (K : Nat → Nat → Nat) (w : Nat → Nat) (y : Nat → Nat) (r : Nat) (x : Nat) (ou : Nat) (fo : Nat → Int64) (hok : POk gk gw gt gy R K w y) (hr : r < R) (hx : x < sumM (K r) (w r)) : kCX l yL_place wsL_place 9 156 1 6 G [.ref (o), vN (r), vN (x), .ref (ou)] (wMain G o P h T L M ++ (wPiece G P gk gw gt gy R sp ++ [(ou, .inl (G.2 1, 1, .inr (.inl fo)))])) (fun vv uu => vv = some (vN (0)) ∧ uu = wMain G o P h T L M ++ (wPiece G P gk gw gt gy R sp ++ [(ou, .inl (G.2 1, 1, .inr (.inl (vp_updL fo 0 (i2L ((if sp = true then (2 * x + r) * 1000 / (2 * sumM (K r) (w r)) % 1000 else x * 1000 / sumM (K r) (w r) : Nat) : Int))))))])) := by
  refine kCX.of (cc := cL_place) (maxL := 5) (ret := (some .int)) (by decide) rfl (Nat.le_of_ble_eq_true rfl) ?_
  intro p e s m args below meth c A ls Qz hQ htb hxs hst hm hw hl
  have hl : lv_has ls 5 [(0, .ref (o)), (1, vN (r)), (2, vN (x)), (3, .ref (ou))] := hl
  refine k_aload_n hm hl 3 rfl dL_place_0 ?_
  refine k_iconstN hm 0 dL_place_1 ?_
  refine k_aload_n hm hl 0 rfl dL_place_2 ?_
  refine k_iload_n hm hl 1 rfl dL_place_3 ?_
  refine k_iload_n hm hl 2 rfl dL_place_4 ?_
  refine k_callVr (n := 2) (As := [vN (r), vN (x)]) (rest := [vN (0), .ref (ou)]) hm hw hl (c_place_ok l G o h T L M P gk gw gt gy R sp K w y r x (by first | assumption | omega) (by first | assumption | omega) (by first | assumption | omega)) gL_place_X6_place rfl (by decide +kernel) ⟨by decide, by decide⟩ (ci := 6) rfl 0 rfl [0, 1, 2, 3, 4, 5, 6, 7, 8, 9] (by decide) rfl rfl rfl (by simp [Value.category]) ⟨by decide, by decide⟩ dL_place_5 (fun v H locs hp hw => ?_)
  obtain rfl := hp
  refine W.eq (g2 := F0 m 8 ls [vN (if sp = true then (2 * x + r) * 1000 / (2 * sumM (K r) (w r)) % 1000 else x * 1000 / sumM (K r) (w r)), vN (0), .ref (ou)]) rfl ?_
  refine k_i2lR (x := ((if sp = true then (2 * x + r) * 1000 / (2 * sumM (K r) (w r)) % 1000 else x * 1000 / sumM (K r) (w r) : Nat) : Int)) hm dL_place_8 ?_
  refine k_last hm hw 10 (wMain G o P h T L M ++ (wPiece G P gk gw gt gy R sp ++ [(ou, .inl (G.2 1, 1, .inr (.inl (vp_updL fo 0 (i2L ((if sp = true then (2 * x + r) * 1000 / (2 * sumM (K r) (w r)) % 1000 else x * 1000 / sumM (K r) (w r) : Nat) : Int))))))])) rfl (by omega) rfl dL_place_9 (fun H locs hw => ?_)
  refine k_goto (tgt := 17) hm dL_place_10 (by decide) ?_
  refine k_iconstN hm 0 dL_place_17 ?_
  exact k_iret (post := _) hm hQ rfl rfl hw (⟨rfl, rfl⟩) (by omega) (by omega) dL_place_18
set_option maxHeartbeats 4000000 in
set_option maxRecDepth 100000 in
theorem c_w_place_x1 (l : Launch) (G : kG) (o : Nat) (h : Nat) (T : Nat → Nat) (L : Nat → Nat) (M : Nat → Nat) (P : Nat → Nat) (gk : Nat → Nat) (gw : Nat → Nat) (gt : Nat → Nat) (gy : Nat → Nat) (R : Nat) (sp : Bool) (z : Int) (x : Int) (ou : Nat) (fo : Nat → Int64) (htr : l.stackTraces = false) (hzz : -2147483648 ≤ z ∧ z < 2147483648) (hzx : -2147483648 ≤ x ∧ x < 2147483648) (hR : R ≤ 40) (hx : ¬ (0 ≤ z ∧ z < (R : Int))) : kCX l yL_place wsL_place 9 156 1 6 G [.ref (o), vZ (z), vZ (x), .ref (ou)] (wMain G o P h T L M ++ (wPiece G P gk gw gt gy R sp ++ [(ou, .inl (G.2 1, 1, .inr (.inl fo)))])) (fun vv uu => vv = some (vN (1)) ∧ uu = wMain G o P h T L M ++ (wPiece G P gk gw gt gy R sp ++ [(ou, .inl (G.2 1, 1, .inr (.inl fo)))])) := by
  refine kCX.of (cc := cL_place) (maxL := 5) (ret := (some .int)) (by decide) rfl (Nat.le_of_ble_eq_true rfl) ?_
  intro p e s m args below meth c A ls Qz hQ htb hxs hst hm hw hl
  have hl : lv_has ls 5 [(0, .ref (o)), (1, vZ (z)), (2, vZ (x)), (3, .ref (ou))] := hl
  refine k_aload_n hm hl 3 rfl dL_place_0 ?_
  refine k_iconstN hm 0 dL_place_1 ?_
  refine k_aload_n hm hl 0 rfl dL_place_2 ?_
  refine k_iload_n hm hl 1 rfl dL_place_3 ?_
  refine k_iload_n hm hl 2 rfl dL_place_4 ?_
  refine k_callVx (n := 2) (As := [vZ (z), vZ (x)]) (rest := [vN (0), .ref (ou)]) (wr := [(ou, .inl (G.2 1, 1, .inr (.inl fo)))]) hm hw hl hxs hst (c_place_x1 l G o h T L M P gk gw gt gy R sp z x (by first | assumption | omega) (by first | assumption | omega) (by first | assumption | omega) (by first | assumption | omega) (by first | assumption | omega)) gL_place_X6_place rfl (by decide +kernel) ⟨by decide, by decide⟩ (ci := 6) rfl 0 rfl [0, 1, 2, 3, 4, 5, 6, 7, 8, 9] [10] (by decide) rfl rfl (by decide) (by decide) rfl rfl (by simp [Value.category]) ⟨by decide, by decide⟩ dL_place_5 (fun q ce w1 H locs hp hw he1 he2 he3 => ?_)
  obtain rfl := hp
  have hw := hw.sub (ws' := wMain G o P h T L M ++ (wPiece G P gk gw gt gy R sp ++ [(ou, .inl (G.2 1, 1, .inr (.inl fo)))])) [1, 2, 3, 4, 5, 6, 7, 8, 9, 10, 0] (by decide) rfl
  refine vx_catch (name := xB) hm.2.2.2.1 [] ⟨0, 10, 13, 42⟩ [] (htb.trans rfl) (fun z hz => by exact absurd hz List.not_mem_nil) (by decide) (by decide) (hm.2.2.2.2.1 (.classLink RL 42 xB) (by decide +kernel)) (k_cast hxs (by decide)) he1 he2 he3 ?_
  refine W.eq (g2 := F0 m 13 ls [.ref (q)]) rfl ?_
  refine k_astore hm hl [(4, .ref (q)), (0, .ref (o)), (1, vZ (z)), (2, vZ (x)), (3, .ref (ou))] (by decide) rfl dL_place_13 (fun ls hl => ?_)
  refine k_iconstN hm 1 dL_place_15 ?_
  exact k_iret (post := _) hm hQ rfl rfl hw (⟨rfl, rfl⟩) (by omega) (by omega) dL_place_16
set_option maxHeartbeats 4000000 in
set_option maxRecDepth 100000 in
theorem c_w_place_x2 (l : Launch) (G : kG) (o : Nat) (h : Nat) (T : Nat → Nat) (L : Nat → Nat) (M : Nat → Nat) (P : Nat → Nat) (gk : Nat → Nat) (gw : Nat → Nat) (gt : Nat → Nat) (gy : Nat → Nat) (R : Nat) (sp : Bool) (K : Nat → Nat → Nat) (w : Nat → Nat) (y : Nat → Nat) (r : Nat) (x : Int) (ou : Nat) (fo : Nat → Int64) (htr : l.stackTraces = false) (hok : POk gk gw gt gy R K w y) (hzx : -2147483648 ≤ x ∧ x < 2147483648) (hr : r < R) (hx : ¬ (0 ≤ x ∧ x < (sumM (K r) (w r) : Int))) : kCX l yL_place wsL_place 9 156 1 6 G [.ref (o), vN (r), vZ (x), .ref (ou)] (wMain G o P h T L M ++ (wPiece G P gk gw gt gy R sp ++ [(ou, .inl (G.2 1, 1, .inr (.inl fo)))])) (fun vv uu => vv = some (vN (1)) ∧ uu = wMain G o P h T L M ++ (wPiece G P gk gw gt gy R sp ++ [(ou, .inl (G.2 1, 1, .inr (.inl fo)))])) := by
  refine kCX.of (cc := cL_place) (maxL := 5) (ret := (some .int)) (by decide) rfl (Nat.le_of_ble_eq_true rfl) ?_
  intro p e s m args below meth c A ls Qz hQ htb hxs hst hm hw hl
  have hl : lv_has ls 5 [(0, .ref (o)), (1, vN (r)), (2, vZ (x)), (3, .ref (ou))] := hl
  refine k_aload_n hm hl 3 rfl dL_place_0 ?_
  refine k_iconstN hm 0 dL_place_1 ?_
  refine k_aload_n hm hl 0 rfl dL_place_2 ?_
  refine k_iload_n hm hl 1 rfl dL_place_3 ?_
  refine k_iload_n hm hl 2 rfl dL_place_4 ?_
  refine k_callVx (n := 2) (As := [vN (r), vZ (x)]) (rest := [vN (0), .ref (ou)]) (wr := [(ou, .inl (G.2 1, 1, .inr (.inl fo)))]) hm hw hl hxs hst (c_place_x2 l G o h T L M P gk gw gt gy R sp K w y r x (by first | assumption | omega) (by first | assumption | omega) (by first | assumption | omega) (by first | assumption | omega) (by first | assumption | omega)) gL_place_X6_place rfl (by decide +kernel) ⟨by decide, by decide⟩ (ci := 6) rfl 0 rfl [0, 1, 2, 3, 4, 5, 6, 7, 8, 9] [10] (by decide) rfl rfl (by decide) (by decide) rfl rfl (by simp [Value.category]) ⟨by decide, by decide⟩ dL_place_5 (fun q ce w1 H locs hp hw he1 he2 he3 => ?_)
  obtain rfl := hp
  have hw := hw.sub (ws' := wMain G o P h T L M ++ (wPiece G P gk gw gt gy R sp ++ [(ou, .inl (G.2 1, 1, .inr (.inl fo)))])) [1, 2, 3, 4, 5, 6, 7, 8, 9, 10, 0] (by decide) rfl
  refine vx_catch (name := xB) hm.2.2.2.1 [] ⟨0, 10, 13, 42⟩ [] (htb.trans rfl) (fun z hz => by exact absurd hz List.not_mem_nil) (by decide) (by decide) (hm.2.2.2.2.1 (.classLink RL 42 xB) (by decide +kernel)) (k_cast hxs (by decide)) he1 he2 he3 ?_
  refine W.eq (g2 := F0 m 13 ls [.ref (q)]) rfl ?_
  refine k_astore hm hl [(4, .ref (q)), (0, .ref (o)), (1, vN (r)), (2, vZ (x)), (3, .ref (ou))] (by decide) rfl dL_place_13 (fun ls hl => ?_)
  refine k_iconstN hm 1 dL_place_15 ?_
  exact k_iret (post := _) hm hQ rfl rfl hw (⟨rfl, rfl⟩) (by omega) (by omega) dL_place_16
set_option maxHeartbeats 4000000 in
set_option maxRecDepth 100000 in
theorem c_w_value_ok (l : Launch) (G : kG) (o : Nat) (h : Nat) (T : Nat → Nat) (L : Nat → Nat) (M : Nat → Nat) (mf : Nat → Nat) (P : Nat → Nat) (gk : Nat → Nat) (gw : Nat → Nat) (gt : Nat → Nat) (gy : Nat → Nat) (R : Nat) (sp : Bool) (K : Nat → Nat → Nat) (w : Nat → Nat) (y : Nat → Nat) (x : Nat) (ou : Nat) (fo : Nat → Int64) (hok : POk gk gw gt gy R K w y) (hx : x ≤ 7) : kCX l yL_value wsL_value 8 138 1 6 G [.ref (o), vN (x), .ref (ou)] (wMain G o P h T L M ++ (wPiece G P gk gw gt gy R sp ++ (wMk G M mf ++ [(ou, .inl (G.2 1, 1, .inr (.inl fo)))]))) (fun vv uu => ∃ (mf2 : Nat → Nat), vv = some (vN (0)) ∧ uu = wMain G o P h T L M ++ (wPiece G P gk gw gt gy R sp ++ (wMk G M mf2 ++ [(ou, .inl (G.2 1, 1, .inr (.inl (vp_updL fo 0 (i2L (val K w y R sp x))))))]))) := by
  refine kCX.of (cc := cL_value) (maxL := 4) (ret := (some .int)) (by decide) rfl (Nat.le_of_ble_eq_true rfl) ?_
  intro p e s m args below meth c A ls Qz hQ htb hxs hst hm hw hl
  have hl : lv_has ls 4 [(0, .ref (o)), (1, vN (x)), (2, .ref (ou))] := hl
  refine k_aload_n hm hl 2 rfl dL_value_0 ?_
  refine k_iconstN hm 0 dL_value_1 ?_
  refine k_aload_n hm hl 0 rfl dL_value_2 ?_
  refine k_iload_n hm hl 1 rfl dL_value_3 ?_
  refine k_callV (n := 1) (As := [vN (x)]) (rest := [vN (0), .ref (ou)]) (wr := [(ou, .inl (G.2 1, 1, .inr (.inl fo)))]) hm hw hl (c_value_ok l G o h T L M mf P gk gw gt gy R sp K w y x (by first | assumption | omega) (by first | assumption | omega)) gL_value_X6_value rfl (by decide +kernel) ⟨by decide, by decide⟩ (ci := 6) rfl 0 rfl [0, 1, 2, 3, 4, 5, 6, 7, 8, 9, 10, 11, 12] [13] (by decide) rfl rfl (by decide) (by decide) rfl rfl (by simp [Value.category]) ⟨by decide, by decide⟩ dL_value_4 (fun v w1 H locs hp hw => ?_)
  obtain ⟨mf2_2, rfl, rfl⟩ := hp
  have hw := hw.sub (ws' := wMain G o P h T L M ++ (wPiece G P gk gw gt gy R sp ++ (wMk G M mf2_2 ++ [(ou, .inl (G.2 1, 1, .inr (.inl fo)))]))) [1, 2, 3, 4, 5, 6, 7, 8, 9, 10, 11, 12, 13, 0] (by decide) rfl
  refine W.eq (g2 := F0 m 7 ls [vZ (val K w y R sp x), vN (0), .ref (ou)]) rfl ?_
  refine k_i2lR (x := (val K w y R sp x)) hm dL_value_7 ?_
  refine k_last hm hw 13 (wMain G o P h T L M ++ (wPiece G P gk gw gt gy R sp ++ (wMk G M mf2_2 ++ [(ou, .inl (G.2 1, 1, .inr (.inl (vp_updL fo 0 (i2L (val K w y R sp x))))))]))) rfl (by omega) rfl dL_value_8 (fun H locs hw => ?_)
  refine k_goto (tgt := 15) hm dL_value_9 (by decide) ?_
  refine k_iconstN hm 0 dL_value_15 ?_
  exact k_iret (post := _) hm hQ rfl rfl hw (⟨mf2_2, rfl, rfl⟩) (by omega) (by omega) dL_value_16
set_option maxHeartbeats 4000000 in
set_option maxRecDepth 100000 in
theorem c_w_value_x (l : Launch) (G : kG) (o : Nat) (h : Nat) (T : Nat → Nat) (L : Nat → Nat) (M : Nat → Nat) (P : Nat → Nat) (gk : Nat → Nat) (gw : Nat → Nat) (gt : Nat → Nat) (gy : Nat → Nat) (R : Nat) (sp : Bool) (z : Int) (ou : Nat) (fo : Nat → Int64) (htr : l.stackTraces = false) (hzz : -2147483648 ≤ z ∧ z < 2147483648) (hx : ¬ (0 ≤ z ∧ z ≤ 7)) : kCX l yL_value wsL_value 8 138 1 6 G [.ref (o), vZ (z), .ref (ou)] (wMain G o P h T L M ++ (wPiece G P gk gw gt gy R sp ++ [(ou, .inl (G.2 1, 1, .inr (.inl fo)))])) (fun vv uu => vv = some (vN (1)) ∧ uu = wMain G o P h T L M ++ (wPiece G P gk gw gt gy R sp ++ [(ou, .inl (G.2 1, 1, .inr (.inl fo)))])) := by
  refine kCX.of (cc := cL_value) (maxL := 4) (ret := (some .int)) (by decide) rfl (Nat.le_of_ble_eq_true rfl) ?_
  intro p e s m args below meth c A ls Qz hQ htb hxs hst hm hw hl
  have hl : lv_has ls 4 [(0, .ref (o)), (1, vZ (z)), (2, .ref (ou))] := hl
  refine k_aload_n hm hl 2 rfl dL_value_0 ?_
  refine k_iconstN hm 0 dL_value_1 ?_
  refine k_aload_n hm hl 0 rfl dL_value_2 ?_
  refine k_iload_n hm hl 1 rfl dL_value_3 ?_
  refine k_callVx (n := 1) (As := [vZ (z)]) (rest := [vN (0), .ref (ou)]) (wr := [(ou, .inl (G.2 1, 1, .inr (.inl fo)))]) hm hw hl hxs hst (c_value_x l G o h T L M P gk gw gt gy R sp z (by first | assumption | omega) (by first | assumption | omega) (by first | assumption | omega)) gL_value_X6_value rfl (by decide +kernel) ⟨by decide, by decide⟩ (ci := 6) rfl 0 rfl [0, 1, 2, 3, 4, 5, 6, 7, 8, 9] [10] (by decide) rfl rfl (by decide) (by decide) rfl rfl (by simp [Value.category]) ⟨by decide, by decide⟩ dL_value_4 (fun q ce w1 H locs hp hw he1 he2 he3 => ?_)
  obtain rfl := hp
  have hw := hw.sub (ws' := wMain G o P h T L M ++ (wPiece G P gk gw gt gy R sp ++ [(ou, .inl (G.2 1, 1, .inr (.inl fo)))])) [1, 2, 3, 4, 5, 6, 7, 8, 9, 10, 0] (by decide) rfl
  refine vx_catch (name := xI) hm.2.2.2.1 [] ⟨0, 9, 12, 13⟩ [] (htb.trans rfl) (fun z hz => by exact absurd hz List.not_mem_nil) (by decide) (by decide) (hm.2.2.2.2.1 (.classLink RL 13 xI) (by decide +kernel)) (k_cast hxs (by decide)) he1 he2 he3 ?_
  refine W.eq (g2 := F0 m 12 ls [.ref (q)]) rfl ?_
  refine k_astore_n hm hl [(3, .ref (q)), (0, .ref (o)), (1, vZ (z)), (2, .ref (ou))] (by decide) rfl dL_value_12 (fun ls hl => ?_)
  refine k_iconstN hm 1 dL_value_13 ?_
  exact k_iret (post := _) hm hQ rfl rfl hw (⟨rfl, rfl⟩) (by omega) (by omega) dL_value_14
set_option maxHeartbeats 4000000 in
set_option maxRecDepth 100000 in
theorem c_w_goal_ok (l : Launch) (G : kG) (o : Nat) (h : Nat) (T : Nat → Nat) (L : Nat → Nat) (M : Nat → Nat) (P : Nat → Nat) (gk : Nat → Nat) (gw : Nat → Nat) (gt : Nat → Nat) (gy : Nat → Nat) (R : Nat) (sp : Bool) (K : Nat → Nat → Nat) (w : Nat → Nat) (y : Nat → Nat) (sh : Nat) (sz : Nat) (r : Nat) (ou : Nat) (fo : Nat → Int64) (hok : POk gk gw gt gy R K w y) (hs : sh < 5 ∧ 1 ≤ sz ∧ sz ≤ 20 ∧ r < 40) : kCX l yL_goal wsL_goal 8 133 1 6 G [.ref (o), vN (sh), vN (sz), vN (r), .ref (ou)] (wMain G o P h T L M ++ (wPiece G P gk gw gt gy R sp ++ [(ou, .inl (G.2 1, 1, .inr (.inl fo)))])) (fun vv uu => vv = some (vN (0)) ∧ uu = wMain G o P h T L M ++ (wPiece G P gk gw gt gy R sp ++ [(ou, .inl (G.2 1, 1, .inr (.inl (vp_updL fo 0 (i2L ((goalF (sumM (K 0) (w 0)) sh sz r : Nat) : Int))))))])) := by
  refine kCX.of (cc := cL_goal) (maxL := 6) (ret := (some .int)) (by decide) rfl (Nat.le_of_ble_eq_true rfl) ?_
  intro p e s m args below meth c A ls Qz hQ htb hxs hst hm hw hl
  have hl : lv_has ls 6 [(0, .ref (o)), (1, vN (sh)), (2, vN (sz)), (3, vN (r)), (4, .ref (ou))] := hl
  refine k_aload hm hl 4 rfl dL_goal_0 ?_
  refine k_iconstN hm 0 dL_goal_2 ?_
  refine k_aload_n hm hl 0 rfl dL_goal_3 ?_
  refine k_iload_n hm hl 1 rfl dL_goal_4 ?_
  refine k_iload_n hm hl 2 rfl dL_goal_5 ?_
  refine k_iload_n hm hl 3 rfl dL_goal_6 ?_
  refine k_callVr (n := 3) (As := [vN (sh), vN (sz), vN (r)]) (rest := [vN (0), .ref (ou)]) hm hw hl (c_goal_ok l G o h T L M P gk gw gt gy R sp K w y sh sz r (by first | assumption | omega) (by first | assumption | omega)) gL_goal_X6_goal rfl (by decide +kernel) ⟨by decide, by decide⟩ (ci := 6) rfl 0 rfl [0, 1, 2, 3, 4, 5, 6, 7, 8, 9] (by decide) rfl rfl rfl (by simp [Value.category]) ⟨by decide, by decide⟩ dL_goal_7 (fun v H locs hp hw => ?_)
  obtain rfl := hp
  refine W.eq (g2 := F0 m 10 ls [vN (goalF (sumM (K 0) (w 0)) sh sz r), vN (0), .ref (ou)]) rfl ?_
  refine k_i2lR (x := ((goalF (sumM (K 0) (w 0)) sh sz r : Nat) : Int)) hm dL_goal_10 ?_
  refine k_last hm hw 10 (wMain G o P h T L M ++ (wPiece G P gk gw gt gy R sp ++ [(ou, .inl (G.2 1, 1, .inr (.inl (vp_updL fo 0 (i2L ((goalF (sumM (K 0) (w 0)) sh sz r : Nat) : Int))))))])) rfl (by omega) rfl dL_goal_11 (fun H locs hw => ?_)
  refine k_goto (tgt := 19) hm dL_goal_12 (by decide) ?_
  refine k_iconstN hm 0 dL_goal_19 ?_
  exact k_iret (post := _) hm hQ rfl rfl hw (⟨rfl, rfl⟩) (by omega) (by omega) dL_goal_20
set_option maxHeartbeats 4000000 in
set_option maxRecDepth 100000 in
theorem c_w_goal_x (l : Launch) (G : kG) (o : Nat) (h : Nat) (T : Nat → Nat) (L : Nat → Nat) (M : Nat → Nat) (P : Nat → Nat) (gk : Nat → Nat) (gw : Nat → Nat) (gt : Nat → Nat) (gy : Nat → Nat) (R : Nat) (sp : Bool) (z : Int) (x : Int) (k : Int) (ou : Nat) (fo : Nat → Int64) (htr : l.stackTraces = false) (hzz : -2147483648 ≤ z ∧ z < 2147483648) (hzx : -2147483648 ≤ x ∧ x < 2147483648) (hzk : -2147483648 ≤ k ∧ k < 2147483648) (hx : ¬ ((0 ≤ z ∧ z ≤ 4) ∧ (1 ≤ x ∧ x ≤ 20) ∧ 0 ≤ k ∧ k < 40)) : kCX l yL_goal wsL_goal 8 133 1 6 G [.ref (o), vZ (z), vZ (x), vZ (k), .ref (ou)] (wMain G o P h T L M ++ (wPiece G P gk gw gt gy R sp ++ [(ou, .inl (G.2 1, 1, .inr (.inl fo)))])) (fun vv uu => vv = some (vN (1)) ∧ uu = wMain G o P h T L M ++ (wPiece G P gk gw gt gy R sp ++ [(ou, .inl (G.2 1, 1, .inr (.inl fo)))])) := by
  refine kCX.of (cc := cL_goal) (maxL := 6) (ret := (some .int)) (by decide) rfl (Nat.le_of_ble_eq_true rfl) ?_
  intro p e s m args below meth c A ls Qz hQ htb hxs hst hm hw hl
  have hl : lv_has ls 6 [(0, .ref (o)), (1, vZ (z)), (2, vZ (x)), (3, vZ (k)), (4, .ref (ou))] := hl
  refine k_aload hm hl 4 rfl dL_goal_0 ?_
  refine k_iconstN hm 0 dL_goal_2 ?_
  refine k_aload_n hm hl 0 rfl dL_goal_3 ?_
  refine k_iload_n hm hl 1 rfl dL_goal_4 ?_
  refine k_iload_n hm hl 2 rfl dL_goal_5 ?_
  refine k_iload_n hm hl 3 rfl dL_goal_6 ?_
  refine k_callVx (n := 3) (As := [vZ (z), vZ (x), vZ (k)]) (rest := [vN (0), .ref (ou)]) (wr := [(ou, .inl (G.2 1, 1, .inr (.inl fo)))]) hm hw hl hxs hst (c_goal_x l G o h T L M P gk gw gt gy R sp z x k (by first | assumption | omega) (by first | assumption | omega) (by first | assumption | omega) (by first | assumption | omega) (by first | assumption | omega)) gL_goal_X6_goal rfl (by decide +kernel) ⟨by decide, by decide⟩ (ci := 6) rfl 0 rfl [0, 1, 2, 3, 4, 5, 6, 7, 8, 9] [10] (by decide) rfl rfl (by decide) (by decide) rfl rfl (by simp [Value.category]) ⟨by decide, by decide⟩ dL_goal_7 (fun q ce w1 H locs hp hw he1 he2 he3 => ?_)
  obtain rfl := hp
  have hw := hw.sub (ws' := wMain G o P h T L M ++ (wPiece G P gk gw gt gy R sp ++ [(ou, .inl (G.2 1, 1, .inr (.inl fo)))])) [1, 2, 3, 4, 5, 6, 7, 8, 9, 10, 0] (by decide) rfl
  refine vx_catch (name := xI) hm.2.2.2.1 [] ⟨0, 12, 15, 13⟩ [] (htb.trans rfl) (fun z hz => by exact absurd hz List.not_mem_nil) (by decide) (by decide) (hm.2.2.2.2.1 (.classLink RL 13 xI) (by decide +kernel)) (k_cast hxs (by decide)) he1 he2 he3 ?_
  refine W.eq (g2 := F0 m 15 ls [.ref (q)]) rfl ?_
  refine k_astore hm hl [(5, .ref (q)), (0, .ref (o)), (1, vZ (z)), (2, vZ (x)), (3, vZ (k)), (4, .ref (ou))] (by decide) rfl dL_goal_15 (fun ls hl => ?_)
  refine k_iconstN hm 1 dL_goal_17 ?_
  exact k_iret (post := _) hm hQ rfl rfl hw (⟨rfl, rfl⟩) (by omega) (by omega) dL_goal_18
set_option maxHeartbeats 4000000 in
set_option maxRecDepth 100000 in
theorem c_w_stacks_ok (l : Launch) (G : kG) (o : Nat) (T : Nat → Nat) (L : Nat → Nat) (M : Nat → Nat) (h : Nat) (P : Nat → Nat) (gk : Nat → Nat) (gw : Nat → Nat) (gt : Nat → Nat) (gy : Nat → Nat) (R : Nat) (sp : Bool) (f : Nat → Nat) (wk : Nat) (sd : Nat) (kd : Nat) (mf : Nat → Nat) (K : Nat → Nat → Nat) (w : Nat → Nat) (y : Nat → Nat) (t : Nat) (x : Nat) (ou : Nat) (fo : Nat → Int64) (hok : POk gk gw gt gy R K w y) (ht : 3 ≤ t ∧ t ≤ 120) (hx : x < 120) (hpo : isPo (sumM (K (R - 1)) (w (R - 1))) t) : kCX l yL_stacks wsL_stacks 8 132 1 6 G [.ref (o), vN (t), vN (x), .ref (ou)] (wMain G o P h T L M ++ (wPiece G P gk gw gt gy R sp ++ (wPlan G L f wk sd kd ++ (wMk G M mf ++ [(ou, .inl (G.2 1, 1, .inr (.inl fo)))])))) (fun vv uu => ∃ (f2 : Nat → Nat), ∃ (mf2 : Nat → Nat), vv = some (vN (0)) ∧ uu = wMain G o P h T L M ++ (wPiece G P gk gw gt gy R sp ++ (wPlan G L f2 (pm (sumM (K (R - 1)) (w (R - 1))) t) (pd (sumM (K (R - 1)) (w (R - 1))) t) (pk (sumM (K (R - 1)) (w (R - 1))) t) ++ (wMk G M mf2 ++ [(ou, .inl (G.2 1, 1, .inr (.inl (vp_updL fo 0 (i2L ((stkC (K (R - 1)) (w (R - 1)) (sumM (K (R - 1)) (w (R - 1))) t x : Nat) : Int))))))])))) := by
  refine kCX.of (cc := cL_stacks) (maxL := 5) (ret := (some .int)) (by decide) rfl (Nat.le_of_ble_eq_true rfl) ?_
  intro p e s m args below meth c A ls Qz hQ htb hxs hst hm hw hl
  have hl : lv_has ls 5 [(0, .ref (o)), (1, vN (t)), (2, vN (x)), (3, .ref (ou))] := hl
  refine k_aload_n hm hl 3 rfl dL_stacks_0 ?_
  refine k_iconstN hm 0 dL_stacks_1 ?_
  refine k_aload_n hm hl 0 rfl dL_stacks_2 ?_
  refine k_iload_n hm hl 1 rfl dL_stacks_3 ?_
  refine k_iload_n hm hl 2 rfl dL_stacks_4 ?_
  refine k_callV (n := 2) (As := [vN (t), vN (x)]) (rest := [vN (0), .ref (ou)]) (wr := [(ou, .inl (G.2 1, 1, .inr (.inl fo)))]) hm hw hl (c_stacks_ok l G o T L M h P gk gw gt gy R sp f wk sd kd mf K w y t x (by first | assumption | omega) (by first | assumption | omega) (by first | assumption | omega) (by first | assumption | omega)) gL_stacks_X6_stacks rfl (by decide +kernel) ⟨by decide, by decide⟩ (ci := 6) rfl 0 rfl [0, 1, 2, 3, 4, 5, 6, 7, 8, 9, 10, 11, 12, 13, 14, 15] [16] (by decide) rfl rfl (by decide) (by decide) rfl rfl (by simp [Value.category]) ⟨by decide, by decide⟩ dL_stacks_5 (fun v w1 H locs hp hw => ?_)
  obtain ⟨f2_2, mf2_3, rfl, rfl⟩ := hp
  have hw := hw.sub (ws' := wMain G o P h T L M ++ (wPiece G P gk gw gt gy R sp ++ (wPlan G L f2_2 (pm (sumM (K (R - 1)) (w (R - 1))) t) (pd (sumM (K (R - 1)) (w (R - 1))) t) (pk (sumM (K (R - 1)) (w (R - 1))) t) ++ (wMk G M mf2_3 ++ [(ou, .inl (G.2 1, 1, .inr (.inl fo)))])))) [1, 2, 3, 4, 5, 6, 7, 8, 9, 10, 11, 12, 13, 14, 15, 16, 0] (by decide) rfl
  refine W.eq (g2 := F0 m 8 ls [vN (stkC (K (R - 1)) (w (R - 1)) (sumM (K (R - 1)) (w (R - 1))) t x), vN (0), .ref (ou)]) rfl ?_
  refine k_i2lR (x := ((stkC (K (R - 1)) (w (R - 1)) (sumM (K (R - 1)) (w (R - 1))) t x : Nat) : Int)) hm dL_stacks_8 ?_
  refine k_last hm hw 16 (wMain G o P h T L M ++ (wPiece G P gk gw gt gy R sp ++ (wPlan G L f2_2 (pm (sumM (K (R - 1)) (w (R - 1))) t) (pd (sumM (K (R - 1)) (w (R - 1))) t) (pk (sumM (K (R - 1)) (w (R - 1))) t) ++ (wMk G M mf2_3 ++ [(ou, .inl (G.2 1, 1, .inr (.inl (vp_updL fo 0 (i2L ((stkC (K (R - 1)) (w (R - 1)) (sumM (K (R - 1)) (w (R - 1))) t x : Nat) : Int))))))])))) rfl (by omega) rfl dL_stacks_9 (fun H locs hw => ?_)
  refine k_goto (tgt := 17) hm dL_stacks_10 (by decide) ?_
  refine k_iconstN hm 0 dL_stacks_17 ?_
  exact k_iret (post := _) hm hQ rfl rfl hw (⟨f2_2, mf2_3, rfl, rfl⟩) (by omega) (by omega) dL_stacks_18
set_option maxHeartbeats 4000000 in
set_option maxRecDepth 100000 in
theorem c_w_stacks_no (l : Launch) (G : kG) (o : Nat) (T : Nat → Nat) (L : Nat → Nat) (M : Nat → Nat) (h : Nat) (P : Nat → Nat) (gk : Nat → Nat) (gw : Nat → Nat) (gt : Nat → Nat) (gy : Nat → Nat) (R : Nat) (sp : Bool) (f : Nat → Nat) (wk : Nat) (sd : Nat) (kd : Nat) (mf : Nat → Nat) (K : Nat → Nat → Nat) (w : Nat → Nat) (y : Nat → Nat) (t : Nat) (x : Nat) (ou : Nat) (fo : Nat → Int64) (hok : POk gk gw gt gy R K w y) (ht : 3 ≤ t ∧ t ≤ 120) (hx : x < 120) (hpo : ¬ isPo (sumM (K (R - 1)) (w (R - 1))) t) : kCX l yL_stacks wsL_stacks 8 132 1 6 G [.ref (o), vN (t), vN (x), .ref (ou)] (wMain G o P h T L M ++ (wPiece G P gk gw gt gy R sp ++ (wPlan G L f wk sd kd ++ (wMk G M mf ++ [(ou, .inl (G.2 1, 1, .inr (.inl fo)))])))) (fun vv uu => ∃ (f2 : Nat → Nat), vv = some (vN (0)) ∧ uu = wMain G o P h T L M ++ (wPiece G P gk gw gt gy R sp ++ (wPlan G L f2 (pm (sumM (K (R - 1)) (w (R - 1))) t) (pd (sumM (K (R - 1)) (w (R - 1))) t) (pk (sumM (K (R - 1)) (w (R - 1))) t) ++ (wMk G M mf ++ [(ou, .inl (G.2 1, 1, .inr (.inl (vp_updL fo 0 (i2L (-1))))))])))) := by
  refine kCX.of (cc := cL_stacks) (maxL := 5) (ret := (some .int)) (by decide) rfl (Nat.le_of_ble_eq_true rfl) ?_
  intro p e s m args below meth c A ls Qz hQ htb hxs hst hm hw hl
  have hl : lv_has ls 5 [(0, .ref (o)), (1, vN (t)), (2, vN (x)), (3, .ref (ou))] := hl
  refine k_aload_n hm hl 3 rfl dL_stacks_0 ?_
  refine k_iconstN hm 0 dL_stacks_1 ?_
  refine k_aload_n hm hl 0 rfl dL_stacks_2 ?_
  refine k_iload_n hm hl 1 rfl dL_stacks_3 ?_
  refine k_iload_n hm hl 2 rfl dL_stacks_4 ?_
  refine k_callV (n := 2) (As := [vN (t), vN (x)]) (rest := [vN (0), .ref (ou)]) (wr := [(ou, .inl (G.2 1, 1, .inr (.inl fo)))]) hm hw hl (c_stacks_no l G o T L M h P gk gw gt gy R sp f wk sd kd mf K w y t x (by first | assumption | omega) (by first | assumption | omega) (by first | assumption | omega) (by first | assumption | omega)) gL_stacks_X6_stacks rfl (by decide +kernel) ⟨by decide, by decide⟩ (ci := 6) rfl 0 rfl [0, 1, 2, 3, 4, 5, 6, 7, 8, 9, 10, 11, 12, 13, 14, 15] [16] (by decide) rfl rfl (by decide) (by decide) rfl rfl (by simp [Value.category]) ⟨by decide, by decide⟩ dL_stacks_5 (fun v w1 H locs hp hw => ?_)
  obtain ⟨f2_2, rfl, rfl⟩ := hp
  have hw := hw.sub (ws' := wMain G o P h T L M ++ (wPiece G P gk gw gt gy R sp ++ (wPlan G L f2_2 (pm (sumM (K (R - 1)) (w (R - 1))) t) (pd (sumM (K (R - 1)) (w (R - 1))) t) (pk (sumM (K (R - 1)) (w (R - 1))) t) ++ (wMk G M mf ++ [(ou, .inl (G.2 1, 1, .inr (.inl fo)))])))) [1, 2, 3, 4, 5, 6, 7, 8, 9, 10, 11, 12, 13, 14, 15, 16, 0] (by decide) rfl
  refine W.eq (g2 := F0 m 8 ls [vZ (-1), vN (0), .ref (ou)]) rfl ?_
  refine k_i2lR (x := (-1)) hm dL_stacks_8 ?_
  refine k_last hm hw 16 (wMain G o P h T L M ++ (wPiece G P gk gw gt gy R sp ++ (wPlan G L f2_2 (pm (sumM (K (R - 1)) (w (R - 1))) t) (pd (sumM (K (R - 1)) (w (R - 1))) t) (pk (sumM (K (R - 1)) (w (R - 1))) t) ++ (wMk G M mf ++ [(ou, .inl (G.2 1, 1, .inr (.inl (vp_updL fo 0 (i2L (-1))))))])))) rfl (by omega) rfl dL_stacks_9 (fun H locs hw => ?_)
  refine k_goto (tgt := 17) hm dL_stacks_10 (by decide) ?_
  refine k_iconstN hm 0 dL_stacks_17 ?_
  exact k_iret (post := _) hm hQ rfl rfl hw (⟨f2_2, rfl, rfl⟩) (by omega) (by omega) dL_stacks_18
set_option maxHeartbeats 4000000 in
set_option maxRecDepth 100000 in
theorem c_w_stacks_x (l : Launch) (G : kG) (o : Nat) (h : Nat) (T : Nat → Nat) (L : Nat → Nat) (M : Nat → Nat) (P : Nat → Nat) (gk : Nat → Nat) (gw : Nat → Nat) (gt : Nat → Nat) (gy : Nat → Nat) (R : Nat) (sp : Bool) (z : Int) (x : Int) (ou : Nat) (fo : Nat → Int64) (htr : l.stackTraces = false) (hzz : -2147483648 ≤ z ∧ z < 2147483648) (hzx : -2147483648 ≤ x ∧ x < 2147483648) (hx : ¬ ((3 ≤ z ∧ z ≤ 120) ∧ 0 ≤ x ∧ x < 120)) : kCX l yL_stacks wsL_stacks 8 132 1 6 G [.ref (o), vZ (z), vZ (x), .ref (ou)] (wMain G o P h T L M ++ (wPiece G P gk gw gt gy R sp ++ [(ou, .inl (G.2 1, 1, .inr (.inl fo)))])) (fun vv uu => vv = some (vN (1)) ∧ uu = wMain G o P h T L M ++ (wPiece G P gk gw gt gy R sp ++ [(ou, .inl (G.2 1, 1, .inr (.inl fo)))])) := by
  refine kCX.of (cc := cL_stacks) (maxL := 5) (ret := (some .int)) (by decide) rfl (Nat.le_of_ble_eq_true rfl) ?_
  intro p e s m args below meth c A ls Qz hQ htb hxs hst hm hw hl
  have hl : lv_has ls 5 [(0, .ref (o)), (1, vZ (z)), (2, vZ (x)), (3, .ref (ou))] := hl
  refine k_aload_n hm hl 3 rfl dL_stacks_0 ?_
  refine k_iconstN hm 0 dL_stacks_1 ?_
  refine k_aload_n hm hl 0 rfl dL_stacks_2 ?_
  refine k_iload_n hm hl 1 rfl dL_stacks_3 ?_
  refine k_iload_n hm hl 2 rfl dL_stacks_4 ?_
  refine k_callVx (n := 2) (As := [vZ (z), vZ (x)]) (rest := [vN (0), .ref (ou)]) (wr := [(ou, .inl (G.2 1, 1, .inr (.inl fo)))]) hm hw hl hxs hst (c_stacks_x l G o h T L M P gk gw gt gy R sp z x (by first | assumption | omega) (by first | assumption | omega) (by first | assumption | omega) (by first | assumption | omega)) gL_stacks_X6_stacks rfl (by decide +kernel) ⟨by decide, by decide⟩ (ci := 6) rfl 0 rfl [0, 1, 2, 3, 4, 5, 6, 7, 8, 9] [10] (by decide) rfl rfl (by decide) (by decide) rfl rfl (by simp [Value.category]) ⟨by decide, by decide⟩ dL_stacks_5 (fun q ce w1 H locs hp hw he1 he2 he3 => ?_)
  obtain rfl := hp
  have hw := hw.sub (ws' := wMain G o P h T L M ++ (wPiece G P gk gw gt gy R sp ++ [(ou, .inl (G.2 1, 1, .inr (.inl fo)))])) [1, 2, 3, 4, 5, 6, 7, 8, 9, 10, 0] (by decide) rfl
  refine vx_catch (name := xI) hm.2.2.2.1 [] ⟨0, 10, 13, 13⟩ [] (htb.trans rfl) (fun z hz => by exact absurd hz List.not_mem_nil) (by decide) (by decide) (hm.2.2.2.2.1 (.classLink RL 13 xI) (by decide +kernel)) (k_cast hxs (by decide)) he1 he2 he3 ?_
  refine W.eq (g2 := F0 m 13 ls [.ref (q)]) rfl ?_
  refine k_astore hm hl [(4, .ref (q)), (0, .ref (o)), (1, vZ (z)), (2, vZ (x)), (3, .ref (ou))] (by decide) rfl dL_stacks_13 (fun ls hl => ?_)
  refine k_iconstN hm 1 dL_stacks_15 ?_
  exact k_iret (post := _) hm hQ rfl rfl hw (⟨rfl, rfl⟩) (by omega) (by omega) dL_stacks_16
set_option maxHeartbeats 4000000 in
set_option maxRecDepth 100000 in
theorem c_w_roundsTo_ok (l : Launch) (G : kG) (o : Nat) (h : Nat) (T : Nat → Nat) (L : Nat → Nat) (M : Nat → Nat) (P : Nat → Nat) (gk : Nat → Nat) (gw : Nat → Nat) (gt : Nat → Nat) (gy : Nat → Nat) (R : Nat) (sp : Bool) (K : Nat → Nat → Nat) (w : Nat → Nat) (y : Nat → Nat) (t : Nat) (k : Nat) (x0 : Nat) (ou : Nat) (fo : Nat → Int64) (hok : POk gk gw gt gy R K w y) (hs : 3 ≤ t ∧ t ≤ 120 ∧ 1 ≤ k ∧ k ≤ 60) (hx0 : x0 = sumM (K (R - 1)) (w (R - 1))) : kCX l yL_roundsTo wsL_roundsTo 8 134 1 6 G [.ref (o), vN (t), vN (k), .ref (ou)] (wMain G o P h T L M ++ (wPiece G P gk gw gt gy R sp ++ [(ou, .inl (G.2 1, 1, .inr (.inl fo)))])) (fun vv uu => ∃ (n : Nat), vv = some (vN (0)) ∧ uu = wMain G o P h T L M ++ (wPiece G P gk gw gt gy R sp ++ [(ou, .inl (G.2 1, 1, .inr (.inl (vp_updL fo 0 (i2L ((n : Nat) : Int))))))]) ∧ (isRt t k x0 n)) := by
  refine kCX.of (cc := cL_roundsTo) (maxL := 5) (ret := (some .int)) (by decide) rfl (Nat.le_of_ble_eq_true rfl) ?_
  intro p e s m args below meth c A ls Qz hQ htb hxs hst hm hw hl
  have hl : lv_has ls 5 [(0, .ref (o)), (1, vN (t)), (2, vN (k)), (3, .ref (ou))] := hl
  refine k_aload_n hm hl 3 rfl dL_roundsTo_0 ?_
  refine k_iconstN hm 0 dL_roundsTo_1 ?_
  refine k_aload_n hm hl 0 rfl dL_roundsTo_2 ?_
  refine k_iload_n hm hl 1 rfl dL_roundsTo_3 ?_
  refine k_iload_n hm hl 2 rfl dL_roundsTo_4 ?_
  refine k_callVr (n := 2) (As := [vN (t), vN (k)]) (rest := [vN (0), .ref (ou)]) hm hw hl (c_roundsTo_ok l G o h T L M P gk gw gt gy R sp K w y t k x0 (by first | assumption | omega) (by first | assumption | omega) (by first | assumption | omega)) gL_roundsTo_X6_roundsTo rfl (by decide +kernel) ⟨by decide, by decide⟩ (ci := 6) rfl 0 rfl [0, 1, 2, 3, 4, 5, 6, 7, 8, 9] (by decide) rfl rfl rfl (by simp [Value.category]) ⟨by decide, by decide⟩ dL_roundsTo_5 (fun v H locs hp hw => ?_)
  obtain ⟨n_2, rfl, hn_3⟩ := hp
  refine W.eq (g2 := F0 m 8 ls [vN (n_2), vN (0), .ref (ou)]) rfl ?_
  refine k_i2lR (x := ((n_2 : Nat) : Int)) hm dL_roundsTo_8 ?_
  refine k_last hm hw 10 (wMain G o P h T L M ++ (wPiece G P gk gw gt gy R sp ++ [(ou, .inl (G.2 1, 1, .inr (.inl (vp_updL fo 0 (i2L ((n_2 : Nat) : Int))))))])) rfl (by omega) rfl dL_roundsTo_9 (fun H locs hw => ?_)
  refine k_goto (tgt := 17) hm dL_roundsTo_10 (by decide) ?_
  refine k_iconstN hm 0 dL_roundsTo_17 ?_
  exact k_iret (post := _) hm hQ rfl rfl hw (⟨n_2, rfl, rfl, hn_3⟩) (by omega) (by omega) dL_roundsTo_18
set_option maxHeartbeats 4000000 in
set_option maxRecDepth 100000 in
theorem c_w_roundsTo_x (l : Launch) (G : kG) (o : Nat) (h : Nat) (T : Nat → Nat) (L : Nat → Nat) (M : Nat → Nat) (P : Nat → Nat) (gk : Nat → Nat) (gw : Nat → Nat) (gt : Nat → Nat) (gy : Nat → Nat) (R : Nat) (sp : Bool) (z : Int) (x : Int) (ou : Nat) (fo : Nat → Int64) (htr : l.stackTraces = false) (hzz : -2147483648 ≤ z ∧ z < 2147483648) (hzx : -2147483648 ≤ x ∧ x < 2147483648) (hx : ¬ ((3 ≤ z ∧ z ≤ 120) ∧ 1 ≤ x ∧ x ≤ 60)) : kCX l yL_roundsTo wsL_roundsTo 8 134 1 6 G [.ref (o), vZ (z), vZ (x), .ref (ou)] (wMain G o P h T L M ++ (wPiece G P gk gw gt gy R sp ++ [(ou, .inl (G.2 1, 1, .inr (.inl fo)))])) (fun vv uu => vv = some (vN (1)) ∧ uu = wMain G o P h T L M ++ (wPiece G P gk gw gt gy R sp ++ [(ou, .inl (G.2 1, 1, .inr (.inl fo)))])) := by
  refine kCX.of (cc := cL_roundsTo) (maxL := 5) (ret := (some .int)) (by decide) rfl (Nat.le_of_ble_eq_true rfl) ?_
  intro p e s m args below meth c A ls Qz hQ htb hxs hst hm hw hl
  have hl : lv_has ls 5 [(0, .ref (o)), (1, vZ (z)), (2, vZ (x)), (3, .ref (ou))] := hl
  refine k_aload_n hm hl 3 rfl dL_roundsTo_0 ?_
  refine k_iconstN hm 0 dL_roundsTo_1 ?_
  refine k_aload_n hm hl 0 rfl dL_roundsTo_2 ?_
  refine k_iload_n hm hl 1 rfl dL_roundsTo_3 ?_
  refine k_iload_n hm hl 2 rfl dL_roundsTo_4 ?_
  refine k_callVx (n := 2) (As := [vZ (z), vZ (x)]) (rest := [vN (0), .ref (ou)]) (wr := [(ou, .inl (G.2 1, 1, .inr (.inl fo)))]) hm hw hl hxs hst (c_roundsTo_x l G o h T L M P gk gw gt gy R sp z x (by first | assumption | omega) (by first | assumption | omega) (by first | assumption | omega) (by first | assumption | omega)) gL_roundsTo_X6_roundsTo rfl (by decide +kernel) ⟨by decide, by decide⟩ (ci := 6) rfl 0 rfl [0, 1, 2, 3, 4, 5, 6, 7, 8, 9] [10] (by decide) rfl rfl (by decide) (by decide) rfl rfl (by simp [Value.category]) ⟨by decide, by decide⟩ dL_roundsTo_5 (fun q ce w1 H locs hp hw he1 he2 he3 => ?_)
  obtain rfl := hp
  have hw := hw.sub (ws' := wMain G o P h T L M ++ (wPiece G P gk gw gt gy R sp ++ [(ou, .inl (G.2 1, 1, .inr (.inl fo)))])) [1, 2, 3, 4, 5, 6, 7, 8, 9, 10, 0] (by decide) rfl
  refine vx_catch (name := xI) hm.2.2.2.1 [] ⟨0, 10, 13, 13⟩ [] (htb.trans rfl) (fun z hz => by exact absurd hz List.not_mem_nil) (by decide) (by decide) (hm.2.2.2.2.1 (.classLink RL 13 xI) (by decide +kernel)) (k_cast hxs (by decide)) he1 he2 he3 ?_
  refine W.eq (g2 := F0 m 13 ls [.ref (q)]) rfl ?_
  refine k_astore hm hl [(4, .ref (q)), (0, .ref (o)), (1, vZ (z)), (2, vZ (x)), (3, .ref (ou))] (by decide) rfl dL_roundsTo_13 (fun ls hl => ?_)
  refine k_iconstN hm 1 dL_roundsTo_15 ?_
  exact k_iret (post := _) hm hQ rfl rfl hw (⟨rfl, rfl⟩) (by omega) (by omega) dL_roundsTo_16
set_option maxHeartbeats 4000000 in
set_option maxRecDepth 100000 in
theorem c_w_evenness_x (l : Launch) (G : kG) (o : Nat) (h : Nat) (T : Nat → Nat) (L : Nat → Nat) (M : Nat → Nat) (P : Nat → Nat) (gk : Nat → Nat) (gw : Nat → Nat) (gt : Nat → Nat) (gy : Nat → Nat) (R : Nat) (sp : Bool) (z : Int) (ou : Nat) (fo : Nat → UInt64) (htr : l.stackTraces = false) (hzz : -2147483648 ≤ z ∧ z < 2147483648) (hR : R ≤ 40) (hx : ¬ (0 ≤ z ∧ z < (R : Int))) : kCX l yL_evenness wsL_evenness 8 133 1 6 G [.ref (o), vZ (z), .ref (ou)] (wMain G o P h T L M ++ (wPiece G P gk gw gt gy R sp ++ [(ou, .inl (G.2 3, 1, .inr (.inr (.inr (.inl fo)))))])) (fun vv uu => vv = some (vN (1)) ∧ uu = wMain G o P h T L M ++ (wPiece G P gk gw gt gy R sp ++ [(ou, .inl (G.2 3, 1, .inr (.inr (.inr (.inl fo)))))])) := by
  refine kCX.of (cc := cL_evenness) (maxL := 4) (ret := (some .int)) (by decide) rfl (Nat.le_of_ble_eq_true rfl) ?_
  intro p e s m args below meth c A ls Qz hQ htb hxs hst hm hw hl
  have hl : lv_has ls 4 [(0, .ref (o)), (1, vZ (z)), (2, .ref (ou))] := hl
  refine k_aload_n hm hl 2 rfl dL_evenness_0 ?_
  refine k_iconstN hm 0 dL_evenness_1 ?_
  refine k_aload_n hm hl 0 rfl dL_evenness_2 ?_
  refine k_iload_n hm hl 1 rfl dL_evenness_3 ?_
  refine k_callVx (n := 1) (As := [vZ (z)]) (rest := [vN (0), .ref (ou)]) (wr := [(ou, .inl (G.2 3, 1, .inr (.inr (.inr (.inl fo)))))]) hm hw hl hxs hst (c_evenness_x l G o h T L M P gk gw gt gy R sp z (by first | assumption | omega) (by first | assumption | omega) (by first | assumption | omega) (by first | assumption | omega)) gL_evenness_X6_evenness rfl (by decide +kernel) ⟨by decide, by decide⟩ (ci := 6) rfl 0 rfl [0, 1, 2, 3, 4, 5, 6, 7, 8, 9] [10] (by decide) rfl rfl (by decide) (by decide) rfl rfl (by simp [Value.category]) ⟨by decide, by decide⟩ dL_evenness_4 (fun q ce w1 H locs hp hw he1 he2 he3 => ?_)
  obtain rfl := hp
  have hw := hw.sub (ws' := wMain G o P h T L M ++ (wPiece G P gk gw gt gy R sp ++ [(ou, .inl (G.2 3, 1, .inr (.inr (.inr (.inl fo)))))])) [1, 2, 3, 4, 5, 6, 7, 8, 9, 10, 0] (by decide) rfl
  refine vx_catch (name := xB) hm.2.2.2.1 [] ⟨0, 8, 11, 42⟩ [] (htb.trans rfl) (fun z hz => by exact absurd hz List.not_mem_nil) (by decide) (by decide) (hm.2.2.2.2.1 (.classLink RL 42 xB) (by decide +kernel)) (k_cast hxs (by decide)) he1 he2 he3 ?_
  refine W.eq (g2 := F0 m 11 ls [.ref (q)]) rfl ?_
  refine k_astore_n hm hl [(3, .ref (q)), (0, .ref (o)), (1, vZ (z)), (2, .ref (ou))] (by decide) rfl dL_evenness_11 (fun ls hl => ?_)
  refine k_iconstN hm 1 dL_evenness_12 ?_
  exact k_iret (post := _) hm hQ rfl rfl hw (⟨rfl, rfl⟩) (by omega) (by omega) dL_evenness_13
set_option maxHeartbeats 4000000 in
set_option maxRecDepth 100000 in
theorem c_w_evenness_ok (l : Launch) (G : kG) (o : Nat) (h : Nat) (T : Nat → Nat) (L : Nat → Nat) (M : Nat → Nat) (P : Nat → Nat) (gk : Nat → Nat) (gw : Nat → Nat) (gt : Nat → Nat) (gy : Nat → Nat) (R : Nat) (sp : Bool) (K : Nat → Nat → Nat) (w : Nat → Nat) (y : Nat → Nat) (r : Nat) (ou : Nat) (fo : Nat → UInt64) (hok : POk gk gw gt gy R K w y) (hr : r < R) : kCX l yL_evenness wsL_evenness 8 133 1 6 G [.ref (o), vN (r), .ref (ou)] (wMain G o P h T L M ++ (wPiece G P gk gw gt gy R sp ++ [(ou, .inl (G.2 3, 1, .inr (.inr (.inr (.inl fo)))))])) (fun vv uu => vv = some (vN (0)) ∧ uu = wMain G o P h T L M ++ (wPiece G P gk gw gt gy R sp ++ [(ou, .inl (G.2 3, 1, .inr (.inr (.inr (.inl (vf_upd fo 0 (evF (dsF (K r) (w r) false) (dsF (K r) (w r) true))))))))])) := by
  refine kCX.of (cc := cL_evenness) (maxL := 4) (ret := (some .int)) (by decide) rfl (Nat.le_of_ble_eq_true rfl) ?_
  intro p e s m args below meth c A ls Qz hQ htb hxs hst hm hw hl
  have hl : lv_has ls 4 [(0, .ref (o)), (1, vN (r)), (2, .ref (ou))] := hl
  refine k_aload_n hm hl 2 rfl dL_evenness_0 ?_
  refine k_iconstN hm 0 dL_evenness_1 ?_
  refine k_aload_n hm hl 0 rfl dL_evenness_2 ?_
  refine k_iload_n hm hl 1 rfl dL_evenness_3 ?_
  refine k_callVr (n := 1) (As := [vN (r)]) (rest := [vN (0), .ref (ou)]) hm hw hl (c_evenness_ok l G o h T L M P gk gw gt gy R sp K w y r (by first | assumption | omega) (by first | assumption | omega)) gL_evenness_X6_evenness rfl (by decide +kernel) ⟨by decide, by decide⟩ (ci := 6) rfl 0 rfl [0, 1, 2, 3, 4, 5, 6, 7, 8, 9] (by decide) rfl rfl rfl (by simp [Value.category]) ⟨by decide, by decide⟩ dL_evenness_4 (fun v H locs hp hw => ?_)
  obtain rfl := hp
  refine W.eq (g2 := F0 m 7 ls [.double (evF (dsF (K r) (w r) false) (dsF (K r) (w r) true)), vN (0), .ref (ou)]) rfl ?_
  refine k_dast hm hw 10 (wMain G o P h T L M ++ (wPiece G P gk gw gt gy R sp ++ [(ou, .inl (G.2 3, 1, .inr (.inr (.inr (.inl (vf_upd fo 0 (evF (dsF (K r) (w r) false) (dsF (K r) (w r) true))))))))])) rfl (by omega) rfl dL_evenness_7 (fun H locs hw => ?_)
  refine k_goto (tgt := 14) hm dL_evenness_8 (by decide) ?_
  refine k_iconstN hm 0 dL_evenness_14 ?_
  exact k_iret (post := _) hm hQ rfl rfl hw (⟨rfl, rfl⟩) (by omega) (by omega) dL_evenness_15
set_option maxHeartbeats 4000000 in
set_option maxRecDepth 100000 in
theorem c_w_append_ok (l : Launch) (G : kG) (o : Nat) (P : Nat → Nat) (h : Nat) (L : Nat → Nat) (M : Nat → Nat) (T : Nat → Nat) (tb : Nat → Nat) (tk : Nat → Int) (tc : Nat → Nat) (tn : Nat) (ti : Nat) (tt : Nat) (tu : Nat) (tm : Nat) (tp : Nat) (te : Int) (x : Nat) (ou : Nat) (fo : Nat → Int64) (hx : x ≤ 127) (hn : tn < 120) : kCX l yL_append wsL_append 8 131 1 6 G [.ref (o), vN (x), .ref (ou)] (wMain G o P h T L M ++ (wPat G T tb tk tc tn ti tt tu tm tp te ++ [(ou, .inl (G.2 1, 1, .inr (.inl fo)))])) (fun vv uu => vv = some (vN (0)) ∧ uu = wMain G o P h T L M ++ (wPat G T (nU tb tn x) tk tc (tn + 1) ti tt tu tm tp te ++ [(ou, .inl (G.2 1, 1, .inr (.inl (vp_updL fo 0 (i2L ((tn + 1 : Nat) : Int))))))])) := by
  refine kCX.of (cc := cL_append) (maxL := 4) (ret := (some .int)) (by decide) rfl (Nat.le_of_ble_eq_true rfl) ?_
  intro p e s m args below meth c A ls Qz hQ htb hxs hst hm hw hl
  have hl : lv_has ls 4 [(0, .ref (o)), (1, vN (x)), (2, .ref (ou))] := hl
  refine k_aload_n hm hl 2 rfl dL_append_0 ?_
  refine k_iconstN hm 0 dL_append_1 ?_
  refine k_aload_n hm hl 0 rfl dL_append_2 ?_
  refine k_iload_n hm hl 1 rfl dL_append_3 ?_
  refine k_callV (n := 1) (As := [vN (x)]) (rest := [vN (0), .ref (ou)]) (wr := [(ou, .inl (G.2 1, 1, .inr (.inl fo)))]) hm hw hl (c_append_ok l G o P h L M T tb tk tc tn ti tt tu tm tp te x (by first | assumption | omega) (by first | assumption | omega)) gL_append_X6_append rfl (by decide +kernel) ⟨by decide, by decide⟩ (ci := 6) rfl 0 rfl [0, 1, 2, 3, 4, 5, 6, 7] [8] (by decide) rfl rfl (by decide) (by decide) rfl rfl (by simp [Value.category]) ⟨by decide, by decide⟩ dL_append_4 (fun v w1 H locs hp hw => ?_)
  obtain ⟨rfl, rfl⟩ := hp
  have hw := hw.sub (ws' := wMain G o P h T L M ++ (wPat G T (nU tb tn x) tk tc (tn + 1) ti tt tu tm tp te ++ [(ou, .inl (G.2 1, 1, .inr (.inl fo)))])) [1, 2, 3, 4, 5, 6, 7, 8, 0] (by decide) rfl
  refine W.eq (g2 := F0 m 7 ls [vN (tn + 1), vN (0), .ref (ou)]) rfl ?_
  refine k_i2lR (x := ((tn + 1 : Nat) : Int)) hm dL_append_7 ?_
  refine k_last hm hw 8 (wMain G o P h T L M ++ (wPat G T (nU tb tn x) tk tc (tn + 1) ti tt tu tm tp te ++ [(ou, .inl (G.2 1, 1, .inr (.inl (vp_updL fo 0 (i2L ((tn + 1 : Nat) : Int))))))])) rfl (by omega) rfl dL_append_8 (fun H locs hw => ?_)
  refine k_goto (tgt := 18) hm dL_append_9 (by decide) ?_
  refine k_iconstN hm 0 dL_append_18 ?_
  exact k_iret (post := _) hm hQ rfl rfl hw (⟨rfl, rfl⟩) (by omega) (by omega) dL_append_19
set_option maxHeartbeats 4000000 in
set_option maxRecDepth 100000 in
theorem c_w_append_x1 (l : Launch) (G : kG) (o : Nat) (P : Nat → Nat) (h : Nat) (L : Nat → Nat) (M : Nat → Nat) (T : Nat → Nat) (tb : Nat → Nat) (tk : Nat → Int) (tc : Nat → Nat) (tn : Nat) (ti : Nat) (tt : Nat) (tu : Nat) (tm : Nat) (tp : Nat) (te : Int) (z : Int) (ou : Nat) (fo : Nat → Int64) (htr : l.stackTraces = false) (hzz : -2147483648 ≤ z ∧ z < 2147483648) (hx : ¬ (0 ≤ z ∧ z ≤ 127)) : kCX l yL_append wsL_append 8 131 1 6 G [.ref (o), vZ (z), .ref (ou)] (wMain G o P h T L M ++ (wPat G T tb tk tc tn ti tt tu tm tp te ++ [(ou, .inl (G.2 1, 1, .inr (.inl fo)))])) (fun vv uu => vv = some (vN (1)) ∧ uu = wMain G o P h T L M ++ (wPat G T tb tk tc tn ti tt tu tm tp te ++ [(ou, .inl (G.2 1, 1, .inr (.inl fo)))])) := by
  refine kCX.of (cc := cL_append) (maxL := 4) (ret := (some .int)) (by decide) rfl (Nat.le_of_ble_eq_true rfl) ?_
  intro p e s m args below meth c A ls Qz hQ htb hxs hst hm hw hl
  have hl : lv_has ls 4 [(0, .ref (o)), (1, vZ (z)), (2, .ref (ou))] := hl
  refine k_aload_n hm hl 2 rfl dL_append_0 ?_
  refine k_iconstN hm 0 dL_append_1 ?_
  refine k_aload_n hm hl 0 rfl dL_append_2 ?_
  refine k_iload_n hm hl 1 rfl dL_append_3 ?_
  refine k_callVx (n := 1) (As := [vZ (z)]) (rest := [vN (0), .ref (ou)]) (wr := [(ou, .inl (G.2 1, 1, .inr (.inl fo)))]) hm hw hl hxs hst (c_append_x1 l G o P h L M T tb tk tc tn ti tt tu tm tp te z (by first | assumption | omega) (by first | assumption | omega) (by first | assumption | omega)) gL_append_X6_append rfl (by decide +kernel) ⟨by decide, by decide⟩ (ci := 6) rfl 0 rfl [0, 1, 2, 3, 4, 5, 6, 7] [8] (by decide) rfl rfl (by decide) (by decide) rfl rfl (by simp [Value.category]) ⟨by decide, by decide⟩ dL_append_4 (fun q ce w1 H locs hp hw he1 he2 he3 => ?_)
  obtain rfl := hp
  have hw := hw.sub (ws' := wMain G o P h T L M ++ (wPat G T tb tk tc tn ti tt tu tm tp te ++ [(ou, .inl (G.2 1, 1, .inr (.inl fo)))])) [1, 2, 3, 4, 5, 6, 7, 8, 0] (by decide) rfl
  refine vx_catch (name := xI) hm.2.2.2.1 [] ⟨0, 9, 12, 13⟩ [⟨0, 9, 15, 18⟩] (htb.trans rfl) (fun z hz => by exact absurd hz List.not_mem_nil) (by decide) (by decide) (hm.2.2.2.2.1 (.classLink RL 13 xI) (by decide +kernel)) (k_cast hxs (by decide)) he1 he2 he3 ?_
  refine W.eq (g2 := F0 m 12 ls [.ref (q)]) rfl ?_
  refine k_astore_n hm hl [(3, .ref (q)), (0, .ref (o)), (1, vZ (z)), (2, .ref (ou))] (by decide) rfl dL_append_12 (fun ls hl => ?_)
  refine k_iconstN hm 1 dL_append_13 ?_
  exact k_iret (post := _) hm hQ rfl rfl hw (⟨rfl, rfl⟩) (by omega) (by omega) dL_append_14
set_option maxHeartbeats 4000000 in
set_option maxRecDepth 100000 in
theorem c_w_append_x2 (l : Launch) (G : kG) (o : Nat) (P : Nat → Nat) (h : Nat) (L : Nat → Nat) (M : Nat → Nat) (T : Nat → Nat) (tb : Nat → Nat) (tk : Nat → Int) (tc : Nat → Nat) (tn : Nat) (ti : Nat) (tt : Nat) (tu : Nat) (tm : Nat) (tp : Nat) (te : Int) (x : Nat) (ou : Nat) (fo : Nat → Int64) (htr : l.stackTraces = false) (hx : x ≤ 127) (hn : 120 ≤ tn ∧ tn ≤ 120) : kCX l yL_append wsL_append 8 131 1 6 G [.ref (o), vN (x), .ref (ou)] (wMain G o P h T L M ++ (wPat G T tb tk tc tn ti tt tu tm tp te ++ [(ou, .inl (G.2 1, 1, .inr (.inl fo)))])) (fun vv uu => vv = some (vN (2)) ∧ uu = wMain G o P h T L M ++ (wPat G T tb tk tc tn ti tt tu tm tp te ++ [(ou, .inl (G.2 1, 1, .inr (.inl fo)))])) := by
  refine kCX.of (cc := cL_append) (maxL := 4) (ret := (some .int)) (by decide) rfl (Nat.le_of_ble_eq_true rfl) ?_
  intro p e s m args below meth c A ls Qz hQ htb hxs hst hm hw hl
  have hl : lv_has ls 4 [(0, .ref (o)), (1, vN (x)), (2, .ref (ou))] := hl
  refine k_aload_n hm hl 2 rfl dL_append_0 ?_
  refine k_iconstN hm 0 dL_append_1 ?_
  refine k_aload_n hm hl 0 rfl dL_append_2 ?_
  refine k_iload_n hm hl 1 rfl dL_append_3 ?_
  refine k_callVx (n := 1) (As := [vN (x)]) (rest := [vN (0), .ref (ou)]) (wr := [(ou, .inl (G.2 1, 1, .inr (.inl fo)))]) hm hw hl hxs hst (c_append_x2 l G o P h L M T tb tk tc tn ti tt tu tm tp te x (by first | assumption | omega) (by first | assumption | omega) (by first | assumption | omega)) gL_append_X6_append rfl (by decide +kernel) ⟨by decide, by decide⟩ (ci := 6) rfl 0 rfl [0, 1, 2, 3, 4, 5, 6, 7] [8] (by decide) rfl rfl (by decide) (by decide) rfl rfl (by simp [Value.category]) ⟨by decide, by decide⟩ dL_append_4 (fun q ce w1 H locs hp hw he1 he2 he3 => ?_)
  obtain rfl := hp
  have hw := hw.sub (ws' := wMain G o P h T L M ++ (wPat G T tb tk tc tn ti tt tu tm tp te ++ [(ou, .inl (G.2 1, 1, .inr (.inl fo)))])) [1, 2, 3, 4, 5, 6, 7, 8, 0] (by decide) rfl
  refine vx_catch (name := xS) hm.2.2.2.1 [⟨0, 9, 12, 13⟩] ⟨0, 9, 15, 18⟩ [] (htb.trans rfl) (fun z hz => by rcases List.mem_cons.mp hz with rfl | hz; exact Or.inr ⟨by decide, xI, hm.2.2.2.2.1 (.classLink RL 13 xI) (by decide +kernel), hxs.2.2.1⟩; exact absurd hz List.not_mem_nil) (by decide) (by decide) (hm.2.2.2.2.1 (.classLink RL 18 xS) (by decide +kernel)) (k_cast hxs (by decide)) he1 he2 he3 ?_
  refine W.eq (g2 := F0 m 15 ls [.ref (q)]) rfl ?_
  refine k_astore_n hm hl [(3, .ref (q)), (0, .ref (o)), (1, vN (x)), (2, .ref (ou))] (by decide) rfl dL_append_15 (fun ls hl => ?_)
  refine k_iconstN hm 2 dL_append_16 ?_
  exact k_iret (post := _) hm hQ rfl rfl hw (⟨rfl, rfl⟩) (by omega) (by omega) dL_append_17
set_option maxHeartbeats 4000000 in
set_option maxRecDepth 100000 in
theorem c_w_undo_ok (l : Launch) (G : kG) (o : Nat) (T : Nat → Nat) (L : Nat → Nat) (M : Nat → Nat) (P : Nat → Nat) (gk : Nat → Nat) (gw : Nat → Nat) (gt : Nat → Nat) (gy : Nat → Nat) (R : Nat) (sp : Bool) (h : Nat) (hs : Nat) (Q : Nat → Nat → Nat) (ak : Nat → Nat → Nat) (aw : Nat → Nat → Nat) (au : Nat → Nat → Nat) (ay : Nat → Nat → Nat) (aR : Nat → Nat) (aS : Nat → Bool) (nx : Nat) (sz : Nat) (sv : Nat → PSt) (ou : Nat) (fo : Nat → Int64) (hho : HOk ak aw au ay aR aS nx sz sv) (h0 : 0 < sz) : kCX l yL_undo wsL_undo 8 130 1 6 G [.ref (o), .ref (ou)] (wMain G o P h T L M ++ (wPiece G P gk gw gt gy R sp ++ (wHist G h hs Q ak aw au ay aR aS nx sz ++ [(ou, .inl (G.2 1, 1, .inr (.inl fo)))]))) (fun vv uu => ∃ (gk2 : Nat → Nat), ∃ (gw2 : Nat → Nat), ∃ (gt2 : Nat → Nat), ∃ (gy2 : Nat → Nat), vv = some (vN (0)) ∧ uu = wMain G o P h T L M ++ (wPiece G P gk2 gw2 gt2 gy2 ((sv 0).1) ((sv 0).2.1) ++ (wHist G h hs Q ak aw au ay aR aS ((nx + 4 - 1) % 4) (sz - 1) ++ [(ou, .inl (G.2 1, 1, .inr (.inl (vp_updL fo 0 (i2L ((sz - 1 : Nat) : Int))))))])) ∧ (POk gk2 gw2 gt2 gy2 (sv 0).1 (sv 0).2.2.1 (sv 0).2.2.2.1 (sv 0).2.2.2.2) ∧ (HOk ak aw au ay aR aS ((nx + 4 - 1) % 4) (sz - 1) (svPop sv))) := by
  refine kCX.of (cc := cL_undo) (maxL := 3) (ret := (some .int)) (by decide) rfl (Nat.le_of_ble_eq_true rfl) ?_
  intro p e s m args below meth c A ls Qz hQ htb hxs hst hm hw hl
  have hl : lv_has ls 3 [(0, .ref (o)), (1, .ref (ou))] := hl
  refine k_aload_n hm hl 1 rfl dL_undo_0 ?_
  refine k_iconstN hm 0 dL_undo_1 ?_
  refine k_aload_n hm hl 0 rfl dL_undo_2 ?_
  refine k_callV (n := 0) (As := []) (rest := [vN (0), .ref (ou)]) (wr := [(ou, .inl (G.2 1, 1, .inr (.inl fo)))]) hm hw hl (c_undo_ok l G o T L M P gk gw gt gy R sp h hs Q ak aw au ay aR aS nx sz sv (by first | assumption | omega) (by first | assumption | omega)) gL_undo_X6_undo rfl (by decide +kernel) ⟨by decide, by decide⟩ (ci := 6) rfl 0 rfl [0, 1, 2, 3, 4, 5, 6, 7, 8, 9, 10, 11, 12, 13, 14, 15, 16, 17, 18, 19, 20, 21, 22, 23, 24, 25, 26, 27, 28, 29, 30, 31, 32, 33, 34, 35, 36, 37, 38, 39, 40, 41, 42, 43, 44, 45, 46, 47] [48] (by decide) rfl rfl (by decide) (by decide) rfl rfl (by simp [Value.category]) ⟨by decide, by decide⟩ dL_undo_3 (fun v w1 H locs hp hw => ?_)
  obtain ⟨gk2_2, gw2_3, gt2_4, gy2_5, rfl, rfl, hok2_6, hho2_7⟩ := hp
  have hw := hw.sub (ws' := wMain G o P h T L M ++ (wPiece G P gk2_2 gw2_3 gt2_4 gy2_5 ((sv 0).1) ((sv 0).2.1) ++ (wHist G h hs Q ak aw au ay aR aS ((nx + 4 - 1) % 4) (sz - 1) ++ [(ou, .inl (G.2 1, 1, .inr (.inl fo)))]))) [1, 2, 3, 4, 5, 6, 7, 8, 9, 10, 11, 12, 13, 14, 15, 16, 17, 18, 19, 20, 21, 22, 23, 24, 25, 26, 27, 28, 29, 30, 31, 32, 33, 34, 35, 36, 37, 38, 39, 40, 41, 42, 43, 44, 45, 46, 47, 48, 0] (by decide) rfl
  refine W.eq (g2 := F0 m 6 ls [vN (sz - 1), vN (0), .ref (ou)]) rfl ?_
  refine k_i2lR (x := ((sz - 1 : Nat) : Int)) hm dL_undo_6 ?_
  refine k_last hm hw 48 (wMain G o P h T L M ++ (wPiece G P gk2_2 gw2_3 gt2_4 gy2_5 ((sv 0).1) ((sv 0).2.1) ++ (wHist G h hs Q ak aw au ay aR aS ((nx + 4 - 1) % 4) (sz - 1) ++ [(ou, .inl (G.2 1, 1, .inr (.inl (vp_updL fo 0 (i2L ((sz - 1 : Nat) : Int))))))]))) rfl (by omega) rfl dL_undo_7 (fun H locs hw => ?_)
  refine k_goto (tgt := 14) hm dL_undo_8 (by decide) ?_
  refine k_iconstN hm 0 dL_undo_14 ?_
  exact k_iret (post := _) hm hQ rfl rfl hw (⟨gk2_2, gw2_3, gt2_4, gy2_5, rfl, rfl, hok2_6, hho2_7⟩) (by omega) (by omega) dL_undo_15
set_option maxHeartbeats 4000000 in
set_option maxRecDepth 100000 in
theorem c_w_undo_x (l : Launch) (G : kG) (o : Nat) (P : Nat → Nat) (T : Nat → Nat) (L : Nat → Nat) (M : Nat → Nat) (h : Nat) (hs : Nat) (Q : Nat → Nat → Nat) (nx : Nat) (sz : Nat) (ou : Nat) (fo : Nat → Int64) (htr : l.stackTraces = false) (h0 : sz = 0) : kCX l yL_undo wsL_undo 8 130 1 6 G [.ref (o), .ref (ou)] (wMain G o P h T L M ++ (wH2 G h hs Q nx sz ++ [(ou, .inl (G.2 1, 1, .inr (.inl fo)))])) (fun vv uu => vv = some (vN (1)) ∧ uu = wMain G o P h T L M ++ (wH2 G h hs Q nx sz ++ [(ou, .inl (G.2 1, 1, .inr (.inl fo)))])) := by
  refine kCX.of (cc := cL_undo) (maxL := 3) (ret := (some .int)) (by decide) rfl (Nat.le_of_ble_eq_true rfl) ?_
  intro p e s m args below meth c A ls Qz hQ htb hxs hst hm hw hl
  have hl : lv_has ls 3 [(0, .ref (o)), (1, .ref (ou))] := hl
  refine k_aload_n hm hl 1 rfl dL_undo_0 ?_
  refine k_iconstN hm 0 dL_undo_1 ?_
  refine k_aload_n hm hl 0 rfl dL_undo_2 ?_
  refine k_callVx (n := 0) (As := []) (rest := [vN (0), .ref (ou)]) (wr := [(ou, .inl (G.2 1, 1, .inr (.inl fo)))]) hm hw hl hxs hst (c_undo_x l G o P T L M h hs Q nx sz (by first | assumption | omega) (by first | assumption | omega)) gL_undo_X6_undo rfl (by decide +kernel) ⟨by decide, by decide⟩ (ci := 6) rfl 0 rfl [0, 1, 2] [3] (by decide) rfl rfl (by decide) (by decide) rfl rfl (by simp [Value.category]) ⟨by decide, by decide⟩ dL_undo_3 (fun q ce w1 H locs hp hw he1 he2 he3 => ?_)
  obtain rfl := hp
  have hw := hw.sub (ws' := wMain G o P h T L M ++ (wH2 G h hs Q nx sz ++ [(ou, .inl (G.2 1, 1, .inr (.inl fo)))])) [1, 2, 3, 0] (by decide) rfl
  refine vx_catch (name := xS) hm.2.2.2.1 [] ⟨0, 8, 11, 18⟩ [] (htb.trans rfl) (fun z hz => by exact absurd hz List.not_mem_nil) (by decide) (by decide) (hm.2.2.2.2.1 (.classLink RL 18 xS) (by decide +kernel)) (k_cast hxs (by decide)) he1 he2 he3 ?_
  refine W.eq (g2 := F0 m 11 ls [.ref (q)]) rfl ?_
  refine k_astore_n hm hl [(2, .ref (q)), (0, .ref (o)), (1, .ref (ou))] (by decide) rfl dL_undo_11 (fun ls hl => ?_)
  refine k_iconstN hm 1 dL_undo_12 ?_
  exact k_iret (post := _) hm hQ rfl rfl hw (⟨rfl, rfl⟩) (by omega) (by omega) dL_undo_13
