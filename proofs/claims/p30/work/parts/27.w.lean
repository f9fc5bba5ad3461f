/-- a method that catches what it calls -/
def kCX (l : Launch) (y : MethodName) (ws : List Cond) (fr lo mc ms : Nat) (G : kG) (av : List Value) (wp : va_W) (post : Option Value → va_W → Prop) : Prop :=
  ∀ sz : Nat, Met l y ws { frames := fr, cells := mc, slots := ms, locals := lo } (va_Pc av (kPreX G wp sz)) (kPost G (va_A wp sz) post) mc ms (va_A wp sz)
theorem kCX.of {l : Launch} {y : MethodName} {ws ws' : List Cond} {fr lo mc ms : Nat} {G : kG} {av : List Value} {wp : va_W} {post : Option Value → va_W → Prop} {cc : ByteArray} {maxL : Nat} {ret : Option FieldType} {hh : List (Nat × Nat × Nat × Nat)} (hy : plainName y.cls = true) (hwd : ws = Cond.codeWith y cc maxL ret hh :: ws') (hlen : (lg_sl av).length ≤ maxL)
    (body : ∀ (p : Program) (e : Env) (s : State) (m : MethodId) (args : Array Value) (below : List Frame) (meth : Method) (c : Code) (A : Nat → Prop) (ls : Array Slot) (Q : State → Prop), Q = kZ below G A post args s mc ms → c.exceptionTable.toList = tableOf hh → kXs s → kSt A s s.heap → kM p m c cc maxL s args ws y.cls meth ret → kW G A s wp s.heap [] → lv_has ls maxL (lv_args 0 av) →
      W p l e { frames := fr, cells := mc, slots := ms, locals := lo } s m args below meth c s.heap [] 0 0 Q (F0 m 0 ls [])) : kCX l y ws fr lo mc ms G av wp post := by
  intro sz
  have key : vx_Met l y ws { frames := fr, cells := mc, slots := ms, locals := lo } (va_Pc av (kPreX G wp sz)) (kPost G (va_A wp sz) post) (fun _ _ _ => False) mc ms (va_A wp sz) := by
    refine vx_ofWH (cc := cc) (maxL := maxL) (ret := ret) hy hwd ?_
    intro p e s m args below meth c s₁ B hml hv
    obtain ⟨rfl, ⟨hsz, hP, hK, hD0⟩, hxs, hst⟩ := hv
    subst hsz
    have hl := lv_entry av (n := maxL) hlen
    rw [lg_entry_eq]
    have ht := vx_table (x := y) B (atoms_spec (ws := ws) B.pre _ (by rw [hwd]; exact List.mem_cons_self))
    exact vx_ret (body p e s m _ below meth c _ _ _ rfl ht hxs hst ⟨B.exec, B.bytes, hml, findClass_of_methodNamed B.named, atoms_spec (ws := ws) B.pre, B.returns, B.notSynchronized⟩ ⟨hP, hD0.self, va_S.rf, hK, fun q h => Or.inr h⟩ hl)
  refine MetFree.mono key (fun _ _ q => q) (fun _ _ _ _ _ q => q) ?_
  rintro a st o t - (h | ⟨q, rfl, E, ce, L, hf, -⟩)
  · exact h
  · exact hf.elim
theorem k_cast {s : State} {args : Array Value} {E : String} (hxs : kXs s) (hE : Cond.castable E E ∈ kBadL) : (Cond.castable E E).before args s = true := va_Nw.use rfl (hxs.1 _ hE)
theorem kCX.ofC {l : Launch} {y : MethodName} {ws ws' : List Cond} {fr lo mc ms : Nat} {G : kG} {av : List Value} {wp : va_W} {post : Option Value → va_W → Prop} {cc : ByteArray} {maxL : Nat} {ret : Option FieldType} (hy : plainName y.cls = true) (hwd : ws = Cond.code y cc maxL ret :: ws') (hlen : (lg_sl av).length ≤ maxL)
    (body : ∀ (p : Program) (e : Env) (s : State) (m : MethodId) (args : Array Value) (below : List Frame) (meth : Method) (c : Code) (A : Nat → Prop) (ls : Array Slot) (Q : State → Prop), Q = kZ below G A post args s mc ms → kXs s → kSt A s s.heap → kM p m c cc maxL s args ws y.cls meth ret → kW G A s wp s.heap [] → lv_has ls maxL (lv_args 0 av) →
      W p l e { frames := fr, cells := mc, slots := ms, locals := lo } s m args below meth c s.heap [] 0 0 Q (F0 m 0 ls [])) : kCX l y ws fr lo mc ms G av wp post := by
  intro sz
  refine Met.ofW (cc := cc) (maxL := maxL) (ret := ret) hy hwd ?_
  intro p e s m args below meth c s₁ B hml hv
  obtain ⟨rfl, ⟨hsz, hP, hK, hD0⟩, hxs, hst⟩ := hv
  subst hsz
  have hl := lv_entry av (n := maxL) hlen
  rw [lg_entry_eq]
  exact body p e s m _ below meth c _ _ _ rfl hxs hst ⟨B.exec, B.bytes, hml, findClass_of_methodNamed B.named, atoms_spec (ws := ws) B.pre, B.returns, B.notSynchronized⟩ ⟨hP, hD0.self, va_S.rf, hK, fun q h => Or.inr h⟩ hl
section KROWAN
variable {p : Program} {l : Launch} {e : Env} {R : Room} {s : State} {m : MethodId} {args : Array Value} {below : List Frame} {meth : Method} {c : Code} {H : Heap} {locs : List Loc} {cells slots : Nat} {Q : State → Prop}
variable {cc : ByteArray} {pc nL : Nat} {ls : Array Slot} {rest st : List Value} {Ts : List Cond} {own : String} {ret : Option FieldType} {G : kG} {A : Nat → Prop} {ws wq : va_W} {ll : List (Nat × Value)} {post : Option Value → va_W → Prop} {mc ms : Nat}
/-- a call of a method that catches -/
theorem k_callSX (hm : kM p m c cc nL s args Ts own meth ret) (hw : kW G A s ws H locs) (hl : lv_has ls nL ll) (hxs : kXs s) (hst : kSt A s s.heap) {y : MethodName} {wsC wsC' : List Cond} {fr lo mc1 ms1 maxL index n : Nat} {bytes : ByteArray} {retC : Option FieldType} {hh : List (Nat × Nat × Nat × Nat)} {As : List Value} {wp wr : va_W} {post1 : Option Value → va_W → Prop} (hC : kCX l y wsC fr lo mc1 ms1 G As wp post1) (hT : GoodIn Ts (va_wsS own index y wsC)) (hwd : wsC = Cond.codeWith y bytes maxL retC hh :: wsC') (hd : y.cls ≠ "java/lang/invoke/MethodHandle" ∧ y.cls ≠ "java/lang/invoke/VarHandle" ∧ (parseMethodDescriptor y.desc).map (fun d => d.parameters.length) = some n) (hR : fr + 1 ≤ R.frames ∧ 8 + (maxL + 11) + lo ≤ R.locals)
    (isC isR : List Nat) (hnC : va_nd isC = true) (hCe : isC.map (fun i => ws[i]?) = wp.map some) (hRe : isR.map (fun i => ws[i]?) = wr.map some) (hnR : va_nd isR = true) (hdis : ∀ i ∈ isR, i ∉ isC) (hn : As.length = n) (hst2 : st = As.reverse ++ rest) (hcat : (rest.map fun v => v.category).sum ≤ 8) (hf : cells + mc1 ≤ R.cells ∧ slots + ms1 ≤ R.slots) (hdg : decode cc pc = .ok (.invokestatic index, 3))
    (kk : ∀ (v : Option Value) (w1 : va_W) (H1 : Heap) (locs1 : List Loc), post1 v w1 → kW G A s (wr ++ w1) H1 locs1 → W p l e R s m args below meth c H1 locs1 (cells + mc1) (slots + ms1) Q (F0 m (pc + 3) ls (v.toList ++ rest))) : W p l e R s m args below meth c H locs cells slots Q (F0 m pc ls st) :=
  k_after hw isC isR hCe hRe hnR hdis (vx_runSW (As := As) (rest := rest) ⟨hm.1, hm.2.1, hm.2.2.1, hm.2.2.2.1, hm.2.2.2.2.1⟩ (hC H.size) (vx_cwSW n hm.2.2.2.2.1 hT hwd rfl rfl hd hR) ⟨kPreX_blind, hw.preX hxs hst isC hnC hCe _⟩ rfl hn hl.1 hst2 (lv_room hcat) hdg hf) kk
/-- .. of one that has no table itself, but calls such -/
theorem k_callSY (hm : kM p m c cc nL s args Ts own meth ret) (hw : kW G A s ws H locs) (hl : lv_has ls nL ll) (hxs : kXs s) (hst : kSt A s s.heap) {y : MethodName} {wsC wsC' : List Cond} {fr lo mc1 ms1 maxL index n : Nat} {bytes : ByteArray} {retC : Option FieldType} {As : List Value} {wp wr : va_W} {post1 : Option Value → va_W → Prop} (hC : kCX l y wsC fr lo mc1 ms1 G As wp post1) (hT : GoodIn Ts (va_wsS own index y wsC)) (hwd : wsC = Cond.code y bytes maxL retC :: wsC') (hd : y.cls ≠ "java/lang/invoke/MethodHandle" ∧ y.cls ≠ "java/lang/invoke/VarHandle" ∧ (parseMethodDescriptor y.desc).map (fun d => d.parameters.length) = some n) (hR : fr + 1 ≤ R.frames ∧ 8 + (maxL + 11) + lo ≤ R.locals)
    (isC isR : List Nat) (hnC : va_nd isC = true) (hCe : isC.map (fun i => ws[i]?) = wp.map some) (hRe : isR.map (fun i => ws[i]?) = wr.map some) (hnR : va_nd isR = true) (hdis : ∀ i ∈ isR, i ∉ isC) (hn : As.length = n) (hst2 : st = As.reverse ++ rest) (hcat : (rest.map fun v => v.category).sum ≤ 8) (hf : cells + mc1 ≤ R.cells ∧ slots + ms1 ≤ R.slots) (hdg : decode cc pc = .ok (.invokestatic index, 3))
    (kk : ∀ (v : Option Value) (w1 : va_W) (H1 : Heap) (locs1 : List Loc), post1 v w1 → kW G A s (wr ++ w1) H1 locs1 → W p l e R s m args below meth c H1 locs1 (cells + mc1) (slots + ms1) Q (F0 m (pc + 3) ls (v.toList ++ rest))) : W p l e R s m args below meth c H locs cells slots Q (F0 m pc ls st) :=
  k_after hw isC isR hCe hRe hnR hdis (va_runS (As := As) (rest := rest) ⟨hm.1, hm.2.1, hm.2.2.1, hm.2.2.2.1, hm.2.2.2.2.1⟩ (hC H.size) (va_cwS n hm.2.2.2.2.1 hT hwd rfl rfl hd hR) ⟨kPreX_blind, hw.preX hxs hst isC hnC hCe _⟩ rfl hn hl.1 hst2 (lv_room hcat) hdg hf) kk
end KROWAN
set_option maxHeartbeats 4000000 in
set_option maxRecDepth 100000 in
theorem c_w_begin_ok (l : Launch) (G : kG) (o : Nat) (T : Nat → Nat) (L : Nat → Nat) (M : Nat → Nat) (P : Nat → Nat) (gk : Nat → Nat) (gw : Nat → Nat) (gt : Nat → Nat) (gy : Nat → Nat) (R : Nat) (sp : Bool) (h : Nat) (hs : Nat) (Q : Nat → Nat → Nat) (ak : Nat → Nat → Nat) (aw : Nat → Nat → Nat) (au : Nat → Nat → Nat) (ay : Nat → Nat → Nat) (aR : Nat → Nat) (aS : Nat → Bool) (nx : Nat) (sz : Nat) (K : Nat → Nat → Nat) (w : Nat → Nat) (y : Nat → Nat) (sv : Nat → PSt) (n : Nat) (hok : POk gk gw gt gy R K w y) (hho : HOk ak aw au ay aR aS nx sz sv) (hn : 3 ≤ n ∧ n ≤ 12) : kCX l yL_begins wsL_begins 8 132 0 0 G [.ref (o), vN (n)] (wMain G o P h T L M ++ (wPiece G P gk gw gt gy R sp ++ wHist G h hs Q ak aw au ay aR aS nx sz)) (fun vv uu => ∃ (gk2 : Nat → Nat), ∃ (gw2 : Nat → Nat), ∃ (gt2 : Nat → Nat), ∃ (ak2 : Nat → Nat → Nat), ∃ (aw2 : Nat → Nat → Nat), ∃ (au2 : Nat → Nat → Nat), ∃ (ay2 : Nat → Nat → Nat), ∃ (aR2 : Nat → Nat), ∃ (aS2 : Nat → Bool), vv = some (vN (R)) ∧ uu = wMain G o P h T L M ++ (wPiece G P gk2 gw2 gt2 gy 1 sp ++ wHist G h hs Q ak2 aw2 au2 ay2 aR2 aS2 ((nx + 1) % 4) (Nat.min (sz + 1) 4)) ∧ (POk gk2 gw2 gt2 gy 1 (fun _ _ => 0) (fun _ => n) y) ∧ (HOk ak2 aw2 au2 ay2 aR2 aS2 ((nx + 1) % 4) (Nat.min (sz + 1) 4) (svPush (R, sp, K, w, y) sv))) := by
  refine kCX.of (cc := cL_begins) (maxL := 3) (ret := (some .int)) (by decide) rfl (Nat.le_of_ble_eq_true rfl) ?_
  intro p e s m args below meth c A ls Qz hQ htb hxs hst hm hw hl
  have hl : lv_has ls 3 [(0, .ref (o)), (1, vN (n))] := hl
  refine k_aload_n hm hl 0 rfl dL_begins_0 ?_
  refine k_iload_n hm hl 1 rfl dL_begins_1 ?_
  refine k_callV (n := 1) (As := [vN (n)]) (rest := []) (wr := []) hm hw hl (c_begin_ok l G o T L M P gk gw gt gy R sp h hs Q ak aw au ay aR aS nx sz K w y sv n (by first | assumption | omega) (by first | assumption | omega) (by first | assumption | omega)) gL_begins_X6_begin rfl (by decide +kernel) ⟨by decide, by decide⟩ (ci := 6) rfl 0 rfl [0, 1, 2, 3, 4, 5, 6, 7, 8, 9, 10, 11, 12, 13, 14, 15, 16, 17, 18, 19, 20, 21, 22, 23, 24, 25, 26, 27, 28, 29, 30, 31, 32, 33, 34, 35, 36, 37, 38, 39, 40, 41, 42, 43, 44, 45, 46, 47] [] (by decide) rfl rfl (by decide) (by decide) rfl rfl (by simp [Value.category]) ⟨by decide, by decide⟩ dL_begins_2 (fun v w1 H locs hp hw => ?_)
  obtain ⟨gk2_2, gw2_3, gt2_4, ak2_5, aw2_6, au2_7, ay2_8, aR2_9, aS2_10, rfl, rfl, hok2_11, hho2_12⟩ := hp
  have hw := hw.sub (ws' := wMain G o P h T L M ++ (wPiece G P gk2_2 gw2_3 gt2_4 gy 1 sp ++ wHist G h hs Q ak2_5 aw2_6 au2_7 ay2_8 aR2_9 aS2_10 ((nx + 1) % 4) (Nat.min (sz + 1) 4))) [0, 1, 2, 3, 4, 5, 6, 7, 8, 9, 10, 11, 12, 13, 14, 15, 16, 17, 18, 19, 20, 21, 22, 23, 24, 25, 26, 27, 28, 29, 30, 31, 32, 33, 34, 35, 36, 37, 38, 39, 40, 41, 42, 43, 44, 45, 46, 47] (by decide) rfl
  refine W.eq (g2 := F0 m 5 ls [vN (R)]) rfl ?_
  exact k_iret (post := _) hm hQ rfl rfl hw (⟨gk2_2, gw2_3, gt2_4, ak2_5, aw2_6, au2_7, ay2_8, aR2_9, aS2_10, rfl, rfl, hok2_11, hho2_12⟩) (by omega) (by omega) dL_begins_5
set_option maxHeartbeats 4000000 in
set_option maxRecDepth 100000 in
theorem c_w_addRound_ok (l : Launch) (G : kG) (o : Nat) (T : Nat → Nat) (L : Nat → Nat) (M : Nat → Nat) (P : Nat → Nat) (gk : Nat → Nat) (gw : Nat → Nat) (gt : Nat → Nat) (gy : Nat → Nat) (R : Nat) (sp : Bool) (h : Nat) (hs : Nat) (Q : Nat → Nat → Nat) (ak : Nat → Nat → Nat) (aw : Nat → Nat → Nat) (au : Nat → Nat → Nat) (ay : Nat → Nat → Nat) (aR : Nat → Nat) (aS : Nat → Bool) (nx : Nat) (sz : Nat) (f : Nat → Nat) (wk : Nat) (sd : Nat) (kd : Nat) (mf : Nat → Nat) (K : Nat → Nat → Nat) (w : Nat → Nat) (y : Nat → Nat) (sv : Nat → PSt) (t : Nat) (hok : POk gk gw gt gy R K w y) (hho : HOk ak aw au ay aR aS nx sz sv) (hR40 : R < 40) (ht : 3 ≤ t ∧ t ≤ 120) (hpo : isPo (sumM (K (R - 1)) (w (R - 1))) t) : kCX l yL_adds wsL_adds 9 151 0 0 G [.ref (o), vN (t)] (wMain G o P h T L M ++ (wPiece G P gk gw gt gy R sp ++ (wHist G h hs Q ak aw au ay aR aS nx sz ++ (wPlan G L f wk sd kd ++ wMk G M mf)))) (fun vv uu => ∃ (b : Nat), ∃ (gk2 : Nat → Nat), ∃ (gw2 : Nat → Nat), ∃ (gt2 : Nat → Nat), ∃ (ak2 : Nat → Nat → Nat), ∃ (aw2 : Nat → Nat → Nat), ∃ (au2 : Nat → Nat → Nat), ∃ (ay2 : Nat → Nat → Nat), ∃ (aR2 : Nat → Nat), ∃ (aS2 : Nat → Bool), ∃ (f2 : Nat → Nat), ∃ (mf2 : Nat → Nat), vv = some (vN (b)) ∧ uu = wMain G o P h T L M ++ (wPiece G P gk2 gw2 gt2 gy (R + 1) sp ++ (wHist G h hs Q ak2 aw2 au2 ay2 aR2 aS2 ((nx + 1) % 4) (Nat.min (sz + 1) 4) ++ (wPlan G L f2 (pm (sumM (K (R - 1)) (w (R - 1))) t) (pd (sumM (K (R - 1)) (w (R - 1))) t) (pk (sumM (K (R - 1)) (w (R - 1))) t) ++ wMk G M mf2))) ∧ (isBst (stkC (K (R - 1)) (w (R - 1)) (sumM (K (R - 1)) (w (R - 1))) t) (pm (sumM (K (R - 1)) (w (R - 1))) t) b) ∧ (POk gk2 gw2 gt2 gy (R + 1) (fup K R (spR (sumM (K (R - 1)) (w (R - 1))) t b)) (fup w R (pm (sumM (K (R - 1)) (w (R - 1))) t)) y) ∧ (HOk ak2 aw2 au2 ay2 aR2 aS2 ((nx + 1) % 4) (Nat.min (sz + 1) 4) (svPush (R, sp, K, w, y) sv))) := by
  refine kCX.of (cc := cL_adds) (maxL := 3) (ret := (some .int)) (by decide) rfl (Nat.le_of_ble_eq_true rfl) ?_
  intro p e s m args below meth c A ls Qz hQ htb hxs hst hm hw hl
  have hl : lv_has ls 3 [(0, .ref (o)), (1, vN (t))] := hl
  refine k_aload_n hm hl 0 rfl dL_adds_0 ?_
  refine k_iload_n hm hl 1 rfl dL_adds_1 ?_
  refine k_callV (n := 1) (As := [vN (t)]) (rest := []) (wr := []) hm hw hl (c_addRound_ok l G o T L M P gk gw gt gy R sp h hs Q ak aw au ay aR aS nx sz f wk sd kd mf K w y sv t (by first | assumption | omega) (by first | assumption | omega) (by first | assumption | omega) (by first | assumption | omega) (by first | assumption | omega)) gL_adds_X6_addRound rfl (by decide +kernel) ⟨by decide, by decide⟩ (ci := 6) rfl 0 rfl [0, 1, 2, 3, 4, 5, 6, 7, 8, 9, 10, 11, 12, 13, 14, 15, 16, 17, 18, 19, 20, 21, 22, 23, 24, 25, 26, 27, 28, 29, 30, 31, 32, 33, 34, 35, 36, 37, 38, 39, 40, 41, 42, 43, 44, 45, 46, 47, 48, 49, 50, 51, 52, 53] [] (by decide) rfl rfl (by decide) (by decide) rfl rfl (by simp [Value.category]) ⟨by decide, by decide⟩ dL_adds_2 (fun v w1 H locs hp hw => ?_)
  obtain ⟨b_2, gk2_3, gw2_4, gt2_5, ak2_6, aw2_7, au2_8, ay2_9, aR2_10, aS2_11, f2_12, mf2_13, rfl, rfl, hbst_14, hok2_15, hho2_16⟩ := hp
  have hw := hw.sub (ws' := wMain G o P h T L M ++ (wPiece G P gk2_3 gw2_4 gt2_5 gy (R + 1) sp ++ (wHist G h hs Q ak2_6 aw2_7 au2_8 ay2_9 aR2_10 aS2_11 ((nx + 1) % 4) (Nat.min (sz + 1) 4) ++ (wPlan G L f2_12 (pm (sumM (K (R - 1)) (w (R - 1))) t) (pd (sumM (K (R - 1)) (w (R - 1))) t) (pk (sumM (K (R - 1)) (w (R - 1))) t) ++ wMk G M mf2_13)))) [0, 1, 2, 3, 4, 5, 6, 7, 8, 9, 10, 11, 12, 13, 14, 15, 16, 17, 18, 19, 20, 21, 22, 23, 24, 25, 26, 27, 28, 29, 30, 31, 32, 33, 34, 35, 36, 37, 38, 39, 40, 41, 42, 43, 44, 45, 46, 47, 48, 49, 50, 51, 52, 53] (by decide) rfl
  refine W.eq (g2 := F0 m 5 ls [vN (b_2)]) rfl ?_
  exact k_iret (post := _) hm hQ rfl rfl hw (⟨b_2, gk2_3, gw2_4, gt2_5, ak2_6, aw2_7, au2_8, ay2_9, aR2_10, aS2_11, f2_12, mf2_13, rfl, rfl, hbst_14, hok2_15, hho2_16⟩) (by omega) (by omega) dL_adds_5
set_option maxHeartbeats 4000000 in
set_option maxRecDepth 100000 in
theorem c_w_addRound_x3 (l : Launch) (G : kG) (o : Nat) (h : Nat) (T : Nat → Nat) (L : Nat → Nat) (M : Nat → Nat) (P : Nat → Nat) (gk : Nat → Nat) (gw : Nat → Nat) (gt : Nat → Nat) (gy : Nat → Nat) (R : Nat) (sp : Bool) (f : Nat → Nat) (wk : Nat) (sd : Nat) (kd : Nat) (K : Nat → Nat → Nat) (w : Nat → Nat) (y : Nat → Nat) (t : Nat) (htr : l.stackTraces = false) (hok : POk gk gw gt gy R K w y) (ht : 3 ≤ t ∧ t ≤ 120) (hR40 : R < 40) (hpo : ¬ isPo (sumM (K (R - 1)) (w (R - 1))) t) : kCX l yL_adds wsL_adds 9 151 1 6 G [.ref (o), vN (t)] (wMain G o P h T L M ++ (wPiece G P gk gw gt gy R sp ++ wPlan G L f wk sd kd)) (fun vv uu => ∃ (f2 : Nat → Nat), vv = some (vZ (-30003)) ∧ uu = wMain G o P h T L M ++ (wPiece G P gk gw gt gy R sp ++ wPlan G L f2 (pm (sumM (K (R - 1)) (w (R - 1))) t) (pd (sumM (K (R - 1)) (w (R - 1))) t) (pk (sumM (K (R - 1)) (w (R - 1))) t))) := by
  refine kCX.of (cc := cL_adds) (maxL := 3) (ret := (some .int)) (by decide) rfl (Nat.le_of_ble_eq_true rfl) ?_
  intro p e s m args below meth c A ls Qz hQ htb hxs hst hm hw hl
  have hl : lv_has ls 3 [(0, .ref (o)), (1, vN (t))] := hl
  refine k_aload_n hm hl 0 rfl dL_adds_0 ?_
  refine k_iload_n hm hl 1 rfl dL_adds_1 ?_
  refine k_callVx (n := 1) (As := [vN (t)]) (rest := []) (wr := []) hm hw hl hxs hst (c_addRound_x3 l G o h T L M P gk gw gt gy R sp f wk sd kd K w y t (by first | assumption | omega) (by first | assumption | omega) (by first | assumption | omega) (by first | assumption | omega) (by first | assumption | omega)) gL_adds_X6_addRound rfl (by decide +kernel) ⟨by decide, by decide⟩ (ci := 6) rfl 0 rfl [0, 1, 2, 3, 4, 5, 6, 7, 8, 9, 10, 11, 12] [] (by decide) rfl rfl (by decide) (by decide) rfl rfl (by simp [Value.category]) ⟨by decide, by decide⟩ dL_adds_2 (fun q ce w1 H locs hp hw he1 he2 he3 => ?_)
  obtain ⟨f2_2, rfl⟩ := hp
  have hw := hw.sub (ws' := wMain G o P h T L M ++ (wPiece G P gk gw gt gy R sp ++ wPlan G L f2_2 (pm (sumM (K (R - 1)) (w (R - 1))) t) (pd (sumM (K (R - 1)) (w (R - 1))) t) (pk (sumM (K (R - 1)) (w (R - 1))) t))) [0, 1, 2, 3, 4, 5, 6, 7, 8, 9, 10, 11, 12] (by decide) rfl
  refine vx_catch (name := xU) hm.2.2.2.1 [⟨0, 5, 6, 15⟩, ⟨0, 5, 11, 20⟩] ⟨0, 5, 16, 22⟩ [] (htb.trans rfl) (fun z hz => by rcases List.mem_cons.mp hz with rfl | hz; exact Or.inr ⟨by decide, xI, hm.2.2.2.2.1 (.classLink RL 15 xI) (by decide +kernel), hxs.2.2.2.1⟩; rcases List.mem_cons.mp hz with rfl | hz; exact Or.inr ⟨by decide, xS, hm.2.2.2.2.1 (.classLink RL 20 xS) (by decide +kernel), hxs.2.2.2.2.1⟩; exact absurd hz List.not_mem_nil) (by decide) (by decide) (hm.2.2.2.2.1 (.classLink RL 22 xU) (by decide +kernel)) (k_cast hxs (by decide)) he1 he2 he3 ?_
  refine W.eq (g2 := F0 m 16 ls [.ref (q)]) rfl ?_
  refine k_astore_n hm hl [(2, .ref (q)), (0, .ref (o)), (1, vN (t))] (by decide) rfl dL_adds_16 (fun ls hl => ?_)
  refine k_sipush (n := -30003) hm dL_adds_17 rfl ?_
  exact k_iret (post := _) hm hQ rfl rfl hw (⟨f2_2, rfl, rfl⟩) (by omega) (by omega) dL_adds_20
set_option maxHeartbeats 4000000 in
set_option maxRecDepth 100000 in
theorem c_w_addShifted_ok (l : Launch) (G : kG) (o : Nat) (T : Nat → Nat) (L : Nat → Nat) (M : Nat → Nat) (P : Nat → Nat) (gk : Nat → Nat) (gw : Nat → Nat) (gt : Nat → Nat) (gy : Nat → Nat) (R : Nat) (sp : Bool) (h : Nat) (hs : Nat) (Q : Nat → Nat → Nat) (ak : Nat → Nat → Nat) (aw : Nat → Nat → Nat) (au : Nat → Nat → Nat) (ay : Nat → Nat → Nat) (aR : Nat → Nat) (aS : Nat → Bool) (nx : Nat) (sz : Nat) (f : Nat → Nat) (wk : Nat) (sd : Nat) (kd : Nat) (mf : Nat → Nat) (K : Nat → Nat → Nat) (w : Nat → Nat) (y : Nat → Nat) (sv : Nat → PSt) (t : Nat) (x : Nat) (hok : POk gk gw gt gy R K w y) (hho : HOk ak aw au ay aR aS nx sz sv) (hR40 : R < 40) (ht : 3 ≤ t ∧ t ≤ 120) (hpo : isPo (sumM (K (R - 1)) (w (R - 1))) t) (hx : x < 120) : kCX l yL_shifts wsL_shifts 9 152 0 0 G [.ref (o), vN (t), vN (x)] (wMain G o P h T L M ++ (wPiece G P gk gw gt gy R sp ++ (wHist G h hs Q ak aw au ay aR aS nx sz ++ (wPlan G L f wk sd kd ++ wMk G M mf)))) (fun vv uu => ∃ (gk2 : Nat → Nat), ∃ (gw2 : Nat → Nat), ∃ (gt2 : Nat → Nat), ∃ (ak2 : Nat → Nat → Nat), ∃ (aw2 : Nat → Nat → Nat), ∃ (au2 : Nat → Nat → Nat), ∃ (ay2 : Nat → Nat → Nat), ∃ (aR2 : Nat → Nat), ∃ (aS2 : Nat → Bool), ∃ (f2 : Nat → Nat), ∃ (mf2 : Nat → Nat), vv = some (vN (stkC (K (R - 1)) (w (R - 1)) (sumM (K (R - 1)) (w (R - 1))) t x)) ∧ uu = wMain G o P h T L M ++ (wPiece G P gk2 gw2 gt2 gy (R + 1) sp ++ (wHist G h hs Q ak2 aw2 au2 ay2 aR2 aS2 ((nx + 1) % 4) (Nat.min (sz + 1) 4) ++ (wPlan G L f2 (pm (sumM (K (R - 1)) (w (R - 1))) t) (pd (sumM (K (R - 1)) (w (R - 1))) t) (pk (sumM (K (R - 1)) (w (R - 1))) t) ++ wMk G M mf2))) ∧ (POk gk2 gw2 gt2 gy (R + 1) (fup K R (spR (sumM (K (R - 1)) (w (R - 1))) t x)) (fup w R (pm (sumM (K (R - 1)) (w (R - 1))) t)) y) ∧ (HOk ak2 aw2 au2 ay2 aR2 aS2 ((nx + 1) % 4) (Nat.min (sz + 1) 4) (svPush (R, sp, K, w, y) sv))) := by
  refine kCX.of (cc := cL_shifts) (maxL := 4) (ret := (some .int)) (by decide) rfl (Nat.le_of_ble_eq_true rfl) ?_
  intro p e s m args below meth c A ls Qz hQ htb hxs hst hm hw hl
  have hl : lv_has ls 4 [(0, .ref (o)), (1, vN (t)), (2, vN (x))] := hl
  refine k_aload_n hm hl 0 rfl dL_shifts_0 ?_
  refine k_iload_n hm hl 1 rfl dL_shifts_1 ?_
  refine k_iload_n hm hl 2 rfl dL_shifts_2 ?_
  refine k_callV (n := 2) (As := [vN (t), vN (x)]) (rest := []) (wr := []) hm hw hl (c_addShifted_ok l G o T L M P gk gw gt gy R sp h hs Q ak aw au ay aR aS nx sz f wk sd kd mf K w y sv t x (by first | assumption | omega) (by first | assumption | omega) (by first | assumption | omega) (by first | assumption | omega) (by first | assumption | omega) (by first | assumption | omega)) gL_shifts_X6_addShifted rfl (by decide +kernel) ⟨by decide, by decide⟩ (ci := 6) rfl 0 rfl [0, 1, 2, 3, 4, 5, 6, 7, 8, 9, 10, 11, 12, 13, 14, 15, 16, 17, 18, 19, 20, 21, 22, 23, 24, 25, 26, 27, 28, 29, 30, 31, 32, 33, 34, 35, 36, 37, 38, 39, 40, 41, 42, 43, 44, 45, 46, 47, 48, 49, 50, 51, 52, 53] [] (by decide) rfl rfl (by decide) (by decide) rfl rfl (by simp [Value.category]) ⟨by decide, by decide⟩ dL_shifts_3 (fun v w1 H locs hp hw => ?_)
  obtain ⟨gk2_2, gw2_3, gt2_4, ak2_5, aw2_6, au2_7, ay2_8, aR2_9, aS2_10, f2_11, mf2_12, rfl, rfl, hok2_13, hho2_14⟩ := hp
  have hw := hw.sub (ws' := wMain G o P h T L M ++ (wPiece G P gk2_2 gw2_3 gt2_4 gy (R + 1) sp ++ (wHist G h hs Q ak2_5 aw2_6 au2_7 ay2_8 aR2_9 aS2_10 ((nx + 1) % 4) (Nat.min (sz + 1) 4) ++ (wPlan G L f2_11 (pm (sumM (K (R - 1)) (w (R - 1))) t) (pd (sumM (K (R - 1)) (w (R - 1))) t) (pk (sumM (K (R - 1)) (w (R - 1))) t) ++ wMk G M mf2_12)))) [0, 1, 2, 3, 4, 5, 6, 7, 8, 9, 10, 11, 12, 13, 14, 15, 16, 17, 18, 19, 20, 21, 22, 23, 24, 25, 26, 27, 28, 29, 30, 31, 32, 33, 34, 35, 36, 37, 38, 39, 40, 41, 42, 43, 44, 45, 46, 47, 48, 49, 50, 51, 52, 53] (by decide) rfl
  refine W.eq (g2 := F0 m 6 ls [vN (stkC (K (R - 1)) (w (R - 1)) (sumM (K (R - 1)) (w (R - 1))) t x)]) rfl ?_
  exact k_iret (post := _) hm hQ rfl rfl hw (⟨gk2_2, gw2_3, gt2_4, ak2_5, aw2_6, au2_7, ay2_8, aR2_9, aS2_10, f2_11, mf2_12, rfl, rfl, hok2_13, hho2_14⟩) (by omega) (by omega) dL_shifts_6
set_option maxHeartbeats 4000000 in
set_option maxRecDepth 100000 in
theorem c_w_addShifted_x3 (l : Launch) (G : kG) (o : Nat) (h : Nat) (T : Nat → Nat) (L : Nat → Nat) (M : Nat → Nat) (P : Nat → Nat) (gk : Nat → Nat) (gw : Nat → Nat) (gt : Nat → Nat) (gy : Nat → Nat) (R : Nat) (sp : Bool) (f : Nat → Nat) (wk : Nat) (sd : Nat) (kd : Nat) (K : Nat → Nat → Nat) (w : Nat → Nat) (y : Nat → Nat) (t : Nat) (x : Nat) (htr : l.stackTraces = false) (hok : POk gk gw gt gy R K w y) (ht : 3 ≤ t ∧ t ≤ 120) (hx : x < 120) (hR40 : R < 40) (hpo : ¬ isPo (sumM (K (R - 1)) (w (R - 1))) t) : kCX l yL_shifts wsL_shifts 9 152 1 6 G [.ref (o), vN (t), vN (x)] (wMain G o P h T L M ++ (wPiece G P gk gw gt gy R sp ++ wPlan G L f wk sd kd)) (fun vv uu => ∃ (f2 : Nat → Nat), vv = some (vZ (-30003)) ∧ uu = wMain G o P h T L M ++ (wPiece G P gk gw gt gy R sp ++ wPlan G L f2 (pm (sumM (K (R - 1)) (w (R - 1))) t) (pd (sumM (K (R - 1)) (w (R - 1))) t) (pk (sumM (K (R - 1)) (w (R - 1))) t))) := by
  refine kCX.of (cc := cL_shifts) (maxL := 4) (ret := (some .int)) (by decide) rfl (Nat.le_of_ble_eq_true rfl) ?_
  intro p e s m args below meth c A ls Qz hQ htb hxs hst hm hw hl
  have hl : lv_has ls 4 [(0, .ref (o)), (1, vN (t)), (2, vN (x))] := hl
  refine k_aload_n hm hl 0 rfl dL_shifts_0 ?_
  refine k_iload_n hm hl 1 rfl dL_shifts_1 ?_
  refine k_iload_n hm hl 2 rfl dL_shifts_2 ?_
  refine k_callVx (n := 2) (As := [vN (t), vN (x)]) (rest := []) (wr := []) hm hw hl hxs hst (c_addShifted_x3 l G o h T L M P gk gw gt gy R sp f wk sd kd K w y t x (by first | assumption | omega) (by first | assumption | omega) (by first | assumption | omega) (by first | assumption | omega) (by first | assumption | omega) (by first | assumption | omega)) gL_shifts_X6_addShifted rfl (by decide +kernel) ⟨by decide, by decide⟩ (ci := 6) rfl 0 rfl [0, 1, 2, 3, 4, 5, 6, 7, 8, 9, 10, 11, 12] [] (by decide) rfl rfl (by decide) (by decide) rfl rfl (by simp [Value.category]) ⟨by decide, by decide⟩ dL_shifts_3 (fun q ce w1 H locs hp hw he1 he2 he3 => ?_)
  obtain ⟨f2_2, rfl⟩ := hp
  have hw := hw.sub (ws' := wMain G o P h T L M ++ (wPiece G P gk gw gt gy R sp ++ wPlan G L f2_2 (pm (sumM (K (R - 1)) (w (R - 1))) t) (pd (sumM (K (R - 1)) (w (R - 1))) t) (pk (sumM (K (R - 1)) (w (R - 1))) t))) [0, 1, 2, 3, 4, 5, 6, 7, 8, 9, 10, 11, 12] (by decide) rfl
  refine vx_catch (name := xU) hm.2.2.2.1 [⟨0, 6, 7, 15⟩, ⟨0, 6, 12, 20⟩] ⟨0, 6, 17, 22⟩ [] (htb.trans rfl) (fun z hz => by rcases List.mem_cons.mp hz with rfl | hz; exact Or.inr ⟨by decide, xI, hm.2.2.2.2.1 (.classLink RL 15 xI) (by decide +kernel), hxs.2.2.2.1⟩; rcases List.mem_cons.mp hz with rfl | hz; exact Or.inr ⟨by decide, xS, hm.2.2.2.2.1 (.classLink RL 20 xS) (by decide +kernel), hxs.2.2.2.2.1⟩; exact absurd hz List.not_mem_nil) (by decide) (by decide) (hm.2.2.2.2.1 (.classLink RL 22 xU) (by decide +kernel)) (k_cast hxs (by decide)) he1 he2 he3 ?_
  refine W.eq (g2 := F0 m 17 ls [.ref (q)]) rfl ?_
  refine k_astore_n hm hl [(3, .ref (q)), (0, .ref (o)), (1, vN (t)), (2, vN (x))] (by decide) rfl dL_shifts_17 (fun ls hl => ?_)
  refine k_sipush (n := -30003) hm dL_shifts_18 rfl ?_
  exact k_iret (post := _) hm hQ rfl rfl hw (⟨f2_2, rfl, rfl⟩) (by omega) (by omega) dL_shifts_21
set_option maxHeartbeats 4000000 in
set_option maxRecDepth 100000 in
theorem c_w_addMirrored_ok (l : Launch) (G : kG) (o : Nat) (T : Nat → Nat) (L : Nat → Nat) (M : Nat → Nat) (P : Nat → Nat) (gk : Nat → Nat) (gw : Nat → Nat) (gt : Nat → Nat) (gy : Nat → Nat) (R : Nat) (sp : Bool) (h : Nat) (hs : Nat) (Q : Nat → Nat → Nat) (ak : Nat → Nat → Nat) (aw : Nat → Nat → Nat) (au : Nat → Nat → Nat) (ay : Nat → Nat → Nat) (aR : Nat → Nat) (aS : Nat → Bool) (nx : Nat) (sz : Nat) (f : Nat → Nat) (wk : Nat) (sd : Nat) (kd : Nat) (mf : Nat → Nat) (K : Nat → Nat → Nat) (w : Nat → Nat) (y : Nat → Nat) (sv : Nat → PSt) (t : Nat) (hok : POk gk gw gt gy R K w y) (hho : HOk ak aw au ay aR aS nx sz sv) (hR40 : R < 40) (ht : 3 ≤ t ∧ t ≤ 120) (hpo : isPo (sumM (K (R - 1)) (w (R - 1))) t ∧ ¬ (pd (sumM (K (R - 1)) (w (R - 1))) t % 2 = 1 ∧ pm (sumM (K (R - 1)) (w (R - 1))) t % 2 = 0)) : kCX l yL_mirrors wsL_mirrors 9 151 0 0 G [.ref (o), vN (t)] (wMain G o P h T L M ++ (wPiece G P gk gw gt gy R sp ++ (wHist G h hs Q ak aw au ay aR aS nx sz ++ (wPlan G L f wk sd kd ++ wMk G M mf)))) (fun vv uu => ∃ (gk2 : Nat → Nat), ∃ (gw2 : Nat → Nat), ∃ (gt2 : Nat → Nat), ∃ (ak2 : Nat → Nat → Nat), ∃ (aw2 : Nat → Nat → Nat), ∃ (au2 : Nat → Nat → Nat), ∃ (ay2 : Nat → Nat → Nat), ∃ (aR2 : Nat → Nat), ∃ (aS2 : Nat → Bool), ∃ (f2 : Nat → Nat), ∃ (mf2 : Nat → Nat), vv = some (vN (nstk (mkF (K (R - 1)) (w (R - 1))) (miR (sumM (K (R - 1)) (w (R - 1))) t) (pm (sumM (K (R - 1)) (w (R - 1))) t))) ∧ uu = wMain G o P h T L M ++ (wPiece G P gk2 gw2 gt2 gy (R + 1) sp ++ (wHist G h hs Q ak2 aw2 au2 ay2 aR2 aS2 ((nx + 1) % 4) (Nat.min (sz + 1) 4) ++ (wPlan G L f2 (pm (sumM (K (R - 1)) (w (R - 1))) t) (pd (sumM (K (R - 1)) (w (R - 1))) t) (pk (sumM (K (R - 1)) (w (R - 1))) t) ++ wMk G M mf2))) ∧ (POk gk2 gw2 gt2 gy (R + 1) (fup K R (miR (sumM (K (R - 1)) (w (R - 1))) t)) (fup w R (pm (sumM (K (R - 1)) (w (R - 1))) t)) y) ∧ (HOk ak2 aw2 au2 ay2 aR2 aS2 ((nx + 1) % 4) (Nat.min (sz + 1) 4) (svPush (R, sp, K, w, y) sv))) := by
  refine kCX.of (cc := cL_mirrors) (maxL := 3) (ret := (some .int)) (by decide) rfl (Nat.le_of_ble_eq_true rfl) ?_
  intro p e s m args below meth c A ls Qz hQ htb hxs hst hm hw hl
  have hl : lv_has ls 3 [(0, .ref (o)), (1, vN (t))] := hl
  refine k_aload_n hm hl 0 rfl dL_mirrors_0 ?_
  refine k_iload_n hm hl 1 rfl dL_mirrors_1 ?_
  refine k_callV (n := 1) (As := [vN (t)]) (rest := []) (wr := []) hm hw hl (c_addMirrored_ok l G o T L M P gk gw gt gy R sp h hs Q ak aw au ay aR aS nx sz f wk sd kd mf K w y sv t (by first | assumption | omega) (by first | assumption | omega) (by first | assumption | omega) (by first | assumption | omega) (by first | assumption | omega)) gL_mirrors_X6_addMirrored rfl (by decide +kernel) ⟨by decide, by decide⟩ (ci := 6) rfl 0 rfl [0, 1, 2, 3, 4, 5, 6, 7, 8, 9, 10, 11, 12, 13, 14, 15, 16, 17, 18, 19, 20, 21, 22, 23, 24, 25, 26, 27, 28, 29, 30, 31, 32, 33, 34, 35, 36, 37, 38, 39, 40, 41, 42, 43, 44, 45, 46, 47, 48, 49, 50, 51, 52, 53] [] (by decide) rfl rfl (by decide) (by decide) rfl rfl (by simp [Value.category]) ⟨by decide, by decide⟩ dL_mirrors_2 (fun v w1 H locs hp hw => ?_)
  obtain ⟨gk2_2, gw2_3, gt2_4, ak2_5, aw2_6, au2_7, ay2_8, aR2_9, aS2_10, f2_11, mf2_12, rfl, rfl, hok2_13, hho2_14⟩ := hp
  have hw := hw.sub (ws' := wMain G o P h T L M ++ (wPiece G P gk2_2 gw2_3 gt2_4 gy (R + 1) sp ++ (wHist G h hs Q ak2_5 aw2_6 au2_7 ay2_8 aR2_9 aS2_10 ((nx + 1) % 4) (Nat.min (sz + 1) 4) ++ (wPlan G L f2_11 (pm (sumM (K (R - 1)) (w (R - 1))) t) (pd (sumM (K (R - 1)) (w (R - 1))) t) (pk (sumM (K (R - 1)) (w (R - 1))) t) ++ wMk G M mf2_12)))) [0, 1, 2, 3, 4, 5, 6, 7, 8, 9, 10, 11, 12, 13, 14, 15, 16, 17, 18, 19, 20, 21, 22, 23, 24, 25, 26, 27, 28, 29, 30, 31, 32, 33, 34, 35, 36, 37, 38, 39, 40, 41, 42, 43, 44, 45, 46, 47, 48, 49, 50, 51, 52, 53] (by decide) rfl
  refine W.eq (g2 := F0 m 5 ls [vN (nstk (mkF (K (R - 1)) (w (R - 1))) (miR (sumM (K (R - 1)) (w (R - 1))) t) (pm (sumM (K (R - 1)) (w (R - 1))) t))]) rfl ?_
  exact k_iret (post := _) hm hQ rfl rfl hw (⟨gk2_2, gw2_3, gt2_4, ak2_5, aw2_6, au2_7, ay2_8, aR2_9, aS2_10, f2_11, mf2_12, rfl, rfl, hok2_13, hho2_14⟩) (by omega) (by omega) dL_mirrors_5
set_option maxHeartbeats 4000000 in
set_option maxRecDepth 100000 in
theorem c_w_addMirrored_x3 (l : Launch) (G : kG) (o : Nat) (h : Nat) (T : Nat → Nat) (L : Nat → Nat) (M : Nat → Nat) (P : Nat → Nat) (gk : Nat → Nat) (gw : Nat → Nat) (gt : Nat → Nat) (gy : Nat → Nat) (R : Nat) (sp : Bool) (f : Nat → Nat) (wk : Nat) (sd : Nat) (kd : Nat) (K : Nat → Nat → Nat) (w : Nat → Nat) (y : Nat → Nat) (t : Nat) (htr : l.stackTraces = false) (hok : POk gk gw gt gy R K w y) (ht : 3 ≤ t ∧ t ≤ 120) (hR40 : R < 40) (hpo : ¬ (isPo (sumM (K (R - 1)) (w (R - 1))) t ∧ ¬ (pd (sumM (K (R - 1)) (w (R - 1))) t % 2 = 1 ∧ pm (sumM (K (R - 1)) (w (R - 1))) t % 2 = 0))) : kCX l yL_mirrors wsL_mirrors 9 151 1 6 G [.ref (o), vN (t)] (wMain G o P h T L M ++ (wPiece G P gk gw gt gy R sp ++ wPlan G L f wk sd kd)) (fun vv uu => ∃ (f2 : Nat → Nat), vv = some (vZ (-30003)) ∧ uu = wMain G o P h T L M ++ (wPiece G P gk gw gt gy R sp ++ wPlan G L f2 (pm (sumM (K (R - 1)) (w (R - 1))) t) (pd (sumM (K (R - 1)) (w (R - 1))) t) (pk (sumM (K (R - 1)) (w (R - 1))) t))) := by
  refine kCX.of (cc := cL_mirrors) (maxL := 3) (ret := (some .int)) (by decide) rfl (Nat.le_of_ble_eq_true rfl) ?_
  intro p e s m args below meth c A ls Qz hQ htb hxs hst hm hw hl
  have hl : lv_has ls 3 [(0, .ref (o)), (1, vN (t))] := hl
  refine k_aload_n hm hl 0 rfl dL_mirrors_0 ?_
  refine k_iload_n hm hl 1 rfl dL_mirrors_1 ?_
  refine k_callVx (n := 1) (As := [vN (t)]) (rest := []) (wr := []) hm hw hl hxs hst (c_addMirrored_x3 l G o h T L M P gk gw gt gy R sp f wk sd kd K w y t (by first | assumption | omega) (by first | assumption | omega) (by first | assumption | omega) (by first | assumption | omega) (by first | assumption | omega)) gL_mirrors_X6_addMirrored rfl (by decide +kernel) ⟨by decide, by decide⟩ (ci := 6) rfl 0 rfl [0, 1, 2, 3, 4, 5, 6, 7, 8, 9, 10, 11, 12] [] (by decide) rfl rfl (by decide) (by decide) rfl rfl (by simp [Value.category]) ⟨by decide, by decide⟩ dL_mirrors_2 (fun q ce w1 H locs hp hw he1 he2 he3 => ?_)
  obtain ⟨f2_2, rfl⟩ := hp
  have hw := hw.sub (ws' := wMain G o P h T L M ++ (wPiece G P gk gw gt gy R sp ++ wPlan G L f2_2 (pm (sumM (K (R - 1)) (w (R - 1))) t) (pd (sumM (K (R - 1)) (w (R - 1))) t) (pk (sumM (K (R - 1)) (w (R - 1))) t))) [0, 1, 2, 3, 4, 5, 6, 7, 8, 9, 10, 11, 12] (by decide) rfl
  refine vx_catch (name := xU) hm.2.2.2.1 [⟨0, 5, 6, 15⟩, ⟨0, 5, 11, 20⟩] ⟨0, 5, 16, 22⟩ [] (htb.trans rfl) (fun z hz => by rcases List.mem_cons.mp hz with rfl | hz; exact Or.inr ⟨by decide, xI, hm.2.2.2.2.1 (.classLink RL 15 xI) (by decide +kernel), hxs.2.2.2.1⟩; rcases List.mem_cons.mp hz with rfl | hz; exact Or.inr ⟨by decide, xS, hm.2.2.2.2.1 (.classLink RL 20 xS) (by decide +kernel), hxs.2.2.2.2.1⟩; exact absurd hz List.not_mem_nil) (by decide) (by decide) (hm.2.2.2.2.1 (.classLink RL 22 xU) (by decide +kernel)) (k_cast hxs (by decide)) he1 he2 he3 ?_
  refine W.eq (g2 := F0 m 16 ls [.ref (q)]) rfl ?_
  refine k_astore_n hm hl [(2, .ref (q)), (0, .ref (o)), (1, vN (t))] (by decide) rfl dL_mirrors_16 (fun ls hl => ?_)
  refine k_sipush (n := -30003) hm dL_mirrors_17 rfl ?_
  exact k_iret (post := _) hm hQ rfl rfl hw (⟨f2_2, rfl, rfl⟩) (by omega) (by omega) dL_mirrors_20
set_option maxHeartbeats 4000000 in
set_option maxRecDepth 100000 in
theorem c_w_addShape_ok (l : Launch) (G : kG) (o : Nat) (T : Nat → Nat) (L : Nat → Nat) (M : Nat → Nat) (P : Nat → Nat) (gk : Nat → Nat) (gw : Nat → Nat) (gt : Nat → Nat) (gy : Nat → Nat) (R : Nat) (sp : Bool) (h : Nat) (hs : Nat) (Q : Nat → Nat → Nat) (ak : Nat → Nat → Nat) (aw : Nat → Nat → Nat) (au : Nat → Nat → Nat) (ay : Nat → Nat → Nat) (aR : Nat → Nat) (aS : Nat → Bool) (nx : Nat) (sz : Nat) (f : Nat → Nat) (wk : Nat) (sd : Nat) (kd : Nat) (mf : Nat → Nat) (K : Nat → Nat → Nat) (w : Nat → Nat) (y : Nat → Nat) (sv : Nat → PSt) (sh : Nat) (sz2 : Nat) (k : Nat) (hok : POk gk gw gt gy R K w y) (hho : HOk ak aw au ay aR aS nx sz sv) (hsk : sh < 5 ∧ 1 ≤ sz2 ∧ sz2 ≤ 20 ∧ 1 ≤ k ∧ k < 40) : kCX l yL_shapes wsL_shapes 8 135 0 0 G [.ref (o), vN (sh), vN (sz2), vN (k)] (wMain G o P h T L M ++ (wPiece G P gk gw gt gy R sp ++ (wHist G h hs Q ak aw au ay aR aS nx sz ++ (wPlan G L f wk sd kd ++ wMk G M mf)))) (fun vv uu => ∃ (q : Nat), ∃ (K2 : Nat → Nat → Nat), ∃ (w2 : Nat → Nat), ∃ (gk2 : Nat → Nat), ∃ (gw2 : Nat → Nat), ∃ (gt2 : Nat → Nat), ∃ (ak2 : Nat → Nat → Nat), ∃ (aw2 : Nat → Nat → Nat), ∃ (au2 : Nat → Nat → Nat), ∃ (ay2 : Nat → Nat → Nat), ∃ (aR2 : Nat → Nat), ∃ (aS2 : Nat → Bool), ∃ (f2 : Nat → Nat), ∃ (wk2 : Nat), ∃ (sd2 : Nat), ∃ (kd2 : Nat), ∃ (mf2 : Nat → Nat), vv = some (vN (q)) ∧ uu = wMain G o P h T L M ++ (wPiece G P gk2 gw2 gt2 gy (R + q) sp ++ (wHist G h hs Q ak2 aw2 au2 ay2 aR2 aS2 ((nx + 1) % 4) (Nat.min (sz + 1) 4) ++ (wPlan G L f2 wk2 sd2 kd2 ++ wMk G M mf2))) ∧ (shS sh sz2 k R K w q K2 w2) ∧ (POk gk2 gw2 gt2 gy (R + q) K2 w2 y) ∧ (HOk ak2 aw2 au2 ay2 aR2 aS2 ((nx + 1) % 4) (Nat.min (sz + 1) 4) (svPush (R, sp, K, w, y) sv))) := by
  refine kCX.of (cc := cL_shapes) (maxL := 5) (ret := (some .int)) (by decide) rfl (Nat.le_of_ble_eq_true rfl) ?_
  intro p e s m args below meth c A ls Qz hQ htb hxs hst hm hw hl
  have hl : lv_has ls 5 [(0, .ref (o)), (1, vN (sh)), (2, vN (sz2)), (3, vN (k))] := hl
  refine k_aload_n hm hl 0 rfl dL_shapes_0 ?_
  refine k_iload_n hm hl 1 rfl dL_shapes_1 ?_
  refine k_iload_n hm hl 2 rfl dL_shapes_2 ?_
  refine k_iload_n hm hl 3 rfl dL_shapes_3 ?_
  refine k_callV (n := 3) (As := [vN (sh), vN (sz2), vN (k)]) (rest := []) (wr := []) hm hw hl (c_addShape_ok l G o T L M P gk gw gt gy R sp h hs Q ak aw au ay aR aS nx sz f wk sd kd mf K w y sv sh sz2 k (by first | assumption | omega) (by first | assumption | omega) (by first | assumption | omega)) gL_shapes_X6_addShape rfl (by decide +kernel) ⟨by decide, by decide⟩ (ci := 6) rfl 0 rfl [0, 1, 2, 3, 4, 5, 6, 7, 8, 9, 10, 11, 12, 13, 14, 15, 16, 17, 18, 19, 20, 21, 22, 23, 24, 25, 26, 27, 28, 29, 30, 31, 32, 33, 34, 35, 36, 37, 38, 39, 40, 41, 42, 43, 44, 45, 46, 47, 48, 49, 50, 51, 52, 53] [] (by decide) rfl rfl (by decide) (by decide) rfl rfl (by simp [Value.category]) ⟨by decide, by decide⟩ dL_shapes_4 (fun v w1 H locs hp hw => ?_)
  obtain ⟨q_2, K2_3, w2_4, gk2_5, gw2_6, gt2_7, ak2_8, aw2_9, au2_10, ay2_11, aR2_12, aS2_13, f2_14, wk2_15, sd2_16, kd2_17, mf2_18, rfl, rfl, hsh_19, hok2_20, hho2_21⟩ := hp
  have hw := hw.sub (ws' := wMain G o P h T L M ++ (wPiece G P gk2_5 gw2_6 gt2_7 gy (R + q_2) sp ++ (wHist G h hs Q ak2_8 aw2_9 au2_10 ay2_11 aR2_12 aS2_13 ((nx + 1) % 4) (Nat.min (sz + 1) 4) ++ (wPlan G L f2_14 wk2_15 sd2_16 kd2_17 ++ wMk G M mf2_18)))) [0, 1, 2, 3, 4, 5, 6, 7, 8, 9, 10, 11, 12, 13, 14, 15, 16, 17, 18, 19, 20, 21, 22, 23, 24, 25, 26, 27, 28, 29, 30, 31, 32, 33, 34, 35, 36, 37, 38, 39, 40, 41, 42, 43, 44, 45, 46, 47, 48, 49, 50, 51, 52, 53] (by decide) rfl
  refine W.eq (g2 := F0 m 7 ls [vN (q_2)]) rfl ?_
  exact k_iret (post := _) hm hQ rfl rfl hw (⟨q_2, K2_3, w2_4, gk2_5, gw2_6, gt2_7, ak2_8, aw2_9, au2_10, ay2_11, aR2_12, aS2_13, f2_14, wk2_15, sd2_16, kd2_17, mf2_18, rfl, rfl, hsh_19, hok2_20, hho2_21⟩) (by omega) (by omega) dL_shapes_7
set_option maxHeartbeats 4000000 in
set_option maxRecDepth 100000 in
theorem c_w_rip_ok (l : Launch) (G : kG) (o : Nat) (T : Nat → Nat) (L : Nat → Nat) (M : Nat → Nat) (P : Nat → Nat) (gk : Nat → Nat) (gw : Nat → Nat) (gt : Nat → Nat) (gy : Nat → Nat) (R : Nat) (sp : Bool) (h : Nat) (hs : Nat) (Q : Nat → Nat → Nat) (ak : Nat → Nat → Nat) (aw : Nat → Nat → Nat) (au : Nat → Nat → Nat) (ay : Nat → Nat → Nat) (aR : Nat → Nat) (aS : Nat → Bool) (nx : Nat) (sz : Nat) (K : Nat → Nat → Nat) (w : Nat → Nat) (y : Nat → Nat) (sv : Nat → PSt) (k : Nat) (hok : POk gk gw gt gy R K w y) (hho : HOk ak aw au ay aR aS nx sz sv) (hk : 1 ≤ k ∧ k < R) : kCX l yL_rips wsL_rips 8 131 0 0 G [.ref (o), vN (k)] (wMain G o P h T L M ++ (wPiece G P gk gw gt gy R sp ++ wHist G h hs Q ak aw au ay aR aS nx sz)) (fun vv uu => ∃ (ak2 : Nat → Nat → Nat), ∃ (aw2 : Nat → Nat → Nat), ∃ (au2 : Nat → Nat → Nat), ∃ (ay2 : Nat → Nat → Nat), ∃ (aR2 : Nat → Nat), ∃ (aS2 : Nat → Bool), vv = some (vN (sumM (K (R - k - 1)) (w (R - k - 1)))) ∧ uu = wMain G o P h T L M ++ (wPiece G P gk gw gt gy (R - k) sp ++ wHist G h hs Q ak2 aw2 au2 ay2 aR2 aS2 ((nx + 1) % 4) (Nat.min (sz + 1) 4)) ∧ (POk gk gw gt gy (R - k) K w y) ∧ (HOk ak2 aw2 au2 ay2 aR2 aS2 ((nx + 1) % 4) (Nat.min (sz + 1) 4) (svPush (R, sp, K, w, y) sv))) := by
  refine kCX.of (cc := cL_rips) (maxL := 3) (ret := (some .int)) (by decide) rfl (Nat.le_of_ble_eq_true rfl) ?_
  intro p e s m args below meth c A ls Qz hQ htb hxs hst hm hw hl
  have hl : lv_has ls 3 [(0, .ref (o)), (1, vN (k))] := hl
  refine k_aload_n hm hl 0 rfl dL_rips_0 ?_
  refine k_iload_n hm hl 1 rfl dL_rips_1 ?_
  refine k_callV (n := 1) (As := [vN (k)]) (rest := []) (wr := []) hm hw hl (c_rip_ok l G o T L M P gk gw gt gy R sp h hs Q ak aw au ay aR aS nx sz K w y sv k (by first | assumption | omega) (by first | assumption | omega) (by first | assumption | omega)) gL_rips_X6_rip rfl (by decide +kernel) ⟨by decide, by decide⟩ (ci := 6) rfl 0 rfl [0, 1, 2, 3, 4, 5, 6, 7, 8, 9, 10, 11, 12, 13, 14, 15, 16, 17, 18, 19, 20, 21, 22, 23, 24, 25, 26, 27, 28, 29, 30, 31, 32, 33, 34, 35, 36, 37, 38, 39, 40, 41, 42, 43, 44, 45, 46, 47] [] (by decide) rfl rfl (by decide) (by decide) rfl rfl (by simp [Value.category]) ⟨by decide, by decide⟩ dL_rips_2 (fun v w1 H locs hp hw => ?_)
  obtain ⟨ak2_2, aw2_3, au2_4, ay2_5, aR2_6, aS2_7, rfl, rfl, hok2_8, hho2_9⟩ := hp
  have hw := hw.sub (ws' := wMain G o P h T L M ++ (wPiece G P gk gw gt gy (R - k) sp ++ wHist G h hs Q ak2_2 aw2_3 au2_4 ay2_5 aR2_6 aS2_7 ((nx + 1) % 4) (Nat.min (sz + 1) 4))) [0, 1, 2, 3, 4, 5, 6, 7, 8, 9, 10, 11, 12, 13, 14, 15, 16, 17, 18, 19, 20, 21, 22, 23, 24, 25, 26, 27, 28, 29, 30, 31, 32, 33, 34, 35, 36, 37, 38, 39, 40, 41, 42, 43, 44, 45, 46, 47] (by decide) rfl
  refine W.eq (g2 := F0 m 5 ls [vN (sumM (K (R - k - 1)) (w (R - k - 1)))]) rfl ?_
  exact k_iret (post := _) hm hQ rfl rfl hw (⟨ak2_2, aw2_3, au2_4, ay2_5, aR2_6, aS2_7, rfl, rfl, hok2_8, hho2_9⟩) (by omega) (by omega) dL_rips_5
set_option maxHeartbeats 4000000 in
set_option maxRecDepth 100000 in
theorem c_w_rip_x2 (l : Launch) (G : kG) (o : Nat) (h : Nat) (T : Nat → Nat) (L : Nat → Nat) (M : Nat → Nat) (P : Nat → Nat) (gk : Nat → Nat) (gw : Nat → Nat) (gt : Nat → Nat) (gy : Nat → Nat) (R : Nat) (sp : Bool) (z : Int) (htr : l.stackTraces = false) (hzz : -2147483648 ≤ z ∧ z < 2147483648) (hx : 1 ≤ z ∧ (R : Int) ≤ z ∧ R ≤ 40) : kCX l yL_rips wsL_rips 8 131 1 6 G [.ref (o), vZ (z)] (wMain G o P h T L M ++ wPiece G P gk gw gt gy R sp) (fun vv uu => vv = some (vZ (-30002)) ∧ uu = wMain G o P h T L M ++ wPiece G P gk gw gt gy R sp) := by
  refine kCX.of (cc := cL_rips) (maxL := 3) (ret := (some .int)) (by decide) rfl (Nat.le_of_ble_eq_true rfl) ?_
  intro p e s m args below meth c A ls Qz hQ htb hxs hst hm hw hl
  have hl : lv_has ls 3 [(0, .ref (o)), (1, vZ (z))] := hl
  refine k_aload_n hm hl 0 rfl dL_rips_0 ?_
  refine k_iload_n hm hl 1 rfl dL_rips_1 ?_
  refine k_callVx (n := 1) (As := [vZ (z)]) (rest := []) (wr := []) hm hw hl hxs hst (c_rip_x2 l G o h T L M P gk gw gt gy R sp z (by first | assumption | omega) (by first | assumption | omega) (by first | assumption | omega)) gL_rips_X6_rip rfl (by decide +kernel) ⟨by decide, by decide⟩ (ci := 6) rfl 0 rfl [0, 1, 2, 3, 4, 5, 6, 7, 8, 9] [] (by decide) rfl rfl (by decide) (by decide) rfl rfl (by simp [Value.category]) ⟨by decide, by decide⟩ dL_rips_2 (fun q ce w1 H locs hp hw he1 he2 he3 => ?_)
  obtain rfl := hp
  have hw := hw.sub (ws' := wMain G o P h T L M ++ wPiece G P gk gw gt gy R sp) [0, 1, 2, 3, 4, 5, 6, 7, 8, 9] (by decide) rfl
  refine vx_catch (name := xS) hm.2.2.2.1 [⟨0, 5, 6, 15⟩] ⟨0, 5, 11, 20⟩ [] (htb.trans rfl) (fun z hz => by rcases List.mem_cons.mp hz with rfl | hz; exact Or.inr ⟨by decide, xI, hm.2.2.2.2.1 (.classLink RL 15 xI) (by decide +kernel), hxs.2.2.1⟩; exact absurd hz List.not_mem_nil) (by decide) (by decide) (hm.2.2.2.2.1 (.classLink RL 20 xS) (by decide +kernel)) (k_cast hxs (by decide)) he1 he2 he3 ?_
  refine W.eq (g2 := F0 m 11 ls [.ref (q)]) rfl ?_
  refine k_astore_n hm hl [(2, .ref (q)), (0, .ref (o)), (1, vZ (z))] (by decide) rfl dL_rips_11 (fun ls hl => ?_)
  refine k_sipush (n := -30002) hm dL_rips_12 rfl ?_
  exact k_iret (post := _) hm hQ rfl rfl hw (⟨rfl, rfl⟩) (by omega) (by omega) dL_rips_15
set_option maxHeartbeats 4000000 in
set_option maxRecDepth 100000 in
theorem c_w_setYarn_ok (l : Launch) (G : kG) (o : Nat) (T : Nat → Nat) (L : Nat → Nat) (M : Nat → Nat) (P : Nat → Nat) (gk : Nat → Nat) (gw : Nat → Nat) (gt : Nat → Nat) (gy : Nat → Nat) (R : Nat) (sp : Bool) (h : Nat) (hs : Nat) (Q : Nat → Nat → Nat) (ak : Nat → Nat → Nat) (aw : Nat → Nat → Nat) (au : Nat → Nat → Nat) (ay : Nat → Nat → Nat) (aR : Nat → Nat) (aS : Nat → Bool) (nx : Nat) (sz : Nat) (K : Nat → Nat → Nat) (w : Nat → Nat) (y : Nat → Nat) (sv : Nat → PSt) (k : Nat) (x : Nat) (hok : POk gk gw gt gy R K w y) (hho : HOk ak aw au ay aR aS nx sz sv) (hk : k < 3 ∧ 1 ≤ x ∧ x ≤ 60) : kCX l yL_yarns wsL_yarns 8 133 0 0 G [.ref (o), vN (k), vN (x)] (wMain G o P h T L M ++ (wPiece G P gk gw gt gy R sp ++ wHist G h hs Q ak aw au ay aR aS nx sz)) (fun vv uu => ∃ (gy2 : Nat → Nat), ∃ (ak2 : Nat → Nat → Nat), ∃ (aw2 : Nat → Nat → Nat), ∃ (au2 : Nat → Nat → Nat), ∃ (ay2 : Nat → Nat → Nat), ∃ (aR2 : Nat → Nat), ∃ (aS2 : Nat → Bool), vv = some (vN (y k)) ∧ uu = wMain G o P h T L M ++ (wPiece G P gk gw gt gy2 R sp ++ wHist G h hs Q ak2 aw2 au2 ay2 aR2 aS2 ((nx + 1) % 4) (Nat.min (sz + 1) 4)) ∧ (POk gk gw gt gy2 R K w (nU y k x)) ∧ (HOk ak2 aw2 au2 ay2 aR2 aS2 ((nx + 1) % 4) (Nat.min (sz + 1) 4) (svPush (R, sp, K, w, y) sv))) := by
  refine kCX.of (cc := cL_yarns) (maxL := 4) (ret := (some .int)) (by decide) rfl (Nat.le_of_ble_eq_true rfl) ?_
  intro p e s m args below meth c A ls Qz hQ htb hxs hst hm hw hl
  have hl : lv_has ls 4 [(0, .ref (o)), (1, vN (k)), (2, vN (x))] := hl
  refine k_aload_n hm hl 0 rfl dL_yarns_0 ?_
  refine k_iload_n hm hl 1 rfl dL_yarns_1 ?_
  refine k_iload_n hm hl 2 rfl dL_yarns_2 ?_
  refine k_callV (n := 2) (As := [vN (k), vN (x)]) (rest := []) (wr := []) hm hw hl (c_setYarn_ok l G o T L M P gk gw gt gy R sp h hs Q ak aw au ay aR aS nx sz K w y sv k x (by first | assumption | omega) (by first | assumption | omega) (by first | assumption | omega)) gL_yarns_X6_setYarn rfl (by decide +kernel) ⟨by decide, by decide⟩ (ci := 6) rfl 0 rfl [0, 1, 2, 3, 4, 5, 6, 7, 8, 9, 10, 11, 12, 13, 14, 15, 16, 17, 18, 19, 20, 21, 22, 23, 24, 25, 26, 27, 28, 29, 30, 31, 32, 33, 34, 35, 36, 37, 38, 39, 40, 41, 42, 43, 44, 45, 46, 47] [] (by decide) rfl rfl (by decide) (by decide) rfl rfl (by simp [Value.category]) ⟨by decide, by decide⟩ dL_yarns_3 (fun v w1 H locs hp hw => ?_)
  obtain ⟨gy2_2, ak2_3, aw2_4, au2_5, ay2_6, aR2_7, aS2_8, rfl, rfl, hok2_9, hho2_10⟩ := hp
  have hw := hw.sub (ws' := wMain G o P h T L M ++ (wPiece G P gk gw gt gy2_2 R sp ++ wHist G h hs Q ak2_3 aw2_4 au2_5 ay2_6 aR2_7 aS2_8 ((nx + 1) % 4) (Nat.min (sz + 1) 4))) [0, 1, 2, 3, 4, 5, 6, 7, 8, 9, 10, 11, 12, 13, 14, 15, 16, 17, 18, 19, 20, 21, 22, 23, 24, 25, 26, 27, 28, 29, 30, 31, 32, 33, 34, 35, 36, 37, 38, 39, 40, 41, 42, 43, 44, 45, 46, 47] (by decide) rfl
  refine W.eq (g2 := F0 m 6 ls [vN (y k)]) rfl ?_
  exact k_iret (post := _) hm hQ rfl rfl hw (⟨gy2_2, ak2_3, aw2_4, au2_5, ay2_6, aR2_7, aS2_8, rfl, rfl, hok2_9, hho2_10⟩) (by omega) (by omega) dL_yarns_6
set_option maxHeartbeats 4000000 in
set_option maxRecDepth 100000 in
theorem c_w_round_ok (l : Launch) (G : kG) (o : Nat) (h : Nat) (T : Nat → Nat) (L : Nat → Nat) (M : Nat → Nat) (mf : Nat → Nat) (P : Nat → Nat) (gk : Nat → Nat) (gw : Nat → Nat) (gt : Nat → Nat) (gy : Nat → Nat) (R : Nat) (sp : Bool) (K : Nat → Nat → Nat) (w : Nat → Nat) (y : Nat → Nat) (r : Nat) (x : Nat) (hok : POk gk gw gt gy R K w y) (hr : r < R) (hx : x ≤ 10) : kCX l yL_roundOf wsL_roundOf 8 133 0 0 G [.ref (o), vN (r), vN (x)] (wMain G o P h T L M ++ (wPiece G P gk gw gt gy R sp ++ wMk G M mf)) (fun vv uu => ∃ (mf2 : Nat → Nat), vv = some (vZ (rv K w y r x)) ∧ uu = wMain G o P h T L M ++ (wPiece G P gk gw gt gy R sp ++ wMk G M mf2)) := by
  refine kCX.of (cc := cL_roundOf) (maxL := 4) (ret := (some .int)) (by decide) rfl (Nat.le_of_ble_eq_true rfl) ?_
  intro p e s m args below meth c A ls Qz hQ htb hxs hst hm hw hl
  have hl : lv_has ls 4 [(0, .ref (o)), (1, vN (r)), (2, vN (x))] := hl
  refine k_aload_n hm hl 0 rfl dL_roundOf_0 ?_
  refine k_iload_n hm hl 1 rfl dL_roundOf_1 ?_
  refine k_iload_n hm hl 2 rfl dL_roundOf_2 ?_
  refine k_callV (n := 2) (As := [vN (r), vN (x)]) (rest := []) (wr := []) hm hw hl (c_round_ok l G o h T L M mf P gk gw gt gy R sp K w y r x (by first | assumption | omega) (by first | assumption | omega) (by first | assumption | omega)) gL_roundOf_X6_round rfl (by decide +kernel) ⟨by decide, by decide⟩ (ci := 6) rfl 0 rfl [0, 1, 2, 3, 4, 5, 6, 7, 8, 9, 10, 11, 12] [] (by decide) rfl rfl (by decide) (by decide) rfl rfl (by simp [Value.category]) ⟨by decide, by decide⟩ dL_roundOf_3 (fun v w1 H locs hp hw => ?_)
  obtain ⟨mf2_2, rfl, rfl⟩ := hp
  have hw := hw.sub (ws' := wMain G o P h T L M ++ (wPiece G P gk gw gt gy R sp ++ wMk G M mf2_2)) [0, 1, 2, 3, 4, 5, 6, 7, 8, 9, 10, 11, 12] (by decide) rfl
  refine W.eq (g2 := F0 m 6 ls [vZ (rv K w y r x)]) rfl ?_
  exact k_iret (post := _) hm hQ rfl rfl hw (⟨mf2_2, rfl, rfl⟩) (by omega) (by omega) dL_roundOf_6
set_option maxHeartbeats 4000000 in
set_option maxRecDepth 100000 in
theorem c_w_round_x1 (l : Launch) (G : kG) (o : Nat) (h : Nat) (T : Nat → Nat) (L : Nat → Nat) (M : Nat → Nat) (P : Nat → Nat) (gk : Nat → Nat) (gw : Nat → Nat) (gt : Nat → Nat) (gy : Nat → Nat) (R : Nat) (sp : Bool) (z : Int) (x : Int) (htr : l.stackTraces = false) (hzz : -2147483648 ≤ z ∧ z < 2147483648) (hzx : -2147483648 ≤ x ∧ x < 2147483648) (hR : R ≤ 40) (hx : ¬ (0 ≤ z ∧ z < (R : Int))) : kCX l yL_roundOf wsL_roundOf 8 133 1 6 G [.ref (o), vZ (z), vZ (x)] (wMain G o P h T L M ++ wPiece G P gk gw gt gy R sp) (fun vv uu => vv = some (vZ (-30004)) ∧ uu = wMain G o P h T L M ++ wPiece G P gk gw gt gy R sp) := by
  refine kCX.of (cc := cL_roundOf) (maxL := 4) (ret := (some .int)) (by decide) rfl (Nat.le_of_ble_eq_true rfl) ?_
  intro p e s m args below meth c A ls Qz hQ htb hxs hst hm hw hl
  have hl : lv_has ls 4 [(0, .ref (o)), (1, vZ (z)), (2, vZ (x))] := hl
  refine k_aload_n hm hl 0 rfl dL_roundOf_0 ?_
  refine k_iload_n hm hl 1 rfl dL_roundOf_1 ?_
  refine k_iload_n hm hl 2 rfl dL_roundOf_2 ?_
  refine k_callVx (n := 2) (As := [vZ (z), vZ (x)]) (rest := []) (wr := []) hm hw hl hxs hst (c_round_x1 l G o h T L M P gk gw gt gy R sp z x (by first | assumption | omega) (by first | assumption | omega) (by first | assumption | omega) (by first | assumption | omega) (by first | assumption | omega)) gL_roundOf_X6_round rfl (by decide +kernel) ⟨by decide, by decide⟩ (ci := 6) rfl 0 rfl [0, 1, 2, 3, 4, 5, 6, 7, 8, 9] [] (by decide) rfl rfl (by decide) (by decide) rfl rfl (by simp [Value.category]) ⟨by decide, by decide⟩ dL_roundOf_3 (fun q ce w1 H locs hp hw he1 he2 he3 => ?_)
  obtain rfl := hp
  have hw := hw.sub (ws' := wMain G o P h T L M ++ wPiece G P gk gw gt gy R sp) [0, 1, 2, 3, 4, 5, 6, 7, 8, 9] (by decide) rfl
  refine vx_catch (name := xB) hm.2.2.2.1 [] ⟨0, 6, 7, 113⟩ [⟨0, 6, 12, 15⟩] (htb.trans rfl) (fun z hz => by exact absurd hz List.not_mem_nil) (by decide) (by decide) (hm.2.2.2.2.1 (.classLink RL 113 xB) (by decide +kernel)) (k_cast hxs (by decide)) he1 he2 he3 ?_
  refine W.eq (g2 := F0 m 7 ls [.ref (q)]) rfl ?_
  refine k_astore_n hm hl [(3, .ref (q)), (0, .ref (o)), (1, vZ (z)), (2, vZ (x))] (by decide) rfl dL_roundOf_7 (fun ls hl => ?_)
  refine k_sipush (n := -30004) hm dL_roundOf_8 rfl ?_
  exact k_iret (post := _) hm hQ rfl rfl hw (⟨rfl, rfl⟩) (by omega) (by omega) dL_roundOf_11
set_option maxHeartbeats 4000000 in
set_option maxRecDepth 100000 in
theorem c_w_round_x2 (l : Launch) (G : kG) (o : Nat) (h : Nat) (T : Nat → Nat) (L : Nat → Nat) (M : Nat → Nat) (P : Nat → Nat) (gk : Nat → Nat) (gw : Nat → Nat) (gt : Nat → Nat) (gy : Nat → Nat) (R : Nat) (sp : Bool) (r : Nat) (x : Int) (htr : l.stackTraces = false) (hzx : -2147483648 ≤ x ∧ x < 2147483648) (hR : R ≤ 40) (hr : r < R) (hx : ¬ (0 ≤ x ∧ x ≤ 10)) : kCX l yL_roundOf wsL_roundOf 8 133 1 6 G [.ref (o), vN (r), vZ (x)] (wMain G o P h T L M ++ wPiece G P gk gw gt gy R sp) (fun vv uu => vv = some (vZ (-30001)) ∧ uu = wMain G o P h T L M ++ wPiece G P gk gw gt gy R sp) := by
  refine kCX.of (cc := cL_roundOf) (maxL := 4) (ret := (some .int)) (by decide) rfl (Nat.le_of_ble_eq_true rfl) ?_
  intro p e s m args below meth c A ls Qz hQ htb hxs hst hm hw hl
  have hl : lv_has ls 4 [(0, .ref (o)), (1, vN (r)), (2, vZ (x))] := hl
  refine k_aload_n hm hl 0 rfl dL_roundOf_0 ?_
  refine k_iload_n hm hl 1 rfl dL_roundOf_1 ?_
  refine k_iload_n hm hl 2 rfl dL_roundOf_2 ?_
  refine k_callVx (n := 2) (As := [vN (r), vZ (x)]) (rest := []) (wr := []) hm hw hl hxs hst (c_round_x2 l G o h T L M P gk gw gt gy R sp r x (by first | assumption | omega) (by first | assumption | omega) (by first | assumption | omega) (by first | assumption | omega) (by first | assumption | omega)) gL_roundOf_X6_round rfl (by decide +kernel) ⟨by decide, by decide⟩ (ci := 6) rfl 0 rfl [0, 1, 2, 3, 4, 5, 6, 7, 8, 9] [] (by decide) rfl rfl (by decide) (by decide) rfl rfl (by simp [Value.category]) ⟨by decide, by decide⟩ dL_roundOf_3 (fun q ce w1 H locs hp hw he1 he2 he3 => ?_)
  obtain rfl := hp
  have hw := hw.sub (ws' := wMain G o P h T L M ++ wPiece G P gk gw gt gy R sp) [0, 1, 2, 3, 4, 5, 6, 7, 8, 9] (by decide) rfl
  refine vx_catch (name := xI) hm.2.2.2.1 [⟨0, 6, 7, 113⟩] ⟨0, 6, 12, 15⟩ [] (htb.trans rfl) (fun z hz => by rcases List.mem_cons.mp hz with rfl | hz; exact Or.inr ⟨by decide, xB, hm.2.2.2.2.1 (.classLink RL 113 xB) (by decide +kernel), hxs.2.2.2.2.2⟩; exact absurd hz List.not_mem_nil) (by decide) (by decide) (hm.2.2.2.2.1 (.classLink RL 15 xI) (by decide +kernel)) (k_cast hxs (by decide)) he1 he2 he3 ?_
  refine W.eq (g2 := F0 m 12 ls [.ref (q)]) rfl ?_
  refine k_astore_n hm hl [(3, .ref (q)), (0, .ref (o)), (1, vN (r)), (2, vZ (x))] (by decide) rfl dL_roundOf_12 (fun ls hl => ?_)
  refine k_sipush (n := -30001) hm dL_roundOf_13 rfl ?_
  exact k_iret (post := _) hm hQ rfl rfl hw (⟨rfl, rfl⟩) (by omega) (by omega) dL_roundOf_16
set_option maxHeartbeats 4000000 in
set_option maxRecDepth 100000 in
theorem c_w_work_ok (l : Launch) (G : kG) (o : Nat) (h : Nat) (T : Nat → Nat) (L : Nat → Nat) (M : Nat → Nat) (P : Nat → Nat) (gk : Nat → Nat) (gw : Nat → Nat) (gt : Nat → Nat) (gy : Nat → Nat) (R : Nat) (sp : Bool) (K : Nat → Nat → Nat) (w : Nat → Nat) (y : Nat → Nat) (r : Nat) (x : Nat) (hok : POk gk gw gt gy R K w y) (hr : r < R) (hx : x < w r) : kCX l yL_workOf wsL_workOf 8 133 0 0 G [.ref (o), vN (r), vN (x)] (wMain G o P h T L M ++ wPiece G P gk gw gt gy R sp) (fun vv uu => vv = some (vN (K r x)) ∧ uu = wMain G o P h T L M ++ wPiece G P gk gw gt gy R sp) := by
  refine kCX.of (cc := cL_workOf) (maxL := 4) (ret := (some .int)) (by decide) rfl (Nat.le_of_ble_eq_true rfl) ?_
  intro p e s m args below meth c A ls Qz hQ htb hxs hst hm hw hl
  have hl : lv_has ls 4 [(0, .ref (o)), (1, vN (r)), (2, vN (x))] := hl
  refine k_aload_n hm hl 0 rfl dL_workOf_0 ?_
  refine k_iload_n hm hl 1 rfl dL_workOf_1 ?_
  refine k_iload_n hm hl 2 rfl dL_workOf_2 ?_
  refine k_callVr (n := 2) (As := [vN (r), vN (x)]) (rest := []) hm hw hl (c_work_ok l G o h T L M P gk gw gt gy R sp K w y r x (by first | assumption | omega) (by first | assumption | omega) (by first | assumption | omega)) gL_workOf_X6_work rfl (by decide +kernel) ⟨by decide, by decide⟩ (ci := 6) rfl 0 rfl [0, 1, 2, 3, 4, 5, 6, 7, 8, 9] (by decide) rfl rfl rfl (by simp [Value.category]) ⟨by decide, by decide⟩ dL_workOf_3 (fun v H locs hp hw => ?_)
  obtain rfl := hp
  refine W.eq (g2 := F0 m 6 ls [vN (K r x)]) rfl ?_
  exact k_iret (post := _) hm hQ rfl rfl hw (⟨rfl, rfl⟩) (by omega) (by omega) dL_workOf_6
set_option maxHeartbeats 4000000 in
set_option maxRecDepth 100000 in
theorem c_w_work_x2 (l : Launch) (G : kG) (o : Nat) (h : Nat) (T : Nat → Nat) (L : Nat → Nat) (M : Nat → Nat) (P : Nat → Nat) (gk : Nat → Nat) (gw : Nat → Nat) (gt : Nat → Nat) (gy : Nat → Nat) (R : Nat) (sp : Bool) (K : Nat → Nat → Nat) (w : Nat → Nat) (y : Nat → Nat) (r : Nat) (x : Int) (htr : l.stackTraces = false) (hok : POk gk gw gt gy R K w y) (hzx : -2147483648 ≤ x ∧ x < 2147483648) (hr : r < R) (hx : ¬ (0 ≤ x ∧ x < (w r : Int))) : kCX l yL_workOf wsL_workOf 8 133 1 6 G [.ref (o), vN (r), vZ (x)] (wMain G o P h T L M ++ wPiece G P gk gw gt gy R sp) (fun vv uu => vv = some (vZ (-30004)) ∧ uu = wMain G o P h T L M ++ wPiece G P gk gw gt gy R sp) := by
  refine kCX.of (cc := cL_workOf) (maxL := 4) (ret := (some .int)) (by decide) rfl (Nat.le_of_ble_eq_true rfl) ?_
  intro p e s m args below meth c A ls Qz hQ htb hxs hst hm hw hl
  have hl : lv_has ls 4 [(0, .ref (o)), (1, vN (r)), (2, vZ (x))] := hl
  refine k_aload_n hm hl 0 rfl dL_workOf_0 ?_
  refine k_iload_n hm hl 1 rfl dL_workOf_1 ?_
  refine k_iload_n hm hl 2 rfl dL_workOf_2 ?_
  refine k_callVx (n := 2) (As := [vN (r), vZ (x)]) (rest := []) (wr := []) hm hw hl hxs hst (c_work_x2 l G o h T L M P gk gw gt gy R sp K w y r x (by first | assumption | omega) (by first | assumption | omega) (by first | assumption | omega) (by first | assumption | omega) (by first | assumption | omega)) gL_workOf_X6_work rfl (by decide +kernel) ⟨by decide, by decide⟩ (ci := 6) rfl 0 rfl [0, 1, 2, 3, 4, 5, 6, 7, 8, 9] [] (by decide) rfl rfl (by decide) (by decide) rfl rfl (by simp [Value.category]) ⟨by decide, by decide⟩ dL_workOf_3 (fun q ce w1 H locs hp hw he1 he2 he3 => ?_)
  obtain rfl := hp
  have hw := hw.sub (ws' := wMain G o P h T L M ++ wPiece G P gk gw gt gy R sp) [0, 1, 2, 3, 4, 5, 6, 7, 8, 9] (by decide) rfl
  refine vx_catch (name := xB) hm.2.2.2.1 [] ⟨0, 6, 7, 113⟩ [] (htb.trans rfl) (fun z hz => by exact absurd hz List.not_mem_nil) (by decide) (by decide) (hm.2.2.2.2.1 (.classLink RL 113 xB) (by decide +kernel)) (k_cast hxs (by decide)) he1 he2 he3 ?_
  refine W.eq (g2 := F0 m 7 ls [.ref (q)]) rfl ?_
  refine k_astore_n hm hl [(3, .ref (q)), (0, .ref (o)), (1, vN (r)), (2, vZ (x))] (by decide) rfl dL_workOf_7 (fun ls hl => ?_)
  refine k_sipush (n := -30004) hm dL_workOf_8 rfl ?_
  exact k_iret (post := _) hm hQ rfl rfl hw (⟨rfl, rfl⟩) (by omega) (by omega) dL_workOf_11
set_option maxHeartbeats 4000000 in
set_option maxRecDepth 100000 in
theorem c_w_value_ok (l : Launch) (G : kG) (o : Nat) (h : Nat) (T : Nat → Nat) (L : Nat → Nat) (M : Nat → Nat) (mf : Nat → Nat) (P : Nat → Nat) (gk : Nat → Nat) (gw : Nat → Nat) (gt : Nat → Nat) (gy : Nat → Nat) (R : Nat) (sp : Bool) (K : Nat → Nat → Nat) (w : Nat → Nat) (y : Nat → Nat) (x : Nat) (hok : POk gk gw gt gy R K w y) (hx : x ≤ 7) : kCX l yL_valueOf wsL_valueOf 8 138 0 0 G [.ref (o), vN (x)] (wMain G o P h T L M ++ (wPiece G P gk gw gt gy R sp ++ wMk G M mf)) (fun vv uu => ∃ (mf2 : Nat → Nat), vv = some (vZ (val K w y R sp x)) ∧ uu = wMain G o P h T L M ++ (wPiece G P gk gw gt gy R sp ++ wMk G M mf2)) := by
  refine kCX.of (cc := cL_valueOf) (maxL := 3) (ret := (some .int)) (by decide) rfl (Nat.le_of_ble_eq_true rfl) ?_
  intro p e s m args below meth c A ls Qz hQ htb hxs hst hm hw hl
  have hl : lv_has ls 3 [(0, .ref (o)), (1, vN (x))] := hl
  refine k_aload_n hm hl 0 rfl dL_valueOf_0 ?_
  refine k_iload_n hm hl 1 rfl dL_valueOf_1 ?_
  refine k_callV (n := 1) (As := [vN (x)]) (rest := []) (wr := []) hm hw hl (c_value_ok l G o h T L M mf P gk gw gt gy R sp K w y x (by first | assumption | omega) (by first | assumption | omega)) gL_valueOf_X6_value rfl (by decide +kernel) ⟨by decide, by decide⟩ (ci := 6) rfl 0 rfl [0, 1, 2, 3, 4, 5, 6, 7, 8, 9, 10, 11, 12] [] (by decide) rfl rfl (by decide) (by decide) rfl rfl (by simp [Value.category]) ⟨by decide, by decide⟩ dL_valueOf_2 (fun v w1 H locs hp hw => ?_)
  obtain ⟨mf2_2, rfl, rfl⟩ := hp
  have hw := hw.sub (ws' := wMain G o P h T L M ++ (wPiece G P gk gw gt gy R sp ++ wMk G M mf2_2)) [0, 1, 2, 3, 4, 5, 6, 7, 8, 9, 10, 11, 12] (by decide) rfl
  refine W.eq (g2 := F0 m 5 ls [vZ (val K w y R sp x)]) rfl ?_
  exact k_iret (post := _) hm hQ rfl rfl hw (⟨mf2_2, rfl, rfl⟩) (by omega) (by omega) dL_valueOf_5
set_option maxHeartbeats 4000000 in
set_option maxRecDepth 100000 in
theorem c_w_value_x (l : Launch) (G : kG) (o : Nat) (h : Nat) (T : Nat → Nat) (L : Nat → Nat) (M : Nat → Nat) (P : Nat → Nat) (gk : Nat → Nat) (gw : Nat → Nat) (gt : Nat → Nat) (gy : Nat → Nat) (R : Nat) (sp : Bool) (z : Int) (htr : l.stackTraces = false) (hzz : -2147483648 ≤ z ∧ z < 2147483648) (hx : ¬ (0 ≤ z ∧ z ≤ 7)) : kCX l yL_valueOf wsL_valueOf 8 138 1 6 G [.ref (o), vZ (z)] (wMain G o P h T L M ++ wPiece G P gk gw gt gy R sp) (fun vv uu => vv = some (vZ (-30001)) ∧ uu = wMain G o P h T L M ++ wPiece G P gk gw gt gy R sp) := by
  refine kCX.of (cc := cL_valueOf) (maxL := 3) (ret := (some .int)) (by decide) rfl (Nat.le_of_ble_eq_true rfl) ?_
  intro p e s m args below meth c A ls Qz hQ htb hxs hst hm hw hl
  have hl : lv_has ls 3 [(0, .ref (o)), (1, vZ (z))] := hl
  refine k_aload_n hm hl 0 rfl dL_valueOf_0 ?_
  refine k_iload_n hm hl 1 rfl dL_valueOf_1 ?_
  refine k_callVx (n := 1) (As := [vZ (z)]) (rest := []) (wr := []) hm hw hl hxs hst (c_value_x l G o h T L M P gk gw gt gy R sp z (by first | assumption | omega) (by first | assumption | omega) (by first | assumption | omega)) gL_valueOf_X6_value rfl (by decide +kernel) ⟨by decide, by decide⟩ (ci := 6) rfl 0 rfl [0, 1, 2, 3, 4, 5, 6, 7, 8, 9] [] (by decide) rfl rfl (by decide) (by decide) rfl rfl (by simp [Value.category]) ⟨by decide, by decide⟩ dL_valueOf_2 (fun q ce w1 H locs hp hw he1 he2 he3 => ?_)
  obtain rfl := hp
  have hw := hw.sub (ws' := wMain G o P h T L M ++ wPiece G P gk gw gt gy R sp) [0, 1, 2, 3, 4, 5, 6, 7, 8, 9] (by decide) rfl
  refine vx_catch (name := xI) hm.2.2.2.1 [] ⟨0, 5, 6, 15⟩ [] (htb.trans rfl) (fun z hz => by exact absurd hz List.not_mem_nil) (by decide) (by decide) (hm.2.2.2.2.1 (.classLink RL 15 xI) (by decide +kernel)) (k_cast hxs (by decide)) he1 he2 he3 ?_
  refine W.eq (g2 := F0 m 6 ls [.ref (q)]) rfl ?_
  refine k_astore_n hm hl [(2, .ref (q)), (0, .ref (o)), (1, vZ (z))] (by decide) rfl dL_valueOf_6 (fun ls hl => ?_)
  refine k_sipush (n := -30001) hm dL_valueOf_7 rfl ?_
  exact k_iret (post := _) hm hQ rfl rfl hw (⟨rfl, rfl⟩) (by omega) (by omega) dL_valueOf_10
