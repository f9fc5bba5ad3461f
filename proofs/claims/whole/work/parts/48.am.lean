section KROWAM
variable {p : Program} {l : Launch} {e : Env} {R : Room} {s : State} {m : MethodId} {args : Array Value} {below : List Frame} {meth : Method} {c : Code} {H : Heap} {locs : List Loc} {cells slots : Nat} {Q : State → Prop}
variable {cc : ByteArray} {pc nL : Nat} {ls : Array Slot} {rest st : List Value} {Ts : List Cond} {own : String} {ret : Option FieldType} {G : kG} {A : Nat → Prop} {ws wq : va_W} {ll : List (Nat × Value)} {post : Option Value → va_W → Prop} {mc ms : Nat}
theorem k_newL (hm : kM p m c cc nL s args Ts own meth ret) (hw : kW G A s ws H locs) {n : Nat} (h1 : Cond.arrayClass .long ∈ Ts) (hn : n ≤ 10000000) (h4 : cells + 1 ≤ R.cells) (h5 : slots + n ≤ R.slots) (hdg : decode cc pc = .ok (.newarray .long, 2))
    (kk : ∀ (q : Nat) (H1 : Heap), kW G A s (ws ++ [(q, .inl (G.2 1, n, .inr (.inl (fun _ => 0))))]) H1 locs → W p l e R s m args below meth c H1 locs (cells + 1) (slots + n) Q (F0 m (pc + 2) ls (.ref q :: rest))) : W p l e R s m args below meth c H locs cells slots Q (F0 m pc ls (.int (iI (n : Int)) :: rest)) := by
  refine va_newa (D := G.1) (cl := vwCl) (tys := kT G) (atype := .long) (ty := .long) (a0 := (n, .inr (.inl (fun _ => 0)))) hm.1 hm.2.1 (hm.2.2.2.2.1 _ h1) rfl hw.2.2.2.1.1 hw.1 hw.2.1 hw.2.2.1 hw.2.2.2.2 (fun cA => ?_) ?_ ?_ ?_ h4 h5 hdg (fun q cA H1 hK hP hD hS => ?_)
  · rfl
  · intro q
    rw [← iI_0, iI_lt (by omega)] at q; omega
  · rw [iI_clamp (by omega) (by omega)]; rfl
  · show n * 8 ≤ _; omega
  · have e1 := (hK.2 4 (cA, .long) rfl).2
    have e2 := (hw.2.2.2.1.1.2 1 (G.2 1, .long) rfl).2
    have e : cA = G.2 1 := Option.some.inj ((show _ = some cA from e1).symm.trans (show _ = some (G.2 1) from e2))
    subst e
    exact kk q H1 ⟨hP, hD, hS, hw.2.2.2.1, hw.2.2.2.2⟩
theorem k_newD (hm : kM p m c cc nL s args Ts own meth ret) (hw : kW G A s ws H locs) {n : Nat} (h1 : Cond.arrayClass .double ∈ Ts) (hn : n ≤ 10000000) (h4 : cells + 1 ≤ R.cells) (h5 : slots + n ≤ R.slots) (hdg : decode cc pc = .ok (.newarray .double, 2))
    (kk : ∀ (q : Nat) (H1 : Heap), kW G A s (ws ++ [(q, .inl (G.2 3, n, .inr (.inr (.inr (.inl (fun _ => 0))))))]) H1 locs → W p l e R s m args below meth c H1 locs (cells + 1) (slots + n) Q (F0 m (pc + 2) ls (.ref q :: rest))) : W p l e R s m args below meth c H locs cells slots Q (F0 m pc ls (.int (iI (n : Int)) :: rest)) := by
  refine va_newa (D := G.1) (cl := vwCl) (tys := kT G) (atype := .double) (ty := .double) (a0 := (n, .inr (.inr (.inr (.inl (fun _ => 0)))))) hm.1 hm.2.1 (hm.2.2.2.2.1 _ h1) rfl hw.2.2.2.1.1 hw.1 hw.2.1 hw.2.2.1 hw.2.2.2.2 (fun cA => ?_) ?_ ?_ ?_ h4 h5 hdg (fun q cA H1 hK hP hD hS => ?_)
  · rfl
  · intro q
    rw [← iI_0, iI_lt (by omega)] at q; omega
  · rw [iI_clamp (by omega) (by omega)]; rfl
  · show n * 8 ≤ _; omega
  · have e1 := (hK.2 4 (cA, .double) rfl).2
    have e2 := (hw.2.2.2.1.1.2 3 (G.2 3, .double) rfl).2
    have e : cA = G.2 3 := Option.some.inj ((show _ = some cA from e1).symm.trans (show _ = some (G.2 3) from e2))
    subst e
    exact kk q H1 ⟨hP, hD, hS, hw.2.2.2.1, hw.2.2.2.2⟩
end KROWAM
set_option maxHeartbeats 4000000 in
set_option maxRecDepth 100000 in
theorem c_m_init (l : Launch) (G : kG) (a : Nat)  : kCM l yX7_init wsX7_init 1 22 8 1711 G [.ref (a)] ([(a, .inr (7, [.null, .null, vN (0), .null, vN (0), vN (0), .null, vN (0), .null, vN (0), .null, .null, vN (0), vN (0), vN (0), .null]))]) (fun vv uu => ∃ (D : Nat → Nat), ∃ (sa2 : Nat → Int64), vv = none ∧ uu = wMod G D sa2 (fun _ => 0) 0 (fun _ => 0) 0 0 (fun _ => 0) 0 (fun _ => 0) 0 (fun _ => 0) (fun _ => 0) 0 0 0 (fun _ => 0) ∧ (D 0 = a) ∧ (MOk sa2 1 false (fun _ _ => 0) (fun _ => 6) yy0)) := by
  refine kCM.of (cc := cX7_init) (maxL := 1) (ret := none) (by decide) rfl (Nat.le_of_ble_eq_true rfl) ?_
  intro p e s m args below meth c A ls Qz hQ hin hm hw hl
  have hl : lv_has ls 1 [(0, .ref (a))] := hl
  have i7 : ∀ w ∈ wsX70, w ∈ wsX7_init := by decide +kernel
  refine k_aload_n hm hl 0 rfl dX7_init_0 ?_
  refine k_objI hm hl (by decide +kernel) (by decide +kernel) (by decide +kernel) (Nat.le_of_ble_eq_true rfl) (Nat.le_of_ble_eq_true rfl) dX7_init_1 ?_
  refine W.eq (g2 := F0 m 4 ls []) rfl ?_
  refine k_aload_n hm hl 0 rfl dX7_init_4 ?_
  refine k_sipushN hm 205 dX7_init_5 rfl ?_
  refine k_newL (n := 205) hm hw (by decide +kernel) (by omega) (Nat.le_of_ble_eq_true rfl) (Nat.le_of_ble_eq_true rfl) dX7_init_8 (fun q_1 H hw => ?_)
  have hw : kW G A s ([(a, .inr (7, [.null, .null, vN (0), .null, vN (0), vN (0), .null, vN (0), .null, vN (0), .null, .null, vN (0), vN (0), vN (0), .null]))] ++ [(q_1, .inl (G.2 1, 205, .inr (.inl (fun _ => 0))))]) _ _ := hw
  refine k_putF (T := TX7) hm hw hin 0 0 ([(a, .inr (7, [.ref (q_1), .null, vN (0), .null, vN (0), vN (0), .null, vN (0), .null, vN (0), .null, .null, vN (0), vN (0), vN (0), .null]))] ++ [(q_1, .inl (G.2 1, 205, .inr (.inl (fun _ => 0))))]) i7 tyX7 tyX7_ok nmX7 rfl rfl (by decide) (by decide +kernel) rfl rfl (tyX7_ok 0 (by decide)) rfl rfl (Nat.le_of_ble_eq_true rfl) rfl dX7_init_10 (fun H locs hw => ?_)
  refine k_aload_n hm hl 0 rfl dX7_init_13 ?_
  refine k_sipushN hm 820 dX7_init_14 rfl ?_
  refine k_newL (n := 820) hm hw (by decide +kernel) (by omega) (Nat.le_of_ble_eq_true rfl) (Nat.le_of_ble_eq_true rfl) dX7_init_17 (fun q_2 H hw => ?_)
  have hw : kW G A s ([(a, .inr (7, [.ref (q_1), .null, vN (0), .null, vN (0), vN (0), .null, vN (0), .null, vN (0), .null, .null, vN (0), vN (0), vN (0), .null]))] ++ ([(q_1, .inl (G.2 1, 205, .inr (.inl (fun _ => 0))))] ++ [(q_2, .inl (G.2 1, 820, .inr (.inl (fun _ => 0))))])) _ _ := hw
  refine k_putF (T := TX7) hm hw hin 0 1 ([(a, .inr (7, [.ref (q_1), .ref (q_2), vN (0), .null, vN (0), vN (0), .null, vN (0), .null, vN (0), .null, .null, vN (0), vN (0), vN (0), .null]))] ++ ([(q_1, .inl (G.2 1, 205, .inr (.inl (fun _ => 0))))] ++ [(q_2, .inl (G.2 1, 820, .inr (.inl (fun _ => 0))))])) i7 tyX7 tyX7_ok nmX7 rfl rfl (by decide) (by decide +kernel) rfl rfl (tyX7_ok 1 (by decide)) rfl rfl (Nat.le_of_ble_eq_true rfl) rfl dX7_init_19 (fun H locs hw => ?_)
  refine k_aload_n hm hl 0 rfl dX7_init_22 ?_
  refine k_bipushN hm 120 dX7_init_23 rfl ?_
  refine k_newI (n := 120) hm hw (by decide +kernel) (by omega) (Nat.le_of_ble_eq_true rfl) (by first | exact Nat.le_of_ble_eq_true rfl | (show 0 + 120 ≤ 120; omega)) dX7_init_25 (fun q_3 H hw => ?_)
  have hw : kW G A s ([(a, .inr (7, [.ref (q_1), .ref (q_2), vN (0), .null, vN (0), vN (0), .null, vN (0), .null, vN (0), .null, .null, vN (0), vN (0), vN (0), .null]))] ++ ([(q_1, .inl (G.2 1, 205, .inr (.inl (fun _ => 0))))] ++ ([(q_2, .inl (G.2 1, 820, .inr (.inl (fun _ => 0))))] ++ [(q_3, .inl (G.2 0, 120, .inl (nF (fun _ => 0))))]))) _ _ := hw
  refine k_putF (T := TX7) hm hw hin 0 3 ([(a, .inr (7, [.ref (q_1), .ref (q_2), vN (0), .ref (q_3), vN (0), vN (0), .null, vN (0), .null, vN (0), .null, .null, vN (0), vN (0), vN (0), .null]))] ++ ([(q_1, .inl (G.2 1, 205, .inr (.inl (fun _ => 0))))] ++ ([(q_2, .inl (G.2 1, 820, .inr (.inl (fun _ => 0))))] ++ [(q_3, .inl (G.2 0, 120, .inl (nF (fun _ => 0))))]))) i7 tyX7 tyX7_ok nmX7 rfl rfl (by decide) (by decide +kernel) rfl rfl (tyX7_ok 3 (by decide)) rfl rfl (Nat.le_of_ble_eq_true rfl) rfl dX7_init_27 (fun H locs hw => ?_)
  refine k_aload_n hm hl 0 rfl dX7_init_30 ?_
  refine k_bipushN hm 121 dX7_init_31 rfl ?_
  refine k_newI (n := 121) hm hw (by decide +kernel) (by omega) (Nat.le_of_ble_eq_true rfl) (by first | exact Nat.le_of_ble_eq_true rfl | (show 0 + 121 ≤ 121; omega)) dX7_init_33 (fun q_4 H hw => ?_)
  have hw : kW G A s ([(a, .inr (7, [.ref (q_1), .ref (q_2), vN (0), .ref (q_3), vN (0), vN (0), .null, vN (0), .null, vN (0), .null, .null, vN (0), vN (0), vN (0), .null]))] ++ ([(q_1, .inl (G.2 1, 205, .inr (.inl (fun _ => 0))))] ++ ([(q_2, .inl (G.2 1, 820, .inr (.inl (fun _ => 0))))] ++ ([(q_3, .inl (G.2 0, 120, .inl (nF (fun _ => 0))))] ++ [(q_4, .inl (G.2 0, 121, .inl (nF (fun _ => 0))))])))) _ _ := hw
  refine k_putF (T := TX7) hm hw hin 0 6 ([(a, .inr (7, [.ref (q_1), .ref (q_2), vN (0), .ref (q_3), vN (0), vN (0), .ref (q_4), vN (0), .null, vN (0), .null, .null, vN (0), vN (0), vN (0), .null]))] ++ ([(q_1, .inl (G.2 1, 205, .inr (.inl (fun _ => 0))))] ++ ([(q_2, .inl (G.2 1, 820, .inr (.inl (fun _ => 0))))] ++ ([(q_3, .inl (G.2 0, 120, .inl (nF (fun _ => 0))))] ++ [(q_4, .inl (G.2 0, 121, .inl (nF (fun _ => 0))))])))) i7 tyX7 tyX7_ok nmX7 rfl rfl (by decide) (by decide +kernel) rfl rfl (tyX7_ok 6 (by decide)) rfl rfl (Nat.le_of_ble_eq_true rfl) rfl dX7_init_35 (fun H locs hw => ?_)
  refine k_aload_n hm hl 0 rfl dX7_init_38 ?_
  refine k_bipushN hm 120 dX7_init_39 rfl ?_
  refine k_newI (n := 120) hm hw (by decide +kernel) (by omega) (Nat.le_of_ble_eq_true rfl) (by first | exact Nat.le_of_ble_eq_true rfl | (show 0 + 120 ≤ 120; omega)) dX7_init_41 (fun q_5 H hw => ?_)
  have hw : kW G A s ([(a, .inr (7, [.ref (q_1), .ref (q_2), vN (0), .ref (q_3), vN (0), vN (0), .ref (q_4), vN (0), .null, vN (0), .null, .null, vN (0), vN (0), vN (0), .null]))] ++ ([(q_1, .inl (G.2 1, 205, .inr (.inl (fun _ => 0))))] ++ ([(q_2, .inl (G.2 1, 820, .inr (.inl (fun _ => 0))))] ++ ([(q_3, .inl (G.2 0, 120, .inl (nF (fun _ => 0))))] ++ ([(q_4, .inl (G.2 0, 121, .inl (nF (fun _ => 0))))] ++ [(q_5, .inl (G.2 0, 120, .inl (nF (fun _ => 0))))]))))) _ _ := hw
  refine k_putF (T := TX7) hm hw hin 0 8 ([(a, .inr (7, [.ref (q_1), .ref (q_2), vN (0), .ref (q_3), vN (0), vN (0), .ref (q_4), vN (0), .ref (q_5), vN (0), .null, .null, vN (0), vN (0), vN (0), .null]))] ++ ([(q_1, .inl (G.2 1, 205, .inr (.inl (fun _ => 0))))] ++ ([(q_2, .inl (G.2 1, 820, .inr (.inl (fun _ => 0))))] ++ ([(q_3, .inl (G.2 0, 120, .inl (nF (fun _ => 0))))] ++ ([(q_4, .inl (G.2 0, 121, .inl (nF (fun _ => 0))))] ++ [(q_5, .inl (G.2 0, 120, .inl (nF (fun _ => 0))))]))))) i7 tyX7 tyX7_ok nmX7 rfl rfl (by decide) (by decide +kernel) rfl rfl (tyX7_ok 8 (by decide)) rfl rfl (Nat.le_of_ble_eq_true rfl) rfl dX7_init_43 (fun H locs hw => ?_)
  refine k_aload_n hm hl 0 rfl dX7_init_46 ?_
  refine k_bipushN hm 60 dX7_init_47 rfl ?_
  refine k_newI (n := 60) hm hw (by decide +kernel) (by omega) (Nat.le_of_ble_eq_true rfl) (by first | exact Nat.le_of_ble_eq_true rfl | (show 0 + 60 ≤ 60; omega)) dX7_init_49 (fun q_6 H hw => ?_)
  have hw : kW G A s ([(a, .inr (7, [.ref (q_1), .ref (q_2), vN (0), .ref (q_3), vN (0), vN (0), .ref (q_4), vN (0), .ref (q_5), vN (0), .null, .null, vN (0), vN (0), vN (0), .null]))] ++ ([(q_1, .inl (G.2 1, 205, .inr (.inl (fun _ => 0))))] ++ ([(q_2, .inl (G.2 1, 820, .inr (.inl (fun _ => 0))))] ++ ([(q_3, .inl (G.2 0, 120, .inl (nF (fun _ => 0))))] ++ ([(q_4, .inl (G.2 0, 121, .inl (nF (fun _ => 0))))] ++ ([(q_5, .inl (G.2 0, 120, .inl (nF (fun _ => 0))))] ++ [(q_6, .inl (G.2 0, 60, .inl (nF (fun _ => 0))))])))))) _ _ := hw
  refine k_putF (T := TX7) hm hw hin 0 10 ([(a, .inr (7, [.ref (q_1), .ref (q_2), vN (0), .ref (q_3), vN (0), vN (0), .ref (q_4), vN (0), .ref (q_5), vN (0), .ref (q_6), .null, vN (0), vN (0), vN (0), .null]))] ++ ([(q_1, .inl (G.2 1, 205, .inr (.inl (fun _ => 0))))] ++ ([(q_2, .inl (G.2 1, 820, .inr (.inl (fun _ => 0))))] ++ ([(q_3, .inl (G.2 0, 120, .inl (nF (fun _ => 0))))] ++ ([(q_4, .inl (G.2 0, 121, .inl (nF (fun _ => 0))))] ++ ([(q_5, .inl (G.2 0, 120, .inl (nF (fun _ => 0))))] ++ [(q_6, .inl (G.2 0, 60, .inl (nF (fun _ => 0))))])))))) i7 tyX7 tyX7_ok nmX7 rfl rfl (by decide) (by decide +kernel) rfl rfl (tyX7_ok 10 (by decide)) rfl rfl (Nat.le_of_ble_eq_true rfl) rfl dX7_init_51 (fun H locs hw => ?_)
  refine k_aload_n hm hl 0 rfl dX7_init_54 ?_
  refine k_bipushN hm 60 dX7_init_55 rfl ?_
  refine k_newI (n := 60) hm hw (by decide +kernel) (by omega) (Nat.le_of_ble_eq_true rfl) (by first | exact Nat.le_of_ble_eq_true rfl | (show 0 + 60 ≤ 60; omega)) dX7_init_57 (fun q_7 H hw => ?_)
  have hw : kW G A s ([(a, .inr (7, [.ref (q_1), .ref (q_2), vN (0), .ref (q_3), vN (0), vN (0), .ref (q_4), vN (0), .ref (q_5), vN (0), .ref (q_6), .null, vN (0), vN (0), vN (0), .null]))] ++ ([(q_1, .inl (G.2 1, 205, .inr (.inl (fun _ => 0))))] ++ ([(q_2, .inl (G.2 1, 820, .inr (.inl (fun _ => 0))))] ++ ([(q_3, .inl (G.2 0, 120, .inl (nF (fun _ => 0))))] ++ ([(q_4, .inl (G.2 0, 121, .inl (nF (fun _ => 0))))] ++ ([(q_5, .inl (G.2 0, 120, .inl (nF (fun _ => 0))))] ++ ([(q_6, .inl (G.2 0, 60, .inl (nF (fun _ => 0))))] ++ [(q_7, .inl (G.2 0, 60, .inl (nF (fun _ => 0))))]))))))) _ _ := hw
  refine k_putF (T := TX7) hm hw hin 0 11 ([(a, .inr (7, [.ref (q_1), .ref (q_2), vN (0), .ref (q_3), vN (0), vN (0), .ref (q_4), vN (0), .ref (q_5), vN (0), .ref (q_6), .ref (q_7), vN (0), vN (0), vN (0), .null]))] ++ ([(q_1, .inl (G.2 1, 205, .inr (.inl (fun _ => 0))))] ++ ([(q_2, .inl (G.2 1, 820, .inr (.inl (fun _ => 0))))] ++ ([(q_3, .inl (G.2 0, 120, .inl (nF (fun _ => 0))))] ++ ([(q_4, .inl (G.2 0, 121, .inl (nF (fun _ => 0))))] ++ ([(q_5, .inl (G.2 0, 120, .inl (nF (fun _ => 0))))] ++ ([(q_6, .inl (G.2 0, 60, .inl (nF (fun _ => 0))))] ++ [(q_7, .inl (G.2 0, 60, .inl (nF (fun _ => 0))))]))))))) i7 tyX7 tyX7_ok nmX7 rfl rfl (by decide) (by decide +kernel) rfl rfl (tyX7_ok 11 (by decide)) rfl rfl (Nat.le_of_ble_eq_true rfl) rfl dX7_init_59 (fun H locs hw => ?_)
  refine k_aload_n hm hl 0 rfl dX7_init_62 ?_
  refine k_sipushN hm 205 dX7_init_63 rfl ?_
  refine k_newL (n := 205) hm hw (by decide +kernel) (by omega) (Nat.le_of_ble_eq_true rfl) (Nat.le_of_ble_eq_true rfl) dX7_init_66 (fun q_8 H hw => ?_)
  have hw : kW G A s ([(a, .inr (7, [.ref (q_1), .ref (q_2), vN (0), .ref (q_3), vN (0), vN (0), .ref (q_4), vN (0), .ref (q_5), vN (0), .ref (q_6), .ref (q_7), vN (0), vN (0), vN (0), .null]))] ++ ([(q_1, .inl (G.2 1, 205, .inr (.inl (fun _ => 0))))] ++ ([(q_2, .inl (G.2 1, 820, .inr (.inl (fun _ => 0))))] ++ ([(q_3, .inl (G.2 0, 120, .inl (nF (fun _ => 0))))] ++ ([(q_4, .inl (G.2 0, 121, .inl (nF (fun _ => 0))))] ++ ([(q_5, .inl (G.2 0, 120, .inl (nF (fun _ => 0))))] ++ ([(q_6, .inl (G.2 0, 60, .inl (nF (fun _ => 0))))] ++ ([(q_7, .inl (G.2 0, 60, .inl (nF (fun _ => 0))))] ++ [(q_8, .inl (G.2 1, 205, .inr (.inl (fun _ => 0))))])))))))) _ _ := hw
  refine k_putF (T := TX7) hm hw hin 0 15 ([(a, .inr (7, [.ref (q_1), .ref (q_2), vN (0), .ref (q_3), vN (0), vN (0), .ref (q_4), vN (0), .ref (q_5), vN (0), .ref (q_6), .ref (q_7), vN (0), vN (0), vN (0), .ref (q_8)]))] ++ ([(q_1, .inl (G.2 1, 205, .inr (.inl (fun _ => 0))))] ++ ([(q_2, .inl (G.2 1, 820, .inr (.inl (fun _ => 0))))] ++ ([(q_3, .inl (G.2 0, 120, .inl (nF (fun _ => 0))))] ++ ([(q_4, .inl (G.2 0, 121, .inl (nF (fun _ => 0))))] ++ ([(q_5, .inl (G.2 0, 120, .inl (nF (fun _ => 0))))] ++ ([(q_6, .inl (G.2 0, 60, .inl (nF (fun _ => 0))))] ++ ([(q_7, .inl (G.2 0, 60, .inl (nF (fun _ => 0))))] ++ [(q_8, .inl (G.2 1, 205, .inr (.inl (fun _ => 0))))])))))))) i7 tyX7 tyX7_ok nmX7 rfl rfl (by decide) (by decide +kernel) rfl rfl (tyX7_ok 15 (by decide)) rfl rfl (Nat.le_of_ble_eq_true rfl) rfl dX7_init_68 (fun H locs hw => ?_)
  refine k_aload_n hm hl 0 rfl dX7_init_71 ?_
  refine k_get (T := TX7) hm hw 0 0 i7 rfl rfl (by decide) (by decide +kernel) rfl dX7_init_72 ?_
  refine k_iconstN hm 2 dX7_init_75 ?_
  refine lv_ldc2 hm.1 hm.2.1 (own := RX7) hm.2.2.2.1 (hm.2.2.2.2.1 (.constantLong RX7 35 (lI 10)) (by decide +kernel)) dX7_init_76 ?_
  refine k_last hm hw 1 ([(a, .inr (7, [.ref (q_1), .ref (q_2), vN (0), .ref (q_3), vN (0), vN (0), .ref (q_4), vN (0), .ref (q_5), vN (0), .ref (q_6), .ref (q_7), vN (0), vN (0), vN (0), .ref (q_8)]))] ++ ([(q_1, .inl (G.2 1, 205, .inr (.inl (vp_updL (fun _ => 0) 2 (lI 10)))))] ++ ([(q_2, .inl (G.2 1, 820, .inr (.inl (fun _ => 0))))] ++ ([(q_3, .inl (G.2 0, 120, .inl (nF (fun _ => 0))))] ++ ([(q_4, .inl (G.2 0, 121, .inl (nF (fun _ => 0))))] ++ ([(q_5, .inl (G.2 0, 120, .inl (nF (fun _ => 0))))] ++ ([(q_6, .inl (G.2 0, 60, .inl (nF (fun _ => 0))))] ++ ([(q_7, .inl (G.2 0, 60, .inl (nF (fun _ => 0))))] ++ [(q_8, .inl (G.2 1, 205, .inr (.inl (fun _ => 0))))])))))))) rfl (by omega) rfl dX7_init_79 (fun H locs hw => ?_)
  refine k_aload_n hm hl 0 rfl dX7_init_80 ?_
  refine k_get (T := TX7) hm hw 0 0 i7 rfl rfl (by decide) (by decide +kernel) rfl dX7_init_81 ?_
  refine k_iconstN hm 3 dX7_init_84 ?_
  refine lv_ldc2 hm.1 hm.2.1 (own := RX7) hm.2.2.2.1 (hm.2.2.2.2.1 (.constantLong RX7 37 (lI 20)) (by decide +kernel)) dX7_init_85 ?_
  refine k_last hm hw 1 ([(a, .inr (7, [.ref (q_1), .ref (q_2), vN (0), .ref (q_3), vN (0), vN (0), .ref (q_4), vN (0), .ref (q_5), vN (0), .ref (q_6), .ref (q_7), vN (0), vN (0), vN (0), .ref (q_8)]))] ++ ([(q_1, .inl (G.2 1, 205, .inr (.inl (vp_updL (vp_updL (fun _ => 0) 2 (lI 10)) 3 (lI 20)))))] ++ ([(q_2, .inl (G.2 1, 820, .inr (.inl (fun _ => 0))))] ++ ([(q_3, .inl (G.2 0, 120, .inl (nF (fun _ => 0))))] ++ ([(q_4, .inl (G.2 0, 121, .inl (nF (fun _ => 0))))] ++ ([(q_5, .inl (G.2 0, 120, .inl (nF (fun _ => 0))))] ++ ([(q_6, .inl (G.2 0, 60, .inl (nF (fun _ => 0))))] ++ ([(q_7, .inl (G.2 0, 60, .inl (nF (fun _ => 0))))] ++ [(q_8, .inl (G.2 1, 205, .inr (.inl (fun _ => 0))))])))))))) rfl (by omega) rfl dX7_init_88 (fun H locs hw => ?_)
  refine k_aload_n hm hl 0 rfl dX7_init_89 ?_
  refine k_get (T := TX7) hm hw 0 0 i7 rfl rfl (by decide) (by decide +kernel) rfl dX7_init_90 ?_
  refine k_iconstN hm 4 dX7_init_93 ?_
  refine lv_ldc2 hm.1 hm.2.1 (own := RX7) hm.2.2.2.1 (hm.2.2.2.2.1 (.constantLong RX7 39 (lI 13)) (by decide +kernel)) dX7_init_94 ?_
  refine k_last hm hw 1 ([(a, .inr (7, [.ref (q_1), .ref (q_2), vN (0), .ref (q_3), vN (0), vN (0), .ref (q_4), vN (0), .ref (q_5), vN (0), .ref (q_6), .ref (q_7), vN (0), vN (0), vN (0), .ref (q_8)]))] ++ ([(q_1, .inl (G.2 1, 205, .inr (.inl (vp_updL (vp_updL (vp_updL (fun _ => 0) 2 (lI 10)) 3 (lI 20)) 4 (lI 13)))))] ++ ([(q_2, .inl (G.2 1, 820, .inr (.inl (fun _ => 0))))] ++ ([(q_3, .inl (G.2 0, 120, .inl (nF (fun _ => 0))))] ++ ([(q_4, .inl (G.2 0, 121, .inl (nF (fun _ => 0))))] ++ ([(q_5, .inl (G.2 0, 120, .inl (nF (fun _ => 0))))] ++ ([(q_6, .inl (G.2 0, 60, .inl (nF (fun _ => 0))))] ++ ([(q_7, .inl (G.2 0, 60, .inl (nF (fun _ => 0))))] ++ [(q_8, .inl (G.2 1, 205, .inr (.inl (fun _ => 0))))])))))))) rfl (by omega) rfl dX7_init_97 (fun H locs hw => ?_)
  have hw : kW G A s (wMod G (pL [a, q_1, q_2, q_3, q_4, q_5, q_6, q_7, q_8]) (vp_updL (vp_updL (vp_updL (fun _ => 0) 2 (lI 10)) 3 (lI 20)) 4 (lI 13)) (fun _ => 0) 0 (fun _ => 0) 0 0 (fun _ => 0) 0 (fun _ => 0) 0 (fun _ => 0) (fun _ => 0) 0 0 0 (fun _ => 0)) _ _ := hw
  refine k_aload_n hm hl 0 rfl dX7_init_98 ?_
  refine k_bipushN hm 6 dX7_init_99 rfl ?_
  refine k_callV (n := 1) (As := [vN (6)]) (rest := []) (wr := []) hm hw hl (c_m_laysFirst l G (pL [a, q_1, q_2, q_3, q_4, q_5, q_6, q_7, q_8]) (vp_updL (vp_updL (vp_updL (fun _ => 0) 2 (lI 10)) 3 (lI 20)) 4 (lI 13)) (fun _ => 0) 0 (fun _ => 0) 0 0 (fun _ => 0) 0 (fun _ => 0) 0 (fun _ => 0) (fun _ => 0) 0 0 0 (fun _ => 0) false yy0 6 (by first | assumption | omega) (by rw [updL_n (by omega), updL_n (by omega), updL_n (by omega)]; exact lI_0.symm) (by
                              intro k q
                              rcases (show k = 0 ∨ k = 1 ∨ k = 2 by omega) with rfl | rfl | rfl
                              · exact ⟨by rw [updL_n (by omega), updL_n (by omega), updL_s]; rfl, by decide, by decide⟩
                              · exact ⟨by rw [updL_n (by omega), updL_s]; rfl, by decide, by decide⟩
                              · exact ⟨by rw [updL_s]; rfl, by decide, by decide⟩)) gX7_init_X7_laysFirst rfl (by decide +kernel) ⟨by decide, by decide⟩ (ci := 7) rfl 0 rfl [0, 1, 2, 3, 4, 5, 6, 7, 8] [] (by decide) rfl rfl (by decide) (by decide) rfl rfl (by simp [Value.category]) ⟨by decide, by decide⟩ dX7_init_101 (fun v w1 H locs hp hw => ?_)
  obtain ⟨sa2_10, rfl, rfl, hmo2_11⟩ := hp
  have hw := hw.sub (ws' := wMod G (pL [a, q_1, q_2, q_3, q_4, q_5, q_6, q_7, q_8]) sa2_10 (fun _ => 0) 0 (fun _ => 0) 0 0 (fun _ => 0) 0 (fun _ => 0) 0 (fun _ => 0) (fun _ => 0) 0 0 0 (fun _ => 0)) [0, 1, 2, 3, 4, 5, 6, 7, 8] (by decide) rfl
  refine W.eq (g2 := F0 m 104 ls []) rfl ?_
  exact k_vret hm hQ rfl hw (⟨(pL [a, q_1, q_2, q_3, q_4, q_5, q_6, q_7, q_8]), _, rfl, rfl, rfl, hmo2_11⟩) (by omega) (by omega) dX7_init_104
