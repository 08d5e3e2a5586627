/-! at the start -/
theorem z_be : (-1 : Int) ≤ 0 ∧ (0 : Int) < 32 := by decide
theorem z_r : (0 : Int) ≤ 0 ∧ (0 : Int) < 32 := by decide
theorem z_st : (-1 : Int) ≤ 0 ∧ (0 : Int) < 8 := by decide
theorem z_9 : (0 : Int) ≤ 0 ∧ (0 : Int) ≤ 1000000000 := by decide
theorem z_c : ((0 : Int) ≤ 0 ∧ (0 : Int) ≤ 1000000000) ∧ (0 : Int) ≤ 0 ∧ (0 : Int) ≤ 0 := by decide
theorem z_p : ¬ (0 : Int) < 0 := by decide
theorem iRv_0 : iRv (fun _ => 0) (fun _ => 0) (fun _ => 0) (-1) :=
  ⟨fun _ _ => Or.inl rfl, fun _ _ => z_be, fun _ _ => z_9, fun _ _ _ => rfl, fun _ _ h => absurd rfl h, fun _ _ h => absurd rfl h, by decide, fun _ _ _ h => absurd rfl h.1, fun h => absurd rfl h⟩
theorem iRs_0 : iRs (fun _ => 0) (fun _ => 0) (fun _ => 0) (fun _ => 0) (fun _ => 0) :=
  ⟨fun _ _ => Or.inl rfl, fun _ _ h => absurd rfl h, fun _ _ => z_c, fun _ _ _ => rfl, fun _ => z_r, fun _ _ => rfl⟩
theorem iRg_0 : iRg (fun _ => 0) (fun _ => 0) (fun _ => 0) (fun _ => 0) (fun _ => 0) (fun _ => 0) (fun _ => 0) (fun _ => 0) (fun _ => 0) (fun _ => 0) (fun _ => 0) 0 (fun _ => 0) (fun _ => 0) (fun _ => 0) :=
  ⟨fun _ _ => Or.inl rfl, ⟨by decide, fun j h => absurd h (by omega), fun j k _ h => absurd h (by omega), fun _ _ h => absurd rfl h⟩, (sumTo_zero (fun _ _ => rfl)).symm, fun _ _ h => absurd rfl h, fun _ _ => inI_0, fun _ _ => z_st, fun _ _ => z_9, fun _ _ => z_9, fun _ _ => z_9, fun _ _ h => absurd rfl h⟩
theorem iRl_0 : iRl (fun _ => 0) (fun _ => 0) (fun _ => 0) (fun _ => 0) (fun _ => 0) 0 (fun _ => 0) 0 := by
  refine ⟨fun _ _ => Int.le_refl 0, fun _ _ _ _ h => absurd h z_p, fun r _ => ?_, (sumTo_zero (fun _ _ => rfl)).symm, by decide⟩
  unfold sntM
  rw [sumTo_zero (fun s _ => sumTo_zero (fun t _ => ?_))]
  unfold floE
  exact if_neg (fun h => absurd h.1 z_p)
theorem Inv_0 : Inv (((fun _ => 0), (fun _ => 0), (fun _ => 0), (fun _ => 0), (-1), (fun _ => 0), (fun _ => 0), (fun _ => 0), (fun _ => 0), 0, (fun _ => 0), (fun _ => 0), (fun _ => 0), (fun _ => 0), (fun _ => 0), (fun _ => 0), (fun _ => 0), (fun _ => 0), (fun _ => 0), 0, (fun _ => 0), 0, (fun _ => 0), (fun _ => 0), (fun _ => 0), (fun _ => 0), (fun _ => 0), (fun _ => 0), 1), (0, (fun _ => 0), (fun _ => 0), (fun _ => 0), (fun _ => 0), (fun _ => 0), (fun _ => 0), (fun _ => 0), 0)) 0 := ⟨iRv_0, iRs_0, iRg_0, iRl_0, iPl.new, fun _ _ h => absurd rfl h, by decide⟩
theorem st_read {C n d : String} {c i a : Nat} {k : Class} {f : Field} {cell : Cell} {V : State} {A : Array Value} (hi : V.fieldFound? C n d = some (c, k, i, f)) (hst : f.isStatic = true) (ha : k.statics = some a) (hcell : V.heap[a]? = some cell) (hs : cell.vm.isStatics = true) : (Term.static C n d).eval A V none [] V = cell.slots[f.slot]? := by
  simp [Term.eval, State.fieldNamed?, hi, hst, ha, hcell, hs]
/-- a static field that is laid and holds a reference: so it is in every warmer state with the same cell -/
theorem st_keep {C n d : String} {s : State} {args : Array Value} (hl : (Cond.laysStatic C n d).before args s = true) (hr : (Cond.isRef (.static C n d)).before args s = true) : ∃ (c : ClassId) (k : Class) (i : Nat) (f : Field) (a : Addr) (cell : Cell), s.vm.findClass C = some c ∧ s.fieldFound? C n d = some (c, k, i, f) ∧ k.statics = some a ∧ s.heap[a]? = some cell ∧ cell.vm.isStatics = true ∧ ∀ (A : Array Value) (V : State), s.WarmedH V.vm → V.heap[a]? = some cell → (Cond.laysStatic C n d).before A V = true ∧ (Cond.isRef (.static C n d)).before A V = true := by
  obtain ⟨c, k, i, f, a, cell, hc, hi, hst, ha, hcell, hs, hcls, hlt, hty⟩ := Cond.laysStatic_spec hl
  refine ⟨c, k, i, f, a, cell, hc, hi, ha, hcell, hs, fun A V hW hV => ?_⟩
  obtain ⟨k', hi', hek⟩ := State.fieldFound?_setVm (s := s) hW.alike hi
  have hi2 : V.fieldFound? C n d = some (c, k', i, f) := hi'
  have ha2 : k'.statics = some a := by rw [hek]; exact ha
  refine ⟨Cond.laysStatic_of (s := V) (by rw [hW.alike.findClass]; exact hc) hi2 hst ha2 hV hs hcls hlt (by rw [hek]; exact hty), ?_⟩
  have e1 := st_read (A := args) hi hst ha hcell hs
  have e2 := st_read (A := A) hi2 hst ha2 hV hs
  simp only [Cond.before, Cond.holds, Cond.value] at hr ⊢
  rw [e2, ← e1]
  exact hr
theorem xS_of {s : State} {args : Array Value} (h : ∀ w ∈ xw, w.before args s = true) : xS s := by
  obtain ⟨c, k, i, f, a, cell, h1, h2, h3, h4, h5, h6⟩ := st_keep (h (.laysStatic Bundle.tN "UNASSIGNED_STACK" Bundle.steD) (by simp [xw])) (h (.isRef (.static Bundle.tN "UNASSIGNED_STACK" Bundle.steD)) (by simp [xw]))
  obtain ⟨c', k', i', f', a', cell', g1, g2, g3, g4, g5, g6⟩ := st_keep (h (.laysStatic Bundle.tN "SUPPRESSED_SENTINEL" Bundle.listD) (by simp [xw])) (h (.isRef (.static Bundle.tN "SUPPRESSED_SENTINEL" Bundle.listD)) (by simp [xw]))
  have e1 : c' = c := Option.some.inj (g1.symm.trans h1)
  subst e1
  have kk : k' = k := Option.some.inj ((State.fieldFound?_spec g2).1.symm.trans (State.fieldFound?_spec h2).1)
  subst kk
  have e2 : a' = a := Option.some.inj (g3.symm.trans h3)
  subst e2
  have e3 : cell' = cell := Option.some.inj (g4.symm.trans h4)
  subst e3
  refine ⟨a', cell', g4, g5, fun A V hW hV w hw => ?_⟩
  obtain ⟨q1, q2⟩ := h6 A V hW hV
  obtain ⟨q3, q4⟩ := g6 A V hW hV
  simp only [xw, List.mem_cons, List.not_mem_nil, or_false] at hw
  rcases hw with rfl | rfl | rfl | rfl | rfl | rfl | rfl
  · exact q1
  · exact q3
  · exact q2
  · exact q4
  · exact va_tabs rfl (rfl : (s.setVm V.vm).vm = V.vm) (by rw [Cond.declares_setVm hW.alike]; exact h _ (by simp [xw]))
  · exact va_tabs rfl (rfl : (s.setVm V.vm).vm = V.vm) (by rw [Cond.declares_setVm hW.alike]; exact h _ (by simp [xw]))
  · exact va_tabs rfl (rfl : (s.setVm V.vm).vm = V.vm) (by rw [Cond.declares_setVm hW.alike]; exact h _ (by simp [xw]))
theorem rK_ex {s : State} {args : Array Value} (h : ∀ w ∈ gW, w.before args s = true) : ∃ E : rE, rK E s := by
  obtain ⟨c0, i0, k0⟩ := u_known (C := RX0) (T := TX0) (N := 2) (n := 2) h inX0 (h _ w_163)
  obtain ⟨c1, i1, k1⟩ := u_known (C := RX1) (T := TX1) (N := 3) (n := 3) h inX1 (h _ w_177)
  obtain ⟨c2, i2, k2⟩ := u_known (C := RX2) (T := TX2) (N := 5) (n := 5) h inX2 (h _ w_78)
  obtain ⟨c3, i3, k3⟩ := u_known (C := RX3) (T := TX3) (N := 10) (n := 10) h inX3 (h _ w_107)
  obtain ⟨c4, i4, k4⟩ := u_known (C := RX4) (T := TX4) (N := 5) (n := 5) h inX4 (h _ w_46)
  obtain ⟨c5, i5, k5⟩ := u_known (C := RX5) (T := TX5) (N := 7) (n := 7) h inX5 (h _ w_38)
  obtain ⟨c6, i6, k6⟩ := u_known (C := RX6) (T := TX6) (N := 23) (n := 23) h inX6 (h _ w_618)
  obtain ⟨aI, kI, pI, a1, a2, a3⟩ := Cond.arrayClass_spec (h _ w_75)
  obtain ⟨aZ, kZ, pZ, b1, b2, b3⟩ := Cond.arrayClass_spec (h _ w_74)
  obtain ⟨aJ, kJ, pJ, d1, d2, d3⟩ := Cond.arrayClass_spec (h _ w_76)
  refine ⟨((fun k => ([c0, c1, c2, c3, c4, c5, c6] : List ClassId).getD k 0, fun k => ([i0, i1, i2, i3, i4, i5, i6] : List (Nat → Nat)).getD k (fun _ => 0)), aI, aZ, aJ), ?_, ?_⟩
  · intro k q hq
    match k, hq with
    | 0, hq => cases hq; exact k0
    | 1, hq => cases hq; exact k1
    | 2, hq => cases hq; exact k2
    | 3, hq => cases hq; exact k3
    | 4, hq => cases hq; exact k4
    | 5, hq => cases hq; exact k5
    | 6, hq => cases hq; exact k6
    | k + 7, hq => simp at hq
  · intro k q hq
    match k, hq with
    | 0, hq => cases hq; exact ⟨fun n z => ⟨fun k h => (by cases h), kI, a2, pI, a3⟩, a1⟩
    | 1, hq => cases hq; exact ⟨fun n z => ⟨fun k h => (by cases h), kZ, b2, pZ, b3⟩, b1⟩
    | 2, hq => cases hq; exact ⟨fun n z => ⟨fun k h => (by cases h), kJ, d2, pJ, d3⟩, d1⟩
    | k + 3, hq => simp at hq
section RS1
variable {p : Program} {l : Launch} {e : Env} {R : Room} {s : State} {m : MethodId} {args : Array Value} {below : List Frame} {meth : Method} {c : Code}
variable {E : rE} {A : Nat → Prop} {nL cells slots : Nat} {Q : State → Prop} {ws : va_W} {pc : Nat} {lv : List (Nat × Value)} {st : List Value} {cc : ByteArray} {Ts : List Cond} {own : String}
variable {S : Type} {cin wr : va_W} {cout w' : S → va_W} {r : Option Value} {y : MethodName} {bytes : ByteArray} {maxL index n : Nat} {wsy : List Cond} {rm : Room} {As rest : List Value} {b : Nat}
theorem rg_callIZ {Z : State → Prop} (hZ : zOk Z) (hz : Z s) (C : rC p s m args c E A nL cc Ts own) (M : rMZ Z l y wsy rm E cin (.ref b :: As) r cout) (cw : CallB R s args own index y bytes maxL none wsy rm rm.cells rm.slots n ∧ y.name = "<init>" ∧ (Cond.instanceMethod y).before args s = true)
    (isC isR ps : List Nat) (hC : isC.map (fun i => ws[i]?) = cin.map some) (hR : isR.map (fun i => ws[i]?) = wr.map some) (hnC : va_nd isC = true) (hnR : va_nd isR = true) (hdis : ∀ i ∈ isR, i ∉ isC)
    (hps : ∀ u, ps.map (fun i => (wr ++ cout u)[i]?) = (w' u).map some) (hnp : va_nd ps = true)
    (hn : As.length = n) (hst : st = As.reverse ++ .ref b :: rest) (hroom : (rest.map fun v => v.category).sum ≤ 8)
    (hd : decode cc pc = .ok (.invokespecial index, 3)) (hf : cells + rm.cells ≤ R.cells ∧ slots + rm.slots ≤ R.slots)
    (kk : ∀ u, rG p l e R s m args below meth c E A nL (cells + rm.cells) (slots + rm.slots) Q (w' u) (pc + 3) lv (r.toList ++ rest)) : rG p l e R s m args below meth c E A nL cells slots Q ws pc lv st := by
  intro H locs la hP hD hS hl
  subst hst
  have hPc := hP.sub isC (sel_map hC)
  have hDc := hD.sub isC hnC hC
  exact rg_after C hP hD hS hl (va_runI (As := As) (rest := rest) C.1 (M H.size) cw ⟨rPZ_blind hZ E cin H.size _, fun U hU hW => ⟨rfl, ⟨by rw [hU], va_K.moved hW.alike C.2.1, by rw [hU]; exact hPc, hDc.weaken (fun _ _ _ _ => trivial)⟩, hZ.2 s U hW hz⟩⟩ rfl hn hl.1 rfl (lv_room hroom) hd hf) isC isR ps hC hR hnR hdis hps hnp kk
theorem rcwI (C : rC p s m args c E A nL cc Ts own) (h1 : Cond.instanceMethod y ∈ gW) (h2 : Cond.initialized y.cls ∈ gW) (h3 : Cond.code y bytes maxL none ∈ gW) (hl : Cond.methodLink own index y ∈ gW) (hd : y.cls ≠ "java/lang/invoke/MethodHandle" ∧ y.cls ≠ "java/lang/invoke/VarHandle" ∧ (parseMethodDescriptor y.desc).map (fun d => d.parameters.length) = some n) (hi : y.name = "<init>") (hR : rm.frames + 1 ≤ R.frames ∧ 8 + (maxL + 11) + rm.locals ≤ R.locals) :
    CallB R s args own index y bytes maxL none (Cond.code y bytes maxL none :: gW) rm rm.cells rm.slots n ∧ y.name = "<init>" ∧ (Cond.instanceMethod y).before args s = true := by
  refine cwI n C.1.2.2.2.2 (gAll C.2.2.2 fun w h => ?_) rfl rfl rfl (C.1.2.2.2.2 _ (C.2.2.2 _ h2)) (C.1.2.2.2.2 _ (C.2.2.2 _ hl)) (C.1.2.2.2.2 _ (C.2.2.2 _ h1)) hi hd hR
  rcases List.mem_cons.mp h with rfl | h
  · exact h3
  · exact h
end RS1
set_option maxHeartbeats 4000000 in
set_option maxRecDepth 100000 in
theorem law_start {p : Program} {l : Launch} {e : Env} {s : State} {m : MethodId} {below : List Frame} {meth : Method} {c : Code} {E : rE} {A : Nat → Prop} {Q : State → Prop} {Ts : List Cond} {b L : Nat} {sc : Nat → Int} (hl0 : noTr l) (C : rC p s m #[Value.ref b] c E A 8 code Ts RL) (hz : xW s) (hnw : nwZ s) (hA : A = va_A [] s.heap.size) (hX : scr s A b L sc) (hr : meth.sig.returnType = ret) (hlk : meth.locks = false) (hQ : Q = lw_Z below #[Value.ref b] s) : rG p l e room_1 s m #[Value.ref b] below meth c E A 8 0 0 Q [] 0 [(0, .ref b)] [] := by
  refine rg_new (ci := 5) (fs := [.null, .null, .null, .null, .null, .null, .int (iI 0)]) C inX5 layX5 w_37 w_38 w_20 rfl (fun j hj => by rcases (show j = 0 ∨ j = 1 ∨ j = 2 ∨ j = 3 ∨ j = 4 ∨ j = 5 ∨ j = 6 by omega) with rfl | rfl | rfl | rfl | rfl | rfl | rfl <;> rfl) (Nat.le_of_ble_eq_true rfl) (Nat.le_of_ble_eq_true rfl) dL_law_0 (fun q0 => ?_)
  refine rg_dup C dL_law_3 rfl ?_
  refine rg_callIZ (Z := nwZ) nwZ_ok hnw (As := []) (rest := [.ref q0]) (wr := []) (w' := fun u => dk E (fun k => ([q0, u.1, u.2.1, u.2.2.1, u.2.2.2.1, u.2.2.2.2.1, u.2.2.2.2.2.1, u.2.2.2.2.2.2.1, u.2.2.2.2.2.2.2.1, u.2.2.2.2.2.2.2.2.1, u.2.2.2.2.2.2.2.2.2.1, u.2.2.2.2.2.2.2.2.2.2.1, u.2.2.2.2.2.2.2.2.2.2.2.1, u.2.2.2.2.2.2.2.2.2.2.2.2.1, u.2.2.2.2.2.2.2.2.2.2.2.2.2.1, u.2.2.2.2.2.2.2.2.2.2.2.2.2.2.1, u.2.2.2.2.2.2.2.2.2.2.2.2.2.2.2.1, u.2.2.2.2.2.2.2.2.2.2.2.2.2.2.2.2.1, u.2.2.2.2.2.2.2.2.2.2.2.2.2.2.2.2.2.1, u.2.2.2.2.2.2.2.2.2.2.2.2.2.2.2.2.2.2.1, u.2.2.2.2.2.2.2.2.2.2.2.2.2.2.2.2.2.2.2.1, u.2.2.2.2.2.2.2.2.2.2.2.2.2.2.2.2.2.2.2.2.1, u.2.2.2.2.2.2.2.2.2.2.2.2.2.2.2.2.2.2.2.2.2.1, u.2.2.2.2.2.2.2.2.2.2.2.2.2.2.2.2.2.2.2.2.2.2.1, u.2.2.2.2.2.2.2.2.2.2.2.2.2.2.2.2.2.2.2.2.2.2.2.1, u.2.2.2.2.2.2.2.2.2.2.2.2.2.2.2.2.2.2.2.2.2.2.2.2.1, u.2.2.2.2.2.2.2.2.2.2.2.2.2.2.2.2.2.2.2.2.2.2.2.2.2.1, u.2.2.2.2.2.2.2.2.2.2.2.2.2.2.2.2.2.2.2.2.2.2.2.2.2.2.1, u.2.2.2.2.2.2.2.2.2.2.2.2.2.2.2.2.2.2.2.2.2.2.2.2.2.2.2.1, u.2.2.2.2.2.2.2.2.2.2.2.2.2.2.2.2.2.2.2.2.2.2.2.2.2.2.2.2.1, u.2.2.2.2.2.2.2.2.2.2.2.2.2.2.2.2.2.2.2.2.2.2.2.2.2.2.2.2.2] : List Nat).getD k 0) ((fun _ => 0), (fun _ => 0), (fun _ => 0), (fun _ => 0), (-1), (fun _ => 0), (fun _ => 0), (fun _ => 0), (fun _ => 0), 0, (fun _ => 0), (fun _ => 0), (fun _ => 0), (fun _ => 0), (fun _ => 0), (fun _ => 0), (fun _ => 0), (fun _ => 0), (fun _ => 0), 0, (fun _ => 0), 0, (fun _ => 0), (fun _ => 0), (fun _ => 0), (fun _ => 0), (fun _ => 0), (fun _ => 0), 1)) C (kX5_init l E q0) (rcwI C w_40 w_20 w_41 w_39 (by decide +kernel) rfl ⟨Nat.le_of_ble_eq_true rfl, Nat.le_of_ble_eq_true rfl⟩) [0] [] [0, 1, 2, 3, 4, 5, 6, 7, 8, 9, 10, 11, 12, 13, 14, 15, 16, 17, 18, 19, 20, 21, 22, 23, 24, 25, 26, 27, 28, 29, 30] rfl rfl (by decide) (by decide) (by decide) (fun _ => rfl) (by decide) rfl rfl (Nat.le_of_ble_eq_true rfl) dL_law_4 ⟨Nat.le_of_ble_eq_true rfl, Nat.le_of_ble_eq_true rfl⟩ (fun u => ?_)
  refine rg_astore_n (lv' := [(1, .ref q0), (0, .ref b)]) C dL_law_7 rfl (by decide) rfl ?_
  refine rg_new (ci := 6) (fs := [.int (iI 0), .null, .null, .null, .null, .null, .null, .null, .null, .null, .null, .null, .null, .null, .null, .null, .null, .int (iI 0), .null, .null, .null, .null, .int (iI 0)]) C inX6 layX6 w_617 w_618 w_26 rfl (fun j hj => by rcases (show j = 0 ∨ j = 1 ∨ j = 2 ∨ j = 3 ∨ j = 4 ∨ j = 5 ∨ j = 6 ∨ j = 7 ∨ j = 8 ∨ j = 9 ∨ j = 10 ∨ j = 11 ∨ j = 12 ∨ j = 13 ∨ j = 14 ∨ j = 15 ∨ j = 16 ∨ j = 17 ∨ j = 18 ∨ j = 19 ∨ j = 20 ∨ j = 21 ∨ j = 22 by omega) with rfl | rfl | rfl | rfl | rfl | rfl | rfl | rfl | rfl | rfl | rfl | rfl | rfl | rfl | rfl | rfl | rfl | rfl | rfl | rfl | rfl | rfl | rfl <;> rfl) (Nat.le_of_ble_eq_true rfl) (Nat.le_of_ble_eq_true rfl) dL_law_8 (fun q1 => ?_)
  refine rg_dup C dL_law_11 rfl ?_
  refine rg_callI (As := []) (rest := [.ref q1]) (wr := dk E (fun k => ([q0, u.1, u.2.1, u.2.2.1, u.2.2.2.1, u.2.2.2.2.1, u.2.2.2.2.2.1, u.2.2.2.2.2.2.1, u.2.2.2.2.2.2.2.1, u.2.2.2.2.2.2.2.2.1, u.2.2.2.2.2.2.2.2.2.1, u.2.2.2.2.2.2.2.2.2.2.1, u.2.2.2.2.2.2.2.2.2.2.2.1, u.2.2.2.2.2.2.2.2.2.2.2.2.1, u.2.2.2.2.2.2.2.2.2.2.2.2.2.1, u.2.2.2.2.2.2.2.2.2.2.2.2.2.2.1, u.2.2.2.2.2.2.2.2.2.2.2.2.2.2.2.1, u.2.2.2.2.2.2.2.2.2.2.2.2.2.2.2.2.1, u.2.2.2.2.2.2.2.2.2.2.2.2.2.2.2.2.2.1, u.2.2.2.2.2.2.2.2.2.2.2.2.2.2.2.2.2.2.1, u.2.2.2.2.2.2.2.2.2.2.2.2.2.2.2.2.2.2.2.1, u.2.2.2.2.2.2.2.2.2.2.2.2.2.2.2.2.2.2.2.2.1, u.2.2.2.2.2.2.2.2.2.2.2.2.2.2.2.2.2.2.2.2.2.1, u.2.2.2.2.2.2.2.2.2.2.2.2.2.2.2.2.2.2.2.2.2.2.1, u.2.2.2.2.2.2.2.2.2.2.2.2.2.2.2.2.2.2.2.2.2.2.2.1, u.2.2.2.2.2.2.2.2.2.2.2.2.2.2.2.2.2.2.2.2.2.2.2.2.1, u.2.2.2.2.2.2.2.2.2.2.2.2.2.2.2.2.2.2.2.2.2.2.2.2.2.1, u.2.2.2.2.2.2.2.2.2.2.2.2.2.2.2.2.2.2.2.2.2.2.2.2.2.2.1, u.2.2.2.2.2.2.2.2.2.2.2.2.2.2.2.2.2.2.2.2.2.2.2.2.2.2.2.1, u.2.2.2.2.2.2.2.2.2.2.2.2.2.2.2.2.2.2.2.2.2.2.2.2.2.2.2.2.1, u.2.2.2.2.2.2.2.2.2.2.2.2.2.2.2.2.2.2.2.2.2.2.2.2.2.2.2.2.2] : List Nat).getD k 0) ((fun _ => 0), (fun _ => 0), (fun _ => 0), (fun _ => 0), (-1), (fun _ => 0), (fun _ => 0), (fun _ => 0), (fun _ => 0), 0, (fun _ => 0), (fun _ => 0), (fun _ => 0), (fun _ => 0), (fun _ => 0), (fun _ => 0), (fun _ => 0), (fun _ => 0), (fun _ => 0), 0, (fun _ => 0), 0, (fun _ => 0), (fun _ => 0), (fun _ => 0), (fun _ => 0), (fun _ => 0), (fun _ => 0), 1)) (w' := fun v => dk E (fun k => ([q0, u.1, u.2.1, u.2.2.1, u.2.2.2.1, u.2.2.2.2.1, u.2.2.2.2.2.1, u.2.2.2.2.2.2.1, u.2.2.2.2.2.2.2.1, u.2.2.2.2.2.2.2.2.1, u.2.2.2.2.2.2.2.2.2.1, u.2.2.2.2.2.2.2.2.2.2.1, u.2.2.2.2.2.2.2.2.2.2.2.1, u.2.2.2.2.2.2.2.2.2.2.2.2.1, u.2.2.2.2.2.2.2.2.2.2.2.2.2.1, u.2.2.2.2.2.2.2.2.2.2.2.2.2.2.1, u.2.2.2.2.2.2.2.2.2.2.2.2.2.2.2.1, u.2.2.2.2.2.2.2.2.2.2.2.2.2.2.2.2.1, u.2.2.2.2.2.2.2.2.2.2.2.2.2.2.2.2.2.1, u.2.2.2.2.2.2.2.2.2.2.2.2.2.2.2.2.2.2.1, u.2.2.2.2.2.2.2.2.2.2.2.2.2.2.2.2.2.2.2.1, u.2.2.2.2.2.2.2.2.2.2.2.2.2.2.2.2.2.2.2.2.1, u.2.2.2.2.2.2.2.2.2.2.2.2.2.2.2.2.2.2.2.2.2.1, u.2.2.2.2.2.2.2.2.2.2.2.2.2.2.2.2.2.2.2.2.2.2.1, u.2.2.2.2.2.2.2.2.2.2.2.2.2.2.2.2.2.2.2.2.2.2.2.1, u.2.2.2.2.2.2.2.2.2.2.2.2.2.2.2.2.2.2.2.2.2.2.2.2.1, u.2.2.2.2.2.2.2.2.2.2.2.2.2.2.2.2.2.2.2.2.2.2.2.2.2.1, u.2.2.2.2.2.2.2.2.2.2.2.2.2.2.2.2.2.2.2.2.2.2.2.2.2.2.1, u.2.2.2.2.2.2.2.2.2.2.2.2.2.2.2.2.2.2.2.2.2.2.2.2.2.2.2.1, u.2.2.2.2.2.2.2.2.2.2.2.2.2.2.2.2.2.2.2.2.2.2.2.2.2.2.2.2.1, u.2.2.2.2.2.2.2.2.2.2.2.2.2.2.2.2.2.2.2.2.2.2.2.2.2.2.2.2.2] : List Nat).getD k 0) ((fun _ => 0), (fun _ => 0), (fun _ => 0), (fun _ => 0), (-1), (fun _ => 0), (fun _ => 0), (fun _ => 0), (fun _ => 0), 0, (fun _ => 0), (fun _ => 0), (fun _ => 0), (fun _ => 0), (fun _ => 0), (fun _ => 0), (fun _ => 0), (fun _ => 0), (fun _ => 0), 0, (fun _ => 0), 0, (fun _ => 0), (fun _ => 0), (fun _ => 0), (fun _ => 0), (fun _ => 0), (fun _ => 0), 1) ++ md E (fun k => ([q1, v.1, v.2.1, v.2.2.1, v.2.2.2.1, v.2.2.2.2.1, v.2.2.2.2.2.1, v.2.2.2.2.2.2.1, v.2.2.2.2.2.2.2.1, v.2.2.2.2.2.2.2.2.1, v.2.2.2.2.2.2.2.2.2.1, v.2.2.2.2.2.2.2.2.2.2.1, v.2.2.2.2.2.2.2.2.2.2.2.1, v.2.2.2.2.2.2.2.2.2.2.2.2.1, v.2.2.2.2.2.2.2.2.2.2.2.2.2.1, v.2.2.2.2.2.2.2.2.2.2.2.2.2.2.1, v.2.2.2.2.2.2.2.2.2.2.2.2.2.2.2.1, v.2.2.2.2.2.2.2.2.2.2.2.2.2.2.2.2.1, v.2.2.2.2.2.2.2.2.2.2.2.2.2.2.2.2.2.1, v.2.2.2.2.2.2.2.2.2.2.2.2.2.2.2.2.2.2.1, v.2.2.2.2.2.2.2.2.2.2.2.2.2.2.2.2.2.2.2] : List Nat).getD k 0) (((fun _ => 0), (fun _ => 0), (fun _ => 0), (fun _ => 0), (-1), (fun _ => 0), (fun _ => 0), (fun _ => 0), (fun _ => 0), 0, (fun _ => 0), (fun _ => 0), (fun _ => 0), (fun _ => 0), (fun _ => 0), (fun _ => 0), (fun _ => 0), (fun _ => 0), (fun _ => 0), 0, (fun _ => 0), 0, (fun _ => 0), (fun _ => 0), (fun _ => 0), (fun _ => 0), (fun _ => 0), (fun _ => 0), 1), (0, (fun _ => 0), (fun _ => 0), (fun _ => 0), (fun _ => 0), (fun _ => 0), (fun _ => 0), (fun _ => 0), 0))) C (kX6_init l E q1) (rcwI C w_620 w_26 w_621 w_619 (by decide +kernel) rfl ⟨Nat.le_of_ble_eq_true rfl, Nat.le_of_ble_eq_true rfl⟩) [31] [0, 1, 2, 3, 4, 5, 6, 7, 8, 9, 10, 11, 12, 13, 14, 15, 16, 17, 18, 19, 20, 21, 22, 23, 24, 25, 26, 27, 28, 29, 30] [0, 1, 2, 3, 4, 5, 6, 7, 8, 9, 10, 11, 12, 13, 14, 15, 16, 17, 18, 19, 20, 21, 22, 23, 24, 25, 26, 27, 28, 29, 30, 31, 32, 33, 34, 35, 36, 37, 38, 39, 40, 41, 42, 43, 44, 45, 46, 47, 48, 49, 50, 51] rfl rfl (by decide) (by decide) (by decide) (fun _ => rfl) (by decide) rfl rfl (Nat.le_of_ble_eq_true rfl) dL_law_12 ⟨Nat.le_of_ble_eq_true rfl, Nat.le_of_ble_eq_true rfl⟩ (fun v => ?_)
  refine rg_astore_n (lv' := [(2, .ref q1), (1, .ref q0), (0, .ref b)]) C dL_law_15 rfl (by decide) rfl ?_
  refine rg_iconst C dL_law_16 ?_
  refine rg_newJ C 1 rfl (by decide) (Nat.le_of_ble_eq_true rfl) (Nat.le_of_ble_eq_true rfl) dL_law_17 (fun q2 => ?_)
  refine rg_astore_n (lv' := [(3, .ref q2), (2, .ref q1), (1, .ref q0), (0, .ref b)]) C dL_law_19 rfl (by decide) rfl ?_
  refine rg_iconst C dL_law_20 ?_
  refine rg_istore (lv' := [(4, .int (iI 0)), (3, .ref q2), (2, .ref q1), (1, .ref q0), (0, .ref b)]) C dL_law_21 (by decide) rfl ?_
  refine rG.plv (lv' := [(0, .ref b), (1, .ref q0), (2, .ref q1), (3, .ref q2), (4, .int (iI 0))]) [4, 3, 2, 1, 0] rfl ?_
  refine rG.pws (ws' := dk E (fun k => ([q0, u.1, u.2.1, u.2.2.1, u.2.2.2.1, u.2.2.2.2.1, u.2.2.2.2.2.1, u.2.2.2.2.2.2.1, u.2.2.2.2.2.2.2.1, u.2.2.2.2.2.2.2.2.1, u.2.2.2.2.2.2.2.2.2.1, u.2.2.2.2.2.2.2.2.2.2.1, u.2.2.2.2.2.2.2.2.2.2.2.1, u.2.2.2.2.2.2.2.2.2.2.2.2.1, u.2.2.2.2.2.2.2.2.2.2.2.2.2.1, u.2.2.2.2.2.2.2.2.2.2.2.2.2.2.1, u.2.2.2.2.2.2.2.2.2.2.2.2.2.2.2.1, u.2.2.2.2.2.2.2.2.2.2.2.2.2.2.2.2.1, u.2.2.2.2.2.2.2.2.2.2.2.2.2.2.2.2.2.1, u.2.2.2.2.2.2.2.2.2.2.2.2.2.2.2.2.2.2.1, u.2.2.2.2.2.2.2.2.2.2.2.2.2.2.2.2.2.2.2.1, u.2.2.2.2.2.2.2.2.2.2.2.2.2.2.2.2.2.2.2.2.1, u.2.2.2.2.2.2.2.2.2.2.2.2.2.2.2.2.2.2.2.2.2.1, u.2.2.2.2.2.2.2.2.2.2.2.2.2.2.2.2.2.2.2.2.2.2.1, u.2.2.2.2.2.2.2.2.2.2.2.2.2.2.2.2.2.2.2.2.2.2.2.1, u.2.2.2.2.2.2.2.2.2.2.2.2.2.2.2.2.2.2.2.2.2.2.2.2.1, u.2.2.2.2.2.2.2.2.2.2.2.2.2.2.2.2.2.2.2.2.2.2.2.2.2.1, u.2.2.2.2.2.2.2.2.2.2.2.2.2.2.2.2.2.2.2.2.2.2.2.2.2.2.1, u.2.2.2.2.2.2.2.2.2.2.2.2.2.2.2.2.2.2.2.2.2.2.2.2.2.2.2.1, u.2.2.2.2.2.2.2.2.2.2.2.2.2.2.2.2.2.2.2.2.2.2.2.2.2.2.2.2.1, u.2.2.2.2.2.2.2.2.2.2.2.2.2.2.2.2.2.2.2.2.2.2.2.2.2.2.2.2.2] : List Nat).getD k 0) ((fun _ => 0), (fun _ => 0), (fun _ => 0), (fun _ => 0), (-1), (fun _ => 0), (fun _ => 0), (fun _ => 0), (fun _ => 0), 0, (fun _ => 0), (fun _ => 0), (fun _ => 0), (fun _ => 0), (fun _ => 0), (fun _ => 0), (fun _ => 0), (fun _ => 0), (fun _ => 0), 0, (fun _ => 0), 0, (fun _ => 0), (fun _ => 0), (fun _ => 0), (fun _ => 0), (fun _ => 0), (fun _ => 0), 1) ++ (md E (fun k => ([q1, v.1, v.2.1, v.2.2.1, v.2.2.2.1, v.2.2.2.2.1, v.2.2.2.2.2.1, v.2.2.2.2.2.2.1, v.2.2.2.2.2.2.2.1, v.2.2.2.2.2.2.2.2.1, v.2.2.2.2.2.2.2.2.2.1, v.2.2.2.2.2.2.2.2.2.2.1, v.2.2.2.2.2.2.2.2.2.2.2.1, v.2.2.2.2.2.2.2.2.2.2.2.2.1, v.2.2.2.2.2.2.2.2.2.2.2.2.2.1, v.2.2.2.2.2.2.2.2.2.2.2.2.2.2.1, v.2.2.2.2.2.2.2.2.2.2.2.2.2.2.2.1, v.2.2.2.2.2.2.2.2.2.2.2.2.2.2.2.2.1, v.2.2.2.2.2.2.2.2.2.2.2.2.2.2.2.2.2.1, v.2.2.2.2.2.2.2.2.2.2.2.2.2.2.2.2.2.2.1, v.2.2.2.2.2.2.2.2.2.2.2.2.2.2.2.2.2.2.2] : List Nat).getD k 0) (((fun _ => 0), (fun _ => 0), (fun _ => 0), (fun _ => 0), (-1), (fun _ => 0), (fun _ => 0), (fun _ => 0), (fun _ => 0), 0, (fun _ => 0), (fun _ => 0), (fun _ => 0), (fun _ => 0), (fun _ => 0), (fun _ => 0), (fun _ => 0), (fun _ => 0), (fun _ => 0), 0, (fun _ => 0), 0, (fun _ => 0), (fun _ => 0), (fun _ => 0), (fun _ => 0), (fun _ => 0), (fun _ => 0), 1), (0, (fun _ => 0), (fun _ => 0), (fun _ => 0), (fun _ => 0), (fun _ => 0), (fun _ => 0), (fun _ => 0), 0)) ++ [cJ E q2 1 (fun _ => 0)])) (List.append_assoc _ _ _) ?_
  refine rG.wide (k := 53 + (0 : Int).toNat) (n := 2163 + 6 * (0 : Int).toNat) (Nat.le_of_ble_eq_true rfl) (Nat.le_of_ble_eq_true rfl) ?_
  exact law_loop hl0 C hz hA hX hr hlk hQ (fun k => ([q0, u.1, u.2.1, u.2.2.1, u.2.2.2.1, u.2.2.2.2.1, u.2.2.2.2.2.1, u.2.2.2.2.2.2.1, u.2.2.2.2.2.2.2.1, u.2.2.2.2.2.2.2.2.1, u.2.2.2.2.2.2.2.2.2.1, u.2.2.2.2.2.2.2.2.2.2.1, u.2.2.2.2.2.2.2.2.2.2.2.1, u.2.2.2.2.2.2.2.2.2.2.2.2.1, u.2.2.2.2.2.2.2.2.2.2.2.2.2.1, u.2.2.2.2.2.2.2.2.2.2.2.2.2.2.1, u.2.2.2.2.2.2.2.2.2.2.2.2.2.2.2.1, u.2.2.2.2.2.2.2.2.2.2.2.2.2.2.2.2.1, u.2.2.2.2.2.2.2.2.2.2.2.2.2.2.2.2.2.1, u.2.2.2.2.2.2.2.2.2.2.2.2.2.2.2.2.2.2.1, u.2.2.2.2.2.2.2.2.2.2.2.2.2.2.2.2.2.2.2.1, u.2.2.2.2.2.2.2.2.2.2.2.2.2.2.2.2.2.2.2.2.1, u.2.2.2.2.2.2.2.2.2.2.2.2.2.2.2.2.2.2.2.2.2.1, u.2.2.2.2.2.2.2.2.2.2.2.2.2.2.2.2.2.2.2.2.2.2.1, u.2.2.2.2.2.2.2.2.2.2.2.2.2.2.2.2.2.2.2.2.2.2.2.1, u.2.2.2.2.2.2.2.2.2.2.2.2.2.2.2.2.2.2.2.2.2.2.2.2.1, u.2.2.2.2.2.2.2.2.2.2.2.2.2.2.2.2.2.2.2.2.2.2.2.2.2.1, u.2.2.2.2.2.2.2.2.2.2.2.2.2.2.2.2.2.2.2.2.2.2.2.2.2.2.1, u.2.2.2.2.2.2.2.2.2.2.2.2.2.2.2.2.2.2.2.2.2.2.2.2.2.2.2.1, u.2.2.2.2.2.2.2.2.2.2.2.2.2.2.2.2.2.2.2.2.2.2.2.2.2.2.2.2.1, u.2.2.2.2.2.2.2.2.2.2.2.2.2.2.2.2.2.2.2.2.2.2.2.2.2.2.2.2.2] : List Nat).getD k 0) (fun k => ([q1, v.1, v.2.1, v.2.2.1, v.2.2.2.1, v.2.2.2.2.1, v.2.2.2.2.2.1, v.2.2.2.2.2.2.1, v.2.2.2.2.2.2.2.1, v.2.2.2.2.2.2.2.2.1, v.2.2.2.2.2.2.2.2.2.1, v.2.2.2.2.2.2.2.2.2.2.1, v.2.2.2.2.2.2.2.2.2.2.2.1, v.2.2.2.2.2.2.2.2.2.2.2.2.1, v.2.2.2.2.2.2.2.2.2.2.2.2.2.1, v.2.2.2.2.2.2.2.2.2.2.2.2.2.2.1, v.2.2.2.2.2.2.2.2.2.2.2.2.2.2.2.1, v.2.2.2.2.2.2.2.2.2.2.2.2.2.2.2.2.1, v.2.2.2.2.2.2.2.2.2.2.2.2.2.2.2.2.2.1, v.2.2.2.2.2.2.2.2.2.2.2.2.2.2.2.2.2.2.1, v.2.2.2.2.2.2.2.2.2.2.2.2.2.2.2.2.2.2.2] : List Nat).getD k 0) q2 (L + 1) (((fun _ => 0), (fun _ => 0), (fun _ => 0), (fun _ => 0), (-1), (fun _ => 0), (fun _ => 0), (fun _ => 0), (fun _ => 0), 0, (fun _ => 0), (fun _ => 0), (fun _ => 0), (fun _ => 0), (fun _ => 0), (fun _ => 0), (fun _ => 0), (fun _ => 0), (fun _ => 0), 0, (fun _ => 0), 0, (fun _ => 0), (fun _ => 0), (fun _ => 0), (fun _ => 0), (fun _ => 0), (fun _ => 0), 1), (0, (fun _ => 0), (fun _ => 0), (fun _ => 0), (fun _ => 0), (fun _ => 0), (fun _ => 0), (fun _ => 0), 0)) (fun _ => 0) 0 0 Inv_0 (by decide) rfl (by omega) (by omega)
