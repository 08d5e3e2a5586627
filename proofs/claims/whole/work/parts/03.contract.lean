/-! contracts: from the cells cin (and any others, which stay) the method returns r, the cells are cout u -/
def rP (E : rE) (cin : va_W) (sz : Nat) (U : State) : Prop := U.heap.size = sz ∧ rK E U ∧ va_P E.1 vwCl cin U.heap ∧ va_D (fun _ => True) cin
def rQ (E : rE) (cin : va_W) (sz : Nat) {S : Type} (r : Option Value) (cout : S → va_W) : Array Value → State → Outcome → State → Prop := fun _ st o t => (∃ u : S, o = .returned r ∧ rK E t ∧ va_P E.1 vwCl (cout u) t.heap ∧ va_D (va_A cin sz) (cout u)) ∧ va_F (va_A cin sz) st t
def rM (l : Launch) (y : MethodName) (ws : List Cond) (rm : Room) (E : rE) (cin : va_W) (av : List Value) {S : Type} (r : Option Value) (cout : S → va_W) : Prop := ∀ sz : Nat, Met l y ws rm (va_Pc av (rP E cin sz)) (rQ E cin sz r cout) rm.cells rm.slots (va_A cin sz)
theorem rP_blind (E : rE) (cin : va_W) (sz : Nat) (av : List Value) : FrameBlind (va_Pc av (rP E cin sz)) := fun a U g mk q => by
  obtain ⟨q0, q1, qK, qP, qD⟩ := q
  exact ⟨q0, q1, va_K.moved (u := U) (U := U.calling g mk a) (Vm.Alike.refl U.vm) qK, qP, qD⟩
theorem rM.of {l : Launch} {y : MethodName} {ws ws' : List Cond} {rm : Room} {E : rE} {cin : va_W} {av : List Value} {S : Type} {r : Option Value} {cout : S → va_W} {cc : ByteArray} {maxL : Nat} {ret : Option FieldType}
    (hy : plainName y.cls = true) (hw : ws = Cond.code y cc maxL ret :: ws') (hle : (lg_sl av).length ≤ maxL)
    (hg : ∀ w ∈ gW, w ∈ ws)
    (body : ∀ (p : Program) (e : Env) (s : State) (m : MethodId) (args : Array Value) (below : List Frame) (meth : Method) (c : Code) (A : Nat → Prop) (Q : State → Prop), A = va_A cin s.heap.size → Q = MQ below (rQ E cin s.heap.size r cout) args s rm.cells rm.slots A → rC p s m args c E A maxL cc ws y.cls → meth.sig.returnType = ret → meth.locks = false → meth.name = y.name →
      rG p l e rm s m args below meth c E A maxL 0 0 Q cin 0 (lv_args 0 av) []) : rM l y ws rm E cin av r cout := by
  intro sz
  refine Met.ofW (cc := cc) (maxL := maxL) (ret := ret) hy hw ?_
  intro p e s m args below meth c s₁ B hml hv
  obtain ⟨rfl, hsz, hK, hP, hD0⟩ := hv
  subst hsz
  have hb := body p e s m av.toArray below meth c (va_A cin s.heap.size) _ rfl rfl ⟨⟨B.exec, B.bytes, hml, findClass_of_methodNamed B.named, atoms_spec (ws := ws) B.pre⟩, hK, fun q h => Or.inr h, hg⟩ B.returns B.notSynchronized (name_of_methodNamed B.named B.method).1
  rw [lg_entry_eq]
  exact hb s.heap [] _ hP hD0.self va_S.rf (lv_entry av hle)
section RV2
variable {p : Program} {l : Launch} {e : Env} {R : Room} {s : State} {m : MethodId} {args : Array Value} {below : List Frame} {meth : Method} {c : Code} {E : rE} {A : Nat → Prop} {nL cells slots : Nat} {Q : State → Prop} {ws : va_W} {pc : Nat} {lv : List (Nat × Value)} {st : List Value} {cc : ByteArray} {Ts : List Cond} {own : String}
variable {S : Type} {cin wr : va_W} {cout w' : S → va_W} {r : Option Value}
theorem rg_iret (C : rC p s m args c E A nL cc Ts own) (hA : A = va_A cin s.heap.size) (hQ : Q = MQ below (rQ E cin s.heap.size r cout) args s cells slots A) (hr : meth.sig.returnType = some .int) (hlk : meth.locks = false) (u : S) (hw : ws = cout u) {v : Int32} (hv : r = some (.int v)) (hd : decode cc pc = .ok (.ireturn, 1)) : rG p l e R s m args below meth c E A nL cells slots Q ws pc lv [.int v] := by
  intro H locs la hP hD hS hl
  subst hQ hv hw hA
  exact W.iret C.1.1 C.1.2.1 hr (fun t ht hW => ⟨⟨u, rfl, va_K.moved hW.alike C.2.1, by rw [ht]; exact hP, hD⟩, hS.F ht⟩) hS.2.2 hd hlk
theorem rg_zret (C : rC p s m args c E A nL cc Ts own) (hA : A = va_A cin s.heap.size) (hQ : Q = MQ below (rQ E cin s.heap.size r cout) args s cells slots A) {ty : FieldType} (hr : meth.sig.returnType = some ty) (hlk : meth.locks = false) (u : S) (hw : ws = cout u) {v : Int32} (hn : narrow ty (.int v) = .int v) (hv : r = some (.int v)) (hd : decode cc pc = .ok (.ireturn, 1)) : rG p l e R s m args below meth c E A nL cells slots Q ws pc lv [.int v] := by
  intro H locs la hP hD hS hl
  subst hQ hv hw hA
  exact W.zret C.1.1 C.1.2.1 hr hn (fun t ht hW => ⟨⟨u, rfl, va_K.moved hW.alike C.2.1, by rw [ht]; exact hP, hD⟩, hS.F ht⟩) hS.2.2 hd hlk
theorem rg_lret (C : rC p s m args c E A nL cc Ts own) (hA : A = va_A cin s.heap.size) (hQ : Q = MQ below (rQ E cin s.heap.size r cout) args s cells slots A) (hr : meth.sig.returnType = some .long) (hlk : meth.locks = false) (u : S) (hw : ws = cout u) {v : Int64} (hv : r = some (.long v)) (hd : decode cc pc = .ok (.lreturn, 1)) : rG p l e R s m args below meth c E A nL cells slots Q ws pc lv [.long v] := by
  intro H locs la hP hD hS hl
  subst hQ hv hw hA
  exact W.lret C.1.1 C.1.2.1 hr (fun t ht hW => ⟨⟨u, rfl, va_K.moved hW.alike C.2.1, by rw [ht]; exact hP, hD⟩, hS.F ht⟩) hS.2.2 hd hlk
theorem rg_vret (C : rC p s m args c E A nL cc Ts own) (hA : A = va_A cin s.heap.size) (hQ : Q = MQ below (rQ E cin s.heap.size r cout) args s cells slots A) (hr : meth.sig.returnType = none) (hlk : meth.locks = false) (u : S) (hw : ws = cout u) (hv : r = none) (hd : decode cc pc = .ok (.return_, 1)) : rG p l e R s m args below meth c E A nL cells slots Q ws pc lv [] := by
  intro H locs la hP hD hS hl
  subst hQ hv hw hA
  exact W.vret C.1.1 C.1.2.1 hr (fun t ht hW => ⟨⟨u, rfl, va_K.moved hW.alike C.2.1, by rw [ht]; exact hP, hD⟩, hS.F ht⟩) hS.2.2 hd hlk
/-- behind a call: the callee's cells and the rest, in the order that ps says -/
theorem rg_after {H : Heap} {locs : List Loc} {la : Array Slot} {mc ms : Nat} {st0 rest : List Value} {av : Array Value} (C : rC p s m args c E A nL cc Ts own)
    (hP : va_P E.1 vwCl ws H) (hD : va_D A ws) (hS : va_S A s.heap H locs) (hl : lv_has la nL lv)
    (run : va_Run p l e R s m args below meth c H locs cells slots mc ms (F0 m pc la st0) rest (rQ E cin H.size r cout av) (va_A cin H.size))
    (isC isR ps : List Nat) (hC : isC.map (fun i => ws[i]?) = cin.map some) (hR : isR.map (fun i => ws[i]?) = wr.map some) (hnR : va_nd isR = true) (hdis : ∀ i ∈ isR, i ∉ isC)
    (hps : ∀ u, ps.map (fun i => (wr ++ cout u)[i]?) = (w' u).map some) (hnp : va_nd ps = true)
    (kk : ∀ u, rG p l e R s m args below meth c E A nL (cells + mc) (slots + ms) Q (w' u) (pc + 3) lv (r.toList ++ rest)) : W p l e R s m args below meth c H locs cells slots Q (F0 m pc la st0) := by
  have hFc := va_free (wc := cin) hD hS C.2.2.1 isC hC
  intro T hT X
  obtain ⟨v, st₀, t, T', L, h0, X', hL, e1, e2, ⟨⟨u, hv, hK1, hP1, hD1⟩, hz, hk⟩, stp⟩ := run T hT X
  cases hv
  rw [h0] at hz hk
  rw [← e1] at hz hk hP1
  obtain ⟨hPj, hDj⟩ := va_join (wr := wr) (w1 := cout u) hP hD isC isR hC hR hnR hdis hk hFc hP1 hD1
  have hS1 : va_S A s.heap T'.heap (locs ++ L) := ⟨Nat.le_trans hS.1 hz, fun q h1 h2 => by
      rw [hk q (Nat.lt_of_lt_of_le h1 hS.1) (fun z => h2 (hFc q z))]
      exact hS.2.1 q h1 h2, fun q hq => by
      rcases List.mem_append.mp hq with h | h
      · exact hS.2.2 q h
      · exact hFc _ (hL q h)⟩
  obtain ⟨t2, a1, b1⟩ := kk u T'.heap (locs ++ L) la (hPj.sub ps (sel_map (hps u))) (hDj.sub ps hnp (hps u)) hS1 hl T' rfl X'
  exact ⟨t2, stp t2 a1, b1⟩
variable {y : MethodName} {bytes : ByteArray} {maxL index n : Nat} {ret : Option FieldType} {wsy : List Cond} {rm : Room} {As rest : List Value} {b : Nat}
theorem rg_callV {Cn : String} {T : u_T} {N ci : Nat} {fs : List Value} (C : rC p s m args c E A nL cc Ts own) (M : rM l y wsy rm E cin (.ref b :: As) r cout) (cw : CallW R s args own Cn index y bytes maxL ret wsy rm rm.cells rm.slots n)
    (isC isR ps : List Nat) (hC : isC.map (fun i => ws[i]?) = cin.map some) (hR : isR.map (fun i => ws[i]?) = wr.map some) (hnC : va_nd isC = true) (hnR : va_nd isR = true) (hdis : ∀ i ∈ isR, i ∉ isC)
    (hps : ∀ u, ps.map (fun i => (wr ++ cout u)[i]?) = (w' u).map some) (hnp : va_nd ps = true)
    (q0 : Nat) (he : cin[q0]? = some (b, .inr (ci, fs))) (hc : vwCl[ci]? = some (Cn, T, N)) (hn : As.length = n) (hst : st = As.reverse ++ .ref b :: rest) (hroom : (rest.map fun v => v.category).sum ≤ 8)
    (hd : decode cc pc = .ok (.invokevirtual index, 3)) (hf : cells + rm.cells ≤ R.cells ∧ slots + rm.slots ≤ R.slots)
    (kk : ∀ u, rG p l e R s m args below meth c E A nL (cells + rm.cells) (slots + rm.slots) Q (w' u) (pc + 3) lv (r.toList ++ rest)) : rG p l e R s m args below meth c E A nL cells slots Q ws pc lv st := by
  intro H locs la hP hD hS hl
  subst hst
  have hPc := hP.sub isC (sel_map hC)
  have hDc := hD.sub isC hnC hC
  exact rg_after C hP hD hS hl (va_runV (As := As) (rest := rest) C.1 (M H.size) cw ⟨rP_blind E cin H.size _, va_recv C.2.1 hPc hc he, fun U hU hW => ⟨rfl, by rw [hU], va_K.moved hW.alike C.2.1, by rw [hU]; exact hPc, hDc.weaken (fun _ _ _ _ => trivial)⟩⟩ rfl hn hl.1 rfl (lv_room hroom) hd hf) isC isR ps hC hR hnR hdis hps hnp kk
theorem rg_callS (C : rC p s m args c E A nL cc Ts own) (M : rM l y wsy rm E cin As r cout) (cw : CallB R s args own index y bytes maxL ret wsy rm rm.cells rm.slots n ∧ (Cond.static y).before args s = true)
    (isC isR ps : List Nat) (hC : isC.map (fun i => ws[i]?) = cin.map some) (hR : isR.map (fun i => ws[i]?) = wr.map some) (hnC : va_nd isC = true) (hnR : va_nd isR = true) (hdis : ∀ i ∈ isR, i ∉ isC)
    (hps : ∀ u, ps.map (fun i => (wr ++ cout u)[i]?) = (w' u).map some) (hnp : va_nd ps = true)
    (hn : As.length = n) (hst : st = As.reverse ++ rest) (hroom : (rest.map fun v => v.category).sum ≤ 8)
    (hd : decode cc pc = .ok (.invokestatic index, 3)) (hf : cells + rm.cells ≤ R.cells ∧ slots + rm.slots ≤ R.slots)
    (kk : ∀ u, rG p l e R s m args below meth c E A nL (cells + rm.cells) (slots + rm.slots) Q (w' u) (pc + 3) lv (r.toList ++ rest)) : rG p l e R s m args below meth c E A nL cells slots Q ws pc lv st := by
  intro H locs la hP hD hS hl
  subst hst
  have hPc := hP.sub isC (sel_map hC)
  have hDc := hD.sub isC hnC hC
  exact rg_after C hP hD hS hl (va_runS (As := As) (rest := rest) C.1 (M H.size) cw ⟨rP_blind E cin H.size _, fun U hU hW => ⟨rfl, by rw [hU], va_K.moved hW.alike C.2.1, by rw [hU]; exact hPc, hDc.weaken (fun _ _ _ _ => trivial)⟩⟩ rfl hn hl.1 rfl (lv_room hroom) hd hf) isC isR ps hC hR hnR hdis hps hnp kk
theorem rg_callI (C : rC p s m args c E A nL cc Ts own) (M : rM l y wsy rm E cin (.ref b :: As) r cout) (cw : CallB R s args own index y bytes maxL none wsy rm rm.cells rm.slots n ∧ y.name = "<init>" ∧ (Cond.instanceMethod y).before args s = true)
    (isC isR ps : List Nat) (hC : isC.map (fun i => ws[i]?) = cin.map some) (hR : isR.map (fun i => ws[i]?) = wr.map some) (hnC : va_nd isC = true) (hnR : va_nd isR = true) (hdis : ∀ i ∈ isR, i ∉ isC)
    (hps : ∀ u, ps.map (fun i => (wr ++ cout u)[i]?) = (w' u).map some) (hnp : va_nd ps = true)
    (hn : As.length = n) (hst : st = As.reverse ++ .ref b :: rest) (hroom : (rest.map fun v => v.category).sum ≤ 8)
    (hd : decode cc pc = .ok (.invokespecial index, 3)) (hf : cells + rm.cells ≤ R.cells ∧ slots + rm.slots ≤ R.slots)
    (kk : ∀ u, rG p l e R s m args below meth c E A nL (cells + rm.cells) (slots + rm.slots) Q (w' u) (pc + 3) lv (r.toList ++ rest)) : rG p l e R s m args below meth c E A nL cells slots Q ws pc lv st := by
  intro H locs la hP hD hS hl
  subst hst
  have hPc := hP.sub isC (sel_map hC)
  have hDc := hD.sub isC hnC hC
  exact rg_after C hP hD hS hl (va_runI (As := As) (rest := rest) C.1 (M H.size) cw ⟨rP_blind E cin H.size _, fun U hU hW => ⟨rfl, by rw [hU], va_K.moved hW.alike C.2.1, by rw [hU]; exact hPc, hDc.weaken (fun _ _ _ _ => trivial)⟩⟩ rfl hn hl.1 rfl (lv_room hroom) hd hf) isC isR ps hC hR hnR hdis hps hnp kk
/-! the words of a call, out of the shared ones -/
theorem gAll {big ws : List Cond} (hb : ∀ w ∈ gW, w ∈ big) (hw : ∀ w ∈ ws, w ∈ gW) : GoodIn big ws := fun w h => ⟨hb w (hw w h), good_of_word (gW_good (hw w h))⟩
/-- what the tables say of a method that objects have, and of a static one -/
def rMV (y : MethodName) (Cn : String) (bytes : ByteArray) (maxL : Nat) (ret : Option FieldType) (n : Nat) : Prop := Cond.instanceMethod y ∈ gW ∧ Cond.selects Cn y y ∈ gW ∧ Cond.initialized Cn ∈ gW ∧ Cond.code y bytes maxL ret ∈ gW ∧ (y.cls = Cn ∧ y.cls ≠ "java/lang/invoke/MethodHandle" ∧ y.cls ≠ "java/lang/invoke/VarHandle" ∧ (parseMethodDescriptor y.desc).map (fun d => d.parameters.length) = some n)
def rMS (y : MethodName) (bytes : ByteArray) (maxL : Nat) (ret : Option FieldType) (n : Nat) : Prop := Cond.static y ∈ gW ∧ Cond.initialized y.cls ∈ gW ∧ Cond.code y bytes maxL ret ∈ gW ∧ (y.cls ≠ "java/lang/invoke/MethodHandle" ∧ y.cls ≠ "java/lang/invoke/VarHandle" ∧ (parseMethodDescriptor y.desc).map (fun d => d.parameters.length) = some n)
theorem rcwV {Cn : String} (C : rC p s m args c E A nL cc Ts own) (hM : rMV y Cn bytes maxL ret n) (hl : Cond.methodLink own index y ∈ gW) (hR : rm.frames + 1 ≤ R.frames ∧ 8 + (maxL + 11) + rm.locals ≤ R.locals) : CallW R s args own Cn index y bytes maxL ret (Cond.code y bytes maxL ret :: gW) rm rm.cells rm.slots n := by
  obtain ⟨h1, h2, h3, h4, h5⟩ := hM
  refine cwV n C.1.2.2.2.2 (gAll C.2.2.2 fun w h => ?_) rfl rfl rfl h5 hR
  simp only [wsV, List.mem_append, List.mem_cons, List.not_mem_nil, or_false] at h
  rcases h with (rfl | rfl | rfl | rfl) | rfl | h
  · exact hl
  · exact h1
  · exact h2
  · exact h3
  · exact h4
  · exact h
theorem rcwS (C : rC p s m args c E A nL cc Ts own) (hM : rMS y bytes maxL ret n) (hl : Cond.methodLink own index y ∈ gW) (hR : rm.frames + 1 ≤ R.frames ∧ 8 + (maxL + 11) + rm.locals ≤ R.locals) : CallB R s args own index y bytes maxL ret (Cond.code y bytes maxL ret :: gW) rm rm.cells rm.slots n ∧ (Cond.static y).before args s = true := by
  obtain ⟨h1, h2, h3, h4⟩ := hM
  refine va_cwS n C.1.2.2.2.2 (gAll C.2.2.2 fun w h => ?_) rfl rfl rfl h4 hR
  simp only [va_wsS, List.mem_append, List.mem_cons, List.not_mem_nil, or_false] at h
  rcases h with (rfl | rfl | rfl) | rfl | h
  · exact hl
  · exact h1
  · exact h2
  · exact h3
  · exact h
end RV2
