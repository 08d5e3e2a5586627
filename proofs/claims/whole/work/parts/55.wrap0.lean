/-! the law's own methods: they call the desk, and give a number for what it throws -/
/-- what they need of the state: what a call that may throw needs, and that the exceptions are no others -/
def xW (U : State) : Prop := xZ U ∧ va_Nc xNo xIo U ∧ va_Nc xAr xIo U ∧ va_Nc xAr xNo U ∧ va_Nc xIl xIo U ∧ va_Nc xIl xNo U ∧ va_Nc xIl xAr U
theorem xW.go {s U : State} {E : rE} {cin : va_W} {A : Nat → Prop} {H : Heap} {locs : List Loc} (h : xW s) (hP0 : va_P E.1 vwCl cin s.heap) (hA : A = va_A cin s.heap.size) (hS : va_S A s.heap H locs) (hU : U.heap = H) (hW : s.WarmedH U.vm) : xW U :=
  ⟨h.1.go hP0 hA hS hU hW, h.2.1.moved hW.alike, h.2.2.1.moved hW.alike, h.2.2.2.1.moved hW.alike, h.2.2.2.2.1.moved hW.alike, h.2.2.2.2.2.1.moved hW.alike, h.2.2.2.2.2.2.moved hW.alike⟩
theorem xW.calling {U : State} (h : xW U) (g : JFrame) (mk : MethodId) (a : Array Value) : xW (U.calling g mk a) :=
  ⟨h.1.calling g mk a, h.2.1.moved (Vm.Alike.refl U.vm), h.2.2.1.moved (Vm.Alike.refl U.vm), h.2.2.2.1.moved (Vm.Alike.refl U.vm), h.2.2.2.2.1.moved (Vm.Alike.refl U.vm), h.2.2.2.2.2.1.moved (Vm.Alike.refl U.vm), h.2.2.2.2.2.2.moved (Vm.Alike.refl U.vm)⟩
theorem rMW.of {l : Launch} {y : MethodName} {ws ws' : List Cond} {rm : Room} {E : rE} {cin : va_W} {av : List Value} {S : Type} {r : Option Value} {cout : S → va_W} {cc : ByteArray} {maxL : Nat} {ret : Option FieldType} {hh : List (Nat × Nat × Nat × Nat)}
    (hy : plainName y.cls = true) (hw : ws = Cond.codeWith y cc maxL ret hh :: ws') (hle : (lg_sl av).length ≤ maxL)
    (hg : ∀ w ∈ gW, w ∈ ws)
    (body : ∀ (p : Program) (e : Env) (s : State) (m : MethodId) (args : Array Value) (below : List Frame) (meth : Method) (c : Code) (A : Nat → Prop) (Q : State → Prop), xW s → va_P E.1 vwCl cin s.heap → A = va_A cin s.heap.size → Q = MQ below (rQ E cin s.heap.size r cout) args s rm.cells rm.slots A → rC p s m args c E A maxL cc ws y.cls → meth.sig.returnType = ret → meth.locks = false → c.exceptionTable.toList = tableOf hh →
      rG p l e rm s m args below meth c E A maxL 0 0 Q cin 0 (lv_args 0 av) []) : rMZ xW l y ws rm E cin av r cout := by
  intro sz
  refine va_MetW (cc := cc) (maxL := maxL) (ret := ret) (hh := hh) hy hw ?_
  intro p e s m args below meth c s₁ B hml hv
  obtain ⟨rfl, ⟨hsz, hK, hP, hD0⟩, hZ⟩ := hv
  subst hsz
  have ht : c.exceptionTable.toList = tableOf hh := by
    obtain ⟨m9, meth9, c9, n1, n2, n3, -, -, n4, -⟩ := Cond.codeWith_spec (atoms_spec (ws := ws) B.pre (Cond.codeWith y cc maxL ret hh) (by rw [hw]; exact List.mem_cons_self))
    cases Option.some.inj (n1.symm.trans B.named)
    cases Option.some.inj (n2.symm.trans B.method)
    cases Option.some.inj (n3.symm.trans (Stand.of_body B).code)
    rw [← n4, table_eq]
  have hb := body p e s m av.toArray below meth c (va_A cin s.heap.size) _ hZ hP rfl rfl ⟨⟨B.exec, B.bytes, hml, findClass_of_methodNamed B.named, atoms_spec (ws := ws) B.pre⟩, hK, fun q h => Or.inr h, hg⟩ B.returns B.notSynchronized ht
  rw [lg_entry_eq]
  exact hb s.heap [] _ hP hD0.self va_S.rf (lv_entry av hle)
section RW1
variable {p : Program} {l : Launch} {e : Env} {R : Room} {s : State} {m : MethodId} {args : Array Value} {below : List Frame} {meth : Method} {c : Code}
variable {E : rE} {A : Nat → Prop} {nL cells slots : Nat} {Q : State → Prop} {ws : va_W} {pc : Nat} {lv : List (Nat × Value)} {st : List Value} {cc : ByteArray} {Ts : List Cond} {own : String}
variable {cin cin2 wr : va_W} {Cn : String} {y : MethodName} {bytes : ByteArray} {maxL index n : Nat} {ret : Option FieldType} {wsy : List Cond} {rm : Room} {As rest : List Value} {b : Nat}
theorem as_self (vm : Vm) (k : ClassId) : vm.assignable k k = true := by
  show vm.assignableAux (255 + 1) k k = true
  rw [Vm.assignableAux]
  simp
/-- a row of the table, out of the words -/
theorem xc_take (C : rC p s m args c E A nL cc Ts own) (pl : Platform) (hpl : pl.magicAccessors = ({} : Platform).magicAccessors) {x : ExceptionTableEntry} {k : ClassId} (h1 : covers x pc = true) (h2 : x.catchType ≠ 0) (hk : s.vm.findClass Cn = some k) (hl : Cond.classLink own x.catchType Cn ∈ gW) : xcR pl s m.cls pc k true x := by
  obtain ⟨y, hy, hcl⟩ := Cond.classLink_spec C.1.2.2.2.1 (C.1.2.2.2.2 _ (C.2.2.2 _ hl)) pl hpl
  cases Option.some.inj (hy.symm.trans hk)
  exact ⟨h1, h2, _, hcl, as_self _ _⟩
theorem xc_pass (C : rC p s m args c E A nL cc Ts own) (pl : Platform) (hpl : pl.magicAccessors = ({} : Platform).magicAccessors) {x : ExceptionTableEntry} {k : ClassId} {nm : String} (h1 : covers x pc = true) (h2 : x.catchType ≠ 0) (hk : s.vm.findClass Cn = some k) (hl : Cond.classLink own x.catchType nm ∈ gW) (hn : va_Nc Cn nm s) : xcR pl s m.cls pc k false x := by
  obtain ⟨y, hy, hcl⟩ := Cond.classLink_spec C.1.2.2.2.1 (C.1.2.2.2.2 _ (C.2.2.2 _ hl)) pl hpl
  obtain ⟨a8, b8, n1, n2, n3⟩ := hn
  cases Option.some.inj (n1.symm.trans hk)
  cases Option.some.inj (n2.symm.trans hy)
  exact ⟨h1, h2, _, hcl, n3⟩
/-- a call of an object's method that throws, and this method catches it -/
theorem rg_callVC {Dn : String} {T0 : u_T} {N ci : Nat} {fs : List Value} (C : rC p s m args c E A nL cc Ts own) (M : rX xZ l y wsy rm E cin2 (.ref b :: As) Cn) (cw : CallW R s args own Dn index y bytes maxL ret wsy rm rm.cells rm.slots n) (hz : xZ s) (hP0 : va_P E.1 vwCl cin s.heap) (hA : A = va_A cin s.heap.size)
    (isC isR ps : List Nat) (hC : isC.map (fun i => ws[i]?) = cin2.map some) (hR : isR.map (fun i => ws[i]?) = wr.map some) (hnC : va_nd isC = true) (hnR : va_nd isR = true) (hdis : ∀ i ∈ isR, i ∉ isC) (hps : ps.map (fun i => (wr ++ cin2)[i]?) = ws.map some) (hnp : va_nd ps = true)
    (q0 : Nat) (he : cin2[q0]? = some (b, .inr (ci, fs))) (hc : vwCl[ci]? = some (Dn, T0, N))
    (hn : As.length = n) (hst : st = As.reverse ++ .ref b :: rest) (hroom : (rest.map fun v => v.category).sum ≤ 8) (hd : decode cc pc = .ok (.invokevirtual index, 3)) (hf : cells + rm.cells ≤ R.cells ∧ slots + rm.slots ≤ R.slots)
    (pre : List ExceptionTableEntry) (x : ExceptionTableEntry) (suf : List ExceptionTableEntry) (hs : c.exceptionTable.toList = pre ++ x :: suf)
    (hpass : ∀ z ∈ pre, (covers z pc = true ∧ z.catchType ≠ 0) ∧ ∃ nm, Cond.classLink own z.catchType nm ∈ gW ∧ va_Nc Cn nm s) (hx : (covers x pc = true ∧ x.catchType ≠ 0) ∧ Cond.classLink own x.catchType Cn ∈ gW)
    (kk : ∀ q : Nat, rG p l e R s m args below meth c E A nL (cells + 1) (slots + 6) Q ws x.handlerPc lv [.ref q]) : rG p l e R s m args below meth c E A nL cells slots Q ws pc lv st := by
  intro H locs la hP hD hS hl T hT X
  subst hst
  obtain ⟨⟨-, -, hfr, hlo, hws, hcw, hcode, hini, hy, hlen, hlnk⟩, hinst, hsel⟩ := cw
  have hPc := hP.sub isC (sel_map hC)
  have hDc := hD.sub isC hnC hC
  have hFc := va_free (wc := cin2) hD hS C.2.2.1 isC hC
  obtain ⟨cellB, hcB, hoB, hclB⟩ := va_recv C.2.1 hPc hc he
  obtain ⟨mk, methM, hnamed, hmethM, hstM, habM⟩ := Cond.instanceMethod_spec hinst
  obtain ⟨methM', cM, hmethM', -, -, -, -, -, -, hsigM⟩ := Cond.code_spec hnamed hcode
  have em : methM' = methM := Option.some.inj (hmethM'.symm.trans hmethM)
  subst em
  obtain ⟨c2, r2, m2, q1, q2, q3, q4, kP, hkP, hkPi⟩ := Cond.selects_spec hsel
  have e1 : c2 = cellB.cls := Option.some.inj (q1.symm.trans hclB)
  have e2 : r2 = mk := Option.some.inj (q2.symm.trans (State.methodFound?_of_named hnamed hy))
  have e3 : m2 = mk := Option.some.inj (q3.symm.trans hnamed)
  subst e1 e2 e3
  have hselP : selectMethod e.platform s.vm cellB.cls m2 = .method m2 := by rw [Launch.admits_selectMethod X.admits]; exact q4
  obtain ⟨vm1, X1, step1⟩ := X.invokevirtual C.1.1 C.1.2.2.2.1 hlnk hnamed hmethM hstM hkP hkPi hy (a := b) (cell := cellB) (by rw [hT]; exact hcB) (fun z h => by rw [h] at hoB; cases hoB) hselP hmethM habM hkP hkPi (g := F0 m pc la (As.reverse ++ .ref b :: rest)) rfl (argsL := As) (rest := rest) (hn.trans (hlen _ hsigM)) rfl (by rw [C.1.2.1]; exact hd)
  obtain ⟨o, t, hs1, hend, hq⟩ := x_into (g := F0 m pc la rest) (a := (Value.ref b :: As).toArray) (mk := m2) X1 (M H.size) rfl (by rw [C.1.2.2.1]; exact hl.1) (by rw [C.1.2.1]; exact hd) (X1.named hnamed) (fun w hw => hws w hw _ _ X1.warmed) hcw (word_at X1.warmed (Or.inl (by first | rfl | simp [Cond.onTables, Cond.keeps, Cond.steady])) hini) hfr (Nat.le_trans (Nat.add_le_add_right (Nat.add_le_add_right (lv_room hroom) _) _) hlo) hf.1 hf.2
    ⟨rfl, ⟨by show T.heap.size = _; rw [hT], va_K.moved (U := (T.setVm vm1).calling (F0 m pc la rest) m2 (Value.ref b :: As).toArray) X1.warmed.alike C.2.1, by show va_P E.1 vwCl cin2 T.heap; rw [hT]; exact hPc, hDc.weaken (fun _ _ _ _ => trivial)⟩, xZ.calling (hz.go hP0 hA hS (U := T.setVm vm1) hT X1.warmed) _ _ _⟩
  obtain ⟨q, ce, rfl, h1, h2, h3, h4, h5, h6, ⟨h7, h8⟩, h9, L, h10, h11⟩ := hq
  obtain ⟨T', X', hW', hsm', ht⟩ := X1.outOfThrown (g := F0 m pc la rest) rfl hend h9 h10
  have eh : T'.heap = t.heap := by rw [ht]; rfl
  have hcl : s.vm.findClass Cn = some ce.cls := by
    have h12 : (T.setVm vm1).vm.findClass Cn = some ce.cls := h4
    rw [X1.warmed.alike.findClass] at h12
    exact h12
  have hpl : e.platform.magicAccessors = ({} : Platform).magicAccessors := by rw [X.admits.platform]
  obtain ⟨vm2, X2, stp⟩ := xc_caught X' (g := F0 m pc la rest) rfl (q := q) (ce := ce) (by rw [eh]; exact h2) h3 (by obtain ⟨k9, h9, -⟩ := Vm.findClass_spec hcl; exact ⟨k9, h9⟩) pre x suf hs (fun z hz1 => by
      obtain ⟨⟨z1, z2⟩, nm, z3, z4⟩ := hpass z hz1
      exact xc_pass C e.platform hpl z1 z2 hcl z3 z4) (xc_take C e.platform hpl hx.1.1 hx.1.2 hcl hx.2)
  have hzz : ((T.setVm vm1).calling (F0 m pc la rest) m2 (Value.ref b :: As).toArray).heap = H := hT
  rw [hzz] at h1 h7 h8
  rw [← eh] at h6 h7 h8
  obtain ⟨hPj, hDj⟩ := va_join (wr := wr) (w1 := cin2) hP hD isC isR hC hR hnR hdis h8 hFc h6 (hDc.self)
  have hS1 : va_S A s.heap T'.heap (locs ++ L) := ⟨Nat.le_trans hS.1 h7, fun z g1 g2 => by
      rw [h8 z (Nat.lt_of_lt_of_le g1 hS.1) (fun w => g2 (hFc z w))]
      exact hS.2.1 z g1 g2, fun z hz1 => by
      rcases List.mem_append.mp hz1 with h | h
      · exact hS.2.2 z h
      · exact hFc _ (h11 z h)⟩
  obtain ⟨t2, a1, b1⟩ := (kk q).wide (k := cells + 1) (n := slots + 6) (Nat.le_refl _) (Nat.le_refl _) T'.heap (locs ++ L) la (hPj.sub ps (sel_map hps)) (hDj.sub ps hnp hps) hS1 hl (T'.setVm vm2) rfl X2
  exact ⟨t2, step1 _ (fun acts => by
    rw [doInvoke_state]
    refine hs1.trans ?_
    rw [ht]
    exact stp _ a1), b1⟩
/-- the run of a static method that has a table of its own -/
theorem xw_run {H : Heap} {locs : List Loc} {mc ms : Nat} {Pc : Array Value → State → Prop} {Qc : Array Value → State → Outcome → State → Prop} {free : Addr → Prop} {hh : List (Nat × Nat × Nat × Nat)} {la : Array Slot} (S : CallFix p m c cc nL s args Ts own) (hM : Met l y wsy rm Pc Qc mc ms free) (hbl : FrameBlind Pc) (hrm : rm.cells = mc ∧ rm.slots = ms ∧ rm.frames + 1 ≤ R.frames ∧ 8 + (maxL + 11) + rm.locals ≤ R.locals)
    (hws : ∀ w ∈ wsy, ∀ (a' : Array Value) (U : State), s.WarmedH U.vm → w.before a' U = true) (hcw : Cond.codeWith y bytes maxL ret hh ∈ wsy) (hini : (Cond.initialized y.cls).before args s = true) (hy : y.cls ≠ "java/lang/invoke/MethodHandle" ∧ y.cls ≠ "java/lang/invoke/VarHandle") (hlen : (parseMethodDescriptor y.desc).map (fun d => d.parameters.length) = some n) (hlk : (Cond.methodLink own index y).before args s = true) (hstt : (Cond.static y).before args s = true)
    (hpre : ∀ U : State, U.heap = H → s.WarmedH U.vm → Pc As.toArray U) (hn : As.length = n) (hsz : la.size = nL) (hroom : (rest.map fun v => v.category).sum ≤ 8) (hd : decode cc pc = .ok (.invokestatic index, 3)) (hf : cells + mc ≤ R.cells ∧ slots + ms ≤ R.slots) :
    va_Run p l e R s m args below meth c H locs cells slots mc ms (F0 m pc la (As.reverse ++ rest)) rest (Qc As.toArray) free := by
  intro T hT X
  obtain ⟨hx, hb, hml, ho, -⟩ := S
  have hK : Back l R p e below s args y 3 8 (PreOf R mc ms Pc) (PostOf Qc mc ms free) := va_backW (hh := hh) (bytes := bytes) (maxL := maxL) (ret := ret) hM hbl hrm.1 hrm.2.1 hrm.2.2.1 hrm.2.2.2 hws hcw (fun a' U hW => word_at hW (Or.inl (by first | rfl | simp [Cond.onTables, Cond.keeps, Cond.steady])) hini)
  obtain ⟨mk, methM, cM, hnamed, hmethM, -, -, -, -, -, -, hsigM⟩ := Cond.codeWith_spec (hws _ hcw args s (State.WarmedH.refl s))
  have hstatic : methM.isStatic = true := Cond.static_spec hnamed hmethM hstt
  obtain ⟨kP, hkP, -⟩ := className_of_methodNamed hnamed
  have hinitP : kP.init = .initialized := Cond.initialized_spec (findClass_of_methodNamed hnamed) hkP hini
  have hnn : n = methM.sig.parameters.length := by
    rw [hsigM] at hlen
    exact (Option.some.inj hlen).symm
  obtain ⟨vm1, X1, stp⟩ := X.invokestatic hx ho hlk hnamed hmethM hstatic hkP hinitP hy (g := F0 m pc la (As.reverse ++ rest)) rfl (argsL := As) (rest := rest) (hn.trans hnn) rfl (by rw [hb]; exact hd)
  obtain ⟨v, ⟨U', l2, c2, s2⟩, X', ⟨g', mk', t, L, e1, e2, hq, h1, hL, h2, h3⟩, hst⟩ := hK m meth c ⟨T.setVm vm1, locs, cells, slots⟩ (F0 m pc la rest) (.invokestatic index) mk As.toArray X1 rfl (hsz.trans hml.symm) (by rw [hb]; exact hd) (lv_room hroom) (X1.named hnamed) ⟨hf.1, hf.2, hpre (T.setVm vm1) hT X1.warmed⟩
  dsimp only [Pt.U, Pt.locs, Pt.cells, Pt.slots] at X' e1 e2 h1 h2 h3 hst
  subst h1; subst h2; subst h3
  exact ⟨v, (T.setVm vm1).calling g' mk' As.toArray, t, U', L, hT, X', hL, e1, e2, hq, fun target h => stp _ fun acts => by rw [doInvoke_state]; exact hst.trans h⟩
/-- a call of one of the law's own methods -/
theorem rg_callSW {S : Type} {r : Option Value} {cout w' : S → va_W} {hh : List (Nat × Nat × Nat × Nat)} (C : rC p s m args c E A nL cc Ts own) (M : rMZ xW l y wsy rm E cin2 As r cout) (hz : xW s) (hP0 : va_P E.1 vwCl cin s.heap) (hA : A = va_A cin s.heap.size)
    (hwy : wsy = Cond.codeWith y bytes maxL ret hh :: gW) (w1 : Cond.methodLink own index y ∈ gW) (w2 : Cond.static y ∈ gW) (w3 : Cond.initialized y.cls ∈ gW) (w4 : Cond.codeWith y bytes maxL ret hh ∈ gW) (hy : y.cls ≠ "java/lang/invoke/MethodHandle" ∧ y.cls ≠ "java/lang/invoke/VarHandle" ∧ (parseMethodDescriptor y.desc).map (fun d => d.parameters.length) = some n) (hrm : rm.frames + 1 ≤ R.frames ∧ 8 + (maxL + 11) + rm.locals ≤ R.locals)
    (isC isR ps : List Nat) (hC : isC.map (fun i => ws[i]?) = cin2.map some) (hR : isR.map (fun i => ws[i]?) = wr.map some) (hnC : va_nd isC = true) (hnR : va_nd isR = true) (hdis : ∀ i ∈ isR, i ∉ isC)
    (hps : ∀ u, ps.map (fun i => (wr ++ cout u)[i]?) = (w' u).map some) (hnp : va_nd ps = true)
    (hn : As.length = n) (hst : st = As.reverse ++ rest) (hroom : (rest.map fun v => v.category).sum ≤ 8)
    (hd : decode cc pc = .ok (.invokestatic index, 3)) (hf : cells + rm.cells ≤ R.cells ∧ slots + rm.slots ≤ R.slots)
    (kk : ∀ u, rG p l e R s m args below meth c E A nL (cells + rm.cells) (slots + rm.slots) Q (w' u) (pc + 3) lv (r.toList ++ rest)) : rG p l e R s m args below meth c E A nL cells slots Q ws pc lv st := by
  intro H locs la hP hD hS hl
  subst hst
  have hPc := hP.sub isC (sel_map hC)
  have hDc := hD.sub isC hnC hC
  have hall : ∀ w ∈ wsy, w ∈ gW := fun w hw => by
    rw [hwy] at hw
    rcases List.mem_cons.mp hw with rfl | hw
    · exact w4
    · exact hw
  refine rg_after C hP hD hS hl (xw_run (As := As) (rest := rest) (hh := hh) (bytes := bytes) (maxL := maxL) (ret := ret) (n := n) C.1 (M H.size) ?_ ⟨rfl, rfl, hrm.1, hrm.2⟩ (pay_in C.1.2.2.2.2 (gAll C.2.2.2 hall)) (by rw [hwy]; exact List.mem_cons_self) (C.1.2.2.2.2 _ (C.2.2.2 _ w3)) ⟨hy.1, hy.2.1⟩ hy.2.2 (C.1.2.2.2.2 _ (C.2.2.2 _ w1)) (C.1.2.2.2.2 _ (C.2.2.2 _ w2)) (fun U hU hW => ⟨rfl, ⟨by rw [hU], va_K.moved hW.alike C.2.1, by rw [hU]; exact hPc, hDc.weaken (fun _ _ _ _ => trivial)⟩, hz.go hP0 hA hS hU hW⟩) hn hl.1 hroom hd hf) isC isR ps hC hR hnR hdis hps hnp kk
  intro a U g mk q
  obtain ⟨q0, ⟨q1, qK, qP, qD⟩, qZ⟩ := q
  exact ⟨q0, ⟨q1, va_K.moved (u := U) (U := U.calling g mk a) (Vm.Alike.refl U.vm) qK, qP, qD⟩, qZ.calling g mk a⟩
end RW1
