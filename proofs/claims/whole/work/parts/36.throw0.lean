/-! a new exception is made with its message and thrown: what stands behind, cell for cell -/
section RX1
variable {p : Program} {l : Launch} {e : Env} {R : Room} {s : State} {m : MethodId} {args : Array Value} {below : List Frame} {meth : Method} {c : Code} {T0 : State} {locs : List Loc} {cells slots : Nat}
/-- what the tables say of an exception whose constructor hands its message on -/
def xTab (args : Array Value) (s : State) (own cls sup : String) (names : List String) (ic ix : Nat) (rx : ByteArray) : Prop :=
  (decode rx 0 = .ok (.aload_n 0, 1)) ∧
  (decode rx 1 = .ok (.aload_n 1, 1)) ∧
  (decode rx 2 = .ok (.invokespecial ix, 3)) ∧
  (decode rx 5 = .ok (.return_, 1)) ∧
  (Bundle.fit cls = true) ∧
  (Bundle.fit sup = true) ∧
  (∀ n ∈ names, Bundle.fit n = true) ∧
  (∀ w ∈ Bundle.throwableAtoms, w.before args s = true) ∧
  (∀ w ∈ Bundle.throwableSAtoms, w.before args s = true) ∧
  (∀ w ∈ Bundle.passSAtoms cls sup ix rx, w.before args s = true) ∧
  (∀ w ∈ Bundle.chainSAtoms sup names, w.before args s = true) ∧
  ((Cond.methodLink own ic (Bundle.initS cls)).before args s = true) ∧
  ((Cond.instantiable cls 6).before args s = true) ∧
  ((Cond.selects cls Bundle.tFill0 Bundle.tFill0).before args s = true) ∧
  ((Cond.selects cls Bundle.tFill Bundle.tFill).before args s = true) ∧
  ((Cond.lays cls Bundle.tN "cause" "Ljava/lang/Throwable;").before args s = true) ∧
  ((Cond.lays cls Bundle.tN "stackTrace" Bundle.steD).before args s = true) ∧
  ((Cond.lays cls Bundle.tN "suppressedExceptions" Bundle.listD).before args s = true) ∧
  ((Cond.lays cls Bundle.tN "detailMessage" "Ljava/lang/String;").before args s = true) ∧
  ((Cond.lays cls Bundle.tN "backtrace" "Ljava/lang/Object;").before args s = true) ∧
  ((Cond.lays Bundle.tN Bundle.tN "backtrace" "Ljava/lang/Object;").before args s = true) ∧
  ((Cond.fieldLink Bundle.tN 198 Bundle.tN "backtrace" "Ljava/lang/Object;").before args s = true) ∧
  ((Cond.isRef (.static Bundle.tN "UNASSIGNED_STACK" Bundle.steD)).before args s = true) ∧
  ((Cond.isRef (.static Bundle.tN "SUPPRESSED_SENTINEL" Bundle.listD)).before args s = true)
/-- the method of Throwable that a name names is the one that the exception has -/
theorem x_sel {cls : String} {x : MethodName} {k : ClassId} {f : MethodId} (hadm : l.admits e) (hx : x.cls ≠ "java/lang/invoke/MethodHandle" ∧ x.cls ≠ "java/lang/invoke/VarHandle") (hk : s.vm.findClass cls = some k) (hf : s.methodNamed? x = some f) (h : (Cond.selects cls x x).before args s = true) : selectMethod e.platform s.vm k f = .method f := by
  obtain ⟨k2, r2, m2, q1, q2, q3, q4, -⟩ := Cond.selects_spec h
  have e1 : k2 = k := Option.some.inj (q1.symm.trans hk)
  have e2 : r2 = f := Option.some.inj (q2.symm.trans (State.methodFound?_of_named hf hx))
  have e3 : m2 = f := Option.some.inj (q3.symm.trans hf)
  subst e1 e2 e3
  rw [Launch.admits_selectMethod hadm]
  exact q4
theorem x_throw (X : Stand p l e R s m args below meth c T0 locs cells slots) (hexec : p.tables.exec = Jvm.exec) (htr : e.platform.stackTraces = false) {own cls sup : String} {names : List String} {ic ix : Nat} {rx : ByteArray} (K : xTab args s own cls sup names ic ix rx)
    (hown : s.vm.findClass own = some m.cls) (hlocs : ∀ x ∈ locs, ∀ cell, s.heap[x.base]? = some cell → cell.vm.isStatics = false)
    {a : Addr} {cX : ClassId} {kX : Class} (hX : s.vm.findClass cls = some cX) (hkX : s.vm.classes[cX]? = some kX) (hord : kX.kind = .ordinary) (hcell : T0.heap[a]? = some (freshCell cX kX)) (hnew : s.heap.size ≤ a)
    {msg : Value} (hmsg : msg.isRef = true) {g : JFrame} (hg : g.method = m) (hsize : g.locals.size = c.maxLocals) (hlk : g.locked = none) (hen : g.entered = []) (hst : g.stack = [msg, .ref a, .ref a])
    (hd1 : decode c.code g.pc = .ok (.invokespecial ic, 3)) (hd2 : decode c.code (g.pc + 3) = .ok (.athrow, 1)) (hout : ∀ x ∈ c.exceptionTable.toList, covers x (g.pc + 3) = false)
    (hRf : names.length + 4 < R.frames) (hRl : 2 * g.monitorRoom + 1 + (13 * (names.length + 2) + 42) ≤ R.locals) (hlocks : meth.locks = false) :
    ∃ (U : State) (ce : Cell), Steps p.tables e below (T0.setTop g) U ∧ U.status = .running ∧ Ended U below (.threw a) ∧ s.WarmedH U.vm ∧ s.sameButNew ({ U with vm := s.vm } : State) locs cells slots ∧ U.heap = T0.heap.setIfInBounds a ce ∧ ce.cls = cX ∧ ce.vm = .none := by
  obtain ⟨Kd0, Kd1, Kd2, Kd5, Kf0, Kf1, Kf2, Ka0, Ka1, Ka2, Ka3, Kwl, Kwi, Kw0, Kw1, KyC, KyS, KyP, KyM, KyB, KzB, KlB, Kr1, Kr2⟩ := K
  have P1 : e.platform.frameOwnsMonitors = true := by rw [X.admits.platform]
  have P2 : e.platform.finalization = false := by rw [X.admits.platform]
  have P3 : e.platform.magicAccessors = ({} : Platform).magicAccessors := by rw [X.admits.platform]
  obtain ⟨T, Z0, LT, -, Y⟩ := ThrowableC.of_atoms (args := args) P1 P2 P3 Ka0
  obtain ⟨Z, M, LZ, LM, nZ⟩ := Init0T.ofS_atoms (args := args) P3 LT Y Ka1
  obtain ⟨Pa, La, na, ua⟩ := PassC.ofS_atoms (args := args) P3 (Bundle.fit_spec Kf0).1 (Bundle.fit_spec Kf1).2 Kd0 Kd1 Kd2 Kd5 Ka2
  obtain ⟨Pb, Ps, hlen, Lb, Lr, nb, ub, vb⟩ := Bundle.chainS (args := args) P3 nZ names sup Kf1 Kf2 Ka3
  have hfa : s.vm.findClass cls = some Pa.m.cls := findClass_of_methodNamed na
  have ec : cX = Pa.m.cls := Option.some.inj (hX.symm.trans hfa)
  obtain ⟨cS, hS1, hS2⟩ := Y.statics
  obtain ⟨v1, hv1⟩ := Cond.staticRefV Y.unassigned LT.unassignedStatic LT.statics hS1 hS2 Kr1
  obtain ⟨v2, hv2⟩ := Cond.staticRefV Y.sentinel LT.sentinelStatic LT.statics hS1 hS2 Kr2
  obtain ⟨cS', hS3, hS4, -, hS5⟩ := X.same.2.2.2.2.2 T.aS cS hS1
  have hnl : ∀ i, (⟨T.aS, i⟩ : Loc) ∉ locs := fun i hi => by
    have h1 := hlocs _ hi cS hS1
    rw [hS2] at h1; cases h1
  have hun : cS'.vm ≠ .unknown := by
    rw [hS4]; intro hu
    rw [show cS.vm = .unknown from hu] at hS2
    cases hS2
  have hne : T.aS ≠ a := Nat.ne_of_lt (Nat.lt_of_lt_of_le (Array.getElem?_eq_some_iff.mp hS1).1 hnew)
  obtain ⟨iM, fM⟩ := Y.msg
  obtain ⟨tC, dC, oC, nC⟩ := Cond.laysAt hX hkX Y.cause KyC
  obtain ⟨tS, dS, oS, nS⟩ := Cond.laysAt hX hkX Y.stack KyS
  obtain ⟨tP, dP, oP, nP⟩ := Cond.laysAt hX hkX Y.supp KyP
  obtain ⟨tM, dM, oM, nM⟩ := Cond.laysAt hX hkX fM KyM
  obtain ⟨cB, iB, fB, b1, b2, b3, b4, -, b5, b6, b7⟩ := Cond.ownField (t := .object "java/lang/Object") Y.found LT.cls (by decide +kernel) KlB KzB e.platform P3
  obtain ⟨tB, dB, oB, nB⟩ := Cond.laysAt hX hkX b7 KyB
  have k1 := Cond.laysApart oB oC nB nC (by rw [b5, Y.causeName]; decide)
  have k2 := Cond.laysApart oB oS nB nS (by rw [b5, Y.stackName]; decide)
  have k3 := Cond.laysApart oB oP nB nP (by rw [b5, Y.suppName]; decide)
  have hskip : SkipFacts T e.platform s (fun u => u) v1 ((preparedCellV T.toThrowableT (freshCell cX kX) a v1 v2).withEntry T0.cur) := by
    refine ⟨{ ci198 := cB, i198 := iB, fBack := fB }, ⟨b1, b2, b3, b4⟩, ?_, fun _ _ => rfl⟩
    have h1 := fresh_default (c := cX) tB
    rw [b6] at h1
    simpa [preparedCellV, Cell.setSlot, Cell.withEntry, Array.getElem?_setIfInBounds, k1, k2, k3, k1.symm, k2.symm, k3.symm, defaultValue] using h1
  have hcodeW : (Cond.code (Bundle.initS cls) rx 2 none).before args s = true := Ka2 _ (by simp [Bundle.passSAtoms])
  have hinstW : (Cond.instanceMethod (Bundle.initS cls)).before args s = true := Ka2 _ (by simp [Bundle.passSAtoms])
  obtain ⟨tm, _, _, _, vm1, n1, -, -, -, -, -, -, -, W1, st1⟩ := Steps.initColdS (tb := p.tables) (e := e) (below := below) (s := s) (U := T0) X.here hexec X.warmed P3 hown (t := Bundle.initS cls) rfl rfl (Bundle.fit_spec Kf0).2 Kwl hinstW hcodeW (f := g) hg (a := a) (msg := msg) (rest := [.ref a]) hst hd1
  have etm : tm = Pa.m := Option.some.inj (n1.symm.trans na)
  subst etm
  have X1 := X.noted W1
  have hall : ∀ P, P ∈ Pa :: Pb :: Ps → P.LinksS e.platform s := fun P hP => by
    rcases List.mem_cons.mp hP with rfl | hP
    · exact La
    · rcases List.mem_cons.mp hP with rfl | hP
      · exact Lb
      · exact Lr P hP
  have hpas : PassesOn (Z.m T.toThrowableT) ((Pa :: Pb :: Ps).map (·.toPassT)) := ⟨Option.some.inj (ua.symm.trans nb), ub, vb⟩
  obtain ⟨vm2, X2, st2⟩ := X1.ctorMessageOffV hexec (g := { g with stack := [.ref a] }) hg hsize T LT Z LZ M LM (Pa :: Pb :: Ps) hall hpas (u0 := v1) (sen := v2) (self := a) hmsg (cell := freshCell cX kX) (cellS := cS')
    hcell (fun _ => by simp) (by simp) rfl rfl (x_sel X.admits (by decide) hX Y.fill0 Kw0) (x_sel X.admits (by decide) hX Y.fill Kw1) hS3 hne hun (by rw [hS5 _ (hnl _)]; exact hv1) (by rw [hS5 _ (hnl _)]; exact hv2)
    (Takes.of_laid hkX hord tC (by rw [Y.causeType]; rfl)) (Takes.of_laid hkX hord tS (by rw [Y.stackType]; exact fits_refV_array _ v1)) (Takes.of_laid hkX hord tP (by rw [Y.suppType]; exact fits_refV_object _ v2)) (Takes.of_laid hkX hord tM (by rw [Y.msgType]; exact fits_refV_object _ ⟨msg, hmsg⟩))
    Y.objLocals hskip htr [] hd1 (by simp only [List.length_cons, hlen]; omega) (by simp only [List.length_cons, hlen]; exact hRl)
  obtain ⟨h1, h2, h3, h4, h5⟩ := X2.athrowLeaves hexec (g := { g with stack := [.ref a], pc := g.pc + 3 }) hg hlk hen hout (a := a) (rest := []) rfl hd2 hlocks
  refine ⟨_, plainBareV T.toThrowableT (freshCell cX kX) a v1 v2 msg, st1 _ (fun acts => ?_), h2, h3, h4, h5.weaken (fun y hy hlt => ?_) (Nat.le_refl _) (Nat.le_refl _), rfl, rfl, rfl⟩
  · rw [doInvoke_state]
    exact st2 _ h1
  · rcases List.mem_append.mp hy with q | q
    · exact q
    · have hb : y.base = a := by
        simp only [List.mem_cons, List.not_mem_nil, or_false] at q
        rcases q with rfl | rfl | rfl | rfl | rfl <;> rfl
      rw [hb] at hlt
      exact absurd hlt (Nat.not_lt.mpr hnew)
end RX1
