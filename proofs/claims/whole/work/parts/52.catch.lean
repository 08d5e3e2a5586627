/-! what a method of the law's does with an exception: the search through its table, row by row; every row covers the call and names what it takes -/
section RC1
variable {p : Program} {l : Launch} {e : Env} {R : Room} {s : State} {m : MethodId} {args : Array Value} {below : List Frame} {meth : Method} {c : Code} {T : State} {locs : List Loc} {cells slots : Nat}
/-- the row x covers pc and takes (t) or lets pass (not t) what is of k -/
def xcR (pl : Platform) (u : State) (d pc : Nat) (k : ClassId) (t : Bool) (x : ExceptionTableEntry) : Prop := covers x pc = true ∧ x.catchType ≠ 0 ∧ ∃ y : ClassId, u.vm.ClassLinks pl d x.catchType y ∧ u.vm.assignable k y = t
theorem xc_row {S : State} {f : JFrame} {a : Addr} {cell : Cell} {x : ExceptionTableEntry} {t : Bool} (hW : s.WarmedH S.vm) (hc : S.heap[a]? = some cell) (hv : cell.vm = .none) (hk : ∃ k, s.vm.classes[cell.cls]? = some k) (h : xcR e.platform s f.method.cls f.pc cell.cls t x) :
    ∃ vm1, s.WarmedH vm1 ∧ ∀ (xs : List ExceptionTableEntry) (Q : Handler → Pre) (E : CtlPost) (d : Bool) (acts : List Action), wp (findHandler.go f a (x :: xs)) Q E e d acts S ↔ (if t = true then Q (.found x.handlerPc) d acts (S.setVm vm1) else wp (findHandler.go f a xs) Q E e d acts (S.setVm vm1)) := by
  obtain ⟨h1, h2, y, h3, h4⟩ := h
  have h3' := hW.classLinks h3
  obtain ⟨dk, -, -, kt, hd, -, -, -, -, hkt, -, hop⟩ := h3.here
  obtain ⟨k0, hk0⟩ := hk
  obtain ⟨k1, hk1, -⟩ := hW.alike.2.2 _ _ hk0
  obtain ⟨k2, hk2, -⟩ := hW.alike.2.2 _ _ hkt
  have hal : S.vm.Alike (S.vm.noted f.method.cls x.catchType (.cls y)) := (Vm.Alike.refl S.vm).noted _ _ _
  obtain ⟨k3, hk3, -⟩ := hal.2.2 _ _ hk1
  obtain ⟨k4, hk4, -⟩ := hal.2.2 _ _ hk2
  have h5 : (S.vm.noted f.method.cls x.catchType (.cls y)).assignable cell.cls y = t := by rw [hal.assignable, hW.alike.assignable]; exact h4
  obtain ⟨r1, r2⟩ := (resolveClass_links e.toSetting h3').op (op := VmOp.resolveClass f.method.cls x.catchType) rfl
  refine ⟨_, hW.noted hd hop (State.rightAt_cls h3), fun xs Q E d acts => ?_⟩
  simp only [covers] at h1
  cases t <;> simp [findHandler.go, h1, h2, r1, r2, hc, hv, hk3, hk4, h5, VmOp.dirties, VmOp.acts]
theorem xc_find {f : JFrame} {a : Addr} {cell : Cell} (hv : cell.vm = .none) (hk : ∃ k, s.vm.classes[cell.cls]? = some k) (x : ExceptionTableEntry) (rest : List ExceptionTableEntry) (hx : xcR e.platform s f.method.cls f.pc cell.cls true x) :
    ∀ (pre : List ExceptionTableEntry) (S : State), s.WarmedH S.vm → S.heap[a]? = some cell → (∀ z ∈ pre, xcR e.platform s f.method.cls f.pc cell.cls false z) → ∃ vm1, s.WarmedH vm1 ∧ ∀ (Q : Handler → Pre) (E : CtlPost) (d : Bool) (acts : List Action), wp (findHandler.go f a (pre ++ x :: rest)) Q E e d acts S ↔ Q (.found x.handlerPc) d acts (S.setVm vm1)
  | [], S, hW, hc, _ => by
    obtain ⟨vm1, w1, w2⟩ := xc_row hW hc hv hk hx
    exact ⟨vm1, w1, fun Q E d acts => by rw [List.nil_append, w2 rest Q E d acts, if_pos rfl]⟩
  | z :: zs, S, hW, hc, hp => by
    obtain ⟨vm1, w1, w2⟩ := xc_row hW hc hv hk (hp z List.mem_cons_self)
    obtain ⟨vm2, w3, w4⟩ := xc_find hv hk x rest hx zs (S.setVm vm1) w1 hc (fun y hy => hp y (List.mem_cons_of_mem _ hy))
    exact ⟨vm2, w3, fun Q E d acts => by
      rw [List.cons_append, w2 (zs ++ x :: rest) Q E d acts, if_neg (by decide)]
      exact w4 Q E d acts⟩
theorem xc_step {S : State} {f : JFrame} {a : Addr} {r : List Frame} {pc : Nat} {vm1 : Vm} (h : ∀ (Q : Handler → Pre) (E : CtlPost) (d : Bool) (acts : List Action), wp (findHandler f a) Q E e d acts S ↔ Q (.found pc) d acts (S.setVm vm1)) :
    (stepThrowing e S a (.java f :: r)).1 = (S.setVm vm1).setFrames (.java { f with pc := pc, stack := [.ref a] } :: r) := by
  simp only [stepThrowing, searchFrame, vmDo]
  generalize hr : Sem.go _ e false [] S = res
  obtain ⟨as, rfl, -⟩ := Sem.eq_ok_of hr (a := Handler.found pc) (s' := S.setVm vm1) (acts' := []) (by simp [h])
  rfl
/-- what is thrown over the frame g is caught at the row x; the rows ahead let it pass -/
theorem xc_caught (X : Stand p l e R s m args below meth c T locs cells slots) {g : JFrame} (hg : g.method = m) {q : Addr} {ce : Cell} (hc : T.heap[q]? = some ce) (hv : ce.vm = .none) (hk : ∃ k, s.vm.classes[ce.cls]? = some k)
    (pre : List ExceptionTableEntry) (x : ExceptionTableEntry) (rest : List ExceptionTableEntry) (hs : c.exceptionTable.toList = pre ++ x :: rest) (hp : ∀ z ∈ pre, xcR e.platform s m.cls g.pc ce.cls false z) (hx : xcR e.platform s m.cls g.pc ce.cls true x) :
    ∃ vm1, Stand p l e R s m args below meth c (T.setVm vm1) locs cells slots ∧ ∀ t, Steps p.tables e below ((T.setVm vm1).setTop { g with pc := x.handlerPc, stack := [.ref q] }) t → Steps p.tables e below ((T.setTop g).pushFrame (.throwing q)) t := by
  subst hg
  obtain ⟨vm1, w1, w2⟩ := xc_find (s := s) (e := e) (f := g) (a := q) hv hk x rest hx pre ((T.setTop g).pushFrame (.throwing q)) X.warmed hc hp
  refine ⟨vm1, X.noted w1, fun t ht => ?_⟩
  obtain ⟨g0, hfr⟩ := X.frames_eq
  obtain ⟨h1, h2⟩ := X.here.throwing q
  refine Steps.head h1 h2 ?_
  have hf : ((T.setTop g).pushFrame (.throwing q)).frames = .throwing q :: .java g :: below := by
    rw [frames_entered X.here.top, hfr, List.tail_cons]
  rw [stepThread_throwing hf, xc_step (vm1 := vm1) (pc := x.handlerPc) (fun Q E d acts => (W.findHandler_eq (s := (T.setTop g).pushFrame (.throwing q)) X.method' X.code).trans (by rw [hs]; exact w2 Q E d acts))]
  have hfr2 : (T.setVm vm1).frames = .java g0 :: below := hfr
  rw [State.setTop_of_frames _ hfr2] at ht
  have e1 : (((T.setTop g).pushFrame (.throwing q)).setVm vm1).setFrames (.java { g with pc := x.handlerPc, stack := [.ref q] } :: below) = (T.setVm vm1).setFrames (.java { g with pc := x.handlerPc, stack := [.ref q] } :: below) := by
    rw [State.pushFrame, State.setTop_of_frames _ hfr]
    show (((T.setVm vm1).setFrames _).setFrames _).setFrames _ = _
    rw [State.setFrames_setFrames, State.setFrames_setFrames]
  rw [e1]
  exact ht
end RC1
