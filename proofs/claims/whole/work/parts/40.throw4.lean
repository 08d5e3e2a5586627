/-! a call that throws, in a method that catches nothing -/
section RX4
variable {p : Program} {l : Launch} {e : Env} {R : Room} {s : State} {m : MethodId} {args : Array Value} {below : List Frame} {meth : Method} {c : Code} {locs : List Loc} {cells slots : Nat}
theorem x_into {U : State} {y : MethodName} {ws : List Cond} {rm : Room} {P : Array Value → State → Prop} {Qx : Array Value → State → Outcome → State → Prop} {mk : MethodId} {a : Array Value} {g : JFrame} {ig : Instr} {len maxL : Nat} {bytes : ByteArray} {ret : Option FieldType}
    (X : Stand p l e R s m args below meth c U locs cells slots) (hM : MetFree l y (headSpec ws rm) P (fun _ _ _ _ _ => True) Qx) (hg : g.method = m) (hsize : g.locals.size = c.maxLocals) (hdg : decode c.code g.pc = .ok (ig, len)) (hn : U.methodNamed? y = some mk) (hws : ∀ w ∈ ws, w.before a U = true) (hc : Cond.code y bytes maxL ret ∈ ws) (hini : (Cond.initialized y.cls).before a U = true)
    (hfr : rm.frames + 1 ≤ R.frames) (hlo : 2 * g.monitorRoom + (g.stack.map fun v => v.category).sum + (maxL + 11) + rm.locals ≤ R.locals) (hcl : cells + rm.cells ≤ R.cells) (hsl : slots + rm.slots ≤ R.slots) (hP : P a (U.calling g mk a)) :
    ∃ o t, Steps p.tables e below (doInvoke e (U.setTop g) [] mk a).1 t ∧ Ended t (.java g :: below) o ∧ Qx a (U.calling g mk a) o t := by
  obtain ⟨methY, cY, hmY, hcY, -, hlY, -, -, -, -⟩ := Cond.code_spec hn (hws _ hc)
  obtain ⟨kY, hkY, -⟩ := className_of_methodNamed hn
  have hinitY : kY.init = .initialized := Cond.initialized_spec (findClass_of_methodNamed hn) hkY hini
  have h : At U g.method c below := by rw [hg]; exact X.here
  have happ : (headSpec ws rm).appliesLoose y e.platform (U.calling g mk a) = true := Spec.appliesLoose_calling (g := g) h hdg hn hkY hinitY (X.room_calling (g := g) (R' := rm) hsize hmY hcY hfr (by rw [hlY]; exact hlo) hcl hsl) (atoms_intro hws)
  obtain ⟨mid, hmid⟩ := h.above
  have hf2 : (U.setTop g).frames = (.java g :: mid) ++ below := by rw [State.frames_setTop' g h.top, hmid]; rfl
  obtain ⟨o, t, hst, -, hend, hq⟩ := Steps.callFree hM p X.admits X.cas X.clock (acts := []) hf2 happ hP trivial
  rw [State.frames_setTop' g h.top, X.tail] at hend
  exact ⟨o, t, hst, hend, hq⟩
theorem x_tail {U t : State} {g : JFrame} {mk : MethodId} {a : Array Value} {E : rE} {A : Nat → Prop} {cin cin2 : va_W} {H : Heap} {Cn : String} {o : Outcome} (X : Stand p l e R s m args below meth c U locs 0 0) (hg : g.method = m) (hl0 : g.locked = none) (hen : g.entered = []) (hno : ∀ x ∈ c.exceptionTable.toList, covers x g.pc = false) (hlk : meth.locks = false)
    (hU : U.heap = H) (hend : Ended t (.java g :: below) o) (hq : qX E cin2 H.size Cn a (U.calling g mk a) o t) (hP : va_P E.1 vwCl cin H) (hS : va_S A s.heap H locs) (hA : A = va_A cin s.heap.size) (hK : rK E s) (hkeep : cin2 = [] ∨ cin2 = cin) : ∃ t2, Steps p.tables e below t t2 ∧ XQ below E cin s.heap.size Cn args s t2 := by
  obtain ⟨q, ce, rfl, h1, h2, h3, h4, h5, h6, ⟨h7, h8⟩, h9, L, h10, h11⟩ := hq
  obtain ⟨T', X', hW', hsm', ht⟩ := X.outOfThrown hg hend h9 h10
  obtain ⟨st, hr, he, hW, hs⟩ := X'.leaveThrown q (g := g) hg hl0 hen hno hlk
  have eh : T'.heap = t.heap := by rw [ht]; rfl
  have hz : (U.calling g mk a).heap = H := hU
  rw [hz] at h1 h7 h8
  have hsub : ∀ z, va_A cin2 H.size z → A z := fun z hz2 => by
    rw [hA]
    rcases hz2 with ⟨k, x, hk⟩ | hz2
    · rcases hkeep with rfl | rfl
      · simp at hk
      · exact Or.inl ⟨k, x, hk⟩
    · exact Or.inr (Nat.le_trans hS.1 hz2)
  have hPt : va_P E.1 vwCl cin t.heap := by
    rcases hkeep with rfl | rfl
    · refine hP.kept (fun k x hx => h8 _ ((hP k x hx).lt) (fun q2 => ?_))
      rcases q2 with ⟨k2, x2, hk2⟩ | q2
      · simp at hk2
      · exact absurd ((hP k x hx).lt) (Nat.not_lt.mpr q2)
    · exact h6
  have hcl : s.vm.findClass Cn = some ce.cls := by
    have h12 : U.vm.findClass Cn = some ce.cls := h4
    rw [X.warmed.alike.findClass] at h12
    exact h12
  refine ⟨T'.setFrames (.throwing q :: below), by rw [ht]; exact st, .threw q, hr, he, q, ce, rfl, Nat.le_trans hS.1 h1, by show T'.heap[q]? = _; rw [eh]; exact h2, h3, hcl, va_K.moved hW.alike hK, by show va_P E.1 vwCl cin T'.heap; rw [eh]; exact hPt, ⟨by show _ ≤ T'.heap.size; rw [eh]; exact Nat.le_trans hS.1 h7, fun z hz1 hz2 => ?_⟩, hW, locs ++ L, hs, fun y hy => ?_⟩
  · show T'.heap[z]? = _
    rw [eh, h8 z (Nat.lt_of_lt_of_le hz1 hS.1) (fun q2 => hz2 (by rw [← hA]; exact hsub z q2))]
    exact hS.2.1 z hz1 (by rw [hA]; exact hz2)
  · rw [← hA]
    rcases List.mem_append.mp hy with hy | hy
    · exact hS.2.2 y hy
    · exact hsub _ (h11 y hy)
variable {E : rE} {A : Nat → Prop} {nL : Nat} {Q : State → Prop} {pc : Nat} {lv : List (Nat × Value)} {st : List Value} {cc : ByteArray} {Ts : List Cond} {own : String}
variable {cin cin2 : va_W} {Cn : String} {y : MethodName} {bytes : ByteArray} {maxL index n : Nat} {ret : Option FieldType} {wsy : List Cond} {rm : Room} {As rest : List Value} {b : Nat}
theorem rg_callSX (C : rC p s m args c E A nL cc Ts own) (M : rX xZ l y wsy rm E cin2 As Cn) (cw : CallB R s args own index y bytes maxL ret wsy rm rm.cells rm.slots n ∧ (Cond.static y).before args s = true) (hz : xZ s) (hP0 : va_P E.1 vwCl cin s.heap) (hA : A = va_A cin s.heap.size) (hlk : meth.locks = false) (hex : c.exceptionTable.isEmpty = true) (hQ : Q = XQ below E cin s.heap.size Cn args s) (hkeep : cin2 = [] ∨ cin2 = cin)
    (hn : As.length = n) (hst : st = As.reverse ++ rest) (hroom : (rest.map fun v => v.category).sum ≤ 8) (hd : decode cc pc = .ok (.invokestatic index, 3)) (hf : rm.cells ≤ R.cells ∧ rm.slots ≤ R.slots) : rG p l e R s m args below meth c E A nL 0 0 Q cin pc lv st := by
  intro H locs la hP hD hS hl T hT X
  subst hst hQ
  obtain ⟨⟨-, -, hfr, hlo, hws, hcw, hcode, hini, hy, hlen, hlnk⟩, hstat⟩ := cw
  obtain ⟨mk, hnamed⟩ := Cond.code_named hcode
  obtain ⟨methM, cM, hmethM, -, -, -, -, -, -, hsigM⟩ := Cond.code_spec hnamed hcode
  have hstatic : methM.isStatic = true := Cond.static_spec hnamed hmethM hstat
  obtain ⟨kP, hkP, -⟩ := className_of_methodNamed hnamed
  have hinitP : kP.init = .initialized := Cond.initialized_spec (findClass_of_methodNamed hnamed) hkP hini
  obtain ⟨vm1, X1, step1⟩ := X.invokestatic C.1.1 C.1.2.2.2.1 hlnk hnamed hmethM hstatic hkP hinitP hy (g := F0 m pc la (As.reverse ++ rest)) rfl (argsL := As) (rest := rest) (hn.trans (hlen _ hsigM)) rfl (by rw [C.1.2.1]; exact hd)
  have hno : ∀ x ∈ c.exceptionTable.toList, covers x pc = false := fun x hx => by
    have h5 : c.exceptionTable.toList = [] := by simpa using hex
    rw [h5] at hx; cases hx
  have hPD : va_P E.1 vwCl cin2 H ∧ va_D (fun _ => True) cin2 := by
    rcases hkeep with rfl | rfl
    · exact ⟨hP.sub [] rfl, hD.sub [] rfl rfl |>.weaken (fun _ _ _ _ => trivial)⟩
    · exact ⟨hP, hD.weaken (fun _ _ _ _ => trivial)⟩
  obtain ⟨o, t, hs, hend, hq⟩ := x_into (g := F0 m pc la rest) (a := As.toArray) (mk := mk) X1 (M H.size) rfl (by rw [C.1.2.2.1]; exact hl.1) (by rw [C.1.2.1]; exact hd) (X1.named hnamed) (fun w hw => hws w hw _ _ X1.warmed) hcw (word_at X1.warmed (Or.inl (by first | rfl | simp [Cond.onTables, Cond.keeps, Cond.steady])) hini) hfr (Nat.le_trans (Nat.add_le_add_right (Nat.add_le_add_right (lv_room hroom) _) _) hlo) (by rw [Nat.zero_add]; exact hf.1) (by rw [Nat.zero_add]; exact hf.2)
    ⟨rfl, ⟨by show T.heap.size = _; rw [hT], va_K.moved (U := (T.setVm vm1).calling (F0 m pc la rest) mk As.toArray) X1.warmed.alike C.2.1, by show va_P E.1 vwCl cin2 T.heap; rw [hT]; exact hPD.1, hPD.2⟩, xZ.calling (hz.go hP0 hA hS (U := T.setVm vm1) hT X1.warmed) _ _ _⟩
  obtain ⟨t2, st2, hfin⟩ := x_tail X1 rfl rfl rfl hno hlk (H := H) hT hend hq hP hS hA C.2.1 hkeep
  exact ⟨t2, step1 _ (fun acts => by rw [doInvoke_state]; exact hs.trans st2), hfin⟩
end RX4
