section RX5
variable {p : Program} {l : Launch} {e : Env} {R : Room} {s : State} {m : MethodId} {args : Array Value} {below : List Frame} {meth : Method} {c : Code}
variable {E : rE} {A : Nat → Prop} {nL : Nat} {Q : State → Prop} {pc : Nat} {lv : List (Nat × Value)} {st : List Value} {cc : ByteArray} {Ts : List Cond} {own : String}
variable {cin cin2 : va_W} {Cn : String} {y : MethodName} {bytes : ByteArray} {maxL index n : Nat} {ret : Option FieldType} {wsy : List Cond} {rm : Room} {As rest : List Value} {b : Nat}
/-- a call of an object's method that throws, in a method that catches nothing -/
theorem rg_callVX {Dn : String} {T0 : u_T} {N ci : Nat} {fs : List Value} (C : rC p s m args c E A nL cc Ts own) (M : rX xZ l y wsy rm E cin (.ref b :: As) Cn) (cw : CallW R s args own Dn index y bytes maxL ret wsy rm rm.cells rm.slots n) (hz : xZ s) (hP0 : va_P E.1 vwCl cin s.heap) (hA : A = va_A cin s.heap.size) (hlk : meth.locks = false) (hex : c.exceptionTable.isEmpty = true) (hQ : Q = XQ below E cin s.heap.size Cn args s)
    (q0 : Nat) (he : cin[q0]? = some (b, .inr (ci, fs))) (hc : vwCl[ci]? = some (Dn, T0, N))
    (hn : As.length = n) (hst : st = As.reverse ++ .ref b :: rest) (hroom : (rest.map fun v => v.category).sum ≤ 8) (hd : decode cc pc = .ok (.invokevirtual index, 3)) (hf : rm.cells ≤ R.cells ∧ rm.slots ≤ R.slots) : rG p l e R s m args below meth c E A nL 0 0 Q cin pc lv st := by
  intro H locs la hP hD hS hl T hT X
  subst hst hQ
  obtain ⟨⟨-, -, hfr, hlo, hws, hcw, hcode, hini, hy, hlen, hlnk⟩, hinst, hsel⟩ := cw
  obtain ⟨cellB, hcB, hoB, hclB⟩ := va_recv C.2.1 hP hc he
  obtain ⟨mk, methM, hnamed, hmethM, hstM, habM⟩ := Cond.instanceMethod_spec hinst
  obtain ⟨methM', cM, hmethM', -, -, -, -, -, -, hsigM⟩ := Cond.code_spec hnamed hcode
  have em : methM' = methM := Option.some.inj (hmethM'.symm.trans hmethM)
  subst em
  obtain ⟨c2, r2, m2, q1, q2, q3, q4, kP, hkP, hkPi⟩ := Cond.selects_spec hsel
  have e1 : c2 = cellB.cls := Option.some.inj (q1.symm.trans hclB)
  have e2 : r2 = mk := Option.some.inj (q2.symm.trans (State.methodFound?_of_named hnamed hy))
  have e3 : m2 = mk := Option.some.inj (q3.symm.trans hnamed)
  subst e1 e2 e3
  have hselP : selectMethod e.platform s.vm cellB.cls m2 = .method m2 := by rw [Launch.admits_selectMethod X.admits]; exact q4
  obtain ⟨vm1, X1, step1⟩ := X.invokevirtual C.1.1 C.1.2.2.2.1 hlnk hnamed hmethM hstM hkP hkPi hy (a := b) (cell := cellB) (by rw [hT]; exact hcB) (fun z h => by rw [h] at hoB; cases hoB) hselP hmethM habM hkP hkPi (g := F0 m pc la (As.reverse ++ .ref b :: rest)) rfl (argsL := As) (rest := rest) (hn.trans (hlen _ hsigM)) rfl (by rw [C.1.2.1]; exact hd)
  have hno : ∀ x ∈ c.exceptionTable.toList, covers x pc = false := fun x hx => by
    have h5 : c.exceptionTable.toList = [] := by simpa using hex
    rw [h5] at hx; cases hx
  obtain ⟨o, t, hs, hend, hq⟩ := x_into (g := F0 m pc la rest) (a := (Value.ref b :: As).toArray) (mk := m2) X1 (M H.size) rfl (by rw [C.1.2.2.1]; exact hl.1) (by rw [C.1.2.1]; exact hd) (X1.named hnamed) (fun w hw => hws w hw _ _ X1.warmed) hcw (word_at X1.warmed (Or.inl (by first | rfl | simp [Cond.onTables, Cond.keeps, Cond.steady])) hini) hfr (Nat.le_trans (Nat.add_le_add_right (Nat.add_le_add_right (lv_room hroom) _) _) hlo) (by rw [Nat.zero_add]; exact hf.1) (by rw [Nat.zero_add]; exact hf.2)
    ⟨rfl, ⟨by show T.heap.size = _; rw [hT], va_K.moved (U := (T.setVm vm1).calling (F0 m pc la rest) m2 (Value.ref b :: As).toArray) X1.warmed.alike C.2.1, by show va_P E.1 vwCl cin T.heap; rw [hT]; exact hP, hD.weaken (fun _ _ _ _ => trivial)⟩, xZ.calling (hz.go hP0 hA hS (U := T.setVm vm1) hT X1.warmed) _ _ _⟩
  obtain ⟨t2, st2, hfin⟩ := x_tail X1 rfl rfl rfl hno hlk (H := H) hT hend hq hP hS hA C.2.1 (Or.inr rfl)
  exact ⟨t2, step1 _ (fun acts => by rw [doInvoke_state]; exact hs.trans st2), hfin⟩
end RX5
