/-! constructors: a new array, a new object, the empty constructor of Object -/
section RV5
variable {p : Program} {l : Launch} {e : Env} {R : Room} {s : State} {m : MethodId} {args : Array Value} {below : List Frame} {meth : Method} {c : Code} {E : rE} {A : Nat → Prop} {nL cells slots : Nat} {Q : State → Prop} {ws : va_W} {pc : Nat} {lv : List (Nat × Value)} {st : List Value} {cc : ByteArray} {Ts : List Cond} {own : String}
theorem rg_newI (C : rC p s m args c E A nL cc Ts own) (n : Nat) {z : Int} (hz : z = (n : Int)) (hn : n ≤ 1000) (hcells : cells + 1 ≤ R.cells) (hslots : slots + n ≤ R.slots) (hd : decode cc pc = .ok (.newarray .int, 2)) (kk : ∀ q, rG p l e R s m args below meth c E A nL (cells + 1) (slots + n) Q (ws ++ [cI E q n (fun _ => 0)]) (pc + 2) lv (.ref q :: st)) : rG p l e R s m args below meth c E A nL cells slots Q ws pc lv (.int (iI z) :: st) := by
  intro H locs la hP hD hS hl
  have h0 : ¬ iI z < 0 := fun q => by
    have := (iI_lt (a := z) (b := 0) ⟨by omega, by omega⟩ inI_0).mp q
    omega
  refine va_newa (atype := .int) (a0 := (n, .inl (fun _ => iI 0))) (ty := .int) C.1.1 C.1.2.1 (C.1.2.2.2.2 _ (C.2.2.2 _ w_75)) rfl C.2.1 hP hD hS C.2.2.1 (fun cA => rfl) h0 (by rw [iI_cl (by omega) (by omega)]; omega) (by show n * 4 ≤ _; omega) hcells hslots hd (fun q cA H1 hK1 hP1 hD1 hS1 => ?_)
  have e1 : cA = E.2.1 := Option.some.inj ((hK1.2 3 _ rfl).2.symm.trans (C.2.1.2 0 _ rfl).2)
  subst e1
  exact kk q H1 locs la hP1 hD1 hS1 hl
theorem rg_newZ (C : rC p s m args c E A nL cc Ts own) (n : Nat) {z : Int} (hz : z = (n : Int)) (hn : n ≤ 1000) (hcells : cells + 1 ≤ R.cells) (hslots : slots + n ≤ R.slots) (hd : decode cc pc = .ok (.newarray .boolean, 2)) (kk : ∀ q, rG p l e R s m args below meth c E A nL (cells + 1) (slots + n) Q (ws ++ [cZ E q n (fun _ => 0)]) (pc + 2) lv (.ref q :: st)) : rG p l e R s m args below meth c E A nL cells slots Q ws pc lv (.int (iI z) :: st) := by
  intro H locs la hP hD hS hl
  have h0 : ¬ iI z < 0 := fun q => by
    have := (iI_lt (a := z) (b := 0) ⟨by omega, by omega⟩ inI_0).mp q
    omega
  refine va_newa (atype := .boolean) (a0 := (n, .inl (fun _ => iI 0))) (ty := .boolean) C.1.1 C.1.2.1 (C.1.2.2.2.2 _ (C.2.2.2 _ w_74)) rfl C.2.1 hP hD hS C.2.2.1 (fun cA => rfl) h0 (by rw [iI_cl (by omega) (by omega)]; omega) (by show n * 1 ≤ _; omega) hcells hslots hd (fun q cA H1 hK1 hP1 hD1 hS1 => ?_)
  have e1 : cA = E.2.2.1 := Option.some.inj ((hK1.2 3 _ rfl).2.symm.trans (C.2.1.2 1 _ rfl).2)
  subst e1
  exact kk q H1 locs la hP1 hD1 hS1 hl
theorem rg_newJ (C : rC p s m args c E A nL cc Ts own) (n : Nat) {z : Int} (hz : z = (n : Int)) (hn : n ≤ 1000) (hcells : cells + 1 ≤ R.cells) (hslots : slots + n ≤ R.slots) (hd : decode cc pc = .ok (.newarray .long, 2)) (kk : ∀ q, rG p l e R s m args below meth c E A nL (cells + 1) (slots + n) Q (ws ++ [cJ E q n (fun _ => 0)]) (pc + 2) lv (.ref q :: st)) : rG p l e R s m args below meth c E A nL cells slots Q ws pc lv (.int (iI z) :: st) := by
  intro H locs la hP hD hS hl
  have h0 : ¬ iI z < 0 := fun q => by
    have := (iI_lt (a := z) (b := 0) ⟨by omega, by omega⟩ inI_0).mp q
    omega
  refine va_newa (atype := .long) (a0 := (n, .inr (.inl (fun _ => lI 0)))) (ty := .long) C.1.1 C.1.2.1 (C.1.2.2.2.2 _ (C.2.2.2 _ w_76)) rfl C.2.1 hP hD hS C.2.2.1 (fun cA => rfl) h0 (by rw [iI_cl (by omega) (by omega)]; omega) (by show n * 8 ≤ _; omega) hcells hslots hd (fun q cA H1 hK1 hP1 hD1 hS1 => ?_)
  have e1 : cA = E.2.2.2 := Option.some.inj ((hK1.2 3 _ rfl).2.symm.trans (C.2.1.2 2 _ rfl).2)
  subst e1
  exact kk q H1 locs la hP1 hD1 hS1 hl
theorem rg_new (C : rC p s m args c E A nL cc Ts own) {Cn : String} {T : u_T} {N ci index : Nat} {ty : Nat → FieldType} {fs : List Value} (hin : ∀ w ∈ u_ws Cn T N, w ∈ gW) (L : rLay T N ty) (hcl : Cond.classLink own index Cn ∈ gW) (hinst : Cond.instantiable Cn N ∈ gW) (hini : Cond.initialized Cn ∈ gW) (hc : vwCl[ci]? = some (Cn, T, N)) (hfs : ∀ j, j < N → defaultValue (ty j) = vp_V fs j) (hcells : cells + 1 ≤ R.cells) (hslots : slots + N ≤ R.slots) (hd : decode cc pc = .ok (.new index, 3)) (kk : ∀ q, rG p l e R s m args below meth c E A nL (cells + 1) (slots + N) Q (ws ++ [cO q ci fs]) (pc + 3) lv (.ref q :: st)) : rG p l e R s m args below meth c E A nL cells slots Q ws pc lv st := by
  intro H locs la hP hD hS hl
  exact va_new C.1.1 C.1.2.1 C.1.2.2.2.2 (fun w h => C.2.2.2 w (hin w h)) ty L.1 C.1.2.2.2.1 (C.1.2.2.2.2 _ (C.2.2.2 _ hcl)) (C.1.2.2.2.2 _ (C.2.2.2 _ hinst)) (C.1.2.2.2.2 _ (C.2.2.2 _ hini)) C.2.1 hP hD hS C.2.2.1 hc hfs hcells hslots hd (fun q H1 hP1 hD1 hS1 => kk q H1 locs la hP1 hD1 hS1 hl)
theorem rg_objInit (C : rC p s m args c E A nL cc Ts own) {a index : Nat} (hl : Cond.methodLink own index ⟨"java/lang/Object", "<init>", "()V"⟩ ∈ gW) (hd : decode cc pc = .ok (.invokespecial index, 3)) (hR : 1 ≤ R.frames ∧ 12 ≤ R.locals) (kk : rG p l e R s m args below meth c E A nL cells slots Q ws (pc + 3) lv []) : rG p l e R s m args below meth c E A nL cells slots Q ws pc lv [.ref a] := by
  intro H locs la hP hD hS hla
  exact W.objInit (a := a) (rest := []) C.1.1 C.1.2.1 C.1.2.2.2.1 (C.1.2.2.2.2 _ (C.2.2.2 _ hl)) (C.1.2.2.2.2 _ (C.2.2.2 _ w_43)) (C.1.2.2.2.2 _ (C.2.2.2 _ w_44)) rfl (by rw [C.1.2.2.1]; exact hla.1) rfl hd hR.1 hR.2 (kk H locs la hP hD hS hla)
theorem rg_cat {ws' : va_W} (h : ws = ws') (kk : rG p l e R s m args below meth c E A nL cells slots Q ws' pc lv st) : rG p l e R s m args below meth c E A nL cells slots Q ws pc lv st := h ▸ kk
end RV5
