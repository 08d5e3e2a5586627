/-! contracts with a further premise on the state, and calls of a nest mate's constructor -/
def rMZ (Z : State → Prop) (l : Launch) (y : MethodName) (ws : List Cond) (rm : Room) (E : rE) (cin : va_W) (av : List Value) {S : Type} (r : Option Value) (cout : S → va_W) : Prop := ∀ sz : Nat, Met l y ws rm (va_Pc av (fun U => rP E cin sz U ∧ Z U)) (rQ E cin sz r cout) rm.cells rm.slots (va_A cin sz)
/-- Z sees no frame, and stays when the tables warm -/
def zOk (Z : State → Prop) : Prop := (∀ (U : State) (g : JFrame) (mk : MethodId) (a : Array Value), Z U → Z (U.calling g mk a)) ∧ ∀ (s U : State), s.WarmedH U.vm → Z s → Z U
theorem rPZ_blind {Z : State → Prop} (hZ : zOk Z) (E : rE) (cin : va_W) (sz : Nat) (av : List Value) : FrameBlind (va_Pc av (fun U => rP E cin sz U ∧ Z U)) := fun a U g mk q => by
  obtain ⟨q0, ⟨q1, qK, qP, qD⟩, qZ⟩ := q
  exact ⟨q0, ⟨q1, va_K.moved (u := U) (U := U.calling g mk a) (Vm.Alike.refl U.vm) qK, qP, qD⟩, hZ.1 U g mk a qZ⟩
theorem rMZ.of {Z : State → Prop} {l : Launch} {y : MethodName} {ws ws' : List Cond} {rm : Room} {E : rE} {cin : va_W} {av : List Value} {S : Type} {r : Option Value} {cout : S → va_W} {cc : ByteArray} {maxL : Nat} {ret : Option FieldType}
    (hy : plainName y.cls = true) (hw : ws = Cond.code y cc maxL ret :: ws') (hle : (lg_sl av).length ≤ maxL)
    (hg : ∀ w ∈ gW, w ∈ ws)
    (body : ∀ (p : Program) (e : Env) (s : State) (m : MethodId) (args : Array Value) (below : List Frame) (meth : Method) (c : Code) (A : Nat → Prop) (Q : State → Prop), Z s → A = va_A cin s.heap.size → Q = MQ below (rQ E cin s.heap.size r cout) args s rm.cells rm.slots A → rC p s m args c E A maxL cc ws y.cls → meth.sig.returnType = ret → meth.locks = false → meth.name = y.name →
      rG p l e rm s m args below meth c E A maxL 0 0 Q cin 0 (lv_args 0 av) []) : rMZ Z l y ws rm E cin av r cout := by
  intro sz
  refine Met.ofW (cc := cc) (maxL := maxL) (ret := ret) hy hw ?_
  intro p e s m args below meth c s₁ B hml hv
  obtain ⟨rfl, ⟨hsz, hK, hP, hD0⟩, hZ⟩ := hv
  subst hsz
  have hb := body p e s m av.toArray below meth c (va_A cin s.heap.size) _ hZ rfl rfl ⟨⟨B.exec, B.bytes, hml, findClass_of_methodNamed B.named, atoms_spec (ws := ws) B.pre⟩, hK, fun q h => Or.inr h, hg⟩ B.returns B.notSynchronized (name_of_methodNamed B.named B.method).1
  rw [lg_entry_eq]
  exact hb s.heap [] _ hP hD0.self va_S.rf (lv_entry av hle)
section RV6
variable {p : Program} {l : Launch} {e : Env} {R : Room} {s : State} {m : MethodId} {args : Array Value} {below : List Frame} {meth : Method} {c : Code} {E : rE} {A : Nat → Prop} {nL cells slots : Nat} {Q : State → Prop} {ws : va_W} {pc : Nat} {lv : List (Nat × Value)} {st : List Value} {cc : ByteArray} {Ts : List Cond} {own : String}
variable {S : Type} {cin wr : va_W} {cout w' : S → va_W} {r : Option Value}
variable {y : MethodName} {bytes : ByteArray} {maxL index n : Nat} {ret : Option FieldType} {wsy : List Cond} {rm : Room} {As rest : List Value} {b : Nat} {host : String}
theorem rg_callIN (C : rC p s m args c E A nL cc Ts own) (M : rM l y wsy rm E cin (.ref b :: As) r cout) (cw : va_CN R s args own index y host bytes maxL none wsy rm rm.cells rm.slots n ∧ y.name = "<init>" ∧ (Cond.instanceMethod y).before args s = true)
    (isC isR ps : List Nat) (hC : isC.map (fun i => ws[i]?) = cin.map some) (hR : isR.map (fun i => ws[i]?) = wr.map some) (hnC : va_nd isC = true) (hnR : va_nd isR = true) (hdis : ∀ i ∈ isR, i ∉ isC)
    (hps : ∀ u, ps.map (fun i => (wr ++ cout u)[i]?) = (w' u).map some) (hnp : va_nd ps = true)
    (hn : As.length = n) (hst : st = As.reverse ++ .ref b :: rest) (hroom : (rest.map fun v => v.category).sum ≤ 8)
    (hd : decode cc pc = .ok (.invokespecial index, 3)) (hf : cells + rm.cells ≤ R.cells ∧ slots + rm.slots ≤ R.slots)
    (kk : ∀ u, rG p l e R s m args below meth c E A nL (cells + rm.cells) (slots + rm.slots) Q (w' u) (pc + 3) lv (r.toList ++ rest)) : rG p l e R s m args below meth c E A nL cells slots Q ws pc lv st := by
  intro H locs la hP hD hS hl
  subst hst
  have hPc := hP.sub isC (sel_map hC)
  have hDc := hD.sub isC hnC hC
  exact rg_after C hP hD hS hl (va_runIN (As := As) (rest := rest) C.1 (M H.size) cw ⟨rP_blind E cin H.size _, fun U hU hW => ⟨rfl, by rw [hU], va_K.moved hW.alike C.2.1, by rw [hU]; exact hPc, hDc.weaken (fun _ _ _ _ => trivial)⟩⟩ rfl hn hl.1 rfl (lv_room hroom) hd hf) isC isR ps hC hR hnR hdis hps hnp kk
theorem rcwIN (C : rC p s m args c E A nL cc Ts own) (h1 : Cond.instanceMethod y ∈ gW) (h2 : Cond.initialized y.cls ∈ gW) (h3 : Cond.code y bytes maxL none ∈ gW) (hl : va_Nw (.methodLinkNest own index y host) s) (hd : y.cls ≠ "java/lang/invoke/MethodHandle" ∧ y.cls ≠ "java/lang/invoke/VarHandle" ∧ (parseMethodDescriptor y.desc).map (fun d => d.parameters.length) = some n) (hi : y.name = "<init>") (hR : rm.frames + 1 ≤ R.frames ∧ 8 + (maxL + 11) + rm.locals ≤ R.locals) :
    va_CN R s args own index y host bytes maxL none (Cond.code y bytes maxL none :: gW) rm rm.cells rm.slots n ∧ y.name = "<init>" ∧ (Cond.instanceMethod y).before args s = true := by
  refine ⟨va_cnB n C.1.2.2.2.2 (gAll C.2.2.2 fun w h => ?_) rfl rfl rfl hl (C.1.2.2.2.2 _ (C.2.2.2 _ h2)) hd hR, hi, C.1.2.2.2.2 _ (C.2.2.2 _ h1)⟩
  rcases List.mem_cons.mp h with rfl | h
  · exact h3
  · exact h
end RV6
/-- what the nest mates' constructors need of the tables -/
def nwZ (U : State) : Prop := va_Nw (.methodLinkNest "RiverDesk" 9 yX4_init "RiverDesk") U ∧ va_Nw (.methodLinkNest "RiverDesk" 18 yX2_init "RiverDesk") U ∧ va_Nw (.methodLinkNest "RiverDesk" 25 yX3_init "RiverDesk") U ∧ va_Nw (.methodLinkNest "RiverDesk" 32 yX0_init "RiverDesk") U ∧ va_Nw (.methodLinkNest "RiverDesk" 39 yX1_init "RiverDesk") U
theorem nwZ_ok : zOk nwZ := ⟨fun _ _ _ _ h => ⟨va_Nw.same rfl rfl h.1, va_Nw.same rfl rfl h.2.1, va_Nw.same rfl rfl h.2.2.1, va_Nw.same rfl rfl h.2.2.2.1, va_Nw.same rfl rfl h.2.2.2.2⟩, fun _ _ hW h => ⟨va_Nw.warmM hW h.1, va_Nw.warmM hW h.2.1, va_Nw.warmM hW h.2.2.1, va_Nw.warmM hW h.2.2.2.1, va_Nw.warmM hW h.2.2.2.2⟩⟩
