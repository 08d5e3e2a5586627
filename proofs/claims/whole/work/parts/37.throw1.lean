/-! contracts of calls that throw: the world stays, a new exception of the named kind comes -/
def qX (E : rE) (cin : va_W) (sz : Nat) (Cn : String) : Array Value → State → Outcome → State → Prop := fun _ st o t => ∃ (q : Addr) (ce : Cell), o = .threw q ∧ st.heap.size ≤ q ∧ t.heap[q]? = some ce ∧ ce.vm = .none ∧ st.vm.findClass Cn = some ce.cls ∧ rK E t ∧ va_P E.1 vwCl cin t.heap ∧ va_F (va_A cin sz) st t ∧ st.WarmedH t.vm ∧ ∃ L, st.sameButNew ({ t with vm := st.vm } : State) L 1 6 ∧ ∀ y ∈ L, va_A cin sz y.base
def XQ (below : List Frame) (E : rE) (cin : va_W) (sz : Nat) (Cn : String) (a : Array Value) (s : State) : State → Prop := fun t => ∃ o, t.status = .running ∧ Ended t below o ∧ qX E cin sz Cn a s o t
def rX (Z : State → Prop) (l : Launch) (y : MethodName) (ws : List Cond) (rm : Room) (E : rE) (cin : va_W) (av : List Value) (Cn : String) : Prop := ∀ sz : Nat, MetFree l y (headSpec ws rm) (va_Pc av (fun U => rP E cin sz U ∧ Z U)) (fun _ _ _ _ _ => True) (qX E cin sz Cn)
theorem rX.of {Z : State → Prop} {l : Launch} {y : MethodName} {ws ws' : List Cond} {rm : Room} {E : rE} {cin : va_W} {av : List Value} {Cn : String} {cc : ByteArray} {maxL : Nat} {ret : Option FieldType}
    (hy : plainName y.cls = true) (hw : ws = Cond.code y cc maxL ret :: ws') (hle : (lg_sl av).length ≤ maxL) (hg : ∀ w ∈ gW, w ∈ ws)
    (body : ∀ (p : Program) (e : Env) (s : State) (m : MethodId) (args : Array Value) (below : List Frame) (meth : Method) (c : Code) (A : Nat → Prop) (Q : State → Prop), l.admits e → Z s → va_P E.1 vwCl cin s.heap → A = va_A cin s.heap.size → Q = XQ below E cin s.heap.size Cn args s → rC p s m args c E A maxL cc ws y.cls → meth.locks = false → c.exceptionTable.isEmpty = true →
      rG p l e rm s m args below meth c E A maxL 0 0 Q cin 0 (lv_args 0 av) []) : rX Z l y ws rm E cin av Cn := by
  intro sz
  have key : ∀ (args : Array Value) (s : State) (m : MethodId), (headSpec ws rm).pre.before args s = true → s.methodNamed? y = some m → ∃ meth c, s.vm.method? m = some meth ∧ meth.code = some c ∧ c.code = cc ∧ c.maxLocals = maxL ∧ meth.sig.returnType = ret ∧ meth.locks = false ∧ c.exceptionTable.isEmpty = true := by
    intro args s m h hn
    obtain ⟨meth, c, h1, h2, h3, h4, h5, h6, h7, -⟩ := Cond.code_spec hn (atoms_spec (ws := ws) h _ (by rw [hw]; exact List.mem_cons_self))
    exact ⟨meth, c, h1, h2, h3, h4, h5, h6, h7⟩
  refine MetFree.of_bodyS (code := cc) (maxLocals := maxL) (ret := ret) hy ?_ ?_
  · intro args s m h hn
    obtain ⟨meth, c, h1, h2, h3, h4, h5, h6, -⟩ := key args s m h hn
    exact ⟨meth, c, h1, h2, h3, h4, h5, h6⟩
  · intro p e s m args below meth c s₁ B hml hP _
    have hh0 : s₁.heap = s.heap := by rw [B.state]; rfl
    have X0 := Stand.of_body B
    obtain ⟨meth', c', h1, h2, -, -, -, -, h7⟩ := key args s m B.pre B.named
    have em : meth' = meth := Option.some.inj (h1.symm.trans B.method)
    subst em
    have ec : c' = c := Option.some.inj (h2.symm.trans X0.code)
    subst ec
    obtain ⟨rfl, ⟨hsz, hK, hP1, hD0⟩, hZ⟩ := hP
    subst hsz
    have hb := body p e s m av.toArray below meth' c' (va_A cin s.heap.size) _ B.admits hZ hP1 rfl rfl ⟨⟨B.exec, B.bytes, hml, findClass_of_methodNamed B.named, atoms_spec (ws := ws) B.pre⟩, hK, fun q h => Or.inr h, hg⟩ B.notSynchronized h7
    have hb2 := hb s.heap [] _ hP1 hD0.self va_S.rf (lv_entry av hle)
    rw [← lg_entry_eq] at hb2
    obtain ⟨t, a1, o, b1, b2, b3⟩ := hb2 s₁ hh0 X0
    exact ⟨t, o, a1, b1, b2, b3⟩
/-- a cell of the world is no cell of statics -/
theorem vaP_ns {E : rE} {cin : va_W} {H : Heap} (h : va_P E.1 vwCl cin H) {k : Nat} {q : Nat} {x : va_E} (hk : cin[k]? = some (q, x)) {cell : Cell} (hc : H[q]? = some cell) : cell.vm.isStatics = false := by
  have h1 := h k _ hk
  rcases x with ⟨cA, a0⟩ | ⟨ci, fs⟩
  · have h2 : H[q]? = some (vp_cell cA a0) := h1
    have h3 : cell = vp_cell cA a0 := Option.some.inj (hc.symm.trans h2)
    subst h3
    obtain ⟨n, a⟩ := a0
    rcases a with a | a | a | a | a <;> rfl
  · obtain ⟨q', h2, cell', g1, g2, g3, -⟩ := h1
    have h3 : cell = cell' := Option.some.inj (hc.symm.trans g1)
    subst h3
    rw [g3]; rfl
section RX2
variable {p : Program} {l : Launch} {e : Env} {R : Room} {s : State} {m : MethodId} {args : Array Value} {below : List Frame} {meth : Method} {c : Code} {E : rE} {A : Nat → Prop} {nL : Nat} {Q : State → Prop} {pc : Nat} {lv : List (Nat × Value)} {cc : ByteArray} {Ts : List Cond} {own : String}
theorem rg_throw {cin : va_W} {cls sup tx : String} {names : List String} {ic ix icl ist q : Nat} {rx : ByteArray} (C : rC p s m args c E A nL cc Ts own) (htr : e.platform.stackTraces = false) (K : xTab args s own cls sup names ic ix rx)
    (hcl : Cond.classLink own icl cls ∈ gW) (hins : Cond.instantiable cls 6 ∈ gW) (hini : Cond.initialized cls ∈ gW) (hs : vk_R own ist tx q s) (hP0 : va_P E.1 vwCl cin s.heap) (hA : A = va_A cin s.heap.size) (hlk : meth.locks = false) (hex : c.exceptionTable.isEmpty = true) (hQ : Q = XQ below E cin s.heap.size cls args s)
    (hd0 : decode cc pc = .ok (.new icl, 3)) (hd3 : decode cc (pc + 3) = .ok (.dup, 1)) (hd4 : decode cc (pc + 4) = .ok (.ldc ist, 2)) (hd6 : decode cc (pc + 6) = .ok (.invokespecial ic, 3)) (hd9 : decode cc (pc + 9) = .ok (.athrow, 1))
    (hR : names.length + 4 < R.frames ∧ 1 + (13 * (names.length + 2) + 42) ≤ R.locals ∧ 1 ≤ R.cells ∧ 6 ≤ R.slots) : rG p l e R s m args below meth c E A nL 0 0 Q cin pc lv [] := by
  intro H locs la hP hD hS hl
  subst hQ
  refine W.newc C.1.1 C.1.2.1 C.1.2.2.2.1 (C.1.2.2.2.2 _ (C.2.2.2 _ hcl)) (C.1.2.2.2.2 _ (C.2.2.2 _ hins)) (C.1.2.2.2.2 _ (C.2.2.2 _ hini)) rfl hd0 (by omega) (by omega) (fun cC kC h1 h2 h3 h4 => ?_)
  refine lv_dup C.1.1 C.1.2.1 hd3 rfl ?_
  refine va_ldcS C.1.1 C.1.2.1 C.1.2.2.2.1 hs hd4 ?_
  intro T hT X
  have hcell : T.heap[H.size]? = some (freshCell cC kC) := by rw [hT]; simp
  have hno : ∀ x ∈ c.exceptionTable.toList, covers x (pc + 9) = false := fun x hx => by
    have h5 : c.exceptionTable.toList = [] := by simpa using hex
    rw [h5] at hx; cases hx
  have hlo : ∀ x ∈ locs, ∀ cell, s.heap[x.base]? = some cell → cell.vm.isStatics = false := fun x hx cell hc => by
    have h5 := hS.2.2 x hx
    rw [hA] at h5
    rcases h5 with ⟨k, x2, hk⟩ | h5
    · exact vaP_ns hP0 hk hc
    · rw [Array.getElem?_eq_none h5] at hc; cases hc
  obtain ⟨U, ce, st, hr, he, hW, hsm, hh, hc1, hc2⟩ := x_throw X C.1.1 htr K C.1.2.2.2.1 hlo h1 h2 h3 hcell hS.1 (msg := .ref q) rfl (g := F0 m (pc + 6) la [.ref q, .ref H.size, .ref H.size]) rfl (by rw [C.1.2.2.1]; exact hl.1) rfl rfl rfl (by rw [C.1.2.1]; exact hd6) (by rw [C.1.2.1]; exact hd9) hno hR.1 (Nat.le_trans (Nat.le_of_eq (by show 2 * 0 + 1 + _ = _; omega)) hR.2.1) hlk
  have hlt : ∀ z, z < H.size → U.heap[z]? = H[z]? := fun z hz => by
    rw [hh, hT, Array.getElem?_setIfInBounds_ne (by omega), Array.getElem?_push, if_neg (by omega)]
  refine ⟨U, st, .threw H.size, hr, he, H.size, ce, rfl, hS.1, ?_, hc2, by rw [hc1]; exact h1, va_K.moved hW.alike C.2.1, hP.kept (fun k x hx => hlt _ ((hP k x hx).lt)), ⟨?_, ?_⟩, hW, locs, hsm, ?_⟩
  · rw [hh, hT]; simp
  · rw [hh, hT]; simp; have := hS.1; omega
  · intro z hz hn
    rw [hlt z (Nat.lt_of_lt_of_le hz hS.1)]
    exact hS.2.1 z hz (by rw [hA]; exact hn)
  · intro y hy
    have h5 := hS.2.2 y hy
    rw [hA] at h5
    exact h5
end RX2
