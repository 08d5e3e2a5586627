/-! numbers: an int is iI z, a long is lI z, for a z : Int; sums, differences and products need no bound -/
def iI (z : Int) : Int32 := Int32.ofInt z
def lI (z : Int) : Int64 := Int64.ofInt z
abbrev inI (z : Int) : Prop := -2147483648 ≤ z ∧ z ≤ 2147483647
abbrev inL (z : Int) : Prop := -9223372036854775808 ≤ z ∧ z ≤ 9223372036854775807
theorem iI_to {z : Int} (h : inI z) : (iI z).toInt = z := Int32.toInt_ofInt_of_le (by have := h.1; omega) (by have := h.2; omega)
theorem lI_to {z : Int} (h : inL z) : (lI z).toInt = z := Int64.toInt_ofInt_of_le (by have := h.1; omega) (by have := h.2; omega)
theorem iI_of (x : Int32) : ∃ z : Int, inI z ∧ x = iI z := ⟨x.toInt, ⟨by have := Int32.le_toInt x; omega, by have := Int32.toInt_lt x; omega⟩, (Int32.ofInt_toInt x).symm⟩
theorem iI_add (a b : Int) : iI a + iI b = iI (a + b) := (Int32.ofInt_add a b).symm
theorem iI_sub (a b : Int) : iI a - iI b = iI (a - b) := (Int32.ofInt_sub a b).symm
theorem iI_mul (a b : Int) : iI a * iI b = iI (a * b) := (Int32.ofInt_mul a b).symm
theorem lI_add (a b : Int) : lI a + lI b = lI (a + b) := (Int64.ofInt_add a b).symm
theorem lI_sub (a b : Int) : lI a - lI b = lI (a - b) := (Int64.ofInt_sub a b).symm
theorem lI_mul (a b : Int) : lI a * lI b = lI (a * b) := (Int64.ofInt_mul a b).symm
theorem iI_le {a b : Int} (ha : inI a) (hb : inI b) : iI a ≤ iI b ↔ a ≤ b := by rw [Int32.le_iff_toInt_le, iI_to ha, iI_to hb]
theorem iI_lt {a b : Int} (ha : inI a) (hb : inI b) : iI a < iI b ↔ a < b := by rw [Int32.lt_iff_toInt_lt, iI_to ha, iI_to hb]
theorem iI_eq {a b : Int} (ha : inI a) (hb : inI b) : iI a = iI b ↔ a = b := by rw [← Int32.toInt_inj, iI_to ha, iI_to hb]
theorem lI_le {a b : Int} (ha : inL a) (hb : inL b) : lI a ≤ lI b ↔ a ≤ b := by rw [Int64.le_iff_toInt_le, lI_to ha, lI_to hb]
theorem lI_lt {a b : Int} (ha : inL a) (hb : inL b) : lI a < lI b ↔ a < b := by rw [Int64.lt_iff_toInt_lt, lI_to ha, lI_to hb]
theorem lI_eq {a b : Int} (ha : inL a) (hb : inL b) : lI a = lI b ↔ a = b := by rw [← Int64.toInt_inj, lI_to ha, lI_to hb]
theorem iI_0 : iI 0 = 0 := rfl
theorem inI_0 : inI 0 := ⟨by decide, by decide⟩
theorem iI_cl {z : Int} (h0 : 0 ≤ z) (h : z ≤ 2147483647) : (iI z).toNatClampNeg = z.toNat := Int32.toNatClampNeg_ofInt_of_le (by omega) (by omega)
theorem iI_in {z : Int} {n : Nat} (h0 : 0 ≤ z) (h : z < n) (hn : n < 2147483648) : vp_in (iI z) n := by
  rw [vp_in_iff, iI_to ⟨by omega, by omega⟩]
  exact ⟨h0, h⟩
theorem iI_l {z : Int} (h : inI z) : (iI z).toInt64 = lI z := Int64.toInt_inj.mp (by rw [Int32.toInt_toInt64, iI_to h, lI_to ⟨by have := h.1; omega, by have := h.2; omega⟩])
theorem lI_i (z : Int) : (lI z).toInt32 = iI z := Int64.toInt32_ofInt
theorem iI_div {a b : Int} (ha : inI a) (h0 : 0 ≤ a) (hb : 0 < b) (hb2 : inI b) : iI a / iI b = iI (a / b) := by
  have hq : a / b ≤ a := Int.ediv_le_self b h0
  have hq0 : 0 ≤ a / b := Int.ediv_nonneg h0 (by omega)
  have hne : iI b ≠ -1 := fun h => by
    have h1 : (iI b).toInt = (-1 : Int32).toInt := by rw [h]
    rw [iI_to hb2, show ((-1 : Int32)).toInt = -1 from by decide] at h1
    omega
  refine Int32.toInt_inj.mp ?_
  rw [Int32.toInt_div_of_ne_right _ _ hne, iI_to ha, iI_to hb2, iI_to ⟨by omega, by have := ha.2; omega⟩]
  exact Int.tdiv_eq_ediv_of_nonneg h0
theorem lI_div {a b : Int} (ha : inL a) (h0 : 0 ≤ a) (hb : 0 < b) (hb2 : inL b) : lI a / lI b = lI (a / b) := by
  have hq : a / b ≤ a := Int.ediv_le_self b h0
  have hq0 : 0 ≤ a / b := Int.ediv_nonneg h0 (by omega)
  have hne : lI b ≠ -1 := fun h => by
    have h1 : (lI b).toInt = (-1 : Int64).toInt := by rw [h]
    rw [lI_to hb2, show ((-1 : Int64)).toInt = -1 from by decide] at h1
    omega
  refine Int64.toInt_inj.mp ?_
  rw [Int64.toInt_div_of_ne_right _ _ hne, lI_to ha, lI_to hb2, lI_to ⟨by omega, by have := ha.2; omega⟩]
  exact Int.tdiv_eq_ediv_of_nonneg h0
theorem iI_ne0 {b : Int} (hb : b ≠ 0) (h : inI b) : ¬ iI b = 0 := fun q => hb ((iI_eq h inI_0).mp (q.trans iI_0.symm))
theorem lI_ne0 {b : Int} (hb : b ≠ 0) (h : inL b) : ¬ lI b = 0 := fun q => hb ((lI_eq h ⟨by decide, by decide⟩).mp (q.trans (show (0 : Int64) = lI 0 from rfl)))
/-- an array's contents, one place changed -/
def uZ (f : Nat → Int) (j : Nat) (x : Int) : Nat → Int := fun k => if k = j then x else f k
theorem uZ_s (f : Nat → Int) (j : Nat) (x : Int) : uZ f j x j = x := by simp [uZ]
theorem uZ_n (f : Nat → Int) {j k : Nat} (x : Int) (h : k ≠ j) : uZ f j x k = f k := by simp [uZ, h]
theorem upd_iI (f : Nat → Int) (j : Nat) (x : Int) : upd (fun k => iI (f k)) j (iI x) = fun k => iI (uZ f j x k) := by
  funext k
  unfold upd uZ
  split <;> rfl
theorem upd_lI (f : Nat → Int) (j : Nat) (x : Int) : vp_updL (fun k => lI (f k)) j (lI x) = fun k => lI (uZ f j x k) := by
  funext k
  unfold vp_updL uZ
  split <;> rfl
/-! the cells: E holds the classes' numbers and those of int[], boolean[], long[] -/
abbrev rE : Type := va_G × ClassId × ClassId × ClassId
abbrev rTy (E : rE) : List (ClassId × FieldType) := [(E.2.1, .int), (E.2.2.1, .boolean), (E.2.2.2, .long)]
abbrev cI (E : rE) (a n : Nat) (f : Nat → Int) : Nat × va_E := (a, .inl (E.2.1, n, .inl (fun k => iI (f k))))
abbrev cZ (E : rE) (a n : Nat) (f : Nat → Int) : Nat × va_E := (a, .inl (E.2.2.1, n, .inl (fun k => iI (f k))))
abbrev cJ (E : rE) (a n : Nat) (f : Nat → Int) : Nat × va_E := (a, .inl (E.2.2.2, n, .inr (.inl (fun k => lI (f k)))))
abbrev cO (a ci : Nat) (fs : List Value) : Nat × va_E := (a, .inr (ci, fs))
abbrev rK (E : rE) (U : State) : Prop := va_K E.1 vwCl (rTy E) U
/-- what is fixed in a method's walk -/
def rC (p : Program) (s : State) (m : MethodId) (args : Array Value) (c : Code) (E : rE) (A : Nat → Prop) (nL : Nat) (cc : ByteArray) (Ts : List Cond) (own : String) : Prop := CallFix p m c cc nL s args Ts own ∧ rK E s ∧ (∀ q, s.heap.size ≤ q → A q) ∧ ∀ w ∈ gW, w ∈ Ts
/-- the goal: at pc, with the cells ws, the locals lv, the operands st, the machine comes to Q -/
def rG (p : Program) (l : Launch) (e : Env) (R : Room) (s : State) (m : MethodId) (args : Array Value) (below : List Frame) (meth : Method) (c : Code) (E : rE) (A : Nat → Prop) (nL cells slots : Nat) (Q : State → Prop) (ws : va_W) (pc : Nat) (lv : List (Nat × Value)) (st : List Value) : Prop :=
  ∀ (H : Heap) (locs : List Loc) (la : Array Slot), va_P E.1 vwCl ws H → va_D A ws → va_S A s.heap H locs → lv_has la nL lv → W p l e R s m args below meth c H locs cells slots Q (F0 m pc la st)
section RV1
variable {p : Program} {l : Launch} {e : Env} {R : Room} {s : State} {m : MethodId} {args : Array Value} {below : List Frame} {meth : Method} {c : Code} {E : rE} {A : Nat → Prop} {nL cells slots : Nat} {Q : State → Prop} {ws : va_W} {pc : Nat} {lv : List (Nat × Value)} {st : List Value} {cc : ByteArray} {Ts : List Cond} {own : String}

theorem rG.plv {lv' : List (Nat × Value)} (ks : List Nat) (h : lv_pick lv ks = lv') (kk : rG p l e R s m args below meth c E A nL cells slots Q ws pc lv' st) : rG p l e R s m args below meth c E A nL cells slots Q ws pc lv st := fun H locs la hP hD hS hl => kk H locs la hP hD hS (lv_sub hl ks h)
theorem rG.pws {ws' : va_W} (h : ws = ws') (kk : rG p l e R s m args below meth c E A nL cells slots Q ws' pc lv st) : rG p l e R s m args below meth c E A nL cells slots Q ws pc lv st := h ▸ kk
theorem rG.pst {st' : List Value} (h : st = st') (kk : rG p l e R s m args below meth c E A nL cells slots Q ws pc lv st') : rG p l e R s m args below meth c E A nL cells slots Q ws pc lv st := h ▸ kk
theorem rG.eqlv {lv' : List (Nat × Value)} (h : lv = lv') (kk : rG p l e R s m args below meth c E A nL cells slots Q ws pc lv' st) : rG p l e R s m args below meth c E A nL cells slots Q ws pc lv st := h ▸ kk
theorem rG.wide {k n : Nat} (h1 : cells ≤ k) (h2 : slots ≤ n) (kk : rG p l e R s m args below meth c E A nL k n Q ws pc lv st) : rG p l e R s m args below meth c E A nL cells slots Q ws pc lv st := fun H locs la hP hD hS hl => W.widen h1 h2 (kk H locs la hP hD hS hl)
theorem sel_map {is : List Nat} {w w' : va_W} (h : is.map (fun i => w[i]?) = w'.map some) : is.filterMap (fun i => w[i]?) = w' := by
  have : is.filterMap (fun i => w[i]?) = (is.map (fun i => w[i]?)).filterMap id := by rw [List.filterMap_map]; rfl
  rw [this, h, List.filterMap_map]
  simp
theorem rG.sub {ws' : va_W} (is : List Nat) (hn : va_nd is = true) (h : is.map (fun i => ws[i]?) = ws'.map some) (kk : rG p l e R s m args below meth c E A nL cells slots Q ws' pc lv st) : rG p l e R s m args below meth c E A nL cells slots Q ws pc lv st := fun H locs la hP hD hS hl => kk H locs la (hP.sub is (sel_map h)) (hD.sub is hn h) hS hl
theorem rg_iconst (C : rC p s m args c E A nL cc Ts own) {n : Int} (hd : decode cc pc = .ok (.iconst n, 1)) (kk : rG p l e R s m args below meth c E A nL cells slots Q ws (pc + 1) lv (.int (iI n) :: st)) : rG p l e R s m args below meth c E A nL cells slots Q ws pc lv st := by
  intro H locs la hP hD hS hl
  exact lv_iconst (v := iI n) C.1.1 C.1.2.1 hd rfl (kk H locs la hP hD hS hl)
theorem rg_bipush (C : rC p s m args c E A nL cc Ts own) {n z : Int} (hd : decode cc pc = .ok (.bipush n, 2)) (hv : (Int8.ofInt n).toInt32 = iI z) (kk : rG p l e R s m args below meth c E A nL cells slots Q ws (pc + 2) lv (.int (iI z) :: st)) : rG p l e R s m args below meth c E A nL cells slots Q ws pc lv st := by
  intro H locs la hP hD hS hl
  exact lv_bipush C.1.1 C.1.2.1 hd hv (kk H locs la hP hD hS hl)
theorem rg_sipush (C : rC p s m args c E A nL cc Ts own) {n z : Int} (hd : decode cc pc = .ok (.sipush n, 3)) (hv : (Int16.ofInt n).toInt32 = iI z) (kk : rG p l e R s m args below meth c E A nL cells slots Q ws (pc + 3) lv (.int (iI z) :: st)) : rG p l e R s m args below meth c E A nL cells slots Q ws pc lv st := by
  intro H locs la hP hD hS hl
  exact lv_sipush C.1.1 C.1.2.1 hd hv (kk H locs la hP hD hS hl)
theorem rg_lconst (C : rC p s m args c E A nL cc Ts own) {n : Fin 2} {z : Int} (hd : decode cc pc = .ok (.lconst n, 1)) (hv : Int64.ofNat (n : Nat) = lI z) (kk : rG p l e R s m args below meth c E A nL cells slots Q ws (pc + 1) lv (.long (lI z) :: st)) : rG p l e R s m args below meth c E A nL cells slots Q ws pc lv st := by
  intro H locs la hP hD hS hl
  exact lv_lconst C.1.1 C.1.2.1 hd hv (kk H locs la hP hD hS hl)
theorem rg_ldc (C : rC p s m args c E A nL cc Ts own) {index : Nat} {v : Int32} {z : Int} (hm : Jvm.Cond.constant own index v ∈ gW) (hv : v = iI z) (hd : decode cc pc = .ok (.ldc index, 2)) (kk : rG p l e R s m args below meth c E A nL cells slots Q ws (pc + 2) lv (.int (iI z) :: st)) : rG p l e R s m args below meth c E A nL cells slots Q ws pc lv st := by
  intro H locs la hP hD hS hl
  subst hv
  exact lv_ldc C.1.1 C.1.2.1 C.1.2.2.2.1 (C.1.2.2.2.2 _ (C.2.2.2 _ hm)) hd (kk H locs la hP hD hS hl)
theorem rg_ldc2 (C : rC p s m args c E A nL cc Ts own) {index : Nat} {v : Int64} {z : Int} (hm : Jvm.Cond.constantLong own index v ∈ gW) (hv : v = lI z) (hd : decode cc pc = .ok (.ldc2_w index, 3)) (kk : rG p l e R s m args below meth c E A nL cells slots Q ws (pc + 3) lv (.long (lI z) :: st)) : rG p l e R s m args below meth c E A nL cells slots Q ws pc lv st := by
  intro H locs la hP hD hS hl
  subst hv
  exact lv_ldc2 C.1.1 C.1.2.1 C.1.2.2.2.1 (C.1.2.2.2.2 _ (C.2.2.2 _ hm)) hd (kk H locs la hP hD hS hl)
theorem rg_iload_n (C : rC p s m args c E A nL cc Ts own) {n : Fin 4} {i : Nat} {v : Int32} (k : Nat) (hd : decode cc pc = .ok (.iload_n n, 1)) (hi : (n : Nat) = i) (hk : lv[k]? = some (i, .int v)) (kk : rG p l e R s m args below meth c E A nL cells slots Q ws (pc + 1) lv (.int v :: st)) : rG p l e R s m args below meth c E A nL cells slots Q ws pc lv st := by
  intro H locs la hP hD hS hl
  exact lv_iload_n C.1.1 C.1.2.1 hd hi (lv_at hl k hk) (kk H locs la hP hD hS hl)
theorem rg_iload (C : rC p s m args c E A nL cc Ts own) {i : Nat} {v : Int32} (k : Nat) (hd : decode cc pc = .ok (.iload i, 2)) (hk : lv[k]? = some (i, .int v)) (kk : rG p l e R s m args below meth c E A nL cells slots Q ws (pc + 2) lv (.int v :: st)) : rG p l e R s m args below meth c E A nL cells slots Q ws pc lv st := by
  intro H locs la hP hD hS hl
  exact lv_iload C.1.1 C.1.2.1 hd (lv_at hl k hk) (kk H locs la hP hD hS hl)
theorem rg_istore_n (C : rC p s m args c E A nL cc Ts own) {n : Fin 4} {i : Nat} {v : Int32} {lv' : List (Nat × Value)} (hd : decode cc pc = .ok (.istore_n n, 1)) (hi : (n : Nat) = i) (hn : i < nL) (h' : (i, Value.int v) :: lv.filter (fun q => !(q.1 == i) && !(q.1 + 1 == i && q.2.category == 2)) = lv') (kk : rG p l e R s m args below meth c E A nL cells slots Q ws (pc + 1) lv' st) : rG p l e R s m args below meth c E A nL cells slots Q ws pc lv (.int v :: st) := by
  intro H locs la hP hD hS hl
  exact lv_istore_n C.1.1 C.1.2.1 hd hi hl hn h' (fun la' hl' => kk H locs la' hP hD hS hl')
theorem rg_istore (C : rC p s m args c E A nL cc Ts own) {i : Nat} {v : Int32} {lv' : List (Nat × Value)} (hd : decode cc pc = .ok (.istore i, 2)) (hn : i < nL) (h' : (i, Value.int v) :: lv.filter (fun q => !(q.1 == i) && !(q.1 + 1 == i && q.2.category == 2)) = lv') (kk : rG p l e R s m args below meth c E A nL cells slots Q ws (pc + 2) lv' st) : rG p l e R s m args below meth c E A nL cells slots Q ws pc lv (.int v :: st) := by
  intro H locs la hP hD hS hl
  exact lv_istore C.1.1 C.1.2.1 hd hl hn h' (fun la' hl' => kk H locs la' hP hD hS hl')
theorem rg_lload_n (C : rC p s m args c E A nL cc Ts own) {n : Fin 4} {i : Nat} {v : Int64} (k : Nat) (hd : decode cc pc = .ok (.lload_n n, 1)) (hi : (n : Nat) = i) (hk : lv[k]? = some (i, .long v)) (kk : rG p l e R s m args below meth c E A nL cells slots Q ws (pc + 1) lv (.long v :: st)) : rG p l e R s m args below meth c E A nL cells slots Q ws pc lv st := by
  intro H locs la hP hD hS hl
  exact lv_lload_n C.1.1 C.1.2.1 hd hi (lv_at hl k hk) (kk H locs la hP hD hS hl)
theorem rg_lload (C : rC p s m args c E A nL cc Ts own) {i : Nat} {v : Int64} (k : Nat) (hd : decode cc pc = .ok (.lload i, 2)) (hk : lv[k]? = some (i, .long v)) (kk : rG p l e R s m args below meth c E A nL cells slots Q ws (pc + 2) lv (.long v :: st)) : rG p l e R s m args below meth c E A nL cells slots Q ws pc lv st := by
  intro H locs la hP hD hS hl
  exact lv_lload C.1.1 C.1.2.1 hd (lv_at hl k hk) (kk H locs la hP hD hS hl)
theorem rg_lstore_n (C : rC p s m args c E A nL cc Ts own) {n : Fin 4} {i : Nat} {v : Int64} {lv' : List (Nat × Value)} (hd : decode cc pc = .ok (.lstore_n n, 1)) (hi : (n : Nat) = i) (hn : i + 1 < nL) (h' : (i, Value.long v) :: lv.filter (fun q => !(q.1 == i) && (!(q.1 == i + 1) && !(q.1 + 1 == i && q.2.category == 2))) = lv') (kk : rG p l e R s m args below meth c E A nL cells slots Q ws (pc + 1) lv' st) : rG p l e R s m args below meth c E A nL cells slots Q ws pc lv (.long v :: st) := by
  intro H locs la hP hD hS hl
  exact lv_lstore_n C.1.1 C.1.2.1 hd hi hl hn h' (fun la' hl' => kk H locs la' hP hD hS hl')
theorem rg_lstore (C : rC p s m args c E A nL cc Ts own) {i : Nat} {v : Int64} {lv' : List (Nat × Value)} (hd : decode cc pc = .ok (.lstore i, 2)) (hn : i + 1 < nL) (h' : (i, Value.long v) :: lv.filter (fun q => !(q.1 == i) && (!(q.1 == i + 1) && !(q.1 + 1 == i && q.2.category == 2))) = lv') (kk : rG p l e R s m args below meth c E A nL cells slots Q ws (pc + 2) lv' st) : rG p l e R s m args below meth c E A nL cells slots Q ws pc lv (.long v :: st) := by
  intro H locs la hP hD hS hl
  exact lv_lstore C.1.1 C.1.2.1 hd hl hn h' (fun la' hl' => kk H locs la' hP hD hS hl')
theorem rg_aload_n (C : rC p s m args c E A nL cc Ts own) {n : Fin 4} {i : Nat} {v : Nat} (k : Nat) (hd : decode cc pc = .ok (.aload_n n, 1)) (hi : (n : Nat) = i) (hk : lv[k]? = some (i, .ref v)) (kk : rG p l e R s m args below meth c E A nL cells slots Q ws (pc + 1) lv (.ref v :: st)) : rG p l e R s m args below meth c E A nL cells slots Q ws pc lv st := by
  intro H locs la hP hD hS hl
  exact lv_aload_n C.1.1 C.1.2.1 hd hi (lv_at hl k hk) (kk H locs la hP hD hS hl)
theorem rg_aload (C : rC p s m args c E A nL cc Ts own) {i : Nat} {v : Nat} (k : Nat) (hd : decode cc pc = .ok (.aload i, 2)) (hk : lv[k]? = some (i, .ref v)) (kk : rG p l e R s m args below meth c E A nL cells slots Q ws (pc + 2) lv (.ref v :: st)) : rG p l e R s m args below meth c E A nL cells slots Q ws pc lv st := by
  intro H locs la hP hD hS hl
  exact lv_aload C.1.1 C.1.2.1 hd (lv_at hl k hk) (kk H locs la hP hD hS hl)
theorem rg_astore_n (C : rC p s m args c E A nL cc Ts own) {n : Fin 4} {i : Nat} {v : Nat} {lv' : List (Nat × Value)} (hd : decode cc pc = .ok (.astore_n n, 1)) (hi : (n : Nat) = i) (hn : i < nL) (h' : (i, Value.ref v) :: lv.filter (fun q => !(q.1 == i) && !(q.1 + 1 == i && q.2.category == 2)) = lv') (kk : rG p l e R s m args below meth c E A nL cells slots Q ws (pc + 1) lv' st) : rG p l e R s m args below meth c E A nL cells slots Q ws pc lv (.ref v :: st) := by
  intro H locs la hP hD hS hl
  exact lv_astore_n C.1.1 C.1.2.1 hd hi hl hn h' (fun la' hl' => kk H locs la' hP hD hS hl')
theorem rg_astore (C : rC p s m args c E A nL cc Ts own) {i : Nat} {v : Nat} {lv' : List (Nat × Value)} (hd : decode cc pc = .ok (.astore i, 2)) (hn : i < nL) (h' : (i, Value.ref v) :: lv.filter (fun q => !(q.1 == i) && !(q.1 + 1 == i && q.2.category == 2)) = lv') (kk : rG p l e R s m args below meth c E A nL cells slots Q ws (pc + 2) lv' st) : rG p l e R s m args below meth c E A nL cells slots Q ws pc lv (.ref v :: st) := by
  intro H locs la hP hD hS hl
  exact lv_astore C.1.1 C.1.2.1 hd hl hn h' (fun la' hl' => kk H locs la' hP hD hS hl')
theorem rg_iinc (C : rC p s m args c E A nL cc Ts own) {i k : Nat} {n z : Int} {lv' : List (Nat × Value)} (hd : decode cc pc = .ok (.iinc i n, 3)) (hk : lv[k]? = some (i, .int (iI z))) (hn : i < nL) (h' : (i, Value.int (iI (z + n))) :: lv.filter (fun q => !(q.1 == i) && !(q.1 + 1 == i && q.2.category == 2)) = lv') (kk : rG p l e R s m args below meth c E A nL cells slots Q ws (pc + 3) lv' st) : rG p l e R s m args below meth c E A nL cells slots Q ws pc lv st := by
  intro H locs la hP hD hS hl
  exact lv_iinc (v := iI (z + n)) C.1.1 C.1.2.1 hd hl hk (iI_add z n) hn h' (fun la' hl' => kk H locs la' hP hD hS hl')
theorem rg_iadd (C : rC p s m args c E A nL cc Ts own) {a b : Int} (hd : decode cc pc = .ok (.iadd, 1)) (kk : rG p l e R s m args below meth c E A nL cells slots Q ws (pc + 1) lv (.int (iI (a + b)) :: st)) : rG p l e R s m args below meth c E A nL cells slots Q ws pc lv (.int (iI b) :: .int (iI a) :: st) := by
  intro H locs la hP hD hS hl
  refine lv_iadd C.1.1 C.1.2.1 hd ?_
  rw [iI_add]
  exact (kk H locs la hP hD hS hl)
theorem rg_isub (C : rC p s m args c E A nL cc Ts own) {a b : Int} (hd : decode cc pc = .ok (.isub, 1)) (kk : rG p l e R s m args below meth c E A nL cells slots Q ws (pc + 1) lv (.int (iI (a - b)) :: st)) : rG p l e R s m args below meth c E A nL cells slots Q ws pc lv (.int (iI b) :: .int (iI a) :: st) := by
  intro H locs la hP hD hS hl
  refine lv_isub C.1.1 C.1.2.1 hd ?_
  rw [iI_sub]
  exact (kk H locs la hP hD hS hl)
theorem rg_imul (C : rC p s m args c E A nL cc Ts own) {a b : Int} (hd : decode cc pc = .ok (.imul, 1)) (kk : rG p l e R s m args below meth c E A nL cells slots Q ws (pc + 1) lv (.int (iI (a * b)) :: st)) : rG p l e R s m args below meth c E A nL cells slots Q ws pc lv (.int (iI b) :: .int (iI a) :: st) := by
  intro H locs la hP hD hS hl
  refine lv_imul C.1.1 C.1.2.1 hd ?_
  rw [iI_mul]
  exact (kk H locs la hP hD hS hl)
theorem rg_ladd (C : rC p s m args c E A nL cc Ts own) {a b : Int} (hd : decode cc pc = .ok (.ladd, 1)) (kk : rG p l e R s m args below meth c E A nL cells slots Q ws (pc + 1) lv (.long (lI (a + b)) :: st)) : rG p l e R s m args below meth c E A nL cells slots Q ws pc lv (.long (lI b) :: .long (lI a) :: st) := by
  intro H locs la hP hD hS hl
  refine lv_ladd C.1.1 C.1.2.1 hd ?_
  rw [lI_add]
  exact (kk H locs la hP hD hS hl)
theorem rg_lsub (C : rC p s m args c E A nL cc Ts own) {a b : Int} (hd : decode cc pc = .ok (.lsub, 1)) (kk : rG p l e R s m args below meth c E A nL cells slots Q ws (pc + 1) lv (.long (lI (a - b)) :: st)) : rG p l e R s m args below meth c E A nL cells slots Q ws pc lv (.long (lI b) :: .long (lI a) :: st) := by
  intro H locs la hP hD hS hl
  refine lv_lsub C.1.1 C.1.2.1 hd ?_
  rw [lI_sub]
  exact (kk H locs la hP hD hS hl)
theorem rg_lmul (C : rC p s m args c E A nL cc Ts own) {a b : Int} (hd : decode cc pc = .ok (.lmul, 1)) (kk : rG p l e R s m args below meth c E A nL cells slots Q ws (pc + 1) lv (.long (lI (a * b)) :: st)) : rG p l e R s m args below meth c E A nL cells slots Q ws pc lv (.long (lI b) :: .long (lI a) :: st) := by
  intro H locs la hP hD hS hl
  refine lv_lmul C.1.1 C.1.2.1 hd ?_
  rw [lI_mul]
  exact (kk H locs la hP hD hS hl)
theorem rg_idiv (C : rC p s m args c E A nL cc Ts own) {a b : Int} (ha : inI a) (h0 : 0 ≤ a) (hb : 0 < b) (hb2 : inI b) (hd : decode cc pc = .ok (.idiv, 1)) (kk : rG p l e R s m args below meth c E A nL cells slots Q ws (pc + 1) lv (.int (iI (a / b)) :: st)) : rG p l e R s m args below meth c E A nL cells slots Q ws pc lv (.int (iI b) :: .int (iI a) :: st) := by
  intro H locs la hP hD hS hl
  refine lv_idiv C.1.1 C.1.2.1 hd (iI_ne0 (by omega) hb2) ?_
  rw [iI_div ha h0 hb hb2]
  exact (kk H locs la hP hD hS hl)
theorem rg_irem (C : rC p s m args c E A nL cc Ts own) {a b : Int} (ha : inI a) (h0 : 0 ≤ a) (hb : 0 < b) (hb2 : inI b) (hd : decode cc pc = .ok (.irem, 1)) (kk : rG p l e R s m args below meth c E A nL cells slots Q ws (pc + 1) lv (.int (iI (a % b)) :: st)) : rG p l e R s m args below meth c E A nL cells slots Q ws pc lv (.int (iI b) :: .int (iI a) :: st) := by
  intro H locs la hP hD hS hl
  refine lv_irem C.1.1 C.1.2.1 hd (iI_ne0 (by omega) hb2) ?_
  rw [iI_div ha h0 hb hb2, iI_mul, iI_sub, show a - a / b * b = a % b from by rw [Int.mul_comm, Int.emod_def]]
  exact (kk H locs la hP hD hS hl)
theorem rg_ldiv (C : rC p s m args c E A nL cc Ts own) {a b : Int} (ha : inL a) (h0 : 0 ≤ a) (hb : 0 < b) (hb2 : inL b) (hd : decode cc pc = .ok (.ldiv, 1)) (kk : rG p l e R s m args below meth c E A nL cells slots Q ws (pc + 1) lv (.long (lI (a / b)) :: st)) : rG p l e R s m args below meth c E A nL cells slots Q ws pc lv (.long (lI b) :: .long (lI a) :: st) := by
  intro H locs la hP hD hS hl
  refine lv_ldiv C.1.1 C.1.2.1 hd (lI_ne0 (by omega) hb2) ?_
  rw [lI_div ha h0 hb hb2]
  exact (kk H locs la hP hD hS hl)
theorem rg_lrem (C : rC p s m args c E A nL cc Ts own) {a b : Int} (ha : inL a) (h0 : 0 ≤ a) (hb : 0 < b) (hb2 : inL b) (hd : decode cc pc = .ok (.lrem, 1)) (kk : rG p l e R s m args below meth c E A nL cells slots Q ws (pc + 1) lv (.long (lI (a % b)) :: st)) : rG p l e R s m args below meth c E A nL cells slots Q ws pc lv (.long (lI b) :: .long (lI a) :: st) := by
  intro H locs la hP hD hS hl
  refine lv_lrem C.1.1 C.1.2.1 hd (lI_ne0 (by omega) hb2) ?_
  rw [lI_div ha h0 hb hb2, lI_mul, lI_sub, show a - a / b * b = a % b from by rw [Int.mul_comm, Int.emod_def]]
  exact (kk H locs la hP hD hS hl)
theorem rg_i2l (C : rC p s m args c E A nL cc Ts own) {z : Int} (hz : inI z) (hd : decode cc pc = .ok (.i2l, 1)) (kk : rG p l e R s m args below meth c E A nL cells slots Q ws (pc + 1) lv (.long (lI z) :: st)) : rG p l e R s m args below meth c E A nL cells slots Q ws pc lv (.int (iI z) :: st) := by
  intro H locs la hP hD hS hl
  exact lv_i2l C.1.1 C.1.2.1 hd (iI_l hz) (kk H locs la hP hD hS hl)
theorem rg_l2i (C : rC p s m args c E A nL cc Ts own) {z : Int} (hd : decode cc pc = .ok (.l2i, 1)) (kk : rG p l e R s m args below meth c E A nL cells slots Q ws (pc + 1) lv (.int (iI z) :: st)) : rG p l e R s m args below meth c E A nL cells slots Q ws pc lv (.long (lI z) :: st) := by
  intro H locs la hP hD hS hl
  exact lv_l2i C.1.1 C.1.2.1 hd (lI_i z) (kk H locs la hP hD hS hl)
theorem rg_dup (C : rC p s m args c E A nL cc Ts own) {v : Value} (hd : decode cc pc = .ok (.dup, 1)) (hv : v.category = 1) (kk : rG p l e R s m args below meth c E A nL cells slots Q ws (pc + 1) lv (v :: v :: st)) : rG p l e R s m args below meth c E A nL cells slots Q ws pc lv (v :: st) := by
  intro H locs la hP hD hS hl
  exact lv_dup C.1.1 C.1.2.1 hd hv (kk H locs la hP hD hS hl)
theorem rg_pop (C : rC p s m args c E A nL cc Ts own) {v : Value} (hd : decode cc pc = .ok (.pop, 1)) (hv : v.category = 1) (kk : rG p l e R s m args below meth c E A nL cells slots Q ws (pc + 1) lv st) : rG p l e R s m args below meth c E A nL cells slots Q ws pc lv (v :: st) := by
  intro H locs la hP hD hS hl
  exact lv_pop C.1.1 C.1.2.1 hd hv (kk H locs la hP hD hS hl)
theorem rg_dup_x1 (C : rC p s m args c E A nL cc Ts own) {v u : Value} (hd : decode cc pc = .ok (.dup_x1, 1)) (hv : v.category = 1) (hu : u.category = 1) (kk : rG p l e R s m args below meth c E A nL cells slots Q ws (pc + 1) lv (v :: u :: v :: st)) : rG p l e R s m args below meth c E A nL cells slots Q ws pc lv (v :: u :: st) := by
  intro H locs la hP hD hS hl
  exact lv_dup_x1 C.1.1 C.1.2.1 hd hv hu (kk H locs la hP hD hS hl)
theorem rg_dup_x2 (C : rC p s m args c E A nL cc Ts own) {v u t : Value} (hd : decode cc pc = .ok (.dup_x2, 1)) (hv : v.category = 1) (hu : u.category = 1) (ht : t.category = 1) (kk : rG p l e R s m args below meth c E A nL cells slots Q ws (pc + 1) lv (v :: u :: t :: v :: st)) : rG p l e R s m args below meth c E A nL cells slots Q ws pc lv (v :: u :: t :: st) := by
  intro H locs la hP hD hS hl
  exact lv_dup_x2 C.1.1 C.1.2.1 hd hv hu ht (kk H locs la hP hD hS hl)
theorem rg_dup2 (C : rC p s m args c E A nL cc Ts own) {v u : Value} (hd : decode cc pc = .ok (.dup2, 1)) (hv : v.category = 1) (hu : u.category = 1) (kk : rG p l e R s m args below meth c E A nL cells slots Q ws (pc + 1) lv (v :: u :: v :: u :: st)) : rG p l e R s m args below meth c E A nL cells slots Q ws pc lv (v :: u :: st) := by
  intro H locs la hP hD hS hl
  exact lv_dup2_11 C.1.1 C.1.2.1 hd hv hu (kk H locs la hP hD hS hl)
theorem rg_dup2_x2 (C : rC p s m args c E A nL cc Ts own) {v u t : Value} (hd : decode cc pc = .ok (.dup2_x2, 1)) (hv : v.category = 2) (hu : u.category = 1) (ht : t.category = 1) (kk : rG p l e R s m args below meth c E A nL cells slots Q ws (pc + 1) lv (v :: u :: t :: v :: st)) : rG p l e R s m args below meth c E A nL cells slots Q ws pc lv (v :: u :: t :: st) := by
  intro H locs la hP hD hS hl
  exact lv_dup2_x2_2 C.1.1 C.1.2.1 hd hv hu ht (kk H locs la hP hD hS hl)
theorem rg_dup2_x1 (C : rC p s m args c E A nL cc Ts own) {v u : Value} (hd : decode cc pc = .ok (.dup2_x1, 1)) (hv : v.category = 2) (hu : u.category = 1) (kk : rG p l e R s m args below meth c E A nL cells slots Q ws (pc + 1) lv (v :: u :: v :: st)) : rG p l e R s m args below meth c E A nL cells slots Q ws pc lv (v :: u :: st) := by
  intro H locs la hP hD hS hl
  exact lv_dup2_x1_2 C.1.1 C.1.2.1 hd hv hu (kk H locs la hP hD hS hl)
theorem rg_goto (C : rC p s m args c E A nL cc Ts own) {off : Int} {tgt : Nat} (hd : decode cc pc = .ok (.goto off, 3)) (ht : (pc : Int) + off = (tgt : Int)) (kk : rG p l e R s m args below meth c E A nL cells slots Q ws tgt lv st) : rG p l e R s m args below meth c E A nL cells slots Q ws pc lv st := by
  intro H locs la hP hD hS hl
  exact lv_goto C.1.1 C.1.2.1 hd ht (kk H locs la hP hD hS hl)
theorem rg_icmp_eq (C : rC p s m args c E A nL cc Ts own) {a b : Int} {off : Int} {tgt : Nat} (ha : inI a) (hb : inI b) (hd : decode cc pc = .ok (.if_icmp .eq off, 3)) (ht : (pc : Int) + off = (tgt : Int)) (kt : a = b → rG p l e R s m args below meth c E A nL cells slots Q ws tgt lv st) (kf : ¬ (a = b) → rG p l e R s m args below meth c E A nL cells slots Q ws (pc + 3) lv st) : rG p l e R s m args below meth c E A nL cells slots Q ws pc lv (.int (iI b) :: .int (iI a) :: st) := by
  intro H locs la hP hD hS hl
  exact lv_icmp_eq C.1.1 C.1.2.1 hd ht (fun h => kt ((iI_eq ha hb).mp h) H locs la hP hD hS hl) (fun h => kf (fun q => h ((iI_eq ha hb).mpr q)) H locs la hP hD hS hl)
theorem rg_if_eq (C : rC p s m args c E A nL cc Ts own) {a : Int} {off : Int} {tgt : Nat} (ha : inI a) (hd : decode cc pc = .ok (.ifCond .eq off, 3)) (ht : (pc : Int) + off = (tgt : Int)) (kt : a = 0 → rG p l e R s m args below meth c E A nL cells slots Q ws tgt lv st) (kf : ¬ (a = 0) → rG p l e R s m args below meth c E A nL cells slots Q ws (pc + 3) lv st) : rG p l e R s m args below meth c E A nL cells slots Q ws pc lv (.int (iI a) :: st) := by
  intro H locs la hP hD hS hl
  exact lv_if_eq C.1.1 C.1.2.1 hd ht (fun h => kt ((iI_eq ha inI_0).mp h) H locs la hP hD hS hl) (fun h => kf (fun q => h ((iI_eq ha inI_0).mpr q)) H locs la hP hD hS hl)
theorem rg_icmp_ne (C : rC p s m args c E A nL cc Ts own) {a b : Int} {off : Int} {tgt : Nat} (ha : inI a) (hb : inI b) (hd : decode cc pc = .ok (.if_icmp .ne off, 3)) (ht : (pc : Int) + off = (tgt : Int)) (kt : a ≠ b → rG p l e R s m args below meth c E A nL cells slots Q ws tgt lv st) (kf : a = b → rG p l e R s m args below meth c E A nL cells slots Q ws (pc + 3) lv st) : rG p l e R s m args below meth c E A nL cells slots Q ws pc lv (.int (iI b) :: .int (iI a) :: st) := by
  intro H locs la hP hD hS hl
  exact lv_icmp_ne C.1.1 C.1.2.1 hd ht (fun h => kt (fun q => h ((iI_eq ha hb).mpr q)) H locs la hP hD hS hl) (fun h => kf ((iI_eq ha hb).mp h) H locs la hP hD hS hl)
theorem rg_if_ne (C : rC p s m args c E A nL cc Ts own) {a : Int} {off : Int} {tgt : Nat} (ha : inI a) (hd : decode cc pc = .ok (.ifCond .ne off, 3)) (ht : (pc : Int) + off = (tgt : Int)) (kt : a ≠ 0 → rG p l e R s m args below meth c E A nL cells slots Q ws tgt lv st) (kf : a = 0 → rG p l e R s m args below meth c E A nL cells slots Q ws (pc + 3) lv st) : rG p l e R s m args below meth c E A nL cells slots Q ws pc lv (.int (iI a) :: st) := by
  intro H locs la hP hD hS hl
  exact lv_if_ne C.1.1 C.1.2.1 hd ht (fun h => kt (fun q => h ((iI_eq ha inI_0).mpr q)) H locs la hP hD hS hl) (fun h => kf ((iI_eq ha inI_0).mp h) H locs la hP hD hS hl)
theorem rg_icmp_lt (C : rC p s m args c E A nL cc Ts own) {a b : Int} {off : Int} {tgt : Nat} (ha : inI a) (hb : inI b) (hd : decode cc pc = .ok (.if_icmp .lt off, 3)) (ht : (pc : Int) + off = (tgt : Int)) (kt : a < b → rG p l e R s m args below meth c E A nL cells slots Q ws tgt lv st) (kf : ¬ (a < b) → rG p l e R s m args below meth c E A nL cells slots Q ws (pc + 3) lv st) : rG p l e R s m args below meth c E A nL cells slots Q ws pc lv (.int (iI b) :: .int (iI a) :: st) := by
  intro H locs la hP hD hS hl
  exact lv_icmp_lt C.1.1 C.1.2.1 hd ht (fun h => kt ((iI_lt ha hb).mp h) H locs la hP hD hS hl) (fun h => kf (fun q => h ((iI_lt ha hb).mpr q)) H locs la hP hD hS hl)
theorem rg_if_lt (C : rC p s m args c E A nL cc Ts own) {a : Int} {off : Int} {tgt : Nat} (ha : inI a) (hd : decode cc pc = .ok (.ifCond .lt off, 3)) (ht : (pc : Int) + off = (tgt : Int)) (kt : a < 0 → rG p l e R s m args below meth c E A nL cells slots Q ws tgt lv st) (kf : ¬ (a < 0) → rG p l e R s m args below meth c E A nL cells slots Q ws (pc + 3) lv st) : rG p l e R s m args below meth c E A nL cells slots Q ws pc lv (.int (iI a) :: st) := by
  intro H locs la hP hD hS hl
  exact lv_if_lt C.1.1 C.1.2.1 hd ht (fun h => kt ((iI_lt ha inI_0).mp h) H locs la hP hD hS hl) (fun h => kf (fun q => h ((iI_lt ha inI_0).mpr q)) H locs la hP hD hS hl)
theorem rg_icmp_ge (C : rC p s m args c E A nL cc Ts own) {a b : Int} {off : Int} {tgt : Nat} (ha : inI a) (hb : inI b) (hd : decode cc pc = .ok (.if_icmp .ge off, 3)) (ht : (pc : Int) + off = (tgt : Int)) (kt : b ≤ a → rG p l e R s m args below meth c E A nL cells slots Q ws tgt lv st) (kf : ¬ (b ≤ a) → rG p l e R s m args below meth c E A nL cells slots Q ws (pc + 3) lv st) : rG p l e R s m args below meth c E A nL cells slots Q ws pc lv (.int (iI b) :: .int (iI a) :: st) := by
  intro H locs la hP hD hS hl
  exact lv_icmp_ge C.1.1 C.1.2.1 hd ht (fun h => kt ((iI_le hb ha).mp h) H locs la hP hD hS hl) (fun h => kf (fun q => h ((iI_le hb ha).mpr q)) H locs la hP hD hS hl)
theorem rg_if_ge (C : rC p s m args c E A nL cc Ts own) {a : Int} {off : Int} {tgt : Nat} (ha : inI a) (hd : decode cc pc = .ok (.ifCond .ge off, 3)) (ht : (pc : Int) + off = (tgt : Int)) (kt : 0 ≤ a → rG p l e R s m args below meth c E A nL cells slots Q ws tgt lv st) (kf : ¬ (0 ≤ a) → rG p l e R s m args below meth c E A nL cells slots Q ws (pc + 3) lv st) : rG p l e R s m args below meth c E A nL cells slots Q ws pc lv (.int (iI a) :: st) := by
  intro H locs la hP hD hS hl
  exact lv_if_ge C.1.1 C.1.2.1 hd ht (fun h => kt ((iI_le inI_0 ha).mp h) H locs la hP hD hS hl) (fun h => kf (fun q => h ((iI_le inI_0 ha).mpr q)) H locs la hP hD hS hl)
theorem rg_icmp_gt (C : rC p s m args c E A nL cc Ts own) {a b : Int} {off : Int} {tgt : Nat} (ha : inI a) (hb : inI b) (hd : decode cc pc = .ok (.if_icmp .gt off, 3)) (ht : (pc : Int) + off = (tgt : Int)) (kt : b < a → rG p l e R s m args below meth c E A nL cells slots Q ws tgt lv st) (kf : ¬ (b < a) → rG p l e R s m args below meth c E A nL cells slots Q ws (pc + 3) lv st) : rG p l e R s m args below meth c E A nL cells slots Q ws pc lv (.int (iI b) :: .int (iI a) :: st) := by
  intro H locs la hP hD hS hl
  exact lv_icmp_gt C.1.1 C.1.2.1 hd ht (fun h => kt ((iI_lt hb ha).mp h) H locs la hP hD hS hl) (fun h => kf (fun q => h ((iI_lt hb ha).mpr q)) H locs la hP hD hS hl)
theorem rg_if_gt (C : rC p s m args c E A nL cc Ts own) {a : Int} {off : Int} {tgt : Nat} (ha : inI a) (hd : decode cc pc = .ok (.ifCond .gt off, 3)) (ht : (pc : Int) + off = (tgt : Int)) (kt : 0 < a → rG p l e R s m args below meth c E A nL cells slots Q ws tgt lv st) (kf : ¬ (0 < a) → rG p l e R s m args below meth c E A nL cells slots Q ws (pc + 3) lv st) : rG p l e R s m args below meth c E A nL cells slots Q ws pc lv (.int (iI a) :: st) := by
  intro H locs la hP hD hS hl
  exact lv_if_gt C.1.1 C.1.2.1 hd ht (fun h => kt ((iI_lt inI_0 ha).mp h) H locs la hP hD hS hl) (fun h => kf (fun q => h ((iI_lt inI_0 ha).mpr q)) H locs la hP hD hS hl)
theorem rg_icmp_le (C : rC p s m args c E A nL cc Ts own) {a b : Int} {off : Int} {tgt : Nat} (ha : inI a) (hb : inI b) (hd : decode cc pc = .ok (.if_icmp .le off, 3)) (ht : (pc : Int) + off = (tgt : Int)) (kt : a ≤ b → rG p l e R s m args below meth c E A nL cells slots Q ws tgt lv st) (kf : ¬ (a ≤ b) → rG p l e R s m args below meth c E A nL cells slots Q ws (pc + 3) lv st) : rG p l e R s m args below meth c E A nL cells slots Q ws pc lv (.int (iI b) :: .int (iI a) :: st) := by
  intro H locs la hP hD hS hl
  exact lv_icmp_le C.1.1 C.1.2.1 hd ht (fun h => kt ((iI_le ha hb).mp h) H locs la hP hD hS hl) (fun h => kf (fun q => h ((iI_le ha hb).mpr q)) H locs la hP hD hS hl)
theorem rg_if_le (C : rC p s m args c E A nL cc Ts own) {a : Int} {off : Int} {tgt : Nat} (ha : inI a) (hd : decode cc pc = .ok (.ifCond .le off, 3)) (ht : (pc : Int) + off = (tgt : Int)) (kt : a ≤ 0 → rG p l e R s m args below meth c E A nL cells slots Q ws tgt lv st) (kf : ¬ (a ≤ 0) → rG p l e R s m args below meth c E A nL cells slots Q ws (pc + 3) lv st) : rG p l e R s m args below meth c E A nL cells slots Q ws pc lv (.int (iI a) :: st) := by
  intro H locs la hP hD hS hl
  exact lv_if_le C.1.1 C.1.2.1 hd ht (fun h => kt ((iI_le ha inI_0).mp h) H locs la hP hD hS hl) (fun h => kf (fun q => h ((iI_le ha inI_0).mpr q)) H locs la hP hD hS hl)
theorem lgc {x y : Int64} : lg_cmp x y = if y < x then 1 else if x = y then 0 else -1 := rfl
theorem rg_lcmp_eq (C : rC p s m args c E A nL cc Ts own) {a b : Int} {off : Int} {tgt : Nat} (ha : inL a) (hb : inL b) (hd : decode cc pc = .ok (.lcmp, 1)) (hd2 : decode cc (pc + 1) = .ok (.ifCond .eq off, 3)) (ht : ((pc + 1 : Nat) : Int) + off = (tgt : Int)) (kt : a = b → rG p l e R s m args below meth c E A nL cells slots Q ws tgt lv st) (kf : ¬ (a = b) → rG p l e R s m args below meth c E A nL cells slots Q ws (pc + 1 + 3) lv st) : rG p l e R s m args below meth c E A nL cells slots Q ws pc lv (.long (lI b) :: .long (lI a) :: st) := by
  intro H locs la hP hD hS hl
  have h1 := lI_lt hb ha
  have h2 := lI_eq ha hb
  refine W.lcmp C.1.1 C.1.2.1 hd ?_
  have hz : ∃ z : Int, lg_cmp (lI a) (lI b) = iI z ∧ inI z ∧ ((z = 1 ∧ b < a) ∨ (z = 0 ∧ a = b) ∨ (z = -1 ∧ a < b)) := by
    rw [lgc]
    by_cases q1 : b < a
    · exact ⟨1, by rw [if_pos (h1.mpr q1)]; rfl, ⟨by decide, by decide⟩, Or.inl ⟨rfl, q1⟩⟩
    · by_cases q2 : a = b
      · exact ⟨0, by rw [if_neg (fun z => q1 (h1.mp z)), if_pos (h2.mpr q2)]; rfl, ⟨by decide, by decide⟩, Or.inr (Or.inl ⟨rfl, q2⟩)⟩
      · exact ⟨-1, by rw [if_neg (fun z => q1 (h1.mp z)), if_neg (fun z => q2 (h2.mp z))]; rfl, ⟨by decide, by decide⟩, Or.inr (Or.inr ⟨rfl, by omega⟩)⟩
  obtain ⟨z, e1, e2, e3⟩ := hz
  rw [e1]
  exact rg_if_eq C e2 hd2 ht (fun h => kt (by omega)) (fun h => kf (by omega)) H locs la hP hD hS hl
theorem rg_lcmp_ne (C : rC p s m args c E A nL cc Ts own) {a b : Int} {off : Int} {tgt : Nat} (ha : inL a) (hb : inL b) (hd : decode cc pc = .ok (.lcmp, 1)) (hd2 : decode cc (pc + 1) = .ok (.ifCond .ne off, 3)) (ht : ((pc + 1 : Nat) : Int) + off = (tgt : Int)) (kt : a ≠ b → rG p l e R s m args below meth c E A nL cells slots Q ws tgt lv st) (kf : a = b → rG p l e R s m args below meth c E A nL cells slots Q ws (pc + 1 + 3) lv st) : rG p l e R s m args below meth c E A nL cells slots Q ws pc lv (.long (lI b) :: .long (lI a) :: st) := by
  intro H locs la hP hD hS hl
  have h1 := lI_lt hb ha
  have h2 := lI_eq ha hb
  refine W.lcmp C.1.1 C.1.2.1 hd ?_
  have hz : ∃ z : Int, lg_cmp (lI a) (lI b) = iI z ∧ inI z ∧ ((z = 1 ∧ b < a) ∨ (z = 0 ∧ a = b) ∨ (z = -1 ∧ a < b)) := by
    rw [lgc]
    by_cases q1 : b < a
    · exact ⟨1, by rw [if_pos (h1.mpr q1)]; rfl, ⟨by decide, by decide⟩, Or.inl ⟨rfl, q1⟩⟩
    · by_cases q2 : a = b
      · exact ⟨0, by rw [if_neg (fun z => q1 (h1.mp z)), if_pos (h2.mpr q2)]; rfl, ⟨by decide, by decide⟩, Or.inr (Or.inl ⟨rfl, q2⟩)⟩
      · exact ⟨-1, by rw [if_neg (fun z => q1 (h1.mp z)), if_neg (fun z => q2 (h2.mp z))]; rfl, ⟨by decide, by decide⟩, Or.inr (Or.inr ⟨rfl, by omega⟩)⟩
  obtain ⟨z, e1, e2, e3⟩ := hz
  rw [e1]
  exact rg_if_ne C e2 hd2 ht (fun h => kt (by omega)) (fun h => kf (by omega)) H locs la hP hD hS hl
theorem rg_lcmp_lt (C : rC p s m args c E A nL cc Ts own) {a b : Int} {off : Int} {tgt : Nat} (ha : inL a) (hb : inL b) (hd : decode cc pc = .ok (.lcmp, 1)) (hd2 : decode cc (pc + 1) = .ok (.ifCond .lt off, 3)) (ht : ((pc + 1 : Nat) : Int) + off = (tgt : Int)) (kt : a < b → rG p l e R s m args below meth c E A nL cells slots Q ws tgt lv st) (kf : ¬ (a < b) → rG p l e R s m args below meth c E A nL cells slots Q ws (pc + 1 + 3) lv st) : rG p l e R s m args below meth c E A nL cells slots Q ws pc lv (.long (lI b) :: .long (lI a) :: st) := by
  intro H locs la hP hD hS hl
  have h1 := lI_lt hb ha
  have h2 := lI_eq ha hb
  refine W.lcmp C.1.1 C.1.2.1 hd ?_
  have hz : ∃ z : Int, lg_cmp (lI a) (lI b) = iI z ∧ inI z ∧ ((z = 1 ∧ b < a) ∨ (z = 0 ∧ a = b) ∨ (z = -1 ∧ a < b)) := by
    rw [lgc]
    by_cases q1 : b < a
    · exact ⟨1, by rw [if_pos (h1.mpr q1)]; rfl, ⟨by decide, by decide⟩, Or.inl ⟨rfl, q1⟩⟩
    · by_cases q2 : a = b
      · exact ⟨0, by rw [if_neg (fun z => q1 (h1.mp z)), if_pos (h2.mpr q2)]; rfl, ⟨by decide, by decide⟩, Or.inr (Or.inl ⟨rfl, q2⟩)⟩
      · exact ⟨-1, by rw [if_neg (fun z => q1 (h1.mp z)), if_neg (fun z => q2 (h2.mp z))]; rfl, ⟨by decide, by decide⟩, Or.inr (Or.inr ⟨rfl, by omega⟩)⟩
  obtain ⟨z, e1, e2, e3⟩ := hz
  rw [e1]
  exact rg_if_lt C e2 hd2 ht (fun h => kt (by omega)) (fun h => kf (by omega)) H locs la hP hD hS hl
theorem rg_lcmp_ge (C : rC p s m args c E A nL cc Ts own) {a b : Int} {off : Int} {tgt : Nat} (ha : inL a) (hb : inL b) (hd : decode cc pc = .ok (.lcmp, 1)) (hd2 : decode cc (pc + 1) = .ok (.ifCond .ge off, 3)) (ht : ((pc + 1 : Nat) : Int) + off = (tgt : Int)) (kt : b ≤ a → rG p l e R s m args below meth c E A nL cells slots Q ws tgt lv st) (kf : ¬ (b ≤ a) → rG p l e R s m args below meth c E A nL cells slots Q ws (pc + 1 + 3) lv st) : rG p l e R s m args below meth c E A nL cells slots Q ws pc lv (.long (lI b) :: .long (lI a) :: st) := by
  intro H locs la hP hD hS hl
  have h1 := lI_lt hb ha
  have h2 := lI_eq ha hb
  refine W.lcmp C.1.1 C.1.2.1 hd ?_
  have hz : ∃ z : Int, lg_cmp (lI a) (lI b) = iI z ∧ inI z ∧ ((z = 1 ∧ b < a) ∨ (z = 0 ∧ a = b) ∨ (z = -1 ∧ a < b)) := by
    rw [lgc]
    by_cases q1 : b < a
    · exact ⟨1, by rw [if_pos (h1.mpr q1)]; rfl, ⟨by decide, by decide⟩, Or.inl ⟨rfl, q1⟩⟩
    · by_cases q2 : a = b
      · exact ⟨0, by rw [if_neg (fun z => q1 (h1.mp z)), if_pos (h2.mpr q2)]; rfl, ⟨by decide, by decide⟩, Or.inr (Or.inl ⟨rfl, q2⟩)⟩
      · exact ⟨-1, by rw [if_neg (fun z => q1 (h1.mp z)), if_neg (fun z => q2 (h2.mp z))]; rfl, ⟨by decide, by decide⟩, Or.inr (Or.inr ⟨rfl, by omega⟩)⟩
  obtain ⟨z, e1, e2, e3⟩ := hz
  rw [e1]
  exact rg_if_ge C e2 hd2 ht (fun h => kt (by omega)) (fun h => kf (by omega)) H locs la hP hD hS hl
theorem rg_lcmp_gt (C : rC p s m args c E A nL cc Ts own) {a b : Int} {off : Int} {tgt : Nat} (ha : inL a) (hb : inL b) (hd : decode cc pc = .ok (.lcmp, 1)) (hd2 : decode cc (pc + 1) = .ok (.ifCond .gt off, 3)) (ht : ((pc + 1 : Nat) : Int) + off = (tgt : Int)) (kt : b < a → rG p l e R s m args below meth c E A nL cells slots Q ws tgt lv st) (kf : ¬ (b < a) → rG p l e R s m args below meth c E A nL cells slots Q ws (pc + 1 + 3) lv st) : rG p l e R s m args below meth c E A nL cells slots Q ws pc lv (.long (lI b) :: .long (lI a) :: st) := by
  intro H locs la hP hD hS hl
  have h1 := lI_lt hb ha
  have h2 := lI_eq ha hb
  refine W.lcmp C.1.1 C.1.2.1 hd ?_
  have hz : ∃ z : Int, lg_cmp (lI a) (lI b) = iI z ∧ inI z ∧ ((z = 1 ∧ b < a) ∨ (z = 0 ∧ a = b) ∨ (z = -1 ∧ a < b)) := by
    rw [lgc]
    by_cases q1 : b < a
    · exact ⟨1, by rw [if_pos (h1.mpr q1)]; rfl, ⟨by decide, by decide⟩, Or.inl ⟨rfl, q1⟩⟩
    · by_cases q2 : a = b
      · exact ⟨0, by rw [if_neg (fun z => q1 (h1.mp z)), if_pos (h2.mpr q2)]; rfl, ⟨by decide, by decide⟩, Or.inr (Or.inl ⟨rfl, q2⟩)⟩
      · exact ⟨-1, by rw [if_neg (fun z => q1 (h1.mp z)), if_neg (fun z => q2 (h2.mp z))]; rfl, ⟨by decide, by decide⟩, Or.inr (Or.inr ⟨rfl, by omega⟩)⟩
  obtain ⟨z, e1, e2, e3⟩ := hz
  rw [e1]
  exact rg_if_gt C e2 hd2 ht (fun h => kt (by omega)) (fun h => kf (by omega)) H locs la hP hD hS hl
theorem rg_lcmp_le (C : rC p s m args c E A nL cc Ts own) {a b : Int} {off : Int} {tgt : Nat} (ha : inL a) (hb : inL b) (hd : decode cc pc = .ok (.lcmp, 1)) (hd2 : decode cc (pc + 1) = .ok (.ifCond .le off, 3)) (ht : ((pc + 1 : Nat) : Int) + off = (tgt : Int)) (kt : a ≤ b → rG p l e R s m args below meth c E A nL cells slots Q ws tgt lv st) (kf : ¬ (a ≤ b) → rG p l e R s m args below meth c E A nL cells slots Q ws (pc + 1 + 3) lv st) : rG p l e R s m args below meth c E A nL cells slots Q ws pc lv (.long (lI b) :: .long (lI a) :: st) := by
  intro H locs la hP hD hS hl
  have h1 := lI_lt hb ha
  have h2 := lI_eq ha hb
  refine W.lcmp C.1.1 C.1.2.1 hd ?_
  have hz : ∃ z : Int, lg_cmp (lI a) (lI b) = iI z ∧ inI z ∧ ((z = 1 ∧ b < a) ∨ (z = 0 ∧ a = b) ∨ (z = -1 ∧ a < b)) := by
    rw [lgc]
    by_cases q1 : b < a
    · exact ⟨1, by rw [if_pos (h1.mpr q1)]; rfl, ⟨by decide, by decide⟩, Or.inl ⟨rfl, q1⟩⟩
    · by_cases q2 : a = b
      · exact ⟨0, by rw [if_neg (fun z => q1 (h1.mp z)), if_pos (h2.mpr q2)]; rfl, ⟨by decide, by decide⟩, Or.inr (Or.inl ⟨rfl, q2⟩)⟩
      · exact ⟨-1, by rw [if_neg (fun z => q1 (h1.mp z)), if_neg (fun z => q2 (h2.mp z))]; rfl, ⟨by decide, by decide⟩, Or.inr (Or.inr ⟨rfl, by omega⟩)⟩
  obtain ⟨z, e1, e2, e3⟩ := hz
  rw [e1]
  exact rg_if_le C e2 hd2 ht (fun h => kt (by omega)) (fun h => kf (by omega)) H locs la hP hD hS hl
theorem rg_tableOut (C : rC p s m args c E A nL cc Ts own) {dflt lo hi : Int} {offs : Array Int} {len tgt : Nat} {z : Int} (hz : inI z) (hd : decode cc pc = .ok (.tableswitch dflt lo hi offs, len)) (h : z < lo ∨ hi < z) (ht : (pc : Int) + dflt = (tgt : Int)) (kk : rG p l e R s m args below meth c E A nL cells slots Q ws tgt lv st) : rG p l e R s m args below meth c E A nL cells slots Q ws pc lv (.int (iI z) :: st) := by
  intro H locs la hP hD hS hl
  exact lv_tableOut C.1.1 C.1.2.1 hd (by rw [iI_to hz]; exact h) ht (kk H locs la hP hD hS hl)
theorem rg_tableIn (C : rC p s m args c E A nL cc Ts own) {dflt lo hi off : Int} {offs : Array Int} {len tgt : Nat} {z : Int} (hz : inI z) (hd : decode cc pc = .ok (.tableswitch dflt lo hi offs, len)) (h1 : ¬ z < lo) (h2 : ¬ hi < z) (ho : offs[(z - lo).toNat]? = some off) (ht : (pc : Int) + off = (tgt : Int)) (kk : rG p l e R s m args below meth c E A nL cells slots Q ws tgt lv st) : rG p l e R s m args below meth c E A nL cells slots Q ws pc lv (.int (iI z) :: st) := by
  intro H locs la hP hD hS hl
  exact lv_tableIn C.1.1 C.1.2.1 hd (by rw [iI_to hz]; exact h1) (by rw [iI_to hz]; exact h2) (by rw [iI_to hz]; exact ho) ht (kk H locs la hP hD hS hl)
/-- a field, as a method's pool index names it -/
def rFld (own : String) (index : Nat) (Cn : String) (T : u_T) (N ci k : Nat) : Prop := (∀ w ∈ u_ws Cn T N, w ∈ gW) ∧ vwCl[ci]? = some (Cn, T, N) ∧ k < N ∧ Cond.fieldLink own index (T k).1 (T k).2.1 (T k).2.2.1 ∈ gW
/-- what the tables say for a store -/
def rLay (T : u_T) (N : Nat) (ty : Nat → FieldType) : Prop := (∀ k, k < N → parseFieldDescriptor (T k).2.2.1 = some (ty k)) ∧ ∀ a, a < N → ∀ b, b < N → a ≠ b → (T a).2.1 ≠ (T b).2.1
theorem rg_get (C : rC p s m args c E A nL cc Ts own) {Cn : String} {T : u_T} {N ci k index a : Nat} {fs : List Value} {v : Value} (F : rFld own index Cn T N ci k) (q0 : Nat) (he : ws[q0]? = some (a, .inr (ci, fs))) (hv : fs[k]? = some v) (hd : decode cc pc = .ok (.getfield index, 3)) (kk : rG p l e R s m args below meth c E A nL cells slots Q ws (pc + 3) lv (v :: st)) : rG p l e R s m args below meth c E A nL cells slots Q ws pc lv (.ref a :: st) := by
  intro H locs la hP hD hS hl
  exact va_get C.1.1 C.1.2.1 C.1.2.2.2.2 (fun w h => C.2.2.2 w (F.1 w h)) C.1.2.2.2.1 C.2.1 hP q0 he F.2.1 k F.2.2.1 (C.1.2.2.2.2 _ (C.2.2.2 _ F.2.2.2)) (fun _ h => h) hv hd (kk H locs la hP hD hS hl)
theorem rg_put (C : rC p s m args c E A nL cc Ts own) {Cn : String} {T : u_T} {N ci k index a : Nat} {fs : List Value} {v : Value} {ty : Nat → FieldType} {ws' : va_W} (F : rFld own index Cn T N ci k) (L : rLay T N ty) (hf : (T k).2.2.2 = false) (q0 : Nat) (he : ws[q0]? = some (a, .inr (ci, fs))) (hn : narrow (ty k) v = v) (hfit : fits (ty k) v = true) (hlen : k < fs.length) (hd : decode cc pc = .ok (.putfield index, 3)) (hw : ws.set q0 (a, .inr (ci, fs.set k v)) = ws') (kk : rG p l e R s m args below meth c E A nL cells slots Q ws' (pc + 3) lv st) : rG p l e R s m args below meth c E A nL cells slots Q ws pc lv (v :: .ref a :: st) := by
  intro H locs la hP hD hS hl
  subst hw
  exact va_put (ty := ty k) C.1.1 C.1.2.1 C.1.2.2.2.2 (fun w h => C.2.2.2 w (F.1 w h)) ty L.1 L.2 C.1.2.2.2.1 C.2.1 hP hD hS q0 he F.2.1 k F.2.2.1 (C.1.2.2.2.2 _ (C.2.2.2 _ F.2.2.2)) (fun _ h => h) hf (L.1 k F.2.2.1) hn hfit hlen hd (fun H1 locs1 hP1 hD1 hS1 => kk H1 locs1 la hP1 hD1 hS1 hl)
theorem rg_putF (C : rC p s m args c E A nL cc Ts own) {Cn : String} {T : u_T} {N ci k index a : Nat} {fs : List Value} {v : Value} {ty : Nat → FieldType} {ws' : va_W} (F : rFld own index Cn T N ci k) (L : rLay T N ty) (hf : (T k).2.2.2 = true) (hin : meth.name = "<init>") (hdc : (T k).1 = own) (q0 : Nat) (he : ws[q0]? = some (a, .inr (ci, fs))) (hn : narrow (ty k) v = v) (hfit : fits (ty k) v = true) (hlen : k < fs.length) (hd : decode cc pc = .ok (.putfield index, 3)) (hw : ws.set q0 (a, .inr (ci, fs.set k v)) = ws') (kk : rG p l e R s m args below meth c E A nL cells slots Q ws' (pc + 3) lv st) : rG p l e R s m args below meth c E A nL cells slots Q ws pc lv (v :: .ref a :: st) := by
  intro H locs la hP hD hS hl
  subst hw
  exact va_putF (ty := ty k) C.1.1 C.1.2.1 C.1.2.2.2.2 (fun w h => C.2.2.2 w (F.1 w h)) ty L.1 L.2 C.1.2.2.2.1 C.2.1 hP hD hS q0 he F.2.1 k F.2.2.1 (C.1.2.2.2.2 _ (C.2.2.2 _ F.2.2.2)) (fun _ h => h) hf hin hdc (L.1 k F.2.2.1) hn hfit hlen hd (fun H1 locs1 hP1 hD1 hS1 => kk H1 locs1 la hP1 hD1 hS1 hl)
theorem rg_iald (C : rC p s m args c E A nL cc Ts own) {a n : Nat} {f : Nat → Int} {z : Int} (q0 : Nat) (ha : ws[q0]? = some (cI E a n f)) (hn : n < 2147483648) (h0 : 0 ≤ z) (h1 : z < (n : Int)) (hd : decode cc pc = .ok (.iaload, 1)) (kk : rG p l e R s m args below meth c E A nL cells slots Q ws (pc + 1) lv (.int (iI (f z.toNat)) :: st)) : rG p l e R s m args below meth c E A nL cells slots Q ws pc lv (.int (iI z) :: .ref a :: st) := by
  intro H locs la hP hD hS hl
  refine va_iald C.1.1 C.1.2.1 C.2.1 hP q0 0 ha rfl (iI_in h0 h1 hn) hd ?_
  rw [iI_cl h0 (by omega)]
  exact (kk H locs la hP hD hS hl)
theorem rg_zald (C : rC p s m args c E A nL cc Ts own) {a n : Nat} {f : Nat → Int} {z : Int} (q0 : Nat) (ha : ws[q0]? = some (cZ E a n f)) (hn : n < 2147483648) (h0 : 0 ≤ z) (h1 : z < (n : Int)) (hd : decode cc pc = .ok (.baload, 1)) (kk : rG p l e R s m args below meth c E A nL cells slots Q ws (pc + 1) lv (.int (iI (f z.toNat)) :: st)) : rG p l e R s m args below meth c E A nL cells slots Q ws pc lv (.int (iI z) :: .ref a :: st) := by
  intro H locs la hP hD hS hl
  refine va_zald C.1.1 C.1.2.1 C.2.1 hP q0 1 ha rfl (iI_in h0 h1 hn) hd ?_
  rw [iI_cl h0 (by omega)]
  exact (kk H locs la hP hD hS hl)
theorem rg_lald (C : rC p s m args c E A nL cc Ts own) {a n : Nat} {f : Nat → Int} {z : Int} (q0 : Nat) (ha : ws[q0]? = some (cJ E a n f)) (hn : n < 2147483648) (h0 : 0 ≤ z) (h1 : z < (n : Int)) (hd : decode cc pc = .ok (.laload, 1)) (kk : rG p l e R s m args below meth c E A nL cells slots Q ws (pc + 1) lv (.long (lI (f z.toNat)) :: st)) : rG p l e R s m args below meth c E A nL cells slots Q ws pc lv (.int (iI z) :: .ref a :: st) := by
  intro H locs la hP hD hS hl
  refine va_lald C.1.1 C.1.2.1 C.2.1 hP q0 2 ha rfl (iI_in h0 h1 hn) hd ?_
  rw [iI_cl h0 (by omega)]
  exact (kk H locs la hP hD hS hl)
theorem rg_iast (C : rC p s m args c E A nL cc Ts own) {a n : Nat} {f : Nat → Int} {z x : Int} {ws' : va_W} (q0 : Nat) (ha : ws[q0]? = some (cI E a n f)) (hn : n < 2147483648) (h0 : 0 ≤ z) (h1 : z < (n : Int)) (hd : decode cc pc = .ok (.iastore, 1)) (hw : ws.set q0 (cI E a n (uZ f z.toNat x)) = ws') (kk : rG p l e R s m args below meth c E A nL cells slots Q ws' (pc + 1) lv st) : rG p l e R s m args below meth c E A nL cells slots Q ws pc lv (.int (iI x) :: .int (iI z) :: .ref a :: st) := by
  intro H locs la hP hD hS hl
  subst hw
  refine va_iast C.1.1 C.1.2.1 C.2.1 hP hD hS q0 0 ha rfl (iI_in h0 h1 hn) hd ?_
  rw [iI_cl h0 (by omega), upd_iI]
  exact fun H1 locs1 hP1 hD1 hS1 => kk H1 locs1 la hP1 hD1 hS1 hl
theorem rg_zast (C : rC p s m args c E A nL cc Ts own) {a n : Nat} {f : Nat → Int} {z x : Int} {ws' : va_W} (q0 : Nat) (ha : ws[q0]? = some (cZ E a n f)) (hn : n < 2147483648) (h0 : 0 ≤ z) (h1 : z < (n : Int)) (hx : vp_nar .boolean (iI x) = iI x) (hd : decode cc pc = .ok (.bastore, 1)) (hw : ws.set q0 (cZ E a n (uZ f z.toNat x)) = ws') (kk : rG p l e R s m args below meth c E A nL cells slots Q ws' (pc + 1) lv st) : rG p l e R s m args below meth c E A nL cells slots Q ws pc lv (.int (iI x) :: .int (iI z) :: .ref a :: st) := by
  intro H locs la hP hD hS hl
  subst hw
  refine va_zast C.1.1 C.1.2.1 C.2.1 hP hD hS q0 1 ha rfl (iI_in h0 h1 hn) hd ?_
  rw [hx, iI_cl h0 (by omega), upd_iI]
  exact fun H1 locs1 hP1 hD1 hS1 => kk H1 locs1 la hP1 hD1 hS1 hl
theorem rg_last (C : rC p s m args c E A nL cc Ts own) {a n : Nat} {f : Nat → Int} {z x : Int} {ws' : va_W} (q0 : Nat) (ha : ws[q0]? = some (cJ E a n f)) (hn : n < 2147483648) (h0 : 0 ≤ z) (h1 : z < (n : Int)) (hd : decode cc pc = .ok (.lastore, 1)) (hw : ws.set q0 (cJ E a n (uZ f z.toNat x)) = ws') (kk : rG p l e R s m args below meth c E A nL cells slots Q ws' (pc + 1) lv st) : rG p l e R s m args below meth c E A nL cells slots Q ws pc lv (.long (lI x) :: .int (iI z) :: .ref a :: st) := by
  intro H locs la hP hD hS hl
  subst hw
  refine va_last C.1.1 C.1.2.1 C.2.1 hP hD hS q0 2 ha rfl (iI_in h0 h1 hn) hd ?_
  rw [iI_cl h0 (by omega), upd_lI]
  exact fun H1 locs1 hP1 hD1 hS1 => kk H1 locs1 la hP1 hD1 hS1 hl
theorem rg_leni (C : rC p s m args c E A nL cc Ts own) {a n : Nat} {f : Nat → Int} (q0 : Nat) (ha : ws[q0]? = some (cI E a n f)) (hd : decode cc pc = .ok (.arraylength, 1)) (kk : rG p l e R s m args below meth c E A nL cells slots Q ws (pc + 1) lv (.int (iI (n : Int)) :: st)) : rG p l e R s m args below meth c E A nL cells slots Q ws pc lv (.ref a :: st) := by
  intro H locs la hP hD hS hl
  exact va_alen (v := iI (n : Int)) C.1.1 C.1.2.1 C.2.1 hP q0 0 ha (ty := .int) rfl (Int32.ofInt_eq_ofNat.symm) hd (kk H locs la hP hD hS hl)
theorem rg_lenz (C : rC p s m args c E A nL cc Ts own) {a n : Nat} {f : Nat → Int} (q0 : Nat) (ha : ws[q0]? = some (cZ E a n f)) (hd : decode cc pc = .ok (.arraylength, 1)) (kk : rG p l e R s m args below meth c E A nL cells slots Q ws (pc + 1) lv (.int (iI (n : Int)) :: st)) : rG p l e R s m args below meth c E A nL cells slots Q ws pc lv (.ref a :: st) := by
  intro H locs la hP hD hS hl
  exact va_alen (v := iI (n : Int)) C.1.1 C.1.2.1 C.2.1 hP q0 1 ha (ty := .boolean) rfl (Int32.ofInt_eq_ofNat.symm) hd (kk H locs la hP hD hS hl)
theorem rg_lenj (C : rC p s m args c E A nL cc Ts own) {a n : Nat} {f : Nat → Int} (q0 : Nat) (ha : ws[q0]? = some (cJ E a n f)) (hd : decode cc pc = .ok (.arraylength, 1)) (kk : rG p l e R s m args below meth c E A nL cells slots Q ws (pc + 1) lv (.int (iI (n : Int)) :: st)) : rG p l e R s m args below meth c E A nL cells slots Q ws pc lv (.ref a :: st) := by
  intro H locs la hP hD hS hl
  exact va_alen (v := iI (n : Int)) C.1.1 C.1.2.1 C.2.1 hP q0 2 ha (ty := .long) rfl (Int32.ofInt_eq_ofNat.symm) hd (kk H locs la hP hD hS hl)
end RV1
