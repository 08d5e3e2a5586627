theorem rM.ofF {l : Launch} {y : MethodName} {ws ws' : List Cond} {rm : Room} {E : rE} {cin : va_W} {av : List Value} {S : Type} {r : Option Value} {cout : S → va_W} {cc : ByteArray} {maxL : Nat} {ret : Option FieldType}
    (hy : plainFor y = true) (hw : ws = Cond.code y cc maxL ret :: ws') (hle : (lg_sl av).length ≤ maxL)
    (hg : ∀ w ∈ gW, w ∈ ws)
    (body : ∀ (p : Program) (e : Env) (s : State) (m : MethodId) (args : Array Value) (below : List Frame) (meth : Method) (c : Code) (A : Nat → Prop) (Q : State → Prop), A = va_A cin s.heap.size → Q = MQ below (rQ E cin s.heap.size r cout) args s rm.cells rm.slots A → rC p s m args c E A maxL cc ws y.cls → meth.sig.returnType = ret → meth.locks = false → meth.name = y.name →
      rG p l e rm s m args below meth c E A maxL 0 0 Q cin 0 (lv_args 0 av) []) : rM l y ws rm E cin av r cout := by
  intro sz
  refine va_MetF (cc := cc) (maxL := maxL) (ret := ret) hy hw ?_
  intro p e s m args below meth c s₁ B hml hv
  obtain ⟨rfl, hsz, hK, hP, hD0⟩ := hv
  subst hsz
  have hb := body p e s m av.toArray below meth c (va_A cin s.heap.size) _ rfl rfl ⟨⟨B.exec, B.bytes, hml, findClass_of_methodNamed B.named, atoms_spec (ws := ws) B.pre⟩, hK, fun q h => Or.inr h, hg⟩ B.returns B.notSynchronized (name_of_methodNamed B.named B.method).1
  rw [lg_entry_eq]
  exact hb s.heap [] _ hP hD0.self va_S.rf (lv_entry av hle)
section RV5
variable {p : Program} {l : Launch} {e : Env} {R : Room} {s : State} {m : MethodId} {args : Array Value} {below : List Frame} {meth : Method} {c : Code} {E : rE} {A : Nat → Prop} {nL cells slots : Nat} {Q : State → Prop} {ws : va_W} {pc : Nat} {lv : List (Nat × Value)} {st : List Value} {cc : ByteArray} {Ts : List Cond} {own : String}
theorem xor_nn {x y : Int32} (hx : 0 ≤ x.toInt) (hy : 0 ≤ y.toInt) : 0 ≤ (x ^^^ y).toInt := by
  have h1 : x.toBitVec.msb = false := by rw [BitVec.msb_eq_toInt]; exact decide_eq_false (by have : x.toBitVec.toInt = x.toInt := rfl; omega)
  have h2 : y.toBitVec.msb = false := by rw [BitVec.msb_eq_toInt]; exact decide_eq_false (by have : y.toBitVec.toInt = y.toInt := rfl; omega)
  have h3 : (x ^^^ y).toBitVec.msb = false := by rw [Int32.toBitVec_xor, BitVec.msb_xor, h1, h2]; rfl
  rw [BitVec.msb_eq_toInt] at h3
  have h4 := of_decide_eq_false h3
  have h5 : (x ^^^ y).toBitVec.toInt = (x ^^^ y).toInt := rfl
  omega
/-- of two numbers that are not below 0: what comes is not below 0 -/
theorem rg_ixor (C : rC p s m args c E A nL cc Ts own) {a b : Int} (ha : 0 ≤ a ∧ a ≤ 2147483647) (hb : 0 ≤ b ∧ b ≤ 2147483647) (hd : decode cc pc = .ok (.ixor, 1)) (kk : ∀ z : Int, (0 ≤ z ∧ z ≤ 2147483647) → rG p l e R s m args below meth c E A nL cells slots Q ws (pc + 1) lv (.int (iI z) :: st)) : rG p l e R s m args below meth c E A nL cells slots Q ws pc lv (.int (iI b) :: .int (iI a) :: st) := by
  intro H locs la hP hD hS hl
  refine lv_ixor C.1.1 C.1.2.1 hd ?_
  obtain ⟨z, hz, ez⟩ := iI_of (iI a ^^^ iI b)
  have h0 : 0 ≤ z := by
    have := xor_nn (x := iI a) (y := iI b) (by rw [iI_to ⟨by omega, by omega⟩]; exact ha.1) (by rw [iI_to ⟨by omega, by omega⟩]; exact hb.1)
    rw [ez, iI_to hz] at this
    exact this
  rw [ez]
  exact kk z ⟨h0, hz.2⟩ H locs la hP hD hS hl
end RV5
/-- the reservoirs' waters when a day is closed -/
def watZ (st ag get wat : Nat → Int) : Nat → Nat → Int
  | 0 => wat
  | k + 1 => if st (ag k).toNat ≠ -1 then uZ (watZ st ag get wat k) (st (ag k).toNat).toNat (watZ st ag get wat k (st (ag k).toNat).toNat + get (ag k).toNat) else watZ st ag get wat k
theorem dec0 {P : Prop} [Decidable P] : bZ (decide P) = 0 ↔ ¬ P := by rw [bZ_0, decide_eq_false_iff_not]
theorem watZ_no {st ag get wat : Nat → Int} {k : Int} (hk : 0 ≤ k) (h : bZ (decide (st (ag k.toNat).toNat ≠ -1)) = 0) : watZ st ag get wat (k + 1).toNat = watZ st ag get wat k.toNat := by
  rw [show (k + 1).toNat = k.toNat + 1 by omega]
  exact if_neg (dec0.mp h)
theorem watZ_yes {st ag get wat : Nat → Int} {k : Int} (hk : 0 ≤ k) (h : ¬ bZ (decide (st (ag k.toNat).toNat ≠ -1)) = 0) : watZ st ag get wat (k + 1).toNat = uZ (watZ st ag get wat k.toNat) (st (ag k.toNat).toNat).toNat (watZ st ag get wat k.toNat (st (ag k.toNat).toNat).toNat + get (ag k.toNat).toNat) := by
  rw [show (k + 1).toNat = k.toNat + 1 by omega]
  exact if_pos (Decidable.byContradiction fun q => h (dec0.mpr q))
/-- an inflow of am at a goes down to the outlet -/
def pourZ (d : Nat → Int) (am : Int) : Nat → Int → (Nat → Int) → Nat → Int
  | 0, _, f => f
  | n + 1, a, f => if a < 0 then f else pourZ d am n (d a.toNat) (uZ f a.toNat (f a.toNat + am))
theorem pourZ_end {d : Nat → Int} {am a k : Int} {f : Nat → Int} (h : 32 ≤ k ∨ a < 0) : pourZ d am (32 - k).toNat a f = f := by
  rcases h with h | h
  · rw [show (32 - k).toNat = 0 by omega]; rfl
  · generalize (32 - k).toNat = n
    cases n with
    | zero => rfl
    | succ n => exact if_pos h
theorem pourZ_on {d : Nat → Int} {am a k : Int} {f : Nat → Int} (hk : 0 ≤ k) (hk2 : k < 32) (ha : 0 ≤ a) : pourZ d am (32 - k).toNat a f = pourZ d am (32 - (k + 1)).toNat (d a.toNat) (uZ f a.toNat (f a.toNat + am)) := by
  rw [show (32 - k).toNat = (32 - (k + 1)).toNat + 1 by omega]
  exact if_neg (by omega)
def begF (d inf f : Nat → Int) : Nat → Nat → Int
  | 0 => f
  | k + 1 => if inf k ≤ 0 then begF d inf f k else pourZ d (inf k) 32 (k : Int) (begF d inf f k)
theorem begF_no {d inf f : Nat → Int} {k : Int} (hk : 0 ≤ k) (h : inf k.toNat ≤ 0) : begF d inf f (k + 1).toNat = begF d inf f k.toNat := by
  rw [show (k + 1).toNat = k.toNat + 1 by omega]
  exact if_pos h
theorem begF_yes {d inf f : Nat → Int} {k : Int} (hk : 0 ≤ k) (h : ¬ inf k.toNat ≤ 0) : begF d inf f (k + 1).toNat = pourZ d (inf k.toNat) 32 k (begF d inf f k.toNat) := by
  rw [show (k + 1).toNat = k.toNat + 1 by omega]
  have e : ((k.toNat : Nat) : Int) = k := by omega
  rw [show begF d inf f (k.toNat + 1) = if inf k.toNat ≤ 0 then begF d inf f k.toNat else pourZ d (inf k.toNat) 32 ((k.toNat : Nat) : Int) (begF d inf f k.toNat) from rfl, if_neg h, e]
def begR (cap wat roo : Nat → Int) (n : Nat) : Nat → Int := fun j => if j < n then cap j - wat j else roo j
theorem begR_s (cap wat roo : Nat → Int) {k : Int} (hk : 0 ≤ k) : uZ (begR cap wat roo k.toNat) k.toNat (cap k.toNat - wat k.toNat) = begR cap wat roo (k + 1).toNat := by
  funext j
  unfold uZ begR
  by_cases h1 : j = k.toNat
  · rw [if_pos h1, if_pos (by omega), h1]
  · rw [if_neg h1]
    by_cases h2 : j < k.toNat
    · rw [if_pos h2, if_pos (by omega)]
    · rw [if_neg h2, if_neg (by omega)]
/-- the bound at a reach where what comes back has come -/
def mfu (sh f : Int) : Int := if 1000 - sh ≤ 0 then 1000000000 else f * 1000 / (1000 - sh)
/-- the most that a right can get: walking down -/
def mosW (d : Nat → Int) (sh rt : Int) (f : Nat → Int) : Nat → Int → Bool → Int → Int
  | 0, _, _, m => m
  | n + 1, a, cb, m => if a < 0 then m else mosW d sh rt f n (d a.toNat) (cb || decide (a = rt)) (min m (if (cb || decide (a = rt)) = true then mfu sh (f a.toNat) else f a.toNat))
theorem mosW_end {d : Nat → Int} {sh rt a k m : Int} {f : Nat → Int} {cb : Bool} (h : 32 ≤ k ∨ a < 0) : mosW d sh rt f (32 - k).toNat a cb m = m := by
  rcases h with h | h
  · rw [show (32 - k).toNat = 0 by omega]; rfl
  · generalize (32 - k).toNat = n
    cases n with
    | zero => rfl
    | succ n => exact if_pos h
theorem mosW_t {d : Nat → Int} {sh rt a k m : Int} {f : Nat → Int} {cb : Bool} (hk : 0 ≤ k) (hk2 : k < 32) (ha : 0 ≤ a) (h : cb = true ∨ a = rt) : mosW d sh rt f (32 - k).toNat a cb m = mosW d sh rt f (32 - (k + 1)).toNat (d a.toNat) true (min m (mfu sh (f a.toNat))) := by
  have hc : (cb || decide (a = rt)) = true := by rw [Bool.or_eq_true, decide_eq_true_iff]; exact h
  rw [show (32 - k).toNat = (32 - (k + 1)).toNat + 1 by omega]
  rw [show mosW d sh rt f ((32 - (k + 1)).toNat + 1) a cb m = if a < 0 then m else mosW d sh rt f (32 - (k + 1)).toNat (d a.toNat) (cb || decide (a = rt)) (min m (if (cb || decide (a = rt)) = true then mfu sh (f a.toNat) else f a.toNat)) from rfl, if_neg (by omega), hc, if_pos rfl]
theorem mosW_f {d : Nat → Int} {sh rt a k m : Int} {f : Nat → Int} {cb : Bool} (hk : 0 ≤ k) (hk2 : k < 32) (ha : 0 ≤ a) (h1 : cb = false) (h2 : a ≠ rt) : mosW d sh rt f (32 - k).toNat a cb m = mosW d sh rt f (32 - (k + 1)).toNat (d a.toNat) false (min m (f a.toNat)) := by
  have hc : (cb || decide (a = rt)) = false := by rw [h1, decide_eq_false h2]; rfl
  rw [show (32 - k).toNat = (32 - (k + 1)).toNat + 1 by omega]
  rw [show mosW d sh rt f ((32 - (k + 1)).toNat + 1) a cb m = if a < 0 then m else mosW d sh rt f (32 - (k + 1)).toNat (d a.toNat) (cb || decide (a = rt)) (min m (if (cb || decide (a = rt)) = true then mfu sh (f a.toNat) else f a.toNat)) from rfl, if_neg (by omega), hc, if_neg (by decide)]
theorem mfu_in {sh f : Int} (hs : 0 ≤ sh ∧ sh ≤ 1000) (hf : 0 ≤ f ∧ f ≤ 1000000000000) : 0 ≤ mfu sh f ∧ mfu sh f ≤ 1000000000000000 := by
  unfold mfu
  split
  · omega
  · have h1 : f * 1000 / (1000 - sh) ≤ f * 1000 := Int.ediv_le_self _ (by omega)
    have h2 : 0 ≤ f * 1000 / (1000 - sh) := Int.ediv_nonneg (by omega) (by omega)
    omega
/-- what a right's getting am leaves of the flows: walking down -/
def givW (d : Nat → Int) (sh rt am : Int) : Nat → Int → Bool → (Nat → Int) → Nat → Int
  | 0, _, _, f => f
  | n + 1, a, cb, f => if a < 0 then f else givW d sh rt am n (d a.toNat) (cb || decide (a = rt)) (uZ f a.toNat (f a.toNat - (if (cb || decide (a = rt)) = true then am - am * sh / 1000 else am)))
theorem givW_end {d : Nat → Int} {sh rt am a k : Int} {f : Nat → Int} {cb : Bool} (h : 32 ≤ k ∨ a < 0) : givW d sh rt am (32 - k).toNat a cb f = f := by
  rcases h with h | h
  · rw [show (32 - k).toNat = 0 by omega]; rfl
  · generalize (32 - k).toNat = n
    cases n with
    | zero => rfl
    | succ n => exact if_pos h
theorem givW_t {d : Nat → Int} {sh rt am a k : Int} {f : Nat → Int} {cb : Bool} (hk : 0 ≤ k) (hk2 : k < 32) (ha : 0 ≤ a) (h : cb = true ∨ a = rt) : givW d sh rt am (32 - k).toNat a cb f = givW d sh rt am (32 - (k + 1)).toNat (d a.toNat) true (uZ f a.toNat (f a.toNat - (am - am * sh / 1000))) := by
  have hc : (cb || decide (a = rt)) = true := by rw [Bool.or_eq_true, decide_eq_true_iff]; exact h
  rw [show (32 - k).toNat = (32 - (k + 1)).toNat + 1 by omega]
  rw [show givW d sh rt am ((32 - (k + 1)).toNat + 1) a cb f = if a < 0 then f else givW d sh rt am (32 - (k + 1)).toNat (d a.toNat) (cb || decide (a = rt)) (uZ f a.toNat (f a.toNat - (if (cb || decide (a = rt)) = true then am - am * sh / 1000 else am))) from rfl, if_neg (by omega), hc, if_pos rfl]
theorem givW_f {d : Nat → Int} {sh rt am a k : Int} {f : Nat → Int} {cb : Bool} (hk : 0 ≤ k) (hk2 : k < 32) (ha : 0 ≤ a) (h1 : cb = false) (h2 : a ≠ rt) : givW d sh rt am (32 - k).toNat a cb f = givW d sh rt am (32 - (k + 1)).toNat (d a.toNat) false (uZ f a.toNat (f a.toNat - am)) := by
  have hc : (cb || decide (a = rt)) = false := by rw [h1, decide_eq_false h2]; rfl
  rw [show (32 - k).toNat = (32 - (k + 1)).toNat + 1 by omega]
  rw [show givW d sh rt am ((32 - (k + 1)).toNat + 1) a cb f = if a < 0 then f else givW d sh rt am (32 - (k + 1)).toNat (d a.toNat) (cb || decide (a = rt)) (uZ f a.toNat (f a.toNat - (if (cb || decide (a = rt)) = true then am - am * sh / 1000 else am))) from rfl, if_neg (by omega), hc, if_neg (by decide)]
theorem bZ_T {cb : Bool} (h : bZ cb ≠ 0) : cb = true := bZ_n0.mp h
theorem bZ_F {cb : Bool} (h : bZ cb = 0) : cb = false := bZ_0.mp h
/-- the used, and the stored, of the first k rights by age -/
def useS (st sh ag get : Nat → Int) (j : Nat) : Int := if st (ag j).toNat ≠ -1 then 0 else get (ag j).toNat - get (ag j).toNat * sh (ag j).toNat / 1000
def stoS (st ag get : Nat → Int) (j : Nat) : Int := if st (ag j).toNat ≠ -1 then get (ag j).toNat else 0
theorem min9 {m b : Int} (h : 0 ≤ m ∧ m ≤ 1000000000) (hb : 0 ≤ b) : 0 ≤ min m b ∧ min m b ≤ 1000000000 := by omega
theorem wideL {b : Int} (h : 0 ≤ b ∧ b ≤ 1000000000000000) : inL b := by omega
