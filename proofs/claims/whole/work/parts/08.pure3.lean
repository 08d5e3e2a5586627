/-- the rights' order with one more in its place -/
def insA (pr : Nat → Int) (p i : Int) : Nat → (Nat → Int) → Nat → Int
  | 0, f => uZ f 0 i
  | k + 1, f => if pr (f k).toNat > p then insA pr p i k (uZ f (k + 1) (f k)) else uZ f (k + 1) i
theorem insA_stop {pr : Nat → Int} {p i a : Int} {f : Nat → Int} (h0 : 0 ≤ a) (h : a ≤ 0 ∨ pr (f (a - 1).toNat).toNat ≤ p) : insA pr p i a.toNat f = uZ f a.toNat i := by
  by_cases e : a ≤ 0
  · rw [show a.toNat = 0 by omega]; rfl
  · have h1 := h.resolve_left e
    rw [show a.toNat = (a - 1).toNat + 1 by omega]
    exact if_neg (by omega)
theorem insA_on {pr : Nat → Int} {p i a : Int} {f : Nat → Int} (h0 : 0 < a) (h : ¬ pr (f (a - 1).toNat).toNat ≤ p) : insA pr p i a.toNat f = insA pr p i (a - 1).toNat (uZ f a.toNat (f (a - 1).toNat)) := by
  have e : a.toNat = (a - 1).toNat + 1 := by omega
  rw [e]
  exact if_pos (by omega)
/-- the rights' order with one less: how many, and which -/
def remL (i : Int) : Nat → Nat → Nat → (Nat → Int) → Nat × (Nat → Int)
  | 0, _, kept, f => (kept, f)
  | n + 1, k, kept, f => if f k = i then remL i n (k + 1) kept f else remL i n (k + 1) (kept + 1) (uZ f kept (f k))
theorem remL_end {i c k : Int} {kept : Nat} {f : Nat → Int} (h : c ≤ k) : remL i (c - k).toNat k.toNat kept f = (kept, f) := by
  rw [show (c - k).toNat = 0 by omega]; rfl
theorem remL_hit {i c k : Int} {kept : Nat} {f : Nat → Int} (h0 : 0 ≤ k) (h : k < c) (e : f k.toNat = i) : remL i (c - k).toNat k.toNat kept f = remL i (c - (k + 1)).toNat (k + 1).toNat kept f := by
  rw [show (c - k).toNat = (c - (k + 1)).toNat + 1 by omega, show (k + 1).toNat = k.toNat + 1 by omega]
  exact if_pos e
theorem remL_on {i c k : Int} {kept : Nat} {f : Nat → Int} (h0 : 0 ≤ k) (h : k < c) (e : ¬ f k.toNat = i) : remL i (c - k).toNat k.toNat kept f = remL i (c - (k + 1)).toNat (k + 1).toNat (kept + 1) (uZ f kept (f k.toNat)) := by
  rw [show (c - k).toNat = (c - (k + 1)).toNat + 1 by omega, show (k + 1).toNat = k.toNat + 1 by omega]
  exact if_neg e
def hasP (pr ag : Nat → Int) (p : Int) : Nat → Bool
  | 0 => false
  | n + 1 => hasP pr ag p n || decide (pr (ag n).toNat = p)
theorem hasP_iff {pr ag : Nat → Int} {p : Int} : ∀ {n : Nat}, hasP pr ag p n = true ↔ ∃ j, j < n ∧ pr (ag j).toNat = p
  | 0 => ⟨fun h => (by cases h), fun ⟨_, h, _⟩ => absurd h (Nat.not_lt_zero _)⟩
  | n + 1 => by
    show (hasP pr ag p n || decide (pr (ag n).toNat = p)) = true ↔ _
    rw [Bool.or_eq_true, hasP_iff, decide_eq_true_iff]
    constructor
    · rintro (⟨j, h1, h2⟩ | h)
      · exact ⟨j, by omega, h2⟩
      · exact ⟨n, by omega, h⟩
    · rintro ⟨j, h1, h2⟩
      by_cases e : j = n
      · subst e; exact Or.inr h2
      · exact Or.inl ⟨j, by omega, h2⟩
def filZ (f : Nat → Int) (v : Int) (n : Nat) : Nat → Int := fun k => if k < n then v else f k
theorem filZ_0 (f : Nat → Int) (v : Int) : filZ f v 0 = f := rfl
theorem filZ_s (f : Nat → Int) (v : Int) {k : Int} (hk : 0 ≤ k) : uZ (filZ f v k.toNat) k.toNat v = filZ f v (k + 1).toNat := by
  funext j
  unfold uZ filZ
  by_cases h1 : j = k.toNat
  · rw [if_pos h1, if_pos (by omega)]
  · rw [if_neg h1]
    by_cases h2 : j < k.toNat
    · rw [if_pos h2, if_pos (by omega)]
    · rw [if_neg h2, if_neg (by omega)]
def cpZ (f g : Nat → Int) (n : Nat) : Nat → Int := fun k => if k < n then f k else g k
theorem cpy_iI (f g : Nat → Int) (n : Nat) : va_cpy (fun k => iI (f k)) (fun k => iI (g k)) 0 0 n = fun k => iI (cpZ f g n k) := by
  funext k
  unfold va_cpy cpZ
  by_cases h : k < n
  · rw [if_pos ⟨Nat.zero_le _, by omega⟩, if_pos h]; simp
  · rw [if_neg (fun q => h (by omega)), if_neg h]
section RV4
variable {p : Program} {l : Launch} {e : Env} {R : Room} {s : State} {m : MethodId} {args : Array Value} {below : List Frame} {meth : Method} {c : Code} {E : rE} {A : Nat → Prop} {nL cells slots : Nat} {Q : State → Prop} {ws : va_W} {pc : Nat} {lv : List (Nat × Value)} {st : List Value} {cc : ByteArray} {Ts : List Cond} {own : String}
/-- System.arraycopy from the start of one int array to the start of another -/
theorem rg_copyi (C : rC p s m args c E A nL cc Ts own) {index a0 a1 n : Nat} {f g : Nat → Int} {z : Int} {ws' : va_W} (q0 q1 : Nat) (h0 : ws[q0]? = some (cI E a0 n f)) (h1 : ws[q1]? = some (cI E a1 n g)) (hz : z = (n : Int)) (hn : n < 2147483648)
    (w1 : Cond.methodLink own index arraycopyName ∈ gW) (w2 : Cond.native arraycopyName ∈ gW) (w3 : Cond.static arraycopyName ∈ gW) (w4 : Cond.initialized "java/lang/System" ∈ gW)
    (hfr : 1 ≤ R.frames) (hlo : (st.map fun v => v.category).sum + (nativeFrameWords "java/lang/System" "arraycopy" 5 + 11) ≤ R.locals) (hd : decode cc pc = .ok (.invokestatic index, 3))
    (hw : ws.set q1 (cI E a1 n (cpZ f g n)) = ws') (kk : rG p l e R s m args below meth c E A nL cells slots Q ws' (pc + 3) lv st) : rG p l e R s m args below meth c E A nL cells slots Q ws pc lv (.int (iI z) :: .int (iI 0) :: .ref a1 :: .int (iI 0) :: .ref a0 :: st) := by
  intro H locs la hP hD hS hl
  subst hw hz
  have hcl : (iI (n : Int)).toNatClampNeg = n := by rw [iI_cl (by omega) (by omega)]; simp
  have hc0 : (iI 0).toNatClampNeg = 0 := rfl
  have hge : ¬ iI (n : Int) < 0 := fun q => by
    have := (iI_lt (a := (n : Int)) (b := 0) ⟨by omega, by omega⟩ inI_0).mp q
    omega
  refine va_copyi C.1.1 C.1.2.1 (by rw [C.1.2.2.1]; exact hl.1.symm) C.1.2.2.2.1 (C.1.2.2.2.2 _ (C.2.2.2 _ w1)) (C.1.2.2.2.2 _ (C.2.2.2 _ w2)) (C.1.2.2.2.2 _ (C.2.2.2 _ w3)) (C.1.2.2.2.2 _ (C.2.2.2 _ w4)) C.2.1 hP hD hS q0 q1 0 0 h0 h1 rfl rfl rfl (by decide) (by decide) hge (by rw [hcl, hc0]; omega) (by rw [hcl, hc0]; omega) (fun _ _ => rfl) hfr hlo hd ?_
  rw [hcl, hc0, cpy_iI]
  exact fun H1 locs1 hP1 hD1 hS1 => kk H1 locs1 la hP1 hD1 hS1 hl
/-- Math.min of two longs -/
theorem rg_minl (C : rC p s m args c E A nL cc Ts own) {index : Nat} {x y : Int} (hx : inL x) (hy : inL y)
    (w1 : Cond.methodLink own index Lib.MathLoose.min_long.x ∈ gW) (w2 : Cond.static Lib.MathLoose.min_long.x ∈ gW) (w3 : Cond.initialized "java/lang/Math" ∈ gW) (w4 : Cond.code Lib.MathLoose.min_long.x Lib.MathLoose.min_long.code 4 (some .long) ∈ gW)
    (hfr : 1 ≤ R.frames) (hlo : (st.map fun v => v.category).sum + 15 ≤ R.locals) (hc : cells ≤ R.cells) (hs : slots ≤ R.slots) (hd : decode cc pc = .ok (.invokestatic index, 3))
    (kk : rG p l e R s m args below meth c E A nL cells slots Q ws (pc + 3) lv (.long (lI (min x y)) :: st)) : rG p l e R s m args below meth c E A nL cells slots Q ws pc lv (.long (lI y) :: .long (lI x) :: st) := by
  intro H locs la hP hD hS hl
  refine va_mmin_long C.1.1 C.1.2.1 (by rw [C.1.2.2.1]; exact hl.1.symm) C.1.2.2.2.1 (C.1.2.2.2.2 _ (C.2.2.2 _ w1)) (C.1.2.2.2.2 _ (C.2.2.2 _ w2)) (C.1.2.2.2.2 _ (C.2.2.2 _ w3)) (C.1.2.2.2.2 _ (C.2.2.2 _ w4)) hfr hlo hc hs hd ?_
  have e9 : (if lI y < lI x then lI y else lI x) = lI (min x y) := by
    by_cases q : y < x
    · rw [if_pos ((lI_lt hy hx).mpr q), show min x y = y by omega]
    · rw [if_neg (fun z => q ((lI_lt hy hx).mp z)), show min x y = x by omega]
  rw [e9]
  exact kk H locs la hP hD hS hl
end RV4
