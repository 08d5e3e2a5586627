/-! the law's own rows: the script, and comparisons of what is alike -/
theorem lI_of (x : Int64) : ∃ z : Int, inL z ∧ x = lI z := ⟨x.toInt, ⟨by have := Int64.le_toInt x; omega, by have := Int64.toInt_lt x; omega⟩, (Int64.ofInt_toInt x).symm⟩
section RL1
variable {p : Program} {l : Launch} {e : Env} {R : Room} {s : State} {m : MethodId} {args : Array Value} {below : List Frame} {meth : Method} {c : Code}
variable {E : rE} {A : Nat → Prop} {nL cells slots : Nat} {Q : State → Prop} {ws : va_W} {pc : Nat} {lv : List (Nat × Value)} {st : List Value} {cc : ByteArray} {Ts : List Cond} {own : String}
/-- the script: L ints at b, sc their values -/
def scr (s : State) (A : Nat → Prop) (b L : Nat) (sc : Nat → Int) : Prop := (∃ xs : Nat → Int32, va_X b L xs s s.heap ∧ ∀ k, xs k = iI (sc k)) ∧ b < s.heap.size ∧ ¬ A b ∧ L ≤ 3584 ∧ ∀ k, inI (sc k)
theorem rg_sld (C : rC p s m args c E A nL cc Ts own) {b L : Nat} {sc : Nat → Int} (hX : scr s A b L sc) {z : Int} (h0 : 0 ≤ z) (h1 : z < (L : Int)) (hd : decode cc pc = .ok (.iaload, 1)) (kk : rG p l e R s m args below meth c E A nL cells slots Q ws (pc + 1) lv (.int (iI (sc z.toNat)) :: st)) : rG p l e R s m args below meth c E A nL cells slots Q ws pc lv (.int (iI z) :: .ref b :: st) := by
  intro H locs la hP hD hS hl
  obtain ⟨⟨xs, hx, he⟩, hb, hA, hL, -⟩ := hX
  refine va_sld C.1.1 C.1.2.1 hx hb hA hS (iI_in h0 h1 (by omega)) hd ?_
  rw [iI_cl h0 (by omega), he]
  exact kk H locs la hP hD hS hl
theorem rg_slen (C : rC p s m args c E A nL cc Ts own) {b L : Nat} {sc : Nat → Int} (hX : scr s A b L sc) (hd : decode cc pc = .ok (.arraylength, 1)) (kk : rG p l e R s m args below meth c E A nL cells slots Q ws (pc + 1) lv (.int (iI (L : Int)) :: st)) : rG p l e R s m args below meth c E A nL cells slots Q ws pc lv (.ref b :: st) := by
  intro H locs la hP hD hS hl
  obtain ⟨⟨xs, hx, he⟩, hb, hA, hL, -⟩ := hX
  refine va_slen C.1.1 C.1.2.1 hx hb hA hS hd ?_
  rw [show Int32.ofNat L = iI (L : Int) from by first | rfl | exact (Int32.ofInt_eq_ofNat).symm | simp [iI]]
  exact kk H locs la hP hD hS hl
theorem and31 (x : Int32) : ∃ y : Int, (0 ≤ y ∧ y ≤ 31) ∧ x &&& (31 : Int32) = iI y := by
  obtain ⟨y, hy, e⟩ := iI_of (x &&& (31 : Int32))
  refine ⟨y, ?_, e⟩
  have h : (x &&& (31 : Int32)).toBitVec.toNat ≤ 31 := by
    rw [Int32.toBitVec_and, BitVec.toNat_and]
    exact Nat.le_trans Nat.and_le_right (by decide)
  have h2 : (x &&& (31 : Int32)).toInt = ((x &&& (31 : Int32)).toBitVec.toNat : Int) := by
    show (x &&& (31 : Int32)).toBitVec.toInt = _
    rw [BitVec.toInt_eq_toNat_cond, if_pos (by omega)]
  rw [e, iI_to hy] at h2
  rw [e] at h
  omega
theorem rg_and31 (C : rC p s m args c E A nL cc Ts own) {z : Int} (hd : decode cc pc = .ok (.iand, 1)) (kk : ∀ y : Int, (0 ≤ y ∧ y ≤ 31) → rG p l e R s m args below meth c E A nL cells slots Q ws (pc + 1) lv (.int (iI y) :: st)) : rG p l e R s m args below meth c E A nL cells slots Q ws pc lv (.int (iI 31) :: .int (iI z) :: st) := by
  intro H locs la hP hD hS hl
  obtain ⟨y, hy, e⟩ := and31 (iI z)
  refine lv_iand C.1.1 C.1.2.1 hd ?_
  rw [show (iI 31 : Int32) = 31 from rfl, e]
  exact kk y hy H locs la hP hD hS hl
theorem rg_icmp_eqs (C : rC p s m args c E A nL cc Ts own) {x y : Int32} {off : Int} {tgt : Nat} (h : x = y) (hd : decode cc pc = .ok (.if_icmp .eq off, 3)) (ht : (pc : Int) + off = (tgt : Int)) (kt : rG p l e R s m args below meth c E A nL cells slots Q ws tgt lv st) : rG p l e R s m args below meth c E A nL cells slots Q ws pc lv (.int y :: .int x :: st) := by
  intro H locs la hP hD hS hl
  exact lv_icmp_eq C.1.1 C.1.2.1 hd ht (fun _ => kt H locs la hP hD hS hl) (fun q => absurd h q)
theorem rg_lcmp_eqs (C : rC p s m args c E A nL cc Ts own) {z : Int} {off : Int} {tgt : Nat} (hd : decode cc pc = .ok (.lcmp, 1)) (hd2 : decode cc (pc + 1) = .ok (.ifCond .eq off, 3)) (ht : ((pc + 1 : Nat) : Int) + off = (tgt : Int)) (kt : rG p l e R s m args below meth c E A nL cells slots Q ws tgt lv st) : rG p l e R s m args below meth c E A nL cells slots Q ws pc lv (.long (lI z) :: .long (lI z) :: st) := by
  obtain ⟨w, hw, e⟩ := lI_of (lI z)
  rw [e]
  exact rg_lcmp_eq C hw hw hd hd2 ht (fun _ => kt) (fun q => absurd rfl q)
end RL1
