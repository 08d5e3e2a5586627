def bZ (b : Bool) : Int := if b then 1 else 0
theorem bZ_nar (b : Bool) : narrow .boolean (.int (iI (bZ b))) = .int (iI (bZ b)) := by cases b <;> rfl
theorem bZ_t : bZ true = 1 := rfl
theorem bZ_f : bZ false = 0 := rfl
theorem bZ_in (b : Bool) : inI (bZ b) := by cases b <;> exact ⟨by decide, by decide⟩
theorem bZ_01 (b : Bool) : bZ b = 0 ∨ bZ b = 1 := by cases b <;> simp [bZ]
theorem bZ_0 {b : Bool} : bZ b = 0 ↔ b = false := by cases b <;> simp [bZ]
theorem bZ_n0 {b : Bool} : bZ b ≠ 0 ↔ b = true := by cases b <;> simp [bZ]
/-- is reach t on the path of r? -/
def onP (d : Nat → Int) (r t : Int) : Bool := decide (0 ≤ t ∧ t.toNat ∈ pth d 32 r)
theorem onP_step {d : Nat → Int} {a t k : Int} (hk : 0 ≤ k) (hk2 : k < 32) (ha : 0 ≤ a) : (0 ≤ t ∧ t.toNat ∈ pth d (32 - k).toNat a) ↔ (a = t ∨ (0 ≤ t ∧ t.toNat ∈ pth d (32 - (k + 1)).toNat (d a.toNat))) := by
  rw [show (32 - k).toNat = (32 - (k + 1)).toNat + 1 by omega, pth_pos ha]
  constructor
  · rintro ⟨h1, h2⟩
    rcases List.mem_cons.mp h2 with h | h
    · exact Or.inl (by omega)
    · exact Or.inr ⟨h1, h⟩
  · rintro (h | ⟨h1, h2⟩)
    · subst h
      exact ⟨ha, List.mem_cons_self⟩
    · exact ⟨h1, List.mem_cons_of_mem _ h2⟩
theorem onP_end {d : Nat → Int} {a t k : Int} (h : 32 ≤ k ∨ a < 0) : ¬ (0 ≤ t ∧ t.toNat ∈ pth d (32 - k).toNat a) := by
  rintro ⟨_, h2⟩
  rcases h with h | h
  · rw [show (32 - k).toNat = 0 by omega] at h2; cases h2
  · rw [pth_neg h] at h2; cases h2
/-- water sent from a down to t: so much more at each reach -/
def sendZ (d : Nat → Int) (t am : Int) : Nat → Int → (Nat → Int) → Nat → Int
  | 0, _, f => f
  | n + 1, a, f => if a < 0 then f else if a = t then uZ f a.toNat (f a.toNat + am) else sendZ d t am n (d a.toNat) (uZ f a.toNat (f a.toNat + am))
theorem sendZ_end {d : Nat → Int} {t am a k : Int} {f : Nat → Int} (h : 32 ≤ k ∨ a < 0) : sendZ d t am (32 - k).toNat a f = f := by
  rcases h with h | h
  · rw [show (32 - k).toNat = 0 by omega]; rfl
  · generalize (32 - k).toNat = n
    cases n with
    | zero => rfl
    | succ n => exact if_pos h
theorem sendZ_hit {d : Nat → Int} {t am a k : Int} {f : Nat → Int} (hk : 0 ≤ k) (hk2 : k < 32) (ha : 0 ≤ a) (h : a = t) : sendZ d t am (32 - k).toNat a f = uZ f a.toNat (f a.toNat + am) := by
  rw [show (32 - k).toNat = (32 - (k + 1)).toNat + 1 by omega]
  unfold sendZ
  rw [if_neg (by omega), if_pos h]
theorem sendZ_on {d : Nat → Int} {t am a k : Int} {f : Nat → Int} (hk : 0 ≤ k) (hk2 : k < 32) (ha : 0 ≤ a) (h : a ≠ t) : sendZ d t am (32 - k).toNat a f = sendZ d t am (32 - (k + 1)).toNat (d a.toNat) (uZ f a.toNat (f a.toNat + am)) := by
  rw [show (32 - k).toNat = (32 - (k + 1)).toNat + 1 by omega]
  rw [show sendZ d t am ((32 - (k + 1)).toNat + 1) a f = if a < 0 then f else if a = t then uZ f a.toNat (f a.toNat + am) else sendZ d t am (32 - (k + 1)).toNat (d a.toNat) (uZ f a.toNat (f a.toNat + am)) from rfl, if_neg (by omega), if_neg h]
theorem sumTo_s (f : Nat → Int) {k : Int} (hk : 0 ≤ k) : sumTo f (k + 1).toNat = sumTo f k.toNat + f k.toNat := by
  rw [show (k + 1).toNat = k.toNat + 1 by omega]; rfl
