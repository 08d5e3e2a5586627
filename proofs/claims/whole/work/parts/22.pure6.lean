theorem pEnd_pos {d : Nat → Int} {k : Nat} {a : Int} (h : pEnd d k a) (ha : 0 ≤ a) : ∃ k2, k = k2 + 1 ∧ pEnd d k2 (d a.toNat) ∧ pth d k a = a.toNat :: pth d k2 (d a.toNat) := by
  cases k with
  | zero => exact absurd h (show ¬ a < 0 by omega)
  | succ k => exact ⟨k, rfl, h.resolve_left (by omega), pth_pos ha⟩
theorem onP_of {d : Nat → Int} {r t : Int} (ht : 0 ≤ t) : onP d r t = true ↔ t.toNat ∈ pth d 32 r := by
  unfold onP
  rw [decide_eq_true_iff]
  exact ⟨fun h => h.2, fun h => ⟨ht, h⟩⟩
theorem onP_f {d : Nat → Int} {r t : Int} (h : ¬ t.toNat ∈ pth d 32 r) : onP d r t = false := decide_eq_false fun q => h q.2
/-- the natural flow at r, as the sum over the reaches and over the rights -/
def natA (isR dn inf : Nat → Int) (r : Int) (k : Nat) : Int := if isR k ≠ 0 ∧ onP dn (k : Int) r = true then inf k else 0
def natB (dn isG plc bck sto shr amt : Nat → Int) (r : Int) (i : Nat) : Int := if isG i ≠ 0 then (if onP dn (plc i) r = true then - amt i else 0) + (if sto i < 0 ∧ onP dn (bck i) r = true then amt i * shr i / 1000 else 0) else 0
def natM (isR dn inf isG plc bck sto shr amt : Nat → Int) (r : Int) : Int := sumTo (natA isR dn inf r) 32 + sumTo (natB dn isG plc bck sto shr amt r) 40
theorem natA_0 {isR dn inf : Nat → Int} {r k ac : Int} (hk : 0 ≤ k) (h : ac = sumTo (natA isR dn inf r) k.toNat) (q : isR k.toNat = 0 ∨ bZ (onP dn k r) = 0) : ac = sumTo (natA isR dn inf r) (k + 1).toNat := by
  rw [sumTo_s _ hk, ← h]
  have e : ((k.toNat : Nat) : Int) = k := by omega
  unfold natA
  rw [e, if_neg]
  · omega
  · rintro ⟨h1, h2⟩
    rcases q with q | q
    · exact h1 q
    · rw [h2] at q; cases q
theorem natA_1 {isR dn inf : Nat → Int} {r k ac : Int} (hk : 0 ≤ k) (h : ac = sumTo (natA isR dn inf r) k.toNat) (q1 : isR k.toNat ≠ 0) (q2 : bZ (onP dn k r) ≠ 0) : ac + inf k.toNat = sumTo (natA isR dn inf r) (k + 1).toNat := by
  rw [sumTo_s _ hk, ← h]
  have e : ((k.toNat : Nat) : Int) = k := by omega
  unfold natA
  rw [e, if_pos ⟨q1, bZ_T q2⟩]
theorem natB_0 {dn isG plc bck sto shr amt : Nat → Int} {r k ac N : Int} (hk : 0 ≤ k) (h : ac = N + sumTo (natB dn isG plc bck sto shr amt r) k.toNat) (q : isG k.toNat = 0) : ac = N + sumTo (natB dn isG plc bck sto shr amt r) (k + 1).toNat := by
  rw [sumTo_s _ hk]
  unfold natB at h ⊢
  rw [if_neg (fun z => z q)]
  omega
theorem natB_1 {dn isG plc bck sto shr amt : Nat → Int} {r k ac N x y : Int} (hk : 0 ≤ k) (h : ac = N + sumTo (natB dn isG plc bck sto shr amt r) k.toNat) (q : isG k.toNat ≠ 0) (hx : x = if onP dn (plc k.toNat) r = true then - amt k.toNat else 0) (hy : y = if sto k.toNat < 0 ∧ onP dn (bck k.toNat) r = true then amt k.toNat * shr k.toNat / 1000 else 0) : ac + x + y = N + sumTo (natB dn isG plc bck sto shr amt r) (k + 1).toNat := by
  rw [sumTo_s _ hk, show natB dn isG plc bck sto shr amt r k.toNat = x + y by unfold natB; rw [if_pos q, ← hx, ← hy]]
  omega
/-- does the plan hold along the path? -/
def hpB (nat : Int → Int) (dn : Nat → Int) : Nat → Int → Bool
  | 0, _ => true
  | n + 1, a => if a < 0 then true else (decide (0 ≤ nat a) && hpB nat dn n (dn a.toNat))
theorem hpB_neg {nat : Int → Int} {dn : Nat → Int} {n : Nat} {a : Int} (h : a < 0) : hpB nat dn n a = true := by
  cases n with
  | zero => rfl
  | succ n => exact if_pos h
theorem hpB_iff {nat : Int → Int} {dn : Nat → Int} : ∀ {n : Nat} {a : Int}, pEnd dn n a → (hpB nat dn n a = true ↔ ∀ q, q ∈ pth dn n a → 0 ≤ nat (q : Int))
  | 0, a, _ => ⟨fun _ q hq => (by cases hq), fun _ => rfl⟩
  | n + 1, a, h => by
    by_cases ha : a < 0
    · rw [hpB_neg ha, pth_neg ha]
      exact ⟨fun _ q hq => (by cases hq), fun _ => rfl⟩
    · rw [pth_pos (by omega)]
      show (if a < 0 then true else (decide (0 ≤ nat a) && hpB nat dn n (dn a.toNat))) = true ↔ _
      rw [if_neg ha, Bool.and_eq_true, decide_eq_true_iff, hpB_iff (h.resolve_left ha)]
      have e : ((a.toNat : Nat) : Int) = a := by omega
      constructor
      · rintro ⟨h1, h2⟩ q hq
        rcases List.mem_cons.mp hq with rfl | hq
        · rw [e]; exact h1
        · exact h2 q hq
      · intro h1
        exact ⟨by have := h1 a.toNat List.mem_cons_self; rw [e] at this; exact this, fun q hq => h1 q (List.mem_cons_of_mem _ hq)⟩
/-- what the rights of reservoir s get together -/
def stoM (isG sto amt : Nat → Int) (s : Int) (i : Nat) : Int := if isG i ≠ 0 ∧ sto i = s then amt i else 0
theorem stoM_0 {isG sto amt : Nat → Int} {s k ac : Int} (hk : 0 ≤ k) (h : ac = sumTo (stoM isG sto amt s) k.toNat) (q : isG k.toNat = 0 ∨ sto k.toNat ≠ s) : ac = sumTo (stoM isG sto amt s) (k + 1).toNat := by
  rw [sumTo_s _ hk, ← h]
  unfold stoM
  rw [if_neg (fun z => q.elim (fun q => z.1 q) (fun q => q z.2))]
  omega
theorem stoM_1 {isG sto amt : Nat → Int} {s k ac : Int} (hk : 0 ≤ k) (h : ac = sumTo (stoM isG sto amt s) k.toNat) (q1 : isG k.toNat ≠ 0) (q2 : sto k.toNat = s) : ac + amt k.toNat = sumTo (stoM isG sto amt s) (k + 1).toNat := by
  rw [sumTo_s _ hk, ← h]
  unfold stoM
  rw [if_pos ⟨q1, q2⟩]
theorem cpZ_s (f g : Nat → Int) {k : Int} (hk : 0 ≤ k) : uZ (cpZ f g k.toNat) k.toNat (f k.toNat) = cpZ f g (k + 1).toNat := by
  funext j
  unfold uZ cpZ
  by_cases h1 : j = k.toNat
  · rw [if_pos h1, if_pos (by omega), h1]
  · rw [if_neg h1]
    by_cases h2 : j < k.toNat
    · rw [if_pos h2, if_pos (by omega)]
    · rw [if_neg h2, if_neg (by omega)]
