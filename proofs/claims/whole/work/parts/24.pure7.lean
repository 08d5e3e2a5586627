theorem natB_in {dn isG plc bck sto shr amt : Nat → Int} {r : Int} (ham : ∀ i : Nat, i < 40 → 0 ≤ amt i ∧ amt i ≤ 1000000000) (hs : ∀ i : Nat, i < 40 → isG i ≠ 0 → sto i < 0 → 0 ≤ shr i ∧ shr i ≤ 1000) {i : Nat} (hi : i < 40) : -1000000000 ≤ natB dn isG plc bck sto shr amt r i ∧ natB dn isG plc bck sto shr amt r i ≤ 1000000000 := by
  have ha := ham i hi
  unfold natB
  by_cases q : isG i ≠ 0
  · rw [if_pos q]
    have h1 : (if onP dn (plc i) r = true then - amt i else 0) ≤ 0 ∧ -1000000000 ≤ (if onP dn (plc i) r = true then - amt i else 0) := by
      split <;> omega
    have h2 : 0 ≤ (if sto i < 0 ∧ onP dn (bck i) r = true then amt i * shr i / 1000 else 0) ∧ (if sto i < 0 ∧ onP dn (bck i) r = true then amt i * shr i / 1000 else 0) ≤ 1000000000 := by
      split
      · rename_i z
        obtain ⟨s1, s2⟩ := hs i hi q z.1
        have m1 : amt i * shr i ≤ amt i * 1000 := Int.mul_le_mul_of_nonneg_left s2 ha.1
        have m2 : 0 ≤ amt i * shr i := Int.mul_nonneg ha.1 s1
        omega
      · omega
    omega
  · rw [if_neg q]; omega
theorem natM_in {isR dn inf isG plc bck sto shr amt : Nat → Int} {r : Int} (hinf : ∀ k : Nat, k < 32 → 0 ≤ inf k ∧ inf k ≤ 1000000000) (ham : ∀ i : Nat, i < 40 → 0 ≤ amt i ∧ amt i ≤ 1000000000) (hs : ∀ i : Nat, i < 40 → isG i ≠ 0 → sto i < 0 → 0 ≤ shr i ∧ shr i ≤ 1000) : -1000000000000 ≤ natM isR dn inf isG plc bck sto shr amt r ∧ natM isR dn inf isG plc bck sto shr amt r ≤ 1000000000000 := by
  have a1 := sumTo_le (f := natA isR dn inf r) (b := 1000000000) (n := 32) (fun k hk => by unfold natA; have := hinf k hk; split <;> omega)
  have a2 := sumTo_nonneg (f := natA isR dn inf r) (n := 32) (fun k hk => by unfold natA; have := hinf k hk; split <;> omega)
  have b1 := sumTo_le (f := natB dn isG plc bck sto shr amt r) (b := 1000000000) (n := 40) (fun k hk => (natB_in ham hs hk).2)
  have b2 := sumTo_le (f := fun k => - natB dn isG plc bck sto shr amt r k) (b := 1000000000) (n := 40) (fun k hk => by have := (natB_in (dn := dn) (plc := plc) (bck := bck) (r := r) ham hs hk).1; omega)
  rw [sumTo_neg] at b2
  unfold natM
  omega
theorem stoM_in {isG sto amt : Nat → Int} {s : Int} (ham : ∀ i : Nat, i < 40 → 0 ≤ amt i ∧ amt i ≤ 1000000000) {n : Nat} (hn : n ≤ 40) : 0 ≤ sumTo (stoM isG sto amt s) n ∧ sumTo (stoM isG sto amt s) n ≤ 40000000000 := by
  have b1 := sumTo_le (f := stoM isG sto amt s) (b := 1000000000) (n := n) (fun k hk => by unfold stoM; have := ham k (by omega); split <;> omega)
  have b2 := sumTo_nonneg (f := stoM isG sto amt s) (n := n) (fun k hk => by unfold stoM; have := ham k (by omega); split <;> omega)
  omega
theorem hpB_t {nat : Int → Int} {dn : Nat → Int} {n : Nat} {a : Int} (ha : 0 ≤ a) (h : ¬ nat a < 0) : hpB nat dn (n + 1) a = hpB nat dn n (dn a.toNat) := by
  show (if a < 0 then true else (decide (0 ≤ nat a) && hpB nat dn n (dn a.toNat))) = _
  rw [if_neg (by omega), decide_eq_true (by omega), Bool.true_and]
theorem hpB_f {nat : Int → Int} {dn : Nat → Int} {n : Nat} {a : Int} (ha : 0 ≤ a) (h : nat a < 0) : hpB nat dn (n + 1) a = false := by
  show (if a < 0 then true else (decide (0 ≤ nat a) && hpB nat dn n (dn a.toNat))) = _
  rw [if_neg (by omega), decide_eq_false (by omega), Bool.false_and]
/-- the rights by age: ag lists, in the order of pri, all that are there -/
def isOrd (isG pri ag : Nat → Int) (cn : Int) : Prop := (0 ≤ cn ∧ cn ≤ 40) ∧ (∀ j : Nat, (j : Int) < cn → 0 ≤ ag j ∧ ag j < 40 ∧ isG (ag j).toNat ≠ 0) ∧ (∀ j k : Nat, j < k → (k : Int) < cn → pri (ag j).toNat < pri (ag k).toNat) ∧ ∀ i : Nat, i < 40 → isG i ≠ 0 → ∃ j : Nat, (j : Int) < cn ∧ ag j = (i : Int)
def lastP (pri ag : Nat → Int) (c : Int) : Int := if c = 0 then 0 else pri (ag (c - 1).toNat).toNat
/-- the best of the first k above la: none, or b -/
def bestP (isG pri : Nat → Int) (la k b : Int) : Prop := (b = -1 ∧ ∀ j : Nat, (j : Int) < k → isG j ≠ 0 → pri j ≤ la) ∨ (0 ≤ b ∧ b < k ∧ isG b.toNat ≠ 0 ∧ la < pri b.toNat ∧ ∀ j : Nat, (j : Int) < k → isG j ≠ 0 → la < pri j → pri b.toNat ≤ pri j)
theorem lastP_lt {isG pri ag : Nat → Int} {cn c : Int} (ho : isOrd isG pri ag cn) (hp : ∀ i : Nat, i < 40 → isG i ≠ 0 → 1 ≤ pri i) (hc : 0 ≤ c) (hc2 : c ≤ cn) {j : Nat} (hj : (j : Int) < cn) : (j : Int) < c ↔ pri (ag j).toNat ≤ lastP pri ag c := by
  obtain ⟨h1, h2, h3, h4⟩ := ho
  have q := h2 j hj
  have hpj := hp (ag j).toNat (by omega) q.2.2
  unfold lastP
  by_cases e : c = 0
  · rw [if_pos e]; omega
  · rw [if_neg e]
    constructor
    · intro h
      by_cases e2 : j = (c - 1).toNat
      · rw [e2]; exact Int.le_refl _
      · exact Int.le_of_lt (h3 j (c - 1).toNat (by omega) (by omega))
    · intro h
      by_cases e2 : (j : Int) < c
      · exact e2
      · have := h3 (c - 1).toNat j (by omega) hj
        omega
theorem bestP_end {isG pri ag : Nat → Int} {cn c b : Int} (ho : isOrd isG pri ag cn) (hp : ∀ i : Nat, i < 40 → isG i ≠ 0 → 1 ≤ pri i) (hc : 0 ≤ c) (hc2 : c ≤ cn) (hb : bestP isG pri (lastP pri ag c) 40 b) : (b < 0 → c = cn) ∧ (0 ≤ b → c < cn ∧ b = ag c.toNat) := by
  obtain ⟨h1, h2, h3, h4⟩ := id ho
  have key : c < cn → isG (ag c.toNat).toNat ≠ 0 ∧ lastP pri ag c < pri (ag c.toNat).toNat ∧ 0 ≤ ag c.toNat ∧ ag c.toNat < 40 := fun h => by
    have q := h2 c.toNat (by omega)
    have := (lastP_lt ho hp hc hc2 (j := c.toNat) (by omega))
    refine ⟨q.2.2, ?_, q.1, q.2.1⟩
    have n1 : ¬ ((c.toNat : Nat) : Int) < c := by omega
    have n2 := fun z => n1 (this.mpr z)
    omega
  rcases hb with ⟨e, hn⟩ | ⟨b0, b1, b2, b3, b4⟩
  · refine ⟨fun _ => ?_, fun h => by omega⟩
    by_cases q : c < cn
    · obtain ⟨k1, k2, k3, k4⟩ := key q
      have := hn (ag c.toNat).toNat (by omega) k1
      omega
    · omega
  · refine ⟨fun h => by omega, fun _ => ?_⟩
    obtain ⟨j, hj, ej⟩ := h4 b.toNat (by omega) b2
    have eb : ag j = b := by omega
    have hjc : ¬ (j : Int) < c := fun z => by
      have := (lastP_lt ho hp hc hc2 hj).mp z
      rw [eb] at this
      omega
    have hcn : c < cn := by omega
    obtain ⟨k1, k2, k3, k4⟩ := key hcn
    have hle := b4 (ag c.toNat).toNat (by omega) k1 k2
    refine ⟨hcn, ?_⟩
    by_cases e : j = c.toNat
    · rw [← e]; exact eb.symm
    · have := h3 c.toNat j (by omega) hj
      rw [eb] at this
      omega
