/-! the rights by age: one more, one less; sums by age and by number -/
theorem insA_eq {pr : Nat → Int} {p i : Int} : ∀ {k : Nat} {f : Nat → Int}, ∃ m : Nat, m ≤ k ∧ (∀ j : Nat, j < m → insA pr p i k f j = f j) ∧ insA pr p i k f m = i ∧ (∀ j : Nat, m < j → j ≤ k → insA pr p i k f j = f (j - 1)) ∧ (0 < m → pr (f (m - 1)).toNat ≤ p) ∧ (∀ j : Nat, m ≤ j → j < k → p < pr (f j).toNat) ∧ ∀ j : Nat, k < j → insA pr p i k f j = f j
  | 0, f => by
    refine ⟨0, Nat.le_refl 0, fun j hj => absurd hj (Nat.not_lt_zero _), uZ_s _ _ _, fun j h1 h2 => absurd h1 (by omega), fun h => absurd h (Nat.lt_irrefl 0), fun j _ h => absurd h (Nat.not_lt_zero _), fun j hj => ?_⟩
    show uZ f 0 i j = f j
    rw [uZ_n _ _ (by omega)]
  | k + 1, f => by
    by_cases h : pr (f k).toNat > p
    · rw [show insA pr p i (k + 1) f = insA pr p i k (uZ f (k + 1) (f k)) from if_pos h]
      obtain ⟨m, h1, h2, h3, h4, h5, h6, h7⟩ := insA_eq (pr := pr) (p := p) (i := i) (k := k) (f := uZ f (k + 1) (f k))
      refine ⟨m, by omega, fun j hj => ?_, h3, fun j q1 q2 => ?_, fun q => ?_, fun j q1 q2 => ?_, fun j hj => ?_⟩
      · rw [h2 j hj, uZ_n _ _ (by omega)]
      · by_cases e : j = k + 1
        · subst e
          rw [h7 _ (by omega), uZ_s]; rfl
        · rw [h4 j q1 (by omega), uZ_n _ _ (by omega)]
      · have := h5 q
        rw [uZ_n _ _ (by omega)] at this
        exact this
      · by_cases e : j = k
        · subst e; exact h
        · have := h6 j q1 (by omega)
          rw [uZ_n _ _ (by omega)] at this
          exact this
      · rw [h7 j (by omega), uZ_n _ _ (by omega)]
    · rw [show insA pr p i (k + 1) f = uZ f (k + 1) i from if_neg h]
      refine ⟨k + 1, Nat.le_refl _, fun j hj => uZ_n _ _ (by omega), uZ_s _ _ _, fun j q1 q2 => absurd q1 (by omega), fun _ => by show pr (f k).toNat ≤ p; omega, fun j q1 q2 => absurd q1 (by omega), fun j hj => uZ_n _ _ (by omega)⟩
theorem ord_ins {g pr ag : Nat → Int} {cn i p : Int} (h : isOrd g pr ag cn) (hcn : cn ≤ 39) (hi : 0 ≤ i ∧ i < 40) (hg : g i.toNat = 0) (hp : ∀ j : Nat, (j : Int) < cn → pr (ag j).toNat ≠ p) : isOrd (uZ g i.toNat 1) (uZ pr i.toNat p) (insA (uZ pr i.toNat p) p i cn.toNat ag) (cn + 1) := by
  obtain ⟨o1, o2, o3, o4⟩ := h
  obtain ⟨m, h1, h2, h3, h4, h5, h6, h7⟩ := insA_eq (pr := uZ pr i.toNat p) (p := p) (i := i) (k := cn.toNat) (f := ag)
  generalize insA (uZ pr i.toNat p) p i cn.toNat ag = h at *
  have hne : ∀ j : Nat, (j : Int) < cn → (ag j).toNat ≠ i.toNat := fun j hj e => (o2 j hj).2.2 (by rw [e]; exact hg)
  have hpr : ∀ j : Nat, (j : Int) < cn → uZ pr i.toNat p (ag j).toNat = pr (ag j).toNat := fun j hj => uZ_n _ _ (hne j hj)
  have key : ∀ j : Nat, (j : Int) < cn + 1 → (j < m ∧ h j = ag j) ∨ (j = m ∧ h j = i) ∨ (m < j ∧ h j = ag (j - 1)) := fun j hj => by
    by_cases q1 : j < m
    · exact Or.inl ⟨q1, h2 j q1⟩
    · by_cases q2 : j = m
      · exact Or.inr (Or.inl ⟨q2, by rw [q2]; exact h3⟩)
      · exact Or.inr (Or.inr ⟨by omega, h4 j (by omega) (by omega)⟩)
  have hlow : ∀ j : Nat, j < m → pr (ag j).toNat < p := fun j hj => by
    have a := h5 (by omega)
    rw [hpr (m - 1) (by omega)] at a
    have b := hp (m - 1) (by omega)
    by_cases e : j = m - 1
    · rw [e]; omega
    · have := o3 j (m - 1) (by omega) (by omega)
      omega
  have hhigh : ∀ j : Nat, m ≤ j → (j : Int) < cn → p < pr (ag j).toNat := fun j q1 q2 => by
    have := h6 j q1 (by omega)
    rw [hpr j q2] at this
    exact this
  refine ⟨by omega, fun j hj => ?_, fun j k hjk hk => ?_, fun q hq hgq => ?_⟩
  · rcases key j hj with ⟨q, e⟩ | ⟨q, e⟩ | ⟨q, e⟩
    · rw [e, uZ_n _ _ (hne j (by omega))]; exact o2 j (by omega)
    · rw [e, uZ_s]; omega
    · rw [e, uZ_n _ _ (hne (j - 1) (by omega))]; exact o2 (j - 1) (by omega)
  · rcases key j (by omega) with ⟨a, e⟩ | ⟨a, e⟩ | ⟨a, e⟩ <;> rcases key k hk with ⟨b, e2⟩ | ⟨b, e2⟩ | ⟨b, e2⟩
    · rw [e, e2, hpr j (by omega), hpr k (by omega)]; exact o3 j k hjk (by omega)
    · rw [e, e2, hpr j (by omega), uZ_s]; exact hlow j a
    · rw [e, e2, hpr j (by omega), hpr (k - 1) (by omega)]
      have x1 := hlow j a
      have x2 := hhigh (k - 1) (by omega) (by omega)
      omega
    · omega
    · omega
    · rw [e, e2, uZ_s, hpr (k - 1) (by omega)]; exact hhigh (k - 1) (by omega) (by omega)
    · omega
    · omega
    · rw [e, e2, hpr (j - 1) (by omega), hpr (k - 1) (by omega)]; exact o3 (j - 1) (k - 1) (by omega) (by omega)
  · by_cases e : q = i.toNat
    · exact ⟨m, by omega, by rw [h3]; omega⟩
    · rw [uZ_n _ _ e] at hgq
      obtain ⟨j, hj, ej⟩ := o4 q hq hgq
      by_cases q1 : j < m
      · exact ⟨j, by omega, by rw [h2 j q1]; exact ej⟩
      · exact ⟨j + 1, by omega, by rw [h4 (j + 1) (by omega) (by omega)]; exact ej⟩
theorem remL_aft {i : Int} : ∀ {n k : Nat} {f : Nat → Int}, (∀ j : Nat, k + 1 ≤ j → j < k + 1 + n → f j ≠ i) → (remL i n (k + 1) k f).1 = k + n ∧ ∀ j : Nat, (remL i n (k + 1) k f).2 j = if k ≤ j ∧ j < k + n then f (j + 1) else f j
  | 0, k, f, _ => ⟨rfl, fun j => by rw [if_neg (by omega)]; rfl⟩
  | n + 1, k, f, h => by
    rw [show remL i (n + 1) (k + 1) k f = remL i n (k + 1 + 1) (k + 1) (uZ f k (f (k + 1))) from if_neg (h (k + 1) (by omega) (by omega))]
    obtain ⟨h1, h2⟩ := remL_aft (i := i) (n := n) (k := k + 1) (f := uZ f k (f (k + 1))) (fun j a b => by rw [uZ_n _ _ (by omega)]; exact h j (by omega) (by omega))
    refine ⟨by rw [h1]; omega, fun j => ?_⟩
    rw [h2 j]
    by_cases q1 : k + 1 ≤ j ∧ j < k + 1 + n
    · rw [if_pos q1, if_pos (by omega), uZ_n _ _ (by omega)]
    · rw [if_neg q1]
      by_cases q2 : j = k
      · rw [q2, uZ_s, if_pos (by omega)]
      · rw [uZ_n _ _ q2, if_neg (by omega)]
theorem uZ_id (f : Nat → Int) (k : Nat) : uZ f k (f k) = f := by
  funext j; unfold uZ
  by_cases h : j = k
  · rw [if_pos h, h]
  · rw [if_neg h]
theorem remL_eq {i : Int} {m : Nat} {f : Nat → Int} (he : f m = i) : ∀ {n k : Nat}, k ≤ m → m < k + n → (∀ j : Nat, k ≤ j → j < k + n → j ≠ m → f j ≠ i) → (remL i n k k f).1 + 1 = k + n ∧ ∀ j : Nat, (remL i n k k f).2 j = if m ≤ j ∧ j + 1 < k + n then f (j + 1) else f j
  | 0, k, h1, h2, _ => absurd h2 (by omega)
  | n + 1, k, h1, h2, h3 => by
    by_cases e : k = m
    · subst e
      rw [show remL i (n + 1) k k f = remL i n (k + 1) k f from if_pos he]
      obtain ⟨a1, a2⟩ := remL_aft (i := i) (n := n) (k := k) (f := f) (fun j a b => h3 j (by omega) (by omega) (by omega))
      refine ⟨by rw [a1]; omega, fun j => ?_⟩
      rw [a2 j]
      by_cases q : k ≤ j ∧ j < k + n
      · rw [if_pos q, if_pos (by omega)]
      · rw [if_neg q, if_neg (by omega)]
    · rw [show remL i (n + 1) k k f = remL i n (k + 1) (k + 1) (uZ f k (f k)) from if_neg (h3 k (by omega) (by omega) e), uZ_id]
      obtain ⟨a1, a2⟩ := remL_eq he (n := n) (k := k + 1) (by omega) (by omega) (fun j a b c => h3 j (by omega) (by omega) c)
      refine ⟨by omega, fun j => ?_⟩
      rw [a2 j]
      by_cases q : m ≤ j ∧ j + 1 < k + 1 + n
      · rw [if_pos q, if_pos (by omega)]
      · rw [if_neg q, if_neg (by omega)]
theorem ord_rem {g pr ag : Nat → Int} {cn r : Int} (h : isOrd g pr ag cn) (hr : 0 ≤ r ∧ r < 40) (hg : g r.toNat ≠ 0) : ((remL r cn.toNat 0 0 ag).1 : Int) = cn - 1 ∧ isOrd (uZ g r.toNat 0) pr (remL r cn.toNat 0 0 ag).2 (cn - 1) := by
  obtain ⟨o1, o2, o3, o4⟩ := id h
  obtain ⟨m, hm, em⟩ := o4 r.toNat (by omega) hg
  have em2 : ag m = r := by omega
  have hne : ∀ j : Nat, (j : Int) < cn → j ≠ m → ag j ≠ r := fun j hj q e => q (h.inj hj hm (by rw [e, em2]))
  obtain ⟨a1, a2⟩ := remL_eq em2 (n := cn.toNat) (k := 0) (by omega) (by omega) (fun j _ hj q => hne j (by omega) q)
  have hn2 : ∀ j : Nat, (j : Int) < cn → j ≠ m → (ag j).toNat ≠ r.toNat := fun j hj q e => hne j hj q (by have := (o2 j hj).1; omega)
  refine ⟨by omega, ⟨by omega, fun j hj => ?_, fun j k hjk hk => ?_, fun q hq hgq => ?_⟩⟩
  · rw [a2 j]
    by_cases q : m ≤ j ∧ j + 1 < 0 + cn.toNat
    · rw [if_pos q, uZ_n _ _ (hn2 (j + 1) (by omega) (by omega))]; exact o2 (j + 1) (by omega)
    · rw [if_neg q, uZ_n _ _ (hn2 j (by omega) (by omega))]; exact o2 j (by omega)
  · rw [a2 j, a2 k]
    by_cases q1 : m ≤ j ∧ j + 1 < 0 + cn.toNat
    · rw [if_pos q1, if_pos (by omega)]; exact o3 (j + 1) (k + 1) (by omega) (by omega)
    · rw [if_neg q1]
      by_cases q2 : m ≤ k ∧ k + 1 < 0 + cn.toNat
      · rw [if_pos q2]; exact o3 j (k + 1) (by omega) (by omega)
      · rw [if_neg q2]; exact o3 j k hjk (by omega)
  · by_cases e : q = r.toNat
    · rw [e, uZ_s] at hgq; exact absurd rfl hgq
    · rw [uZ_n _ _ e] at hgq
      obtain ⟨j, hj, ej⟩ := o4 q hq hgq
      have hjm : j ≠ m := fun z => e (by rw [z, em2] at ej; omega)
      by_cases q1 : j < m
      · exact ⟨j, by omega, by rw [a2 j, if_neg (by omega)]; exact ej⟩
      · exact ⟨j - 1, by omega, by rw [a2 (j - 1), if_pos (by omega), show j - 1 + 1 = j by omega]; exact ej⟩
/-- a sum by age is a sum by number -/
theorem sum_age {g pr ag : Nat → Int} {cn : Int} (f : Nat → Int) (h : isOrd g pr ag cn) : sumTo (fun j => f (ag j).toNat) cn.toNat = sumTo (fun i => if g i ≠ 0 then f i else 0) 40 := by
  have hA : ∀ k : Nat, (k : Int) ≤ cn → ∃ b : Nat → Bool, (∀ i : Nat, i < 40 → (b i = true ↔ ∃ j : Nat, j < k ∧ ag j = (i : Int))) ∧ sumTo (fun j => f (ag j).toNat) k = sumTo (fun i => if b i = true then f i else 0) 40 := by
    intro k
    induction k with
    | zero =>
      intro _
      refine ⟨fun _ => false, fun i _ => ⟨fun q => (by cases q), fun ⟨j, q, _⟩ => absurd q (Nat.not_lt_zero _)⟩, ?_⟩
      rw [sumTo_zero (f := fun i => if false = true then f i else 0) (fun k _ => if_neg (by decide))]
      rfl
    | succ k ih =>
      intro hk
      obtain ⟨b, hb, e⟩ := ih (by omega)
      have hak := h.2.1 k (by omega)
      have hbk : ¬ b (ag k).toNat = true := fun q => by
        obtain ⟨j, hj, ej⟩ := (hb (ag k).toNat (by omega)).mp q
        have := h.inj (j := j) (k := k) (by omega) (by omega) (by omega)
        omega
      refine ⟨fun i => b i || decide ((i : Int) = ag k), fun i hi => ?_, ?_⟩
      · rw [Bool.or_eq_true, decide_eq_true_iff, hb i hi]
        constructor
        · rintro (⟨j, hj, ej⟩ | q)
          · exact ⟨j, by omega, ej⟩
          · exact ⟨k, by omega, q.symm⟩
        · rintro ⟨j, hj, ej⟩
          by_cases q : j = k
          · subst q; exact Or.inr ej.symm
          · exact Or.inl ⟨j, by omega, ej⟩
      · show sumTo (fun j => f (ag j).toNat) k + f (ag k).toNat = _
        rw [sumTo_upd (f := fun i => if b i = true then f i else 0) (g := fun i => if (b i || decide ((i : Int) = ag k)) = true then f i else 0) (j := (ag k).toNat) (n := 40) (by omega) (fun i _ q => by
          have : decide ((i : Int) = ag k) = false := decide_eq_false (by omega)
          simp only [this, Bool.or_false]), e]
        rw [if_neg hbk, if_pos (by rw [Bool.or_eq_true, decide_eq_true_iff]; exact Or.inr (by omega))]
        omega
  obtain ⟨b, hb, e⟩ := hA cn.toNat (by have := h.1; omega)
  rw [e]
  refine sumTo_congr (fun i hi => ?_)
  have : b i = true ↔ g i ≠ 0 := by
    rw [hb i hi]
    constructor
    · rintro ⟨j, hj, ej⟩
      have := (h.2.1 j (by omega)).2.2
      rw [ej, Int.toNat_natCast] at this
      exact this
    · intro q
      obtain ⟨j, hj, ej⟩ := h.2.2.2 i hi q
      exact ⟨j, by omega, ej⟩
  by_cases q : b i = true
  · rw [if_pos q, if_pos (this.mp q)]
  · rw [if_neg q, if_neg (fun z => q (this.mpr z))]
theorem takM_iff {isG pri : Nat → Int} {t0 pp : Int} : ∀ {n : Nat}, takM isG pri t0 pp n = true ↔ t0 ≠ 0 ∨ ∃ k : Nat, k < n ∧ isG k ≠ 0 ∧ pri k = pp
  | 0 => by
    show decide (t0 ≠ 0) = true ↔ _
    rw [decide_eq_true_iff]
    exact ⟨Or.inl, fun h => h.elim id (fun ⟨_, q, _⟩ => absurd q (Nat.not_lt_zero _))⟩
  | n + 1 => by
    show (takM isG pri t0 pp n || (decide (isG n ≠ 0) && decide (pri n = pp))) = true ↔ _
    rw [Bool.or_eq_true, takM_iff, Bool.and_eq_true, decide_eq_true_iff, decide_eq_true_iff]
    constructor
    · rintro ((h | ⟨k, q1, q2⟩) | h)
      · exact Or.inl h
      · exact Or.inr ⟨k, by omega, q2⟩
      · exact Or.inr ⟨n, by omega, h⟩
    · rintro (h | ⟨k, q1, q2⟩)
      · exact Or.inl (Or.inl h)
      · by_cases e : k = n
        · subst e; exact Or.inr q2
        · exact Or.inl (Or.inr ⟨k, by omega, q2⟩)
theorem has_tak {g pr ag : Nat → Int} {cn pp : Int} (h : isOrd g pr ag cn) : hasP pr ag pp cn.toNat = true ↔ ∃ k : Nat, k < 40 ∧ g k ≠ 0 ∧ pr k = pp := by
  rw [hasP_iff]
  have h1 := h.1
  constructor
  · rintro ⟨j, hj, e⟩
    have := h.2.1 j (by omega)
    exact ⟨(ag j).toNat, by omega, this.2.2, e⟩
  · rintro ⟨k, hk, hg, e⟩
    obtain ⟨j, hj, ej⟩ := h.2.2.2 k hk hg
    exact ⟨j, by omega, by rw [ej, Int.toNat_natCast]; exact e⟩
theorem outM_iff {isR dn : Nat → Int} : ∀ {n : Nat}, outM isR dn n = true ↔ ∃ k : Nat, k < n ∧ isR k ≠ 0 ∧ dn k = -1
  | 0 => ⟨fun h => (by cases h), fun ⟨_, q, _⟩ => absurd q (Nat.not_lt_zero _)⟩
  | n + 1 => by
    show (outM isR dn n || (decide (isR n ≠ 0) && decide (dn n = -1))) = true ↔ _
    rw [Bool.or_eq_true, outM_iff, Bool.and_eq_true, decide_eq_true_iff, decide_eq_true_iff]
    constructor
    · rintro (⟨k, q1, q2⟩ | h)
      · exact ⟨k, by omega, q2⟩
      · exact ⟨n, by omega, h⟩
    · rintro ⟨k, q1, q2⟩
      by_cases e : k = n
      · subst e; exact Or.inr q2
      · exact Or.inl ⟨k, by omega, q2⟩
theorem outV_none {isR dn : Nat → Int} {nat : Int → Int} : ∀ {n : Nat}, (∀ k : Nat, k < n → ¬ (isR k ≠ 0 ∧ dn k = -1)) → outV isR dn nat n = 0
  | 0, _ => rfl
  | n + 1, h => by
    show (if isR n ≠ 0 ∧ dn n = -1 then nat (n : Int) else outV isR dn nat n) = 0
    rw [if_neg (h n (by omega))]
    exact outV_none (fun k hk => h k (by omega))
theorem outV_one {isR dn : Nat → Int} {nat : Int → Int} {o : Nat} (ho : isR o ≠ 0 ∧ dn o = -1) : ∀ {n : Nat}, o < n → (∀ k : Nat, k < n → isR k ≠ 0 ∧ dn k = -1 → k = o) → outV isR dn nat n = nat (o : Int)
  | 0, h, _ => absurd h (Nat.not_lt_zero _)
  | n + 1, h, hu => by
    show (if isR n ≠ 0 ∧ dn n = -1 then nat (n : Int) else outV isR dn nat n) = _
    by_cases q : isR n ≠ 0 ∧ dn n = -1
    · rw [if_pos q, hu n (by omega) q]
    · rw [if_neg q]
      have : o ≠ n := fun e => q (by rw [← e]; exact ho)
      exact outV_one ho (by omega) (fun k hk => hu k (by omega))
