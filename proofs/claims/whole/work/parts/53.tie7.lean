/-! what the calls answer: today's plan, one more, a right passed over, a closed day -/
theorem am_0 {be inf cap wat pl sh rt st wn ag z : Nat → Int} {po : Int} {x : T3} : amG be pl sh rt st wn ag po (SB be inf cap wat x) z 0 = cpZ (fun _ => 0) z 40 := by
  funext i
  unfold amG cpZ
  by_cases h : i < 40
  · rw [if_pos h, if_pos h]; exact filZ_lt h
  · rw [if_neg h, if_neg h]
theorem an_0 {be inf cap wat pl sh rt st wn ag z : Nat → Int} {po a : Int} {x : T3} {i : Nat} (hi : i < 40) : amG be pl sh rt st wn ag po (gst be pl sh rt st i a (SB be inf cap wat x)) z 0 = uZ (cpZ (fun _ => 0) z 40) i a := by
  funext j
  unfold amG
  show (if j < 40 then uZ (filZ x.1 0 40) i a j else z j) = _
  by_cases e : j = i
  · rw [e, uZ_s, uZ_s, if_pos hi]
  · rw [uZ_n _ _ e, uZ_n _ _ e]
    unfold cpZ
    by_cases h : j < 40
    · rw [if_pos h, if_pos h, filZ_lt h]
    · rw [if_neg h, if_neg h]
theorem oldL_congr {s s' t t' ag : Nat → Int} : ∀ {n k : Nat}, (∀ j : Nat, k ≤ j → j < k + n → s (ag j).toNat = s' (ag j).toNat ∧ t (ag j).toNat = t' (ag j).toNat) → oldL s t ag n k = oldL s' t' ag n k
  | 0, _, _ => rfl
  | n + 1, k, h => by
    show (if s (ag k).toNat < t (ag k).toNat then ag k else oldL s t ag n (k + 1)) = (if s' (ag k).toNat < t' (ag k).toNat then ag k else oldL s' t' ag n (k + 1))
    rw [(h k (by omega) (by omega)).1, (h k (by omega) (by omega)).2, oldL_congr (fun j h1 h2 => h j (by omega) (by omega))]
theorem oldL_in {s t ag : Nat → Int} : ∀ {n k : Nat}, (∀ j : Nat, k ≤ j → j < k + n → 0 ≤ ag j ∧ ag j < 40) → -1 ≤ oldL s t ag n k ∧ oldL s t ag n k < 40
  | 0, _, _ => by show -1 ≤ (-1 : Int) ∧ (-1 : Int) < 40; omega
  | n + 1, k, h => by
    show -1 ≤ (if s (ag k).toNat < t (ag k).toNat then ag k else oldL s t ag n (k + 1)) ∧ (if s (ag k).toNat < t (ag k).toNat then ag k else oldL s t ag n (k + 1)) < 40
    have h1 := h k (by omega) (by omega)
    have h2 := oldL_in (s := s) (t := t) (ag := ag) (n := n) (k := k + 1) (fun j a b => h j (by omega) (by omega))
    split <;> omega
/-- one more for right i is to be had just when the reference's plan with it holds -/
theorem hT_iff {th be inf g pl pr sh rt st wn wnt shr bck cap wat ag z : Nat → Int} {cn a : Int} {x : T3} {i : Nat} (hS : rgS th be g pl pr sh rt st wn wnt shr bck ag cn) (hx : stP th be inf g pl bck st shr cap wat ag cn (-1) (SB be inf cap wat x)) (hi : i < 40) (hg : g i ≠ 0) (ha : a ≤ wn i) : hldM th be inf g pl bck st shr cap wat (uZ (cpZ (fun _ => 0) z 40) i a) (i : Int) = true ↔ a ≤ amW be pl sh rt st wn (SB be inf cap wat x).2.1 (SB be inf cap wat x).2.2 i := by
  obtain ⟨hb, hE, ho, hr⟩ := hS
  obtain ⟨p1, p2, p3, p4⟩ := hx
  refine hld_iff hb hE hi hg (hr i hi hg) (cpZ_lt _ _ hi) (p2.congr (fun j hj => ?_)) p1 ha
  rw [cpZ_lt _ _ hj]
  exact (filZ_lt hj).symm
theorem bk5_eq {ent : Nat → Int} {d a b c e f : Int} (hd : 0 ≤ d) : uZ (uZ (uZ (uZ (uZ ent (d % 60 * 5 + 0).toNat a) (d % 60 * 5 + 1).toNat b) (d % 60 * 5 + 2).toNat c) (d % 60 * 5 + 3).toNat e) (d % 60 * 5 + 4).toNat f = bk5 ent (5 * (d % 60)) a b c e f := by
  unfold bk5
  rw [show d % 60 * 5 + 0 = 5 * (d % 60) by omega, show d % 60 * 5 + 1 = 5 * (d % 60) + 1 by omega, show d % 60 * 5 + 2 = 5 * (d % 60) + 2 by omega, show d % 60 * 5 + 3 = 5 * (d % 60) + 3 by omega, show d % 60 * 5 + 4 = 5 * (d % 60) + 4 by omega]
theorem gab_end {be pl sh rt st wn ag z : Nat → Int} {po cn : Int} {x : T3} {i : Nat} (hi : i < 40) : (gab be pl sh rt st wn ag po cn.toNat x).1 i = amG be pl sh rt st wn ag po x z cn.toNat i := (amG_lt hi).symm
theorem sum01 {f : Nat → Bool} {n : Nat} : 0 ≤ sumTo (fun j => bZ (f j)) n ∧ sumTo (fun j => bZ (f j)) n ≤ n := by
  have h1 := sumTo_nonneg (f := fun j => bZ (f j)) (n := n) (fun k _ => by have := bZ_01 (f k); omega)
  have h2 := sumTo_le (f := fun j => bZ (f j)) (b := 1) (n := n) (fun k _ => by have := bZ_01 (f k); omega)
  omega
