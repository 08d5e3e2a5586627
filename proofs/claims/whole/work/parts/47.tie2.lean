/-! the plan that the desk makes is the one that the reference makes -/
def amG (be pl sh rt st wn ag : Nat → Int) (po : Int) (x : T3) (z : Nat → Int) (k : Nat) : Nat → Int := fun i => if i < 40 then (gab be pl sh rt st wn ag po k x).1 i else z i
theorem amG_lt {be pl sh rt st wn ag : Nat → Int} {po : Int} {x : T3} {z : Nat → Int} {k i : Nat} (h : i < 40) : amG be pl sh rt st wn ag po x z k i = (gab be pl sh rt st wn ag po k x).1 i := if_pos h
theorem csT.congr {th be inf g pl bck st shr cap wat am am' : Nat → Int} {x : T3} (h : ∀ i : Nat, i < 40 → am' i = am i) (hc : csT th be inf g pl bck st shr cap wat am x) : csT th be inf g pl bck st shr cap wat am' x := by
  obtain ⟨c1, c2, c3⟩ := hc
  refine ⟨fun i hi => (h i hi).trans (c1 i hi), fun q hq => ?_, fun s hs => ?_⟩
  · rw [c2 q hq]
    unfold natM
    rw [sumTo_congr (f := natB be g pl bck st shr am' (q : Int)) (g := natB be g pl bck st shr am (q : Int)) (fun k hk => by unfold natB; rw [h k hk])]
  · rw [c3 s hs, sumTo_congr (f := stoM g st am' (s : Int)) (g := stoM g st am (s : Int)) (fun k hk => by unfold stoM; rw [h k hk])]
/-- what the making of a plan starts from -/
def stP (th be inf g pl bck st shr cap wat ag : Nat → Int) (cn po : Int) (x : T3) : Prop := plOk x.2.1 x.2.2 ∧ csT th be inf g pl bck st shr cap wat x.1 x ∧ (∀ j : Nat, (j : Int) < cn → ag j ≠ po → x.1 (ag j).toNat = 0) ∧ ∀ i : Nat, i < 40 → 0 ≤ x.1 i ∧ x.1 i ≤ 1000000000
/-- the rights, of desk and reference, as they may be -/
def rgS (th be g pl pr sh rt st wn wnt shr bck ag : Nat → Int) (cn : Int) : Prop := (∀ r : Nat, r < 32 → -1 ≤ be r ∧ be r < 32) ∧ (∀ k : Nat, k < 32 → th k ≠ 0 → pEnd be 32 (k : Int)) ∧ isOrd g pr ag cn ∧ ∀ i : Nat, i < 40 → g i ≠ 0 → rgT th be pl sh rt st wn wnt shr bck i
theorem isOrd.inj {g pr ag : Nat → Int} {cn : Int} (h : isOrd g pr ag cn) {j k : Nat} (hj : (j : Int) < cn) (hk : (k : Int) < cn) (e : ag j = ag k) : j = k := by
  obtain ⟨h1, h2, h3, h4⟩ := h
  by_cases q1 : j < k
  · have := h3 j k q1 hk; rw [e] at this; omega
  · by_cases q2 : k < j
    · have := h3 k j q2 hj; rw [e] at this; omega
    · omega
theorem gab_all {th be inf g pl pr sh rt st wn wnt shr bck cap wat ag : Nat → Int} {cn po : Int} {x : T3} (hS : rgS th be g pl pr sh rt st wn wnt shr bck ag cn) (hx : stP th be inf g pl bck st shr cap wat ag cn po x) : ∀ k : Nat, (k : Int) ≤ cn → plOk (gab be pl sh rt st wn ag po k x).2.1 (gab be pl sh rt st wn ag po k x).2.2 ∧ csT th be inf g pl bck st shr cap wat (gab be pl sh rt st wn ag po k x).1 (gab be pl sh rt st wn ag po k x) ∧ (∀ j : Nat, k ≤ j → (j : Int) < cn → ag j ≠ po → (gab be pl sh rt st wn ag po k x).1 (ag j).toNat = 0) ∧ ∀ i : Nat, i < 40 → 0 ≤ (gab be pl sh rt st wn ag po k x).1 i ∧ (gab be pl sh rt st wn ag po k x).1 i ≤ 1000000000
  | 0, _ => ⟨hx.1, hx.2.1, fun j _ hj hn => hx.2.2.1 j hj hn, hx.2.2.2⟩
  | k + 1, hk => by
    obtain ⟨p1, p2, p3, p4⟩ := gab_all hS hx k (by omega)
    obtain ⟨hb, hE, ho, hr⟩ := hS
    obtain ⟨o1, o2, o3, o4⟩ := id ho
    have hak := o2 k (by omega)
    have hR := hr (ag k).toNat (by omega) hak.2.2
    by_cases e : ag k = po
    · rw [show gab be pl sh rt st wn ag po (k + 1) x = gab be pl sh rt st wn ag po k x from if_pos e]
      exact ⟨p1, p2, fun j hj => p3 j (by omega), p4⟩
    · have e0 := p3 k (Nat.le_refl k) (by omega) e
      rw [show gab be pl sh rt st wn ag po (k + 1) x = gst be pl sh rt st (ag k).toNat (amW be pl sh rt st wn (gab be pl sh rt st wn ag po k x).2.1 (gab be pl sh rt st wn ag po k x).2.2 (ag k).toNat) (gab be pl sh rt st wn ag po k x) from if_neg e]
      have hA := amW_in hb (hR.ok hE) p1
      have hw := hR.2.2.1
      refine ⟨step_ok hb (hR.ok hE) p1 _ hA.1 (Int.le_refl _), csT.gst hE (by omega) hak.2.2 hR e0 p2, fun j hj hj2 hn => ?_, fun i hi => ?_⟩
      · show uZ _ _ _ _ = 0
        have hne : (ag j).toNat ≠ (ag k).toNat := fun q => by
          have a1 := (o2 j hj2).1
          have := ho.inj hj2 (by omega) (show ag j = ag k by omega)
          omega
        rw [uZ_n _ _ hne]
        exact p3 j (by omega) hj2 hn
      · show 0 ≤ uZ _ _ _ i ∧ uZ _ _ _ i ≤ _
        by_cases q : i = (ag k).toNat
        · rw [q, uZ_s]; omega
        · rw [uZ_n _ _ q]; exact p4 i hi
theorem mk_gab {th be inf g pl pr sh rt st wn wnt shr bck cap wat ag z : Nat → Int} {cn po w fi : Int} {x : T3} (hS : rgS th be g pl pr sh rt st wn wnt shr bck ag cn) (hx : stP th be inf g pl bck st shr cap wat ag cn po x) (hw : ∀ v : Int, 0 ≤ v → (v = po ↔ v = w ∨ v = fi)) (c : Int) (hc : 0 ≤ c) (hc2 : c < cn) : mkS (hldM th be inf g pl bck st shr cap wat) wnt ag w fi (amG be pl sh rt st wn ag po x z) c := by
  obtain ⟨p1, p2, p3, p4⟩ := gab_all hS hx c.toNat (by omega)
  obtain ⟨hb, hE, ho, hr⟩ := hS
  obtain ⟨o1, o2, o3, o4⟩ := id ho
  have hak := o2 c.toNat (by omega)
  have hR := hr (ag c.toNat).toNat (by omega) hak.2.2
  have hwv := hw (ag c.toNat) hak.1
  have ecn : (c + 1).toNat = c.toNat + 1 := by omega
  by_cases e : ag c.toNat = po
  · refine Or.inl ⟨hwv.mp e, ?_⟩
    funext i
    unfold amG
    rw [ecn, show gab be pl sh rt st wn ag po (c.toNat + 1) x = gab be pl sh rt st wn ag po c.toNat x from if_pos e]
  · have e0 := p3 c.toNat (Nat.le_refl _) (by omega) e
    have hA := amW_in hb (hR.ok hE) p1
    have eg : gab be pl sh rt st wn ag po (c.toNat + 1) x = gst be pl sh rt st (ag c.toNat).toNat (amW be pl sh rt st wn (gab be pl sh rt st wn ag po c.toNat x).2.1 (gab be pl sh rt st wn ag po c.toNat x).2.2 (ag c.toNat).toNat) (gab be pl sh rt st wn ag po c.toNat x) := if_neg e
    refine Or.inr ⟨fun q => e (hwv.mpr (Or.inl q)), fun q => e (hwv.mpr (Or.inr q)), amW be pl sh rt st wn (gab be pl sh rt st wn ag po c.toNat x).2.1 (gab be pl sh rt st wn ag po c.toNat x).2.2 (ag c.toNat).toNat, ⟨hA.1, by rw [← hR.2.1]; exact hA.2⟩, ?_, fun y hy hy2 => ?_⟩
    · funext i
      unfold amG
      rw [ecn, eg]
      show (if i < 40 then uZ (gab be pl sh rt st wn ag po c.toNat x).1 (ag c.toNat).toNat _ i else z i) = uZ _ _ _ i
      by_cases q : i = (ag c.toNat).toNat
      · rw [q, uZ_s, uZ_s, if_pos (by omega)]
      · rw [uZ_n _ _ q, uZ_n _ _ q]
    · rw [← hR.2.1] at hy2
      have hcs : csT th be inf g pl bck st shr cap wat (amG be pl sh rt st wn ag po x z c.toNat) (gab be pl sh rt st wn ag po c.toNat x) := p2.congr (fun i hi => amG_lt hi)
      have := hld_iff (a := y) hb hE (show (ag c.toNat).toNat < 40 by omega) hak.2.2 hR (by rw [amG_lt (by omega)]; exact e0) hcs p1 hy2
      rw [Int.toNat_of_nonneg hak.1] at this
      exact this
theorem am_in {th be inf g pl pr sh rt st wn wnt shr bck cap wat ag z : Nat → Int} {cn po : Int} {x : T3} (hS : rgS th be g pl pr sh rt st wn wnt shr bck ag cn) (hx : stP th be inf g pl bck st shr cap wat ag cn po x) (c : Int) (hc : 0 ≤ c) (hc2 : c ≤ cn) (i : Nat) (hi : i < 40) : 0 ≤ amG be pl sh rt st wn ag po x z c.toNat i ∧ amG be pl sh rt st wn ag po x z c.toNat i ≤ 1000000000 := by
  rw [amG_lt hi]
  exact (gab_all hS hx c.toNat (by omega)).2.2.2 i hi
theorem filZ_lt {f : Nat → Int} {v : Int} {n k : Nat} (h : k < n) : filZ f v n k = v := by unfold filZ; rw [if_pos h]
theorem natB_z {dn isG plc bck sto shr amt : Nat → Int} {r : Int} {i : Nat} (h : amt i = 0) : natB dn isG plc bck sto shr amt r i = 0 := by
  unfold natB
  rw [h, Int.zero_mul]
  split
  · split <;> split <;> rfl
  · rfl
/-- the beginning of a plan -/
theorem st_SB {th be inf g pl bck st shr cap wat ag : Nat → Int} {cn po : Int} {x : T3} (hE : ∀ k : Nat, k < 32 → th k ≠ 0 → pEnd be 32 (k : Int)) (hin : ∀ r : Nat, r < 32 → 0 ≤ inf r ∧ inf r ≤ 1000000000) (hz : ∀ r : Nat, r < 32 → th r = 0 → inf r = 0) (hcap : ∀ s : Nat, s < 8 → (0 ≤ cap s ∧ cap s ≤ 1000000000) ∧ 0 ≤ wat s ∧ wat s ≤ cap s) (hag : ∀ j : Nat, (j : Int) < cn → 0 ≤ ag j ∧ ag j < 40) : stP th be inf g pl bck st shr cap wat ag cn po (SB be inf cap wat x) := by
  have hf : ∀ q : Nat, q < 32 → begF be inf (filZ x.2.1 0 32) 32 q = sumTo (natA th be inf (q : Int)) 32 := fun q hq => by
    rw [begF_eq q (Nat.le_refl 32) hE (fun k hk => (hin k hk).1) hz, filZ_lt hq]; omega
  have hr : ∀ s : Nat, s < 8 → begR cap wat x.2.2 8 s = cap s - wat s := fun s hs => if_pos hs
  refine ⟨⟨fun q hq => ?_, fun s hs => ?_⟩, ⟨fun i _ => rfl, fun q hq => ?_, fun s hs => ?_⟩, fun j hj _ => ?_, fun i hi => ?_⟩
  · show 0 ≤ begF be inf (filZ x.2.1 0 32) 32 q ∧ begF be inf (filZ x.2.1 0 32) 32 q ≤ _
    rw [hf q hq]
    have a1 := sumTo_le (f := natA th be inf (q : Int)) (b := 1000000000) (n := 32) (fun k hk => by unfold natA; have := hin k hk; split <;> omega)
    have a2 := sumTo_nonneg (f := natA th be inf (q : Int)) (n := 32) (fun k hk => by unfold natA; have := hin k hk; split <;> omega)
    omega
  · show 0 ≤ begR cap wat x.2.2 8 s ∧ begR cap wat x.2.2 8 s ≤ _
    rw [hr s hs]
    have := hcap s hs
    omega
  · show begF be inf (filZ x.2.1 0 32) 32 q = _
    rw [hf q hq]
    unfold natM
    rw [sumTo_zero (f := natB be g pl bck st shr (SB be inf cap wat x).1 (q : Int)) (fun k hk => natB_z (show filZ x.1 0 40 k = 0 from filZ_lt hk))]
    omega
  · show begR cap wat x.2.2 8 s = _
    rw [hr s hs, sumTo_zero (f := stoM g st (SB be inf cap wat x).1 (s : Int)) (fun k hk => by
      unfold stoM
      rw [show (SB be inf cap wat x).1 k = 0 from filZ_lt hk]
      split <;> rfl)]
    omega
  · have := hag j hj
    exact filZ_lt (by omega)
  · show 0 ≤ filZ x.1 0 40 i ∧ filZ x.1 0 40 i ≤ _
    rw [filZ_lt hi]; omega
/-- the beginning of a plan with one right fixed -/
theorem st_fix {th be inf g pl pr sh rt st wn wnt shr bck cap wat ag : Nat → Int} {cn : Int} {x : T3} {i : Nat} {a : Int} (hS : rgS th be g pl pr sh rt st wn wnt shr bck ag cn) (hi : i < 40) (hg : g i ≠ 0) (hx : stP th be inf g pl bck st shr cap wat ag cn (-1) x) (h0 : x.1 i = 0) (ha0 : 0 ≤ a) (ha : a ≤ amW be pl sh rt st wn x.2.1 x.2.2 i) : stP th be inf g pl bck st shr cap wat ag cn (i : Int) (gst be pl sh rt st i a x) := by
  obtain ⟨hb, hE, ho, hr⟩ := hS
  obtain ⟨p1, p2, p3, p4⟩ := hx
  have hR := hr i hi hg
  have hA := amW_in hb (hR.ok hE) p1
  have hw := hR.2.2.1
  refine ⟨step_ok hb (hR.ok hE) p1 a ha0 ha, csT.gst hE hi hg hR h0 p2, fun j hj hn => ?_, fun k hk => ?_⟩
  · have haj := ho.2.1 j hj
    show uZ x.1 i a (ag j).toNat = 0
    rw [uZ_n _ _ (by omega)]
    exact p3 j hj (by omega)
  · show 0 ≤ uZ x.1 i a k ∧ uZ x.1 i a k ≤ _
    by_cases q : k = i
    · rw [q, uZ_s]; omega
    · rw [uZ_n _ _ q]; exact p4 k hk
