/-! released water, and the close of a day -/
theorem snt_congr {be be' srch srch' rls rls' : Nat → Int} {r : Nat} (h : ∀ s t : Nat, s < 8 → t < 32 → floE be' srch' rls' (r : Int) s t = floE be srch rls (r : Int) s t) : sntM be' srch' rls' r = sntM be srch rls r := sumTo_congr (fun s hs => sumTo_congr (fun t ht => h s t hs ht))
theorem iRl.reach {th be inf sth srch cap wat snt rls : Nat → Int} {rel n out d : Int} {r : Nat} (hv : iRv th be inf out) (hs : iRs th sth srch cap wat) (h0 : th r = 0) (h : iRl th be sth srch snt rel rls n) : iRl (uZ th r 1) (uZ be r d) sth srch snt rel rls n := by
  obtain ⟨h1, h2, h3, h4⟩ := h
  refine ⟨h1, h2, fun q hq => ?_, h4⟩
  rw [h3 q hq]
  refine (snt_congr (fun s t hs1 ht1 => ?_)).symm
  unfold floE
  by_cases z : 0 < rls (32 * (s : Int) + (t : Int)).toNat
  · obtain ⟨a, b, c⟩ := hs.2.1 s hs1 (h2 s t hs1 ht1 z)
    have e1 : onP (uZ be r d) (srch s) (q : Int) = onP be (srch s) (q : Int) := by
      unfold onP
      rw [pth_new hv.2.1 hv.2.2.2.2.1 h0 b (Or.inr c)]
    rw [e1]
    by_cases y : onP be (srch s) (q : Int) = true
    · have hth := pth_there hv.2.1 hv.2.2.2.2.1 b (Or.inr c) q (onP_t.mp y)
      have e2 : onP (uZ be r d) (q : Int) (t : Int) = onP be (q : Int) (t : Int) := by
        unfold onP
        rw [pth_new hv.2.1 hv.2.2.2.2.1 h0 (by omega) (Or.inr (by rw [Int.toNat_natCast]; exact hth))]
      rw [e2]
    · rw [if_neg (fun w => y w.2.1), if_neg (fun w => y w.2.1)]
  · rw [if_neg (fun w => z w.1), if_neg (fun w => z w.1)]
theorem iRl.add {th be sth srch snt rls : Nat → Int} {rel n r : Int} {q : Nat} (h0 : sth q = 0) (h : iRl th be sth srch snt rel rls n) : iRl th be (uZ sth q 1) (uZ srch q r) snt rel rls n := by
  obtain ⟨h1, h2, h3, h4⟩ := h
  refine ⟨h1, fun s t hs ht z => ?_, fun k hk => ?_, h4⟩
  · by_cases e : s = q
    · rw [e, uZ_s]; decide
    · rw [uZ_n _ _ e]; exact h2 s t hs ht z
  · rw [h3 k hk]
    refine (snt_congr (fun s t hs1 ht1 => ?_)).symm
    unfold floE
    by_cases z : 0 < rls (32 * (s : Int) + (t : Int)).toNat
    · have := h2 s t hs1 ht1 z
      rw [uZ_n _ _ (fun e => this (by rw [e]; exact h0))]
    · rw [if_neg (fun w => z w.1), if_neg (fun w => z w.1)]
theorem iRl.mono {th be sth srch snt rls : Nat → Int} {rel n : Int} (h : iRl th be sth srch snt rel rls n) : iRl th be sth srch snt rel rls (n + 1) := by
  obtain ⟨h1, h2, h3, h4, h5⟩ := h
  exact ⟨h1, h2, h3, h4, by omega⟩
theorem iRl.send {th be inf sth srch cap wat snt rls : Nat → Int} {rel n out q a to : Int} (hv : iRv th be inf out) (hs : iRs th sth srch cap wat) (hq : 0 ≤ q ∧ q < 8) (hq1 : sth q.toNat ≠ 0) (ht : 0 ≤ to ∧ to < 32) (ha : 0 ≤ a ∧ a ≤ 1000000000) (ho : onP be (srch q.toNat) to = true) (h : iRl th be sth srch snt rel rls n) : iRl th be sth srch (sendZ be to a 32 (srch q.toNat) snt) (rel + a) (uZ rls (32 * q + to).toNat (rls (32 * q + to).toNat + a)) (n + 1) := by
  obtain ⟨h1, h2, h3, h4, h5⟩ := h
  obtain ⟨a1, a2, a3⟩ := hs.2.1 q.toNat (by omega) hq1
  have hE := hv.ends a1 a2 a3
  obtain ⟨qn, rfl⟩ : ∃ k : Nat, q = (k : Int) := ⟨q.toNat, by omega⟩
  obtain ⟨tn, rfl⟩ : ∃ k : Nat, to = (k : Int) := ⟨to.toNat, by omega⟩
  rw [Int.toNat_natCast] at *
  have hm : tn ∈ pth be 32 (srch qn) := onP_t.mp ho
  have hx := h1 (32 * (qn : Int) + (tn : Int)).toNat (by omega)
  refine ⟨uZ_all (P := fun z => 0 ≤ z) h1 (by omega), fun s t hs1 ht1 z => ?_, fun r hr => ?_, ?_, by omega⟩
  · by_cases e : s = qn
    · rw [e]; exact hq1
    · rw [uZ_n _ _ (by omega)] at z
      exact h2 s t hs1 ht1 z
  · rw [sendZ_eq (Nat.le_refl 32) hE hm, snt_upd (by omega) (by omega) ha.1 hx, h3 r hr]
    by_cases z : r ∈ pth be 32 (srch qn) ∧ tn ∈ pth be 32 (r : Int)
    · rw [if_pos z, if_pos ⟨onP_t.mpr z.1, onP_t.mpr z.2⟩]
    · rw [if_neg z, if_neg (fun w => z ⟨onP_t.mp w.1, onP_t.mp w.2⟩)]
  · rw [rls_upd (by omega) (by omega), h4]
theorem iRl.close {th be sth srch snt rls : Nat → Int} {rel n : Int} (hn : 0 ≤ n) (h : iRl th be sth srch snt rel rls n) : iRl th be sth srch (filZ snt 0 32) 0 (cpZ (fun _ => 0) rls 256) n := by
  have hz : ∀ q : Nat, q < 256 → cpZ (fun _ => 0) rls 256 q = 0 := fun q hq => cpZ_lt _ _ hq
  refine ⟨fun q hq => by rw [hz q hq]; exact Int.le_refl 0, fun s t hs ht z => ?_, fun r hr => ?_, ?_, by omega⟩
  · rw [hz _ (by omega)] at z; exact absurd z (by decide)
  · rw [filZ_lt hr]
    unfold sntM
    rw [sumTo_zero (fun s hs => sumTo_zero (fun t ht => ?_))]
    unfold floE
    rw [hz _ (by omega), if_neg (fun w => absurd w.1 (by decide))]
  · rw [sumTo_zero (fun q hq => hz q hq)]
theorem iRl.rlb {th be sth srch snt rls : Nat → Int} {rel n : Int} (hn : n ≤ 1000) (h : iRl th be sth srch snt rel rls n) : ∀ q : Nat, q < 256 → 0 ≤ rls q ∧ rls q ≤ 1000000000000 := fun q hq => by
  obtain ⟨h1, h2, h3, h4, h5⟩ := h
  have := sumTo_one (f := rls) (k := q) (n := 256) hq (fun j hj => h1 j hj)
  have := h1 q hq
  omega
theorem iRl.rlS {th be sth srch snt rls : Nat → Int} {rel n : Int} (h : iRl th be sth srch snt rel rls n) : ∀ s to : Int, 0 ≤ s ∧ s < 8 → 0 ≤ to ∧ to < 32 → 0 < rls (32 * s + to).toNat → sth s.toNat ≠ 0 := fun s to hs ht z => by
  refine h.2.1 s.toNat to.toNat (by omega) (by omega) ?_
  rw [Int.toNat_of_nonneg hs.1, Int.toNat_of_nonneg ht.1]
  exact z
/-- THE plan of today, when it is up to date -/
def iPl (be inf cap wat pl sh rt st wn ag : Nat → Int) (cn stale : Int) (x : T3) : Prop := (stale = 0 ∨ stale = 1) ∧ (stale = 0 → ∃ x0 : T3, x = PT be inf cap wat pl sh rt st wn ag cn (-1) x0)
theorem iPl.new {be inf cap wat pl sh rt st wn ag : Nat → Int} {cn : Int} {x : T3} : iPl be inf cap wat pl sh rt st wn ag cn 1 x := ⟨Or.inr rfl, fun h => absurd h (by decide)⟩
theorem iPl.td {be inf cap wat pl sh rt st wn ag : Nat → Int} {cn stale : Int} {x : T3} (h : iPl be inf cap wat pl sh rt st wn ag cn stale x) : ∃ x0 : T3, tdy be inf cap wat pl sh rt st wn ag cn stale x = PT be inf cap wat pl sh rt st wn ag cn (-1) x0 := by
  unfold tdy
  by_cases e : stale = 0
  · rw [if_pos e]; exact h.2 e
  · rw [if_neg e]; exact ⟨x, rfl⟩
theorem iPl.set {be inf cap wat pl sh rt st wn ag : Nat → Int} {cn : Int} {x x0 : T3} (h : x = PT be inf cap wat pl sh rt st wn ag cn (-1) x0) : iPl be inf cap wat pl sh rt st wn ag cn 0 x := ⟨Or.inl rfl, fun _ => ⟨x0, h⟩⟩
theorem iPl.set3 {be inf cap wat pl sh rt st wn ag : Nat → Int} {cn : Int} {x x0 : T3} (h : x = PT be inf cap wat pl sh rt st wn ag cn (-1) x0) : iPl be inf cap wat pl sh rt st wn ag cn 0 (x.1, x.2.1, x.2.2) := ⟨Or.inl rfl, fun _ => ⟨x0, h⟩⟩
theorem PT_gab {be inf cap wat pl sh rt st wn ag : Nat → Int} {cn po : Int} {x : T3} : PT be inf cap wat pl sh rt st wn ag cn po x = gab be pl sh rt st wn ag po cn.toNat (SB be inf cap wat x) := rfl
theorem amW_bd {th be inf g pl pr sh rt st wn wnt shr bck cap wat ag : Nat → Int} {cn po : Int} {x : T3} (hS : rgS th be g pl pr sh rt st wn wnt shr bck ag cn) (hx : stP th be inf g pl bck st shr cap wat ag cn po x) (i : Nat) (hi : i < 40) : 0 ≤ (gab be pl sh rt st wn ag po cn.toNat x).1 i ∧ (gab be pl sh rt st wn ag po cn.toNat x).1 i ≤ 1000000000 := (gab_all hS hx cn.toNat (by have := hS.2.2.1.1; omega)).2.2.2 i hi
theorem flo_nat {th be inf g pl pr sh rt st wn wnt shr bck cap wat ag z : Nat → Int} {cn po : Int} {x : T3} (hS : rgS th be g pl pr sh rt st wn wnt shr bck ag cn) (hx : stP th be inf g pl bck st shr cap wat ag cn po x) (q : Nat) (hq : q < 32) : (gab be pl sh rt st wn ag po cn.toNat x).2.1 q = natM th be inf g pl bck st shr (amG be pl sh rt st wn ag po x z cn.toNat) (q : Int) := by
  obtain ⟨p1, p2, p3, p4⟩ := gab_all hS hx cn.toNat (by have := hS.2.2.1.1; omega)
  exact ((p2.congr (am' := amG be pl sh rt st wn ag po x z cn.toNat) (fun i hi => amG_lt hi)).2.1 q hq)
theorem iRs.close {th be inf g pl pr sh rt st wn wnt shr bck sth srch cap wat ag z : Nat → Int} {cn po : Int} {x : T3} (h : iRs th sth srch cap wat) (hs8 : ∀ i : Nat, i < 40 → g i ≠ 0 → 0 ≤ st i → sth (st i).toNat ≠ 0) (hs9 : ∀ i : Nat, i < 40 → -1 ≤ st i ∧ st i < 8) (hS : rgS th be g pl pr sh rt st wn wnt shr bck ag cn) (hx : stP th be inf g pl bck st shr cap wat ag cn po x) : iRs th sth srch cap (hoZ g st (amG be pl sh rt st wn ag po x z cn.toNat) wat 40) := by
  obtain ⟨h1, h2, h3, h4, h5, h6⟩ := h
  obtain ⟨p1, p2, p3, p4⟩ := gab_all hS hx cn.toNat (by have := hS.2.2.1.1; omega)
  obtain ⟨c1, c2, c3⟩ := p2.congr (am' := amG be pl sh rt st wn ag po x z cn.toNat) (fun i hi => amG_lt hi)
  have ham : ∀ i : Nat, i < 40 → 0 ≤ amG be pl sh rt st wn ag po x z cn.toNat i ∧ amG be pl sh rt st wn ag po x z cn.toNat i ≤ 1000000000 := fun i hi => by rw [amG_lt hi]; exact p4 i hi
  refine ⟨h1, h2, fun s hs => ?_, fun s hs z0 => ?_, h5, fun s hs => ?_⟩
  · rw [ho_sto]
    have a1 := c3 s hs
    have a2 := p1.2 s hs
    have a3 := h3 s hs
    have a4 := (stoM_in (isG := g) (sto := st) (s := (s : Int)) ham (Nat.le_refl 40)).1
    omega
  · rw [ho_sto, h4 s hs z0, sumTo_zero (fun i hi => ?_)]
    · rfl
    · unfold stoM
      rw [if_neg (fun w => hs8 i hi w.1 (by omega) (by rw [w.2, Int.toNat_natCast]; exact z0))]
  · rw [ho_sto, h6 s hs, sumTo_zero (fun i hi => ?_)]
    · rfl
    · unfold stoM
      have hst := hs9 i hi
      rw [if_neg (fun w => by have := w.2; omega)]
theorem iRs.wat9 {th sth srch cap wat : Nat → Int} (h : iRs th sth srch cap wat) (s : Nat) : 0 ≤ wat s ∧ wat s ≤ 1000000000 := by
  obtain ⟨h1, h2, h3, h4, h5, h6⟩ := h
  by_cases q : s < 8
  · have := h3 s q; omega
  · have := h6 s (by omega); omega
