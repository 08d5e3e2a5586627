/-! ties between the desk and the reference: paths, flows, plans -/
theorem pth_there {th be : Nat → Int} (hb : ∀ r : Nat, r < 32 → -1 ≤ be r ∧ be r < 32) (hc : ∀ r : Nat, r < 32 → th r ≠ 0 → be r = -1 ∨ th (be r).toNat ≠ 0) : ∀ {n : Nat} {a : Int}, a < 32 → (a < 0 ∨ th a.toNat ≠ 0) → ∀ q, q ∈ pth be n a → th q ≠ 0
  | 0, _, _, _, q, h => by cases h
  | n + 1, a, h1, h2, q, h => by
    by_cases ha : a < 0
    · rw [pth_neg ha] at h; cases h
    · rw [pth_pos (by omega)] at h
      have h3 := h2.resolve_left ha
      rcases List.mem_cons.mp h with h | h
      · rw [h]; exact h3
      · have hb1 := hb a.toNat (by omega)
        have hc1 := hc a.toNat (by omega) h3
        refine pth_there hb hc hb1.2 ?_ q h
        rcases hc1 with e | e
        · exact Or.inl (by omega)
        · exact Or.inr e
/-- a new reach is on no old path -/
theorem pth_new {th be : Nat → Int} {r : Nat} {d : Int} (hb : ∀ r : Nat, r < 32 → -1 ≤ be r ∧ be r < 32) (hc : ∀ r : Nat, r < 32 → th r ≠ 0 → be r = -1 ∨ th (be r).toNat ≠ 0) (hr : th r = 0) : ∀ {n : Nat} {a : Int}, a < 32 → (a < 0 ∨ th a.toNat ≠ 0) → pth (uZ be r d) n a = pth be n a
  | 0, _, _, _ => rfl
  | n + 1, a, h1, h2 => by
    by_cases ha : a < 0
    · rw [pth_neg ha, pth_neg ha]
    · have h3 := h2.resolve_left ha
      have hne : a.toNat ≠ r := fun e => h3 (by rw [e]; exact hr)
      have hb1 := hb a.toNat (by omega)
      have hc1 := hc a.toNat (by omega) h3
      rw [pth_pos (by omega), pth_pos (by omega), uZ_n _ _ hne, pth_new hb hc hr hb1.2]
      rcases hc1 with e | e
      · exact Or.inl (by omega)
      · exact Or.inr e
theorem pEnd_new {th be : Nat → Int} {r : Nat} {d : Int} (hb : ∀ r : Nat, r < 32 → -1 ≤ be r ∧ be r < 32) (hc : ∀ r : Nat, r < 32 → th r ≠ 0 → be r = -1 ∨ th (be r).toNat ≠ 0) (hr : th r = 0) : ∀ {n : Nat} {a : Int}, a < 32 → (a < 0 ∨ th a.toNat ≠ 0) → pEnd be n a → pEnd (uZ be r d) n a
  | 0, _, _, _, h => h
  | n + 1, a, h1, h2, h => by
    by_cases ha : a < 0
    · exact Or.inl ha
    · have h3 := h2.resolve_left ha
      have hne : a.toNat ≠ r := fun e => h3 (by rw [e]; exact hr)
      have hb1 := hb a.toNat (by omega)
      have hc1 := hc a.toNat (by omega) h3
      refine Or.inr ?_
      rw [uZ_n _ _ hne]
      refine pEnd_new hb hc hr hb1.2 ?_ (h.resolve_left ha)
      rcases hc1 with e | e
      · exact Or.inl (by omega)
      · exact Or.inr e
theorem onP_t {d : Nat → Int} {r : Int} {q : Nat} : onP d r (q : Int) = true ↔ q ∈ pth d 32 r := by
  rw [onP_of (by omega), Int.toNat_natCast]
/-- the natural flow with no right -/
theorem pourZ_eq {d : Nat → Int} {am : Int} : ∀ {n : Nat} {a : Int} {f : Nat → Int}, pEnd d n a → ∀ q : Nat, pourZ d am n a f q = f q + if q ∈ pth d n a then am else 0
  | 0, _, f, _, q => by
    show f q = f q + _
    rw [if_neg (by intro h; cases h)]; omega
  | n + 1, a, f, h, q => by
    by_cases ha : a < 0
    · rw [pth_neg ha, if_neg (by intro h; cases h)]
      show (if a < 0 then f else _) q = f q + 0
      rw [if_pos ha]; omega
    · have h1 := h.resolve_left ha
      have hno : a.toNat ∉ pth d n (d a.toNat) := by
        have := pth_notail h (by omega)
        rw [pth_fuel h1 (Nat.le_succ n)] at this
        exact this
      rw [pth_pos (by omega)]
      show (if a < 0 then f else pourZ d am n (d a.toNat) (uZ f a.toNat (f a.toNat + am))) q = _
      rw [if_neg ha, pourZ_eq h1]
      by_cases hq : q = a.toNat
      · subst hq
        rw [uZ_s, if_neg hno, if_pos List.mem_cons_self]; omega
      · rw [uZ_n _ _ hq]
        by_cases hm : q ∈ pth d n (d a.toNat)
        · rw [if_pos hm, if_pos (List.mem_cons_of_mem _ hm)]
        · rw [if_neg hm, if_neg (fun z => (List.mem_cons.mp z).elim hq hm)]
theorem begF_eq {th be inf f : Nat → Int} (q : Nat) : ∀ {n : Nat}, n ≤ 32 → (∀ k : Nat, k < 32 → th k ≠ 0 → pEnd be 32 (k : Int)) → (∀ k : Nat, k < 32 → 0 ≤ inf k) → (∀ k : Nat, k < 32 → th k = 0 → inf k = 0) → begF be inf f n q = f q + sumTo (natA th be inf (q : Int)) n
  | 0, _, _, _, _ => by show f q = f q + 0; omega
  | n + 1, hn, hE, h0, hz => by
    have ih := begF_eq (f := f) q (n := n) (by omega) hE h0 hz
    show (if inf n ≤ 0 then begF be inf f n else pourZ be (inf n) 32 (n : Int) (begF be inf f n)) q = f q + (sumTo (natA th be inf (q : Int)) n + natA th be inf (q : Int) n)
    have hn0 := h0 n (by omega)
    by_cases hi : inf n ≤ 0
    · have e : inf n = 0 := by omega
      rw [if_pos hi, ih]
      have : natA th be inf (q : Int) n = 0 := by
        unfold natA; rw [e]; split <;> rfl
      omega
    · have ht : th n ≠ 0 := fun e => hi (by rw [hz n (by omega) e]; omega)
      rw [if_neg hi, pourZ_eq (hE n (by omega) ht), ih]
      have : natA th be inf (q : Int) n = if q ∈ pth be 32 (n : Int) then inf n else 0 := by
        unfold natA
        by_cases hm : q ∈ pth be 32 (n : Int)
        · rw [if_pos ⟨ht, onP_t.mpr hm⟩, if_pos hm]
        · rw [if_neg (fun z => hm (onP_t.mp z.2)), if_neg hm]
      omega
/-- a right of the desk and of the reference -/
def rgT (th be pl sh rt st wn wnt shr bck : Nat → Int) (i : Nat) : Prop := (0 ≤ pl i ∧ pl i < 32 ∧ th (pl i).toNat ≠ 0) ∧ wn i = wnt i ∧ (0 ≤ wn i ∧ wn i ≤ 1000000000) ∧ ((st i = -1 ∧ (0 ≤ rt i ∧ rt i < 32 ∧ th (rt i).toNat ≠ 0) ∧ (rt i).toNat ∈ pth be 32 (pl i) ∧ (0 ≤ sh i ∧ sh i ≤ 1000) ∧ shr i = sh i ∧ bck i = rt i) ∨ (0 ≤ st i ∧ st i < 8 ∧ rt i = -1 ∧ sh i = -1))
theorem rgT.ok {th be pl sh rt st wn wnt shr bck : Nat → Int} {i : Nat} (hE : ∀ k : Nat, k < 32 → th k ≠ 0 → pEnd be 32 (k : Int)) (h : rgT th be pl sh rt st wn wnt shr bck i) : rOk be pl sh rt st wn i := by
  obtain ⟨h1, h2, h3, h4⟩ := h
  have hE1 := hE (pl i).toNat (by omega) h1.2.2
  rw [Int.toNat_of_nonneg h1.1] at hE1
  refine ⟨hE1, ⟨h1.1, h1.2.1⟩, ?_, ?_, h3, ?_⟩
  · omega
  · intro q
    rcases h4 with ⟨_, _, hm, hs, _, _⟩ | ⟨_, _, e, _⟩
    · exact ⟨hs, hm⟩
    · omega
  · omega
/-- what the right takes of the natural flow is what the reference counts -/
theorem natB_took {th be g pl sh rt st wn wnt shr bck amt : Nat → Int} {i q : Nat} (hE : ∀ k : Nat, k < 32 → th k ≠ 0 → pEnd be 32 (k : Int)) (hg : g i ≠ 0) (h : rgT th be pl sh rt st wn wnt shr bck i) : natB be g pl bck st shr amt (q : Int) i = - took be (pl i) (sh i) (rt i) (amt i) q := by
  have hk := h.ok hE
  obtain ⟨h1, h2, h3, h4⟩ := h
  unfold natB took
  rw [if_pos hg]
  rcases h4 with ⟨hs, hr, hm, hsh, e1, e2⟩ | ⟨hs, _, hr, hsh⟩
  · rw [e1, e2]
    by_cases hp : q ∈ pth be 32 (pl i)
    · rw [if_pos (onP_t.mpr hp), if_pos hp]
      by_cases hq : q ∈ pth be 32 (rt i)
      · rw [if_pos ⟨by omega, onP_t.mpr hq⟩, if_pos hq]; omega
      · rw [if_neg (fun z => hq (onP_t.mp z.2)), if_neg hq]; omega
    · have hq : ¬ q ∈ pth be 32 (rt i) := fun z => by
        obtain ⟨_, h6⟩ := pth_mem hk.1 hm
        rw [Int.toNat_of_nonneg hr.1] at h6
        exact hp (h6 q z)
      rw [if_neg (fun z => hp (onP_t.mp z)), if_neg (fun z => hq (onP_t.mp z.2)), if_neg hp]; rfl
  · rw [if_neg (fun z : st i < 0 ∧ _ => by omega), hr, pth_neg (show (-1 : Int) < 0 by decide)]
    by_cases hp : q ∈ pth be 32 (pl i)
    · rw [if_pos (onP_t.mpr hp), if_pos hp, if_neg (by intro z; cases z)]; omega
    · rw [if_neg (fun z => hp (onP_t.mp z)), if_neg hp]; rfl
theorem natM_upd {th be inf g pl sh rt st wn wnt shr bck amt : Nat → Int} {i q : Nat} {a : Int} (hE : ∀ k : Nat, k < 32 → th k ≠ 0 → pEnd be 32 (k : Int)) (hi : i < 40) (hg : g i ≠ 0) (h : rgT th be pl sh rt st wn wnt shr bck i) (h0 : amt i = 0) : natM th be inf g pl bck st shr (uZ amt i a) (q : Int) = natM th be inf g pl bck st shr amt (q : Int) - took be (pl i) (sh i) (rt i) a q := by
  unfold natM
  rw [sumTo_upd (f := natB be g pl bck st shr amt (q : Int)) (g := natB be g pl bck st shr (uZ amt i a) (q : Int)) hi (fun k _ hk => by unfold natB; rw [uZ_n amt a hk]), natB_took hE hg h, natB_took hE hg h, h0, took_0, uZ_s]
  omega
theorem stoM_upd {g st amt : Nat → Int} {i : Nat} {a s : Int} (hi : i < 40) (hg : g i ≠ 0) (h0 : amt i = 0) : sumTo (stoM g st (uZ amt i a) s) 40 = sumTo (stoM g st amt s) 40 + (if st i = s then a else 0) := by
  rw [sumTo_upd (f := stoM g st amt s) (g := stoM g st (uZ amt i a) s) hi (fun k _ hk => by unfold stoM; rw [uZ_n amt a hk])]
  unfold stoM
  rw [uZ_s, h0]
  by_cases h : st i = s
  · rw [if_pos ⟨hg, h⟩, if_pos ⟨hg, h⟩, if_pos h]; omega
  · rw [if_neg (fun z => h z.2), if_neg (fun z => h z.2), if_neg h]; omega
/-- a plan being made, of the desk (x) and of the reference (am) -/
def csT (th be inf g pl bck st shr cap wat am : Nat → Int) (x : T3) : Prop := (∀ i : Nat, i < 40 → am i = x.1 i) ∧ (∀ q : Nat, q < 32 → x.2.1 q = natM th be inf g pl bck st shr am (q : Int)) ∧ ∀ s : Nat, s < 8 → x.2.2 s = cap s - wat s - sumTo (stoM g st am (s : Int)) 40
theorem csT.gst {th be inf g pl sh rt st wn wnt shr bck cap wat am : Nat → Int} {x : T3} {i : Nat} {a : Int} (hE : ∀ k : Nat, k < 32 → th k ≠ 0 → pEnd be 32 (k : Int)) (hi : i < 40) (hg : g i ≠ 0) (h : rgT th be pl sh rt st wn wnt shr bck i) (h0 : am i = 0) (hc : csT th be inf g pl bck st shr cap wat am x) : csT th be inf g pl bck st shr cap wat (uZ am i a) (gst be pl sh rt st i a x) := by
  obtain ⟨c1, c2, c3⟩ := hc
  have hk := h.ok hE
  refine ⟨fun j hj => ?_, fun q hq => ?_, fun s hs => ?_⟩
  · show uZ am i a j = uZ x.1 i a j
    by_cases e : j = i
    · subst e; rw [uZ_s, uZ_s]
    · rw [uZ_n _ _ e, uZ_n _ _ e]; exact c1 j hj
  · show givW be (sh i) (rt i) a 32 (pl i) false x.2.1 q = _
    rw [give_took hk, natM_upd hE hi hg h h0, c2 q hq]
  · show (if st i ≠ -1 then uZ x.2.2 (st i).toNat (x.2.2 (st i).toNat - a) else x.2.2) s = _
    rw [stoM_upd hi hg h0]
    have h6 := hk.2.2.2.2.2
    by_cases hs1 : st i = -1
    · rw [if_neg (fun z => z hs1), c3 s hs, if_neg (by omega)]; omega
    · rw [if_pos hs1]
      by_cases e : st i = (s : Int)
      · have e2 : (st i).toNat = s := by omega
        rw [e2, uZ_s, if_pos e, c3 s hs]; omega
      · rw [uZ_n _ _ (by omega), if_neg e, c3 s hs]; omega
/-- the plan with a for right i holds just when a is not more than the most -/
theorem hld_iff {th be inf g pl sh rt st wn wnt shr bck cap wat am : Nat → Int} {x : T3} {i : Nat} {a : Int} (hb : ∀ r : Nat, r < 32 → -1 ≤ be r ∧ be r < 32) (hE : ∀ k : Nat, k < 32 → th k ≠ 0 → pEnd be 32 (k : Int)) (hi : i < 40) (hg : g i ≠ 0) (h : rgT th be pl sh rt st wn wnt shr bck i) (h0 : am i = 0) (hc : csT th be inf g pl bck st shr cap wat am x) (hp : plOk x.2.1 x.2.2) (ha : a ≤ wn i) : hldM th be inf g pl bck st shr cap wat (uZ am i a) (i : Int) = true ↔ a ≤ amW be pl sh rt st wn x.2.1 x.2.2 i := by
  obtain ⟨c1, c2, c3⟩ := hc
  have hk := h.ok hE
  obtain ⟨k1, k2, k3, k4, k5, k6⟩ := id hk
  have hlt : ∀ q, q ∈ pth be 32 (pl i) → q < 32 := fun q hq => pth_lt hb k2.2 hq
  rw [amW_eq hk, le_most (st := st i) (ro := x.2.2 (st i).toNat) (f := x.2.1) (fun q => (k4 q).1) ha k5.2 (fun r hr => (hp.1 r (hlt r hr)).1)]
  unfold hldM
  rw [Int.toNat_natCast, Bool.and_eq_true, hpB_iff k1, Bool.or_eq_true, decide_eq_true_iff, decide_eq_true_iff, stoM_upd hi hg h0, if_pos rfl]
  constructor
  · rintro ⟨h1, h2⟩
    refine ⟨fun r hr => ?_, fun hs => ?_⟩
    · have := h1 r hr
      rw [natM_upd hE hi hg h h0, ← c2 r (hlt r hr)] at this
      omega
    · have := c3 (st i).toNat (by omega)
      rw [Int.toNat_of_nonneg hs] at this
      omega
  · rintro ⟨h1, h2⟩
    refine ⟨fun r hr => ?_, ?_⟩
    · have := h1 r hr
      rw [natM_upd hE hi hg h h0, ← c2 r (hlt r hr)]
      omega
    · by_cases hs : st i < 0
      · exact Or.inl hs
      · have h3 := h2 (by omega)
        have := c3 (st i).toNat (by omega)
        rw [Int.toNat_of_nonneg (by omega)] at this
        exact Or.inr (by omega)
