section RV6
variable {p : Program} {l : Launch} {e : Env} {R : Room} {s : State} {m : MethodId} {args : Array Value} {below : List Frame} {meth : Method} {c : Code} {E : rE} {A : Nat → Prop} {nL cells slots : Nat} {Q : State → Prop} {ws : va_W} {pc : Nat} {lv : List (Nat × Value)} {st : List Value}
theorem rG.topi {v : Int} (kk : ∀ z : Int, z = v → rG p l e R s m args below meth c E A nL cells slots Q ws pc lv (.int (iI z) :: st)) : rG p l e R s m args below meth c E A nL cells slots Q ws pc lv (.int (iI v) :: st) := kk v rfl
theorem rG.topl {v : Int} (kk : ∀ z : Int, z = v → rG p l e R s m args below meth c E A nL cells slots Q ws pc lv (.long (lI z) :: st)) : rG p l e R s m args below meth c E A nL cells slots Q ws pc lv (.long (lI v) :: st) := kk v rfl
end RV6
/-- walking down with the flag is the path's own minimum -/
theorem mosW_eq {d : Nat → Int} {sh rt : Int} {f : Nat → Int} : ∀ {n : Nat} {a : Int} {cb : Bool} {m : Int}, n ≤ 32 → cbOk d n rt a cb → mosW d sh rt f n a cb m = minP (bnd d sh rt f) m (pth d n a)
  | 0, _, _, _, _, _ => rfl
  | n + 1, a, cb, m, hn, h => by
    by_cases ha : a < 0
    · rw [pth_neg ha]
      exact if_pos ha
    · obtain ⟨h1, h2⟩ := cb_here (by omega) h (by omega)
      rw [pth_pos (by omega)]
      show (if a < 0 then m else mosW d sh rt f n (d a.toNat) (cb || decide (a = rt)) (min m (if (cb || decide (a = rt)) = true then mfu sh (f a.toNat) else f a.toNat))) = minP (bnd d sh rt f) (min m (bnd d sh rt f a.toNat)) (pth d n (d a.toNat))
      rw [if_neg ha, mosW_eq (by omega) h2]
      have e : (if (cb || decide (a = rt)) = true then mfu sh (f a.toNat) else f a.toNat) = bnd d sh rt f a.toNat := by
        unfold bnd mfu
        by_cases q : (cb || decide (a = rt)) = true
        · rw [if_pos q, if_pos (h1.mp q)]
        · rw [if_neg q, if_neg (fun z => q (h1.mpr z))]
      rw [e]
theorem givW_eq {d : Nat → Int} {sh rt am : Int} : ∀ {n : Nat} {a : Int} {cb : Bool} {f : Nat → Int}, n ≤ 32 → cbOk d n rt a cb → ∀ q : Nat, givW d sh rt am n a cb f q = f q - (if q ∈ pth d n a then (if q ∈ pth d 32 rt then am - am * sh / 1000 else am) else 0)
  | 0, _, _, f, _, _, q => by
    show f q = f q - _
    rw [if_neg (by intro h; cases h)]; omega
  | n + 1, a, cb, f, hn, h, q => by
    by_cases ha : a < 0
    · rw [pth_neg ha, if_neg (by intro h; cases h)]
      show (if a < 0 then f else _) q = f q - 0
      rw [if_pos ha]; omega
    · obtain ⟨h1, h2⟩ := cb_here (by omega) h (by omega)
      have hno : a.toNat ∉ pth d n (d a.toNat) := by
        have hE := h2.1
        have := pth_notail h.1 (by omega)
        rw [pth_fuel hE (Nat.le_succ n)] at this
        exact this
      have e : (if (cb || decide (a = rt)) = true then am - am * sh / 1000 else am) = (if a.toNat ∈ pth d 32 rt then am - am * sh / 1000 else am) := by
        by_cases z : (cb || decide (a = rt)) = true
        · rw [if_pos z, if_pos (h1.mp z)]
        · rw [if_neg z, if_neg (fun y => z (h1.mpr y))]
      rw [pth_pos (by omega)]
      show (if a < 0 then f else givW d sh rt am n (d a.toNat) (cb || decide (a = rt)) (uZ f a.toNat (f a.toNat - (if (cb || decide (a = rt)) = true then am - am * sh / 1000 else am)))) q = _
      rw [if_neg ha, givW_eq (by omega) h2 q, e]
      by_cases hq : q = a.toNat
      · subst hq
        rw [uZ_s, if_neg hno, if_pos List.mem_cons_self]; omega
      · rw [uZ_n _ _ hq]
        by_cases hm : q ∈ pth d n (d a.toNat)
        · rw [if_pos hm, if_pos (List.mem_cons_of_mem _ hm)]
        · rw [if_neg hm, if_neg (fun z => (List.mem_cons.mp z).elim hq hm)]
/-- a right as it may be: its path ends, its return reach is on it -/
def rOk (be pl sh rt st wn : Nat → Int) (i : Nat) : Prop := pEnd be 32 (pl i) ∧ (0 ≤ pl i ∧ pl i < 32) ∧ (-1 ≤ rt i ∧ rt i < 32) ∧ (0 ≤ rt i → (0 ≤ sh i ∧ sh i ≤ 1000) ∧ (rt i).toNat ∈ pth be 32 (pl i)) ∧ (0 ≤ wn i ∧ wn i ≤ 1000000000) ∧ (-1 ≤ st i ∧ st i < 8)
theorem rOk.cb {be pl sh rt st wn : Nat → Int} {i : Nat} (h : rOk be pl sh rt st wn i) : cbOk be 32 (rt i) (pl i) false := by
  refine ⟨h.1, fun q => (by cases q), fun _ => ?_⟩
  by_cases q : rt i < 0
  · exact Or.inl q
  · exact Or.inr (h.2.2.2.1 (by omega)).2
/-- flows and rooms as they may be -/
def plOk (flo roo : Nat → Int) : Prop := (∀ q : Nat, q < 32 → 0 ≤ flo q ∧ flo q ≤ 1000000000000) ∧ ∀ q : Nat, q < 8 → 0 ≤ roo q ∧ roo q ≤ 1000000000
/-- what right i gets -/
def amW (be pl sh rt st wn flo roo : Nat → Int) (i : Nat) : Int := mosW be (sh i) (rt i) flo 32 (pl i) false (if st i ≠ -1 then min (wn i) (roo (st i).toNat) else wn i)
theorem amW_eq {be pl sh rt st wn flo roo : Nat → Int} {i : Nat} (h : rOk be pl sh rt st wn i) : amW be pl sh rt st wn flo roo i = mostZ be (pl i) (sh i) (rt i) (st i) (wn i) (roo (st i).toNat) flo := by
  unfold amW mostZ mos0
  rw [mosW_eq (Nat.le_refl 32) h.cb]
  have h6 := h.2.2.2.2.2
  by_cases q : st i < 0
  · rw [if_neg (fun z => z (by omega)), if_pos q]
  · rw [if_pos (by omega), if_neg q]
/-- a path's reaches are reaches -/
theorem pth_lt {d : Nat → Int} (hd : ∀ r : Nat, r < 32 → -1 ≤ d r ∧ d r < 32) : ∀ {n : Nat} {a : Int} {q : Nat}, a < 32 → q ∈ pth d n a → q < 32
  | 0, _, _, _, h => by cases h
  | n + 1, a, q, ha, h => by
    by_cases h0 : a < 0
    · rw [pth_neg h0] at h; cases h
    · rw [pth_pos (by omega)] at h
      rcases List.mem_cons.mp h with h | h
      · omega
      · exact pth_lt hd (hd a.toNat (by omega)).2 h
theorem give_took {be pl sh rt st wn flo : Nat → Int} {i : Nat} {am : Int} (h : rOk be pl sh rt st wn i) (q : Nat) : givW be (sh i) (rt i) am 32 (pl i) false flo q = flo q - took be (pl i) (sh i) (rt i) am q := givW_eq (Nat.le_refl 32) h.cb q
theorem step_ok {be pl sh rt st wn flo roo : Nat → Int} {i : Nat} (hd : ∀ r : Nat, r < 32 → -1 ≤ be r ∧ be r < 32) (h : rOk be pl sh rt st wn i) (hp : plOk flo roo) (am : Int) (ha0 : 0 ≤ am) (ha : am ≤ amW be pl sh rt st wn flo roo i) : plOk (givW be (sh i) (rt i) am 32 (pl i) false flo) (if st i ≠ -1 then uZ roo (st i).toNat (roo (st i).toNat - am) else roo) := by
  obtain ⟨h1, h2, h3, h4, h5, h6⟩ := id h
  have hsh : 0 ≤ rt i → 0 ≤ sh i ∧ sh i ≤ 1000 := fun q => (h4 q).1
  rw [amW_eq h] at ha
  have hle : am ≤ wn i := Int.le_trans ha (Int.le_trans minP_le (by unfold mos0; split <;> omega))
  have hm := (le_most (st := st i) (ro := roo (st i).toNat) (f := flo) hsh hle h5.2 (fun r hr => (hp.1 r (pth_lt hd h2.2 hr)).1)).mp ha
  refine ⟨fun q hq => ?_, fun q hq => ?_⟩
  · rw [give_took h]
    have ht := took_nonneg (d := be) (pl := pl i) (sh := sh i) (rt := rt i) (r := q) hsh ha0
    have hf := hp.1 q hq
    by_cases hm2 : q ∈ pth be 32 (pl i)
    · have := hm.1 q hm2
      omega
    · have : took be (pl i) (sh i) (rt i) am q = 0 := if_neg hm2
      omega
  · have hf := hp.2 q hq
    by_cases hs : st i ≠ -1
    · rw [if_pos hs]
      by_cases e : q = (st i).toNat
      · subst e
        rw [uZ_s]
        have := hm.2 (by omega)
        omega
      · rw [uZ_n _ _ e]; exact hf
    · rw [if_neg hs]; exact hf
theorem amW_in {be pl sh rt st wn flo roo : Nat → Int} {i : Nat} (hd : ∀ r : Nat, r < 32 → -1 ≤ be r ∧ be r < 32) (h : rOk be pl sh rt st wn i) (hp : plOk flo roo) : 0 ≤ amW be pl sh rt st wn flo roo i ∧ amW be pl sh rt st wn flo roo i ≤ wn i := by
  obtain ⟨h1, h2, h3, h4, h5, h6⟩ := id h
  have hsh : 0 ≤ rt i → 0 ≤ sh i ∧ sh i ≤ 1000 := fun q => (h4 q).1
  rw [amW_eq h]
  refine ⟨(le_most (st := st i) (ro := roo (st i).toNat) (f := flo) hsh h5.1 h5.2 (fun r hr => (hp.1 r (pth_lt hd h2.2 hr)).1)).mpr ⟨fun r hr => ?_, fun hs => ?_⟩, Int.le_trans minP_le (by unfold mos0; split <;> omega)⟩
  · rw [took_0]; exact (hp.1 r (pth_lt hd h2.2 hr)).1
  · exact (hp.2 _ (by omega)).1
abbrev T3 : Type := (Nat → Int) × (Nat → Int) × (Nat → Int)
def gst (be pl sh rt st : Nat → Int) (i : Nat) (am : Int) (x : T3) : T3 := (uZ x.1 i am, givW be (sh i) (rt i) am 32 (pl i) false x.2.1, if st i ≠ -1 then uZ x.2.2 (st i).toNat (x.2.2 (st i).toNat - am) else x.2.2)
/-- giving to the first k rights by age, but to po -/
def gab (be pl sh rt st wn ag : Nat → Int) (po : Int) : Nat → T3 → T3
  | 0, x => x
  | k + 1, x => if ag k = po then gab be pl sh rt st wn ag po k x else gst be pl sh rt st (ag k).toNat (amW be pl sh rt st wn (gab be pl sh rt st wn ag po k x).2.1 (gab be pl sh rt st wn ag po k x).2.2 (ag k).toNat) (gab be pl sh rt st wn ag po k x)
theorem gab_no {be pl sh rt st wn ag : Nat → Int} {po k : Int} {x : T3} (hk : 0 ≤ k) (h : ag k.toNat = po) : gab be pl sh rt st wn ag po (k + 1).toNat x = gab be pl sh rt st wn ag po k.toNat x := by
  rw [show (k + 1).toNat = k.toNat + 1 by omega]
  exact if_pos h
theorem gab_on {be pl sh rt st wn ag : Nat → Int} {po k : Int} {x y : T3} (hk : 0 ≤ k) (h : ¬ ag k.toNat = po) (hy : y = gab be pl sh rt st wn ag po k.toNat x) : gab be pl sh rt st wn ag po (k + 1).toNat x = gst be pl sh rt st (ag k.toNat).toNat (amW be pl sh rt st wn y.2.1 y.2.2 (ag k.toNat).toNat) y := by
  rw [show (k + 1).toNat = k.toNat + 1 by omega, hy]
  exact if_neg h
