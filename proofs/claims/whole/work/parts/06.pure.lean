/-! pure rows: sums, paths of the river, what a right takes, the most that it can get -/
def sumTo (f : Nat → Int) : Nat → Int
  | 0 => 0
  | n + 1 => sumTo f n + f n
theorem sumTo_congr {f g : Nat → Int} : ∀ {n : Nat}, (∀ k, k < n → f k = g k) → sumTo f n = sumTo g n
  | 0, _ => rfl
  | n + 1, h => by
    show sumTo f n + f n = sumTo g n + g n
    rw [sumTo_congr (fun k hk => h k (by omega)), h n (by omega)]
theorem sumTo_nonneg {f : Nat → Int} : ∀ {n : Nat}, (∀ k, k < n → 0 ≤ f k) → 0 ≤ sumTo f n
  | 0, _ => Int.le_refl _
  | n + 1, h => by
    show 0 ≤ sumTo f n + f n
    have h1 := sumTo_nonneg (fun k hk => h k (by omega)) (f := f) (n := n)
    have h2 := h n (by omega)
    omega
theorem sumTo_le {f : Nat → Int} {b : Int} : ∀ {n : Nat}, (∀ k, k < n → f k ≤ b) → sumTo f n ≤ n * b
  | 0, _ => by simp [sumTo]
  | n + 1, h => by
    show sumTo f n + f n ≤ ((n + 1 : Nat) : Int) * b
    have h1 := sumTo_le (fun k hk => h k (by omega)) (f := f) (n := n) (b := b)
    have h2 := h n (by omega)
    have h3 : ((n + 1 : Nat) : Int) * b = n * b + b := by rw [Int.natCast_add, Int.add_mul]; simp
    omega
theorem sumTo_add (f g : Nat → Int) : ∀ n : Nat, sumTo (fun k => f k + g k) n = sumTo f n + sumTo g n
  | 0 => rfl
  | n + 1 => by
    show sumTo (fun k => f k + g k) n + (f n + g n) = (sumTo f n + f n) + (sumTo g n + g n)
    rw [sumTo_add f g n]; omega
theorem sumTo_neg (f : Nat → Int) : ∀ n : Nat, sumTo (fun k => - f k) n = - sumTo f n
  | 0 => rfl
  | n + 1 => by
    show sumTo (fun k => - f k) n + - f n = - (sumTo f n + f n)
    rw [sumTo_neg f n]; omega
theorem sumTo_zero {f : Nat → Int} : ∀ {n : Nat}, (∀ k, k < n → f k = 0) → sumTo f n = 0
  | 0, _ => rfl
  | n + 1, h => by
    show sumTo f n + f n = 0
    rw [sumTo_zero (fun k hk => h k (by omega)), h n (by omega)]; rfl
/-- one term changed -/
theorem sumTo_upd {f g : Nat → Int} {j : Nat} : ∀ {n : Nat}, j < n → (∀ k, k < n → k ≠ j → g k = f k) → sumTo g n = sumTo f n - f j + g j
  | 0, h, _ => absurd h (Nat.not_lt_zero _)
  | n + 1, h, hk => by
    show sumTo g n + g n = sumTo f n + f n - f j + g j
    by_cases e : j = n
    · subst e
      rw [sumTo_congr (f := g) (g := f) (fun k h1 => hk k (by omega) (by omega))]; omega
    · rw [sumTo_upd (f := f) (g := g) (j := j) (n := n) (by omega) (fun k h1 h2 => hk k (by omega) h2), hk n (by omega) (fun q => e q.symm)]; omega
theorem sumTo_mono {f g : Nat → Int} : ∀ {n : Nat}, (∀ k, k < n → f k ≤ g k) → sumTo f n ≤ sumTo g n
  | 0, _ => Int.le_refl _
  | n + 1, h => by
    show sumTo f n + f n ≤ sumTo g n + g n
    have h1 := sumTo_mono (fun k hk => h k (by omega)) (f := f) (g := g) (n := n)
    have h2 := h n (by omega)
    omega
/-! paths: the reaches from r on downwards, at most n of them -/
def pth (d : Nat → Int) : Nat → Int → List Nat
  | 0, _ => []
  | n + 1, r => if r < 0 then [] else r.toNat :: pth d n (d r.toNat)
theorem pth_neg {d : Nat → Int} {n : Nat} {r : Int} (h : r < 0) : pth d n r = [] := by
  cases n with
  | zero => rfl
  | succ n => exact if_pos h
theorem pth_pos {d : Nat → Int} {n : Nat} {r : Int} (h : 0 ≤ r) : pth d (n + 1) r = r.toNat :: pth d n (d r.toNat) := if_neg (by omega)
/-- within n steps the path comes out of the river -/
def pEnd (d : Nat → Int) : Nat → Int → Prop
  | 0, r => r < 0
  | n + 1, r => r < 0 ∨ pEnd d n (d r.toNat)
theorem pEnd_mono {d : Nat → Int} : ∀ {n k : Nat} {r : Int}, n ≤ k → pEnd d n r → pEnd d k r
  | 0, 0, _, _, h => h
  | 0, _ + 1, _, _, h => Or.inl h
  | _ + 1, 0, _, hk, _ => absurd hk (by omega)
  | n + 1, k + 1, r, hk, h => by
    rcases h with h | h
    · exact Or.inl h
    · exact Or.inr (pEnd_mono (by omega) h)
theorem pth_fuel {d : Nat → Int} : ∀ {n k : Nat} {r : Int}, pEnd d n r → n ≤ k → pth d k r = pth d n r
  | 0, k, r, h, _ => by
    rw [pth_neg (show r < 0 from h), pth_neg (show r < 0 from h)]
  | n + 1, 0, _, _, hk => absurd hk (by omega)
  | n + 1, k + 1, r, h, hk => by
    by_cases h0 : r < 0
    · rw [pth_neg h0, pth_neg h0]
    · rw [pth_pos (by omega), pth_pos (by omega), pth_fuel (h.resolve_left h0) (by omega)]
/-- a path's tail from a reach on it is that reach's own path -/
theorem pth_mem {d : Nat → Int} : ∀ {n : Nat} {r : Int} {t : Nat}, pEnd d n r → t ∈ pth d n r → pEnd d n (t : Int) ∧ ∀ u, u ∈ pth d n (t : Int) → u ∈ pth d n r
  | 0, r, t, _, h => by cases h
  | n + 1, r, t, hE, h => by
    by_cases h0 : r < 0
    · rw [pth_neg h0] at h; cases h
    · have hE1 := hE.resolve_left h0
      have hp : pth d (n + 1) r = r.toNat :: pth d n (d r.toNat) := pth_pos (by omega)
      rw [hp] at h
      rcases List.mem_cons.mp h with h | h
      · have e : (t : Int) = r := by rw [h, Int.toNat_of_nonneg (by omega)]
        rw [e]
        exact ⟨hE, fun u hu => hu⟩
      · obtain ⟨h1, h2⟩ := pth_mem hE1 h
        refine ⟨pEnd_mono (by omega) h1, fun u hu => ?_⟩
        rw [pth_fuel h1 (Nat.le_succ n)] at hu
        rw [hp]
        exact List.mem_cons_of_mem _ (h2 u hu)
theorem pth_self {d : Nat → Int} {n : Nat} {r : Int} (h : 0 ≤ r) : r.toNat ∈ pth d (n + 1) r := by
  rw [pth_pos h]; exact List.mem_cons_self
/-- no reach is on its own path's tail -/
theorem pth_notail {d : Nat → Int} : ∀ {n : Nat} {r : Int}, pEnd d n r → 0 ≤ r → r.toNat ∉ pth d n (d r.toNat)
  | 0, r, h, h0 => absurd h (by show ¬ r < 0; omega)
  | n + 1, r, h, h0 => by
    intro hm
    have hE := h.resolve_left (by omega)
    have hE' := pEnd_mono (Nat.le_succ n) hE
    rw [pth_fuel hE (Nat.le_succ n)] at hm
    obtain ⟨h1, h2⟩ := pth_mem hE hm
    rw [Int.toNat_of_nonneg h0] at h1
    have h3 := pth_notail h1 h0
    exact h3 hm
/-! what is used of a diversion, and the most that may be diverted where so much may be used -/
theorem used_le {a t s u : Int} (ht : t = a * s) (h2 : s < 1000) : a - t / 1000 ≤ u ↔ a ≤ u * 1000 / (1000 - s) := by
  rw [Int.le_ediv_iff_mul_le (by omega)]
  have e : a * (1000 - s) = a * 1000 - t := by rw [ht, Int.mul_sub]
  rw [e]
  omega
theorem used_all (a : Int) : a - a * 1000 / 1000 = 0 := by
  rw [Int.mul_ediv_cancel _ (by decide)]; omega
/-- the least of m and of b over a list -/
def minP (b : Nat → Int) : Int → List Nat → Int
  | m, [] => m
  | m, r :: l => minP b (min m (b r)) l
theorem le_minP {b : Nat → Int} {a : Int} : ∀ {l : List Nat} {m : Int}, a ≤ minP b m l ↔ a ≤ m ∧ ∀ r, r ∈ l → a ≤ b r
  | [], m => ⟨fun h => ⟨h, fun _ hr => by cases hr⟩, fun h => h.1⟩
  | x :: l, m => by
    show a ≤ minP b (min m (b x)) l ↔ _
    rw [le_minP]
    constructor
    · rintro ⟨h1, h2⟩
      refine ⟨by omega, fun r hr => ?_⟩
      rcases List.mem_cons.mp hr with rfl | hr
      · omega
      · exact h2 r hr
    · rintro ⟨h1, h2⟩
      have := h2 x List.mem_cons_self
      exact ⟨by omega, fun r hr => h2 r (List.mem_cons_of_mem _ hr)⟩
theorem minP_congr {b b' : Nat → Int} : ∀ {l : List Nat} {m : Int}, (∀ r, r ∈ l → b r = b' r) → minP b m l = minP b' m l
  | [], _, _ => rfl
  | x :: l, m, h => by
    show minP b (min m (b x)) l = minP b' (min m (b' x)) l
    rw [h x List.mem_cons_self]
    exact minP_congr (fun r hr => h r (List.mem_cons_of_mem _ hr))
theorem minP_le {b : Nat → Int} {l : List Nat} {m : Int} : minP b m l ≤ m := (le_minP.mp (Int.le_refl _)).1
/-- what a right with reach pl, share sh and return reach rt (below 0: none) takes at r of a diversion of a -/
def took (d : Nat → Int) (pl sh rt a : Int) (r : Nat) : Int := if r ∈ pth d 32 pl then (if r ∈ pth d 32 rt then a - a * sh / 1000 else a) else 0
/-- the bound that the flow f at r puts on it -/
def bnd (d : Nat → Int) (sh rt : Int) (f : Nat → Int) (r : Nat) : Int := if r ∈ pth d 32 rt then (if 1000 - sh ≤ 0 then 1000000000 else f r * 1000 / (1000 - sh)) else f r
theorem rt_nn {d : Nat → Int} {rt : Int} {r n : Nat} (h : r ∈ pth d n rt) : 0 ≤ rt := by
  by_cases q : rt < 0
  · rw [pth_neg q] at h; cases h
  · omega
theorem took_le {d : Nat → Int} {pl sh rt a : Int} {f : Nat → Int} {r : Nat} (hr : r ∈ pth d 32 pl) (hs : 0 ≤ rt → 0 ≤ sh ∧ sh ≤ 1000) (ha : a ≤ 1000000000) (hf : 0 ≤ f r) : took d pl sh rt a r ≤ f r ↔ a ≤ bnd d sh rt f r := by
  unfold took bnd
  rw [if_pos hr]
  by_cases h : r ∈ pth d 32 rt
  · rw [if_pos h, if_pos h]
    obtain ⟨h1, h2⟩ := hs (rt_nn h)
    by_cases h3 : 1000 - sh ≤ 0
    · have : sh = 1000 := by omega
      rw [if_pos h3, this, used_all]
      omega
    · rw [if_neg h3]
      exact used_le rfl (by omega)
  · rw [if_neg h, if_neg h]
/-- its first bound: what it wants, and its reservoir's room -/
def mos0 (st wn ro : Int) : Int := if st < 0 then wn else min wn ro
def mostZ (d : Nat → Int) (pl sh rt st wn ro : Int) (f : Nat → Int) : Int := minP (bnd d sh rt f) (mos0 st wn ro) (pth d 32 pl)
theorem le_most {d : Nat → Int} {pl sh rt st wn ro a : Int} {f : Nat → Int} (hs : 0 ≤ rt → 0 ≤ sh ∧ sh ≤ 1000) (ha : a ≤ wn) (hw : wn ≤ 1000000000) (hf : ∀ r, r ∈ pth d 32 pl → 0 ≤ f r) : a ≤ mostZ d pl sh rt st wn ro f ↔ (∀ r, r ∈ pth d 32 pl → took d pl sh rt a r ≤ f r) ∧ (0 ≤ st → a ≤ ro) := by
  unfold mostZ
  rw [le_minP]
  constructor
  · rintro ⟨h1, h2⟩
    refine ⟨fun r hr => (took_le hr hs (by omega) (hf r hr)).mpr (h2 r hr), fun h => ?_⟩
    unfold mos0 at h1
    rw [if_neg (by omega)] at h1
    omega
  · rintro ⟨h1, h2⟩
    refine ⟨?_, fun r hr => (took_le hr hs (by omega) (hf r hr)).mp (h1 r hr)⟩
    unfold mos0
    by_cases h : st < 0
    · rw [if_pos h]; exact ha
    · rw [if_neg h]
      have := h2 (by omega)
      omega
theorem took_0 (d : Nat → Int) (pl sh rt : Int) (r : Nat) : took d pl sh rt 0 r = 0 := by
  unfold took
  split
  · split
    · rw [Int.zero_mul]; rfl
    · rfl
  · rfl
theorem took_nonneg {d : Nat → Int} {pl sh rt a : Int} {r : Nat} (hs : 0 ≤ rt → 0 ≤ sh ∧ sh ≤ 1000) (ha : 0 ≤ a) : 0 ≤ took d pl sh rt a r := by
  unfold took
  split
  · split
    · rename_i h
      obtain ⟨h1, h2⟩ := hs (rt_nn h)
      have e : a * sh ≤ a * 1000 := Int.mul_le_mul_of_nonneg_left h2 ha
      omega
    · exact ha
  · exact Int.le_refl _
theorem took_le_self {d : Nat → Int} {pl sh rt a : Int} {r : Nat} (hs : 0 ≤ rt → 0 ≤ sh ∧ sh ≤ 1000) (ha : 0 ≤ a) : took d pl sh rt a r ≤ a := by
  unfold took
  split
  · split
    · rename_i h
      obtain ⟨h1, h2⟩ := hs (rt_nn h)
      have e : 0 ≤ a * sh := Int.mul_nonneg ha h1
      omega
    · exact Int.le_refl _
  · exact ha
/-- walking down from the right's reach: has the return reach come? -/
def cbOk (d : Nat → Int) (n : Nat) (rt a : Int) (cb : Bool) : Prop := pEnd d n a ∧ (cb = true → ∀ r, r ∈ pth d n a → r ∈ pth d 32 rt) ∧ (cb = false → rt < 0 ∨ rt.toNat ∈ pth d n a)
theorem cb_here {d : Nat → Int} {n : Nat} {rt a : Int} {cb : Bool} (hn : n < 32) (h : cbOk d (n + 1) rt a cb) (ha : 0 ≤ a) : ((cb || decide (a = rt)) = true ↔ a.toNat ∈ pth d 32 rt) ∧ cbOk d n rt (d a.toNat) (cb || decide (a = rt)) := by
  obtain ⟨hE, h1, h2⟩ := h
  have hE1 := hE.resolve_left (by omega)
  rw [pth_pos ha] at h1 h2
  cases cb with
  | true =>
    have h3 := h1 rfl
    refine ⟨⟨fun _ => h3 _ List.mem_cons_self, fun _ => rfl⟩, hE1, fun _ r hr => h3 r (List.mem_cons_of_mem _ hr), fun q => (by cases q)⟩
  | false =>
    rw [Bool.false_or]
    by_cases e : a = rt
    · subst e
      have hp : pth d 32 a = a.toNat :: pth d n (d a.toNat) := by
        rw [pth_fuel hE (by omega), pth_pos ha]
      refine ⟨⟨fun _ => by rw [hp]; exact List.mem_cons_self, fun _ => decide_eq_true rfl⟩, hE1, fun _ r hr => by rw [hp]; exact List.mem_cons_of_mem _ hr, fun q => ?_⟩
      rw [decide_eq_true rfl] at q; cases q
    · have hd : decide (a = rt) = false := decide_eq_false e
      rw [hd]
      refine ⟨⟨fun q => (by cases q), fun q => ?_⟩, hE1, fun q => (by cases q), fun _ => ?_⟩
      · exfalso
        have hrt := rt_nn q
        rcases h2 rfl with h3 | h3
        · omega
        · rcases List.mem_cons.mp h3 with h4 | h4
          · exact e (by omega)
          · obtain ⟨q1, q2⟩ := pth_mem hE1 h4
            rw [Int.toNat_of_nonneg hrt] at q1 q2
            rw [pth_fuel q1 (by omega)] at q
            exact pth_notail hE ha (by rw [pth_fuel hE1 (Nat.le_succ n)]; exact q2 _ q)
      · by_cases hr : rt < 0
        · exact Or.inl hr
        · rcases h2 rfl with h3 | h3
          · exact Or.inl h3
          · rcases List.mem_cons.mp h3 with h4 | h4
            · exact absurd (show a = rt by omega) e
            · exact Or.inr h4
