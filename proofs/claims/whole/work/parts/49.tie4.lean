/-! closing a day, and water that is sent -/
theorem watZ_eq {st ag get wat : Nat → Int} {s : Nat} : ∀ {k : Nat}, watZ st ag get wat k s = wat s + sumTo (fun j => if st (ag j).toNat ≠ -1 ∧ (st (ag j).toNat).toNat = s then get (ag j).toNat else 0) k
  | 0 => by show wat s = wat s + 0; omega
  | k + 1 => by
    have ih := watZ_eq (st := st) (ag := ag) (get := get) (wat := wat) (s := s) (k := k)
    show (if st (ag k).toNat ≠ -1 then uZ (watZ st ag get wat k) (st (ag k).toNat).toNat (watZ st ag get wat k (st (ag k).toNat).toNat + get (ag k).toNat) else watZ st ag get wat k) s = wat s + (sumTo (fun j => if st (ag j).toNat ≠ -1 ∧ (st (ag j).toNat).toNat = s then get (ag j).toNat else 0) k + (if st (ag k).toNat ≠ -1 ∧ (st (ag k).toNat).toNat = s then get (ag k).toNat else 0))
    by_cases q : st (ag k).toNat ≠ -1
    · rw [if_pos q]
      by_cases e : (st (ag k).toNat).toNat = s
      · rw [if_pos ⟨q, e⟩, e, uZ_s, ih]; omega
      · rw [if_neg (fun z => e z.2), uZ_n _ _ (fun z => e z.symm), ih]; omega
    · rw [if_neg q, if_neg (fun z => q z.1), ih]; omega
theorem hoZ_eq {g st am hol : Nat → Int} {s : Nat} : ∀ {k : Nat}, hoZ g st am hol k s = hol s + sumTo (fun i => if g i ≠ 0 ∧ ¬ st i < 0 ∧ (st i).toNat = s then am i else 0) k
  | 0 => by show hol s = hol s + 0; omega
  | k + 1 => by
    have ih := hoZ_eq (g := g) (st := st) (am := am) (hol := hol) (s := s) (k := k)
    show (if g k ≠ 0 ∧ ¬ st k < 0 then uZ (hoZ g st am hol k) (st k).toNat (hoZ g st am hol k (st k).toNat + am k) else hoZ g st am hol k) s = hol s + (sumTo (fun i => if g i ≠ 0 ∧ ¬ st i < 0 ∧ (st i).toNat = s then am i else 0) k + (if g k ≠ 0 ∧ ¬ st k < 0 ∧ (st k).toNat = s then am k else 0))
    by_cases q : g k ≠ 0 ∧ ¬ st k < 0
    · rw [if_pos q]
      by_cases e : (st k).toNat = s
      · rw [if_pos ⟨q.1, q.2, e⟩, e, uZ_s, ih]; omega
      · rw [if_neg (fun z => e z.2.2), uZ_n _ _ (fun z => e z.symm), ih]; omega
    · rw [if_neg q, if_neg (fun z => q ⟨z.1, z.2.1⟩), ih]; omega
theorem wat_ho {g pr st ag get am wat : Nat → Int} {cn : Int} (h : isOrd g pr ag cn) (hs : ∀ i : Nat, i < 40 → -1 ≤ st i ∧ st i < 8) (ha : ∀ i : Nat, i < 40 → am i = get i) : watZ st ag get wat cn.toNat = hoZ g st am wat 40 := by
  funext s
  rw [watZ_eq, hoZ_eq, sum_age (fun i => if st i ≠ -1 ∧ (st i).toNat = s then get i else 0) h]
  rw [sumTo_congr (n := 40) (fun i hi => ?_)]
  have h1 := hs i hi
  have h2 := ha i hi
  show (if g i ≠ 0 then (if st i ≠ -1 ∧ (st i).toNat = s then get i else 0) else 0) = (if g i ≠ 0 ∧ ¬ st i < 0 ∧ (st i).toNat = s then am i else 0)
  rw [h2]
  by_cases q : g i ≠ 0
  · rw [if_pos q]
    by_cases q2 : st i ≠ -1 ∧ (st i).toNat = s
    · rw [if_pos q2, if_pos ⟨q, by omega, q2.2⟩]
    · rw [if_neg q2, if_neg (fun z => q2 ⟨by omega, z.2.2⟩)]
  · rw [if_neg q, if_neg (fun z => q z.1)]
theorem ho_sto {g st am hol : Nat → Int} {s : Nat} : hoZ g st am hol 40 s = hol s + sumTo (stoM g st am (s : Int)) 40 := by
  rw [hoZ_eq, sumTo_congr (n := 40) (fun i hi => ?_)]
  show (if g i ≠ 0 ∧ ¬ st i < 0 ∧ (st i).toNat = s then am i else 0) = stoM g st am (s : Int) i
  unfold stoM
  by_cases q : g i ≠ 0 ∧ st i = (s : Int)
  · rw [if_pos q, if_pos ⟨q.1, by omega, by omega⟩]
  · rw [if_neg q, if_neg (fun z => q ⟨z.1, by omega⟩)]
theorem use_tie {th be g pl pr sh rt st wn wnt shr bck ag get am : Nat → Int} {cn : Int} (h : isOrd g pr ag cn) (hr : ∀ i : Nat, i < 40 → g i ≠ 0 → rgT th be pl sh rt st wn wnt shr bck i) (ha : ∀ i : Nat, i < 40 → am i = get i) : sumTo (useS st sh ag get) cn.toNat = sumTo (useM g st shr am) 40 := by
  have e : useS st sh ag get = fun j => (fun i => if st i ≠ -1 then 0 else get i - get i * sh i / 1000) (ag j).toNat := rfl
  rw [e, sum_age (fun i => if st i ≠ -1 then 0 else get i - get i * sh i / 1000) h]
  refine sumTo_congr (fun i hi => ?_)
  show (if g i ≠ 0 then (if st i ≠ -1 then 0 else get i - get i * sh i / 1000) else 0) = useM g st shr am i
  unfold useM
  rw [ha i hi]
  by_cases q : g i ≠ 0
  · rw [if_pos q]
    rcases (hr i hi q).2.2.2 with ⟨hs, _, _, _, e1, _⟩ | ⟨hs, _⟩
    · rw [if_neg (fun z => z hs), if_pos ⟨q, by omega⟩, e1]
    · rw [if_pos (by omega), if_neg (fun z => by omega)]
  · rw [if_neg q, if_neg (fun z => q z.1)]
theorem sto_tie {g pr st ag get am : Nat → Int} {cn : Int} (h : isOrd g pr ag cn) (hs : ∀ i : Nat, i < 40 → -1 ≤ st i ∧ st i < 8) (ha : ∀ i : Nat, i < 40 → am i = get i) : sumTo (stoS st ag get) cn.toNat = sumTo (stoT g st am) 40 := by
  have e : stoS st ag get = fun j => (fun i => if st i ≠ -1 then get i else 0) (ag j).toNat := rfl
  rw [e, sum_age (fun i => if st i ≠ -1 then get i else 0) h]
  refine sumTo_congr (fun i hi => ?_)
  show (if g i ≠ 0 then (if st i ≠ -1 then get i else 0) else 0) = stoT g st am i
  unfold stoT
  have h1 := hs i hi
  rw [ha i hi]
  by_cases q : g i ≠ 0
  · rw [if_pos q]
    by_cases q2 : st i ≠ -1
    · rw [if_pos q2, if_pos ⟨q, by omega⟩]
    · rw [if_neg q2, if_neg (fun z => by omega)]
  · rw [if_neg q, if_neg (fun z => q z.1)]
theorem sum_inR {th inf : Nat → Int} (h : ∀ r : Nat, r < 32 → th r = 0 → inf r = 0) : sumTo inf 32 = sumTo (inR th inf) 32 := by
  refine sumTo_congr (fun k hk => ?_)
  unfold inR
  by_cases q : th k = 0
  · rw [if_neg (fun z => z q), h k hk q]
  · rw [if_pos q]
/-- what is sent from a down to t passes just the reaches of a's path from which t is to be reached -/
theorem sendZ_eq {d : Nat → Int} {t : Nat} {am : Int} : ∀ {n : Nat} {a : Int} {f : Nat → Int}, n ≤ 32 → pEnd d n a → t ∈ pth d n a → ∀ q : Nat, sendZ d (t : Int) am n a f q = f q + if q ∈ pth d n a ∧ t ∈ pth d 32 (q : Int) then am else 0
  | 0, _, f, _, _, ht, q => by cases ht
  | n + 1, a, f, hn, hE, ht, q => by
    by_cases ha : a < 0
    · rw [pth_neg ha] at ht; cases ht
    · have h1 := hE.resolve_left ha
      have hno : a.toNat ∉ pth d n (d a.toNat) := by
        have := pth_notail hE (by omega)
        rw [pth_fuel h1 (Nat.le_succ n)] at this
        exact this
      have hself : pth d 32 a = a.toNat :: pth d n (d a.toNat) := by rw [pth_fuel hE hn, pth_pos (by omega)]
      rw [pth_pos (by omega)] at ht ⊢
      have hin : ∀ q : Nat, q ∈ pth d n (d a.toNat) → ∀ u, u ∈ pth d 32 (q : Int) → u ∈ pth d n (d a.toNat) := fun q hq u hu => by
        obtain ⟨x1, x2⟩ := pth_mem h1 hq
        rw [pth_fuel x1 (by omega)] at hu
        exact x2 u hu
      show (if a < 0 then f else if a = (t : Int) then uZ f a.toNat (f a.toNat + am) else sendZ d (t : Int) am n (d a.toNat) (uZ f a.toNat (f a.toNat + am))) q = _
      rw [if_neg ha]
      by_cases e : a = (t : Int)
      · have et : a.toNat = t := by omega
        rw [if_pos e]
        by_cases hq : q = a.toNat
        · subst hq
          rw [uZ_s, if_pos ⟨List.mem_cons_self, by rw [Int.toNat_of_nonneg (by omega), hself, ← et]; exact List.mem_cons_self⟩]
        · rw [uZ_n _ _ hq, if_neg]
          · omega
          · rintro ⟨z1, z2⟩
            rcases List.mem_cons.mp z1 with z | z
            · exact hq z
            · exact hno (by have := hin q z t z2; rw [← et] at this; exact this)
      · have ht1 : t ∈ pth d n (d a.toNat) := (List.mem_cons.mp ht).resolve_left (by omega)
        rw [if_neg e, sendZ_eq (by omega) h1 ht1]
        by_cases hq : q = a.toNat
        · subst hq
          rw [uZ_s, if_neg (fun z => hno z.1), if_pos ⟨List.mem_cons_self, by rw [Int.toNat_of_nonneg (by omega), hself]; exact List.mem_cons_of_mem _ ht1⟩]; omega
        · rw [uZ_n _ _ hq]
          by_cases hm : q ∈ pth d n (d a.toNat) ∧ t ∈ pth d 32 (q : Int)
          · rw [if_pos hm, if_pos ⟨List.mem_cons_of_mem _ hm.1, hm.2⟩]
          · rw [if_neg hm, if_neg (fun z => hm ⟨(List.mem_cons.mp z.1).resolve_left hq, z.2⟩)]
/-- what passes r of all that is released -/
def sntM (dn sR rls : Nat → Int) (r : Nat) : Int := sumTo (fun q => sumTo (floE dn sR rls (r : Int) q) 32) 8
theorem snt_upd {dn sR rls : Nat → Int} {r q to : Nat} {v : Int} (hq : q < 8) (ht : to < 32) (hv : 0 ≤ v) (h0 : 0 ≤ rls (32 * (q : Int) + (to : Int)).toNat) : sntM dn sR (uZ rls (32 * (q : Int) + (to : Int)).toNat (rls (32 * (q : Int) + (to : Int)).toNat + v)) r = sntM dn sR rls r + if onP dn (sR q) (r : Int) = true ∧ onP dn (r : Int) (to : Int) = true then v else 0 := by
  unfold sntM
  have hin : ∀ s : Nat, s < 8 → s ≠ q → sumTo (floE dn sR (uZ rls (32 * (q : Int) + (to : Int)).toNat (rls (32 * (q : Int) + (to : Int)).toNat + v)) (r : Int) s) 32 = sumTo (floE dn sR rls (r : Int) s) 32 := fun s hs e => by
    refine sumTo_congr (fun t ht2 => ?_)
    unfold floE
    rw [uZ_n _ _ (by omega)]
  rw [sumTo_upd (f := fun s => sumTo (floE dn sR rls (r : Int) s) 32) (g := fun s => sumTo (floE dn sR (uZ rls (32 * (q : Int) + (to : Int)).toNat (rls (32 * (q : Int) + (to : Int)).toNat + v)) (r : Int) s) 32) hq (fun s hs e => hin s hs e)]
  show _ - sumTo (floE dn sR rls (r : Int) q) 32 + sumTo (floE dn sR (uZ rls _ _) (r : Int) q) 32 = _
  rw [sumTo_upd (f := floE dn sR rls (r : Int) q) (g := floE dn sR (uZ rls (32 * (q : Int) + (to : Int)).toNat (rls (32 * (q : Int) + (to : Int)).toNat + v)) (r : Int) q) ht (fun t ht2 e => by unfold floE; rw [uZ_n _ _ (by omega)])]
  have key : floE dn sR (uZ rls (32 * (q : Int) + (to : Int)).toNat (rls (32 * (q : Int) + (to : Int)).toNat + v)) (r : Int) q to = floE dn sR rls (r : Int) q to + if onP dn (sR q) (r : Int) = true ∧ onP dn (r : Int) (to : Int) = true then v else 0 := by
    unfold floE
    rw [uZ_s]
    by_cases z : onP dn (sR q) (r : Int) = true ∧ onP dn (r : Int) (to : Int) = true
    · rw [if_pos z]
      by_cases y : 0 < rls (32 * (q : Int) + (to : Int)).toNat
      · rw [if_pos ⟨by omega, z⟩, if_pos ⟨y, z⟩]
      · rw [if_neg (c := 0 < rls (32 * (q : Int) + (to : Int)).toNat ∧ _) (fun w => y w.1)]
        by_cases x : 0 < v
        · rw [if_pos ⟨by omega, z⟩]; omega
        · rw [if_neg (fun w => by have := w.1; omega)]; omega
    · rw [if_neg z, if_neg (fun w => z w.2), if_neg (fun w => z w.2)]; rfl
  omega
theorem rls_upd {rls : Nat → Int} {q to : Nat} {v : Int} (hq : q < 8) (ht : to < 32) : sumTo (uZ rls (32 * (q : Int) + (to : Int)).toNat (rls (32 * (q : Int) + (to : Int)).toNat + v)) 256 = sumTo rls 256 + v := by
  rw [sumTo_upd (f := rls) (g := uZ rls (32 * (q : Int) + (to : Int)).toNat (rls (32 * (q : Int) + (to : Int)).toNat + v)) (j := (32 * (q : Int) + (to : Int)).toNat) (n := 256) (by omega) (fun k _ e => uZ_n _ _ e), uZ_s]
  omega
theorem sumTo_one {f : Nat → Int} {k : Nat} : ∀ {n : Nat}, k < n → (∀ j : Nat, j < n → 0 ≤ f j) → f k ≤ sumTo f n
  | 0, h, _ => absurd h (Nat.not_lt_zero _)
  | n + 1, h, h0 => by
    show f k ≤ sumTo f n + f n
    have h1 := h0 n (by omega)
    by_cases e : k = n
    · have := sumTo_nonneg (f := f) (n := n) (fun j hj => h0 j (by omega))
      rw [e]; omega
    · have := sumTo_one (f := f) (k := k) (n := n) (by omega) (fun j hj => h0 j (by omega))
      omega
