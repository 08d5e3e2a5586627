/-! what holds between the calls -/
def iRv (th be inf : Nat → Int) (out : Int) : Prop := (∀ r : Nat, r < 32 → th r = 0 ∨ th r = 1) ∧ (∀ r : Nat, r < 32 → -1 ≤ be r ∧ be r < 32) ∧ (∀ r : Nat, r < 32 → 0 ≤ inf r ∧ inf r ≤ 1000000000) ∧ (∀ r : Nat, r < 32 → th r = 0 → inf r = 0) ∧ (∀ r : Nat, r < 32 → th r ≠ 0 → be r = -1 ∨ th (be r).toNat ≠ 0) ∧ (∀ r : Nat, r < 32 → th r ≠ 0 → pEnd be (sumTo th 32).toNat (r : Int)) ∧ (-1 ≤ out ∧ out < 32) ∧ (out = -1 → ∀ r : Nat, r < 32 → ¬ (th r ≠ 0 ∧ be r = -1)) ∧ (out ≠ -1 → (th out.toNat ≠ 0 ∧ be out.toNat = -1) ∧ ∀ r : Nat, r < 32 → th r ≠ 0 ∧ be r = -1 → r = out.toNat)
def iRs (th sth srch cap wat : Nat → Int) : Prop := (∀ s : Nat, s < 8 → sth s = 0 ∨ sth s = 1) ∧ (∀ s : Nat, s < 8 → sth s ≠ 0 → 0 ≤ srch s ∧ srch s < 32 ∧ th (srch s).toNat ≠ 0) ∧ (∀ s : Nat, s < 8 → (0 ≤ cap s ∧ cap s ≤ 1000000000) ∧ 0 ≤ wat s ∧ wat s ≤ cap s) ∧ (∀ s : Nat, s < 8 → sth s = 0 → wat s = 0) ∧ (∀ s : Nat, 0 ≤ srch s ∧ srch s < 32) ∧ ∀ s : Nat, 8 ≤ s → wat s = 0
def iRg (th be g pl pr ra wn sh rt st ag : Nat → Int) (cn : Int) (wnt shr bck : Nat → Int) : Prop := (∀ i : Nat, i < 40 → g i = 0 ∨ g i = 1) ∧ isOrd g pr ag cn ∧ cn = sumTo g 40 ∧ (∀ i : Nat, i < 40 → g i ≠ 0 → 1 ≤ pr i) ∧ (∀ i : Nat, i < 40 → inI (pr i)) ∧ (∀ i : Nat, i < 40 → -1 ≤ st i ∧ st i < 8) ∧ (∀ i : Nat, i < 40 → 0 ≤ ra i ∧ ra i ≤ 1000000000) ∧ (∀ i : Nat, i < 40 → 0 ≤ wn i ∧ wn i ≤ 1000000000) ∧ (∀ i : Nat, i < 40 → 0 ≤ wnt i ∧ wnt i ≤ 1000000000) ∧ ∀ i : Nat, i < 40 → g i ≠ 0 → rgT th be pl sh rt st wn wnt shr bck i
def iRl (th be sth srch snt : Nat → Int) (rel : Int) (rls : Nat → Int) (n : Int) : Prop := (∀ q : Nat, q < 256 → 0 ≤ rls q) ∧ (∀ s t : Nat, s < 8 → t < 32 → 0 < rls (32 * (s : Int) + (t : Int)).toNat → sth s ≠ 0) ∧ (∀ r : Nat, r < 32 → snt r = sntM be srch rls r) ∧ rel = sumTo rls 256 ∧ rel ≤ 1000000000 * n
theorem iRv.E {th be inf : Nat → Int} {out : Int} (h : iRv th be inf out) : ∀ k : Nat, k < 32 → th k ≠ 0 → pEnd be 32 (k : Int) := fun k hk ht => by
  obtain ⟨h1, h2, h3, h4, h5, h6, _⟩ := h
  refine pEnd_mono ?_ (h6 k hk ht)
  have := sumTo_le (f := th) (b := 1) (n := 32) (fun k hk => by have := h1 k hk; omega)
  omega
theorem iRv.ends {th be inf : Nat → Int} {out a : Int} (h : iRv th be inf out) (h0 : 0 ≤ a) (h1 : a < 32) (ht : th a.toNat ≠ 0) : pEnd be 32 a := by
  have := h.E a.toNat (by omega) ht
  rw [Int.toNat_of_nonneg h0] at this
  exact this
theorem iRv.out {th be inf : Nat → Int} {out : Int} (h : iRv th be inf out) : outM th be 32 = true ↔ out ≠ -1 := by
  obtain ⟨h1, h2, h3, h4, h5, h6, h7, h8, h9⟩ := h
  rw [outM_iff]
  constructor
  · rintro ⟨k, hk, q⟩ e
    exact h8 e k hk q
  · intro q
    exact ⟨out.toNat, by omega, (h9 q).1⟩
theorem iRv.outv {th be inf : Nat → Int} {out : Int} {nat : Int → Int} (h : iRv th be inf out) : outV th be nat 32 = if out = -1 then 0 else nat out := by
  obtain ⟨h1, h2, h3, h4, h5, h6, h7, h8, h9⟩ := h
  by_cases e : out = -1
  · rw [if_pos e]; exact outV_none (h8 e)
  · rw [if_neg e, outV_one (h9 e).1 (by omega) (h9 e).2, Int.toNat_of_nonneg (by omega)]
theorem iRv.inf0 {th be inf : Nat → Int} {out : Int} {r : Nat} (h : iRv th be inf out) (hr : r < 32) (ht : th r = 0) : uZ inf r 0 = inf := by
  have := uZ_id inf r
  rw [h.2.2.2.1 r hr ht] at this
  exact this
theorem iRv.reach {th be inf : Nat → Int} {out r d : Int} (h : iRv th be inf out) (hr : 0 ≤ r ∧ r < 32) (hd : -1 ≤ d ∧ d < 32) (h0 : th r.toNat = 0) (hdn : d ≠ -1 → th d.toNat = 1) (hdo : d = -1 → out = -1) : iRv (uZ th r.toNat 1) (uZ be r.toNat d) inf (if d = -1 then r else out) := by
  obtain ⟨h1, h2, h3, h4, h5, h6, h7, h8, h9⟩ := h
  have hsum : sumTo (uZ th r.toNat 1) 32 = sumTo th 32 + 1 := by
    rw [sumTo_upd (f := th) (g := uZ th r.toNat 1) (j := r.toNat) (n := 32) (by omega) (fun k _ e => uZ_n _ _ e), uZ_s, h0]; omega
  have hnn : 0 ≤ sumTo th 32 := sumTo_nonneg (fun k hk => by have := h1 k hk; omega)
  have hdne : ∀ z : Int, 0 ≤ z → z < 32 → th z.toNat ≠ 0 → z.toNat ≠ r.toNat := fun z _ _ hz e => hz (by rw [e]; exact h0)
  refine ⟨fun k hk => ?_, fun k hk => ?_, h3, fun k hk hk2 => ?_, fun k hk hk2 => ?_, fun k hk hk2 => ?_, ?_, fun e => ?_, fun e => ?_⟩
  · by_cases e : k = r.toNat
    · rw [e, uZ_s]; exact Or.inr rfl
    · rw [uZ_n _ _ e]; exact h1 k hk
  · by_cases e : k = r.toNat
    · rw [e, uZ_s]; exact hd
    · rw [uZ_n _ _ e]; exact h2 k hk
  · by_cases e : k = r.toNat
    · rw [e, uZ_s] at hk2; omega
    · rw [uZ_n _ _ e] at hk2; exact h4 k hk hk2
  · by_cases e : k = r.toNat
    · rw [e, uZ_s]
      by_cases q : d = -1
      · exact Or.inl q
      · have hd1 := hdn q
        exact Or.inr (by rw [uZ_n _ _ (hdne d (by omega) hd.2 (by omega))]; omega)
    · rw [uZ_n _ _ e] at hk2 ⊢
      have hb := h2 k hk
      rcases h5 k hk hk2 with q | q
      · exact Or.inl q
      · by_cases q2 : be k = -1
        · exact Or.inl q2
        · exact Or.inr (by rw [uZ_n _ _ (hdne (be k) (by omega) hb.2 q)]; exact q)
  · rw [hsum, show (sumTo th 32 + 1).toNat = (sumTo th 32).toNat + 1 by omega]
    by_cases e : k = r.toNat
    · refine Or.inr ?_
      rw [Int.toNat_natCast, e, uZ_s]
      by_cases q : d = -1
      · exact pEnd_mono (Nat.zero_le _) (show d < 0 by omega)
      · have hd1 := hdn q
        have := h6 d.toNat (by omega) (by omega)
        rw [Int.toNat_of_nonneg (by omega)] at this
        exact pEnd_new h2 h5 h0 hd.2 (Or.inr (by omega)) this
    · rw [uZ_n _ _ e] at hk2
      exact pEnd_mono (Nat.le_succ _) (pEnd_new h2 h5 h0 (by omega) (Or.inr (by rw [Int.toNat_natCast]; exact hk2)) (h6 k hk hk2))
  · split <;> omega
  · by_cases q : d = -1
    · rw [if_pos q] at e; omega
    · rw [if_neg q] at e
      intro k hk ⟨a, b⟩
      by_cases e2 : k = r.toNat
      · rw [e2, uZ_s] at b; exact q b
      · rw [uZ_n _ _ e2] at a b
        exact h8 e k hk ⟨a, b⟩
  · by_cases q : d = -1
    · rw [if_pos q]
      refine ⟨⟨by rw [uZ_s]; decide, by rw [uZ_s]; exact q⟩, fun k hk ⟨a, b⟩ => ?_⟩
      by_cases e2 : k = r.toNat
      · exact e2
      · rw [uZ_n _ _ e2] at a b
        exact absurd ⟨a, b⟩ (h8 (hdo q) k hk)
    · rw [if_neg q] at e ⊢
      obtain ⟨⟨a1, a2⟩, a3⟩ := h9 e
      have hn := hdne out (by omega) h7.2 a1
      refine ⟨⟨by rw [uZ_n _ _ hn]; exact a1, by rw [uZ_n _ _ hn]; exact a2⟩, fun k hk ⟨a, b⟩ => ?_⟩
      by_cases e2 : k = r.toNat
      · rw [e2, uZ_s] at b; exact absurd b q
      · rw [uZ_n _ _ e2] at a b
        exact a3 k hk ⟨a, b⟩
theorem iRv.inflow {th be inf : Nat → Int} {out r a : Int} (h : iRv th be inf out) (hr : 0 ≤ r ∧ r < 32) (h0 : th r.toNat ≠ 0) (ha : 0 ≤ a ∧ a ≤ 1000000000) : iRv th be (uZ inf r.toNat a) out := by
  obtain ⟨h1, h2, h3, h4, h5, h6, h7⟩ := h
  refine ⟨h1, h2, fun k hk => ?_, fun k hk hk2 => ?_, h5, h6, h7⟩
  · by_cases e : k = r.toNat
    · rw [e, uZ_s]; exact ha
    · rw [uZ_n _ _ e]; exact h3 k hk
  · by_cases e : k = r.toNat
    · rw [e] at hk2; exact absurd hk2 h0
    · rw [uZ_n _ _ e]; exact h4 k hk hk2
theorem iRv.close {th be inf : Nat → Int} {out : Int} (h : iRv th be inf out) : iRv th be (filZ inf 0 32) out := by
  obtain ⟨h1, h2, h3, h4, h5, h6, h7⟩ := h
  exact ⟨h1, h2, fun k hk => by rw [filZ_lt hk]; omega, fun k hk _ => filZ_lt hk, h5, h6, h7⟩
theorem fil_cp (f : Nat → Int) (n : Nat) : filZ f 0 n = cpZ (fun _ => 0) f n := rfl
theorem iRs.reach {th sth srch cap wat : Nat → Int} {r : Nat} (h : iRs th sth srch cap wat) : iRs (uZ th r 1) sth srch cap wat := by
  obtain ⟨h1, h2, h3, h4⟩ := h
  refine ⟨h1, fun s hs q => ?_, h3, h4⟩
  obtain ⟨a, b, c⟩ := h2 s hs q
  refine ⟨a, b, ?_⟩
  by_cases e : (srch s).toNat = r
  · rw [e, uZ_s]; decide
  · rw [uZ_n _ _ e]; exact c
theorem iRs.add {th sth srch cap wat : Nat → Int} {q r c : Int} (h : iRs th sth srch cap wat) (hq : 0 ≤ q ∧ q < 8) (hr : 0 ≤ r ∧ r < 32) (ht : th r.toNat = 1) (hc : 0 ≤ c ∧ c ≤ 1000000000) (h0 : sth q.toNat = 0) : iRs th (uZ sth q.toNat 1) (uZ srch q.toNat r) (uZ cap q.toNat c) wat ∧ uZ wat q.toNat 0 = wat := by
  obtain ⟨h1, h2, h3, h4, h5, h6⟩ := h
  have hw := h4 q.toNat (by omega) h0
  refine ⟨⟨fun s hs => ?_, fun s hs z => ?_, fun s hs => ?_, fun s hs z => ?_, fun s => ?_, h6⟩, ?_⟩
  · by_cases e : s = q.toNat
    · rw [e, uZ_s]; exact Or.inr rfl
    · rw [uZ_n _ _ e]; exact h1 s hs
  · by_cases e : s = q.toNat
    · rw [e, uZ_s]; exact ⟨hr.1, hr.2, by omega⟩
    · rw [uZ_n _ _ e] at z ⊢; exact h2 s hs z
  · by_cases e : s = q.toNat
    · rw [e, uZ_s, hw]; omega
    · rw [uZ_n _ _ e]; exact h3 s hs
  · by_cases e : s = q.toNat
    · rw [e, uZ_s] at z; omega
    · rw [uZ_n _ _ e] at z; exact h4 s hs z
  · by_cases e : s = q.toNat
    · rw [e, uZ_s]; exact hr
    · rw [uZ_n _ _ e]; exact h5 s
  · have := uZ_id wat q.toNat
    rw [hw] at this
    exact this
theorem iRs.rel {th sth srch cap wat : Nat → Int} {q a : Int} (h : iRs th sth srch cap wat) (hq : 0 ≤ q ∧ q < 8) (ht : sth q.toNat ≠ 0) (ha : 0 ≤ a ∧ a ≤ wat q.toNat) : iRs th sth srch cap (uZ wat q.toNat (wat q.toNat - a)) := by
  obtain ⟨h1, h2, h3, h4, h5, h6⟩ := h
  refine ⟨h1, h2, fun s hs => ?_, fun s hs z => ?_, h5, fun s hs => by rw [uZ_n _ _ (by omega)]; exact h6 s hs⟩
  · have := h3 s hs
    by_cases e : s = q.toNat
    · subst e; rw [uZ_s]; omega
    · rw [uZ_n _ _ e]; exact this
  · by_cases e : s = q.toNat
    · rw [e] at z; exact absurd z ht
    · rw [uZ_n _ _ e]; exact h4 s hs z
theorem iRg.S {th be inf g pl pr ra wn sh rt st ag wnt shr bck : Nat → Int} {cn out : Int} (hv : iRv th be inf out) (h : iRg th be g pl pr ra wn sh rt st ag cn wnt shr bck) : rgS th be g pl pr sh rt st wn wnt shr bck ag cn := ⟨hv.2.1, hv.E, h.2.1, h.2.2.2.2.2.2.2.2.2⟩
theorem rgT.reach {th be inf pl sh rt st wn wnt shr bck : Nat → Int} {out d : Int} {r i : Nat} (hv : iRv th be inf out) (h0 : th r = 0) (h : rgT th be pl sh rt st wn wnt shr bck i) : rgT (uZ th r 1) (uZ be r d) pl sh rt st wn wnt shr bck i := by
  obtain ⟨⟨a, b, c⟩, h2, h3, h4⟩ := h
  have hup : ∀ k : Nat, th k ≠ 0 → uZ th r 1 k ≠ 0 := fun k hk => by
    by_cases e : k = r
    · rw [e, uZ_s]; decide
    · rw [uZ_n _ _ e]; exact hk
  refine ⟨⟨a, b, hup _ c⟩, h2, h3, ?_⟩
  rcases h4 with ⟨q1, ⟨q2, q3, q4⟩, q5, q6⟩ | q
  · refine Or.inl ⟨q1, ⟨q2, q3, hup _ q4⟩, ?_, q6⟩
    rw [pth_new hv.2.1 hv.2.2.2.2.1 h0 b (Or.inr c)]
    exact q5
  · exact Or.inr q
theorem iRg.reach {th be inf g pl pr ra wn sh rt st ag wnt shr bck : Nat → Int} {cn out d : Int} {r : Nat} (hv : iRv th be inf out) (h0 : th r = 0) (h : iRg th be g pl pr ra wn sh rt st ag cn wnt shr bck) : iRg (uZ th r 1) (uZ be r d) g pl pr ra wn sh rt st ag cn wnt shr bck := by
  obtain ⟨h1, h2, h3, h4, h5, h6, h7, h8, h9, h10⟩ := h
  exact ⟨h1, h2, h3, h4, h5, h6, h7, h8, h9, fun i hi hg => (h10 i hi hg).reach hv h0⟩
theorem rgT.other {th be pl sh rt st wn wnt shr bck : Nat → Int} {i j : Nat} {a b c d e f u v : Int} (hne : j ≠ i) (h : rgT th be pl sh rt st wn wnt shr bck j) : rgT th be (uZ pl i a) (uZ sh i b) (uZ rt i c) (uZ st i d) (uZ wn i e) (uZ wnt i f) (uZ shr i u) (uZ bck i v) j := by
  unfold rgT
  rw [uZ_n _ _ hne, uZ_n _ _ hne, uZ_n _ _ hne, uZ_n _ _ hne, uZ_n _ _ hne, uZ_n _ _ hne, uZ_n _ _ hne, uZ_n _ _ hne]
  exact h
theorem uZ_all {f : Nat → Int} {P : Int → Prop} {n i : Nat} {a : Int} (h : ∀ j : Nat, j < n → P (f j)) (ha : P a) : ∀ j : Nat, j < n → P (uZ f i a j) := fun j hj => by
  by_cases e : j = i
  · rw [e, uZ_s]; exact ha
  · rw [uZ_n _ _ e]; exact h j hj
theorem iRg.cn39 {th be g pl pr ra wn sh rt st ag wnt shr bck : Nat → Int} {cn : Int} {i : Nat} (h : iRg th be g pl pr ra wn sh rt st ag cn wnt shr bck) (hi : i < 40) (hg : g i = 0) : 0 ≤ cn ∧ cn ≤ 39 := by
  obtain ⟨h1, h2, h3, _⟩ := h
  have h4 := h2.1
  have e := sumTo_upd (f := g) (g := uZ g i 1) (j := i) (n := 40) hi (fun k _ e => uZ_n _ _ e)
  have := sumTo_le (f := uZ g i 1) (b := 1) (n := 40) (uZ_all (P := fun z => z ≤ 1) (fun j hj => by have := h1 j hj; omega) (Int.le_refl 1))
  rw [uZ_s, hg] at e
  omega
/-- a right more: its fields set, of the desk and of the reference -/
theorem iRg.add {th be g pl pr ra wn sh rt st ag wnt shr bck : Nat → Int} {cn i r p m s2 t2 q s3 t3 : Int} (h : iRg th be g pl pr ra wn sh rt st ag cn wnt shr bck) (hi : 0 ≤ i ∧ i < 40) (hg : g i.toNat = 0) (hp : 1 ≤ p ∧ p ≤ 1000000) (hm : 0 ≤ m ∧ m ≤ 1000000000) (hq : -1 ≤ q ∧ q < 8) (hhas : hasP pr ag p cn.toNat = false) (hT : rgT th be (uZ pl i.toNat r) (uZ sh i.toNat s2) (uZ rt i.toNat t2) (uZ st i.toNat q) (uZ wn i.toNat m) (uZ wnt i.toNat m) (uZ shr i.toNat s3) (uZ bck i.toNat t3) i.toNat) : iRg th be (uZ g i.toNat 1) (uZ pl i.toNat r) (uZ pr i.toNat p) (uZ ra i.toNat m) (uZ wn i.toNat m) (uZ sh i.toNat s2) (uZ rt i.toNat t2) (uZ st i.toNat q) (insA (uZ pr i.toNat p) p i cn.toNat ag) (cn + 1) (uZ wnt i.toNat m) (uZ shr i.toNat s3) (uZ bck i.toNat t3) := by
  have hc := h.cn39 (show i.toNat < 40 by omega) hg
  obtain ⟨h1, h2, h3, h4, h5, h6, h7, h8, h9, h10⟩ := h
  have hno : ∀ j : Nat, (j : Int) < cn → pr (ag j).toNat ≠ p := fun j hj e => by
    have := hasP_iff.mpr ⟨j, show j < cn.toNat by omega, e⟩
    rw [hhas] at this; cases this
  refine ⟨uZ_all (P := fun z => z = 0 ∨ z = 1) h1 (Or.inr rfl), ord_ins h2 hc.2 hi hg hno, ?_, fun j hj hgj => ?_, uZ_all (P := inI) h5 (by omega), uZ_all (P := fun z => -1 ≤ z ∧ z < 8) h6 hq, uZ_all (P := fun z => 0 ≤ z ∧ z ≤ 1000000000) h7 hm, uZ_all (P := fun z => 0 ≤ z ∧ z ≤ 1000000000) h8 hm, uZ_all (P := fun z => 0 ≤ z ∧ z ≤ 1000000000) h9 hm, fun j hj hgj => ?_⟩
  · rw [sumTo_upd (f := g) (g := uZ g i.toNat 1) (j := i.toNat) (n := 40) (by omega) (fun k _ e => uZ_n _ _ e), uZ_s, hg]; omega
  · by_cases e : j = i.toNat
    · rw [e, uZ_s]; exact hp.1
    · rw [uZ_n _ _ e] at hgj ⊢; exact h4 j hj hgj
  · by_cases e : j = i.toNat
    · rw [e]; exact hT
    · rw [uZ_n _ _ e] at hgj
      exact (h10 j hj hgj).other e
theorem iRg.drop {th be g pl pr ra wn sh rt st ag wnt shr bck : Nat → Int} {cn r : Int} (h : iRg th be g pl pr ra wn sh rt st ag cn wnt shr bck) (hr : 0 ≤ r ∧ r < 40) (hg : g r.toNat = 1) : iRg th be (uZ g r.toNat 0) pl pr ra wn sh rt st (remL r cn.toNat 0 0 ag).2 ((remL r cn.toNat 0 0 ag).1 : Int) wnt shr bck := by
  obtain ⟨h1, h2, h3, h4, h5, h6, h7, h8, h9, h10⟩ := h
  obtain ⟨e1, e2⟩ := ord_rem h2 hr (by omega)
  rw [e1]
  have hsub : ∀ j : Nat, uZ g r.toNat 0 j ≠ 0 → g j ≠ 0 := fun j hj => by
    by_cases e : j = r.toNat
    · rw [e]; omega
    · rw [uZ_n _ _ e] at hj; exact hj
  refine ⟨uZ_all (P := fun z => z = 0 ∨ z = 1) h1 (Or.inl rfl), e2, ?_, fun j hj hgj => h4 j hj (hsub j hgj), h5, h6, h7, h8, h9, fun j hj hgj => h10 j hj (hsub j hgj)⟩
  rw [sumTo_upd (f := g) (g := uZ g r.toNat 0) (j := r.toNat) (n := 40) (by omega) (fun k _ e => uZ_n _ _ e), uZ_s, hg]; omega
theorem iRg.want {th be g pl pr ra wn sh rt st ag wnt shr bck : Nat → Int} {cn r a : Int} (h : iRg th be g pl pr ra wn sh rt st ag cn wnt shr bck) (hr : 0 ≤ r ∧ r < 40) (ha : 0 ≤ a ∧ a ≤ 1000000000) : iRg th be g pl pr ra (uZ wn r.toNat a) sh rt st ag cn (uZ wnt r.toNat a) shr bck := by
  obtain ⟨h1, h2, h3, h4, h5, h6, h7, h8, h9, h10⟩ := h
  refine ⟨h1, h2, h3, h4, h5, h6, h7, uZ_all (P := fun z => 0 ≤ z ∧ z ≤ 1000000000) h8 ha, uZ_all (P := fun z => 0 ≤ z ∧ z ≤ 1000000000) h9 ha, fun j hj hgj => ?_⟩
  obtain ⟨q1, q2, q3, q4⟩ := h10 j hj hgj
  refine ⟨q1, ?_, uZ_all (P := fun z => 0 ≤ z ∧ z ≤ 1000000000) h8 ha j hj, q4⟩
  by_cases e : j = r.toNat
  · rw [e, uZ_s, uZ_s]
  · rw [uZ_n _ _ e, uZ_n _ _ e]; exact q2
theorem wnZ_eq {g ra wnt : Nat → Int} {i : Nat} : ∀ {k : Nat}, wnZ g ra wnt k i = if i < k ∧ g i ≠ 0 then ra i else wnt i
  | 0 => by rw [if_neg (by omega)]; rfl
  | k + 1 => by
    have ih := wnZ_eq (g := g) (ra := ra) (wnt := wnt) (i := i) (k := k)
    show (if g k ≠ 0 then uZ (wnZ g ra wnt k) k (ra k) else wnZ g ra wnt k) i = _
    by_cases q : g k ≠ 0
    · rw [if_pos q]
      by_cases e : i = k
      · subst e; rw [uZ_s, if_pos ⟨by omega, q⟩]
      · rw [uZ_n _ _ e, ih]
        by_cases z : i < k ∧ g i ≠ 0
        · rw [if_pos z, if_pos ⟨by omega, z.2⟩]
        · rw [if_neg z, if_neg (fun y => z ⟨by omega, y.2⟩)]
    · rw [if_neg q, ih]
      by_cases z : i < k ∧ g i ≠ 0
      · rw [if_pos z, if_pos ⟨by omega, z.2⟩]
      · rw [if_neg z, if_neg (fun y => z ⟨by
          by_cases e : i = k
          · rw [e] at y; exact absurd y.2 q
          · omega, y.2⟩)]
theorem iRg.close {th be g pl pr ra wn sh rt st ag wnt shr bck : Nat → Int} {cn : Int} (h : iRg th be g pl pr ra wn sh rt st ag cn wnt shr bck) : iRg th be g pl pr ra (cpZ ra wn 40) sh rt st ag cn (wnZ g ra wnt 40) shr bck := by
  obtain ⟨h1, h2, h3, h4, h5, h6, h7, h8, h9, h10⟩ := h
  have hc : ∀ i : Nat, i < 40 → cpZ ra wn 40 i = ra i := fun i hi => cpZ_lt _ _ hi
  refine ⟨h1, h2, h3, h4, h5, h6, h7, fun i hi => by rw [hc i hi]; exact h7 i hi, fun i hi => ?_, fun i hi hg => ?_⟩
  · rw [wnZ_eq]
    split
    · exact h7 i hi
    · exact h9 i hi
  · obtain ⟨q1, q2, q3, q4⟩ := h10 i hi hg
    refine ⟨q1, ?_, by rw [hc i hi]; exact h7 i hi, q4⟩
    rw [hc i hi, wnZ_eq, if_pos ⟨hi, hg⟩]
