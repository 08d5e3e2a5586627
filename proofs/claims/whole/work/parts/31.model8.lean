def bk5 (f : Nat → Int) (q a b c d e : Int) : Nat → Int := uZ (uZ (uZ (uZ (uZ f q.toNat a) (q + 1).toNat b) (q + 2).toNat c) (q + 3).toNat d) (q + 4).toNat e
theorem uZ_comm (f : Nat → Int) {i j : Nat} (x z : Int) (h : i ≠ j) : uZ (uZ f i x) j z = uZ (uZ f j z) i x := by
  funext k; unfold uZ
  by_cases h1 : k = j
  · rw [if_pos h1, if_neg (by omega), if_pos h1]
  · rw [if_neg h1]
    by_cases h2 : k = i
    · rw [if_pos h2, if_pos h2]
    · rw [if_neg h2, if_neg h2, if_neg h1]
theorem bk5_r0 (f : Nat → Int) {q : Int} (hq : 0 ≤ q) (a b c d e : Int) : bk5 f q a b c d e q.toNat = a := by
  unfold bk5; rw [uZ_n _ _ (by omega), uZ_n _ _ (by omega), uZ_n _ _ (by omega), uZ_n _ _ (by omega), uZ_s]
theorem bk5_r2 (f : Nat → Int) {q : Int} (hq : 0 ≤ q) (a b c d e : Int) : bk5 f q a b c d e (q + 2).toNat = c := by
  unfold bk5; rw [uZ_n _ _ (by omega), uZ_n _ _ (by omega), uZ_s]
theorem bk5_r3 (f : Nat → Int) {q : Int} (hq : 0 ≤ q) (a b c d e : Int) : bk5 f q a b c d e (q + 3).toNat = d := by
  unfold bk5; rw [uZ_n _ _ (by omega), uZ_s]
theorem bk5_r4 (f : Nat → Int) {q : Int} (hq : 0 ≤ q) (a b c d e : Int) : bk5 f q a b c d e (q + 4).toNat = e := by
  unfold bk5; rw [uZ_s]
theorem bk5_u0 (f : Nat → Int) {q : Int} (hq : 0 ≤ q) (a b c d e : Int) (x : Int) : uZ (bk5 f q a b c d e) q.toNat x = bk5 f q x b c d e := by
  unfold bk5
  rw [uZ_comm _ e x (by omega), uZ_comm _ d x (by omega), uZ_comm _ c x (by omega), uZ_comm _ b x (by omega), uZ_uZ]
theorem bk5_u1 (f : Nat → Int) {q : Int} (hq : 0 ≤ q) (a b c d e : Int) (x : Int) : uZ (bk5 f q a b c d e) (q + 1).toNat x = bk5 f q a x c d e := by
  unfold bk5
  rw [uZ_comm _ e x (by omega), uZ_comm _ d x (by omega), uZ_comm _ c x (by omega), uZ_uZ]
theorem bk5_u2 (f : Nat → Int) {q : Int} (hq : 0 ≤ q) (a b c d e : Int) (x : Int) : uZ (bk5 f q a b c d e) (q + 2).toNat x = bk5 f q a b x d e := by
  unfold bk5
  rw [uZ_comm _ e x (by omega), uZ_comm _ d x (by omega), uZ_uZ]
theorem bk5_u3 (f : Nat → Int) {q : Int} (hq : 0 ≤ q) (a b c d e : Int) (x : Int) : uZ (bk5 f q a b c d e) (q + 3).toNat x = bk5 f q a b c x e := by
  unfold bk5
  rw [uZ_comm _ e x (by omega), uZ_uZ]
theorem bk5_u4 (f : Nat → Int) {q : Int} (hq : 0 ≤ q) (a b c d e : Int) (x : Int) : uZ (bk5 f q a b c d e) (q + 4).toNat x = bk5 f q a b c d x := by
  unfold bk5
  rw [uZ_uZ]
def zB (f : Nat → Int) (q : Int) : Nat → Nat → Int
  | 0 => f
  | k + 1 => uZ (zB f q k) (q + (k : Int)).toNat 0
theorem zB_s (f : Nat → Int) (q : Int) {k : Int} (hk : 0 ≤ k) : uZ (zB f q k.toNat) (q + k).toNat 0 = zB f q (k + 1).toNat := by
  rw [show (k + 1).toNat = k.toNat + 1 by omega]
  show _ = uZ (zB f q k.toNat) (q + (k.toNat : Int)).toNat 0
  rw [Int.toNat_of_nonneg hk]
theorem zB_5 (f : Nat → Int) (q : Int) : zB f q 5 = bk5 f q 0 0 0 0 0 := by
  unfold bk5
  show uZ (uZ (uZ (uZ (uZ f (q + ((0 : Nat) : Int)).toNat 0) (q + ((1 : Nat) : Int)).toNat 0) (q + ((2 : Nat) : Int)).toNat 0) (q + ((3 : Nat) : Int)).toNat 0) (q + ((4 : Nat) : Int)).toNat 0 = _
  rw [show q + ((0 : Nat) : Int) = q by omega]
  rfl
theorem cpZ_ge (f g : Nat → Int) {n k : Nat} (h : n ≤ k) : cpZ f g n k = g k := by unfold cpZ; rw [if_neg (by omega)]
def inR (isR inf : Nat → Int) (j : Nat) : Int := if isR j ≠ 0 then inf j else 0
def outV (isR dn : Nat → Int) (nat : Int → Int) : Nat → Int
  | 0 => 0
  | k + 1 => if isR k ≠ 0 ∧ dn k = -1 then nat (k : Int) else outV isR dn nat k
theorem outV_s {isR dn : Nat → Int} {nat : Int → Int} {k : Int} (hk : 0 ≤ k) : outV isR dn nat (k + 1).toNat = if isR k.toNat ≠ 0 ∧ dn k.toNat = -1 then nat k else outV isR dn nat k.toNat := by
  rw [show (k + 1).toNat = k.toNat + 1 by omega]
  show (if isR k.toNat ≠ 0 ∧ dn k.toNat = -1 then nat (k.toNat : Int) else outV isR dn nat k.toNat) = _
  rw [Int.toNat_of_nonneg hk]
def useM (isG sto shr amt : Nat → Int) (i : Nat) : Int := if isG i ≠ 0 ∧ sto i < 0 then amt i - amt i * shr i / 1000 else 0
def stoT (isG sto amt : Nat → Int) (i : Nat) : Int := if isG i ≠ 0 ∧ ¬ sto i < 0 then amt i else 0
def hoZ (isG sto amt hol : Nat → Int) : Nat → Nat → Int
  | 0 => hol
  | k + 1 => if isG k ≠ 0 ∧ ¬ sto k < 0 then uZ (hoZ isG sto amt hol k) (sto k).toNat (hoZ isG sto amt hol k (sto k).toNat + amt k) else hoZ isG sto amt hol k
def wnZ (isG rte wnt : Nat → Int) : Nat → Nat → Int
  | 0 => wnt
  | k + 1 => if isG k ≠ 0 then uZ (wnZ isG rte wnt k) k (rte k) else wnZ isG rte wnt k
theorem hoZ_0 {isG sto amt : Nat → Int} (hol : Nat → Int) {k : Int} (hk : 0 ≤ k) (h : isG k.toNat = 0 ∨ sto k.toNat < 0) : hoZ isG sto amt hol k.toNat = hoZ isG sto amt hol (k + 1).toNat := by
  rw [show (k + 1).toNat = k.toNat + 1 by omega]
  exact (if_neg (by omega)).symm
theorem hoZ_1 {isG sto amt : Nat → Int} (hol : Nat → Int) {k : Int} (hk : 0 ≤ k) (h : isG k.toNat ≠ 0) (h2 : ¬ sto k.toNat < 0) : uZ (hoZ isG sto amt hol k.toNat) (sto k.toNat).toNat (hoZ isG sto amt hol k.toNat (sto k.toNat).toNat + amt k.toNat) = hoZ isG sto amt hol (k + 1).toNat := by
  rw [show (k + 1).toNat = k.toNat + 1 by omega]
  exact (if_pos ⟨h, h2⟩).symm
theorem wnZ_0 {isG : Nat → Int} (rte wnt : Nat → Int) {k : Int} (hk : 0 ≤ k) (h : isG k.toNat = 0) : wnZ isG rte wnt k.toNat = wnZ isG rte wnt (k + 1).toNat := by
  rw [show (k + 1).toNat = k.toNat + 1 by omega]
  exact (if_neg (by omega)).symm
theorem wnZ_1 {isG : Nat → Int} (rte wnt : Nat → Int) {k : Int} (hk : 0 ≤ k) (h : isG k.toNat ≠ 0) : uZ (wnZ isG rte wnt k.toNat) k.toNat (rte k.toNat) = wnZ isG rte wnt (k + 1).toNat := by
  rw [show (k + 1).toNat = k.toNat + 1 by omega]
  exact (if_pos h).symm
abbrev rX6_close : Room := { frames := 4, cells := 0, slots := 0, locals := 99 }
set_option maxHeartbeats 4000000 in
set_option maxRecDepth 100000 in
/-- close -/
theorem kX6_close (l : Launch) (E : rE) (x0 : Nat) (x1 : Nat) (x2 : Nat) (x3 : Nat) (x4 : Nat) (x5 : Nat) (x6 : Nat) (x7 : Nat) (x8 : Nat) (x9 : Nat) (x10 : Nat) (x11 : Nat) (x12 : Nat) (x13 : Nat) (x14 : Nat) (x15 : Nat) (x16 : Nat) (x18 : Nat) (x19 : Nat) (x20 : Nat) (x21 : Nat) (isR : Nat → Int) (dn : Nat → Int) (inf : Nat → Int) (isS : Nat → Int) (sR : Nat → Int) (cap : Nat → Int) (hol : Nat → Int) (rls : Nat → Int) (isG : Nat → Int) (plc : Nat → Int) (pri : Nat → Int) (rte : Nat → Int) (shr : Nat → Int) (bck : Nat → Int) (sto : Nat → Int) (wnt : Nat → Int) (bks : Nat → Int) (amt : Nat → Int) (fst : Nat → Int) (ord : Nat → Int) (thr : Int) (dy : Int) (rgs : Int) (ag : Nat → Int) (cn : Int) (am : Nat → Nat → Int) (pg : Int) (b0 : Int) (b1 : Int) (b2 : Int) (b3 : Int) (b4 : Int) (hdn : ∀ r : Nat, r < 32 → -1 ≤ dn r ∧ dn r < 32) (hpe : ∀ k : Nat, k < 32 → isR k ≠ 0 → pEnd dn 32 (k : Int)) (hir : ∀ r : Nat, r < 32 → isR r = 0 ∨ isR r = 1) (hig : ∀ r : Nat, r < 40 → isG r = 0 ∨ isG r = 1) (hinf : ∀ r : Nat, r < 32 → 0 ≤ inf r ∧ inf r ≤ 1000000000) (hrg : ∀ i : Nat, i < 40 → isG i ≠ 0 → (0 ≤ plc i ∧ plc i < 32 ∧ pEnd dn 32 (plc i)) ∧ (sto i < 0 → 0 ≤ bck i ∧ bck i < 32 ∧ pEnd dn 32 (bck i) ∧ 0 ≤ shr i ∧ shr i ≤ 1000)) (hsto : ∀ i : Nat, i < 40 → -1 ≤ sto i ∧ sto i < 8) (hcap : ∀ s : Nat, s < 8 → (0 ≤ cap s ∧ cap s ≤ 1000000000) ∧ 0 ≤ hol s ∧ hol s ≤ cap s) (hord : isOrd isG pri ag cn) (hp1 : ∀ i : Nat, i < 40 → isG i ≠ 0 → 1 ≤ pri i) (hpri : ∀ i : Nat, i < 40 → inI (pri i)) (hwn : ∀ i : Nat, i < 40 → 0 ≤ wnt i ∧ wnt i ≤ 1000000000) (ha0 : am 0 = cpZ (fun _ => 0) amt 40) (hmk : ∀ c : Int, 0 ≤ c → c < cn → mkS (hldM isR dn inf isG plc bck sto shr cap hol) wnt ag (-1) (-1) am c) (hamc : ∀ c : Int, 0 ≤ c → c ≤ cn → ∀ i : Nat, i < 40 → 0 ≤ am c.toNat i ∧ am c.toNat i ≤ 1000000000) (hdy : 0 ≤ dy ∧ dy ≤ 1000) (hpg : pg = 5 * (dy % 60)) (hb0 : b0 = sumTo (inR isR inf) 32) (hb1 : b1 = outV isR dn (natM isR dn inf isG plc bck sto shr (am cn.toNat)) 32) (hb4 : b4 = sumTo rls 256) (hb2 : b2 = b4 + sumTo (useM isG sto shr (am cn.toNat)) 40) (hb3 : b3 = sumTo (stoT isG sto (am cn.toNat)) 40) : rM l yX6_close sX6_close rX6_close E [cO x0 6 [.int (iI thr), .ref x1, .ref x2, .ref x3, .ref x4, .ref x5, .ref x6, .ref x7, .ref x8, .ref x9, .ref x10, .ref x11, .ref x12, .ref x13, .ref x14, .ref x15, .ref x16, .int (iI dy), .ref x18, .ref x19, .ref x20, .ref x21, .int (iI rgs)], cZ E x1 32 isR, cI E x2 32 dn, cI E x3 32 inf, cZ E x4 8 isS, cI E x5 8 sR, cI E x6 8 cap, cI E x7 8 hol, cJ E x8 256 rls, cZ E x9 40 isG, cI E x10 40 plc, cI E x11 40 pri, cI E x12 40 rte, cI E x13 40 shr, cI E x14 40 bck, cI E x15 40 sto, cI E x16 40 wnt, cJ E x18 300 bks, cI E x19 40 amt, cI E x20 40 fst, cI E x21 40 ord] [.ref x0] (some (.int (iI (dy + 1)))) (fun _ : Unit => [cO x0 6 [.int (iI 0), .ref x1, .ref x2, .ref x3, .ref x4, .ref x5, .ref x6, .ref x7, .ref x8, .ref x9, .ref x10, .ref x11, .ref x12, .ref x13, .ref x14, .ref x15, .ref x16, .int (iI (dy + 1)), .ref x18, .ref x19, .ref x20, .ref x21, .int (iI cn)], cZ E x1 32 isR, cI E x2 32 dn, cI E x3 32 (cpZ (fun _ => 0) inf 32), cZ E x4 8 isS, cI E x5 8 sR, cI E x6 8 cap, cI E x7 8 (hoZ isG sto (am cn.toNat) hol 40), cJ E x8 256 (cpZ (fun _ => 0) rls 256), cZ E x9 40 isG, cI E x10 40 plc, cI E x11 40 pri, cI E x12 40 rte, cI E x13 40 shr, cI E x14 40 bck, cI E x15 40 sto, cI E x16 40 (wnZ isG rte wnt 40), cJ E x18 300 (bk5 bks pg b0 b1 b2 b3 b4), cI E x19 40 (am cn.toNat), cI E x20 40 fst, cI E x21 40 (cpZ ag ord cn.toNat)]) := by
  refine rM.of (cc := cX6_close) (maxL := 3) (ret := (some FieldType.int)) (by decide) rfl (Nat.le_of_ble_eq_true rfl) (fun w h => List.mem_cons_of_mem _ h) ?_
  intro p e s m args below meth c A Q hA hQ C hr hlk hnm
  have C : rC p s m args c E A 3 cX6_close sX6_close RX6 := C
  obtain ⟨ho1, ho2, ho3, ho4⟩ := id hord
  have hp0 : 0 ≤ pg := by omega
  have hp9 : pg ≤ 295 := by omega
  have L286 : ∀ (n : Nat) (k : Int), (0 ≤ k ∧ k ≤ 32) → ((32 - k).toNat < n) → rG p l e rX6_close s m args below meth c E A 3 0 0 Q [cO x0 6 [.int (iI 0), .ref x1, .ref x2, .ref x3, .ref x4, .ref x5, .ref x6, .ref x7, .ref x8, .ref x9, .ref x10, .ref x11, .ref x12, .ref x13, .ref x14, .ref x15, .ref x16, .int (iI dy), .ref x18, .ref x19, .ref x20, .ref x21, .int (iI cn)], cZ E x1 32 isR, cI E x2 32 dn, cI E x3 32 (cpZ (fun _ => 0) inf k.toNat), cZ E x4 8 isS, cI E x5 8 sR, cI E x6 8 cap, cI E x7 8 (hoZ isG sto (am cn.toNat) hol 40), cJ E x8 256 (cpZ (fun _ => 0) rls 256), cZ E x9 40 isG, cI E x10 40 plc, cI E x11 40 pri, cI E x12 40 rte, cI E x13 40 shr, cI E x14 40 bck, cI E x15 40 sto, cI E x16 40 (wnZ isG rte wnt 40), cJ E x18 300 (bk5 bks pg b0 b1 b2 b3 b4), cI E x19 40 (am cn.toNat), cI E x20 40 fst, cI E x21 40 (cpZ ag ord cn.toNat)] 286 [(0, .ref x0), (1, .int (iI pg)), (2, .int (iI k))] [] := by
    intro n
    induction n with
    | zero => intro k h1 hm; exact absurd hm (Nat.not_lt_zero _)
    | succ n ih =>
      intro k h1 hm
      refine rg_iload_n C 2 dX6_close_286 rfl rfl ?_
      refine rg_bipush (z := 32) C dX6_close_287 (by decide) ?_
      refine rg_icmp_ge (tgt := 305) C ⟨by omega, by omega⟩ ⟨by decide, by decide⟩ dX6_close_289 (by decide) (fun h_289 => ?_) (fun h_289 => ?_)
      · rw [show k.toNat = 32 by omega]
        refine rg_aload_n C 0 dX6_close_305 rfl rfl ?_
        refine rg_dup C dX6_close_306 rfl ?_
        refine rg_get C fX6_128 0 rfl rfl dX6_close_307 ?_
        refine rg_iconst C dX6_close_310 ?_
        refine rg_iadd C dX6_close_311 ?_
        refine rg_put (ws' := [cO x0 6 [.int (iI 0), .ref x1, .ref x2, .ref x3, .ref x4, .ref x5, .ref x6, .ref x7, .ref x8, .ref x9, .ref x10, .ref x11, .ref x12, .ref x13, .ref x14, .ref x15, .ref x16, .int (iI (dy + 1)), .ref x18, .ref x19, .ref x20, .ref x21, .int (iI cn)], cZ E x1 32 isR, cI E x2 32 dn, cI E x3 32 (cpZ (fun _ => 0) inf 32), cZ E x4 8 isS, cI E x5 8 sR, cI E x6 8 cap, cI E x7 8 (hoZ isG sto (am cn.toNat) hol 40), cJ E x8 256 (cpZ (fun _ => 0) rls 256), cZ E x9 40 isG, cI E x10 40 plc, cI E x11 40 pri, cI E x12 40 rte, cI E x13 40 shr, cI E x14 40 bck, cI E x15 40 sto, cI E x16 40 (wnZ isG rte wnt 40), cJ E x18 300 (bk5 bks pg b0 b1 b2 b3 b4), cI E x19 40 (am cn.toNat), cI E x20 40 fst, cI E x21 40 (cpZ ag ord cn.toNat)]) C fX6_128 layX6 rfl 0 rfl rfl rfl (Nat.le_of_ble_eq_true rfl) dX6_close_312 rfl ?_
        refine rg_aload_n C 0 dX6_close_315 rfl rfl ?_
        refine rg_get C fX6_128 0 rfl rfl dX6_close_316 ?_
        exact rg_iret C hA hQ hr hlk () rfl rfl dX6_close_319
      · refine rg_aload_n C 0 dX6_close_292 rfl rfl ?_
        refine rg_get C fX6_17 0 rfl rfl dX6_close_293 ?_
        refine rg_iload_n C 2 dX6_close_296 rfl rfl ?_
        refine rg_iconst C dX6_close_297 ?_
        refine rg_iast (ws' := [cO x0 6 [.int (iI 0), .ref x1, .ref x2, .ref x3, .ref x4, .ref x5, .ref x6, .ref x7, .ref x8, .ref x9, .ref x10, .ref x11, .ref x12, .ref x13, .ref x14, .ref x15, .ref x16, .int (iI dy), .ref x18, .ref x19, .ref x20, .ref x21, .int (iI cn)], cZ E x1 32 isR, cI E x2 32 dn, cI E x3 32 (uZ (cpZ (fun _ => 0) inf k.toNat) k.toNat 0), cZ E x4 8 isS, cI E x5 8 sR, cI E x6 8 cap, cI E x7 8 (hoZ isG sto (am cn.toNat) hol 40), cJ E x8 256 (cpZ (fun _ => 0) rls 256), cZ E x9 40 isG, cI E x10 40 plc, cI E x11 40 pri, cI E x12 40 rte, cI E x13 40 shr, cI E x14 40 bck, cI E x15 40 sto, cI E x16 40 (wnZ isG rte wnt 40), cJ E x18 300 (bk5 bks pg b0 b1 b2 b3 b4), cI E x19 40 (am cn.toNat), cI E x20 40 fst, cI E x21 40 (cpZ ag ord cn.toNat)]) C 3 rfl (by decide) (by omega) (by omega) dX6_close_298 rfl ?_
        rw [cpZ_s (fun _ => 0) inf h1.1]
        refine rg_iinc (k := 2) (lv' := [(2, .int (iI (k + 1))), (0, .ref x0), (1, .int (iI pg))]) C dX6_close_299 rfl (by decide) rfl ?_
        refine rg_goto (tgt := 286) C dX6_close_302 (by decide) ?_
        refine rG.plv [1, 2, 0] rfl ?_
        exact ih (k + 1) (by omega) (by omega)
  have L167 : ∀ (n : Nat) (k : Int) (e2 : Int) (e3 : Int), (0 ≤ k ∧ k ≤ 40) → (e2 = b4 + sumTo (useM isG sto shr (am cn.toNat)) k.toNat) → (e3 = sumTo (stoT isG sto (am cn.toNat)) k.toNat) → ((40 - k).toNat < n) → rG p l e rX6_close s m args below meth c E A 3 0 0 Q [cO x0 6 [.int (iI 0), .ref x1, .ref x2, .ref x3, .ref x4, .ref x5, .ref x6, .ref x7, .ref x8, .ref x9, .ref x10, .ref x11, .ref x12, .ref x13, .ref x14, .ref x15, .ref x16, .int (iI dy), .ref x18, .ref x19, .ref x20, .ref x21, .int (iI cn)], cZ E x1 32 isR, cI E x2 32 dn, cI E x3 32 inf, cZ E x4 8 isS, cI E x5 8 sR, cI E x6 8 cap, cI E x7 8 (hoZ isG sto (am cn.toNat) hol k.toNat), cJ E x8 256 (cpZ (fun _ => 0) rls 256), cZ E x9 40 isG, cI E x10 40 plc, cI E x11 40 pri, cI E x12 40 rte, cI E x13 40 shr, cI E x14 40 bck, cI E x15 40 sto, cI E x16 40 (wnZ isG rte wnt k.toNat), cJ E x18 300 (bk5 bks pg b0 b1 e2 e3 b4), cI E x19 40 (am cn.toNat), cI E x20 40 fst, cI E x21 40 (cpZ ag ord cn.toNat)] 167 [(0, .ref x0), (1, .int (iI pg)), (2, .int (iI k))] [] := by
    intro n
    induction n with
    | zero => intro k e2 e3 h1 h3 h4 hm; exact absurd hm (Nat.not_lt_zero _)
    | succ n ih =>
      intro k e2 e3 h1 h3 h4 hm
      refine rg_iload_n C 2 dX6_close_167 rfl rfl ?_
      refine rg_bipush (z := 40) C dX6_close_168 (by decide) ?_
      refine rg_icmp_ge (tgt := 284) C ⟨by omega, by omega⟩ ⟨by decide, by decide⟩ dX6_close_170 (by decide) (fun h_170 => ?_) (fun h_170 => ?_)
      · have hk9 : k.toNat = 40 := by omega
        rw [hk9] at h3 h4
        rw [hk9, show e2 = b2 by omega, show e3 = b3 by omega]
        refine rg_iconst C dX6_close_284 ?_
        refine rg_istore_n (lv' := [(2, .int (iI 0)), (0, .ref x0), (1, .int (iI pg))]) C dX6_close_285 rfl (by decide) rfl ?_
        refine rG.plv [1, 2, 0] rfl ?_
        exact L286 _ 0 (by omega) (Nat.lt_succ_self _)
      · have hg9 := hig k.toNat (by omega)
        have hs9 := hsto k.toNat (by omega)
        have ha9 := hamc cn (by omega) (Int.le_refl _) k.toNat (by omega)
        refine rg_aload_n C 0 dX6_close_173 rfl rfl ?_
        refine rg_get C fX6_36 0 rfl rfl dX6_close_174 ?_
        refine rg_iload_n C 2 dX6_close_177 rfl rfl ?_
        refine rg_zald C 9 rfl (by decide) (by omega) (by omega) dX6_close_178 ?_
        refine rg_if_ne (tgt := 185) C ⟨by omega, by omega⟩ dX6_close_179 (by decide) (fun h_179 => ?_) (fun h_179 => ?_)
        · refine rg_aload_n C 0 dX6_close_185 rfl rfl ?_
          refine rg_get C fX6_54 0 rfl rfl dX6_close_186 ?_
          refine rg_iload_n C 2 dX6_close_189 rfl rfl ?_
          refine rg_iald C 15 rfl (by decide) (by omega) (by omega) dX6_close_190 ?_
          refine rg_if_ge (tgt := 228) C ⟨by omega, by omega⟩ dX6_close_191 (by decide) (fun h_191 => ?_) (fun h_191 => ?_)
          · refine rg_aload_n C 0 dX6_close_228 rfl rfl ?_
            refine rg_get C fX6_60 0 rfl rfl dX6_close_229 ?_
            refine rg_iload_n C 1 dX6_close_232 rfl rfl ?_
            refine rg_iconst C dX6_close_233 ?_
            refine rg_iadd C dX6_close_234 ?_
            refine rg_dup2 C dX6_close_235 rfl rfl ?_
            refine rg_lald C 17 rfl (by decide) (by omega) (by omega) dX6_close_236 ?_
            rw [bk5_r3 bks hp0]
            refine rg_aload_n C 0 dX6_close_237 rfl rfl ?_
            refine rg_get C fX6_63 0 rfl rfl dX6_close_238 ?_
            refine rg_iload_n C 2 dX6_close_241 rfl rfl ?_
            refine rg_iald C 18 rfl (by decide) (by omega) (by omega) dX6_close_242 ?_
            refine rg_i2l C ⟨by omega, by omega⟩ dX6_close_243 ?_
            refine rg_ladd C dX6_close_244 ?_
            refine rg_last (ws' := [cO x0 6 [.int (iI 0), .ref x1, .ref x2, .ref x3, .ref x4, .ref x5, .ref x6, .ref x7, .ref x8, .ref x9, .ref x10, .ref x11, .ref x12, .ref x13, .ref x14, .ref x15, .ref x16, .int (iI dy), .ref x18, .ref x19, .ref x20, .ref x21, .int (iI cn)], cZ E x1 32 isR, cI E x2 32 dn, cI E x3 32 inf, cZ E x4 8 isS, cI E x5 8 sR, cI E x6 8 cap, cI E x7 8 (hoZ isG sto (am cn.toNat) hol k.toNat), cJ E x8 256 (cpZ (fun _ => 0) rls 256), cZ E x9 40 isG, cI E x10 40 plc, cI E x11 40 pri, cI E x12 40 rte, cI E x13 40 shr, cI E x14 40 bck, cI E x15 40 sto, cI E x16 40 (wnZ isG rte wnt k.toNat), cJ E x18 300 (uZ (bk5 bks pg b0 b1 e2 e3 b4) (pg + 3).toNat (e3 + ((am cn.toNat) k.toNat))), cI E x19 40 (am cn.toNat), cI E x20 40 fst, cI E x21 40 (cpZ ag ord cn.toNat)]) C 17 rfl (by decide) (by omega) (by omega) dX6_close_245 rfl ?_
            rw [bk5_u3 bks hp0]
            refine rg_aload_n C 0 dX6_close_246 rfl rfl ?_
            refine rg_get C fX6_29 0 rfl rfl dX6_close_247 ?_
            refine rg_aload_n C 0 dX6_close_250 rfl rfl ?_
            refine rg_get C fX6_54 0 rfl rfl dX6_close_251 ?_
            refine rg_iload_n C 2 dX6_close_254 rfl rfl ?_
            refine rg_iald C 15 rfl (by decide) (by omega) (by omega) dX6_close_255 ?_
            refine rg_dup2 C dX6_close_256 rfl rfl ?_
            refine rg_iald C 7 rfl (by decide) (by omega) (by omega) dX6_close_257 ?_
            refine rg_aload_n C 0 dX6_close_258 rfl rfl ?_
            refine rg_get C fX6_63 0 rfl rfl dX6_close_259 ?_
            refine rg_iload_n C 2 dX6_close_262 rfl rfl ?_
            refine rg_iald C 18 rfl (by decide) (by omega) (by omega) dX6_close_263 ?_
            refine rg_iadd C dX6_close_264 ?_
            refine rg_iast (ws' := [cO x0 6 [.int (iI 0), .ref x1, .ref x2, .ref x3, .ref x4, .ref x5, .ref x6, .ref x7, .ref x8, .ref x9, .ref x10, .ref x11, .ref x12, .ref x13, .ref x14, .ref x15, .ref x16, .int (iI dy), .ref x18, .ref x19, .ref x20, .ref x21, .int (iI cn)], cZ E x1 32 isR, cI E x2 32 dn, cI E x3 32 inf, cZ E x4 8 isS, cI E x5 8 sR, cI E x6 8 cap, cI E x7 8 (uZ (hoZ isG sto (am cn.toNat) hol k.toNat) (sto k.toNat).toNat (((hoZ isG sto (am cn.toNat) hol k.toNat) (sto k.toNat).toNat) + ((am cn.toNat) k.toNat))), cJ E x8 256 (cpZ (fun _ => 0) rls 256), cZ E x9 40 isG, cI E x10 40 plc, cI E x11 40 pri, cI E x12 40 rte, cI E x13 40 shr, cI E x14 40 bck, cI E x15 40 sto, cI E x16 40 (wnZ isG rte wnt k.toNat), cJ E x18 300 (bk5 bks pg b0 b1 e2 (e3 + am cn.toNat k.toNat) b4), cI E x19 40 (am cn.toNat), cI E x20 40 fst, cI E x21 40 (cpZ ag ord cn.toNat)]) C 7 rfl (by decide) (by omega) (by omega) dX6_close_265 rfl ?_
            refine rg_aload_n C 0 dX6_close_266 rfl rfl ?_
            refine rg_get C fX6_57 0 rfl rfl dX6_close_267 ?_
            refine rg_iload_n C 2 dX6_close_270 rfl rfl ?_
            refine rg_aload_n C 0 dX6_close_271 rfl rfl ?_
            refine rg_get C fX6_45 0 rfl rfl dX6_close_272 ?_
            refine rg_iload_n C 2 dX6_close_275 rfl rfl ?_
            refine rg_iald C 12 rfl (by decide) (by omega) (by omega) dX6_close_276 ?_
            refine rg_iast (ws' := [cO x0 6 [.int (iI 0), .ref x1, .ref x2, .ref x3, .ref x4, .ref x5, .ref x6, .ref x7, .ref x8, .ref x9, .ref x10, .ref x11, .ref x12, .ref x13, .ref x14, .ref x15, .ref x16, .int (iI dy), .ref x18, .ref x19, .ref x20, .ref x21, .int (iI cn)], cZ E x1 32 isR, cI E x2 32 dn, cI E x3 32 inf, cZ E x4 8 isS, cI E x5 8 sR, cI E x6 8 cap, cI E x7 8 (uZ (hoZ isG sto (am cn.toNat) hol k.toNat) (sto k.toNat).toNat (((hoZ isG sto (am cn.toNat) hol k.toNat) (sto k.toNat).toNat) + ((am cn.toNat) k.toNat))), cJ E x8 256 (cpZ (fun _ => 0) rls 256), cZ E x9 40 isG, cI E x10 40 plc, cI E x11 40 pri, cI E x12 40 rte, cI E x13 40 shr, cI E x14 40 bck, cI E x15 40 sto, cI E x16 40 (uZ (wnZ isG rte wnt k.toNat) k.toNat (rte k.toNat)), cJ E x18 300 (bk5 bks pg b0 b1 e2 (e3 + am cn.toNat k.toNat) b4), cI E x19 40 (am cn.toNat), cI E x20 40 fst, cI E x21 40 (cpZ ag ord cn.toNat)]) C 16 rfl (by decide) (by omega) (by omega) dX6_close_277 rfl ?_
            rw [hoZ_1 hol h1.1 h_179 (by omega)]
            rw [wnZ_1 rte wnt h1.1 h_179]
            refine rg_iinc (k := 2) (lv' := [(2, .int (iI (k + 1))), (0, .ref x0), (1, .int (iI pg))]) C dX6_close_278 rfl (by decide) rfl ?_
            refine rg_goto (tgt := 167) C dX6_close_281 (by decide) ?_
            refine rG.plv [1, 2, 0] rfl ?_
            exact ih (k + 1) e2 (e3 + am cn.toNat k.toNat) (by omega) (by rw [sumTo_s _ h1.1]; have e9 : useM isG sto shr (am cn.toNat) k.toNat = 0 := if_neg (by omega); omega) (by rw [sumTo_s _ h1.1, h4]; have e9 : stoT isG sto (am cn.toNat) k.toNat = am cn.toNat k.toNat := if_pos ⟨h_179, by omega⟩; omega) (by omega)
          · refine rg_aload_n C 0 dX6_close_194 rfl rfl ?_
            refine rg_get C fX6_60 0 rfl rfl dX6_close_195 ?_
            refine rg_iload_n C 1 dX6_close_198 rfl rfl ?_
            refine rg_iconst C dX6_close_199 ?_
            refine rg_iadd C dX6_close_200 ?_
            refine rg_dup2 C dX6_close_201 rfl rfl ?_
            refine rg_lald C 17 rfl (by decide) (by omega) (by omega) dX6_close_202 ?_
            rw [bk5_r2 bks hp0]
            refine rg_aload_n C 0 dX6_close_203 rfl rfl ?_
            refine rg_get C fX6_63 0 rfl rfl dX6_close_204 ?_
            refine rg_iload_n C 2 dX6_close_207 rfl rfl ?_
            refine rg_iald C 18 rfl (by decide) (by omega) (by omega) dX6_close_208 ?_
            refine rg_i2l C ⟨by omega, by omega⟩ dX6_close_209 ?_
            refine rg_aload_n C 0 dX6_close_210 rfl rfl ?_
            refine rg_iload_n C 2 dX6_close_211 rfl rfl ?_
            refine rg_aload_n C 0 dX6_close_212 rfl rfl ?_
            refine rg_get C fX6_63 0 rfl rfl dX6_close_213 ?_
            refine rg_iload_n C 2 dX6_close_216 rfl rfl ?_
            refine rg_iald C 18 rfl (by decide) (by omega) (by omega) dX6_close_217 ?_
            refine rg_i2l C ⟨by omega, by omega⟩ dX6_close_218 ?_
            refine rg_callV (As := [.int (iI k), .long (lI ((am cn.toNat) k.toNat))]) (rest := [.long (lI ((am cn.toNat) k.toNat)), .long (lI e2), .int (iI (pg + 2)), .ref x18]) (wr := []) (w' := fun _ => [cO x0 6 [.int (iI 0), .ref x1, .ref x2, .ref x3, .ref x4, .ref x5, .ref x6, .ref x7, .ref x8, .ref x9, .ref x10, .ref x11, .ref x12, .ref x13, .ref x14, .ref x15, .ref x16, .int (iI dy), .ref x18, .ref x19, .ref x20, .ref x21, .int (iI cn)], cZ E x1 32 isR, cI E x2 32 dn, cI E x3 32 inf, cZ E x4 8 isS, cI E x5 8 sR, cI E x6 8 cap, cI E x7 8 (hoZ isG sto (am cn.toNat) hol k.toNat), cJ E x8 256 (cpZ (fun _ => 0) rls 256), cZ E x9 40 isG, cI E x10 40 plc, cI E x11 40 pri, cI E x12 40 rte, cI E x13 40 shr, cI E x14 40 bck, cI E x15 40 sto, cI E x16 40 (wnZ isG rte wnt k.toNat), cJ E x18 300 (bk5 bks pg b0 b1 e2 e3 b4), cI E x19 40 (am cn.toNat), cI E x20 40 fst, cI E x21 40 (cpZ ag ord cn.toNat)]) C (kX6_returned l E x0 x1 x2 x3 x4 x5 x6 x7 x8 x9 x10 x11 x12 x13 x14 x15 x16 x18 x19 x20 x21 isR dn inf isS sR cap (hoZ isG sto (am cn.toNat) hol k.toNat) (cpZ (fun _ => 0) rls 256) isG plc pri rte shr bck sto (wnZ isG rte wnt k.toNat) (bk5 bks pg b0 b1 e2 e3 b4) (am cn.toNat) fst (cpZ ag ord cn.toNat) 0 dy cn k ((am cn.toNat) k.toNat) (by omega) ha9 (⟨((hrg k.toNat (by omega) h_179).2 (by omega)).2.2.2.1, ((hrg k.toNat (by omega) h_179).2 (by omega)).2.2.2.2⟩)) (rcwV C mX6_returned w_774 ⟨Nat.le_of_ble_eq_true rfl, Nat.le_of_ble_eq_true rfl⟩) [0, 1, 2, 3, 4, 5, 6, 7, 8, 9, 10, 11, 12, 13, 14, 15, 16, 17, 18, 19, 20] [] [0, 1, 2, 3, 4, 5, 6, 7, 8, 9, 10, 11, 12, 13, 14, 15, 16, 17, 18, 19, 20] rfl rfl (by decide) (by decide) (by decide) (fun _ => rfl) (by decide) 0 rfl rfl rfl rfl (Nat.le_of_ble_eq_true rfl) dX6_close_219 ⟨Nat.le_of_ble_eq_true rfl, Nat.le_of_ble_eq_true rfl⟩ (fun _ => ?_)
            show rG p l e rX6_close s m args below meth c E A 3 0 0 Q [cO x0 6 [.int (iI 0), .ref x1, .ref x2, .ref x3, .ref x4, .ref x5, .ref x6, .ref x7, .ref x8, .ref x9, .ref x10, .ref x11, .ref x12, .ref x13, .ref x14, .ref x15, .ref x16, .int (iI dy), .ref x18, .ref x19, .ref x20, .ref x21, .int (iI cn)], cZ E x1 32 isR, cI E x2 32 dn, cI E x3 32 inf, cZ E x4 8 isS, cI E x5 8 sR, cI E x6 8 cap, cI E x7 8 (hoZ isG sto (am cn.toNat) hol k.toNat), cJ E x8 256 (cpZ (fun _ => 0) rls 256), cZ E x9 40 isG, cI E x10 40 plc, cI E x11 40 pri, cI E x12 40 rte, cI E x13 40 shr, cI E x14 40 bck, cI E x15 40 sto, cI E x16 40 (wnZ isG rte wnt k.toNat), cJ E x18 300 (bk5 bks pg b0 b1 e2 e3 b4), cI E x19 40 (am cn.toNat), cI E x20 40 fst, cI E x21 40 (cpZ ag ord cn.toNat)] 222 [(0, .ref x0), (1, .int (iI pg)), (2, .int (iI k))] [.long (lI (((am cn.toNat) k.toNat) * shr k.toNat / 1000)), .long (lI ((am cn.toNat) k.toNat)), .long (lI e2), .int (iI (pg + 2)), .ref x18]
            refine rg_lsub C dX6_close_222 ?_
            refine rg_ladd C dX6_close_223 ?_
            refine rg_last (ws' := [cO x0 6 [.int (iI 0), .ref x1, .ref x2, .ref x3, .ref x4, .ref x5, .ref x6, .ref x7, .ref x8, .ref x9, .ref x10, .ref x11, .ref x12, .ref x13, .ref x14, .ref x15, .ref x16, .int (iI dy), .ref x18, .ref x19, .ref x20, .ref x21, .int (iI cn)], cZ E x1 32 isR, cI E x2 32 dn, cI E x3 32 inf, cZ E x4 8 isS, cI E x5 8 sR, cI E x6 8 cap, cI E x7 8 (hoZ isG sto (am cn.toNat) hol k.toNat), cJ E x8 256 (cpZ (fun _ => 0) rls 256), cZ E x9 40 isG, cI E x10 40 plc, cI E x11 40 pri, cI E x12 40 rte, cI E x13 40 shr, cI E x14 40 bck, cI E x15 40 sto, cI E x16 40 (wnZ isG rte wnt k.toNat), cJ E x18 300 (uZ (bk5 bks pg b0 b1 e2 e3 b4) (pg + 2).toNat (e2 + (((am cn.toNat) k.toNat) - (((am cn.toNat) k.toNat) * shr k.toNat / 1000)))), cI E x19 40 (am cn.toNat), cI E x20 40 fst, cI E x21 40 (cpZ ag ord cn.toNat)]) C 17 rfl (by decide) (by omega) (by omega) dX6_close_224 rfl ?_
            rw [bk5_u2 bks hp0]
            refine rg_goto (tgt := 266) C dX6_close_225 (by decide) ?_
            refine rg_aload_n C 0 dX6_close_266 rfl rfl ?_
            refine rg_get C fX6_57 0 rfl rfl dX6_close_267 ?_
            refine rg_iload_n C 2 dX6_close_270 rfl rfl ?_
            refine rg_aload_n C 0 dX6_close_271 rfl rfl ?_
            refine rg_get C fX6_45 0 rfl rfl dX6_close_272 ?_
            refine rg_iload_n C 2 dX6_close_275 rfl rfl ?_
            refine rg_iald C 12 rfl (by decide) (by omega) (by omega) dX6_close_276 ?_
            refine rg_iast (ws' := [cO x0 6 [.int (iI 0), .ref x1, .ref x2, .ref x3, .ref x4, .ref x5, .ref x6, .ref x7, .ref x8, .ref x9, .ref x10, .ref x11, .ref x12, .ref x13, .ref x14, .ref x15, .ref x16, .int (iI dy), .ref x18, .ref x19, .ref x20, .ref x21, .int (iI cn)], cZ E x1 32 isR, cI E x2 32 dn, cI E x3 32 inf, cZ E x4 8 isS, cI E x5 8 sR, cI E x6 8 cap, cI E x7 8 (hoZ isG sto (am cn.toNat) hol k.toNat), cJ E x8 256 (cpZ (fun _ => 0) rls 256), cZ E x9 40 isG, cI E x10 40 plc, cI E x11 40 pri, cI E x12 40 rte, cI E x13 40 shr, cI E x14 40 bck, cI E x15 40 sto, cI E x16 40 (uZ (wnZ isG rte wnt k.toNat) k.toNat (rte k.toNat)), cJ E x18 300 (bk5 bks pg b0 b1 (e2 + (am cn.toNat k.toNat - am cn.toNat k.toNat * shr k.toNat / 1000)) e3 b4), cI E x19 40 (am cn.toNat), cI E x20 40 fst, cI E x21 40 (cpZ ag ord cn.toNat)]) C 16 rfl (by decide) (by omega) (by omega) dX6_close_277 rfl ?_
            rw [hoZ_0 hol h1.1 (by omega)]
            rw [wnZ_1 rte wnt h1.1 h_179]
            refine rg_iinc (k := 2) (lv' := [(2, .int (iI (k + 1))), (0, .ref x0), (1, .int (iI pg))]) C dX6_close_278 rfl (by decide) rfl ?_
            refine rg_goto (tgt := 167) C dX6_close_281 (by decide) ?_
            refine rG.plv [1, 2, 0] rfl ?_
            exact ih (k + 1) (e2 + (am cn.toNat k.toNat - am cn.toNat k.toNat * shr k.toNat / 1000)) e3 (by omega) (by rw [sumTo_s _ h1.1]; have e9 : useM isG sto shr (am cn.toNat) k.toNat = am cn.toNat k.toNat - am cn.toNat k.toNat * shr k.toNat / 1000 := if_pos ⟨h_179, by omega⟩; omega) (by rw [sumTo_s _ h1.1, h4]; have e9 : stoT isG sto (am cn.toNat) k.toNat = 0 := if_neg (by omega); omega) (by omega)
        · refine rg_goto (tgt := 278) C dX6_close_182 (by decide) ?_
          rw [hoZ_0 hol h1.1 (by omega)]
          rw [wnZ_0 rte wnt h1.1 (by omega)]
          refine rg_iinc (k := 2) (lv' := [(2, .int (iI (k + 1))), (0, .ref x0), (1, .int (iI pg))]) C dX6_close_278 rfl (by decide) rfl ?_
          refine rg_goto (tgt := 167) C dX6_close_281 (by decide) ?_
          refine rG.plv [1, 2, 0] rfl ?_
          exact ih (k + 1) e2 e3 (by omega) (by rw [sumTo_s _ h1.1]; have e9 : useM isG sto shr (am cn.toNat) k.toNat = 0 := if_neg (by omega); omega) (by rw [sumTo_s _ h1.1, h4]; have e9 : stoT isG sto (am cn.toNat) k.toNat = 0 := if_neg (by omega); omega) (by omega)
  have L112 : ∀ (n : Nat) (k : Int) (e4 : Int), (0 ≤ k ∧ k ≤ 256) → (e4 = sumTo rls k.toNat) → ((256 - k).toNat < n) → rG p l e rX6_close s m args below meth c E A 3 0 0 Q [cO x0 6 [.int (iI 0), .ref x1, .ref x2, .ref x3, .ref x4, .ref x5, .ref x6, .ref x7, .ref x8, .ref x9, .ref x10, .ref x11, .ref x12, .ref x13, .ref x14, .ref x15, .ref x16, .int (iI dy), .ref x18, .ref x19, .ref x20, .ref x21, .int (iI cn)], cZ E x1 32 isR, cI E x2 32 dn, cI E x3 32 inf, cZ E x4 8 isS, cI E x5 8 sR, cI E x6 8 cap, cI E x7 8 hol, cJ E x8 256 (cpZ (fun _ => 0) rls k.toNat), cZ E x9 40 isG, cI E x10 40 plc, cI E x11 40 pri, cI E x12 40 rte, cI E x13 40 shr, cI E x14 40 bck, cI E x15 40 sto, cI E x16 40 wnt, cJ E x18 300 (bk5 bks pg b0 b1 0 0 e4), cI E x19 40 (am cn.toNat), cI E x20 40 fst, cI E x21 40 (cpZ ag ord cn.toNat)] 112 [(0, .ref x0), (1, .int (iI pg)), (2, .int (iI k))] [] := by
    intro n
    induction n with
    | zero => intro k e4 h1 h3 hm; exact absurd hm (Nat.not_lt_zero _)
    | succ n ih =>
      intro k e4 h1 h3 hm
      refine rg_iload_n C 2 dX6_close_112 rfl rfl ?_
      refine rg_sipush (z := 256) C dX6_close_113 (by decide) ?_
      refine rg_icmp_ge (tgt := 149) C ⟨by omega, by omega⟩ ⟨by decide, by decide⟩ dX6_close_116 (by decide) (fun h_116 => ?_) (fun h_116 => ?_)
      · have hk9 : k.toNat = 256 := by omega
        rw [hk9] at h3
        rw [hk9, show e4 = b4 by omega]
        refine rg_aload_n C 0 dX6_close_149 rfl rfl ?_
        refine rg_get C fX6_60 0 rfl rfl dX6_close_150 ?_
        refine rg_iload_n C 1 dX6_close_153 rfl rfl ?_
        refine rg_iconst C dX6_close_154 ?_
        refine rg_iadd C dX6_close_155 ?_
        refine rg_aload_n C 0 dX6_close_156 rfl rfl ?_
        refine rg_get C fX6_60 0 rfl rfl dX6_close_157 ?_
        refine rg_iload_n C 1 dX6_close_160 rfl rfl ?_
        refine rg_iconst C dX6_close_161 ?_
        refine rg_iadd C dX6_close_162 ?_
        refine rg_lald C 17 rfl (by decide) (by omega) (by omega) dX6_close_163 ?_
        rw [bk5_r4 bks hp0]
        refine rg_last (ws' := [cO x0 6 [.int (iI 0), .ref x1, .ref x2, .ref x3, .ref x4, .ref x5, .ref x6, .ref x7, .ref x8, .ref x9, .ref x10, .ref x11, .ref x12, .ref x13, .ref x14, .ref x15, .ref x16, .int (iI dy), .ref x18, .ref x19, .ref x20, .ref x21, .int (iI cn)], cZ E x1 32 isR, cI E x2 32 dn, cI E x3 32 inf, cZ E x4 8 isS, cI E x5 8 sR, cI E x6 8 cap, cI E x7 8 hol, cJ E x8 256 (cpZ (fun _ => 0) rls 256), cZ E x9 40 isG, cI E x10 40 plc, cI E x11 40 pri, cI E x12 40 rte, cI E x13 40 shr, cI E x14 40 bck, cI E x15 40 sto, cI E x16 40 wnt, cJ E x18 300 (uZ (bk5 bks pg b0 b1 0 0 b4) (pg + 2).toNat b4), cI E x19 40 (am cn.toNat), cI E x20 40 fst, cI E x21 40 (cpZ ag ord cn.toNat)]) C 17 rfl (by decide) (by omega) (by omega) dX6_close_164 rfl ?_
        rw [bk5_u2 bks hp0]
        refine rg_iconst C dX6_close_165 ?_
        refine rg_istore_n (lv' := [(2, .int (iI 0)), (0, .ref x0), (1, .int (iI pg))]) C dX6_close_166 rfl (by decide) rfl ?_
        refine rG.plv [1, 2, 0] rfl ?_
        exact L167 _ 0 b4 0 (by omega) (by show b4 = b4 + 0; omega) rfl (Nat.lt_succ_self _)
      · refine rg_aload_n C 0 dX6_close_119 rfl rfl ?_
        refine rg_get C fX6_60 0 rfl rfl dX6_close_120 ?_
        refine rg_iload_n C 1 dX6_close_123 rfl rfl ?_
        refine rg_iconst C dX6_close_124 ?_
        refine rg_iadd C dX6_close_125 ?_
        refine rg_dup2 C dX6_close_126 rfl rfl ?_
        refine rg_lald C 17 rfl (by decide) (by omega) (by omega) dX6_close_127 ?_
        rw [bk5_r4 bks hp0]
        refine rg_aload_n C 0 dX6_close_128 rfl rfl ?_
        refine rg_get C fX6_32 0 rfl rfl dX6_close_129 ?_
        refine rg_iload_n C 2 dX6_close_132 rfl rfl ?_
        refine rg_lald C 8 rfl (by decide) (by omega) (by omega) dX6_close_133 ?_
        rw [cpZ_ge (fun _ => 0) rls (Nat.le_refl _)]
        refine rg_ladd C dX6_close_134 ?_
        refine rg_last (ws' := [cO x0 6 [.int (iI 0), .ref x1, .ref x2, .ref x3, .ref x4, .ref x5, .ref x6, .ref x7, .ref x8, .ref x9, .ref x10, .ref x11, .ref x12, .ref x13, .ref x14, .ref x15, .ref x16, .int (iI dy), .ref x18, .ref x19, .ref x20, .ref x21, .int (iI cn)], cZ E x1 32 isR, cI E x2 32 dn, cI E x3 32 inf, cZ E x4 8 isS, cI E x5 8 sR, cI E x6 8 cap, cI E x7 8 hol, cJ E x8 256 (cpZ (fun _ => 0) rls k.toNat), cZ E x9 40 isG, cI E x10 40 plc, cI E x11 40 pri, cI E x12 40 rte, cI E x13 40 shr, cI E x14 40 bck, cI E x15 40 sto, cI E x16 40 wnt, cJ E x18 300 (uZ (bk5 bks pg b0 b1 0 0 e4) (pg + 4).toNat (e4 + (rls k.toNat))), cI E x19 40 (am cn.toNat), cI E x20 40 fst, cI E x21 40 (cpZ ag ord cn.toNat)]) C 17 rfl (by decide) (by omega) (by omega) dX6_close_135 rfl ?_
        rw [bk5_u4 bks hp0]
        refine rg_aload_n C 0 dX6_close_136 rfl rfl ?_
        refine rg_get C fX6_32 0 rfl rfl dX6_close_137 ?_
        refine rg_iload_n C 2 dX6_close_140 rfl rfl ?_
        refine rg_lconst (z := 0) C dX6_close_141 (by decide) ?_
        refine rg_last (ws' := [cO x0 6 [.int (iI 0), .ref x1, .ref x2, .ref x3, .ref x4, .ref x5, .ref x6, .ref x7, .ref x8, .ref x9, .ref x10, .ref x11, .ref x12, .ref x13, .ref x14, .ref x15, .ref x16, .int (iI dy), .ref x18, .ref x19, .ref x20, .ref x21, .int (iI cn)], cZ E x1 32 isR, cI E x2 32 dn, cI E x3 32 inf, cZ E x4 8 isS, cI E x5 8 sR, cI E x6 8 cap, cI E x7 8 hol, cJ E x8 256 (uZ (cpZ (fun _ => 0) rls k.toNat) k.toNat 0), cZ E x9 40 isG, cI E x10 40 plc, cI E x11 40 pri, cI E x12 40 rte, cI E x13 40 shr, cI E x14 40 bck, cI E x15 40 sto, cI E x16 40 wnt, cJ E x18 300 (bk5 bks pg b0 b1 0 0 (e4 + rls k.toNat)), cI E x19 40 (am cn.toNat), cI E x20 40 fst, cI E x21 40 (cpZ ag ord cn.toNat)]) C 8 rfl (by decide) (by omega) (by omega) dX6_close_142 rfl ?_
        rw [cpZ_s (fun _ => 0) rls h1.1]
        refine rg_iinc (k := 2) (lv' := [(2, .int (iI (k + 1))), (0, .ref x0), (1, .int (iI pg))]) C dX6_close_143 rfl (by decide) rfl ?_
        refine rg_goto (tgt := 112) C dX6_close_146 (by decide) ?_
        refine rG.plv [1, 2, 0] rfl ?_
        exact ih (k + 1) (e4 + rls k.toNat) (by omega) (by rw [sumTo_s _ h1.1, h3]) (by omega)
  have L47 : ∀ (n : Nat) (k : Int) (e0 : Int) (e1 : Int), (0 ≤ k ∧ k ≤ 32) → (e0 = sumTo (inR isR inf) k.toNat) → (e1 = outV isR dn (natM isR dn inf isG plc bck sto shr (am cn.toNat)) k.toNat) → ((32 - k).toNat < n) → rG p l e rX6_close s m args below meth c E A 3 0 0 Q [cO x0 6 [.int (iI 0), .ref x1, .ref x2, .ref x3, .ref x4, .ref x5, .ref x6, .ref x7, .ref x8, .ref x9, .ref x10, .ref x11, .ref x12, .ref x13, .ref x14, .ref x15, .ref x16, .int (iI dy), .ref x18, .ref x19, .ref x20, .ref x21, .int (iI cn)], cZ E x1 32 isR, cI E x2 32 dn, cI E x3 32 inf, cZ E x4 8 isS, cI E x5 8 sR, cI E x6 8 cap, cI E x7 8 hol, cJ E x8 256 rls, cZ E x9 40 isG, cI E x10 40 plc, cI E x11 40 pri, cI E x12 40 rte, cI E x13 40 shr, cI E x14 40 bck, cI E x15 40 sto, cI E x16 40 wnt, cJ E x18 300 (bk5 bks pg e0 e1 0 0 0), cI E x19 40 (am cn.toNat), cI E x20 40 fst, cI E x21 40 (cpZ ag ord cn.toNat)] 47 [(0, .ref x0), (1, .int (iI pg)), (2, .int (iI k))] [] := by
    intro n
    induction n with
    | zero => intro k e0 e1 h1 h3 h4 hm; exact absurd hm (Nat.not_lt_zero _)
    | succ n ih =>
      intro k e0 e1 h1 h3 h4 hm
      refine rg_iload_n C 2 dX6_close_47 rfl rfl ?_
      refine rg_bipush (z := 32) C dX6_close_48 (by decide) ?_
      refine rg_icmp_ge (tgt := 110) C ⟨by omega, by omega⟩ ⟨by decide, by decide⟩ dX6_close_50 (by decide) (fun h_50 => ?_) (fun h_50 => ?_)
      · have hk9 : k.toNat = 32 := by omega
        rw [hk9] at h3 h4
        rw [show e0 = b0 by omega, show e1 = b1 by omega]
        refine rg_iconst C dX6_close_110 ?_
        refine rg_istore_n (lv' := [(2, .int (iI 0)), (0, .ref x0), (1, .int (iI pg))]) C dX6_close_111 rfl (by decide) rfl ?_
        refine rG.plv [1, 2, 0] rfl ?_
        exact L112 _ 0 0 (by omega) rfl (Nat.lt_succ_self _)
      · have hr9 := hir k.toNat (by omega)
        have hi9 := hinf k.toNat (by omega)
        have hd9 := hdn k.toNat (by omega)
        refine rg_aload_n C 0 dX6_close_53 rfl rfl ?_
        refine rg_get C fX6_7 0 rfl rfl dX6_close_54 ?_
        refine rg_iload_n C 2 dX6_close_57 rfl rfl ?_
        refine rg_zald C 1 rfl (by decide) (by omega) (by omega) dX6_close_58 ?_
        refine rg_if_ne (tgt := 65) C ⟨by omega, by omega⟩ dX6_close_59 (by decide) (fun h_59 => ?_) (fun h_59 => ?_)
        · refine rg_aload_n C 0 dX6_close_65 rfl rfl ?_
          refine rg_get C fX6_60 0 rfl rfl dX6_close_66 ?_
          refine rg_iload_n C 1 dX6_close_69 rfl rfl ?_
          refine rg_dup2 C dX6_close_70 rfl rfl ?_
          refine rg_lald C 17 rfl (by decide) (by omega) (by omega) dX6_close_71 ?_
          rw [bk5_r0 bks hp0]
          refine rg_aload_n C 0 dX6_close_72 rfl rfl ?_
          refine rg_get C fX6_17 0 rfl rfl dX6_close_73 ?_
          refine rg_iload_n C 2 dX6_close_76 rfl rfl ?_
          refine rg_iald C 3 rfl (by decide) (by omega) (by omega) dX6_close_77 ?_
          refine rg_i2l C ⟨by omega, by omega⟩ dX6_close_78 ?_
          refine rg_ladd C dX6_close_79 ?_
          refine rg_last (ws' := [cO x0 6 [.int (iI 0), .ref x1, .ref x2, .ref x3, .ref x4, .ref x5, .ref x6, .ref x7, .ref x8, .ref x9, .ref x10, .ref x11, .ref x12, .ref x13, .ref x14, .ref x15, .ref x16, .int (iI dy), .ref x18, .ref x19, .ref x20, .ref x21, .int (iI cn)], cZ E x1 32 isR, cI E x2 32 dn, cI E x3 32 inf, cZ E x4 8 isS, cI E x5 8 sR, cI E x6 8 cap, cI E x7 8 hol, cJ E x8 256 rls, cZ E x9 40 isG, cI E x10 40 plc, cI E x11 40 pri, cI E x12 40 rte, cI E x13 40 shr, cI E x14 40 bck, cI E x15 40 sto, cI E x16 40 wnt, cJ E x18 300 (uZ (bk5 bks pg e0 e1 0 0 0) pg.toNat (e0 + (inf k.toNat))), cI E x19 40 (am cn.toNat), cI E x20 40 fst, cI E x21 40 (cpZ ag ord cn.toNat)]) C 17 rfl (by decide) (by omega) (by omega) dX6_close_80 rfl ?_
          rw [bk5_u0 bks hp0]
          refine rg_aload_n C 0 dX6_close_81 rfl rfl ?_
          refine rg_get C fX6_13 0 rfl rfl dX6_close_82 ?_
          refine rg_iload_n C 2 dX6_close_85 rfl rfl ?_
          refine rg_iald C 2 rfl (by decide) (by omega) (by omega) dX6_close_86 ?_
          refine rg_iconst C dX6_close_87 ?_
          refine rg_icmp_ne (tgt := 104) C ⟨by omega, by omega⟩ ⟨by decide, by decide⟩ dX6_close_88 (by decide) (fun h_88 => ?_) (fun h_88 => ?_)
          · refine rg_iinc (k := 2) (lv' := [(2, .int (iI (k + 1))), (0, .ref x0), (1, .int (iI pg))]) C dX6_close_104 rfl (by decide) rfl ?_
            refine rg_goto (tgt := 47) C dX6_close_107 (by decide) ?_
            refine rG.plv [1, 2, 0] rfl ?_
            exact ih (k + 1) (e0 + inf k.toNat) e1 (by omega) (by rw [sumTo_s _ h1.1, h3]; unfold inR; rw [if_pos h_59]) (by rw [outV_s h1.1, if_neg (by omega)]; exact h4) (by omega)
          · refine rg_aload_n C 0 dX6_close_91 rfl rfl ?_
            refine rg_get C fX6_60 0 rfl rfl dX6_close_92 ?_
            refine rg_iload_n C 1 dX6_close_95 rfl rfl ?_
            refine rg_iconst C dX6_close_96 ?_
            refine rg_iadd C dX6_close_97 ?_
            refine rg_aload_n C 0 dX6_close_98 rfl rfl ?_
            refine rg_iload_n C 2 dX6_close_99 rfl rfl ?_
            refine rg_callV (As := [.int (iI k)]) (rest := [.int (iI (pg + 1)), .ref x18]) (wr := []) (w' := fun _ => [cO x0 6 [.int (iI 0), .ref x1, .ref x2, .ref x3, .ref x4, .ref x5, .ref x6, .ref x7, .ref x8, .ref x9, .ref x10, .ref x11, .ref x12, .ref x13, .ref x14, .ref x15, .ref x16, .int (iI dy), .ref x18, .ref x19, .ref x20, .ref x21, .int (iI cn)], cZ E x1 32 isR, cI E x2 32 dn, cI E x3 32 inf, cZ E x4 8 isS, cI E x5 8 sR, cI E x6 8 cap, cI E x7 8 hol, cJ E x8 256 rls, cZ E x9 40 isG, cI E x10 40 plc, cI E x11 40 pri, cI E x12 40 rte, cI E x13 40 shr, cI E x14 40 bck, cI E x15 40 sto, cI E x16 40 wnt, cJ E x18 300 (bk5 bks pg (e0 + inf k.toNat) e1 0 0 0), cI E x19 40 (am cn.toNat), cI E x20 40 fst, cI E x21 40 (cpZ ag ord cn.toNat)]) C (kX6_natural l E x0 x1 x2 x3 x4 x5 x6 x7 x8 x9 x10 x11 x12 x13 x14 x15 x16 x18 x19 x20 x21 isR dn inf isS sR cap hol rls isG plc pri rte shr bck sto wnt (bk5 bks pg (e0 + inf k.toNat) e1 0 0 0) (am cn.toNat) fst (cpZ ag ord cn.toNat) 0 dy cn k (by first | omega | assumption) hpe (by first | omega | assumption) (by first | omega | assumption) (by first | omega | assumption) hrg hsto (hamc cn (by omega) (Int.le_refl _)) (by omega)) (rcwV C mX6_natural w_770 ⟨Nat.le_of_ble_eq_true rfl, Nat.le_of_ble_eq_true rfl⟩) [0, 1, 2, 3, 4, 5, 6, 7, 8, 9, 10, 11, 12, 13, 14, 15, 16, 17, 18, 19, 20] [] [0, 1, 2, 3, 4, 5, 6, 7, 8, 9, 10, 11, 12, 13, 14, 15, 16, 17, 18, 19, 20] rfl rfl (by decide) (by decide) (by decide) (fun _ => rfl) (by decide) 0 rfl rfl rfl rfl (Nat.le_of_ble_eq_true rfl) dX6_close_100 ⟨Nat.le_of_ble_eq_true rfl, Nat.le_of_ble_eq_true rfl⟩ (fun _ => ?_)
            show rG p l e rX6_close s m args below meth c E A 3 0 0 Q [cO x0 6 [.int (iI 0), .ref x1, .ref x2, .ref x3, .ref x4, .ref x5, .ref x6, .ref x7, .ref x8, .ref x9, .ref x10, .ref x11, .ref x12, .ref x13, .ref x14, .ref x15, .ref x16, .int (iI dy), .ref x18, .ref x19, .ref x20, .ref x21, .int (iI cn)], cZ E x1 32 isR, cI E x2 32 dn, cI E x3 32 inf, cZ E x4 8 isS, cI E x5 8 sR, cI E x6 8 cap, cI E x7 8 hol, cJ E x8 256 rls, cZ E x9 40 isG, cI E x10 40 plc, cI E x11 40 pri, cI E x12 40 rte, cI E x13 40 shr, cI E x14 40 bck, cI E x15 40 sto, cI E x16 40 wnt, cJ E x18 300 (bk5 bks pg (e0 + inf k.toNat) e1 0 0 0), cI E x19 40 (am cn.toNat), cI E x20 40 fst, cI E x21 40 (cpZ ag ord cn.toNat)] 103 [(0, .ref x0), (1, .int (iI pg)), (2, .int (iI k))] [.long (lI (natM isR dn inf isG plc bck sto shr (am cn.toNat) k)), .int (iI (pg + 1)), .ref x18]
            refine rg_last (ws' := [cO x0 6 [.int (iI 0), .ref x1, .ref x2, .ref x3, .ref x4, .ref x5, .ref x6, .ref x7, .ref x8, .ref x9, .ref x10, .ref x11, .ref x12, .ref x13, .ref x14, .ref x15, .ref x16, .int (iI dy), .ref x18, .ref x19, .ref x20, .ref x21, .int (iI cn)], cZ E x1 32 isR, cI E x2 32 dn, cI E x3 32 inf, cZ E x4 8 isS, cI E x5 8 sR, cI E x6 8 cap, cI E x7 8 hol, cJ E x8 256 rls, cZ E x9 40 isG, cI E x10 40 plc, cI E x11 40 pri, cI E x12 40 rte, cI E x13 40 shr, cI E x14 40 bck, cI E x15 40 sto, cI E x16 40 wnt, cJ E x18 300 (uZ (bk5 bks pg (e0 + inf k.toNat) e1 0 0 0) (pg + 1).toNat (natM isR dn inf isG plc bck sto shr (am cn.toNat) k)), cI E x19 40 (am cn.toNat), cI E x20 40 fst, cI E x21 40 (cpZ ag ord cn.toNat)]) C 17 rfl (by decide) (by omega) (by omega) dX6_close_103 rfl ?_
            rw [bk5_u1 bks hp0]
            refine rg_iinc (k := 2) (lv' := [(2, .int (iI (k + 1))), (0, .ref x0), (1, .int (iI pg))]) C dX6_close_104 rfl (by decide) rfl ?_
            refine rg_goto (tgt := 47) C dX6_close_107 (by decide) ?_
            refine rG.plv [1, 2, 0] rfl ?_
            exact ih (k + 1) (e0 + inf k.toNat) (natM isR dn inf isG plc bck sto shr (am cn.toNat) k) (by omega) (by rw [sumTo_s _ h1.1, h3]; unfold inR; rw [if_pos h_59]) (by rw [outV_s h1.1, if_pos ⟨by omega, by omega⟩]) (by omega)
        · refine rg_goto (tgt := 104) C dX6_close_62 (by decide) ?_
          refine rg_iinc (k := 2) (lv' := [(2, .int (iI (k + 1))), (0, .ref x0), (1, .int (iI pg))]) C dX6_close_104 rfl (by decide) rfl ?_
          refine rg_goto (tgt := 47) C dX6_close_107 (by decide) ?_
          refine rG.plv [1, 2, 0] rfl ?_
          exact ih (k + 1) e0 e1 (by omega) (by rw [sumTo_s _ h1.1, h3]; unfold inR; rw [if_neg (by omega)]; omega) (by rw [outV_s h1.1, if_neg (by omega)]; exact h4) (by omega)
  have L25 : ∀ (n : Nat) (k : Int), (0 ≤ k ∧ k ≤ 5) → ((5 - k).toNat < n) → rG p l e rX6_close s m args below meth c E A 3 0 0 Q [cO x0 6 [.int (iI 0), .ref x1, .ref x2, .ref x3, .ref x4, .ref x5, .ref x6, .ref x7, .ref x8, .ref x9, .ref x10, .ref x11, .ref x12, .ref x13, .ref x14, .ref x15, .ref x16, .int (iI dy), .ref x18, .ref x19, .ref x20, .ref x21, .int (iI cn)], cZ E x1 32 isR, cI E x2 32 dn, cI E x3 32 inf, cZ E x4 8 isS, cI E x5 8 sR, cI E x6 8 cap, cI E x7 8 hol, cJ E x8 256 rls, cZ E x9 40 isG, cI E x10 40 plc, cI E x11 40 pri, cI E x12 40 rte, cI E x13 40 shr, cI E x14 40 bck, cI E x15 40 sto, cI E x16 40 wnt, cJ E x18 300 (zB bks pg k.toNat), cI E x19 40 (am cn.toNat), cI E x20 40 fst, cI E x21 40 (cpZ ag ord cn.toNat)] 25 [(0, .ref x0), (1, .int (iI pg)), (2, .int (iI k))] [] := by
    intro n
    induction n with
    | zero => intro k h1 hm; exact absurd hm (Nat.not_lt_zero _)
    | succ n ih =>
      intro k h1 hm
      refine rg_iload_n C 2 dX6_close_25 rfl rfl ?_
      refine rg_iconst C dX6_close_26 ?_
      refine rg_icmp_ge (tgt := 45) C ⟨by omega, by omega⟩ ⟨by decide, by decide⟩ dX6_close_27 (by decide) (fun h_27 => ?_) (fun h_27 => ?_)
      · rw [show k.toNat = 5 by omega, zB_5]
        refine rg_iconst C dX6_close_45 ?_
        refine rg_istore_n (lv' := [(2, .int (iI 0)), (0, .ref x0), (1, .int (iI pg))]) C dX6_close_46 rfl (by decide) rfl ?_
        refine rG.plv [1, 2, 0] rfl ?_
        exact L47 _ 0 0 0 (by omega) rfl rfl (Nat.lt_succ_self _)
      · refine rg_aload_n C 0 dX6_close_30 rfl rfl ?_
        refine rg_get C fX6_60 0 rfl rfl dX6_close_31 ?_
        refine rg_iload_n C 1 dX6_close_34 rfl rfl ?_
        refine rg_iload_n C 2 dX6_close_35 rfl rfl ?_
        refine rg_iadd C dX6_close_36 ?_
        refine rg_lconst (z := 0) C dX6_close_37 (by decide) ?_
        refine rg_last (ws' := [cO x0 6 [.int (iI 0), .ref x1, .ref x2, .ref x3, .ref x4, .ref x5, .ref x6, .ref x7, .ref x8, .ref x9, .ref x10, .ref x11, .ref x12, .ref x13, .ref x14, .ref x15, .ref x16, .int (iI dy), .ref x18, .ref x19, .ref x20, .ref x21, .int (iI cn)], cZ E x1 32 isR, cI E x2 32 dn, cI E x3 32 inf, cZ E x4 8 isS, cI E x5 8 sR, cI E x6 8 cap, cI E x7 8 hol, cJ E x8 256 rls, cZ E x9 40 isG, cI E x10 40 plc, cI E x11 40 pri, cI E x12 40 rte, cI E x13 40 shr, cI E x14 40 bck, cI E x15 40 sto, cI E x16 40 wnt, cJ E x18 300 (uZ (zB bks pg k.toNat) (pg + k).toNat 0), cI E x19 40 (am cn.toNat), cI E x20 40 fst, cI E x21 40 (cpZ ag ord cn.toNat)]) C 17 rfl (by decide) (by omega) (by omega) dX6_close_38 rfl ?_
        rw [zB_s bks pg h1.1]
        refine rg_iinc (k := 2) (lv' := [(2, .int (iI (k + 1))), (0, .ref x0), (1, .int (iI pg))]) C dX6_close_39 rfl (by decide) rfl ?_
        refine rg_goto (tgt := 25) C dX6_close_42 (by decide) ?_
        refine rG.plv [1, 2, 0] rfl ?_
        exact ih (k + 1) (by omega) (by omega)
  show rG p l e rX6_close s m args below meth c E A 3 0 0 Q [cO x0 6 [.int (iI thr), .ref x1, .ref x2, .ref x3, .ref x4, .ref x5, .ref x6, .ref x7, .ref x8, .ref x9, .ref x10, .ref x11, .ref x12, .ref x13, .ref x14, .ref x15, .ref x16, .int (iI dy), .ref x18, .ref x19, .ref x20, .ref x21, .int (iI rgs)], cZ E x1 32 isR, cI E x2 32 dn, cI E x3 32 inf, cZ E x4 8 isS, cI E x5 8 sR, cI E x6 8 cap, cI E x7 8 hol, cJ E x8 256 rls, cZ E x9 40 isG, cI E x10 40 plc, cI E x11 40 pri, cI E x12 40 rte, cI E x13 40 shr, cI E x14 40 bck, cI E x15 40 sto, cI E x16 40 wnt, cJ E x18 300 bks, cI E x19 40 amt, cI E x20 40 fst, cI E x21 40 ord] 0 [(0, .ref x0)] []
  refine rg_aload_n C 0 dX6_close_0 rfl rfl ?_
  refine rg_iconst C dX6_close_1 ?_
  refine rg_put (ws' := [cO x0 6 [.int (iI 0), .ref x1, .ref x2, .ref x3, .ref x4, .ref x5, .ref x6, .ref x7, .ref x8, .ref x9, .ref x10, .ref x11, .ref x12, .ref x13, .ref x14, .ref x15, .ref x16, .int (iI dy), .ref x18, .ref x19, .ref x20, .ref x21, .int (iI rgs)], cZ E x1 32 isR, cI E x2 32 dn, cI E x3 32 inf, cZ E x4 8 isS, cI E x5 8 sR, cI E x6 8 cap, cI E x7 8 hol, cJ E x8 256 rls, cZ E x9 40 isG, cI E x10 40 plc, cI E x11 40 pri, cI E x12 40 rte, cI E x13 40 shr, cI E x14 40 bck, cI E x15 40 sto, cI E x16 40 wnt, cJ E x18 300 bks, cI E x19 40 amt, cI E x20 40 fst, cI E x21 40 ord]) C fX6_72 layX6 rfl 0 rfl rfl rfl (Nat.le_of_ble_eq_true rfl) dX6_close_2 rfl ?_
  refine rg_aload_n C 0 dX6_close_5 rfl rfl ?_
  refine rg_iconst C dX6_close_6 ?_
  refine rg_iconst C dX6_close_7 ?_
  refine rg_iconst C dX6_close_8 ?_
  refine rg_callV (As := [.int (iI (-1)), .int (iI (-1)), .int (iI 0)]) (rest := []) (wr := []) (w' := fun _ => [cO x0 6 [.int (iI 0), .ref x1, .ref x2, .ref x3, .ref x4, .ref x5, .ref x6, .ref x7, .ref x8, .ref x9, .ref x10, .ref x11, .ref x12, .ref x13, .ref x14, .ref x15, .ref x16, .int (iI dy), .ref x18, .ref x19, .ref x20, .ref x21, .int (iI cn)], cZ E x1 32 isR, cI E x2 32 dn, cI E x3 32 inf, cZ E x4 8 isS, cI E x5 8 sR, cI E x6 8 cap, cI E x7 8 hol, cJ E x8 256 rls, cZ E x9 40 isG, cI E x10 40 plc, cI E x11 40 pri, cI E x12 40 rte, cI E x13 40 shr, cI E x14 40 bck, cI E x15 40 sto, cI E x16 40 wnt, cJ E x18 300 bks, cI E x19 40 (am cn.toNat), cI E x20 40 fst, cI E x21 40 (cpZ ag ord cn.toNat)]) C (kX6_makeN l E x0 x1 x2 x3 x4 x5 x6 x7 x8 x9 x10 x11 x12 x13 x14 x15 x16 x18 x19 x20 x21 isR dn inf isS sR cap hol rls isG plc pri rte shr bck sto wnt bks amt fst ord 0 dy rgs ag cn am (-1) hdn hpe hir hig hinf hrg hsto hcap hord hp1 hpri hwn (⟨by decide, by decide⟩) ha0 hmk hamc) (rcwV C mX6_make w_758 ⟨Nat.le_of_ble_eq_true rfl, Nat.le_of_ble_eq_true rfl⟩) [0, 1, 2, 3, 4, 5, 6, 7, 8, 9, 10, 11, 12, 13, 14, 15, 16, 17, 18, 19, 20] [] [0, 1, 2, 3, 4, 5, 6, 7, 8, 9, 10, 11, 12, 13, 14, 15, 16, 17, 18, 19, 20] rfl rfl (by decide) (by decide) (by decide) (fun _ => rfl) (by decide) 0 rfl rfl rfl rfl (Nat.le_of_ble_eq_true rfl) dX6_close_9 ⟨Nat.le_of_ble_eq_true rfl, Nat.le_of_ble_eq_true rfl⟩ (fun _ => ?_)
  show rG p l e rX6_close s m args below meth c E A 3 0 0 Q [cO x0 6 [.int (iI 0), .ref x1, .ref x2, .ref x3, .ref x4, .ref x5, .ref x6, .ref x7, .ref x8, .ref x9, .ref x10, .ref x11, .ref x12, .ref x13, .ref x14, .ref x15, .ref x16, .int (iI dy), .ref x18, .ref x19, .ref x20, .ref x21, .int (iI cn)], cZ E x1 32 isR, cI E x2 32 dn, cI E x3 32 inf, cZ E x4 8 isS, cI E x5 8 sR, cI E x6 8 cap, cI E x7 8 hol, cJ E x8 256 rls, cZ E x9 40 isG, cI E x10 40 plc, cI E x11 40 pri, cI E x12 40 rte, cI E x13 40 shr, cI E x14 40 bck, cI E x15 40 sto, cI E x16 40 wnt, cJ E x18 300 bks, cI E x19 40 (am cn.toNat), cI E x20 40 fst, cI E x21 40 (cpZ ag ord cn.toNat)] 12 [(0, .ref x0)] [.int (iI 1)]
  refine rg_pop C dX6_close_12 rfl ?_
  refine rg_iconst C dX6_close_13 ?_
  refine rg_aload_n C 0 dX6_close_14 rfl rfl ?_
  refine rg_get C fX6_128 0 rfl rfl dX6_close_15 ?_
  refine rg_bipush (z := 60) C dX6_close_18 (by decide) ?_
  refine rg_irem C ⟨by omega, by omega⟩ (by omega) (by omega) ⟨by decide, by decide⟩ dX6_close_20 ?_
  refine rg_imul C dX6_close_21 ?_
  rw [← hpg]
  refine rg_istore_n (lv' := [(1, .int (iI pg)), (0, .ref x0)]) C dX6_close_22 rfl (by decide) rfl ?_
  refine rg_iconst C dX6_close_23 ?_
  refine rg_istore_n (lv' := [(2, .int (iI 0)), (1, .int (iI pg)), (0, .ref x0)]) C dX6_close_24 rfl (by decide) rfl ?_
  refine rG.plv [2, 1, 0] rfl ?_
  exact L25 _ 0 (by omega) (Nat.lt_succ_self _)
