theorem uZ_uZ (f : Nat → Int) (i : Nat) (x z : Int) : uZ (uZ f i z) i x = uZ f i x := by
  funext j; unfold uZ
  by_cases h : j = i
  · rw [if_pos h, if_pos h]
  · rw [if_neg h, if_neg h, if_neg h]
theorem uZ_bd {f : Nat → Int} {i : Nat} {v : Int} (h : ∀ j : Nat, j < 40 → 0 ≤ f j ∧ f j ≤ 1000000000) (hv : 0 ≤ v ∧ v ≤ 1000000000) : ∀ j : Nat, j < 40 → 0 ≤ uZ f i v j ∧ uZ f i v j ≤ 1000000000 := by
  intro j hj; unfold uZ
  by_cases e : j = i
  · rw [if_pos e]; exact hv
  · rw [if_neg e]; exact h j hj
theorem cpZ_lt (f g : Nat → Int) {n k : Nat} (h : k < n) : cpZ f g n k = f k := by unfold cpZ; rw [if_pos h]
/-- one step of the making of a plan: a right passed over, or the most that still holds -/
def mkS (hold : (Nat → Int) → Int → Bool) (wnt ag : Nat → Int) (w fi : Int) (am : Nat → Nat → Int) (c : Int) : Prop := ((ag c.toNat = w ∨ ag c.toNat = fi) ∧ am (c + 1).toNat = am c.toNat) ∨ (ag c.toNat ≠ w ∧ ag c.toNat ≠ fi ∧ ∃ M, (0 ≤ M ∧ M ≤ wnt (ag c.toNat).toNat) ∧ am (c + 1).toNat = uZ (am c.toNat) (ag c.toNat).toNat M ∧ ∀ x, 0 ≤ x → x ≤ wnt (ag c.toNat).toNat → (hold (uZ (am c.toNat) (ag c.toNat).toNat x) (ag c.toNat) = true ↔ x ≤ M))
theorem mkS_n {hold : (Nat → Int) → Int → Bool} {wnt ag : Nat → Int} {w fi : Int} {am : Nat → Nat → Int} {c : Int} (h : mkS hold wnt ag w fi am c) (h1 : ag c.toNat ≠ w) (h2 : ag c.toNat ≠ fi) : ∃ M, (0 ≤ M ∧ M ≤ wnt (ag c.toNat).toNat) ∧ am (c + 1).toNat = uZ (am c.toNat) (ag c.toNat).toNat M ∧ ∀ x, 0 ≤ x → x ≤ wnt (ag c.toNat).toNat → (hold (uZ (am c.toNat) (ag c.toNat).toNat x) (ag c.toNat) = true ↔ x ≤ M) := by
  rcases h with q | q
  · exact absurd q.1 (by omega)
  · exact q.2.2
abbrev rX6_make : Room := { frames := 3, cells := 0, slots := 0, locals := 72 }
set_option maxHeartbeats 4000000 in
set_option maxRecDepth 100000 in
/-- kX6_makeN -/
theorem kX6_makeN (l : Launch) (E : rE) (x0 : Nat) (x1 : Nat) (x2 : Nat) (x3 : Nat) (x4 : Nat) (x5 : Nat) (x6 : Nat) (x7 : Nat) (x8 : Nat) (x9 : Nat) (x10 : Nat) (x11 : Nat) (x12 : Nat) (x13 : Nat) (x14 : Nat) (x15 : Nat) (x16 : Nat) (x18 : Nat) (x19 : Nat) (x20 : Nat) (x21 : Nat) (isR : Nat → Int) (dn : Nat → Int) (inf : Nat → Int) (isS : Nat → Int) (sR : Nat → Int) (cap : Nat → Int) (hol : Nat → Int) (rls : Nat → Int) (isG : Nat → Int) (plc : Nat → Int) (pri : Nat → Int) (rte : Nat → Int) (shr : Nat → Int) (bck : Nat → Int) (sto : Nat → Int) (wnt : Nat → Int) (bks : Nat → Int) (amt : Nat → Int) (fst : Nat → Int) (ord : Nat → Int) (thr : Int) (dy : Int) (rgs : Int) (ag : Nat → Int) (cn : Int) (am : Nat → Nat → Int) (w : Int) (hdn : ∀ r : Nat, r < 32 → -1 ≤ dn r ∧ dn r < 32) (hpe : ∀ k : Nat, k < 32 → isR k ≠ 0 → pEnd dn 32 (k : Int)) (hir : ∀ r : Nat, r < 32 → isR r = 0 ∨ isR r = 1) (hig : ∀ r : Nat, r < 40 → isG r = 0 ∨ isG r = 1) (hinf : ∀ r : Nat, r < 32 → 0 ≤ inf r ∧ inf r ≤ 1000000000) (hrg : ∀ i : Nat, i < 40 → isG i ≠ 0 → (0 ≤ plc i ∧ plc i < 32 ∧ pEnd dn 32 (plc i)) ∧ (sto i < 0 → 0 ≤ bck i ∧ bck i < 32 ∧ pEnd dn 32 (bck i) ∧ 0 ≤ shr i ∧ shr i ≤ 1000)) (hsto : ∀ i : Nat, i < 40 → -1 ≤ sto i ∧ sto i < 8) (hcap : ∀ s : Nat, s < 8 → (0 ≤ cap s ∧ cap s ≤ 1000000000) ∧ 0 ≤ hol s ∧ hol s ≤ cap s) (hord : isOrd isG pri ag cn) (hp1 : ∀ i : Nat, i < 40 → isG i ≠ 0 → 1 ≤ pri i) (hpri : ∀ i : Nat, i < 40 → inI (pri i)) (hwn : ∀ i : Nat, i < 40 → 0 ≤ wnt i ∧ wnt i ≤ 1000000000) (hwi : inI w) (ha0 : am 0 = cpZ (fun _ => 0) amt 40) (hmk : ∀ c : Int, 0 ≤ c → c < cn → mkS (hldM isR dn inf isG plc bck sto shr cap hol) wnt ag w (-1) am c) (hamc : ∀ c : Int, 0 ≤ c → c ≤ cn → ∀ i : Nat, i < 40 → 0 ≤ am c.toNat i ∧ am c.toNat i ≤ 1000000000) : rM l yX6_make sX6_make rX6_make E [cO x0 6 [.int (iI thr), .ref x1, .ref x2, .ref x3, .ref x4, .ref x5, .ref x6, .ref x7, .ref x8, .ref x9, .ref x10, .ref x11, .ref x12, .ref x13, .ref x14, .ref x15, .ref x16, .int (iI dy), .ref x18, .ref x19, .ref x20, .ref x21, .int (iI rgs)], cZ E x1 32 isR, cI E x2 32 dn, cI E x3 32 inf, cZ E x4 8 isS, cI E x5 8 sR, cI E x6 8 cap, cI E x7 8 hol, cJ E x8 256 rls, cZ E x9 40 isG, cI E x10 40 plc, cI E x11 40 pri, cI E x12 40 rte, cI E x13 40 shr, cI E x14 40 bck, cI E x15 40 sto, cI E x16 40 wnt, cJ E x18 300 bks, cI E x19 40 amt, cI E x20 40 fst, cI E x21 40 ord] [.ref x0, .int (iI w), .int (iI (-1)), .int (iI 0)] (some (.int (iI 1))) (fun _ : Unit => [cO x0 6 [.int (iI thr), .ref x1, .ref x2, .ref x3, .ref x4, .ref x5, .ref x6, .ref x7, .ref x8, .ref x9, .ref x10, .ref x11, .ref x12, .ref x13, .ref x14, .ref x15, .ref x16, .int (iI dy), .ref x18, .ref x19, .ref x20, .ref x21, .int (iI cn)], cZ E x1 32 isR, cI E x2 32 dn, cI E x3 32 inf, cZ E x4 8 isS, cI E x5 8 sR, cI E x6 8 cap, cI E x7 8 hol, cJ E x8 256 rls, cZ E x9 40 isG, cI E x10 40 plc, cI E x11 40 pri, cI E x12 40 rte, cI E x13 40 shr, cI E x14 40 bck, cI E x15 40 sto, cI E x16 40 wnt, cJ E x18 300 bks, cI E x19 40 (am cn.toNat), cI E x20 40 fst, cI E x21 40 (cpZ ag ord cn.toNat)]) := by
  refine rM.of (cc := cX6_make) (maxL := 8) (ret := (some FieldType.boolean)) (by decide) rfl (Nat.le_of_ble_eq_true rfl) (fun w h => List.mem_cons_of_mem _ h) ?_
  intro p e s m args below meth c A Q hA hQ C hr hlk hnm
  have C : rC p s m args c E A 8 cX6_make sX6_make RX6 := C
  obtain ⟨ho1, ho2, ho3, ho4⟩ := id hord
  have L7 : ∀ (n : Nat) (k : Int), (0 ≤ k ∧ k ≤ 40) → (∀ (z8 : Int), (z8 = 40) → rG p l e rX6_make s m args below meth c E A 8 0 0 Q [cO x0 6 [.int (iI thr), .ref x1, .ref x2, .ref x3, .ref x4, .ref x5, .ref x6, .ref x7, .ref x8, .ref x9, .ref x10, .ref x11, .ref x12, .ref x13, .ref x14, .ref x15, .ref x16, .int (iI dy), .ref x18, .ref x19, .ref x20, .ref x21, .int (iI cn)], cZ E x1 32 isR, cI E x2 32 dn, cI E x3 32 inf, cZ E x4 8 isS, cI E x5 8 sR, cI E x6 8 cap, cI E x7 8 hol, cJ E x8 256 rls, cZ E x9 40 isG, cI E x10 40 plc, cI E x11 40 pri, cI E x12 40 rte, cI E x13 40 shr, cI E x14 40 bck, cI E x15 40 sto, cI E x16 40 wnt, cJ E x18 300 bks, cI E x19 40 (cpZ (fun _ => 0) amt z8.toNat), cI E x20 40 fst, cI E x21 40 (cpZ ag ord cn.toNat)] 28 [(0, .ref x0), (1, .int (iI w)), (2, .int (iI (-1))), (3, .int (iI 0))] []) → ((40 - k).toNat < n) → rG p l e rX6_make s m args below meth c E A 8 0 0 Q [cO x0 6 [.int (iI thr), .ref x1, .ref x2, .ref x3, .ref x4, .ref x5, .ref x6, .ref x7, .ref x8, .ref x9, .ref x10, .ref x11, .ref x12, .ref x13, .ref x14, .ref x15, .ref x16, .int (iI dy), .ref x18, .ref x19, .ref x20, .ref x21, .int (iI cn)], cZ E x1 32 isR, cI E x2 32 dn, cI E x3 32 inf, cZ E x4 8 isS, cI E x5 8 sR, cI E x6 8 cap, cI E x7 8 hol, cJ E x8 256 rls, cZ E x9 40 isG, cI E x10 40 plc, cI E x11 40 pri, cI E x12 40 rte, cI E x13 40 shr, cI E x14 40 bck, cI E x15 40 sto, cI E x16 40 wnt, cJ E x18 300 bks, cI E x19 40 (cpZ (fun _ => 0) amt k.toNat), cI E x20 40 fst, cI E x21 40 (cpZ ag ord cn.toNat)] 7 [(0, .ref x0), (1, .int (iI w)), (2, .int (iI (-1))), (3, .int (iI 0)), (4, .int (iI k))] [] := by
    intro n
    induction n with
    | zero => intro k h1 kZ hm; exact absurd hm (Nat.not_lt_zero _)
    | succ n ih =>
      intro k h1 kZ hm
      refine rg_iload C 4 dX6_make_7 rfl ?_
      refine rg_bipush (z := 40) C dX6_make_9 (by decide) ?_
      refine rg_icmp_ge (tgt := 28) C ⟨by omega, by omega⟩ ⟨by decide, by decide⟩ dX6_make_11 (by decide) (fun h_11 => ?_) (fun h_11 => ?_)
      · refine rG.plv [0, 1, 2, 3] rfl ?_
        exact kZ k (by omega)
      · refine rg_aload_n C 0 dX6_make_14 rfl rfl ?_
        refine rg_get C fX6_63 0 rfl rfl dX6_make_15 ?_
        refine rg_iload C 4 dX6_make_18 rfl ?_
        refine rg_iconst C dX6_make_20 ?_
        refine rg_iast (ws' := [cO x0 6 [.int (iI thr), .ref x1, .ref x2, .ref x3, .ref x4, .ref x5, .ref x6, .ref x7, .ref x8, .ref x9, .ref x10, .ref x11, .ref x12, .ref x13, .ref x14, .ref x15, .ref x16, .int (iI dy), .ref x18, .ref x19, .ref x20, .ref x21, .int (iI cn)], cZ E x1 32 isR, cI E x2 32 dn, cI E x3 32 inf, cZ E x4 8 isS, cI E x5 8 sR, cI E x6 8 cap, cI E x7 8 hol, cJ E x8 256 rls, cZ E x9 40 isG, cI E x10 40 plc, cI E x11 40 pri, cI E x12 40 rte, cI E x13 40 shr, cI E x14 40 bck, cI E x15 40 sto, cI E x16 40 wnt, cJ E x18 300 bks, cI E x19 40 (uZ (cpZ (fun _ => 0) amt k.toNat) k.toNat 0), cI E x20 40 fst, cI E x21 40 (cpZ ag ord cn.toNat)]) C 18 rfl (by decide) (by omega) (by omega) dX6_make_21 rfl ?_
        rw [cpZ_s (fun _ => 0) amt h1.1]
        refine rg_iinc (k := 4) (lv' := [(4, .int (iI (k + 1))), (0, .ref x0), (1, .int (iI w)), (2, .int (iI (-1))), (3, .int (iI 0))]) C dX6_make_22 rfl (by decide) rfl ?_
        refine rg_goto (tgt := 7) C dX6_make_25 (by decide) ?_
        refine rG.plv [1, 2, 3, 4, 0] rfl ?_
        exact ih (k + 1) (by omega) kZ (by omega)
  have L99 : ∀ (n : Nat) (c0 : Int) (mx : Int) (lo : Int) (hi : Int) (f : Nat → Int), (0 ≤ c0 ∧ c0 < cn) → ((0 ≤ mx ∧ mx ≤ wnt (ag c0.toNat).toNat) ∧ ∀ x, 0 ≤ x → x ≤ wnt (ag c0.toNat).toNat → (hldM isR dn inf isG plc bck sto shr cap hol (uZ (am c0.toNat) (ag c0.toNat).toNat x) (ag c0.toNat) = true ↔ x ≤ mx)) → (0 ≤ lo ∧ lo ≤ mx ∧ mx < hi ∧ hi ≤ wnt (ag c0.toNat).toNat + 1) → (∀ x, uZ f (ag c0.toNat).toNat x = uZ (am c0.toNat) (ag c0.toNat).toNat x) → (∀ (lo : Int) (f : Nat → Int), (lo = mx) → (∀ x, uZ f (ag c0.toNat).toNat x = uZ (am c0.toNat) (ag c0.toNat).toNat x) → rG p l e rX6_make s m args below meth c E A 8 0 0 Q [cO x0 6 [.int (iI thr), .ref x1, .ref x2, .ref x3, .ref x4, .ref x5, .ref x6, .ref x7, .ref x8, .ref x9, .ref x10, .ref x11, .ref x12, .ref x13, .ref x14, .ref x15, .ref x16, .int (iI dy), .ref x18, .ref x19, .ref x20, .ref x21, .int (iI cn)], cZ E x1 32 isR, cI E x2 32 dn, cI E x3 32 inf, cZ E x4 8 isS, cI E x5 8 sR, cI E x6 8 cap, cI E x7 8 hol, cJ E x8 256 rls, cZ E x9 40 isG, cI E x10 40 plc, cI E x11 40 pri, cI E x12 40 rte, cI E x13 40 shr, cI E x14 40 bck, cI E x15 40 sto, cI E x16 40 wnt, cJ E x18 300 bks, cI E x19 40 f, cI E x20 40 fst, cI E x21 40 (cpZ ag ord cn.toNat)] 158 [(0, .ref x0), (1, .int (iI w)), (2, .int (iI (-1))), (3, .int (iI 0)), (4, .int (iI c0)), (5, .int (iI (ag c0.toNat))), (6, .int (iI lo))] []) → ((hi - lo).toNat < n) → rG p l e rX6_make s m args below meth c E A 8 0 0 Q [cO x0 6 [.int (iI thr), .ref x1, .ref x2, .ref x3, .ref x4, .ref x5, .ref x6, .ref x7, .ref x8, .ref x9, .ref x10, .ref x11, .ref x12, .ref x13, .ref x14, .ref x15, .ref x16, .int (iI dy), .ref x18, .ref x19, .ref x20, .ref x21, .int (iI cn)], cZ E x1 32 isR, cI E x2 32 dn, cI E x3 32 inf, cZ E x4 8 isS, cI E x5 8 sR, cI E x6 8 cap, cI E x7 8 hol, cJ E x8 256 rls, cZ E x9 40 isG, cI E x10 40 plc, cI E x11 40 pri, cI E x12 40 rte, cI E x13 40 shr, cI E x14 40 bck, cI E x15 40 sto, cI E x16 40 wnt, cJ E x18 300 bks, cI E x19 40 f, cI E x20 40 fst, cI E x21 40 (cpZ ag ord cn.toNat)] 99 [(0, .ref x0), (1, .int (iI w)), (2, .int (iI (-1))), (3, .int (iI 0)), (4, .int (iI c0)), (5, .int (iI (ag c0.toNat))), (6, .int (iI lo)), (7, .int (iI hi))] [] := by
    intro n
    induction n with
    | zero => intro c0 mx lo hi f h1 h2 h3 hf kI hm; exact absurd hm (Nat.not_lt_zero _)
    | succ n ih =>
      intro c0 mx lo hi f h1 h2 h3 hf kI hm
      have hg4 := ho2 c0.toNat (by omega)
      have hw4 := hwn (ag c0.toNat).toNat (by omega)
      have hg5 := hg4.2.2
      obtain ⟨hm1, hm3⟩ := id h2
      refine rg_iload C 7 dX6_make_99 rfl ?_
      refine rg_iload C 6 dX6_make_101 rfl ?_
      refine rg_isub C dX6_make_103 ?_
      refine rg_iconst C dX6_make_104 ?_
      refine rg_icmp_le (tgt := 158) C ⟨by omega, by omega⟩ ⟨by decide, by decide⟩ dX6_make_105 (by decide) (fun h_105 => ?_) (fun h_105 => ?_)
      · refine rG.plv [0, 1, 2, 3, 4, 5, 6] rfl ?_
        exact kI lo f (by omega) hf
      · refine rg_aload_n C 0 dX6_make_108 rfl rfl ?_
        refine rg_get C fX6_63 0 rfl rfl dX6_make_109 ?_
        refine rg_iload C 5 dX6_make_112 rfl ?_
        refine rg_iload C 6 dX6_make_114 rfl ?_
        refine rg_iload C 7 dX6_make_116 rfl ?_
        refine rg_iload C 6 dX6_make_118 rfl ?_
        refine rg_isub C dX6_make_120 ?_
        refine rg_iconst C dX6_make_121 ?_
        refine rg_idiv C ⟨by omega, by omega⟩ (by omega) (by omega) ⟨by decide, by decide⟩ dX6_make_122 ?_
        refine rg_iadd C dX6_make_123 ?_
        refine rg_iast (ws' := [cO x0 6 [.int (iI thr), .ref x1, .ref x2, .ref x3, .ref x4, .ref x5, .ref x6, .ref x7, .ref x8, .ref x9, .ref x10, .ref x11, .ref x12, .ref x13, .ref x14, .ref x15, .ref x16, .int (iI dy), .ref x18, .ref x19, .ref x20, .ref x21, .int (iI cn)], cZ E x1 32 isR, cI E x2 32 dn, cI E x3 32 inf, cZ E x4 8 isS, cI E x5 8 sR, cI E x6 8 cap, cI E x7 8 hol, cJ E x8 256 rls, cZ E x9 40 isG, cI E x10 40 plc, cI E x11 40 pri, cI E x12 40 rte, cI E x13 40 shr, cI E x14 40 bck, cI E x15 40 sto, cI E x16 40 wnt, cJ E x18 300 bks, cI E x19 40 (uZ f (ag c0.toNat).toNat (lo + ((hi - lo) / 2))), cI E x20 40 fst, cI E x21 40 (cpZ ag ord cn.toNat)]) C 18 rfl (by decide) (by omega) (by omega) dX6_make_124 rfl ?_
        rw [hf (lo + (hi - lo) / 2)]
        refine rg_aload_n C 0 dX6_make_125 rfl rfl ?_
        refine rg_iload C 5 dX6_make_126 rfl ?_
        refine rg_callV (As := [.int (iI (ag c0.toNat))]) (rest := []) (wr := []) (w' := fun _ => [cO x0 6 [.int (iI thr), .ref x1, .ref x2, .ref x3, .ref x4, .ref x5, .ref x6, .ref x7, .ref x8, .ref x9, .ref x10, .ref x11, .ref x12, .ref x13, .ref x14, .ref x15, .ref x16, .int (iI dy), .ref x18, .ref x19, .ref x20, .ref x21, .int (iI cn)], cZ E x1 32 isR, cI E x2 32 dn, cI E x3 32 inf, cZ E x4 8 isS, cI E x5 8 sR, cI E x6 8 cap, cI E x7 8 hol, cJ E x8 256 rls, cZ E x9 40 isG, cI E x10 40 plc, cI E x11 40 pri, cI E x12 40 rte, cI E x13 40 shr, cI E x14 40 bck, cI E x15 40 sto, cI E x16 40 wnt, cJ E x18 300 bks, cI E x19 40 (uZ (am c0.toNat) (ag c0.toNat).toNat (lo + (hi - lo) / 2)), cI E x20 40 fst, cI E x21 40 (cpZ ag ord cn.toNat)]) C (kX6_holdsPlan l E x0 x1 x2 x3 x4 x5 x6 x7 x8 x9 x10 x11 x12 x13 x14 x15 x16 x18 x19 x20 x21 isR dn inf isS sR cap hol rls isG plc pri rte shr bck sto wnt bks (uZ (am c0.toNat) (ag c0.toNat).toNat (lo + (hi - lo) / 2)) fst (cpZ ag ord cn.toNat) thr dy cn (ag c0.toNat) hdn hpe hir hig hinf (by first | omega | assumption) (by first | omega | assumption) (uZ_bd (hamc c0 h1.1 (by omega)) (by omega)) hcap (by omega) hg5) (rcwV C mX6_holdsPlan w_766 ⟨Nat.le_of_ble_eq_true rfl, Nat.le_of_ble_eq_true rfl⟩) [0, 1, 2, 3, 4, 5, 6, 7, 8, 9, 10, 11, 12, 13, 14, 15, 16, 17, 18, 19, 20] [] [0, 1, 2, 3, 4, 5, 6, 7, 8, 9, 10, 11, 12, 13, 14, 15, 16, 17, 18, 19, 20] rfl rfl (by decide) (by decide) (by decide) (fun _ => rfl) (by decide) 0 rfl rfl rfl rfl (Nat.le_of_ble_eq_true rfl) dX6_make_128 ⟨Nat.le_of_ble_eq_true rfl, Nat.le_of_ble_eq_true rfl⟩ (fun _ => ?_)
        show rG p l e rX6_make s m args below meth c E A 8 0 0 Q [cO x0 6 [.int (iI thr), .ref x1, .ref x2, .ref x3, .ref x4, .ref x5, .ref x6, .ref x7, .ref x8, .ref x9, .ref x10, .ref x11, .ref x12, .ref x13, .ref x14, .ref x15, .ref x16, .int (iI dy), .ref x18, .ref x19, .ref x20, .ref x21, .int (iI cn)], cZ E x1 32 isR, cI E x2 32 dn, cI E x3 32 inf, cZ E x4 8 isS, cI E x5 8 sR, cI E x6 8 cap, cI E x7 8 hol, cJ E x8 256 rls, cZ E x9 40 isG, cI E x10 40 plc, cI E x11 40 pri, cI E x12 40 rte, cI E x13 40 shr, cI E x14 40 bck, cI E x15 40 sto, cI E x16 40 wnt, cJ E x18 300 bks, cI E x19 40 (uZ (am c0.toNat) (ag c0.toNat).toNat (lo + (hi - lo) / 2)), cI E x20 40 fst, cI E x21 40 (cpZ ag ord cn.toNat)] 131 [(0, .ref x0), (1, .int (iI w)), (2, .int (iI (-1))), (3, .int (iI 0)), (4, .int (iI c0)), (5, .int (iI (ag c0.toNat))), (6, .int (iI lo)), (7, .int (iI hi))] [.int (iI (bZ (hldM isR dn inf isG plc bck sto shr cap hol (uZ (am c0.toNat) (ag c0.toNat).toNat (lo + (hi - lo) / 2)) (ag c0.toNat))))]
        refine rg_if_eq (tgt := 146) C (bZ_in _) dX6_make_131 (by decide) (fun h_131 => ?_) (fun h_131 => ?_)
        · have hq9 : ¬ (lo + (hi - lo) / 2) ≤ mx := fun q => by
            have q2 := (hm3 (lo + (hi - lo) / 2) (by omega) (by omega)).mpr q
            rw [q2] at h_131
            cases h_131
          refine rg_aload_n C 0 dX6_make_146 rfl rfl ?_
          refine rg_get C fX6_63 0 rfl rfl dX6_make_147 ?_
          refine rg_iload C 5 dX6_make_150 rfl ?_
          refine rg_iald C 18 rfl (by decide) (by omega) (by omega) dX6_make_152 ?_
          rw [uZ_s]
          refine rg_istore (lv' := [(7, .int (iI (lo + (hi - lo) / 2))), (0, .ref x0), (1, .int (iI w)), (2, .int (iI (-1))), (3, .int (iI 0)), (4, .int (iI c0)), (5, .int (iI (ag c0.toNat))), (6, .int (iI lo))]) C dX6_make_153 (by decide) rfl ?_
          refine rg_goto (tgt := 99) C dX6_make_155 (by decide) ?_
          refine rG.plv [1, 2, 3, 4, 5, 6, 7, 0] rfl ?_
          exact ih c0 mx lo (lo + (hi - lo) / 2) (uZ (am c0.toNat) (ag c0.toNat).toNat (lo + (hi - lo) / 2)) h1 h2 (⟨by omega, by omega, by omega, by omega⟩) (fun x => uZ_uZ _ _ _ _) kI (by omega)
        · have hq9 := (hm3 (lo + (hi - lo) / 2) (by omega) (by omega)).mp (bZ_T h_131)
          refine rg_aload_n C 0 dX6_make_134 rfl rfl ?_
          refine rg_get C fX6_63 0 rfl rfl dX6_make_135 ?_
          refine rg_iload C 5 dX6_make_138 rfl ?_
          refine rg_iald C 18 rfl (by decide) (by omega) (by omega) dX6_make_140 ?_
          rw [uZ_s]
          refine rg_istore (lv' := [(6, .int (iI (lo + (hi - lo) / 2))), (0, .ref x0), (1, .int (iI w)), (2, .int (iI (-1))), (3, .int (iI 0)), (4, .int (iI c0)), (5, .int (iI (ag c0.toNat))), (7, .int (iI hi))]) C dX6_make_141 (by decide) rfl ?_
          refine rg_goto (tgt := 99) C dX6_make_143 (by decide) ?_
          refine rG.plv [1, 2, 3, 4, 5, 6, 0, 7] rfl ?_
          exact ih c0 mx (lo + (hi - lo) / 2) hi (uZ (am c0.toNat) (ag c0.toNat).toNat (lo + (hi - lo) / 2)) h1 h2 (⟨by omega, by omega, by omega, by omega⟩) (fun x => uZ_uZ _ _ _ _) kI (by omega)
  have L52 : ∀ (n : Nat) (c0 : Int), (0 ≤ c0 ∧ c0 ≤ cn) → ((cn - c0).toNat < n) → rG p l e rX6_make s m args below meth c E A 8 0 0 Q [cO x0 6 [.int (iI thr), .ref x1, .ref x2, .ref x3, .ref x4, .ref x5, .ref x6, .ref x7, .ref x8, .ref x9, .ref x10, .ref x11, .ref x12, .ref x13, .ref x14, .ref x15, .ref x16, .int (iI dy), .ref x18, .ref x19, .ref x20, .ref x21, .int (iI cn)], cZ E x1 32 isR, cI E x2 32 dn, cI E x3 32 inf, cZ E x4 8 isS, cI E x5 8 sR, cI E x6 8 cap, cI E x7 8 hol, cJ E x8 256 rls, cZ E x9 40 isG, cI E x10 40 plc, cI E x11 40 pri, cI E x12 40 rte, cI E x13 40 shr, cI E x14 40 bck, cI E x15 40 sto, cI E x16 40 wnt, cJ E x18 300 bks, cI E x19 40 (am c0.toNat), cI E x20 40 fst, cI E x21 40 (cpZ ag ord cn.toNat)] 52 [(0, .ref x0), (1, .int (iI w)), (2, .int (iI (-1))), (3, .int (iI 0)), (4, .int (iI c0))] [] := by
    intro n
    induction n with
    | zero => intro c0 h1 hm; exact absurd hm (Nat.not_lt_zero _)
    | succ n ih =>
      intro c0 h1 hm
      refine rg_iload C 4 dX6_make_52 rfl ?_
      refine rg_aload_n C 0 dX6_make_54 rfl rfl ?_
      refine rg_get C fX6_109 0 rfl rfl dX6_make_55 ?_
      refine rg_icmp_ge (tgt := 173) C ⟨by omega, by omega⟩ ⟨by omega, by omega⟩ dX6_make_58 (by decide) (fun h_58 => ?_) (fun h_58 => ?_)
      · refine rg_iconst C dX6_make_173 ?_
        exact rg_zret C hA hQ hr hlk () (by rw [show c0 = cn by omega]) (by first | rfl | decide | exact (bZ_nar _) | (rw [h3]; exact bZ_nar _)) rfl dX6_make_174
      · refine rg_aload_n C 0 dX6_make_61 rfl rfl ?_
        refine rg_get C fX6_69 0 rfl rfl dX6_make_62 ?_
        refine rg_iload C 4 dX6_make_65 rfl ?_
        refine rg_iald C 20 rfl (by decide) (by omega) (by omega) dX6_make_67 ?_
        rw [cpZ_lt ag ord (show c0.toNat < cn.toNat by omega)]
        have hg4 := ho2 c0.toNat (by omega)
        have hw4 := hwn (ag c0.toNat).toNat (by omega)
        refine rg_istore (lv' := [(5, .int (iI (ag c0.toNat))), (0, .ref x0), (1, .int (iI w)), (2, .int (iI (-1))), (3, .int (iI 0)), (4, .int (iI c0))]) C dX6_make_68 (by decide) rfl ?_
        refine rg_iload C 0 dX6_make_70 rfl ?_
        refine rg_iload_n C 2 dX6_make_72 rfl rfl ?_
        refine rg_icmp_eq (tgt := 167) C ⟨by omega, by omega⟩ ⟨by omega, by omega⟩ dX6_make_73 (by decide) (fun h_73 => ?_) (fun h_73 => ?_)
        · have hsk : am c0.toNat = am (c0 + 1).toNat := by
            rcases hmk c0 h1.1 (by omega) with q | q
            · exact q.2.symm
            · exact absurd q.1 (by omega)
          rw [hsk]
          refine rg_iinc (k := 5) (lv' := [(4, .int (iI (c0 + 1))), (5, .int (iI (ag c0.toNat))), (0, .ref x0), (1, .int (iI w)), (2, .int (iI (-1))), (3, .int (iI 0))]) C dX6_make_167 rfl (by decide) rfl ?_
          refine rg_goto (tgt := 52) C dX6_make_170 (by decide) ?_
          refine rG.plv [2, 3, 4, 5, 0] rfl ?_
          exact ih (c0 + 1) (by omega) (by omega)
        · refine rg_iload C 0 dX6_make_76 rfl ?_
          refine rg_iload_n C 3 dX6_make_78 rfl rfl ?_
          refine rg_icmp_ne (tgt := 85) C ⟨by omega, by omega⟩ ⟨by decide, by decide⟩ dX6_make_79 (by decide) (fun h_79 => ?_) (fun h_79 => ?_)
          · obtain ⟨mx, hm1, hm2, hm3⟩ := mkS_n (hmk c0 h1.1 (by omega)) (by omega) (by omega)
            refine rg_iconst C dX6_make_85 ?_
            refine rg_istore (lv' := [(6, .int (iI 0)), (5, .int (iI (ag c0.toNat))), (0, .ref x0), (1, .int (iI w)), (2, .int (iI (-1))), (3, .int (iI 0)), (4, .int (iI c0))]) C dX6_make_86 (by decide) rfl ?_
            refine rg_aload_n C 2 dX6_make_88 rfl rfl ?_
            refine rg_get C fX6_57 0 rfl rfl dX6_make_89 ?_
            refine rg_iload C 1 dX6_make_92 rfl ?_
            refine rg_iald C 16 rfl (by decide) (by omega) (by omega) dX6_make_94 ?_
            refine rg_iconst C dX6_make_95 ?_
            refine rg_iadd C dX6_make_96 ?_
            refine rg_istore (lv' := [(7, .int (iI ((wnt (ag c0.toNat).toNat) + 1))), (6, .int (iI 0)), (5, .int (iI (ag c0.toNat))), (0, .ref x0), (1, .int (iI w)), (2, .int (iI (-1))), (3, .int (iI 0)), (4, .int (iI c0))]) C dX6_make_97 (by decide) rfl ?_
            refine rG.plv [3, 4, 5, 6, 7, 2, 1, 0] rfl ?_
            refine L99 _ c0 mx 0 ((wnt (ag c0.toNat).toNat) + 1) (am c0.toNat) (⟨h1.1, by omega⟩) (⟨hm1, hm3⟩) (⟨by omega, by omega, by omega, by omega⟩) (fun _ => rfl) (fun lo f hlo hf => ?_) (Nat.lt_succ_self _)
            refine rg_aload_n C 0 dX6_make_158 rfl rfl ?_
            refine rg_get C fX6_63 0 rfl rfl dX6_make_159 ?_
            refine rg_iload C 5 dX6_make_162 rfl ?_
            refine rg_iload C 6 dX6_make_164 rfl ?_
            refine rg_iast (ws' := [cO x0 6 [.int (iI thr), .ref x1, .ref x2, .ref x3, .ref x4, .ref x5, .ref x6, .ref x7, .ref x8, .ref x9, .ref x10, .ref x11, .ref x12, .ref x13, .ref x14, .ref x15, .ref x16, .int (iI dy), .ref x18, .ref x19, .ref x20, .ref x21, .int (iI cn)], cZ E x1 32 isR, cI E x2 32 dn, cI E x3 32 inf, cZ E x4 8 isS, cI E x5 8 sR, cI E x6 8 cap, cI E x7 8 hol, cJ E x8 256 rls, cZ E x9 40 isG, cI E x10 40 plc, cI E x11 40 pri, cI E x12 40 rte, cI E x13 40 shr, cI E x14 40 bck, cI E x15 40 sto, cI E x16 40 wnt, cJ E x18 300 bks, cI E x19 40 (uZ f (ag c0.toNat).toNat lo), cI E x20 40 fst, cI E x21 40 (cpZ ag ord cn.toNat)]) C 18 rfl (by decide) (by omega) (by omega) dX6_make_166 rfl ?_
            rw [show uZ f (ag c0.toNat).toNat lo = am (c0 + 1).toNat from by rw [hf lo, hlo, ← hm2]]
            refine rg_iinc (k := 4) (lv' := [(4, .int (iI (c0 + 1))), (0, .ref x0), (1, .int (iI w)), (2, .int (iI (-1))), (3, .int (iI 0)), (5, .int (iI (ag c0.toNat))), (6, .int (iI lo))]) C dX6_make_167 rfl (by decide) rfl ?_
            refine rg_goto (tgt := 52) C dX6_make_170 (by decide) ?_
            refine rG.plv [1, 2, 3, 4, 0] rfl ?_
            exact ih (c0 + 1) (by omega) (by omega)
          · have hsk : am c0.toNat = am (c0 + 1).toNat := by
              rcases hmk c0 h1.1 (by omega) with q | q
              · exact q.2.symm
              · exact absurd q.2.1 (by omega)
            refine rg_goto (tgt := 167) C dX6_make_82 (by decide) ?_
            have hsk : am c0.toNat = am (c0 + 1).toNat := by
              rcases hmk c0 h1.1 (by omega) with q | q
              · exact q.2.symm
              · exact absurd q.1 (by omega)
            rw [hsk]
            refine rg_iinc (k := 5) (lv' := [(4, .int (iI (c0 + 1))), (5, .int (iI (ag c0.toNat))), (0, .ref x0), (1, .int (iI w)), (2, .int (iI (-1))), (3, .int (iI 0))]) C dX6_make_167 rfl (by decide) rfl ?_
            refine rg_goto (tgt := 52) C dX6_make_170 (by decide) ?_
            refine rG.plv [2, 3, 4, 5, 0] rfl ?_
            exact ih (c0 + 1) (by omega) (by omega)
  show rG p l e rX6_make s m args below meth c E A 8 0 0 Q [cO x0 6 [.int (iI thr), .ref x1, .ref x2, .ref x3, .ref x4, .ref x5, .ref x6, .ref x7, .ref x8, .ref x9, .ref x10, .ref x11, .ref x12, .ref x13, .ref x14, .ref x15, .ref x16, .int (iI dy), .ref x18, .ref x19, .ref x20, .ref x21, .int (iI rgs)], cZ E x1 32 isR, cI E x2 32 dn, cI E x3 32 inf, cZ E x4 8 isS, cI E x5 8 sR, cI E x6 8 cap, cI E x7 8 hol, cJ E x8 256 rls, cZ E x9 40 isG, cI E x10 40 plc, cI E x11 40 pri, cI E x12 40 rte, cI E x13 40 shr, cI E x14 40 bck, cI E x15 40 sto, cI E x16 40 wnt, cJ E x18 300 bks, cI E x19 40 amt, cI E x20 40 fst, cI E x21 40 ord] 0 [(0, .ref x0), (1, .int (iI w)), (2, .int (iI (-1))), (3, .int (iI 0))] []
  refine rg_aload_n C 0 dX6_make_0 rfl rfl ?_
  refine rg_callV (As := []) (rest := []) (wr := []) (w' := fun _ => [cO x0 6 [.int (iI thr), .ref x1, .ref x2, .ref x3, .ref x4, .ref x5, .ref x6, .ref x7, .ref x8, .ref x9, .ref x10, .ref x11, .ref x12, .ref x13, .ref x14, .ref x15, .ref x16, .int (iI dy), .ref x18, .ref x19, .ref x20, .ref x21, .int (iI cn)], cZ E x1 32 isR, cI E x2 32 dn, cI E x3 32 inf, cZ E x4 8 isS, cI E x5 8 sR, cI E x6 8 cap, cI E x7 8 hol, cJ E x8 256 rls, cZ E x9 40 isG, cI E x10 40 plc, cI E x11 40 pri, cI E x12 40 rte, cI E x13 40 shr, cI E x14 40 bck, cI E x15 40 sto, cI E x16 40 wnt, cJ E x18 300 bks, cI E x19 40 amt, cI E x20 40 fst, cI E x21 40 (cpZ ag ord cn.toNat)]) C (kX6_age l E x0 x1 x2 x3 x4 x5 x6 x7 x8 x9 x10 x11 x12 x13 x14 x15 x16 x18 x19 x20 x21 isR dn inf isS sR cap hol rls isG plc pri rte shr bck sto wnt bks amt fst ord thr dy rgs ag cn hig hord hp1 hpri) (rcwV C mX6_age w_762 ⟨Nat.le_of_ble_eq_true rfl, Nat.le_of_ble_eq_true rfl⟩) [0, 1, 2, 3, 4, 5, 6, 7, 8, 9, 10, 11, 12, 13, 14, 15, 16, 17, 18, 19, 20] [] [0, 1, 2, 3, 4, 5, 6, 7, 8, 9, 10, 11, 12, 13, 14, 15, 16, 17, 18, 19, 20] rfl rfl (by decide) (by decide) (by decide) (fun _ => rfl) (by decide) 0 rfl rfl rfl rfl (Nat.le_of_ble_eq_true rfl) dX6_make_1 ⟨Nat.le_of_ble_eq_true rfl, Nat.le_of_ble_eq_true rfl⟩ (fun _ => ?_)
  show rG p l e rX6_make s m args below meth c E A 8 0 0 Q [cO x0 6 [.int (iI thr), .ref x1, .ref x2, .ref x3, .ref x4, .ref x5, .ref x6, .ref x7, .ref x8, .ref x9, .ref x10, .ref x11, .ref x12, .ref x13, .ref x14, .ref x15, .ref x16, .int (iI dy), .ref x18, .ref x19, .ref x20, .ref x21, .int (iI cn)], cZ E x1 32 isR, cI E x2 32 dn, cI E x3 32 inf, cZ E x4 8 isS, cI E x5 8 sR, cI E x6 8 cap, cI E x7 8 hol, cJ E x8 256 rls, cZ E x9 40 isG, cI E x10 40 plc, cI E x11 40 pri, cI E x12 40 rte, cI E x13 40 shr, cI E x14 40 bck, cI E x15 40 sto, cI E x16 40 wnt, cJ E x18 300 bks, cI E x19 40 amt, cI E x20 40 fst, cI E x21 40 (cpZ ag ord cn.toNat)] 4 [(0, .ref x0), (1, .int (iI w)), (2, .int (iI (-1))), (3, .int (iI 0))] []
  refine rg_iconst C dX6_make_4 ?_
  refine rg_istore (lv' := [(4, .int (iI 0)), (0, .ref x0), (1, .int (iI w)), (2, .int (iI (-1))), (3, .int (iI 0))]) C dX6_make_5 (by decide) rfl ?_
  refine rG.plv [1, 2, 3, 4, 0] rfl ?_
  refine L7 _ 0 (by omega) (fun z8 hz8 => ?_) (Nat.lt_succ_self _)
  rw [show z8.toNat = 40 by omega, ← ha0]
  refine rg_iload_n C 2 dX6_make_28 rfl rfl ?_
  refine rg_if_lt (tgt := 49) C ⟨by decide, by decide⟩ dX6_make_29 (by decide) (fun h_29 => ?_) (fun h_29 => absurd h_29 (by omega))
  refine rg_iconst C dX6_make_49 ?_
  refine rg_istore (lv' := [(4, .int (iI 0)), (0, .ref x0), (1, .int (iI w)), (2, .int (iI (-1))), (3, .int (iI 0))]) C dX6_make_50 (by decide) rfl ?_
  refine rG.plv [1, 2, 3, 4, 0] rfl ?_
  exact L52 _ 0 (by omega) (Nat.lt_succ_self _)
set_option maxHeartbeats 4000000 in
set_option maxRecDepth 100000 in
/-- kX6_makeT -/
theorem kX6_makeT (l : Launch) (E : rE) (x0 : Nat) (x1 : Nat) (x2 : Nat) (x3 : Nat) (x4 : Nat) (x5 : Nat) (x6 : Nat) (x7 : Nat) (x8 : Nat) (x9 : Nat) (x10 : Nat) (x11 : Nat) (x12 : Nat) (x13 : Nat) (x14 : Nat) (x15 : Nat) (x16 : Nat) (x18 : Nat) (x19 : Nat) (x20 : Nat) (x21 : Nat) (isR : Nat → Int) (dn : Nat → Int) (inf : Nat → Int) (isS : Nat → Int) (sR : Nat → Int) (cap : Nat → Int) (hol : Nat → Int) (rls : Nat → Int) (isG : Nat → Int) (plc : Nat → Int) (pri : Nat → Int) (rte : Nat → Int) (shr : Nat → Int) (bck : Nat → Int) (sto : Nat → Int) (wnt : Nat → Int) (bks : Nat → Int) (amt : Nat → Int) (fst : Nat → Int) (ord : Nat → Int) (thr : Int) (dy : Int) (rgs : Int) (ag : Nat → Int) (cn : Int) (am : Nat → Nat → Int) (fi : Int) (v : Int) (hdn : ∀ r : Nat, r < 32 → -1 ≤ dn r ∧ dn r < 32) (hpe : ∀ k : Nat, k < 32 → isR k ≠ 0 → pEnd dn 32 (k : Int)) (hir : ∀ r : Nat, r < 32 → isR r = 0 ∨ isR r = 1) (hig : ∀ r : Nat, r < 40 → isG r = 0 ∨ isG r = 1) (hinf : ∀ r : Nat, r < 32 → 0 ≤ inf r ∧ inf r ≤ 1000000000) (hrg : ∀ i : Nat, i < 40 → isG i ≠ 0 → (0 ≤ plc i ∧ plc i < 32 ∧ pEnd dn 32 (plc i)) ∧ (sto i < 0 → 0 ≤ bck i ∧ bck i < 32 ∧ pEnd dn 32 (bck i) ∧ 0 ≤ shr i ∧ shr i ≤ 1000)) (hsto : ∀ i : Nat, i < 40 → -1 ≤ sto i ∧ sto i < 8) (hcap : ∀ s : Nat, s < 8 → (0 ≤ cap s ∧ cap s ≤ 1000000000) ∧ 0 ≤ hol s ∧ hol s ≤ cap s) (hord : isOrd isG pri ag cn) (hp1 : ∀ i : Nat, i < 40 → isG i ≠ 0 → 1 ≤ pri i) (hpri : ∀ i : Nat, i < 40 → inI (pri i)) (hwn : ∀ i : Nat, i < 40 → 0 ≤ wnt i ∧ wnt i ≤ 1000000000) (hfi : 0 ≤ fi ∧ fi < 40) (hgf : isG fi.toNat ≠ 0) (ha0 : am 0 = uZ (cpZ (fun _ => 0) amt 40) fi.toNat v) (hmk : ∀ c : Int, 0 ≤ c → c < cn → mkS (hldM isR dn inf isG plc bck sto shr cap hol) wnt ag (-1) fi am c) (hamc : ∀ c : Int, 0 ≤ c → c ≤ cn → ∀ i : Nat, i < 40 → 0 ≤ am c.toNat i ∧ am c.toNat i ≤ 1000000000) (hT : hldM isR dn inf isG plc bck sto shr cap hol (am 0) fi = true) : rM l yX6_make sX6_make rX6_make E [cO x0 6 [.int (iI thr), .ref x1, .ref x2, .ref x3, .ref x4, .ref x5, .ref x6, .ref x7, .ref x8, .ref x9, .ref x10, .ref x11, .ref x12, .ref x13, .ref x14, .ref x15, .ref x16, .int (iI dy), .ref x18, .ref x19, .ref x20, .ref x21, .int (iI rgs)], cZ E x1 32 isR, cI E x2 32 dn, cI E x3 32 inf, cZ E x4 8 isS, cI E x5 8 sR, cI E x6 8 cap, cI E x7 8 hol, cJ E x8 256 rls, cZ E x9 40 isG, cI E x10 40 plc, cI E x11 40 pri, cI E x12 40 rte, cI E x13 40 shr, cI E x14 40 bck, cI E x15 40 sto, cI E x16 40 wnt, cJ E x18 300 bks, cI E x19 40 amt, cI E x20 40 fst, cI E x21 40 ord] [.ref x0, .int (iI (-1)), .int (iI fi), .int (iI v)] (some (.int (iI 1))) (fun _ : Unit => [cO x0 6 [.int (iI thr), .ref x1, .ref x2, .ref x3, .ref x4, .ref x5, .ref x6, .ref x7, .ref x8, .ref x9, .ref x10, .ref x11, .ref x12, .ref x13, .ref x14, .ref x15, .ref x16, .int (iI dy), .ref x18, .ref x19, .ref x20, .ref x21, .int (iI cn)], cZ E x1 32 isR, cI E x2 32 dn, cI E x3 32 inf, cZ E x4 8 isS, cI E x5 8 sR, cI E x6 8 cap, cI E x7 8 hol, cJ E x8 256 rls, cZ E x9 40 isG, cI E x10 40 plc, cI E x11 40 pri, cI E x12 40 rte, cI E x13 40 shr, cI E x14 40 bck, cI E x15 40 sto, cI E x16 40 wnt, cJ E x18 300 bks, cI E x19 40 (am cn.toNat), cI E x20 40 fst, cI E x21 40 (cpZ ag ord cn.toNat)]) := by
  refine rM.of (cc := cX6_make) (maxL := 8) (ret := (some FieldType.boolean)) (by decide) rfl (Nat.le_of_ble_eq_true rfl) (fun w h => List.mem_cons_of_mem _ h) ?_
  intro p e s m args below meth c A Q hA hQ C hr hlk hnm
  have C : rC p s m args c E A 8 cX6_make sX6_make RX6 := C
  obtain ⟨ho1, ho2, ho3, ho4⟩ := id hord
  have L7 : ∀ (n : Nat) (k : Int), (0 ≤ k ∧ k ≤ 40) → (∀ (z8 : Int), (z8 = 40) → rG p l e rX6_make s m args below meth c E A 8 0 0 Q [cO x0 6 [.int (iI thr), .ref x1, .ref x2, .ref x3, .ref x4, .ref x5, .ref x6, .ref x7, .ref x8, .ref x9, .ref x10, .ref x11, .ref x12, .ref x13, .ref x14, .ref x15, .ref x16, .int (iI dy), .ref x18, .ref x19, .ref x20, .ref x21, .int (iI cn)], cZ E x1 32 isR, cI E x2 32 dn, cI E x3 32 inf, cZ E x4 8 isS, cI E x5 8 sR, cI E x6 8 cap, cI E x7 8 hol, cJ E x8 256 rls, cZ E x9 40 isG, cI E x10 40 plc, cI E x11 40 pri, cI E x12 40 rte, cI E x13 40 shr, cI E x14 40 bck, cI E x15 40 sto, cI E x16 40 wnt, cJ E x18 300 bks, cI E x19 40 (cpZ (fun _ => 0) amt z8.toNat), cI E x20 40 fst, cI E x21 40 (cpZ ag ord cn.toNat)] 28 [(0, .ref x0), (1, .int (iI (-1))), (2, .int (iI fi)), (3, .int (iI v))] []) → ((40 - k).toNat < n) → rG p l e rX6_make s m args below meth c E A 8 0 0 Q [cO x0 6 [.int (iI thr), .ref x1, .ref x2, .ref x3, .ref x4, .ref x5, .ref x6, .ref x7, .ref x8, .ref x9, .ref x10, .ref x11, .ref x12, .ref x13, .ref x14, .ref x15, .ref x16, .int (iI dy), .ref x18, .ref x19, .ref x20, .ref x21, .int (iI cn)], cZ E x1 32 isR, cI E x2 32 dn, cI E x3 32 inf, cZ E x4 8 isS, cI E x5 8 sR, cI E x6 8 cap, cI E x7 8 hol, cJ E x8 256 rls, cZ E x9 40 isG, cI E x10 40 plc, cI E x11 40 pri, cI E x12 40 rte, cI E x13 40 shr, cI E x14 40 bck, cI E x15 40 sto, cI E x16 40 wnt, cJ E x18 300 bks, cI E x19 40 (cpZ (fun _ => 0) amt k.toNat), cI E x20 40 fst, cI E x21 40 (cpZ ag ord cn.toNat)] 7 [(0, .ref x0), (1, .int (iI (-1))), (2, .int (iI fi)), (3, .int (iI v)), (4, .int (iI k))] [] := by
    intro n
    induction n with
    | zero => intro k h1 kZ hm; exact absurd hm (Nat.not_lt_zero _)
    | succ n ih =>
      intro k h1 kZ hm
      refine rg_iload C 4 dX6_make_7 rfl ?_
      refine rg_bipush (z := 40) C dX6_make_9 (by decide) ?_
      refine rg_icmp_ge (tgt := 28) C ⟨by omega, by omega⟩ ⟨by decide, by decide⟩ dX6_make_11 (by decide) (fun h_11 => ?_) (fun h_11 => ?_)
      · refine rG.plv [0, 1, 2, 3] rfl ?_
        exact kZ k (by omega)
      · refine rg_aload_n C 0 dX6_make_14 rfl rfl ?_
        refine rg_get C fX6_63 0 rfl rfl dX6_make_15 ?_
        refine rg_iload C 4 dX6_make_18 rfl ?_
        refine rg_iconst C dX6_make_20 ?_
        refine rg_iast (ws' := [cO x0 6 [.int (iI thr), .ref x1, .ref x2, .ref x3, .ref x4, .ref x5, .ref x6, .ref x7, .ref x8, .ref x9, .ref x10, .ref x11, .ref x12, .ref x13, .ref x14, .ref x15, .ref x16, .int (iI dy), .ref x18, .ref x19, .ref x20, .ref x21, .int (iI cn)], cZ E x1 32 isR, cI E x2 32 dn, cI E x3 32 inf, cZ E x4 8 isS, cI E x5 8 sR, cI E x6 8 cap, cI E x7 8 hol, cJ E x8 256 rls, cZ E x9 40 isG, cI E x10 40 plc, cI E x11 40 pri, cI E x12 40 rte, cI E x13 40 shr, cI E x14 40 bck, cI E x15 40 sto, cI E x16 40 wnt, cJ E x18 300 bks, cI E x19 40 (uZ (cpZ (fun _ => 0) amt k.toNat) k.toNat 0), cI E x20 40 fst, cI E x21 40 (cpZ ag ord cn.toNat)]) C 18 rfl (by decide) (by omega) (by omega) dX6_make_21 rfl ?_
        rw [cpZ_s (fun _ => 0) amt h1.1]
        refine rg_iinc (k := 4) (lv' := [(4, .int (iI (k + 1))), (0, .ref x0), (1, .int (iI (-1))), (2, .int (iI fi)), (3, .int (iI v))]) C dX6_make_22 rfl (by decide) rfl ?_
        refine rg_goto (tgt := 7) C dX6_make_25 (by decide) ?_
        refine rG.plv [1, 2, 3, 4, 0] rfl ?_
        exact ih (k + 1) (by omega) kZ (by omega)
  have L99 : ∀ (n : Nat) (c0 : Int) (mx : Int) (lo : Int) (hi : Int) (f : Nat → Int), (0 ≤ c0 ∧ c0 < cn) → ((0 ≤ mx ∧ mx ≤ wnt (ag c0.toNat).toNat) ∧ ∀ x, 0 ≤ x → x ≤ wnt (ag c0.toNat).toNat → (hldM isR dn inf isG plc bck sto shr cap hol (uZ (am c0.toNat) (ag c0.toNat).toNat x) (ag c0.toNat) = true ↔ x ≤ mx)) → (0 ≤ lo ∧ lo ≤ mx ∧ mx < hi ∧ hi ≤ wnt (ag c0.toNat).toNat + 1) → (∀ x, uZ f (ag c0.toNat).toNat x = uZ (am c0.toNat) (ag c0.toNat).toNat x) → (∀ (lo : Int) (f : Nat → Int), (lo = mx) → (∀ x, uZ f (ag c0.toNat).toNat x = uZ (am c0.toNat) (ag c0.toNat).toNat x) → rG p l e rX6_make s m args below meth c E A 8 0 0 Q [cO x0 6 [.int (iI thr), .ref x1, .ref x2, .ref x3, .ref x4, .ref x5, .ref x6, .ref x7, .ref x8, .ref x9, .ref x10, .ref x11, .ref x12, .ref x13, .ref x14, .ref x15, .ref x16, .int (iI dy), .ref x18, .ref x19, .ref x20, .ref x21, .int (iI cn)], cZ E x1 32 isR, cI E x2 32 dn, cI E x3 32 inf, cZ E x4 8 isS, cI E x5 8 sR, cI E x6 8 cap, cI E x7 8 hol, cJ E x8 256 rls, cZ E x9 40 isG, cI E x10 40 plc, cI E x11 40 pri, cI E x12 40 rte, cI E x13 40 shr, cI E x14 40 bck, cI E x15 40 sto, cI E x16 40 wnt, cJ E x18 300 bks, cI E x19 40 f, cI E x20 40 fst, cI E x21 40 (cpZ ag ord cn.toNat)] 158 [(0, .ref x0), (1, .int (iI (-1))), (2, .int (iI fi)), (3, .int (iI v)), (4, .int (iI c0)), (5, .int (iI (ag c0.toNat))), (6, .int (iI lo))] []) → ((hi - lo).toNat < n) → rG p l e rX6_make s m args below meth c E A 8 0 0 Q [cO x0 6 [.int (iI thr), .ref x1, .ref x2, .ref x3, .ref x4, .ref x5, .ref x6, .ref x7, .ref x8, .ref x9, .ref x10, .ref x11, .ref x12, .ref x13, .ref x14, .ref x15, .ref x16, .int (iI dy), .ref x18, .ref x19, .ref x20, .ref x21, .int (iI cn)], cZ E x1 32 isR, cI E x2 32 dn, cI E x3 32 inf, cZ E x4 8 isS, cI E x5 8 sR, cI E x6 8 cap, cI E x7 8 hol, cJ E x8 256 rls, cZ E x9 40 isG, cI E x10 40 plc, cI E x11 40 pri, cI E x12 40 rte, cI E x13 40 shr, cI E x14 40 bck, cI E x15 40 sto, cI E x16 40 wnt, cJ E x18 300 bks, cI E x19 40 f, cI E x20 40 fst, cI E x21 40 (cpZ ag ord cn.toNat)] 99 [(0, .ref x0), (1, .int (iI (-1))), (2, .int (iI fi)), (3, .int (iI v)), (4, .int (iI c0)), (5, .int (iI (ag c0.toNat))), (6, .int (iI lo)), (7, .int (iI hi))] [] := by
    intro n
    induction n with
    | zero => intro c0 mx lo hi f h1 h2 h3 hf kI hm; exact absurd hm (Nat.not_lt_zero _)
    | succ n ih =>
      intro c0 mx lo hi f h1 h2 h3 hf kI hm
      have hg4 := ho2 c0.toNat (by omega)
      have hw4 := hwn (ag c0.toNat).toNat (by omega)
      have hg5 := hg4.2.2
      obtain ⟨hm1, hm3⟩ := id h2
      refine rg_iload C 7 dX6_make_99 rfl ?_
      refine rg_iload C 6 dX6_make_101 rfl ?_
      refine rg_isub C dX6_make_103 ?_
      refine rg_iconst C dX6_make_104 ?_
      refine rg_icmp_le (tgt := 158) C ⟨by omega, by omega⟩ ⟨by decide, by decide⟩ dX6_make_105 (by decide) (fun h_105 => ?_) (fun h_105 => ?_)
      · refine rG.plv [0, 1, 2, 3, 4, 5, 6] rfl ?_
        exact kI lo f (by omega) hf
      · refine rg_aload_n C 0 dX6_make_108 rfl rfl ?_
        refine rg_get C fX6_63 0 rfl rfl dX6_make_109 ?_
        refine rg_iload C 5 dX6_make_112 rfl ?_
        refine rg_iload C 6 dX6_make_114 rfl ?_
        refine rg_iload C 7 dX6_make_116 rfl ?_
        refine rg_iload C 6 dX6_make_118 rfl ?_
        refine rg_isub C dX6_make_120 ?_
        refine rg_iconst C dX6_make_121 ?_
        refine rg_idiv C ⟨by omega, by omega⟩ (by omega) (by omega) ⟨by decide, by decide⟩ dX6_make_122 ?_
        refine rg_iadd C dX6_make_123 ?_
        refine rg_iast (ws' := [cO x0 6 [.int (iI thr), .ref x1, .ref x2, .ref x3, .ref x4, .ref x5, .ref x6, .ref x7, .ref x8, .ref x9, .ref x10, .ref x11, .ref x12, .ref x13, .ref x14, .ref x15, .ref x16, .int (iI dy), .ref x18, .ref x19, .ref x20, .ref x21, .int (iI cn)], cZ E x1 32 isR, cI E x2 32 dn, cI E x3 32 inf, cZ E x4 8 isS, cI E x5 8 sR, cI E x6 8 cap, cI E x7 8 hol, cJ E x8 256 rls, cZ E x9 40 isG, cI E x10 40 plc, cI E x11 40 pri, cI E x12 40 rte, cI E x13 40 shr, cI E x14 40 bck, cI E x15 40 sto, cI E x16 40 wnt, cJ E x18 300 bks, cI E x19 40 (uZ f (ag c0.toNat).toNat (lo + ((hi - lo) / 2))), cI E x20 40 fst, cI E x21 40 (cpZ ag ord cn.toNat)]) C 18 rfl (by decide) (by omega) (by omega) dX6_make_124 rfl ?_
        rw [hf (lo + (hi - lo) / 2)]
        refine rg_aload_n C 0 dX6_make_125 rfl rfl ?_
        refine rg_iload C 5 dX6_make_126 rfl ?_
        refine rg_callV (As := [.int (iI (ag c0.toNat))]) (rest := []) (wr := []) (w' := fun _ => [cO x0 6 [.int (iI thr), .ref x1, .ref x2, .ref x3, .ref x4, .ref x5, .ref x6, .ref x7, .ref x8, .ref x9, .ref x10, .ref x11, .ref x12, .ref x13, .ref x14, .ref x15, .ref x16, .int (iI dy), .ref x18, .ref x19, .ref x20, .ref x21, .int (iI cn)], cZ E x1 32 isR, cI E x2 32 dn, cI E x3 32 inf, cZ E x4 8 isS, cI E x5 8 sR, cI E x6 8 cap, cI E x7 8 hol, cJ E x8 256 rls, cZ E x9 40 isG, cI E x10 40 plc, cI E x11 40 pri, cI E x12 40 rte, cI E x13 40 shr, cI E x14 40 bck, cI E x15 40 sto, cI E x16 40 wnt, cJ E x18 300 bks, cI E x19 40 (uZ (am c0.toNat) (ag c0.toNat).toNat (lo + (hi - lo) / 2)), cI E x20 40 fst, cI E x21 40 (cpZ ag ord cn.toNat)]) C (kX6_holdsPlan l E x0 x1 x2 x3 x4 x5 x6 x7 x8 x9 x10 x11 x12 x13 x14 x15 x16 x18 x19 x20 x21 isR dn inf isS sR cap hol rls isG plc pri rte shr bck sto wnt bks (uZ (am c0.toNat) (ag c0.toNat).toNat (lo + (hi - lo) / 2)) fst (cpZ ag ord cn.toNat) thr dy cn (ag c0.toNat) hdn hpe hir hig hinf (by first | omega | assumption) (by first | omega | assumption) (uZ_bd (hamc c0 h1.1 (by omega)) (by omega)) hcap (by omega) hg5) (rcwV C mX6_holdsPlan w_766 ⟨Nat.le_of_ble_eq_true rfl, Nat.le_of_ble_eq_true rfl⟩) [0, 1, 2, 3, 4, 5, 6, 7, 8, 9, 10, 11, 12, 13, 14, 15, 16, 17, 18, 19, 20] [] [0, 1, 2, 3, 4, 5, 6, 7, 8, 9, 10, 11, 12, 13, 14, 15, 16, 17, 18, 19, 20] rfl rfl (by decide) (by decide) (by decide) (fun _ => rfl) (by decide) 0 rfl rfl rfl rfl (Nat.le_of_ble_eq_true rfl) dX6_make_128 ⟨Nat.le_of_ble_eq_true rfl, Nat.le_of_ble_eq_true rfl⟩ (fun _ => ?_)
        show rG p l e rX6_make s m args below meth c E A 8 0 0 Q [cO x0 6 [.int (iI thr), .ref x1, .ref x2, .ref x3, .ref x4, .ref x5, .ref x6, .ref x7, .ref x8, .ref x9, .ref x10, .ref x11, .ref x12, .ref x13, .ref x14, .ref x15, .ref x16, .int (iI dy), .ref x18, .ref x19, .ref x20, .ref x21, .int (iI cn)], cZ E x1 32 isR, cI E x2 32 dn, cI E x3 32 inf, cZ E x4 8 isS, cI E x5 8 sR, cI E x6 8 cap, cI E x7 8 hol, cJ E x8 256 rls, cZ E x9 40 isG, cI E x10 40 plc, cI E x11 40 pri, cI E x12 40 rte, cI E x13 40 shr, cI E x14 40 bck, cI E x15 40 sto, cI E x16 40 wnt, cJ E x18 300 bks, cI E x19 40 (uZ (am c0.toNat) (ag c0.toNat).toNat (lo + (hi - lo) / 2)), cI E x20 40 fst, cI E x21 40 (cpZ ag ord cn.toNat)] 131 [(0, .ref x0), (1, .int (iI (-1))), (2, .int (iI fi)), (3, .int (iI v)), (4, .int (iI c0)), (5, .int (iI (ag c0.toNat))), (6, .int (iI lo)), (7, .int (iI hi))] [.int (iI (bZ (hldM isR dn inf isG plc bck sto shr cap hol (uZ (am c0.toNat) (ag c0.toNat).toNat (lo + (hi - lo) / 2)) (ag c0.toNat))))]
        refine rg_if_eq (tgt := 146) C (bZ_in _) dX6_make_131 (by decide) (fun h_131 => ?_) (fun h_131 => ?_)
        · have hq9 : ¬ (lo + (hi - lo) / 2) ≤ mx := fun q => by
            have q2 := (hm3 (lo + (hi - lo) / 2) (by omega) (by omega)).mpr q
            rw [q2] at h_131
            cases h_131
          refine rg_aload_n C 0 dX6_make_146 rfl rfl ?_
          refine rg_get C fX6_63 0 rfl rfl dX6_make_147 ?_
          refine rg_iload C 5 dX6_make_150 rfl ?_
          refine rg_iald C 18 rfl (by decide) (by omega) (by omega) dX6_make_152 ?_
          rw [uZ_s]
          refine rg_istore (lv' := [(7, .int (iI (lo + (hi - lo) / 2))), (0, .ref x0), (1, .int (iI (-1))), (2, .int (iI fi)), (3, .int (iI v)), (4, .int (iI c0)), (5, .int (iI (ag c0.toNat))), (6, .int (iI lo))]) C dX6_make_153 (by decide) rfl ?_
          refine rg_goto (tgt := 99) C dX6_make_155 (by decide) ?_
          refine rG.plv [1, 2, 3, 4, 5, 6, 7, 0] rfl ?_
          exact ih c0 mx lo (lo + (hi - lo) / 2) (uZ (am c0.toNat) (ag c0.toNat).toNat (lo + (hi - lo) / 2)) h1 h2 (⟨by omega, by omega, by omega, by omega⟩) (fun x => uZ_uZ _ _ _ _) kI (by omega)
        · have hq9 := (hm3 (lo + (hi - lo) / 2) (by omega) (by omega)).mp (bZ_T h_131)
          refine rg_aload_n C 0 dX6_make_134 rfl rfl ?_
          refine rg_get C fX6_63 0 rfl rfl dX6_make_135 ?_
          refine rg_iload C 5 dX6_make_138 rfl ?_
          refine rg_iald C 18 rfl (by decide) (by omega) (by omega) dX6_make_140 ?_
          rw [uZ_s]
          refine rg_istore (lv' := [(6, .int (iI (lo + (hi - lo) / 2))), (0, .ref x0), (1, .int (iI (-1))), (2, .int (iI fi)), (3, .int (iI v)), (4, .int (iI c0)), (5, .int (iI (ag c0.toNat))), (7, .int (iI hi))]) C dX6_make_141 (by decide) rfl ?_
          refine rg_goto (tgt := 99) C dX6_make_143 (by decide) ?_
          refine rG.plv [1, 2, 3, 4, 5, 6, 0, 7] rfl ?_
          exact ih c0 mx (lo + (hi - lo) / 2) hi (uZ (am c0.toNat) (ag c0.toNat).toNat (lo + (hi - lo) / 2)) h1 h2 (⟨by omega, by omega, by omega, by omega⟩) (fun x => uZ_uZ _ _ _ _) kI (by omega)
  have L52 : ∀ (n : Nat) (c0 : Int), (0 ≤ c0 ∧ c0 ≤ cn) → ((cn - c0).toNat < n) → rG p l e rX6_make s m args below meth c E A 8 0 0 Q [cO x0 6 [.int (iI thr), .ref x1, .ref x2, .ref x3, .ref x4, .ref x5, .ref x6, .ref x7, .ref x8, .ref x9, .ref x10, .ref x11, .ref x12, .ref x13, .ref x14, .ref x15, .ref x16, .int (iI dy), .ref x18, .ref x19, .ref x20, .ref x21, .int (iI cn)], cZ E x1 32 isR, cI E x2 32 dn, cI E x3 32 inf, cZ E x4 8 isS, cI E x5 8 sR, cI E x6 8 cap, cI E x7 8 hol, cJ E x8 256 rls, cZ E x9 40 isG, cI E x10 40 plc, cI E x11 40 pri, cI E x12 40 rte, cI E x13 40 shr, cI E x14 40 bck, cI E x15 40 sto, cI E x16 40 wnt, cJ E x18 300 bks, cI E x19 40 (am c0.toNat), cI E x20 40 fst, cI E x21 40 (cpZ ag ord cn.toNat)] 52 [(0, .ref x0), (1, .int (iI (-1))), (2, .int (iI fi)), (3, .int (iI v)), (4, .int (iI c0))] [] := by
    intro n
    induction n with
    | zero => intro c0 h1 hm; exact absurd hm (Nat.not_lt_zero _)
    | succ n ih =>
      intro c0 h1 hm
      refine rg_iload C 4 dX6_make_52 rfl ?_
      refine rg_aload_n C 0 dX6_make_54 rfl rfl ?_
      refine rg_get C fX6_109 0 rfl rfl dX6_make_55 ?_
      refine rg_icmp_ge (tgt := 173) C ⟨by omega, by omega⟩ ⟨by omega, by omega⟩ dX6_make_58 (by decide) (fun h_58 => ?_) (fun h_58 => ?_)
      · refine rg_iconst C dX6_make_173 ?_
        exact rg_zret C hA hQ hr hlk () (by rw [show c0 = cn by omega]) (by first | rfl | decide | exact (bZ_nar _) | (rw [h3]; exact bZ_nar _)) rfl dX6_make_174
      · refine rg_aload_n C 0 dX6_make_61 rfl rfl ?_
        refine rg_get C fX6_69 0 rfl rfl dX6_make_62 ?_
        refine rg_iload C 4 dX6_make_65 rfl ?_
        refine rg_iald C 20 rfl (by decide) (by omega) (by omega) dX6_make_67 ?_
        rw [cpZ_lt ag ord (show c0.toNat < cn.toNat by omega)]
        have hg4 := ho2 c0.toNat (by omega)
        have hw4 := hwn (ag c0.toNat).toNat (by omega)
        refine rg_istore (lv' := [(5, .int (iI (ag c0.toNat))), (0, .ref x0), (1, .int (iI (-1))), (2, .int (iI fi)), (3, .int (iI v)), (4, .int (iI c0))]) C dX6_make_68 (by decide) rfl ?_
        refine rg_iload C 0 dX6_make_70 rfl ?_
        refine rg_iload_n C 2 dX6_make_72 rfl rfl ?_
        refine rg_icmp_eq (tgt := 167) C ⟨by omega, by omega⟩ ⟨by decide, by decide⟩ dX6_make_73 (by decide) (fun h_73 => ?_) (fun h_73 => ?_)
        · have hsk : am c0.toNat = am (c0 + 1).toNat := by
            rcases hmk c0 h1.1 (by omega) with q | q
            · exact q.2.symm
            · exact absurd q.1 (by omega)
          rw [hsk]
          refine rg_iinc (k := 5) (lv' := [(4, .int (iI (c0 + 1))), (5, .int (iI (ag c0.toNat))), (0, .ref x0), (1, .int (iI (-1))), (2, .int (iI fi)), (3, .int (iI v))]) C dX6_make_167 rfl (by decide) rfl ?_
          refine rg_goto (tgt := 52) C dX6_make_170 (by decide) ?_
          refine rG.plv [2, 3, 4, 5, 0] rfl ?_
          exact ih (c0 + 1) (by omega) (by omega)
        · refine rg_iload C 0 dX6_make_76 rfl ?_
          refine rg_iload_n C 3 dX6_make_78 rfl rfl ?_
          refine rg_icmp_ne (tgt := 85) C ⟨by omega, by omega⟩ ⟨by omega, by omega⟩ dX6_make_79 (by decide) (fun h_79 => ?_) (fun h_79 => ?_)
          · obtain ⟨mx, hm1, hm2, hm3⟩ := mkS_n (hmk c0 h1.1 (by omega)) (by omega) (by omega)
            refine rg_iconst C dX6_make_85 ?_
            refine rg_istore (lv' := [(6, .int (iI 0)), (5, .int (iI (ag c0.toNat))), (0, .ref x0), (1, .int (iI (-1))), (2, .int (iI fi)), (3, .int (iI v)), (4, .int (iI c0))]) C dX6_make_86 (by decide) rfl ?_
            refine rg_aload_n C 2 dX6_make_88 rfl rfl ?_
            refine rg_get C fX6_57 0 rfl rfl dX6_make_89 ?_
            refine rg_iload C 1 dX6_make_92 rfl ?_
            refine rg_iald C 16 rfl (by decide) (by omega) (by omega) dX6_make_94 ?_
            refine rg_iconst C dX6_make_95 ?_
            refine rg_iadd C dX6_make_96 ?_
            refine rg_istore (lv' := [(7, .int (iI ((wnt (ag c0.toNat).toNat) + 1))), (6, .int (iI 0)), (5, .int (iI (ag c0.toNat))), (0, .ref x0), (1, .int (iI (-1))), (2, .int (iI fi)), (3, .int (iI v)), (4, .int (iI c0))]) C dX6_make_97 (by decide) rfl ?_
            refine rG.plv [3, 4, 5, 6, 7, 2, 1, 0] rfl ?_
            refine L99 _ c0 mx 0 ((wnt (ag c0.toNat).toNat) + 1) (am c0.toNat) (⟨h1.1, by omega⟩) (⟨hm1, hm3⟩) (⟨by omega, by omega, by omega, by omega⟩) (fun _ => rfl) (fun lo f hlo hf => ?_) (Nat.lt_succ_self _)
            refine rg_aload_n C 0 dX6_make_158 rfl rfl ?_
            refine rg_get C fX6_63 0 rfl rfl dX6_make_159 ?_
            refine rg_iload C 5 dX6_make_162 rfl ?_
            refine rg_iload C 6 dX6_make_164 rfl ?_
            refine rg_iast (ws' := [cO x0 6 [.int (iI thr), .ref x1, .ref x2, .ref x3, .ref x4, .ref x5, .ref x6, .ref x7, .ref x8, .ref x9, .ref x10, .ref x11, .ref x12, .ref x13, .ref x14, .ref x15, .ref x16, .int (iI dy), .ref x18, .ref x19, .ref x20, .ref x21, .int (iI cn)], cZ E x1 32 isR, cI E x2 32 dn, cI E x3 32 inf, cZ E x4 8 isS, cI E x5 8 sR, cI E x6 8 cap, cI E x7 8 hol, cJ E x8 256 rls, cZ E x9 40 isG, cI E x10 40 plc, cI E x11 40 pri, cI E x12 40 rte, cI E x13 40 shr, cI E x14 40 bck, cI E x15 40 sto, cI E x16 40 wnt, cJ E x18 300 bks, cI E x19 40 (uZ f (ag c0.toNat).toNat lo), cI E x20 40 fst, cI E x21 40 (cpZ ag ord cn.toNat)]) C 18 rfl (by decide) (by omega) (by omega) dX6_make_166 rfl ?_
            rw [show uZ f (ag c0.toNat).toNat lo = am (c0 + 1).toNat from by rw [hf lo, hlo, ← hm2]]
            refine rg_iinc (k := 4) (lv' := [(4, .int (iI (c0 + 1))), (0, .ref x0), (1, .int (iI (-1))), (2, .int (iI fi)), (3, .int (iI v)), (5, .int (iI (ag c0.toNat))), (6, .int (iI lo))]) C dX6_make_167 rfl (by decide) rfl ?_
            refine rg_goto (tgt := 52) C dX6_make_170 (by decide) ?_
            refine rG.plv [1, 2, 3, 4, 0] rfl ?_
            exact ih (c0 + 1) (by omega) (by omega)
          · have hsk : am c0.toNat = am (c0 + 1).toNat := by
              rcases hmk c0 h1.1 (by omega) with q | q
              · exact q.2.symm
              · exact absurd q.2.1 (by omega)
            refine rg_goto (tgt := 167) C dX6_make_82 (by decide) ?_
            have hsk : am c0.toNat = am (c0 + 1).toNat := by
              rcases hmk c0 h1.1 (by omega) with q | q
              · exact q.2.symm
              · exact absurd q.1 (by omega)
            rw [hsk]
            refine rg_iinc (k := 5) (lv' := [(4, .int (iI (c0 + 1))), (5, .int (iI (ag c0.toNat))), (0, .ref x0), (1, .int (iI (-1))), (2, .int (iI fi)), (3, .int (iI v))]) C dX6_make_167 rfl (by decide) rfl ?_
            refine rg_goto (tgt := 52) C dX6_make_170 (by decide) ?_
            refine rG.plv [2, 3, 4, 5, 0] rfl ?_
            exact ih (c0 + 1) (by omega) (by omega)
  show rG p l e rX6_make s m args below meth c E A 8 0 0 Q [cO x0 6 [.int (iI thr), .ref x1, .ref x2, .ref x3, .ref x4, .ref x5, .ref x6, .ref x7, .ref x8, .ref x9, .ref x10, .ref x11, .ref x12, .ref x13, .ref x14, .ref x15, .ref x16, .int (iI dy), .ref x18, .ref x19, .ref x20, .ref x21, .int (iI rgs)], cZ E x1 32 isR, cI E x2 32 dn, cI E x3 32 inf, cZ E x4 8 isS, cI E x5 8 sR, cI E x6 8 cap, cI E x7 8 hol, cJ E x8 256 rls, cZ E x9 40 isG, cI E x10 40 plc, cI E x11 40 pri, cI E x12 40 rte, cI E x13 40 shr, cI E x14 40 bck, cI E x15 40 sto, cI E x16 40 wnt, cJ E x18 300 bks, cI E x19 40 amt, cI E x20 40 fst, cI E x21 40 ord] 0 [(0, .ref x0), (1, .int (iI (-1))), (2, .int (iI fi)), (3, .int (iI v))] []
  refine rg_aload_n C 0 dX6_make_0 rfl rfl ?_
  refine rg_callV (As := []) (rest := []) (wr := []) (w' := fun _ => [cO x0 6 [.int (iI thr), .ref x1, .ref x2, .ref x3, .ref x4, .ref x5, .ref x6, .ref x7, .ref x8, .ref x9, .ref x10, .ref x11, .ref x12, .ref x13, .ref x14, .ref x15, .ref x16, .int (iI dy), .ref x18, .ref x19, .ref x20, .ref x21, .int (iI cn)], cZ E x1 32 isR, cI E x2 32 dn, cI E x3 32 inf, cZ E x4 8 isS, cI E x5 8 sR, cI E x6 8 cap, cI E x7 8 hol, cJ E x8 256 rls, cZ E x9 40 isG, cI E x10 40 plc, cI E x11 40 pri, cI E x12 40 rte, cI E x13 40 shr, cI E x14 40 bck, cI E x15 40 sto, cI E x16 40 wnt, cJ E x18 300 bks, cI E x19 40 amt, cI E x20 40 fst, cI E x21 40 (cpZ ag ord cn.toNat)]) C (kX6_age l E x0 x1 x2 x3 x4 x5 x6 x7 x8 x9 x10 x11 x12 x13 x14 x15 x16 x18 x19 x20 x21 isR dn inf isS sR cap hol rls isG plc pri rte shr bck sto wnt bks amt fst ord thr dy rgs ag cn hig hord hp1 hpri) (rcwV C mX6_age w_762 ⟨Nat.le_of_ble_eq_true rfl, Nat.le_of_ble_eq_true rfl⟩) [0, 1, 2, 3, 4, 5, 6, 7, 8, 9, 10, 11, 12, 13, 14, 15, 16, 17, 18, 19, 20] [] [0, 1, 2, 3, 4, 5, 6, 7, 8, 9, 10, 11, 12, 13, 14, 15, 16, 17, 18, 19, 20] rfl rfl (by decide) (by decide) (by decide) (fun _ => rfl) (by decide) 0 rfl rfl rfl rfl (Nat.le_of_ble_eq_true rfl) dX6_make_1 ⟨Nat.le_of_ble_eq_true rfl, Nat.le_of_ble_eq_true rfl⟩ (fun _ => ?_)
  show rG p l e rX6_make s m args below meth c E A 8 0 0 Q [cO x0 6 [.int (iI thr), .ref x1, .ref x2, .ref x3, .ref x4, .ref x5, .ref x6, .ref x7, .ref x8, .ref x9, .ref x10, .ref x11, .ref x12, .ref x13, .ref x14, .ref x15, .ref x16, .int (iI dy), .ref x18, .ref x19, .ref x20, .ref x21, .int (iI cn)], cZ E x1 32 isR, cI E x2 32 dn, cI E x3 32 inf, cZ E x4 8 isS, cI E x5 8 sR, cI E x6 8 cap, cI E x7 8 hol, cJ E x8 256 rls, cZ E x9 40 isG, cI E x10 40 plc, cI E x11 40 pri, cI E x12 40 rte, cI E x13 40 shr, cI E x14 40 bck, cI E x15 40 sto, cI E x16 40 wnt, cJ E x18 300 bks, cI E x19 40 amt, cI E x20 40 fst, cI E x21 40 (cpZ ag ord cn.toNat)] 4 [(0, .ref x0), (1, .int (iI (-1))), (2, .int (iI fi)), (3, .int (iI v))] []
  refine rg_iconst C dX6_make_4 ?_
  refine rg_istore (lv' := [(4, .int (iI 0)), (0, .ref x0), (1, .int (iI (-1))), (2, .int (iI fi)), (3, .int (iI v))]) C dX6_make_5 (by decide) rfl ?_
  refine rG.plv [1, 2, 3, 4, 0] rfl ?_
  refine L7 _ 0 (by omega) (fun z8 hz8 => ?_) (Nat.lt_succ_self _)
  rw [show z8.toNat = 40 by omega]
  refine rg_iload_n C 2 dX6_make_28 rfl rfl ?_
  refine rg_if_lt (tgt := 49) C ⟨by omega, by omega⟩ dX6_make_29 (by decide) (fun h_29 => absurd h_29 (by omega)) (fun h_29 => ?_)
  refine rg_aload_n C 0 dX6_make_32 rfl rfl ?_
  refine rg_get C fX6_63 0 rfl rfl dX6_make_33 ?_
  refine rg_iload_n C 2 dX6_make_36 rfl rfl ?_
  refine rg_iload_n C 3 dX6_make_37 rfl rfl ?_
  refine rg_iast (ws' := [cO x0 6 [.int (iI thr), .ref x1, .ref x2, .ref x3, .ref x4, .ref x5, .ref x6, .ref x7, .ref x8, .ref x9, .ref x10, .ref x11, .ref x12, .ref x13, .ref x14, .ref x15, .ref x16, .int (iI dy), .ref x18, .ref x19, .ref x20, .ref x21, .int (iI cn)], cZ E x1 32 isR, cI E x2 32 dn, cI E x3 32 inf, cZ E x4 8 isS, cI E x5 8 sR, cI E x6 8 cap, cI E x7 8 hol, cJ E x8 256 rls, cZ E x9 40 isG, cI E x10 40 plc, cI E x11 40 pri, cI E x12 40 rte, cI E x13 40 shr, cI E x14 40 bck, cI E x15 40 sto, cI E x16 40 wnt, cJ E x18 300 bks, cI E x19 40 (uZ (cpZ (fun _ => 0) amt 40) fi.toNat v), cI E x20 40 fst, cI E x21 40 (cpZ ag ord cn.toNat)]) C 18 rfl (by decide) (by omega) (by omega) dX6_make_38 rfl ?_
  rw [← ha0]
  refine rg_aload_n C 0 dX6_make_39 rfl rfl ?_
  refine rg_iload_n C 2 dX6_make_40 rfl rfl ?_
  refine rg_callV (As := [.int (iI fi)]) (rest := []) (wr := []) (w' := fun _ => [cO x0 6 [.int (iI thr), .ref x1, .ref x2, .ref x3, .ref x4, .ref x5, .ref x6, .ref x7, .ref x8, .ref x9, .ref x10, .ref x11, .ref x12, .ref x13, .ref x14, .ref x15, .ref x16, .int (iI dy), .ref x18, .ref x19, .ref x20, .ref x21, .int (iI cn)], cZ E x1 32 isR, cI E x2 32 dn, cI E x3 32 inf, cZ E x4 8 isS, cI E x5 8 sR, cI E x6 8 cap, cI E x7 8 hol, cJ E x8 256 rls, cZ E x9 40 isG, cI E x10 40 plc, cI E x11 40 pri, cI E x12 40 rte, cI E x13 40 shr, cI E x14 40 bck, cI E x15 40 sto, cI E x16 40 wnt, cJ E x18 300 bks, cI E x19 40 (am 0), cI E x20 40 fst, cI E x21 40 (cpZ ag ord cn.toNat)]) C (kX6_holdsPlan l E x0 x1 x2 x3 x4 x5 x6 x7 x8 x9 x10 x11 x12 x13 x14 x15 x16 x18 x19 x20 x21 isR dn inf isS sR cap hol rls isG plc pri rte shr bck sto wnt bks (am 0) fst (cpZ ag ord cn.toNat) thr dy cn fi hdn hpe hir hig hinf (by first | omega | assumption) (by first | omega | assumption) (hamc 0 (by omega) (by omega)) hcap (by omega) hgf) (rcwV C mX6_holdsPlan w_766 ⟨Nat.le_of_ble_eq_true rfl, Nat.le_of_ble_eq_true rfl⟩) [0, 1, 2, 3, 4, 5, 6, 7, 8, 9, 10, 11, 12, 13, 14, 15, 16, 17, 18, 19, 20] [] [0, 1, 2, 3, 4, 5, 6, 7, 8, 9, 10, 11, 12, 13, 14, 15, 16, 17, 18, 19, 20] rfl rfl (by decide) (by decide) (by decide) (fun _ => rfl) (by decide) 0 rfl rfl rfl rfl (Nat.le_of_ble_eq_true rfl) dX6_make_41 ⟨Nat.le_of_ble_eq_true rfl, Nat.le_of_ble_eq_true rfl⟩ (fun _ => ?_)
  show rG p l e rX6_make s m args below meth c E A 8 0 0 Q [cO x0 6 [.int (iI thr), .ref x1, .ref x2, .ref x3, .ref x4, .ref x5, .ref x6, .ref x7, .ref x8, .ref x9, .ref x10, .ref x11, .ref x12, .ref x13, .ref x14, .ref x15, .ref x16, .int (iI dy), .ref x18, .ref x19, .ref x20, .ref x21, .int (iI cn)], cZ E x1 32 isR, cI E x2 32 dn, cI E x3 32 inf, cZ E x4 8 isS, cI E x5 8 sR, cI E x6 8 cap, cI E x7 8 hol, cJ E x8 256 rls, cZ E x9 40 isG, cI E x10 40 plc, cI E x11 40 pri, cI E x12 40 rte, cI E x13 40 shr, cI E x14 40 bck, cI E x15 40 sto, cI E x16 40 wnt, cJ E x18 300 bks, cI E x19 40 (am 0), cI E x20 40 fst, cI E x21 40 (cpZ ag ord cn.toNat)] 44 [(0, .ref x0), (1, .int (iI (-1))), (2, .int (iI fi)), (3, .int (iI v))] [.int (iI (bZ (hldM isR dn inf isG plc bck sto shr cap hol (am 0) fi)))]
  refine rg_if_ne (tgt := 49) C (bZ_in _) dX6_make_44 (by decide) (fun h_44 => ?_) (fun h_44 => absurd h_44 (by rw [hT]; decide))
  refine rg_iconst C dX6_make_49 ?_
  refine rg_istore (lv' := [(4, .int (iI 0)), (0, .ref x0), (1, .int (iI (-1))), (2, .int (iI fi)), (3, .int (iI v))]) C dX6_make_50 (by decide) rfl ?_
  refine rG.plv [1, 2, 3, 4, 0] rfl ?_
  exact L52 _ 0 (by omega) (Nat.lt_succ_self _)
set_option maxHeartbeats 4000000 in
set_option maxRecDepth 100000 in
/-- kX6_makeF -/
theorem kX6_makeF (l : Launch) (E : rE) (x0 : Nat) (x1 : Nat) (x2 : Nat) (x3 : Nat) (x4 : Nat) (x5 : Nat) (x6 : Nat) (x7 : Nat) (x8 : Nat) (x9 : Nat) (x10 : Nat) (x11 : Nat) (x12 : Nat) (x13 : Nat) (x14 : Nat) (x15 : Nat) (x16 : Nat) (x18 : Nat) (x19 : Nat) (x20 : Nat) (x21 : Nat) (isR : Nat → Int) (dn : Nat → Int) (inf : Nat → Int) (isS : Nat → Int) (sR : Nat → Int) (cap : Nat → Int) (hol : Nat → Int) (rls : Nat → Int) (isG : Nat → Int) (plc : Nat → Int) (pri : Nat → Int) (rte : Nat → Int) (shr : Nat → Int) (bck : Nat → Int) (sto : Nat → Int) (wnt : Nat → Int) (bks : Nat → Int) (amt : Nat → Int) (fst : Nat → Int) (ord : Nat → Int) (thr : Int) (dy : Int) (rgs : Int) (ag : Nat → Int) (cn : Int) (am : Nat → Nat → Int) (fi : Int) (v : Int) (hdn : ∀ r : Nat, r < 32 → -1 ≤ dn r ∧ dn r < 32) (hpe : ∀ k : Nat, k < 32 → isR k ≠ 0 → pEnd dn 32 (k : Int)) (hir : ∀ r : Nat, r < 32 → isR r = 0 ∨ isR r = 1) (hig : ∀ r : Nat, r < 40 → isG r = 0 ∨ isG r = 1) (hinf : ∀ r : Nat, r < 32 → 0 ≤ inf r ∧ inf r ≤ 1000000000) (hrg : ∀ i : Nat, i < 40 → isG i ≠ 0 → (0 ≤ plc i ∧ plc i < 32 ∧ pEnd dn 32 (plc i)) ∧ (sto i < 0 → 0 ≤ bck i ∧ bck i < 32 ∧ pEnd dn 32 (bck i) ∧ 0 ≤ shr i ∧ shr i ≤ 1000)) (hsto : ∀ i : Nat, i < 40 → -1 ≤ sto i ∧ sto i < 8) (hcap : ∀ s : Nat, s < 8 → (0 ≤ cap s ∧ cap s ≤ 1000000000) ∧ 0 ≤ hol s ∧ hol s ≤ cap s) (hord : isOrd isG pri ag cn) (hp1 : ∀ i : Nat, i < 40 → isG i ≠ 0 → 1 ≤ pri i) (hpri : ∀ i : Nat, i < 40 → inI (pri i)) (hwn : ∀ i : Nat, i < 40 → 0 ≤ wnt i ∧ wnt i ≤ 1000000000) (hfi : 0 ≤ fi ∧ fi < 40) (hgf : isG fi.toNat ≠ 0) (ha0 : am 0 = uZ (cpZ (fun _ => 0) amt 40) fi.toNat v) (hamc : ∀ i : Nat, i < 40 → 0 ≤ am 0 i ∧ am 0 i ≤ 1000000000) (hT : hldM isR dn inf isG plc bck sto shr cap hol (am 0) fi = false) : rM l yX6_make sX6_make rX6_make E [cO x0 6 [.int (iI thr), .ref x1, .ref x2, .ref x3, .ref x4, .ref x5, .ref x6, .ref x7, .ref x8, .ref x9, .ref x10, .ref x11, .ref x12, .ref x13, .ref x14, .ref x15, .ref x16, .int (iI dy), .ref x18, .ref x19, .ref x20, .ref x21, .int (iI rgs)], cZ E x1 32 isR, cI E x2 32 dn, cI E x3 32 inf, cZ E x4 8 isS, cI E x5 8 sR, cI E x6 8 cap, cI E x7 8 hol, cJ E x8 256 rls, cZ E x9 40 isG, cI E x10 40 plc, cI E x11 40 pri, cI E x12 40 rte, cI E x13 40 shr, cI E x14 40 bck, cI E x15 40 sto, cI E x16 40 wnt, cJ E x18 300 bks, cI E x19 40 amt, cI E x20 40 fst, cI E x21 40 ord] [.ref x0, .int (iI (-1)), .int (iI fi), .int (iI v)] (some (.int (iI 0))) (fun _ : Unit => [cO x0 6 [.int (iI thr), .ref x1, .ref x2, .ref x3, .ref x4, .ref x5, .ref x6, .ref x7, .ref x8, .ref x9, .ref x10, .ref x11, .ref x12, .ref x13, .ref x14, .ref x15, .ref x16, .int (iI dy), .ref x18, .ref x19, .ref x20, .ref x21, .int (iI cn)], cZ E x1 32 isR, cI E x2 32 dn, cI E x3 32 inf, cZ E x4 8 isS, cI E x5 8 sR, cI E x6 8 cap, cI E x7 8 hol, cJ E x8 256 rls, cZ E x9 40 isG, cI E x10 40 plc, cI E x11 40 pri, cI E x12 40 rte, cI E x13 40 shr, cI E x14 40 bck, cI E x15 40 sto, cI E x16 40 wnt, cJ E x18 300 bks, cI E x19 40 (am 0), cI E x20 40 fst, cI E x21 40 (cpZ ag ord cn.toNat)]) := by
  refine rM.of (cc := cX6_make) (maxL := 8) (ret := (some FieldType.boolean)) (by decide) rfl (Nat.le_of_ble_eq_true rfl) (fun w h => List.mem_cons_of_mem _ h) ?_
  intro p e s m args below meth c A Q hA hQ C hr hlk hnm
  have C : rC p s m args c E A 8 cX6_make sX6_make RX6 := C
  obtain ⟨ho1, ho2, ho3, ho4⟩ := id hord
  have L7 : ∀ (n : Nat) (k : Int), (0 ≤ k ∧ k ≤ 40) → (∀ (z8 : Int), (z8 = 40) → rG p l e rX6_make s m args below meth c E A 8 0 0 Q [cO x0 6 [.int (iI thr), .ref x1, .ref x2, .ref x3, .ref x4, .ref x5, .ref x6, .ref x7, .ref x8, .ref x9, .ref x10, .ref x11, .ref x12, .ref x13, .ref x14, .ref x15, .ref x16, .int (iI dy), .ref x18, .ref x19, .ref x20, .ref x21, .int (iI cn)], cZ E x1 32 isR, cI E x2 32 dn, cI E x3 32 inf, cZ E x4 8 isS, cI E x5 8 sR, cI E x6 8 cap, cI E x7 8 hol, cJ E x8 256 rls, cZ E x9 40 isG, cI E x10 40 plc, cI E x11 40 pri, cI E x12 40 rte, cI E x13 40 shr, cI E x14 40 bck, cI E x15 40 sto, cI E x16 40 wnt, cJ E x18 300 bks, cI E x19 40 (cpZ (fun _ => 0) amt z8.toNat), cI E x20 40 fst, cI E x21 40 (cpZ ag ord cn.toNat)] 28 [(0, .ref x0), (1, .int (iI (-1))), (2, .int (iI fi)), (3, .int (iI v))] []) → ((40 - k).toNat < n) → rG p l e rX6_make s m args below meth c E A 8 0 0 Q [cO x0 6 [.int (iI thr), .ref x1, .ref x2, .ref x3, .ref x4, .ref x5, .ref x6, .ref x7, .ref x8, .ref x9, .ref x10, .ref x11, .ref x12, .ref x13, .ref x14, .ref x15, .ref x16, .int (iI dy), .ref x18, .ref x19, .ref x20, .ref x21, .int (iI cn)], cZ E x1 32 isR, cI E x2 32 dn, cI E x3 32 inf, cZ E x4 8 isS, cI E x5 8 sR, cI E x6 8 cap, cI E x7 8 hol, cJ E x8 256 rls, cZ E x9 40 isG, cI E x10 40 plc, cI E x11 40 pri, cI E x12 40 rte, cI E x13 40 shr, cI E x14 40 bck, cI E x15 40 sto, cI E x16 40 wnt, cJ E x18 300 bks, cI E x19 40 (cpZ (fun _ => 0) amt k.toNat), cI E x20 40 fst, cI E x21 40 (cpZ ag ord cn.toNat)] 7 [(0, .ref x0), (1, .int (iI (-1))), (2, .int (iI fi)), (3, .int (iI v)), (4, .int (iI k))] [] := by
    intro n
    induction n with
    | zero => intro k h1 kZ hm; exact absurd hm (Nat.not_lt_zero _)
    | succ n ih =>
      intro k h1 kZ hm
      refine rg_iload C 4 dX6_make_7 rfl ?_
      refine rg_bipush (z := 40) C dX6_make_9 (by decide) ?_
      refine rg_icmp_ge (tgt := 28) C ⟨by omega, by omega⟩ ⟨by decide, by decide⟩ dX6_make_11 (by decide) (fun h_11 => ?_) (fun h_11 => ?_)
      · refine rG.plv [0, 1, 2, 3] rfl ?_
        exact kZ k (by omega)
      · refine rg_aload_n C 0 dX6_make_14 rfl rfl ?_
        refine rg_get C fX6_63 0 rfl rfl dX6_make_15 ?_
        refine rg_iload C 4 dX6_make_18 rfl ?_
        refine rg_iconst C dX6_make_20 ?_
        refine rg_iast (ws' := [cO x0 6 [.int (iI thr), .ref x1, .ref x2, .ref x3, .ref x4, .ref x5, .ref x6, .ref x7, .ref x8, .ref x9, .ref x10, .ref x11, .ref x12, .ref x13, .ref x14, .ref x15, .ref x16, .int (iI dy), .ref x18, .ref x19, .ref x20, .ref x21, .int (iI cn)], cZ E x1 32 isR, cI E x2 32 dn, cI E x3 32 inf, cZ E x4 8 isS, cI E x5 8 sR, cI E x6 8 cap, cI E x7 8 hol, cJ E x8 256 rls, cZ E x9 40 isG, cI E x10 40 plc, cI E x11 40 pri, cI E x12 40 rte, cI E x13 40 shr, cI E x14 40 bck, cI E x15 40 sto, cI E x16 40 wnt, cJ E x18 300 bks, cI E x19 40 (uZ (cpZ (fun _ => 0) amt k.toNat) k.toNat 0), cI E x20 40 fst, cI E x21 40 (cpZ ag ord cn.toNat)]) C 18 rfl (by decide) (by omega) (by omega) dX6_make_21 rfl ?_
        rw [cpZ_s (fun _ => 0) amt h1.1]
        refine rg_iinc (k := 4) (lv' := [(4, .int (iI (k + 1))), (0, .ref x0), (1, .int (iI (-1))), (2, .int (iI fi)), (3, .int (iI v))]) C dX6_make_22 rfl (by decide) rfl ?_
        refine rg_goto (tgt := 7) C dX6_make_25 (by decide) ?_
        refine rG.plv [1, 2, 3, 4, 0] rfl ?_
        exact ih (k + 1) (by omega) kZ (by omega)
  show rG p l e rX6_make s m args below meth c E A 8 0 0 Q [cO x0 6 [.int (iI thr), .ref x1, .ref x2, .ref x3, .ref x4, .ref x5, .ref x6, .ref x7, .ref x8, .ref x9, .ref x10, .ref x11, .ref x12, .ref x13, .ref x14, .ref x15, .ref x16, .int (iI dy), .ref x18, .ref x19, .ref x20, .ref x21, .int (iI rgs)], cZ E x1 32 isR, cI E x2 32 dn, cI E x3 32 inf, cZ E x4 8 isS, cI E x5 8 sR, cI E x6 8 cap, cI E x7 8 hol, cJ E x8 256 rls, cZ E x9 40 isG, cI E x10 40 plc, cI E x11 40 pri, cI E x12 40 rte, cI E x13 40 shr, cI E x14 40 bck, cI E x15 40 sto, cI E x16 40 wnt, cJ E x18 300 bks, cI E x19 40 amt, cI E x20 40 fst, cI E x21 40 ord] 0 [(0, .ref x0), (1, .int (iI (-1))), (2, .int (iI fi)), (3, .int (iI v))] []
  refine rg_aload_n C 0 dX6_make_0 rfl rfl ?_
  refine rg_callV (As := []) (rest := []) (wr := []) (w' := fun _ => [cO x0 6 [.int (iI thr), .ref x1, .ref x2, .ref x3, .ref x4, .ref x5, .ref x6, .ref x7, .ref x8, .ref x9, .ref x10, .ref x11, .ref x12, .ref x13, .ref x14, .ref x15, .ref x16, .int (iI dy), .ref x18, .ref x19, .ref x20, .ref x21, .int (iI cn)], cZ E x1 32 isR, cI E x2 32 dn, cI E x3 32 inf, cZ E x4 8 isS, cI E x5 8 sR, cI E x6 8 cap, cI E x7 8 hol, cJ E x8 256 rls, cZ E x9 40 isG, cI E x10 40 plc, cI E x11 40 pri, cI E x12 40 rte, cI E x13 40 shr, cI E x14 40 bck, cI E x15 40 sto, cI E x16 40 wnt, cJ E x18 300 bks, cI E x19 40 amt, cI E x20 40 fst, cI E x21 40 (cpZ ag ord cn.toNat)]) C (kX6_age l E x0 x1 x2 x3 x4 x5 x6 x7 x8 x9 x10 x11 x12 x13 x14 x15 x16 x18 x19 x20 x21 isR dn inf isS sR cap hol rls isG plc pri rte shr bck sto wnt bks amt fst ord thr dy rgs ag cn hig hord hp1 hpri) (rcwV C mX6_age w_762 ⟨Nat.le_of_ble_eq_true rfl, Nat.le_of_ble_eq_true rfl⟩) [0, 1, 2, 3, 4, 5, 6, 7, 8, 9, 10, 11, 12, 13, 14, 15, 16, 17, 18, 19, 20] [] [0, 1, 2, 3, 4, 5, 6, 7, 8, 9, 10, 11, 12, 13, 14, 15, 16, 17, 18, 19, 20] rfl rfl (by decide) (by decide) (by decide) (fun _ => rfl) (by decide) 0 rfl rfl rfl rfl (Nat.le_of_ble_eq_true rfl) dX6_make_1 ⟨Nat.le_of_ble_eq_true rfl, Nat.le_of_ble_eq_true rfl⟩ (fun _ => ?_)
  show rG p l e rX6_make s m args below meth c E A 8 0 0 Q [cO x0 6 [.int (iI thr), .ref x1, .ref x2, .ref x3, .ref x4, .ref x5, .ref x6, .ref x7, .ref x8, .ref x9, .ref x10, .ref x11, .ref x12, .ref x13, .ref x14, .ref x15, .ref x16, .int (iI dy), .ref x18, .ref x19, .ref x20, .ref x21, .int (iI cn)], cZ E x1 32 isR, cI E x2 32 dn, cI E x3 32 inf, cZ E x4 8 isS, cI E x5 8 sR, cI E x6 8 cap, cI E x7 8 hol, cJ E x8 256 rls, cZ E x9 40 isG, cI E x10 40 plc, cI E x11 40 pri, cI E x12 40 rte, cI E x13 40 shr, cI E x14 40 bck, cI E x15 40 sto, cI E x16 40 wnt, cJ E x18 300 bks, cI E x19 40 amt, cI E x20 40 fst, cI E x21 40 (cpZ ag ord cn.toNat)] 4 [(0, .ref x0), (1, .int (iI (-1))), (2, .int (iI fi)), (3, .int (iI v))] []
  refine rg_iconst C dX6_make_4 ?_
  refine rg_istore (lv' := [(4, .int (iI 0)), (0, .ref x0), (1, .int (iI (-1))), (2, .int (iI fi)), (3, .int (iI v))]) C dX6_make_5 (by decide) rfl ?_
  refine rG.plv [1, 2, 3, 4, 0] rfl ?_
  refine L7 _ 0 (by omega) (fun z8 hz8 => ?_) (Nat.lt_succ_self _)
  rw [show z8.toNat = 40 by omega]
  refine rg_iload_n C 2 dX6_make_28 rfl rfl ?_
  refine rg_if_lt (tgt := 49) C ⟨by omega, by omega⟩ dX6_make_29 (by decide) (fun h_29 => absurd h_29 (by omega)) (fun h_29 => ?_)
  refine rg_aload_n C 0 dX6_make_32 rfl rfl ?_
  refine rg_get C fX6_63 0 rfl rfl dX6_make_33 ?_
  refine rg_iload_n C 2 dX6_make_36 rfl rfl ?_
  refine rg_iload_n C 3 dX6_make_37 rfl rfl ?_
  refine rg_iast (ws' := [cO x0 6 [.int (iI thr), .ref x1, .ref x2, .ref x3, .ref x4, .ref x5, .ref x6, .ref x7, .ref x8, .ref x9, .ref x10, .ref x11, .ref x12, .ref x13, .ref x14, .ref x15, .ref x16, .int (iI dy), .ref x18, .ref x19, .ref x20, .ref x21, .int (iI cn)], cZ E x1 32 isR, cI E x2 32 dn, cI E x3 32 inf, cZ E x4 8 isS, cI E x5 8 sR, cI E x6 8 cap, cI E x7 8 hol, cJ E x8 256 rls, cZ E x9 40 isG, cI E x10 40 plc, cI E x11 40 pri, cI E x12 40 rte, cI E x13 40 shr, cI E x14 40 bck, cI E x15 40 sto, cI E x16 40 wnt, cJ E x18 300 bks, cI E x19 40 (uZ (cpZ (fun _ => 0) amt 40) fi.toNat v), cI E x20 40 fst, cI E x21 40 (cpZ ag ord cn.toNat)]) C 18 rfl (by decide) (by omega) (by omega) dX6_make_38 rfl ?_
  rw [← ha0]
  refine rg_aload_n C 0 dX6_make_39 rfl rfl ?_
  refine rg_iload_n C 2 dX6_make_40 rfl rfl ?_
  refine rg_callV (As := [.int (iI fi)]) (rest := []) (wr := []) (w' := fun _ => [cO x0 6 [.int (iI thr), .ref x1, .ref x2, .ref x3, .ref x4, .ref x5, .ref x6, .ref x7, .ref x8, .ref x9, .ref x10, .ref x11, .ref x12, .ref x13, .ref x14, .ref x15, .ref x16, .int (iI dy), .ref x18, .ref x19, .ref x20, .ref x21, .int (iI cn)], cZ E x1 32 isR, cI E x2 32 dn, cI E x3 32 inf, cZ E x4 8 isS, cI E x5 8 sR, cI E x6 8 cap, cI E x7 8 hol, cJ E x8 256 rls, cZ E x9 40 isG, cI E x10 40 plc, cI E x11 40 pri, cI E x12 40 rte, cI E x13 40 shr, cI E x14 40 bck, cI E x15 40 sto, cI E x16 40 wnt, cJ E x18 300 bks, cI E x19 40 (am 0), cI E x20 40 fst, cI E x21 40 (cpZ ag ord cn.toNat)]) C (kX6_holdsPlan l E x0 x1 x2 x3 x4 x5 x6 x7 x8 x9 x10 x11 x12 x13 x14 x15 x16 x18 x19 x20 x21 isR dn inf isS sR cap hol rls isG plc pri rte shr bck sto wnt bks (am 0) fst (cpZ ag ord cn.toNat) thr dy cn fi hdn hpe hir hig hinf (by first | omega | assumption) (by first | omega | assumption) hamc hcap (by omega) hgf) (rcwV C mX6_holdsPlan w_766 ⟨Nat.le_of_ble_eq_true rfl, Nat.le_of_ble_eq_true rfl⟩) [0, 1, 2, 3, 4, 5, 6, 7, 8, 9, 10, 11, 12, 13, 14, 15, 16, 17, 18, 19, 20] [] [0, 1, 2, 3, 4, 5, 6, 7, 8, 9, 10, 11, 12, 13, 14, 15, 16, 17, 18, 19, 20] rfl rfl (by decide) (by decide) (by decide) (fun _ => rfl) (by decide) 0 rfl rfl rfl rfl (Nat.le_of_ble_eq_true rfl) dX6_make_41 ⟨Nat.le_of_ble_eq_true rfl, Nat.le_of_ble_eq_true rfl⟩ (fun _ => ?_)
  show rG p l e rX6_make s m args below meth c E A 8 0 0 Q [cO x0 6 [.int (iI thr), .ref x1, .ref x2, .ref x3, .ref x4, .ref x5, .ref x6, .ref x7, .ref x8, .ref x9, .ref x10, .ref x11, .ref x12, .ref x13, .ref x14, .ref x15, .ref x16, .int (iI dy), .ref x18, .ref x19, .ref x20, .ref x21, .int (iI cn)], cZ E x1 32 isR, cI E x2 32 dn, cI E x3 32 inf, cZ E x4 8 isS, cI E x5 8 sR, cI E x6 8 cap, cI E x7 8 hol, cJ E x8 256 rls, cZ E x9 40 isG, cI E x10 40 plc, cI E x11 40 pri, cI E x12 40 rte, cI E x13 40 shr, cI E x14 40 bck, cI E x15 40 sto, cI E x16 40 wnt, cJ E x18 300 bks, cI E x19 40 (am 0), cI E x20 40 fst, cI E x21 40 (cpZ ag ord cn.toNat)] 44 [(0, .ref x0), (1, .int (iI (-1))), (2, .int (iI fi)), (3, .int (iI v))] [.int (iI (bZ (hldM isR dn inf isG plc bck sto shr cap hol (am 0) fi)))]
  refine rg_if_ne (tgt := 49) C (bZ_in _) dX6_make_44 (by decide) (fun h_44 => absurd h_44 (by rw [hT]; decide)) (fun h_44 => ?_)
  refine rg_iconst C dX6_make_47 ?_
  exact rg_zret C hA hQ hr hlk () rfl (by first | rfl | decide | exact (bZ_nar _) | (rw [h3]; exact bZ_nar _)) rfl dX6_make_48
