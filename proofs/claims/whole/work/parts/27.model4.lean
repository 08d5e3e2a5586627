def outM (isR dn : Nat → Int) : Nat → Bool
  | 0 => false
  | k + 1 => outM isR dn k || (decide (isR k ≠ 0) && decide (dn k = -1))
theorem outM_s {isR dn : Nat → Int} {k : Int} (hk : 0 ≤ k) : outM isR dn (k + 1).toNat = (outM isR dn k.toNat || (decide (isR k.toNat ≠ 0) && decide (dn k.toNat = -1))) := by
  rw [show (k + 1).toNat = k.toNat + 1 by omega]; rfl
abbrev rX6_reach : Room := { frames := 1, cells := 0, slots := 0, locals := 21 }
set_option maxHeartbeats 4000000 in
set_option maxRecDepth 100000 in
/-- kX6_reachF -/
theorem kX6_reachF (l : Launch) (E : rE) (x0 : Nat) (x1 : Nat) (x2 : Nat) (x3 : Nat) (x4 : Nat) (x5 : Nat) (x6 : Nat) (x7 : Nat) (x8 : Nat) (x9 : Nat) (x10 : Nat) (x11 : Nat) (x12 : Nat) (x13 : Nat) (x14 : Nat) (x15 : Nat) (x16 : Nat) (x18 : Nat) (x19 : Nat) (x20 : Nat) (x21 : Nat) (isR : Nat → Int) (dn : Nat → Int) (inf : Nat → Int) (isS : Nat → Int) (sR : Nat → Int) (cap : Nat → Int) (hol : Nat → Int) (rls : Nat → Int) (isG : Nat → Int) (plc : Nat → Int) (pri : Nat → Int) (rte : Nat → Int) (shr : Nat → Int) (bck : Nat → Int) (sto : Nat → Int) (wnt : Nat → Int) (bks : Nat → Int) (amt : Nat → Int) (fst : Nat → Int) (ord : Nat → Int) (thr : Int) (dy : Int) (rgs : Int) (r : Int) (d : Int) (tw : Int) (hIr : inI r) (hId : inI d) (hir : ∀ r : Nat, r < 32 → isR r = 0 ∨ isR r = 1) (hdn : ∀ r : Nat, r < 32 → -1 ≤ dn r ∧ dn r < 32) (htw : tw = if ¬ (0 ≤ r ∧ r < 32) ∨ d < -1 ∨ 31 < d then 1 else if 0 ≤ d ∧ isR d.toNat = 0 then 2 else if isR r.toNat ≠ 0 ∨ (d = -1 ∧ bZ (outM isR dn 32) ≠ 0) then 3 else 0) (ht1 : 1 ≤ tw) : rM l yX6_reach sX6_reach rX6_reach E [cO x0 6 [.int (iI thr), .ref x1, .ref x2, .ref x3, .ref x4, .ref x5, .ref x6, .ref x7, .ref x8, .ref x9, .ref x10, .ref x11, .ref x12, .ref x13, .ref x14, .ref x15, .ref x16, .int (iI dy), .ref x18, .ref x19, .ref x20, .ref x21, .int (iI rgs)], cZ E x1 32 isR, cI E x2 32 dn, cI E x3 32 inf, cZ E x4 8 isS, cI E x5 8 sR, cI E x6 8 cap, cI E x7 8 hol, cJ E x8 256 rls, cZ E x9 40 isG, cI E x10 40 plc, cI E x11 40 pri, cI E x12 40 rte, cI E x13 40 shr, cI E x14 40 bck, cI E x15 40 sto, cI E x16 40 wnt, cJ E x18 300 bks, cI E x19 40 amt, cI E x20 40 fst, cI E x21 40 ord] [.ref x0, .int (iI r), .int (iI d)] none (fun _ : Unit => [cO x0 6 [.int (iI tw), .ref x1, .ref x2, .ref x3, .ref x4, .ref x5, .ref x6, .ref x7, .ref x8, .ref x9, .ref x10, .ref x11, .ref x12, .ref x13, .ref x14, .ref x15, .ref x16, .int (iI dy), .ref x18, .ref x19, .ref x20, .ref x21, .int (iI rgs)], cZ E x1 32 isR, cI E x2 32 dn, cI E x3 32 inf, cZ E x4 8 isS, cI E x5 8 sR, cI E x6 8 cap, cI E x7 8 hol, cJ E x8 256 rls, cZ E x9 40 isG, cI E x10 40 plc, cI E x11 40 pri, cI E x12 40 rte, cI E x13 40 shr, cI E x14 40 bck, cI E x15 40 sto, cI E x16 40 wnt, cJ E x18 300 bks, cI E x19 40 amt, cI E x20 40 fst, cI E x21 40 ord]) := by
  refine rM.of (cc := cX6_reach) (maxL := 5) (ret := none) (by decide) rfl (Nat.le_of_ble_eq_true rfl) (fun w h => List.mem_cons_of_mem _ h) ?_
  intro p e s m args below meth c A Q hA hQ C hr hlk hnm
  have C : rC p s m args c E A 5 cX6_reach sX6_reach RX6 := C
  have L133 : ∀ (z : Int), (z = tw) → (0 ≤ z ∧ z ≤ 4) → rG p l e rX6_reach s m args below meth c E A 5 0 0 Q [cO x0 6 [.int (iI z), .ref x1, .ref x2, .ref x3, .ref x4, .ref x5, .ref x6, .ref x7, .ref x8, .ref x9, .ref x10, .ref x11, .ref x12, .ref x13, .ref x14, .ref x15, .ref x16, .int (iI dy), .ref x18, .ref x19, .ref x20, .ref x21, .int (iI rgs)], cZ E x1 32 isR, cI E x2 32 dn, cI E x3 32 inf, cZ E x4 8 isS, cI E x5 8 sR, cI E x6 8 cap, cI E x7 8 hol, cJ E x8 256 rls, cZ E x9 40 isG, cI E x10 40 plc, cI E x11 40 pri, cI E x12 40 rte, cI E x13 40 shr, cI E x14 40 bck, cI E x15 40 sto, cI E x16 40 wnt, cJ E x18 300 bks, cI E x19 40 amt, cI E x20 40 fst, cI E x21 40 ord] 133 [(0, .ref x0), (1, .int (iI r)), (2, .int (iI d))] [] := by
    intro z hz hzr
    refine rg_aload_n C 0 dX6_reach_133 rfl rfl ?_
    refine rg_get C fX6_72 0 rfl rfl dX6_reach_134 ?_
    refine rg_if_le (tgt := 141) C ⟨by omega, by omega⟩ dX6_reach_137 (by decide) (fun h_137 => absurd h_137 (by first | omega | (rw [decide_eq_true (by omega)]; decide) | (rw [decide_eq_false (by omega)]; decide))) (fun h_137 => ?_)
    exact rg_vret C hA hQ hr hlk () (by rw [hz]) rfl dX6_reach_140
  have L59 : ∀ (n : Nat) (z : Int) (k : Int) (o : Int), (z = if ¬ (0 ≤ r ∧ r < 32) ∨ d < -1 ∨ 31 < d then 1 else if 0 ≤ d ∧ isR d.toNat = 0 then 2 else 0) → (0 ≤ z ∧ z ≤ 4) → (0 ≤ k ∧ k ≤ 32) → (o = bZ (outM isR dn k.toNat)) → ((32 - k).toNat < n) → rG p l e rX6_reach s m args below meth c E A 5 0 0 Q [cO x0 6 [.int (iI z), .ref x1, .ref x2, .ref x3, .ref x4, .ref x5, .ref x6, .ref x7, .ref x8, .ref x9, .ref x10, .ref x11, .ref x12, .ref x13, .ref x14, .ref x15, .ref x16, .int (iI dy), .ref x18, .ref x19, .ref x20, .ref x21, .int (iI rgs)], cZ E x1 32 isR, cI E x2 32 dn, cI E x3 32 inf, cZ E x4 8 isS, cI E x5 8 sR, cI E x6 8 cap, cI E x7 8 hol, cJ E x8 256 rls, cZ E x9 40 isG, cI E x10 40 plc, cI E x11 40 pri, cI E x12 40 rte, cI E x13 40 shr, cI E x14 40 bck, cI E x15 40 sto, cI E x16 40 wnt, cJ E x18 300 bks, cI E x19 40 amt, cI E x20 40 fst, cI E x21 40 ord] 59 [(0, .ref x0), (1, .int (iI r)), (2, .int (iI d)), (3, .int (iI o)), (4, .int (iI k))] [] := by
    intro n
    induction n with
    | zero => intro z k o hz hzr h1 h3 hm; exact absurd hm (Nat.not_lt_zero _)
    | succ n ih =>
      intro z k o hz hzr h1 h3 hm
      refine rg_iload C 4 dX6_reach_59 rfl ?_
      refine rg_bipush (z := 32) C dX6_reach_61 (by decide) ?_
      refine rg_icmp_ge (tgt := 103) C ⟨by omega, by omega⟩ ⟨by decide, by decide⟩ dX6_reach_63 (by decide) (fun h_63 => ?_) (fun h_63 => ?_)
      · have ho9 : o = bZ (outM isR dn 32) := by rw [h3, show k.toNat = 32 by omega]
        have ho8 := bZ_01 (outM isR dn 32)
        refine rg_aload_n C 0 dX6_reach_103 rfl rfl ?_
        refine rg_get C fX6_72 0 rfl rfl dX6_reach_104 ?_
        refine rg_if_ne (tgt := 133) C ⟨by omega, by omega⟩ dX6_reach_107 (by decide) (fun h_107 => ?_) (fun h_107 => ?_)
        · refine rG.plv [0, 1, 2] rfl ?_
          exact L133 z (by omega) (by omega)
        · have hr9 := hir r.toNat (by omega)
          refine rg_aload_n C 0 dX6_reach_110 rfl rfl ?_
          refine rg_get C fX6_7 0 rfl rfl dX6_reach_111 ?_
          refine rg_iload_n C 1 dX6_reach_114 rfl rfl ?_
          refine rg_zald C 1 rfl (by decide) (by omega) (by omega) dX6_reach_115 ?_
          refine rg_if_ne (tgt := 128) C ⟨by omega, by omega⟩ dX6_reach_116 (by decide) (fun h_116 => ?_) (fun h_116 => ?_)
          · refine rg_aload_n C 0 dX6_reach_128 rfl rfl ?_
            refine rg_iconst C dX6_reach_129 ?_
            refine rg_put (ws' := [cO x0 6 [.int (iI 3), .ref x1, .ref x2, .ref x3, .ref x4, .ref x5, .ref x6, .ref x7, .ref x8, .ref x9, .ref x10, .ref x11, .ref x12, .ref x13, .ref x14, .ref x15, .ref x16, .int (iI dy), .ref x18, .ref x19, .ref x20, .ref x21, .int (iI rgs)], cZ E x1 32 isR, cI E x2 32 dn, cI E x3 32 inf, cZ E x4 8 isS, cI E x5 8 sR, cI E x6 8 cap, cI E x7 8 hol, cJ E x8 256 rls, cZ E x9 40 isG, cI E x10 40 plc, cI E x11 40 pri, cI E x12 40 rte, cI E x13 40 shr, cI E x14 40 bck, cI E x15 40 sto, cI E x16 40 wnt, cJ E x18 300 bks, cI E x19 40 amt, cI E x20 40 fst, cI E x21 40 ord]) C fX6_72 layX6 rfl 0 rfl rfl rfl (Nat.le_of_ble_eq_true rfl) dX6_reach_130 rfl ?_
            refine rG.plv [0, 1, 2] rfl ?_
            exact L133 3 (by omega) (by omega)
          · refine rg_iload_n C 2 dX6_reach_119 rfl rfl ?_
            refine rg_iconst C dX6_reach_120 ?_
            refine rg_icmp_ne (tgt := 133) C hId ⟨by decide, by decide⟩ dX6_reach_121 (by decide) (fun h_121 => ?_) (fun h_121 => ?_)
            · refine rG.plv [0, 1, 2] rfl ?_
              exact L133 z (by omega) (by omega)
            · refine rg_iload_n C 3 dX6_reach_124 rfl rfl ?_
              refine rg_if_eq (tgt := 133) C ⟨by omega, by omega⟩ dX6_reach_125 (by decide) (fun h_125 => ?_) (fun h_125 => ?_)
              · refine rG.plv [0, 1, 2] rfl ?_
                exact L133 z (by omega) (by omega)
              · refine rg_aload_n C 0 dX6_reach_128 rfl rfl ?_
                refine rg_iconst C dX6_reach_129 ?_
                refine rg_put (ws' := [cO x0 6 [.int (iI 3), .ref x1, .ref x2, .ref x3, .ref x4, .ref x5, .ref x6, .ref x7, .ref x8, .ref x9, .ref x10, .ref x11, .ref x12, .ref x13, .ref x14, .ref x15, .ref x16, .int (iI dy), .ref x18, .ref x19, .ref x20, .ref x21, .int (iI rgs)], cZ E x1 32 isR, cI E x2 32 dn, cI E x3 32 inf, cZ E x4 8 isS, cI E x5 8 sR, cI E x6 8 cap, cI E x7 8 hol, cJ E x8 256 rls, cZ E x9 40 isG, cI E x10 40 plc, cI E x11 40 pri, cI E x12 40 rte, cI E x13 40 shr, cI E x14 40 bck, cI E x15 40 sto, cI E x16 40 wnt, cJ E x18 300 bks, cI E x19 40 amt, cI E x20 40 fst, cI E x21 40 ord]) C fX6_72 layX6 rfl 0 rfl rfl rfl (Nat.le_of_ble_eq_true rfl) dX6_reach_130 rfl ?_
                refine rG.plv [0, 1, 2] rfl ?_
                exact L133 3 (by omega) (by omega)
      · have ho9 : o = 0 ∨ o = 1 := by rw [h3]; exact bZ_01 _
        have hr9 := hir k.toNat (by omega)
        have hd9 := hdn k.toNat (by omega)
        refine rg_iload_n C 3 dX6_reach_66 rfl rfl ?_
        refine rg_if_ne (tgt := 91) C ⟨by omega, by omega⟩ dX6_reach_67 (by decide) (fun h_67 => ?_) (fun h_67 => ?_)
        · refine rg_iconst C dX6_reach_91 ?_
          refine rg_goto (tgt := 96) C dX6_reach_92 (by decide) ?_
          refine rg_istore_n (lv' := [(3, .int (iI 1)), (0, .ref x0), (1, .int (iI r)), (2, .int (iI d)), (4, .int (iI k))]) C dX6_reach_96 rfl (by decide) rfl ?_
          refine rg_iinc (k := 4) (lv' := [(4, .int (iI (k + 1))), (3, .int (iI 1)), (0, .ref x0), (1, .int (iI r)), (2, .int (iI d))]) C dX6_reach_97 rfl (by decide) rfl ?_
          refine rg_goto (tgt := 59) C dX6_reach_100 (by decide) ?_
          refine rG.plv [2, 3, 4, 1, 0] rfl ?_
          exact ih z (k + 1) 1 hz hzr (by omega) (by first | (rw [outM_s h1.1, bZ_T (show bZ (outM isR dn k.toNat) ≠ 0 by omega)]; rfl) | (rw [outM_s h1.1, bZ_F (show bZ (outM isR dn k.toNat) = 0 by omega), decide_eq_true (show isR k.toNat ≠ 0 by omega), decide_eq_true (show dn k.toNat = -1 by omega)]; rfl) | (rw [outM_s h1.1, bZ_F (show bZ (outM isR dn k.toNat) = 0 by omega), decide_eq_false (show ¬ isR k.toNat ≠ 0 by omega)]; rfl) | (rw [outM_s h1.1, bZ_F (show bZ (outM isR dn k.toNat) = 0 by omega), decide_eq_true (show isR k.toNat ≠ 0 by omega), decide_eq_false (show ¬ dn k.toNat = -1 by omega)]; rfl)) (by omega)
        · refine rg_aload_n C 0 dX6_reach_70 rfl rfl ?_
          refine rg_get C fX6_7 0 rfl rfl dX6_reach_71 ?_
          refine rg_iload C 4 dX6_reach_74 rfl ?_
          refine rg_zald C 1 rfl (by decide) (by omega) (by omega) dX6_reach_76 ?_
          refine rg_if_eq (tgt := 95) C ⟨by omega, by omega⟩ dX6_reach_77 (by decide) (fun h_77 => ?_) (fun h_77 => ?_)
          · refine rg_iconst C dX6_reach_95 ?_
            refine rg_istore_n (lv' := [(3, .int (iI 0)), (0, .ref x0), (1, .int (iI r)), (2, .int (iI d)), (4, .int (iI k))]) C dX6_reach_96 rfl (by decide) rfl ?_
            refine rg_iinc (k := 4) (lv' := [(4, .int (iI (k + 1))), (3, .int (iI 0)), (0, .ref x0), (1, .int (iI r)), (2, .int (iI d))]) C dX6_reach_97 rfl (by decide) rfl ?_
            refine rg_goto (tgt := 59) C dX6_reach_100 (by decide) ?_
            refine rG.plv [2, 3, 4, 1, 0] rfl ?_
            exact ih z (k + 1) 0 hz hzr (by omega) (by first | (rw [outM_s h1.1, bZ_T (show bZ (outM isR dn k.toNat) ≠ 0 by omega)]; rfl) | (rw [outM_s h1.1, bZ_F (show bZ (outM isR dn k.toNat) = 0 by omega), decide_eq_true (show isR k.toNat ≠ 0 by omega), decide_eq_true (show dn k.toNat = -1 by omega)]; rfl) | (rw [outM_s h1.1, bZ_F (show bZ (outM isR dn k.toNat) = 0 by omega), decide_eq_false (show ¬ isR k.toNat ≠ 0 by omega)]; rfl) | (rw [outM_s h1.1, bZ_F (show bZ (outM isR dn k.toNat) = 0 by omega), decide_eq_true (show isR k.toNat ≠ 0 by omega), decide_eq_false (show ¬ dn k.toNat = -1 by omega)]; rfl)) (by omega)
          · refine rg_aload_n C 0 dX6_reach_80 rfl rfl ?_
            refine rg_get C fX6_13 0 rfl rfl dX6_reach_81 ?_
            refine rg_iload C 4 dX6_reach_84 rfl ?_
            refine rg_iald C 2 rfl (by decide) (by omega) (by omega) dX6_reach_86 ?_
            refine rg_iconst C dX6_reach_87 ?_
            refine rg_icmp_ne (tgt := 95) C ⟨by omega, by omega⟩ ⟨by decide, by decide⟩ dX6_reach_88 (by decide) (fun h_88 => ?_) (fun h_88 => ?_)
            · refine rg_iconst C dX6_reach_95 ?_
              refine rg_istore_n (lv' := [(3, .int (iI 0)), (0, .ref x0), (1, .int (iI r)), (2, .int (iI d)), (4, .int (iI k))]) C dX6_reach_96 rfl (by decide) rfl ?_
              refine rg_iinc (k := 4) (lv' := [(4, .int (iI (k + 1))), (3, .int (iI 0)), (0, .ref x0), (1, .int (iI r)), (2, .int (iI d))]) C dX6_reach_97 rfl (by decide) rfl ?_
              refine rg_goto (tgt := 59) C dX6_reach_100 (by decide) ?_
              refine rG.plv [2, 3, 4, 1, 0] rfl ?_
              exact ih z (k + 1) 0 hz hzr (by omega) (by first | (rw [outM_s h1.1, bZ_T (show bZ (outM isR dn k.toNat) ≠ 0 by omega)]; rfl) | (rw [outM_s h1.1, bZ_F (show bZ (outM isR dn k.toNat) = 0 by omega), decide_eq_true (show isR k.toNat ≠ 0 by omega), decide_eq_true (show dn k.toNat = -1 by omega)]; rfl) | (rw [outM_s h1.1, bZ_F (show bZ (outM isR dn k.toNat) = 0 by omega), decide_eq_false (show ¬ isR k.toNat ≠ 0 by omega)]; rfl) | (rw [outM_s h1.1, bZ_F (show bZ (outM isR dn k.toNat) = 0 by omega), decide_eq_true (show isR k.toNat ≠ 0 by omega), decide_eq_false (show ¬ dn k.toNat = -1 by omega)]; rfl)) (by omega)
            · refine rg_iconst C dX6_reach_91 ?_
              refine rg_goto (tgt := 96) C dX6_reach_92 (by decide) ?_
              refine rg_istore_n (lv' := [(3, .int (iI 1)), (0, .ref x0), (1, .int (iI r)), (2, .int (iI d)), (4, .int (iI k))]) C dX6_reach_96 rfl (by decide) rfl ?_
              refine rg_iinc (k := 4) (lv' := [(4, .int (iI (k + 1))), (3, .int (iI 1)), (0, .ref x0), (1, .int (iI r)), (2, .int (iI d))]) C dX6_reach_97 rfl (by decide) rfl ?_
              refine rg_goto (tgt := 59) C dX6_reach_100 (by decide) ?_
              refine rG.plv [2, 3, 4, 1, 0] rfl ?_
              exact ih z (k + 1) 1 hz hzr (by omega) (by first | (rw [outM_s h1.1, bZ_T (show bZ (outM isR dn k.toNat) ≠ 0 by omega)]; rfl) | (rw [outM_s h1.1, bZ_F (show bZ (outM isR dn k.toNat) = 0 by omega), decide_eq_true (show isR k.toNat ≠ 0 by omega), decide_eq_true (show dn k.toNat = -1 by omega)]; rfl) | (rw [outM_s h1.1, bZ_F (show bZ (outM isR dn k.toNat) = 0 by omega), decide_eq_false (show ¬ isR k.toNat ≠ 0 by omega)]; rfl) | (rw [outM_s h1.1, bZ_F (show bZ (outM isR dn k.toNat) = 0 by omega), decide_eq_true (show isR k.toNat ≠ 0 by omega), decide_eq_false (show ¬ dn k.toNat = -1 by omega)]; rfl)) (by omega)
  have L54 : ∀ (z : Int), (z = if ¬ (0 ≤ r ∧ r < 32) ∨ d < -1 ∨ 31 < d then 1 else if 0 ≤ d ∧ isR d.toNat = 0 then 2 else 0) → (0 ≤ z ∧ z ≤ 4) → rG p l e rX6_reach s m args below meth c E A 5 0 0 Q [cO x0 6 [.int (iI z), .ref x1, .ref x2, .ref x3, .ref x4, .ref x5, .ref x6, .ref x7, .ref x8, .ref x9, .ref x10, .ref x11, .ref x12, .ref x13, .ref x14, .ref x15, .ref x16, .int (iI dy), .ref x18, .ref x19, .ref x20, .ref x21, .int (iI rgs)], cZ E x1 32 isR, cI E x2 32 dn, cI E x3 32 inf, cZ E x4 8 isS, cI E x5 8 sR, cI E x6 8 cap, cI E x7 8 hol, cJ E x8 256 rls, cZ E x9 40 isG, cI E x10 40 plc, cI E x11 40 pri, cI E x12 40 rte, cI E x13 40 shr, cI E x14 40 bck, cI E x15 40 sto, cI E x16 40 wnt, cJ E x18 300 bks, cI E x19 40 amt, cI E x20 40 fst, cI E x21 40 ord] 54 [(0, .ref x0), (1, .int (iI r)), (2, .int (iI d))] [] := by
    intro z hz hzr
    refine rg_iconst C dX6_reach_54 ?_
    refine rg_istore_n (lv' := [(3, .int (iI 0)), (0, .ref x0), (1, .int (iI r)), (2, .int (iI d))]) C dX6_reach_55 rfl (by decide) rfl ?_
    refine rg_iconst C dX6_reach_56 ?_
    refine rg_istore (lv' := [(4, .int (iI 0)), (3, .int (iI 0)), (0, .ref x0), (1, .int (iI r)), (2, .int (iI d))]) C dX6_reach_57 (by decide) rfl ?_
    refine rG.plv [2, 3, 4, 1, 0] rfl ?_
    exact L59 _ z 0 0 hz hzr (by omega) rfl (Nat.lt_succ_self _)
  show rG p l e rX6_reach s m args below meth c E A 5 0 0 Q [cO x0 6 [.int (iI thr), .ref x1, .ref x2, .ref x3, .ref x4, .ref x5, .ref x6, .ref x7, .ref x8, .ref x9, .ref x10, .ref x11, .ref x12, .ref x13, .ref x14, .ref x15, .ref x16, .int (iI dy), .ref x18, .ref x19, .ref x20, .ref x21, .int (iI rgs)], cZ E x1 32 isR, cI E x2 32 dn, cI E x3 32 inf, cZ E x4 8 isS, cI E x5 8 sR, cI E x6 8 cap, cI E x7 8 hol, cJ E x8 256 rls, cZ E x9 40 isG, cI E x10 40 plc, cI E x11 40 pri, cI E x12 40 rte, cI E x13 40 shr, cI E x14 40 bck, cI E x15 40 sto, cI E x16 40 wnt, cJ E x18 300 bks, cI E x19 40 amt, cI E x20 40 fst, cI E x21 40 ord] 0 [(0, .ref x0), (1, .int (iI r)), (2, .int (iI d))] []
  refine rg_aload_n C 0 dX6_reach_0 rfl rfl ?_
  refine rg_iload_n C 1 dX6_reach_1 rfl rfl ?_
  refine rg_bipush (z := 32) C dX6_reach_2 (by decide) ?_
  refine rg_callS (As := [.int (iI r), .int (iI 32)]) (rest := [.ref x0]) (wr := [cO x0 6 [.int (iI thr), .ref x1, .ref x2, .ref x3, .ref x4, .ref x5, .ref x6, .ref x7, .ref x8, .ref x9, .ref x10, .ref x11, .ref x12, .ref x13, .ref x14, .ref x15, .ref x16, .int (iI dy), .ref x18, .ref x19, .ref x20, .ref x21, .int (iI rgs)], cZ E x1 32 isR, cI E x2 32 dn, cI E x3 32 inf, cZ E x4 8 isS, cI E x5 8 sR, cI E x6 8 cap, cI E x7 8 hol, cJ E x8 256 rls, cZ E x9 40 isG, cI E x10 40 plc, cI E x11 40 pri, cI E x12 40 rte, cI E x13 40 shr, cI E x14 40 bck, cI E x15 40 sto, cI E x16 40 wnt, cJ E x18 300 bks, cI E x19 40 amt, cI E x20 40 fst, cI E x21 40 ord]) (w' := fun _ => [cO x0 6 [.int (iI thr), .ref x1, .ref x2, .ref x3, .ref x4, .ref x5, .ref x6, .ref x7, .ref x8, .ref x9, .ref x10, .ref x11, .ref x12, .ref x13, .ref x14, .ref x15, .ref x16, .int (iI dy), .ref x18, .ref x19, .ref x20, .ref x21, .int (iI rgs)], cZ E x1 32 isR, cI E x2 32 dn, cI E x3 32 inf, cZ E x4 8 isS, cI E x5 8 sR, cI E x6 8 cap, cI E x7 8 hol, cJ E x8 256 rls, cZ E x9 40 isG, cI E x10 40 plc, cI E x11 40 pri, cI E x12 40 rte, cI E x13 40 shr, cI E x14 40 bck, cI E x15 40 sto, cI E x16 40 wnt, cJ E x18 300 bks, cI E x19 40 amt, cI E x20 40 fst, cI E x21 40 ord]) C (kX6_isNumber l E r 32 hIr (⟨by decide, by decide⟩)) (rcwS C mX6_isNumber w_701 ⟨Nat.le_of_ble_eq_true rfl, Nat.le_of_ble_eq_true rfl⟩) [] [0, 1, 2, 3, 4, 5, 6, 7, 8, 9, 10, 11, 12, 13, 14, 15, 16, 17, 18, 19, 20] [0, 1, 2, 3, 4, 5, 6, 7, 8, 9, 10, 11, 12, 13, 14, 15, 16, 17, 18, 19, 20] rfl rfl (by decide) (by decide) (by decide) (fun _ => rfl) (by decide) rfl rfl (Nat.le_of_ble_eq_true rfl) dX6_reach_4 ⟨Nat.le_of_ble_eq_true rfl, Nat.le_of_ble_eq_true rfl⟩ (fun _ => ?_)
  show rG p l e rX6_reach s m args below meth c E A 5 0 0 Q [cO x0 6 [.int (iI thr), .ref x1, .ref x2, .ref x3, .ref x4, .ref x5, .ref x6, .ref x7, .ref x8, .ref x9, .ref x10, .ref x11, .ref x12, .ref x13, .ref x14, .ref x15, .ref x16, .int (iI dy), .ref x18, .ref x19, .ref x20, .ref x21, .int (iI rgs)], cZ E x1 32 isR, cI E x2 32 dn, cI E x3 32 inf, cZ E x4 8 isS, cI E x5 8 sR, cI E x6 8 cap, cI E x7 8 hol, cJ E x8 256 rls, cZ E x9 40 isG, cI E x10 40 plc, cI E x11 40 pri, cI E x12 40 rte, cI E x13 40 shr, cI E x14 40 bck, cI E x15 40 sto, cI E x16 40 wnt, cJ E x18 300 bks, cI E x19 40 amt, cI E x20 40 fst, cI E x21 40 ord] 7 [(0, .ref x0), (1, .int (iI r)), (2, .int (iI d))] [.int (iI (bZ (decide (0 ≤ r ∧ r < 32)))), .ref x0]
  refine rg_if_eq (tgt := 21) C (bZ_in _) dX6_reach_7 (by decide) (fun h_7 => ?_) (fun h_7 => ?_)
  · replace h_7 := dec0.mp h_7
    refine rg_iconst C dX6_reach_21 ?_
    refine rg_goto (tgt := 26) C dX6_reach_22 (by decide) ?_
    refine rg_put (ws' := [cO x0 6 [.int (iI 1), .ref x1, .ref x2, .ref x3, .ref x4, .ref x5, .ref x6, .ref x7, .ref x8, .ref x9, .ref x10, .ref x11, .ref x12, .ref x13, .ref x14, .ref x15, .ref x16, .int (iI dy), .ref x18, .ref x19, .ref x20, .ref x21, .int (iI rgs)], cZ E x1 32 isR, cI E x2 32 dn, cI E x3 32 inf, cZ E x4 8 isS, cI E x5 8 sR, cI E x6 8 cap, cI E x7 8 hol, cJ E x8 256 rls, cZ E x9 40 isG, cI E x10 40 plc, cI E x11 40 pri, cI E x12 40 rte, cI E x13 40 shr, cI E x14 40 bck, cI E x15 40 sto, cI E x16 40 wnt, cJ E x18 300 bks, cI E x19 40 amt, cI E x20 40 fst, cI E x21 40 ord]) C fX6_72 layX6 rfl 0 rfl rfl rfl (Nat.le_of_ble_eq_true rfl) dX6_reach_26 rfl ?_
    refine rg_aload_n C 0 dX6_reach_29 rfl rfl ?_
    refine rg_get C fX6_72 0 rfl rfl dX6_reach_30 ?_
    refine rg_if_ne (tgt := 54) C ⟨by decide, by decide⟩ dX6_reach_33 (by decide) (fun h_33 => ?_) (fun h_33 => absurd h_33 (by first | omega | (rw [decide_eq_true (by omega)]; decide) | (rw [decide_eq_false (by omega)]; decide)))
    exact L54 1 (by omega) (by omega)
  · replace h_7 := of_decide_eq_true (bZ_T h_7)
    refine rg_iload_n C 2 dX6_reach_10 rfl rfl ?_
    refine rg_iconst C dX6_reach_11 ?_
    refine rg_icmp_lt (tgt := 21) C hId ⟨by decide, by decide⟩ dX6_reach_12 (by decide) (fun h_12 => ?_) (fun h_12 => ?_)
    · refine rg_iconst C dX6_reach_21 ?_
      refine rg_goto (tgt := 26) C dX6_reach_22 (by decide) ?_
      refine rg_put (ws' := [cO x0 6 [.int (iI 1), .ref x1, .ref x2, .ref x3, .ref x4, .ref x5, .ref x6, .ref x7, .ref x8, .ref x9, .ref x10, .ref x11, .ref x12, .ref x13, .ref x14, .ref x15, .ref x16, .int (iI dy), .ref x18, .ref x19, .ref x20, .ref x21, .int (iI rgs)], cZ E x1 32 isR, cI E x2 32 dn, cI E x3 32 inf, cZ E x4 8 isS, cI E x5 8 sR, cI E x6 8 cap, cI E x7 8 hol, cJ E x8 256 rls, cZ E x9 40 isG, cI E x10 40 plc, cI E x11 40 pri, cI E x12 40 rte, cI E x13 40 shr, cI E x14 40 bck, cI E x15 40 sto, cI E x16 40 wnt, cJ E x18 300 bks, cI E x19 40 amt, cI E x20 40 fst, cI E x21 40 ord]) C fX6_72 layX6 rfl 0 rfl rfl rfl (Nat.le_of_ble_eq_true rfl) dX6_reach_26 rfl ?_
      refine rg_aload_n C 0 dX6_reach_29 rfl rfl ?_
      refine rg_get C fX6_72 0 rfl rfl dX6_reach_30 ?_
      refine rg_if_ne (tgt := 54) C ⟨by decide, by decide⟩ dX6_reach_33 (by decide) (fun h_33 => ?_) (fun h_33 => absurd h_33 (by first | omega | (rw [decide_eq_true (by omega)]; decide) | (rw [decide_eq_false (by omega)]; decide)))
      exact L54 1 (by omega) (by omega)
    · refine rg_iload_n C 2 dX6_reach_15 rfl rfl ?_
      refine rg_bipush (z := 31) C dX6_reach_16 (by decide) ?_
      refine rg_icmp_le (tgt := 25) C hId ⟨by decide, by decide⟩ dX6_reach_18 (by decide) (fun h_18 => ?_) (fun h_18 => ?_)
      · refine rg_iconst C dX6_reach_25 ?_
        refine rg_put (ws' := [cO x0 6 [.int (iI 0), .ref x1, .ref x2, .ref x3, .ref x4, .ref x5, .ref x6, .ref x7, .ref x8, .ref x9, .ref x10, .ref x11, .ref x12, .ref x13, .ref x14, .ref x15, .ref x16, .int (iI dy), .ref x18, .ref x19, .ref x20, .ref x21, .int (iI rgs)], cZ E x1 32 isR, cI E x2 32 dn, cI E x3 32 inf, cZ E x4 8 isS, cI E x5 8 sR, cI E x6 8 cap, cI E x7 8 hol, cJ E x8 256 rls, cZ E x9 40 isG, cI E x10 40 plc, cI E x11 40 pri, cI E x12 40 rte, cI E x13 40 shr, cI E x14 40 bck, cI E x15 40 sto, cI E x16 40 wnt, cJ E x18 300 bks, cI E x19 40 amt, cI E x20 40 fst, cI E x21 40 ord]) C fX6_72 layX6 rfl 0 rfl rfl rfl (Nat.le_of_ble_eq_true rfl) dX6_reach_26 rfl ?_
        refine rg_aload_n C 0 dX6_reach_29 rfl rfl ?_
        refine rg_get C fX6_72 0 rfl rfl dX6_reach_30 ?_
        refine rg_if_ne (tgt := 54) C ⟨by decide, by decide⟩ dX6_reach_33 (by decide) (fun h_33 => absurd h_33 (by first | omega | (rw [decide_eq_true (by omega)]; decide) | (rw [decide_eq_false (by omega)]; decide))) (fun h_33 => ?_)
        refine rg_iload_n C 2 dX6_reach_36 rfl rfl ?_
        refine rg_if_lt (tgt := 54) C hId dX6_reach_37 (by decide) (fun h_37 => ?_) (fun h_37 => ?_)
        · exact L54 0 (by omega) (by omega)
        · have hs9 := hir d.toNat (by omega)
          refine rg_aload_n C 0 dX6_reach_40 rfl rfl ?_
          refine rg_get C fX6_7 0 rfl rfl dX6_reach_41 ?_
          refine rg_iload_n C 2 dX6_reach_44 rfl rfl ?_
          refine rg_zald C 1 rfl (by decide) (by omega) (by omega) dX6_reach_45 ?_
          refine rg_if_ne (tgt := 54) C ⟨by omega, by omega⟩ dX6_reach_46 (by decide) (fun h_46 => ?_) (fun h_46 => ?_)
          · exact L54 0 (by omega) (by omega)
          · refine rg_aload_n C 0 dX6_reach_49 rfl rfl ?_
            refine rg_iconst C dX6_reach_50 ?_
            refine rg_put (ws' := [cO x0 6 [.int (iI 2), .ref x1, .ref x2, .ref x3, .ref x4, .ref x5, .ref x6, .ref x7, .ref x8, .ref x9, .ref x10, .ref x11, .ref x12, .ref x13, .ref x14, .ref x15, .ref x16, .int (iI dy), .ref x18, .ref x19, .ref x20, .ref x21, .int (iI rgs)], cZ E x1 32 isR, cI E x2 32 dn, cI E x3 32 inf, cZ E x4 8 isS, cI E x5 8 sR, cI E x6 8 cap, cI E x7 8 hol, cJ E x8 256 rls, cZ E x9 40 isG, cI E x10 40 plc, cI E x11 40 pri, cI E x12 40 rte, cI E x13 40 shr, cI E x14 40 bck, cI E x15 40 sto, cI E x16 40 wnt, cJ E x18 300 bks, cI E x19 40 amt, cI E x20 40 fst, cI E x21 40 ord]) C fX6_72 layX6 rfl 0 rfl rfl rfl (Nat.le_of_ble_eq_true rfl) dX6_reach_51 rfl ?_
            exact L54 2 (by omega) (by omega)
      · refine rg_iconst C dX6_reach_21 ?_
        refine rg_goto (tgt := 26) C dX6_reach_22 (by decide) ?_
        refine rg_put (ws' := [cO x0 6 [.int (iI 1), .ref x1, .ref x2, .ref x3, .ref x4, .ref x5, .ref x6, .ref x7, .ref x8, .ref x9, .ref x10, .ref x11, .ref x12, .ref x13, .ref x14, .ref x15, .ref x16, .int (iI dy), .ref x18, .ref x19, .ref x20, .ref x21, .int (iI rgs)], cZ E x1 32 isR, cI E x2 32 dn, cI E x3 32 inf, cZ E x4 8 isS, cI E x5 8 sR, cI E x6 8 cap, cI E x7 8 hol, cJ E x8 256 rls, cZ E x9 40 isG, cI E x10 40 plc, cI E x11 40 pri, cI E x12 40 rte, cI E x13 40 shr, cI E x14 40 bck, cI E x15 40 sto, cI E x16 40 wnt, cJ E x18 300 bks, cI E x19 40 amt, cI E x20 40 fst, cI E x21 40 ord]) C fX6_72 layX6 rfl 0 rfl rfl rfl (Nat.le_of_ble_eq_true rfl) dX6_reach_26 rfl ?_
        refine rg_aload_n C 0 dX6_reach_29 rfl rfl ?_
        refine rg_get C fX6_72 0 rfl rfl dX6_reach_30 ?_
        refine rg_if_ne (tgt := 54) C ⟨by decide, by decide⟩ dX6_reach_33 (by decide) (fun h_33 => ?_) (fun h_33 => absurd h_33 (by first | omega | (rw [decide_eq_true (by omega)]; decide) | (rw [decide_eq_false (by omega)]; decide)))
        exact L54 1 (by omega) (by omega)
set_option maxHeartbeats 4000000 in
set_option maxRecDepth 100000 in
/-- kX6_reachT -/
theorem kX6_reachT (l : Launch) (E : rE) (x0 : Nat) (x1 : Nat) (x2 : Nat) (x3 : Nat) (x4 : Nat) (x5 : Nat) (x6 : Nat) (x7 : Nat) (x8 : Nat) (x9 : Nat) (x10 : Nat) (x11 : Nat) (x12 : Nat) (x13 : Nat) (x14 : Nat) (x15 : Nat) (x16 : Nat) (x18 : Nat) (x19 : Nat) (x20 : Nat) (x21 : Nat) (isR : Nat → Int) (dn : Nat → Int) (inf : Nat → Int) (isS : Nat → Int) (sR : Nat → Int) (cap : Nat → Int) (hol : Nat → Int) (rls : Nat → Int) (isG : Nat → Int) (plc : Nat → Int) (pri : Nat → Int) (rte : Nat → Int) (shr : Nat → Int) (bck : Nat → Int) (sto : Nat → Int) (wnt : Nat → Int) (bks : Nat → Int) (amt : Nat → Int) (fst : Nat → Int) (ord : Nat → Int) (thr : Int) (dy : Int) (rgs : Int) (r : Int) (d : Int) (tw : Int) (hIr : inI r) (hId : inI d) (hir : ∀ r : Nat, r < 32 → isR r = 0 ∨ isR r = 1) (hdn : ∀ r : Nat, r < 32 → -1 ≤ dn r ∧ dn r < 32) (htw : tw = if ¬ (0 ≤ r ∧ r < 32) ∨ d < -1 ∨ 31 < d then 1 else if 0 ≤ d ∧ isR d.toNat = 0 then 2 else if isR r.toNat ≠ 0 ∨ (d = -1 ∧ bZ (outM isR dn 32) ≠ 0) then 3 else 0) (ht1 : tw = 0) : rM l yX6_reach sX6_reach rX6_reach E [cO x0 6 [.int (iI thr), .ref x1, .ref x2, .ref x3, .ref x4, .ref x5, .ref x6, .ref x7, .ref x8, .ref x9, .ref x10, .ref x11, .ref x12, .ref x13, .ref x14, .ref x15, .ref x16, .int (iI dy), .ref x18, .ref x19, .ref x20, .ref x21, .int (iI rgs)], cZ E x1 32 isR, cI E x2 32 dn, cI E x3 32 inf, cZ E x4 8 isS, cI E x5 8 sR, cI E x6 8 cap, cI E x7 8 hol, cJ E x8 256 rls, cZ E x9 40 isG, cI E x10 40 plc, cI E x11 40 pri, cI E x12 40 rte, cI E x13 40 shr, cI E x14 40 bck, cI E x15 40 sto, cI E x16 40 wnt, cJ E x18 300 bks, cI E x19 40 amt, cI E x20 40 fst, cI E x21 40 ord] [.ref x0, .int (iI r), .int (iI d)] none (fun _ : Unit => [cO x0 6 [.int (iI 0), .ref x1, .ref x2, .ref x3, .ref x4, .ref x5, .ref x6, .ref x7, .ref x8, .ref x9, .ref x10, .ref x11, .ref x12, .ref x13, .ref x14, .ref x15, .ref x16, .int (iI dy), .ref x18, .ref x19, .ref x20, .ref x21, .int (iI rgs)], cZ E x1 32 (uZ isR r.toNat 1), cI E x2 32 (uZ dn r.toNat d), cI E x3 32 (uZ inf r.toNat 0), cZ E x4 8 isS, cI E x5 8 sR, cI E x6 8 cap, cI E x7 8 hol, cJ E x8 256 rls, cZ E x9 40 isG, cI E x10 40 plc, cI E x11 40 pri, cI E x12 40 rte, cI E x13 40 shr, cI E x14 40 bck, cI E x15 40 sto, cI E x16 40 wnt, cJ E x18 300 bks, cI E x19 40 amt, cI E x20 40 fst, cI E x21 40 ord]) := by
  refine rM.of (cc := cX6_reach) (maxL := 5) (ret := none) (by decide) rfl (Nat.le_of_ble_eq_true rfl) (fun w h => List.mem_cons_of_mem _ h) ?_
  intro p e s m args below meth c A Q hA hQ C hr hlk hnm
  have C : rC p s m args c E A 5 cX6_reach sX6_reach RX6 := C
  have L133 : ∀ (z : Int), (z = tw) → (0 ≤ z ∧ z ≤ 4) → rG p l e rX6_reach s m args below meth c E A 5 0 0 Q [cO x0 6 [.int (iI z), .ref x1, .ref x2, .ref x3, .ref x4, .ref x5, .ref x6, .ref x7, .ref x8, .ref x9, .ref x10, .ref x11, .ref x12, .ref x13, .ref x14, .ref x15, .ref x16, .int (iI dy), .ref x18, .ref x19, .ref x20, .ref x21, .int (iI rgs)], cZ E x1 32 isR, cI E x2 32 dn, cI E x3 32 inf, cZ E x4 8 isS, cI E x5 8 sR, cI E x6 8 cap, cI E x7 8 hol, cJ E x8 256 rls, cZ E x9 40 isG, cI E x10 40 plc, cI E x11 40 pri, cI E x12 40 rte, cI E x13 40 shr, cI E x14 40 bck, cI E x15 40 sto, cI E x16 40 wnt, cJ E x18 300 bks, cI E x19 40 amt, cI E x20 40 fst, cI E x21 40 ord] 133 [(0, .ref x0), (1, .int (iI r)), (2, .int (iI d))] [] := by
    intro z hz hzr
    refine rg_aload_n C 0 dX6_reach_133 rfl rfl ?_
    refine rg_get C fX6_72 0 rfl rfl dX6_reach_134 ?_
    refine rg_if_le (tgt := 141) C ⟨by omega, by omega⟩ dX6_reach_137 (by decide) (fun h_137 => ?_) (fun h_137 => absurd h_137 (by first | omega | (rw [decide_eq_true (by omega)]; decide) | (rw [decide_eq_false (by omega)]; decide)))
    refine rg_aload_n C 0 dX6_reach_141 rfl rfl ?_
    refine rg_get C fX6_7 0 rfl rfl dX6_reach_142 ?_
    refine rg_iload_n C 1 dX6_reach_145 rfl rfl ?_
    refine rg_iconst C dX6_reach_146 ?_
    refine rg_zast (ws' := [cO x0 6 [.int (iI z), .ref x1, .ref x2, .ref x3, .ref x4, .ref x5, .ref x6, .ref x7, .ref x8, .ref x9, .ref x10, .ref x11, .ref x12, .ref x13, .ref x14, .ref x15, .ref x16, .int (iI dy), .ref x18, .ref x19, .ref x20, .ref x21, .int (iI rgs)], cZ E x1 32 (uZ isR r.toNat 1), cI E x2 32 dn, cI E x3 32 inf, cZ E x4 8 isS, cI E x5 8 sR, cI E x6 8 cap, cI E x7 8 hol, cJ E x8 256 rls, cZ E x9 40 isG, cI E x10 40 plc, cI E x11 40 pri, cI E x12 40 rte, cI E x13 40 shr, cI E x14 40 bck, cI E x15 40 sto, cI E x16 40 wnt, cJ E x18 300 bks, cI E x19 40 amt, cI E x20 40 fst, cI E x21 40 ord]) C 1 rfl (by decide) (by omega) (by omega) (by decide) dX6_reach_147 rfl ?_
    refine rg_aload_n C 0 dX6_reach_148 rfl rfl ?_
    refine rg_get C fX6_13 0 rfl rfl dX6_reach_149 ?_
    refine rg_iload_n C 1 dX6_reach_152 rfl rfl ?_
    refine rg_iload_n C 2 dX6_reach_153 rfl rfl ?_
    refine rg_iast (ws' := [cO x0 6 [.int (iI z), .ref x1, .ref x2, .ref x3, .ref x4, .ref x5, .ref x6, .ref x7, .ref x8, .ref x9, .ref x10, .ref x11, .ref x12, .ref x13, .ref x14, .ref x15, .ref x16, .int (iI dy), .ref x18, .ref x19, .ref x20, .ref x21, .int (iI rgs)], cZ E x1 32 (uZ isR r.toNat 1), cI E x2 32 (uZ dn r.toNat d), cI E x3 32 inf, cZ E x4 8 isS, cI E x5 8 sR, cI E x6 8 cap, cI E x7 8 hol, cJ E x8 256 rls, cZ E x9 40 isG, cI E x10 40 plc, cI E x11 40 pri, cI E x12 40 rte, cI E x13 40 shr, cI E x14 40 bck, cI E x15 40 sto, cI E x16 40 wnt, cJ E x18 300 bks, cI E x19 40 amt, cI E x20 40 fst, cI E x21 40 ord]) C 2 rfl (by decide) (by omega) (by omega) dX6_reach_154 rfl ?_
    refine rg_aload_n C 0 dX6_reach_155 rfl rfl ?_
    refine rg_get C fX6_17 0 rfl rfl dX6_reach_156 ?_
    refine rg_iload_n C 1 dX6_reach_159 rfl rfl ?_
    refine rg_iconst C dX6_reach_160 ?_
    refine rg_iast (ws' := [cO x0 6 [.int (iI z), .ref x1, .ref x2, .ref x3, .ref x4, .ref x5, .ref x6, .ref x7, .ref x8, .ref x9, .ref x10, .ref x11, .ref x12, .ref x13, .ref x14, .ref x15, .ref x16, .int (iI dy), .ref x18, .ref x19, .ref x20, .ref x21, .int (iI rgs)], cZ E x1 32 (uZ isR r.toNat 1), cI E x2 32 (uZ dn r.toNat d), cI E x3 32 (uZ inf r.toNat 0), cZ E x4 8 isS, cI E x5 8 sR, cI E x6 8 cap, cI E x7 8 hol, cJ E x8 256 rls, cZ E x9 40 isG, cI E x10 40 plc, cI E x11 40 pri, cI E x12 40 rte, cI E x13 40 shr, cI E x14 40 bck, cI E x15 40 sto, cI E x16 40 wnt, cJ E x18 300 bks, cI E x19 40 amt, cI E x20 40 fst, cI E x21 40 ord]) C 3 rfl (by decide) (by omega) (by omega) dX6_reach_161 rfl ?_
    exact rg_vret C hA hQ hr hlk () (by rw [show z = 0 by omega]) rfl dX6_reach_162
  have L59 : ∀ (n : Nat) (z : Int) (k : Int) (o : Int), (z = if ¬ (0 ≤ r ∧ r < 32) ∨ d < -1 ∨ 31 < d then 1 else if 0 ≤ d ∧ isR d.toNat = 0 then 2 else 0) → (0 ≤ z ∧ z ≤ 4) → (0 ≤ k ∧ k ≤ 32) → (o = bZ (outM isR dn k.toNat)) → ((32 - k).toNat < n) → rG p l e rX6_reach s m args below meth c E A 5 0 0 Q [cO x0 6 [.int (iI z), .ref x1, .ref x2, .ref x3, .ref x4, .ref x5, .ref x6, .ref x7, .ref x8, .ref x9, .ref x10, .ref x11, .ref x12, .ref x13, .ref x14, .ref x15, .ref x16, .int (iI dy), .ref x18, .ref x19, .ref x20, .ref x21, .int (iI rgs)], cZ E x1 32 isR, cI E x2 32 dn, cI E x3 32 inf, cZ E x4 8 isS, cI E x5 8 sR, cI E x6 8 cap, cI E x7 8 hol, cJ E x8 256 rls, cZ E x9 40 isG, cI E x10 40 plc, cI E x11 40 pri, cI E x12 40 rte, cI E x13 40 shr, cI E x14 40 bck, cI E x15 40 sto, cI E x16 40 wnt, cJ E x18 300 bks, cI E x19 40 amt, cI E x20 40 fst, cI E x21 40 ord] 59 [(0, .ref x0), (1, .int (iI r)), (2, .int (iI d)), (3, .int (iI o)), (4, .int (iI k))] [] := by
    intro n
    induction n with
    | zero => intro z k o hz hzr h1 h3 hm; exact absurd hm (Nat.not_lt_zero _)
    | succ n ih =>
      intro z k o hz hzr h1 h3 hm
      refine rg_iload C 4 dX6_reach_59 rfl ?_
      refine rg_bipush (z := 32) C dX6_reach_61 (by decide) ?_
      refine rg_icmp_ge (tgt := 103) C ⟨by omega, by omega⟩ ⟨by decide, by decide⟩ dX6_reach_63 (by decide) (fun h_63 => ?_) (fun h_63 => ?_)
      · have ho9 : o = bZ (outM isR dn 32) := by rw [h3, show k.toNat = 32 by omega]
        have ho8 := bZ_01 (outM isR dn 32)
        refine rg_aload_n C 0 dX6_reach_103 rfl rfl ?_
        refine rg_get C fX6_72 0 rfl rfl dX6_reach_104 ?_
        refine rg_if_ne (tgt := 133) C ⟨by omega, by omega⟩ dX6_reach_107 (by decide) (fun h_107 => ?_) (fun h_107 => ?_)
        · refine rG.plv [0, 1, 2] rfl ?_
          exact L133 z (by omega) (by omega)
        · have hr9 := hir r.toNat (by omega)
          refine rg_aload_n C 0 dX6_reach_110 rfl rfl ?_
          refine rg_get C fX6_7 0 rfl rfl dX6_reach_111 ?_
          refine rg_iload_n C 1 dX6_reach_114 rfl rfl ?_
          refine rg_zald C 1 rfl (by decide) (by omega) (by omega) dX6_reach_115 ?_
          refine rg_if_ne (tgt := 128) C ⟨by omega, by omega⟩ dX6_reach_116 (by decide) (fun h_116 => ?_) (fun h_116 => ?_)
          · refine rg_aload_n C 0 dX6_reach_128 rfl rfl ?_
            refine rg_iconst C dX6_reach_129 ?_
            refine rg_put (ws' := [cO x0 6 [.int (iI 3), .ref x1, .ref x2, .ref x3, .ref x4, .ref x5, .ref x6, .ref x7, .ref x8, .ref x9, .ref x10, .ref x11, .ref x12, .ref x13, .ref x14, .ref x15, .ref x16, .int (iI dy), .ref x18, .ref x19, .ref x20, .ref x21, .int (iI rgs)], cZ E x1 32 isR, cI E x2 32 dn, cI E x3 32 inf, cZ E x4 8 isS, cI E x5 8 sR, cI E x6 8 cap, cI E x7 8 hol, cJ E x8 256 rls, cZ E x9 40 isG, cI E x10 40 plc, cI E x11 40 pri, cI E x12 40 rte, cI E x13 40 shr, cI E x14 40 bck, cI E x15 40 sto, cI E x16 40 wnt, cJ E x18 300 bks, cI E x19 40 amt, cI E x20 40 fst, cI E x21 40 ord]) C fX6_72 layX6 rfl 0 rfl rfl rfl (Nat.le_of_ble_eq_true rfl) dX6_reach_130 rfl ?_
            refine rG.plv [0, 1, 2] rfl ?_
            exact L133 3 (by omega) (by omega)
          · refine rg_iload_n C 2 dX6_reach_119 rfl rfl ?_
            refine rg_iconst C dX6_reach_120 ?_
            refine rg_icmp_ne (tgt := 133) C hId ⟨by decide, by decide⟩ dX6_reach_121 (by decide) (fun h_121 => ?_) (fun h_121 => ?_)
            · refine rG.plv [0, 1, 2] rfl ?_
              exact L133 z (by omega) (by omega)
            · refine rg_iload_n C 3 dX6_reach_124 rfl rfl ?_
              refine rg_if_eq (tgt := 133) C ⟨by omega, by omega⟩ dX6_reach_125 (by decide) (fun h_125 => ?_) (fun h_125 => ?_)
              · refine rG.plv [0, 1, 2] rfl ?_
                exact L133 z (by omega) (by omega)
              · refine rg_aload_n C 0 dX6_reach_128 rfl rfl ?_
                refine rg_iconst C dX6_reach_129 ?_
                refine rg_put (ws' := [cO x0 6 [.int (iI 3), .ref x1, .ref x2, .ref x3, .ref x4, .ref x5, .ref x6, .ref x7, .ref x8, .ref x9, .ref x10, .ref x11, .ref x12, .ref x13, .ref x14, .ref x15, .ref x16, .int (iI dy), .ref x18, .ref x19, .ref x20, .ref x21, .int (iI rgs)], cZ E x1 32 isR, cI E x2 32 dn, cI E x3 32 inf, cZ E x4 8 isS, cI E x5 8 sR, cI E x6 8 cap, cI E x7 8 hol, cJ E x8 256 rls, cZ E x9 40 isG, cI E x10 40 plc, cI E x11 40 pri, cI E x12 40 rte, cI E x13 40 shr, cI E x14 40 bck, cI E x15 40 sto, cI E x16 40 wnt, cJ E x18 300 bks, cI E x19 40 amt, cI E x20 40 fst, cI E x21 40 ord]) C fX6_72 layX6 rfl 0 rfl rfl rfl (Nat.le_of_ble_eq_true rfl) dX6_reach_130 rfl ?_
                refine rG.plv [0, 1, 2] rfl ?_
                exact L133 3 (by omega) (by omega)
      · have ho9 : o = 0 ∨ o = 1 := by rw [h3]; exact bZ_01 _
        have hr9 := hir k.toNat (by omega)
        have hd9 := hdn k.toNat (by omega)
        refine rg_iload_n C 3 dX6_reach_66 rfl rfl ?_
        refine rg_if_ne (tgt := 91) C ⟨by omega, by omega⟩ dX6_reach_67 (by decide) (fun h_67 => ?_) (fun h_67 => ?_)
        · refine rg_iconst C dX6_reach_91 ?_
          refine rg_goto (tgt := 96) C dX6_reach_92 (by decide) ?_
          refine rg_istore_n (lv' := [(3, .int (iI 1)), (0, .ref x0), (1, .int (iI r)), (2, .int (iI d)), (4, .int (iI k))]) C dX6_reach_96 rfl (by decide) rfl ?_
          refine rg_iinc (k := 4) (lv' := [(4, .int (iI (k + 1))), (3, .int (iI 1)), (0, .ref x0), (1, .int (iI r)), (2, .int (iI d))]) C dX6_reach_97 rfl (by decide) rfl ?_
          refine rg_goto (tgt := 59) C dX6_reach_100 (by decide) ?_
          refine rG.plv [2, 3, 4, 1, 0] rfl ?_
          exact ih z (k + 1) 1 hz hzr (by omega) (by first | (rw [outM_s h1.1, bZ_T (show bZ (outM isR dn k.toNat) ≠ 0 by omega)]; rfl) | (rw [outM_s h1.1, bZ_F (show bZ (outM isR dn k.toNat) = 0 by omega), decide_eq_true (show isR k.toNat ≠ 0 by omega), decide_eq_true (show dn k.toNat = -1 by omega)]; rfl) | (rw [outM_s h1.1, bZ_F (show bZ (outM isR dn k.toNat) = 0 by omega), decide_eq_false (show ¬ isR k.toNat ≠ 0 by omega)]; rfl) | (rw [outM_s h1.1, bZ_F (show bZ (outM isR dn k.toNat) = 0 by omega), decide_eq_true (show isR k.toNat ≠ 0 by omega), decide_eq_false (show ¬ dn k.toNat = -1 by omega)]; rfl)) (by omega)
        · refine rg_aload_n C 0 dX6_reach_70 rfl rfl ?_
          refine rg_get C fX6_7 0 rfl rfl dX6_reach_71 ?_
          refine rg_iload C 4 dX6_reach_74 rfl ?_
          refine rg_zald C 1 rfl (by decide) (by omega) (by omega) dX6_reach_76 ?_
          refine rg_if_eq (tgt := 95) C ⟨by omega, by omega⟩ dX6_reach_77 (by decide) (fun h_77 => ?_) (fun h_77 => ?_)
          · refine rg_iconst C dX6_reach_95 ?_
            refine rg_istore_n (lv' := [(3, .int (iI 0)), (0, .ref x0), (1, .int (iI r)), (2, .int (iI d)), (4, .int (iI k))]) C dX6_reach_96 rfl (by decide) rfl ?_
            refine rg_iinc (k := 4) (lv' := [(4, .int (iI (k + 1))), (3, .int (iI 0)), (0, .ref x0), (1, .int (iI r)), (2, .int (iI d))]) C dX6_reach_97 rfl (by decide) rfl ?_
            refine rg_goto (tgt := 59) C dX6_reach_100 (by decide) ?_
            refine rG.plv [2, 3, 4, 1, 0] rfl ?_
            exact ih z (k + 1) 0 hz hzr (by omega) (by first | (rw [outM_s h1.1, bZ_T (show bZ (outM isR dn k.toNat) ≠ 0 by omega)]; rfl) | (rw [outM_s h1.1, bZ_F (show bZ (outM isR dn k.toNat) = 0 by omega), decide_eq_true (show isR k.toNat ≠ 0 by omega), decide_eq_true (show dn k.toNat = -1 by omega)]; rfl) | (rw [outM_s h1.1, bZ_F (show bZ (outM isR dn k.toNat) = 0 by omega), decide_eq_false (show ¬ isR k.toNat ≠ 0 by omega)]; rfl) | (rw [outM_s h1.1, bZ_F (show bZ (outM isR dn k.toNat) = 0 by omega), decide_eq_true (show isR k.toNat ≠ 0 by omega), decide_eq_false (show ¬ dn k.toNat = -1 by omega)]; rfl)) (by omega)
          · refine rg_aload_n C 0 dX6_reach_80 rfl rfl ?_
            refine rg_get C fX6_13 0 rfl rfl dX6_reach_81 ?_
            refine rg_iload C 4 dX6_reach_84 rfl ?_
            refine rg_iald C 2 rfl (by decide) (by omega) (by omega) dX6_reach_86 ?_
            refine rg_iconst C dX6_reach_87 ?_
            refine rg_icmp_ne (tgt := 95) C ⟨by omega, by omega⟩ ⟨by decide, by decide⟩ dX6_reach_88 (by decide) (fun h_88 => ?_) (fun h_88 => ?_)
            · refine rg_iconst C dX6_reach_95 ?_
              refine rg_istore_n (lv' := [(3, .int (iI 0)), (0, .ref x0), (1, .int (iI r)), (2, .int (iI d)), (4, .int (iI k))]) C dX6_reach_96 rfl (by decide) rfl ?_
              refine rg_iinc (k := 4) (lv' := [(4, .int (iI (k + 1))), (3, .int (iI 0)), (0, .ref x0), (1, .int (iI r)), (2, .int (iI d))]) C dX6_reach_97 rfl (by decide) rfl ?_
              refine rg_goto (tgt := 59) C dX6_reach_100 (by decide) ?_
              refine rG.plv [2, 3, 4, 1, 0] rfl ?_
              exact ih z (k + 1) 0 hz hzr (by omega) (by first | (rw [outM_s h1.1, bZ_T (show bZ (outM isR dn k.toNat) ≠ 0 by omega)]; rfl) | (rw [outM_s h1.1, bZ_F (show bZ (outM isR dn k.toNat) = 0 by omega), decide_eq_true (show isR k.toNat ≠ 0 by omega), decide_eq_true (show dn k.toNat = -1 by omega)]; rfl) | (rw [outM_s h1.1, bZ_F (show bZ (outM isR dn k.toNat) = 0 by omega), decide_eq_false (show ¬ isR k.toNat ≠ 0 by omega)]; rfl) | (rw [outM_s h1.1, bZ_F (show bZ (outM isR dn k.toNat) = 0 by omega), decide_eq_true (show isR k.toNat ≠ 0 by omega), decide_eq_false (show ¬ dn k.toNat = -1 by omega)]; rfl)) (by omega)
            · refine rg_iconst C dX6_reach_91 ?_
              refine rg_goto (tgt := 96) C dX6_reach_92 (by decide) ?_
              refine rg_istore_n (lv' := [(3, .int (iI 1)), (0, .ref x0), (1, .int (iI r)), (2, .int (iI d)), (4, .int (iI k))]) C dX6_reach_96 rfl (by decide) rfl ?_
              refine rg_iinc (k := 4) (lv' := [(4, .int (iI (k + 1))), (3, .int (iI 1)), (0, .ref x0), (1, .int (iI r)), (2, .int (iI d))]) C dX6_reach_97 rfl (by decide) rfl ?_
              refine rg_goto (tgt := 59) C dX6_reach_100 (by decide) ?_
              refine rG.plv [2, 3, 4, 1, 0] rfl ?_
              exact ih z (k + 1) 1 hz hzr (by omega) (by first | (rw [outM_s h1.1, bZ_T (show bZ (outM isR dn k.toNat) ≠ 0 by omega)]; rfl) | (rw [outM_s h1.1, bZ_F (show bZ (outM isR dn k.toNat) = 0 by omega), decide_eq_true (show isR k.toNat ≠ 0 by omega), decide_eq_true (show dn k.toNat = -1 by omega)]; rfl) | (rw [outM_s h1.1, bZ_F (show bZ (outM isR dn k.toNat) = 0 by omega), decide_eq_false (show ¬ isR k.toNat ≠ 0 by omega)]; rfl) | (rw [outM_s h1.1, bZ_F (show bZ (outM isR dn k.toNat) = 0 by omega), decide_eq_true (show isR k.toNat ≠ 0 by omega), decide_eq_false (show ¬ dn k.toNat = -1 by omega)]; rfl)) (by omega)
  have L54 : ∀ (z : Int), (z = if ¬ (0 ≤ r ∧ r < 32) ∨ d < -1 ∨ 31 < d then 1 else if 0 ≤ d ∧ isR d.toNat = 0 then 2 else 0) → (0 ≤ z ∧ z ≤ 4) → rG p l e rX6_reach s m args below meth c E A 5 0 0 Q [cO x0 6 [.int (iI z), .ref x1, .ref x2, .ref x3, .ref x4, .ref x5, .ref x6, .ref x7, .ref x8, .ref x9, .ref x10, .ref x11, .ref x12, .ref x13, .ref x14, .ref x15, .ref x16, .int (iI dy), .ref x18, .ref x19, .ref x20, .ref x21, .int (iI rgs)], cZ E x1 32 isR, cI E x2 32 dn, cI E x3 32 inf, cZ E x4 8 isS, cI E x5 8 sR, cI E x6 8 cap, cI E x7 8 hol, cJ E x8 256 rls, cZ E x9 40 isG, cI E x10 40 plc, cI E x11 40 pri, cI E x12 40 rte, cI E x13 40 shr, cI E x14 40 bck, cI E x15 40 sto, cI E x16 40 wnt, cJ E x18 300 bks, cI E x19 40 amt, cI E x20 40 fst, cI E x21 40 ord] 54 [(0, .ref x0), (1, .int (iI r)), (2, .int (iI d))] [] := by
    intro z hz hzr
    refine rg_iconst C dX6_reach_54 ?_
    refine rg_istore_n (lv' := [(3, .int (iI 0)), (0, .ref x0), (1, .int (iI r)), (2, .int (iI d))]) C dX6_reach_55 rfl (by decide) rfl ?_
    refine rg_iconst C dX6_reach_56 ?_
    refine rg_istore (lv' := [(4, .int (iI 0)), (3, .int (iI 0)), (0, .ref x0), (1, .int (iI r)), (2, .int (iI d))]) C dX6_reach_57 (by decide) rfl ?_
    refine rG.plv [2, 3, 4, 1, 0] rfl ?_
    exact L59 _ z 0 0 hz hzr (by omega) rfl (Nat.lt_succ_self _)
  show rG p l e rX6_reach s m args below meth c E A 5 0 0 Q [cO x0 6 [.int (iI thr), .ref x1, .ref x2, .ref x3, .ref x4, .ref x5, .ref x6, .ref x7, .ref x8, .ref x9, .ref x10, .ref x11, .ref x12, .ref x13, .ref x14, .ref x15, .ref x16, .int (iI dy), .ref x18, .ref x19, .ref x20, .ref x21, .int (iI rgs)], cZ E x1 32 isR, cI E x2 32 dn, cI E x3 32 inf, cZ E x4 8 isS, cI E x5 8 sR, cI E x6 8 cap, cI E x7 8 hol, cJ E x8 256 rls, cZ E x9 40 isG, cI E x10 40 plc, cI E x11 40 pri, cI E x12 40 rte, cI E x13 40 shr, cI E x14 40 bck, cI E x15 40 sto, cI E x16 40 wnt, cJ E x18 300 bks, cI E x19 40 amt, cI E x20 40 fst, cI E x21 40 ord] 0 [(0, .ref x0), (1, .int (iI r)), (2, .int (iI d))] []
  refine rg_aload_n C 0 dX6_reach_0 rfl rfl ?_
  refine rg_iload_n C 1 dX6_reach_1 rfl rfl ?_
  refine rg_bipush (z := 32) C dX6_reach_2 (by decide) ?_
  refine rg_callS (As := [.int (iI r), .int (iI 32)]) (rest := [.ref x0]) (wr := [cO x0 6 [.int (iI thr), .ref x1, .ref x2, .ref x3, .ref x4, .ref x5, .ref x6, .ref x7, .ref x8, .ref x9, .ref x10, .ref x11, .ref x12, .ref x13, .ref x14, .ref x15, .ref x16, .int (iI dy), .ref x18, .ref x19, .ref x20, .ref x21, .int (iI rgs)], cZ E x1 32 isR, cI E x2 32 dn, cI E x3 32 inf, cZ E x4 8 isS, cI E x5 8 sR, cI E x6 8 cap, cI E x7 8 hol, cJ E x8 256 rls, cZ E x9 40 isG, cI E x10 40 plc, cI E x11 40 pri, cI E x12 40 rte, cI E x13 40 shr, cI E x14 40 bck, cI E x15 40 sto, cI E x16 40 wnt, cJ E x18 300 bks, cI E x19 40 amt, cI E x20 40 fst, cI E x21 40 ord]) (w' := fun _ => [cO x0 6 [.int (iI thr), .ref x1, .ref x2, .ref x3, .ref x4, .ref x5, .ref x6, .ref x7, .ref x8, .ref x9, .ref x10, .ref x11, .ref x12, .ref x13, .ref x14, .ref x15, .ref x16, .int (iI dy), .ref x18, .ref x19, .ref x20, .ref x21, .int (iI rgs)], cZ E x1 32 isR, cI E x2 32 dn, cI E x3 32 inf, cZ E x4 8 isS, cI E x5 8 sR, cI E x6 8 cap, cI E x7 8 hol, cJ E x8 256 rls, cZ E x9 40 isG, cI E x10 40 plc, cI E x11 40 pri, cI E x12 40 rte, cI E x13 40 shr, cI E x14 40 bck, cI E x15 40 sto, cI E x16 40 wnt, cJ E x18 300 bks, cI E x19 40 amt, cI E x20 40 fst, cI E x21 40 ord]) C (kX6_isNumber l E r 32 hIr (⟨by decide, by decide⟩)) (rcwS C mX6_isNumber w_701 ⟨Nat.le_of_ble_eq_true rfl, Nat.le_of_ble_eq_true rfl⟩) [] [0, 1, 2, 3, 4, 5, 6, 7, 8, 9, 10, 11, 12, 13, 14, 15, 16, 17, 18, 19, 20] [0, 1, 2, 3, 4, 5, 6, 7, 8, 9, 10, 11, 12, 13, 14, 15, 16, 17, 18, 19, 20] rfl rfl (by decide) (by decide) (by decide) (fun _ => rfl) (by decide) rfl rfl (Nat.le_of_ble_eq_true rfl) dX6_reach_4 ⟨Nat.le_of_ble_eq_true rfl, Nat.le_of_ble_eq_true rfl⟩ (fun _ => ?_)
  show rG p l e rX6_reach s m args below meth c E A 5 0 0 Q [cO x0 6 [.int (iI thr), .ref x1, .ref x2, .ref x3, .ref x4, .ref x5, .ref x6, .ref x7, .ref x8, .ref x9, .ref x10, .ref x11, .ref x12, .ref x13, .ref x14, .ref x15, .ref x16, .int (iI dy), .ref x18, .ref x19, .ref x20, .ref x21, .int (iI rgs)], cZ E x1 32 isR, cI E x2 32 dn, cI E x3 32 inf, cZ E x4 8 isS, cI E x5 8 sR, cI E x6 8 cap, cI E x7 8 hol, cJ E x8 256 rls, cZ E x9 40 isG, cI E x10 40 plc, cI E x11 40 pri, cI E x12 40 rte, cI E x13 40 shr, cI E x14 40 bck, cI E x15 40 sto, cI E x16 40 wnt, cJ E x18 300 bks, cI E x19 40 amt, cI E x20 40 fst, cI E x21 40 ord] 7 [(0, .ref x0), (1, .int (iI r)), (2, .int (iI d))] [.int (iI (bZ (decide (0 ≤ r ∧ r < 32)))), .ref x0]
  refine rg_if_eq (tgt := 21) C (bZ_in _) dX6_reach_7 (by decide) (fun h_7 => ?_) (fun h_7 => ?_)
  · replace h_7 := dec0.mp h_7
    refine rg_iconst C dX6_reach_21 ?_
    refine rg_goto (tgt := 26) C dX6_reach_22 (by decide) ?_
    refine rg_put (ws' := [cO x0 6 [.int (iI 1), .ref x1, .ref x2, .ref x3, .ref x4, .ref x5, .ref x6, .ref x7, .ref x8, .ref x9, .ref x10, .ref x11, .ref x12, .ref x13, .ref x14, .ref x15, .ref x16, .int (iI dy), .ref x18, .ref x19, .ref x20, .ref x21, .int (iI rgs)], cZ E x1 32 isR, cI E x2 32 dn, cI E x3 32 inf, cZ E x4 8 isS, cI E x5 8 sR, cI E x6 8 cap, cI E x7 8 hol, cJ E x8 256 rls, cZ E x9 40 isG, cI E x10 40 plc, cI E x11 40 pri, cI E x12 40 rte, cI E x13 40 shr, cI E x14 40 bck, cI E x15 40 sto, cI E x16 40 wnt, cJ E x18 300 bks, cI E x19 40 amt, cI E x20 40 fst, cI E x21 40 ord]) C fX6_72 layX6 rfl 0 rfl rfl rfl (Nat.le_of_ble_eq_true rfl) dX6_reach_26 rfl ?_
    refine rg_aload_n C 0 dX6_reach_29 rfl rfl ?_
    refine rg_get C fX6_72 0 rfl rfl dX6_reach_30 ?_
    refine rg_if_ne (tgt := 54) C ⟨by decide, by decide⟩ dX6_reach_33 (by decide) (fun h_33 => ?_) (fun h_33 => absurd h_33 (by first | omega | (rw [decide_eq_true (by omega)]; decide) | (rw [decide_eq_false (by omega)]; decide)))
    exact L54 1 (by omega) (by omega)
  · replace h_7 := of_decide_eq_true (bZ_T h_7)
    refine rg_iload_n C 2 dX6_reach_10 rfl rfl ?_
    refine rg_iconst C dX6_reach_11 ?_
    refine rg_icmp_lt (tgt := 21) C hId ⟨by decide, by decide⟩ dX6_reach_12 (by decide) (fun h_12 => ?_) (fun h_12 => ?_)
    · refine rg_iconst C dX6_reach_21 ?_
      refine rg_goto (tgt := 26) C dX6_reach_22 (by decide) ?_
      refine rg_put (ws' := [cO x0 6 [.int (iI 1), .ref x1, .ref x2, .ref x3, .ref x4, .ref x5, .ref x6, .ref x7, .ref x8, .ref x9, .ref x10, .ref x11, .ref x12, .ref x13, .ref x14, .ref x15, .ref x16, .int (iI dy), .ref x18, .ref x19, .ref x20, .ref x21, .int (iI rgs)], cZ E x1 32 isR, cI E x2 32 dn, cI E x3 32 inf, cZ E x4 8 isS, cI E x5 8 sR, cI E x6 8 cap, cI E x7 8 hol, cJ E x8 256 rls, cZ E x9 40 isG, cI E x10 40 plc, cI E x11 40 pri, cI E x12 40 rte, cI E x13 40 shr, cI E x14 40 bck, cI E x15 40 sto, cI E x16 40 wnt, cJ E x18 300 bks, cI E x19 40 amt, cI E x20 40 fst, cI E x21 40 ord]) C fX6_72 layX6 rfl 0 rfl rfl rfl (Nat.le_of_ble_eq_true rfl) dX6_reach_26 rfl ?_
      refine rg_aload_n C 0 dX6_reach_29 rfl rfl ?_
      refine rg_get C fX6_72 0 rfl rfl dX6_reach_30 ?_
      refine rg_if_ne (tgt := 54) C ⟨by decide, by decide⟩ dX6_reach_33 (by decide) (fun h_33 => ?_) (fun h_33 => absurd h_33 (by first | omega | (rw [decide_eq_true (by omega)]; decide) | (rw [decide_eq_false (by omega)]; decide)))
      exact L54 1 (by omega) (by omega)
    · refine rg_iload_n C 2 dX6_reach_15 rfl rfl ?_
      refine rg_bipush (z := 31) C dX6_reach_16 (by decide) ?_
      refine rg_icmp_le (tgt := 25) C hId ⟨by decide, by decide⟩ dX6_reach_18 (by decide) (fun h_18 => ?_) (fun h_18 => ?_)
      · refine rg_iconst C dX6_reach_25 ?_
        refine rg_put (ws' := [cO x0 6 [.int (iI 0), .ref x1, .ref x2, .ref x3, .ref x4, .ref x5, .ref x6, .ref x7, .ref x8, .ref x9, .ref x10, .ref x11, .ref x12, .ref x13, .ref x14, .ref x15, .ref x16, .int (iI dy), .ref x18, .ref x19, .ref x20, .ref x21, .int (iI rgs)], cZ E x1 32 isR, cI E x2 32 dn, cI E x3 32 inf, cZ E x4 8 isS, cI E x5 8 sR, cI E x6 8 cap, cI E x7 8 hol, cJ E x8 256 rls, cZ E x9 40 isG, cI E x10 40 plc, cI E x11 40 pri, cI E x12 40 rte, cI E x13 40 shr, cI E x14 40 bck, cI E x15 40 sto, cI E x16 40 wnt, cJ E x18 300 bks, cI E x19 40 amt, cI E x20 40 fst, cI E x21 40 ord]) C fX6_72 layX6 rfl 0 rfl rfl rfl (Nat.le_of_ble_eq_true rfl) dX6_reach_26 rfl ?_
        refine rg_aload_n C 0 dX6_reach_29 rfl rfl ?_
        refine rg_get C fX6_72 0 rfl rfl dX6_reach_30 ?_
        refine rg_if_ne (tgt := 54) C ⟨by decide, by decide⟩ dX6_reach_33 (by decide) (fun h_33 => absurd h_33 (by first | omega | (rw [decide_eq_true (by omega)]; decide) | (rw [decide_eq_false (by omega)]; decide))) (fun h_33 => ?_)
        refine rg_iload_n C 2 dX6_reach_36 rfl rfl ?_
        refine rg_if_lt (tgt := 54) C hId dX6_reach_37 (by decide) (fun h_37 => ?_) (fun h_37 => ?_)
        · exact L54 0 (by omega) (by omega)
        · have hs9 := hir d.toNat (by omega)
          refine rg_aload_n C 0 dX6_reach_40 rfl rfl ?_
          refine rg_get C fX6_7 0 rfl rfl dX6_reach_41 ?_
          refine rg_iload_n C 2 dX6_reach_44 rfl rfl ?_
          refine rg_zald C 1 rfl (by decide) (by omega) (by omega) dX6_reach_45 ?_
          refine rg_if_ne (tgt := 54) C ⟨by omega, by omega⟩ dX6_reach_46 (by decide) (fun h_46 => ?_) (fun h_46 => ?_)
          · exact L54 0 (by omega) (by omega)
          · refine rg_aload_n C 0 dX6_reach_49 rfl rfl ?_
            refine rg_iconst C dX6_reach_50 ?_
            refine rg_put (ws' := [cO x0 6 [.int (iI 2), .ref x1, .ref x2, .ref x3, .ref x4, .ref x5, .ref x6, .ref x7, .ref x8, .ref x9, .ref x10, .ref x11, .ref x12, .ref x13, .ref x14, .ref x15, .ref x16, .int (iI dy), .ref x18, .ref x19, .ref x20, .ref x21, .int (iI rgs)], cZ E x1 32 isR, cI E x2 32 dn, cI E x3 32 inf, cZ E x4 8 isS, cI E x5 8 sR, cI E x6 8 cap, cI E x7 8 hol, cJ E x8 256 rls, cZ E x9 40 isG, cI E x10 40 plc, cI E x11 40 pri, cI E x12 40 rte, cI E x13 40 shr, cI E x14 40 bck, cI E x15 40 sto, cI E x16 40 wnt, cJ E x18 300 bks, cI E x19 40 amt, cI E x20 40 fst, cI E x21 40 ord]) C fX6_72 layX6 rfl 0 rfl rfl rfl (Nat.le_of_ble_eq_true rfl) dX6_reach_51 rfl ?_
            exact L54 2 (by omega) (by omega)
      · refine rg_iconst C dX6_reach_21 ?_
        refine rg_goto (tgt := 26) C dX6_reach_22 (by decide) ?_
        refine rg_put (ws' := [cO x0 6 [.int (iI 1), .ref x1, .ref x2, .ref x3, .ref x4, .ref x5, .ref x6, .ref x7, .ref x8, .ref x9, .ref x10, .ref x11, .ref x12, .ref x13, .ref x14, .ref x15, .ref x16, .int (iI dy), .ref x18, .ref x19, .ref x20, .ref x21, .int (iI rgs)], cZ E x1 32 isR, cI E x2 32 dn, cI E x3 32 inf, cZ E x4 8 isS, cI E x5 8 sR, cI E x6 8 cap, cI E x7 8 hol, cJ E x8 256 rls, cZ E x9 40 isG, cI E x10 40 plc, cI E x11 40 pri, cI E x12 40 rte, cI E x13 40 shr, cI E x14 40 bck, cI E x15 40 sto, cI E x16 40 wnt, cJ E x18 300 bks, cI E x19 40 amt, cI E x20 40 fst, cI E x21 40 ord]) C fX6_72 layX6 rfl 0 rfl rfl rfl (Nat.le_of_ble_eq_true rfl) dX6_reach_26 rfl ?_
        refine rg_aload_n C 0 dX6_reach_29 rfl rfl ?_
        refine rg_get C fX6_72 0 rfl rfl dX6_reach_30 ?_
        refine rg_if_ne (tgt := 54) C ⟨by decide, by decide⟩ dX6_reach_33 (by decide) (fun h_33 => ?_) (fun h_33 => absurd h_33 (by first | omega | (rw [decide_eq_true (by omega)]; decide) | (rw [decide_eq_false (by omega)]; decide)))
        exact L54 1 (by omega) (by omega)
abbrev rX6_reservoir : Room := { frames := 1, cells := 0, slots := 0, locals := 21 }
set_option maxHeartbeats 4000000 in
set_option maxRecDepth 100000 in
/-- kX6_reservoirF -/
theorem kX6_reservoirF (l : Launch) (E : rE) (x0 : Nat) (x1 : Nat) (x2 : Nat) (x3 : Nat) (x4 : Nat) (x5 : Nat) (x6 : Nat) (x7 : Nat) (x8 : Nat) (x9 : Nat) (x10 : Nat) (x11 : Nat) (x12 : Nat) (x13 : Nat) (x14 : Nat) (x15 : Nat) (x16 : Nat) (x18 : Nat) (x19 : Nat) (x20 : Nat) (x21 : Nat) (isR : Nat → Int) (dn : Nat → Int) (inf : Nat → Int) (isS : Nat → Int) (sR : Nat → Int) (cap : Nat → Int) (hol : Nat → Int) (rls : Nat → Int) (isG : Nat → Int) (plc : Nat → Int) (pri : Nat → Int) (rte : Nat → Int) (shr : Nat → Int) (bck : Nat → Int) (sto : Nat → Int) (wnt : Nat → Int) (bks : Nat → Int) (amt : Nat → Int) (fst : Nat → Int) (ord : Nat → Int) (thr : Int) (dy : Int) (rgs : Int) (sv : Int) (r : Int) (cp : Int) (tw : Int) (hIsv : inI sv) (hIr : inI r) (hIcp : inI cp) (hir : ∀ r : Nat, r < 32 → isR r = 0 ∨ isR r = 1) (his : ∀ r : Nat, r < 8 → isS r = 0 ∨ isS r = 1) (htw : tw = if ¬ (0 ≤ sv ∧ sv < 8) ∨ ¬ (0 ≤ r ∧ r < 32) then 1 else if isR r.toNat = 0 then 2 else if cp < 0 ∨ 1000000000 < cp then 3 else if isS sv.toNat ≠ 0 then 4 else 0) (ht1 : 1 ≤ tw) : rM l yX6_reservoir sX6_reservoir rX6_reservoir E [cO x0 6 [.int (iI thr), .ref x1, .ref x2, .ref x3, .ref x4, .ref x5, .ref x6, .ref x7, .ref x8, .ref x9, .ref x10, .ref x11, .ref x12, .ref x13, .ref x14, .ref x15, .ref x16, .int (iI dy), .ref x18, .ref x19, .ref x20, .ref x21, .int (iI rgs)], cZ E x1 32 isR, cI E x2 32 dn, cI E x3 32 inf, cZ E x4 8 isS, cI E x5 8 sR, cI E x6 8 cap, cI E x7 8 hol, cJ E x8 256 rls, cZ E x9 40 isG, cI E x10 40 plc, cI E x11 40 pri, cI E x12 40 rte, cI E x13 40 shr, cI E x14 40 bck, cI E x15 40 sto, cI E x16 40 wnt, cJ E x18 300 bks, cI E x19 40 amt, cI E x20 40 fst, cI E x21 40 ord] [.ref x0, .int (iI sv), .int (iI r), .int (iI cp)] none (fun _ : Unit => [cO x0 6 [.int (iI tw), .ref x1, .ref x2, .ref x3, .ref x4, .ref x5, .ref x6, .ref x7, .ref x8, .ref x9, .ref x10, .ref x11, .ref x12, .ref x13, .ref x14, .ref x15, .ref x16, .int (iI dy), .ref x18, .ref x19, .ref x20, .ref x21, .int (iI rgs)], cZ E x1 32 isR, cI E x2 32 dn, cI E x3 32 inf, cZ E x4 8 isS, cI E x5 8 sR, cI E x6 8 cap, cI E x7 8 hol, cJ E x8 256 rls, cZ E x9 40 isG, cI E x10 40 plc, cI E x11 40 pri, cI E x12 40 rte, cI E x13 40 shr, cI E x14 40 bck, cI E x15 40 sto, cI E x16 40 wnt, cJ E x18 300 bks, cI E x19 40 amt, cI E x20 40 fst, cI E x21 40 ord]) := by
  refine rM.of (cc := cX6_reservoir) (maxL := 4) (ret := none) (by decide) rfl (Nat.le_of_ble_eq_true rfl) (fun w h => List.mem_cons_of_mem _ h) ?_
  intro p e s m args below meth c A Q hA hQ C hr hlk hnm
  have C : rC p s m args c E A 4 cX6_reservoir sX6_reservoir RX6 := C
  have L64 : ∀ (z : Int), (z = tw) → (0 ≤ z ∧ z ≤ 4) → rG p l e rX6_reservoir s m args below meth c E A 4 0 0 Q [cO x0 6 [.int (iI thr), .ref x1, .ref x2, .ref x3, .ref x4, .ref x5, .ref x6, .ref x7, .ref x8, .ref x9, .ref x10, .ref x11, .ref x12, .ref x13, .ref x14, .ref x15, .ref x16, .int (iI dy), .ref x18, .ref x19, .ref x20, .ref x21, .int (iI rgs)], cZ E x1 32 isR, cI E x2 32 dn, cI E x3 32 inf, cZ E x4 8 isS, cI E x5 8 sR, cI E x6 8 cap, cI E x7 8 hol, cJ E x8 256 rls, cZ E x9 40 isG, cI E x10 40 plc, cI E x11 40 pri, cI E x12 40 rte, cI E x13 40 shr, cI E x14 40 bck, cI E x15 40 sto, cI E x16 40 wnt, cJ E x18 300 bks, cI E x19 40 amt, cI E x20 40 fst, cI E x21 40 ord] 64 [(0, .ref x0), (1, .int (iI sv)), (2, .int (iI r)), (3, .int (iI cp))] [.int (iI z), .ref x0] := by
    intro z hz hzr
    refine rg_put (ws' := [cO x0 6 [.int (iI z), .ref x1, .ref x2, .ref x3, .ref x4, .ref x5, .ref x6, .ref x7, .ref x8, .ref x9, .ref x10, .ref x11, .ref x12, .ref x13, .ref x14, .ref x15, .ref x16, .int (iI dy), .ref x18, .ref x19, .ref x20, .ref x21, .int (iI rgs)], cZ E x1 32 isR, cI E x2 32 dn, cI E x3 32 inf, cZ E x4 8 isS, cI E x5 8 sR, cI E x6 8 cap, cI E x7 8 hol, cJ E x8 256 rls, cZ E x9 40 isG, cI E x10 40 plc, cI E x11 40 pri, cI E x12 40 rte, cI E x13 40 shr, cI E x14 40 bck, cI E x15 40 sto, cI E x16 40 wnt, cJ E x18 300 bks, cI E x19 40 amt, cI E x20 40 fst, cI E x21 40 ord]) C fX6_72 layX6 rfl 0 rfl rfl rfl (Nat.le_of_ble_eq_true rfl) dX6_reservoir_64 rfl ?_
    refine rg_aload_n C 0 dX6_reservoir_67 rfl rfl ?_
    refine rg_get C fX6_72 0 rfl rfl dX6_reservoir_68 ?_
    refine rg_if_le (tgt := 75) C ⟨by omega, by omega⟩ dX6_reservoir_71 (by decide) (fun h_71 => absurd h_71 (by first | omega | (rw [decide_eq_true (by omega)]; decide) | (rw [decide_eq_false (by omega)]; decide))) (fun h_71 => ?_)
    exact rg_vret C hA hQ hr hlk () (by rw [hz]) rfl dX6_reservoir_74
  show rG p l e rX6_reservoir s m args below meth c E A 4 0 0 Q [cO x0 6 [.int (iI thr), .ref x1, .ref x2, .ref x3, .ref x4, .ref x5, .ref x6, .ref x7, .ref x8, .ref x9, .ref x10, .ref x11, .ref x12, .ref x13, .ref x14, .ref x15, .ref x16, .int (iI dy), .ref x18, .ref x19, .ref x20, .ref x21, .int (iI rgs)], cZ E x1 32 isR, cI E x2 32 dn, cI E x3 32 inf, cZ E x4 8 isS, cI E x5 8 sR, cI E x6 8 cap, cI E x7 8 hol, cJ E x8 256 rls, cZ E x9 40 isG, cI E x10 40 plc, cI E x11 40 pri, cI E x12 40 rte, cI E x13 40 shr, cI E x14 40 bck, cI E x15 40 sto, cI E x16 40 wnt, cJ E x18 300 bks, cI E x19 40 amt, cI E x20 40 fst, cI E x21 40 ord] 0 [(0, .ref x0), (1, .int (iI sv)), (2, .int (iI r)), (3, .int (iI cp))] []
  refine rg_aload_n C 0 dX6_reservoir_0 rfl rfl ?_
  refine rg_iload_n C 1 dX6_reservoir_1 rfl rfl ?_
  refine rg_bipush (z := 8) C dX6_reservoir_2 (by decide) ?_
  refine rg_callS (As := [.int (iI sv), .int (iI 8)]) (rest := [.ref x0]) (wr := [cO x0 6 [.int (iI thr), .ref x1, .ref x2, .ref x3, .ref x4, .ref x5, .ref x6, .ref x7, .ref x8, .ref x9, .ref x10, .ref x11, .ref x12, .ref x13, .ref x14, .ref x15, .ref x16, .int (iI dy), .ref x18, .ref x19, .ref x20, .ref x21, .int (iI rgs)], cZ E x1 32 isR, cI E x2 32 dn, cI E x3 32 inf, cZ E x4 8 isS, cI E x5 8 sR, cI E x6 8 cap, cI E x7 8 hol, cJ E x8 256 rls, cZ E x9 40 isG, cI E x10 40 plc, cI E x11 40 pri, cI E x12 40 rte, cI E x13 40 shr, cI E x14 40 bck, cI E x15 40 sto, cI E x16 40 wnt, cJ E x18 300 bks, cI E x19 40 amt, cI E x20 40 fst, cI E x21 40 ord]) (w' := fun _ => [cO x0 6 [.int (iI thr), .ref x1, .ref x2, .ref x3, .ref x4, .ref x5, .ref x6, .ref x7, .ref x8, .ref x9, .ref x10, .ref x11, .ref x12, .ref x13, .ref x14, .ref x15, .ref x16, .int (iI dy), .ref x18, .ref x19, .ref x20, .ref x21, .int (iI rgs)], cZ E x1 32 isR, cI E x2 32 dn, cI E x3 32 inf, cZ E x4 8 isS, cI E x5 8 sR, cI E x6 8 cap, cI E x7 8 hol, cJ E x8 256 rls, cZ E x9 40 isG, cI E x10 40 plc, cI E x11 40 pri, cI E x12 40 rte, cI E x13 40 shr, cI E x14 40 bck, cI E x15 40 sto, cI E x16 40 wnt, cJ E x18 300 bks, cI E x19 40 amt, cI E x20 40 fst, cI E x21 40 ord]) C (kX6_isNumber l E sv 8 hIsv (⟨by decide, by decide⟩)) (rcwS C mX6_isNumber w_701 ⟨Nat.le_of_ble_eq_true rfl, Nat.le_of_ble_eq_true rfl⟩) [] [0, 1, 2, 3, 4, 5, 6, 7, 8, 9, 10, 11, 12, 13, 14, 15, 16, 17, 18, 19, 20] [0, 1, 2, 3, 4, 5, 6, 7, 8, 9, 10, 11, 12, 13, 14, 15, 16, 17, 18, 19, 20] rfl rfl (by decide) (by decide) (by decide) (fun _ => rfl) (by decide) rfl rfl (Nat.le_of_ble_eq_true rfl) dX6_reservoir_4 ⟨Nat.le_of_ble_eq_true rfl, Nat.le_of_ble_eq_true rfl⟩ (fun _ => ?_)
  show rG p l e rX6_reservoir s m args below meth c E A 4 0 0 Q [cO x0 6 [.int (iI thr), .ref x1, .ref x2, .ref x3, .ref x4, .ref x5, .ref x6, .ref x7, .ref x8, .ref x9, .ref x10, .ref x11, .ref x12, .ref x13, .ref x14, .ref x15, .ref x16, .int (iI dy), .ref x18, .ref x19, .ref x20, .ref x21, .int (iI rgs)], cZ E x1 32 isR, cI E x2 32 dn, cI E x3 32 inf, cZ E x4 8 isS, cI E x5 8 sR, cI E x6 8 cap, cI E x7 8 hol, cJ E x8 256 rls, cZ E x9 40 isG, cI E x10 40 plc, cI E x11 40 pri, cI E x12 40 rte, cI E x13 40 shr, cI E x14 40 bck, cI E x15 40 sto, cI E x16 40 wnt, cJ E x18 300 bks, cI E x19 40 amt, cI E x20 40 fst, cI E x21 40 ord] 7 [(0, .ref x0), (1, .int (iI sv)), (2, .int (iI r)), (3, .int (iI cp))] [.int (iI (bZ (decide (0 ≤ sv ∧ sv < 8)))), .ref x0]
  refine rg_if_eq (tgt := 19) C (bZ_in _) dX6_reservoir_7 (by decide) (fun h_7 => ?_) (fun h_7 => ?_)
  · replace h_7 := dec0.mp h_7
    refine rg_iconst C dX6_reservoir_19 ?_
    refine rg_goto (tgt := 64) C dX6_reservoir_20 (by decide) ?_
    exact L64 1 (by omega) (by omega)
  · replace h_7 := of_decide_eq_true (bZ_T h_7)
    refine rg_iload_n C 2 dX6_reservoir_10 rfl rfl ?_
    refine rg_bipush (z := 32) C dX6_reservoir_11 (by decide) ?_
    refine rg_callS (As := [.int (iI r), .int (iI 32)]) (rest := [.ref x0]) (wr := [cO x0 6 [.int (iI thr), .ref x1, .ref x2, .ref x3, .ref x4, .ref x5, .ref x6, .ref x7, .ref x8, .ref x9, .ref x10, .ref x11, .ref x12, .ref x13, .ref x14, .ref x15, .ref x16, .int (iI dy), .ref x18, .ref x19, .ref x20, .ref x21, .int (iI rgs)], cZ E x1 32 isR, cI E x2 32 dn, cI E x3 32 inf, cZ E x4 8 isS, cI E x5 8 sR, cI E x6 8 cap, cI E x7 8 hol, cJ E x8 256 rls, cZ E x9 40 isG, cI E x10 40 plc, cI E x11 40 pri, cI E x12 40 rte, cI E x13 40 shr, cI E x14 40 bck, cI E x15 40 sto, cI E x16 40 wnt, cJ E x18 300 bks, cI E x19 40 amt, cI E x20 40 fst, cI E x21 40 ord]) (w' := fun _ => [cO x0 6 [.int (iI thr), .ref x1, .ref x2, .ref x3, .ref x4, .ref x5, .ref x6, .ref x7, .ref x8, .ref x9, .ref x10, .ref x11, .ref x12, .ref x13, .ref x14, .ref x15, .ref x16, .int (iI dy), .ref x18, .ref x19, .ref x20, .ref x21, .int (iI rgs)], cZ E x1 32 isR, cI E x2 32 dn, cI E x3 32 inf, cZ E x4 8 isS, cI E x5 8 sR, cI E x6 8 cap, cI E x7 8 hol, cJ E x8 256 rls, cZ E x9 40 isG, cI E x10 40 plc, cI E x11 40 pri, cI E x12 40 rte, cI E x13 40 shr, cI E x14 40 bck, cI E x15 40 sto, cI E x16 40 wnt, cJ E x18 300 bks, cI E x19 40 amt, cI E x20 40 fst, cI E x21 40 ord]) C (kX6_isNumber l E r 32 hIr (⟨by decide, by decide⟩)) (rcwS C mX6_isNumber w_701 ⟨Nat.le_of_ble_eq_true rfl, Nat.le_of_ble_eq_true rfl⟩) [] [0, 1, 2, 3, 4, 5, 6, 7, 8, 9, 10, 11, 12, 13, 14, 15, 16, 17, 18, 19, 20] [0, 1, 2, 3, 4, 5, 6, 7, 8, 9, 10, 11, 12, 13, 14, 15, 16, 17, 18, 19, 20] rfl rfl (by decide) (by decide) (by decide) (fun _ => rfl) (by decide) rfl rfl (Nat.le_of_ble_eq_true rfl) dX6_reservoir_13 ⟨Nat.le_of_ble_eq_true rfl, Nat.le_of_ble_eq_true rfl⟩ (fun _ => ?_)
    show rG p l e rX6_reservoir s m args below meth c E A 4 0 0 Q [cO x0 6 [.int (iI thr), .ref x1, .ref x2, .ref x3, .ref x4, .ref x5, .ref x6, .ref x7, .ref x8, .ref x9, .ref x10, .ref x11, .ref x12, .ref x13, .ref x14, .ref x15, .ref x16, .int (iI dy), .ref x18, .ref x19, .ref x20, .ref x21, .int (iI rgs)], cZ E x1 32 isR, cI E x2 32 dn, cI E x3 32 inf, cZ E x4 8 isS, cI E x5 8 sR, cI E x6 8 cap, cI E x7 8 hol, cJ E x8 256 rls, cZ E x9 40 isG, cI E x10 40 plc, cI E x11 40 pri, cI E x12 40 rte, cI E x13 40 shr, cI E x14 40 bck, cI E x15 40 sto, cI E x16 40 wnt, cJ E x18 300 bks, cI E x19 40 amt, cI E x20 40 fst, cI E x21 40 ord] 16 [(0, .ref x0), (1, .int (iI sv)), (2, .int (iI r)), (3, .int (iI cp))] [.int (iI (bZ (decide (0 ≤ r ∧ r < 32)))), .ref x0]
    refine rg_if_ne (tgt := 23) C (bZ_in _) dX6_reservoir_16 (by decide) (fun h_16 => ?_) (fun h_16 => ?_)
    · replace h_16 := of_decide_eq_true (bZ_T h_16)
      have hr9 := hir r.toNat (by omega)
      have hs9 := his sv.toNat (by omega)
      refine rg_aload_n C 0 dX6_reservoir_23 rfl rfl ?_
      refine rg_get C fX6_7 0 rfl rfl dX6_reservoir_24 ?_
      refine rg_iload_n C 2 dX6_reservoir_27 rfl rfl ?_
      refine rg_zald C 1 rfl (by decide) (by omega) (by omega) dX6_reservoir_28 ?_
      refine rg_if_ne (tgt := 36) C ⟨by omega, by omega⟩ dX6_reservoir_29 (by decide) (fun h_29 => ?_) (fun h_29 => ?_)
      · refine rg_iload_n C 3 dX6_reservoir_36 rfl rfl ?_
        refine rg_if_lt (tgt := 46) C hIcp dX6_reservoir_37 (by decide) (fun h_37 => ?_) (fun h_37 => ?_)
        · refine rg_iconst C dX6_reservoir_46 ?_
          refine rg_goto (tgt := 64) C dX6_reservoir_47 (by decide) ?_
          exact L64 3 (by omega) (by omega)
        · refine rg_iload_n C 3 dX6_reservoir_40 rfl rfl ?_
          refine rg_ldc (v := 1000000000) (z := 1000000000) C (by decide +kernel) (by decide) dX6_reservoir_41 ?_
          refine rg_icmp_le (tgt := 50) C hIcp ⟨by decide, by decide⟩ dX6_reservoir_43 (by decide) (fun h_43 => ?_) (fun h_43 => ?_)
          · refine rg_aload_n C 0 dX6_reservoir_50 rfl rfl ?_
            refine rg_get C fX6_20 0 rfl rfl dX6_reservoir_51 ?_
            refine rg_iload_n C 1 dX6_reservoir_54 rfl rfl ?_
            refine rg_zald C 4 rfl (by decide) (by omega) (by omega) dX6_reservoir_55 ?_
            refine rg_if_eq (tgt := 63) C ⟨by omega, by omega⟩ dX6_reservoir_56 (by decide) (fun h_56 => ?_) (fun h_56 => ?_)
            · refine rg_iconst C dX6_reservoir_63 ?_
              exact L64 0 (by omega) (by omega)
            · refine rg_iconst C dX6_reservoir_59 ?_
              refine rg_goto (tgt := 64) C dX6_reservoir_60 (by decide) ?_
              exact L64 4 (by omega) (by omega)
          · refine rg_iconst C dX6_reservoir_46 ?_
            refine rg_goto (tgt := 64) C dX6_reservoir_47 (by decide) ?_
            exact L64 3 (by omega) (by omega)
      · refine rg_iconst C dX6_reservoir_32 ?_
        refine rg_goto (tgt := 64) C dX6_reservoir_33 (by decide) ?_
        exact L64 2 (by omega) (by omega)
    · replace h_16 := dec0.mp h_16
      refine rg_iconst C dX6_reservoir_19 ?_
      refine rg_goto (tgt := 64) C dX6_reservoir_20 (by decide) ?_
      exact L64 1 (by omega) (by omega)
set_option maxHeartbeats 4000000 in
set_option maxRecDepth 100000 in
/-- kX6_reservoirT -/
theorem kX6_reservoirT (l : Launch) (E : rE) (x0 : Nat) (x1 : Nat) (x2 : Nat) (x3 : Nat) (x4 : Nat) (x5 : Nat) (x6 : Nat) (x7 : Nat) (x8 : Nat) (x9 : Nat) (x10 : Nat) (x11 : Nat) (x12 : Nat) (x13 : Nat) (x14 : Nat) (x15 : Nat) (x16 : Nat) (x18 : Nat) (x19 : Nat) (x20 : Nat) (x21 : Nat) (isR : Nat → Int) (dn : Nat → Int) (inf : Nat → Int) (isS : Nat → Int) (sR : Nat → Int) (cap : Nat → Int) (hol : Nat → Int) (rls : Nat → Int) (isG : Nat → Int) (plc : Nat → Int) (pri : Nat → Int) (rte : Nat → Int) (shr : Nat → Int) (bck : Nat → Int) (sto : Nat → Int) (wnt : Nat → Int) (bks : Nat → Int) (amt : Nat → Int) (fst : Nat → Int) (ord : Nat → Int) (thr : Int) (dy : Int) (rgs : Int) (sv : Int) (r : Int) (cp : Int) (tw : Int) (hIsv : inI sv) (hIr : inI r) (hIcp : inI cp) (hir : ∀ r : Nat, r < 32 → isR r = 0 ∨ isR r = 1) (his : ∀ r : Nat, r < 8 → isS r = 0 ∨ isS r = 1) (htw : tw = if ¬ (0 ≤ sv ∧ sv < 8) ∨ ¬ (0 ≤ r ∧ r < 32) then 1 else if isR r.toNat = 0 then 2 else if cp < 0 ∨ 1000000000 < cp then 3 else if isS sv.toNat ≠ 0 then 4 else 0) (ht1 : tw = 0) : rM l yX6_reservoir sX6_reservoir rX6_reservoir E [cO x0 6 [.int (iI thr), .ref x1, .ref x2, .ref x3, .ref x4, .ref x5, .ref x6, .ref x7, .ref x8, .ref x9, .ref x10, .ref x11, .ref x12, .ref x13, .ref x14, .ref x15, .ref x16, .int (iI dy), .ref x18, .ref x19, .ref x20, .ref x21, .int (iI rgs)], cZ E x1 32 isR, cI E x2 32 dn, cI E x3 32 inf, cZ E x4 8 isS, cI E x5 8 sR, cI E x6 8 cap, cI E x7 8 hol, cJ E x8 256 rls, cZ E x9 40 isG, cI E x10 40 plc, cI E x11 40 pri, cI E x12 40 rte, cI E x13 40 shr, cI E x14 40 bck, cI E x15 40 sto, cI E x16 40 wnt, cJ E x18 300 bks, cI E x19 40 amt, cI E x20 40 fst, cI E x21 40 ord] [.ref x0, .int (iI sv), .int (iI r), .int (iI cp)] none (fun _ : Unit => [cO x0 6 [.int (iI 0), .ref x1, .ref x2, .ref x3, .ref x4, .ref x5, .ref x6, .ref x7, .ref x8, .ref x9, .ref x10, .ref x11, .ref x12, .ref x13, .ref x14, .ref x15, .ref x16, .int (iI dy), .ref x18, .ref x19, .ref x20, .ref x21, .int (iI rgs)], cZ E x1 32 isR, cI E x2 32 dn, cI E x3 32 inf, cZ E x4 8 (uZ isS sv.toNat 1), cI E x5 8 (uZ sR sv.toNat r), cI E x6 8 (uZ cap sv.toNat cp), cI E x7 8 (uZ hol sv.toNat 0), cJ E x8 256 rls, cZ E x9 40 isG, cI E x10 40 plc, cI E x11 40 pri, cI E x12 40 rte, cI E x13 40 shr, cI E x14 40 bck, cI E x15 40 sto, cI E x16 40 wnt, cJ E x18 300 bks, cI E x19 40 amt, cI E x20 40 fst, cI E x21 40 ord]) := by
  refine rM.of (cc := cX6_reservoir) (maxL := 4) (ret := none) (by decide) rfl (Nat.le_of_ble_eq_true rfl) (fun w h => List.mem_cons_of_mem _ h) ?_
  intro p e s m args below meth c A Q hA hQ C hr hlk hnm
  have C : rC p s m args c E A 4 cX6_reservoir sX6_reservoir RX6 := C
  have L64 : ∀ (z : Int), (z = tw) → (0 ≤ z ∧ z ≤ 4) → rG p l e rX6_reservoir s m args below meth c E A 4 0 0 Q [cO x0 6 [.int (iI thr), .ref x1, .ref x2, .ref x3, .ref x4, .ref x5, .ref x6, .ref x7, .ref x8, .ref x9, .ref x10, .ref x11, .ref x12, .ref x13, .ref x14, .ref x15, .ref x16, .int (iI dy), .ref x18, .ref x19, .ref x20, .ref x21, .int (iI rgs)], cZ E x1 32 isR, cI E x2 32 dn, cI E x3 32 inf, cZ E x4 8 isS, cI E x5 8 sR, cI E x6 8 cap, cI E x7 8 hol, cJ E x8 256 rls, cZ E x9 40 isG, cI E x10 40 plc, cI E x11 40 pri, cI E x12 40 rte, cI E x13 40 shr, cI E x14 40 bck, cI E x15 40 sto, cI E x16 40 wnt, cJ E x18 300 bks, cI E x19 40 amt, cI E x20 40 fst, cI E x21 40 ord] 64 [(0, .ref x0), (1, .int (iI sv)), (2, .int (iI r)), (3, .int (iI cp))] [.int (iI z), .ref x0] := by
    intro z hz hzr
    refine rg_put (ws' := [cO x0 6 [.int (iI z), .ref x1, .ref x2, .ref x3, .ref x4, .ref x5, .ref x6, .ref x7, .ref x8, .ref x9, .ref x10, .ref x11, .ref x12, .ref x13, .ref x14, .ref x15, .ref x16, .int (iI dy), .ref x18, .ref x19, .ref x20, .ref x21, .int (iI rgs)], cZ E x1 32 isR, cI E x2 32 dn, cI E x3 32 inf, cZ E x4 8 isS, cI E x5 8 sR, cI E x6 8 cap, cI E x7 8 hol, cJ E x8 256 rls, cZ E x9 40 isG, cI E x10 40 plc, cI E x11 40 pri, cI E x12 40 rte, cI E x13 40 shr, cI E x14 40 bck, cI E x15 40 sto, cI E x16 40 wnt, cJ E x18 300 bks, cI E x19 40 amt, cI E x20 40 fst, cI E x21 40 ord]) C fX6_72 layX6 rfl 0 rfl rfl rfl (Nat.le_of_ble_eq_true rfl) dX6_reservoir_64 rfl ?_
    refine rg_aload_n C 0 dX6_reservoir_67 rfl rfl ?_
    refine rg_get C fX6_72 0 rfl rfl dX6_reservoir_68 ?_
    refine rg_if_le (tgt := 75) C ⟨by omega, by omega⟩ dX6_reservoir_71 (by decide) (fun h_71 => ?_) (fun h_71 => absurd h_71 (by first | omega | (rw [decide_eq_true (by omega)]; decide) | (rw [decide_eq_false (by omega)]; decide)))
    have hr9 := hir r.toNat (by omega)
    have hs9 := his sv.toNat (by omega)
    refine rg_aload_n C 0 dX6_reservoir_75 rfl rfl ?_
    refine rg_get C fX6_20 0 rfl rfl dX6_reservoir_76 ?_
    refine rg_iload_n C 1 dX6_reservoir_79 rfl rfl ?_
    refine rg_iconst C dX6_reservoir_80 ?_
    refine rg_zast (ws' := [cO x0 6 [.int (iI z), .ref x1, .ref x2, .ref x3, .ref x4, .ref x5, .ref x6, .ref x7, .ref x8, .ref x9, .ref x10, .ref x11, .ref x12, .ref x13, .ref x14, .ref x15, .ref x16, .int (iI dy), .ref x18, .ref x19, .ref x20, .ref x21, .int (iI rgs)], cZ E x1 32 isR, cI E x2 32 dn, cI E x3 32 inf, cZ E x4 8 (uZ isS sv.toNat 1), cI E x5 8 sR, cI E x6 8 cap, cI E x7 8 hol, cJ E x8 256 rls, cZ E x9 40 isG, cI E x10 40 plc, cI E x11 40 pri, cI E x12 40 rte, cI E x13 40 shr, cI E x14 40 bck, cI E x15 40 sto, cI E x16 40 wnt, cJ E x18 300 bks, cI E x19 40 amt, cI E x20 40 fst, cI E x21 40 ord]) C 4 rfl (by decide) (by omega) (by omega) (by decide) dX6_reservoir_81 rfl ?_
    refine rg_aload_n C 0 dX6_reservoir_82 rfl rfl ?_
    refine rg_get C fX6_23 0 rfl rfl dX6_reservoir_83 ?_
    refine rg_iload_n C 1 dX6_reservoir_86 rfl rfl ?_
    refine rg_iload_n C 2 dX6_reservoir_87 rfl rfl ?_
    refine rg_iast (ws' := [cO x0 6 [.int (iI z), .ref x1, .ref x2, .ref x3, .ref x4, .ref x5, .ref x6, .ref x7, .ref x8, .ref x9, .ref x10, .ref x11, .ref x12, .ref x13, .ref x14, .ref x15, .ref x16, .int (iI dy), .ref x18, .ref x19, .ref x20, .ref x21, .int (iI rgs)], cZ E x1 32 isR, cI E x2 32 dn, cI E x3 32 inf, cZ E x4 8 (uZ isS sv.toNat 1), cI E x5 8 (uZ sR sv.toNat r), cI E x6 8 cap, cI E x7 8 hol, cJ E x8 256 rls, cZ E x9 40 isG, cI E x10 40 plc, cI E x11 40 pri, cI E x12 40 rte, cI E x13 40 shr, cI E x14 40 bck, cI E x15 40 sto, cI E x16 40 wnt, cJ E x18 300 bks, cI E x19 40 amt, cI E x20 40 fst, cI E x21 40 ord]) C 5 rfl (by decide) (by omega) (by omega) dX6_reservoir_88 rfl ?_
    refine rg_aload_n C 0 dX6_reservoir_89 rfl rfl ?_
    refine rg_get C fX6_26 0 rfl rfl dX6_reservoir_90 ?_
    refine rg_iload_n C 1 dX6_reservoir_93 rfl rfl ?_
    refine rg_iload_n C 3 dX6_reservoir_94 rfl rfl ?_
    refine rg_iast (ws' := [cO x0 6 [.int (iI z), .ref x1, .ref x2, .ref x3, .ref x4, .ref x5, .ref x6, .ref x7, .ref x8, .ref x9, .ref x10, .ref x11, .ref x12, .ref x13, .ref x14, .ref x15, .ref x16, .int (iI dy), .ref x18, .ref x19, .ref x20, .ref x21, .int (iI rgs)], cZ E x1 32 isR, cI E x2 32 dn, cI E x3 32 inf, cZ E x4 8 (uZ isS sv.toNat 1), cI E x5 8 (uZ sR sv.toNat r), cI E x6 8 (uZ cap sv.toNat cp), cI E x7 8 hol, cJ E x8 256 rls, cZ E x9 40 isG, cI E x10 40 plc, cI E x11 40 pri, cI E x12 40 rte, cI E x13 40 shr, cI E x14 40 bck, cI E x15 40 sto, cI E x16 40 wnt, cJ E x18 300 bks, cI E x19 40 amt, cI E x20 40 fst, cI E x21 40 ord]) C 6 rfl (by decide) (by omega) (by omega) dX6_reservoir_95 rfl ?_
    refine rg_aload_n C 0 dX6_reservoir_96 rfl rfl ?_
    refine rg_get C fX6_29 0 rfl rfl dX6_reservoir_97 ?_
    refine rg_iload_n C 1 dX6_reservoir_100 rfl rfl ?_
    refine rg_iconst C dX6_reservoir_101 ?_
    refine rg_iast (ws' := [cO x0 6 [.int (iI z), .ref x1, .ref x2, .ref x3, .ref x4, .ref x5, .ref x6, .ref x7, .ref x8, .ref x9, .ref x10, .ref x11, .ref x12, .ref x13, .ref x14, .ref x15, .ref x16, .int (iI dy), .ref x18, .ref x19, .ref x20, .ref x21, .int (iI rgs)], cZ E x1 32 isR, cI E x2 32 dn, cI E x3 32 inf, cZ E x4 8 (uZ isS sv.toNat 1), cI E x5 8 (uZ sR sv.toNat r), cI E x6 8 (uZ cap sv.toNat cp), cI E x7 8 (uZ hol sv.toNat 0), cJ E x8 256 rls, cZ E x9 40 isG, cI E x10 40 plc, cI E x11 40 pri, cI E x12 40 rte, cI E x13 40 shr, cI E x14 40 bck, cI E x15 40 sto, cI E x16 40 wnt, cJ E x18 300 bks, cI E x19 40 amt, cI E x20 40 fst, cI E x21 40 ord]) C 7 rfl (by decide) (by omega) (by omega) dX6_reservoir_102 rfl ?_
    exact rg_vret C hA hQ hr hlk () (by rw [show z = 0 by omega]) rfl dX6_reservoir_103
  show rG p l e rX6_reservoir s m args below meth c E A 4 0 0 Q [cO x0 6 [.int (iI thr), .ref x1, .ref x2, .ref x3, .ref x4, .ref x5, .ref x6, .ref x7, .ref x8, .ref x9, .ref x10, .ref x11, .ref x12, .ref x13, .ref x14, .ref x15, .ref x16, .int (iI dy), .ref x18, .ref x19, .ref x20, .ref x21, .int (iI rgs)], cZ E x1 32 isR, cI E x2 32 dn, cI E x3 32 inf, cZ E x4 8 isS, cI E x5 8 sR, cI E x6 8 cap, cI E x7 8 hol, cJ E x8 256 rls, cZ E x9 40 isG, cI E x10 40 plc, cI E x11 40 pri, cI E x12 40 rte, cI E x13 40 shr, cI E x14 40 bck, cI E x15 40 sto, cI E x16 40 wnt, cJ E x18 300 bks, cI E x19 40 amt, cI E x20 40 fst, cI E x21 40 ord] 0 [(0, .ref x0), (1, .int (iI sv)), (2, .int (iI r)), (3, .int (iI cp))] []
  refine rg_aload_n C 0 dX6_reservoir_0 rfl rfl ?_
  refine rg_iload_n C 1 dX6_reservoir_1 rfl rfl ?_
  refine rg_bipush (z := 8) C dX6_reservoir_2 (by decide) ?_
  refine rg_callS (As := [.int (iI sv), .int (iI 8)]) (rest := [.ref x0]) (wr := [cO x0 6 [.int (iI thr), .ref x1, .ref x2, .ref x3, .ref x4, .ref x5, .ref x6, .ref x7, .ref x8, .ref x9, .ref x10, .ref x11, .ref x12, .ref x13, .ref x14, .ref x15, .ref x16, .int (iI dy), .ref x18, .ref x19, .ref x20, .ref x21, .int (iI rgs)], cZ E x1 32 isR, cI E x2 32 dn, cI E x3 32 inf, cZ E x4 8 isS, cI E x5 8 sR, cI E x6 8 cap, cI E x7 8 hol, cJ E x8 256 rls, cZ E x9 40 isG, cI E x10 40 plc, cI E x11 40 pri, cI E x12 40 rte, cI E x13 40 shr, cI E x14 40 bck, cI E x15 40 sto, cI E x16 40 wnt, cJ E x18 300 bks, cI E x19 40 amt, cI E x20 40 fst, cI E x21 40 ord]) (w' := fun _ => [cO x0 6 [.int (iI thr), .ref x1, .ref x2, .ref x3, .ref x4, .ref x5, .ref x6, .ref x7, .ref x8, .ref x9, .ref x10, .ref x11, .ref x12, .ref x13, .ref x14, .ref x15, .ref x16, .int (iI dy), .ref x18, .ref x19, .ref x20, .ref x21, .int (iI rgs)], cZ E x1 32 isR, cI E x2 32 dn, cI E x3 32 inf, cZ E x4 8 isS, cI E x5 8 sR, cI E x6 8 cap, cI E x7 8 hol, cJ E x8 256 rls, cZ E x9 40 isG, cI E x10 40 plc, cI E x11 40 pri, cI E x12 40 rte, cI E x13 40 shr, cI E x14 40 bck, cI E x15 40 sto, cI E x16 40 wnt, cJ E x18 300 bks, cI E x19 40 amt, cI E x20 40 fst, cI E x21 40 ord]) C (kX6_isNumber l E sv 8 hIsv (⟨by decide, by decide⟩)) (rcwS C mX6_isNumber w_701 ⟨Nat.le_of_ble_eq_true rfl, Nat.le_of_ble_eq_true rfl⟩) [] [0, 1, 2, 3, 4, 5, 6, 7, 8, 9, 10, 11, 12, 13, 14, 15, 16, 17, 18, 19, 20] [0, 1, 2, 3, 4, 5, 6, 7, 8, 9, 10, 11, 12, 13, 14, 15, 16, 17, 18, 19, 20] rfl rfl (by decide) (by decide) (by decide) (fun _ => rfl) (by decide) rfl rfl (Nat.le_of_ble_eq_true rfl) dX6_reservoir_4 ⟨Nat.le_of_ble_eq_true rfl, Nat.le_of_ble_eq_true rfl⟩ (fun _ => ?_)
  show rG p l e rX6_reservoir s m args below meth c E A 4 0 0 Q [cO x0 6 [.int (iI thr), .ref x1, .ref x2, .ref x3, .ref x4, .ref x5, .ref x6, .ref x7, .ref x8, .ref x9, .ref x10, .ref x11, .ref x12, .ref x13, .ref x14, .ref x15, .ref x16, .int (iI dy), .ref x18, .ref x19, .ref x20, .ref x21, .int (iI rgs)], cZ E x1 32 isR, cI E x2 32 dn, cI E x3 32 inf, cZ E x4 8 isS, cI E x5 8 sR, cI E x6 8 cap, cI E x7 8 hol, cJ E x8 256 rls, cZ E x9 40 isG, cI E x10 40 plc, cI E x11 40 pri, cI E x12 40 rte, cI E x13 40 shr, cI E x14 40 bck, cI E x15 40 sto, cI E x16 40 wnt, cJ E x18 300 bks, cI E x19 40 amt, cI E x20 40 fst, cI E x21 40 ord] 7 [(0, .ref x0), (1, .int (iI sv)), (2, .int (iI r)), (3, .int (iI cp))] [.int (iI (bZ (decide (0 ≤ sv ∧ sv < 8)))), .ref x0]
  refine rg_if_eq (tgt := 19) C (bZ_in _) dX6_reservoir_7 (by decide) (fun h_7 => ?_) (fun h_7 => ?_)
  · replace h_7 := dec0.mp h_7
    refine rg_iconst C dX6_reservoir_19 ?_
    refine rg_goto (tgt := 64) C dX6_reservoir_20 (by decide) ?_
    exact L64 1 (by omega) (by omega)
  · replace h_7 := of_decide_eq_true (bZ_T h_7)
    refine rg_iload_n C 2 dX6_reservoir_10 rfl rfl ?_
    refine rg_bipush (z := 32) C dX6_reservoir_11 (by decide) ?_
    refine rg_callS (As := [.int (iI r), .int (iI 32)]) (rest := [.ref x0]) (wr := [cO x0 6 [.int (iI thr), .ref x1, .ref x2, .ref x3, .ref x4, .ref x5, .ref x6, .ref x7, .ref x8, .ref x9, .ref x10, .ref x11, .ref x12, .ref x13, .ref x14, .ref x15, .ref x16, .int (iI dy), .ref x18, .ref x19, .ref x20, .ref x21, .int (iI rgs)], cZ E x1 32 isR, cI E x2 32 dn, cI E x3 32 inf, cZ E x4 8 isS, cI E x5 8 sR, cI E x6 8 cap, cI E x7 8 hol, cJ E x8 256 rls, cZ E x9 40 isG, cI E x10 40 plc, cI E x11 40 pri, cI E x12 40 rte, cI E x13 40 shr, cI E x14 40 bck, cI E x15 40 sto, cI E x16 40 wnt, cJ E x18 300 bks, cI E x19 40 amt, cI E x20 40 fst, cI E x21 40 ord]) (w' := fun _ => [cO x0 6 [.int (iI thr), .ref x1, .ref x2, .ref x3, .ref x4, .ref x5, .ref x6, .ref x7, .ref x8, .ref x9, .ref x10, .ref x11, .ref x12, .ref x13, .ref x14, .ref x15, .ref x16, .int (iI dy), .ref x18, .ref x19, .ref x20, .ref x21, .int (iI rgs)], cZ E x1 32 isR, cI E x2 32 dn, cI E x3 32 inf, cZ E x4 8 isS, cI E x5 8 sR, cI E x6 8 cap, cI E x7 8 hol, cJ E x8 256 rls, cZ E x9 40 isG, cI E x10 40 plc, cI E x11 40 pri, cI E x12 40 rte, cI E x13 40 shr, cI E x14 40 bck, cI E x15 40 sto, cI E x16 40 wnt, cJ E x18 300 bks, cI E x19 40 amt, cI E x20 40 fst, cI E x21 40 ord]) C (kX6_isNumber l E r 32 hIr (⟨by decide, by decide⟩)) (rcwS C mX6_isNumber w_701 ⟨Nat.le_of_ble_eq_true rfl, Nat.le_of_ble_eq_true rfl⟩) [] [0, 1, 2, 3, 4, 5, 6, 7, 8, 9, 10, 11, 12, 13, 14, 15, 16, 17, 18, 19, 20] [0, 1, 2, 3, 4, 5, 6, 7, 8, 9, 10, 11, 12, 13, 14, 15, 16, 17, 18, 19, 20] rfl rfl (by decide) (by decide) (by decide) (fun _ => rfl) (by decide) rfl rfl (Nat.le_of_ble_eq_true rfl) dX6_reservoir_13 ⟨Nat.le_of_ble_eq_true rfl, Nat.le_of_ble_eq_true rfl⟩ (fun _ => ?_)
    show rG p l e rX6_reservoir s m args below meth c E A 4 0 0 Q [cO x0 6 [.int (iI thr), .ref x1, .ref x2, .ref x3, .ref x4, .ref x5, .ref x6, .ref x7, .ref x8, .ref x9, .ref x10, .ref x11, .ref x12, .ref x13, .ref x14, .ref x15, .ref x16, .int (iI dy), .ref x18, .ref x19, .ref x20, .ref x21, .int (iI rgs)], cZ E x1 32 isR, cI E x2 32 dn, cI E x3 32 inf, cZ E x4 8 isS, cI E x5 8 sR, cI E x6 8 cap, cI E x7 8 hol, cJ E x8 256 rls, cZ E x9 40 isG, cI E x10 40 plc, cI E x11 40 pri, cI E x12 40 rte, cI E x13 40 shr, cI E x14 40 bck, cI E x15 40 sto, cI E x16 40 wnt, cJ E x18 300 bks, cI E x19 40 amt, cI E x20 40 fst, cI E x21 40 ord] 16 [(0, .ref x0), (1, .int (iI sv)), (2, .int (iI r)), (3, .int (iI cp))] [.int (iI (bZ (decide (0 ≤ r ∧ r < 32)))), .ref x0]
    refine rg_if_ne (tgt := 23) C (bZ_in _) dX6_reservoir_16 (by decide) (fun h_16 => ?_) (fun h_16 => ?_)
    · replace h_16 := of_decide_eq_true (bZ_T h_16)
      have hr9 := hir r.toNat (by omega)
      have hs9 := his sv.toNat (by omega)
      refine rg_aload_n C 0 dX6_reservoir_23 rfl rfl ?_
      refine rg_get C fX6_7 0 rfl rfl dX6_reservoir_24 ?_
      refine rg_iload_n C 2 dX6_reservoir_27 rfl rfl ?_
      refine rg_zald C 1 rfl (by decide) (by omega) (by omega) dX6_reservoir_28 ?_
      refine rg_if_ne (tgt := 36) C ⟨by omega, by omega⟩ dX6_reservoir_29 (by decide) (fun h_29 => ?_) (fun h_29 => ?_)
      · refine rg_iload_n C 3 dX6_reservoir_36 rfl rfl ?_
        refine rg_if_lt (tgt := 46) C hIcp dX6_reservoir_37 (by decide) (fun h_37 => ?_) (fun h_37 => ?_)
        · refine rg_iconst C dX6_reservoir_46 ?_
          refine rg_goto (tgt := 64) C dX6_reservoir_47 (by decide) ?_
          exact L64 3 (by omega) (by omega)
        · refine rg_iload_n C 3 dX6_reservoir_40 rfl rfl ?_
          refine rg_ldc (v := 1000000000) (z := 1000000000) C (by decide +kernel) (by decide) dX6_reservoir_41 ?_
          refine rg_icmp_le (tgt := 50) C hIcp ⟨by decide, by decide⟩ dX6_reservoir_43 (by decide) (fun h_43 => ?_) (fun h_43 => ?_)
          · refine rg_aload_n C 0 dX6_reservoir_50 rfl rfl ?_
            refine rg_get C fX6_20 0 rfl rfl dX6_reservoir_51 ?_
            refine rg_iload_n C 1 dX6_reservoir_54 rfl rfl ?_
            refine rg_zald C 4 rfl (by decide) (by omega) (by omega) dX6_reservoir_55 ?_
            refine rg_if_eq (tgt := 63) C ⟨by omega, by omega⟩ dX6_reservoir_56 (by decide) (fun h_56 => ?_) (fun h_56 => ?_)
            · refine rg_iconst C dX6_reservoir_63 ?_
              exact L64 0 (by omega) (by omega)
            · refine rg_iconst C dX6_reservoir_59 ?_
              refine rg_goto (tgt := 64) C dX6_reservoir_60 (by decide) ?_
              exact L64 4 (by omega) (by omega)
          · refine rg_iconst C dX6_reservoir_46 ?_
            refine rg_goto (tgt := 64) C dX6_reservoir_47 (by decide) ?_
            exact L64 3 (by omega) (by omega)
      · refine rg_iconst C dX6_reservoir_32 ?_
        refine rg_goto (tgt := 64) C dX6_reservoir_33 (by decide) ?_
        exact L64 2 (by omega) (by omega)
    · replace h_16 := dec0.mp h_16
      refine rg_iconst C dX6_reservoir_19 ?_
      refine rg_goto (tgt := 64) C dX6_reservoir_20 (by decide) ?_
      exact L64 1 (by omega) (by omega)
