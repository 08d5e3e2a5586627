def hldM (isR dn inf isG plc bck sto shr cap hol amt : Nat → Int) (i : Int) : Bool := hpB (natM isR dn inf isG plc bck sto shr amt) dn 32 (plc i.toNat) && (decide (sto i.toNat < 0) || decide (sumTo (stoM isG sto amt (sto i.toNat)) 40 ≤ cap (sto i.toNat).toNat - hol (sto i.toNat).toNat))
abbrev rX6_holdsPlan : Room := { frames := 2, cells := 0, slots := 0, locals := 47 }
set_option maxHeartbeats 4000000 in
set_option maxRecDepth 100000 in
/-- holdsPlan -/
theorem kX6_holdsPlan (l : Launch) (E : rE) (x0 : Nat) (x1 : Nat) (x2 : Nat) (x3 : Nat) (x4 : Nat) (x5 : Nat) (x6 : Nat) (x7 : Nat) (x8 : Nat) (x9 : Nat) (x10 : Nat) (x11 : Nat) (x12 : Nat) (x13 : Nat) (x14 : Nat) (x15 : Nat) (x16 : Nat) (x18 : Nat) (x19 : Nat) (x20 : Nat) (x21 : Nat) (isR : Nat → Int) (dn : Nat → Int) (inf : Nat → Int) (isS : Nat → Int) (sR : Nat → Int) (cap : Nat → Int) (hol : Nat → Int) (rls : Nat → Int) (isG : Nat → Int) (plc : Nat → Int) (pri : Nat → Int) (rte : Nat → Int) (shr : Nat → Int) (bck : Nat → Int) (sto : Nat → Int) (wnt : Nat → Int) (bks : Nat → Int) (amt : Nat → Int) (fst : Nat → Int) (ord : Nat → Int) (thr : Int) (dy : Int) (rgs : Int) (i : Int) (hdn : ∀ r : Nat, r < 32 → -1 ≤ dn r ∧ dn r < 32) (hpe : ∀ k : Nat, k < 32 → isR k ≠ 0 → pEnd dn 32 (k : Int)) (hir : ∀ r : Nat, r < 32 → isR r = 0 ∨ isR r = 1) (hig : ∀ r : Nat, r < 40 → isG r = 0 ∨ isG r = 1) (hinf : ∀ r : Nat, r < 32 → 0 ≤ inf r ∧ inf r ≤ 1000000000) (hrg : ∀ i : Nat, i < 40 → isG i ≠ 0 → (0 ≤ plc i ∧ plc i < 32 ∧ pEnd dn 32 (plc i)) ∧ (sto i < 0 → 0 ≤ bck i ∧ bck i < 32 ∧ pEnd dn 32 (bck i) ∧ 0 ≤ shr i ∧ shr i ≤ 1000)) (hsto : ∀ i : Nat, i < 40 → -1 ≤ sto i ∧ sto i < 8) (ham : ∀ i : Nat, i < 40 → 0 ≤ amt i ∧ amt i ≤ 1000000000) (hcap : ∀ s : Nat, s < 8 → (0 ≤ cap s ∧ cap s ≤ 1000000000) ∧ 0 ≤ hol s ∧ hol s ≤ cap s) (hi0 : 0 ≤ i ∧ i < 40) (hgi : isG i.toNat ≠ 0) : rM l yX6_holdsPlan sX6_holdsPlan rX6_holdsPlan E [cO x0 6 [.int (iI thr), .ref x1, .ref x2, .ref x3, .ref x4, .ref x5, .ref x6, .ref x7, .ref x8, .ref x9, .ref x10, .ref x11, .ref x12, .ref x13, .ref x14, .ref x15, .ref x16, .int (iI dy), .ref x18, .ref x19, .ref x20, .ref x21, .int (iI rgs)], cZ E x1 32 isR, cI E x2 32 dn, cI E x3 32 inf, cZ E x4 8 isS, cI E x5 8 sR, cI E x6 8 cap, cI E x7 8 hol, cJ E x8 256 rls, cZ E x9 40 isG, cI E x10 40 plc, cI E x11 40 pri, cI E x12 40 rte, cI E x13 40 shr, cI E x14 40 bck, cI E x15 40 sto, cI E x16 40 wnt, cJ E x18 300 bks, cI E x19 40 amt, cI E x20 40 fst, cI E x21 40 ord] [.ref x0, .int (iI i)] (some (.int (iI (bZ (hldM isR dn inf isG plc bck sto shr cap hol amt i))))) (fun _ : Unit => [cO x0 6 [.int (iI thr), .ref x1, .ref x2, .ref x3, .ref x4, .ref x5, .ref x6, .ref x7, .ref x8, .ref x9, .ref x10, .ref x11, .ref x12, .ref x13, .ref x14, .ref x15, .ref x16, .int (iI dy), .ref x18, .ref x19, .ref x20, .ref x21, .int (iI rgs)], cZ E x1 32 isR, cI E x2 32 dn, cI E x3 32 inf, cZ E x4 8 isS, cI E x5 8 sR, cI E x6 8 cap, cI E x7 8 hol, cJ E x8 256 rls, cZ E x9 40 isG, cI E x10 40 plc, cI E x11 40 pri, cI E x12 40 rte, cI E x13 40 shr, cI E x14 40 bck, cI E x15 40 sto, cI E x16 40 wnt, cJ E x18 300 bks, cI E x19 40 amt, cI E x20 40 fst, cI E x21 40 ord]) := by
  refine rM.of (cc := cX6_holdsPlan) (maxL := 6) (ret := (some FieldType.boolean)) (by decide) rfl (Nat.le_of_ble_eq_true rfl) (fun w h => List.mem_cons_of_mem _ h) ?_
  intro p e s m args below meth c A Q hA hQ C hr hlk hnm
  have C : rC p s m args c E A 6 cX6_holdsPlan sX6_holdsPlan RX6 := C
  obtain ⟨⟨e1, e2, e3⟩, e4⟩ := hrg i.toNat (by omega) hgi
  have hsi0 := hsto i.toNat (by omega)
  have hss := fun (j : Nat) (hj : j < 40) (q : isG j ≠ 0) (z : sto j < 0) => (show 0 ≤ shr j ∧ shr j ≤ 1000 from ⟨((hrg j hj q).2 z).2.2.2.1, ((hrg j hj q).2 z).2.2.2.2⟩)
  have L63 : ∀ (n : Nat) (k : Int) (ac : Int), (hpB (natM isR dn inf isG plc bck sto shr amt) dn 32 (plc i.toNat) = true) → (¬ sto i.toNat < 0) → (0 ≤ k ∧ k ≤ 40) → (ac = sumTo (stoM isG sto amt (sto i.toNat)) k.toNat) → ((40 - k).toNat < n) → rG p l e rX6_holdsPlan s m args below meth c E A 6 0 0 Q [cO x0 6 [.int (iI thr), .ref x1, .ref x2, .ref x3, .ref x4, .ref x5, .ref x6, .ref x7, .ref x8, .ref x9, .ref x10, .ref x11, .ref x12, .ref x13, .ref x14, .ref x15, .ref x16, .int (iI dy), .ref x18, .ref x19, .ref x20, .ref x21, .int (iI rgs)], cZ E x1 32 isR, cI E x2 32 dn, cI E x3 32 inf, cZ E x4 8 isS, cI E x5 8 sR, cI E x6 8 cap, cI E x7 8 hol, cJ E x8 256 rls, cZ E x9 40 isG, cI E x10 40 plc, cI E x11 40 pri, cI E x12 40 rte, cI E x13 40 shr, cI E x14 40 bck, cI E x15 40 sto, cI E x16 40 wnt, cJ E x18 300 bks, cI E x19 40 amt, cI E x20 40 fst, cI E x21 40 ord] 63 [(0, .ref x0), (1, .int (iI i)), (3, .long (lI ac)), (5, .int (iI k))] [] := by
    intro n
    induction n with
    | zero => intro k ac hHP hsi h1 h3 hm; exact absurd hm (Nat.not_lt_zero _)
    | succ n ih =>
      intro k ac hHP hsi h1 h3 hm
      refine rg_iload C 3 dX6_holdsPlan_63 rfl ?_
      refine rg_bipush (z := 40) C dX6_holdsPlan_65 (by decide) ?_
      refine rg_icmp_ge (tgt := 117) C ⟨by omega, by omega⟩ ⟨by decide, by decide⟩ dX6_holdsPlan_67 (by decide) (fun h_67 => ?_) (fun h_67 => ?_)
      · have hc9 := hcap (sto i.toNat).toNat (by omega)
        have hb8 := stoM_in (isG := isG) (sto := sto) (s := sto i.toNat) ham (n := k.toNat) (by omega)
        rw [← h3] at hb8
        have hk9 : k.toNat = 40 := by omega
        refine rg_lload_n C 2 dX6_holdsPlan_117 rfl rfl ?_
        refine rg_aload_n C 0 dX6_holdsPlan_118 rfl rfl ?_
        refine rg_get C fX6_26 0 rfl rfl dX6_holdsPlan_119 ?_
        refine rg_aload_n C 0 dX6_holdsPlan_122 rfl rfl ?_
        refine rg_get C fX6_54 0 rfl rfl dX6_holdsPlan_123 ?_
        refine rg_iload_n C 1 dX6_holdsPlan_126 rfl rfl ?_
        refine rg_iald C 15 rfl (by decide) (by omega) (by omega) dX6_holdsPlan_127 ?_
        refine rg_iald C 6 rfl (by decide) (by omega) (by omega) dX6_holdsPlan_128 ?_
        refine rg_aload_n C 0 dX6_holdsPlan_129 rfl rfl ?_
        refine rg_get C fX6_29 0 rfl rfl dX6_holdsPlan_130 ?_
        refine rg_aload_n C 0 dX6_holdsPlan_133 rfl rfl ?_
        refine rg_get C fX6_54 0 rfl rfl dX6_holdsPlan_134 ?_
        refine rg_iload_n C 1 dX6_holdsPlan_137 rfl rfl ?_
        refine rg_iald C 15 rfl (by decide) (by omega) (by omega) dX6_holdsPlan_138 ?_
        refine rg_iald C 7 rfl (by decide) (by omega) (by omega) dX6_holdsPlan_139 ?_
        refine rg_isub C dX6_holdsPlan_140 ?_
        refine rg_i2l C ⟨by omega, by omega⟩ dX6_holdsPlan_141 ?_
        refine rg_lcmp_gt (tgt := 150) C ⟨by omega, by omega⟩ ⟨by omega, by omega⟩ dX6_holdsPlan_142 dX6_holdsPlan_143 (by decide) (fun h_142 => ?_) (fun h_142 => ?_)
        · refine rg_iconst C dX6_holdsPlan_150 ?_
          exact rg_zret C hA hQ hr hlk () rfl (by first | rfl | decide | exact (bZ_nar _) | (rw [h3]; exact bZ_nar _)) (by unfold hldM; rw [hHP, decide_eq_false hsi, ← hk9, ← h3, decide_eq_false (by omega)]; rfl) dX6_holdsPlan_151
        · refine rg_iconst C dX6_holdsPlan_146 ?_
          refine rg_goto (tgt := 151) C dX6_holdsPlan_147 (by decide) ?_
          exact rg_zret C hA hQ hr hlk () rfl (by first | rfl | decide | exact (bZ_nar _) | (rw [h3]; exact bZ_nar _)) (by unfold hldM; rw [hHP, decide_eq_false hsi, ← hk9, ← h3, decide_eq_true (by omega)]; rfl) dX6_holdsPlan_151
      · have hg9 := hig k.toNat (by omega)
        have hs9 := hsto k.toNat (by omega)
        have ha9 := ham k.toNat (by omega)
        refine rg_aload_n C 0 dX6_holdsPlan_70 rfl rfl ?_
        refine rg_get C fX6_36 0 rfl rfl dX6_holdsPlan_71 ?_
        refine rg_iload C 3 dX6_holdsPlan_74 rfl ?_
        refine rg_zald C 9 rfl (by decide) (by omega) (by omega) dX6_holdsPlan_76 ?_
        refine rg_if_eq (tgt := 109) C ⟨by omega, by omega⟩ dX6_holdsPlan_77 (by decide) (fun h_77 => ?_) (fun h_77 => ?_)
        · refine rg_lload_n C 2 dX6_holdsPlan_109 rfl rfl ?_
          refine rg_lstore_n (lv' := [(3, .long (lI ac)), (0, .ref x0), (1, .int (iI i)), (5, .int (iI k))]) C dX6_holdsPlan_110 rfl (by decide) rfl ?_
          refine rg_iinc (k := 3) (lv' := [(5, .int (iI (k + 1))), (3, .long (lI ac)), (0, .ref x0), (1, .int (iI i))]) C dX6_holdsPlan_111 rfl (by decide) rfl ?_
          refine rg_goto (tgt := 63) C dX6_holdsPlan_114 (by decide) ?_
          refine rG.plv [2, 3, 1, 0] rfl ?_
          exact ih (k + 1) ac hHP hsi (by omega) (stoM_0 h1.1 h3 (by first | exact Or.inl h_77 | exact Or.inr h_93)) (by omega)
        · refine rg_aload_n C 0 dX6_holdsPlan_80 rfl rfl ?_
          refine rg_get C fX6_54 0 rfl rfl dX6_holdsPlan_81 ?_
          refine rg_iload C 3 dX6_holdsPlan_84 rfl ?_
          refine rg_iald C 15 rfl (by decide) (by omega) (by omega) dX6_holdsPlan_86 ?_
          refine rg_aload_n C 0 dX6_holdsPlan_87 rfl rfl ?_
          refine rg_get C fX6_54 0 rfl rfl dX6_holdsPlan_88 ?_
          refine rg_iload_n C 1 dX6_holdsPlan_91 rfl rfl ?_
          refine rg_iald C 15 rfl (by decide) (by omega) (by omega) dX6_holdsPlan_92 ?_
          refine rg_icmp_ne (tgt := 109) C ⟨by omega, by omega⟩ ⟨by omega, by omega⟩ dX6_holdsPlan_93 (by decide) (fun h_93 => ?_) (fun h_93 => ?_)
          · refine rg_lload_n C 2 dX6_holdsPlan_109 rfl rfl ?_
            refine rg_lstore_n (lv' := [(3, .long (lI ac)), (0, .ref x0), (1, .int (iI i)), (5, .int (iI k))]) C dX6_holdsPlan_110 rfl (by decide) rfl ?_
            refine rg_iinc (k := 3) (lv' := [(5, .int (iI (k + 1))), (3, .long (lI ac)), (0, .ref x0), (1, .int (iI i))]) C dX6_holdsPlan_111 rfl (by decide) rfl ?_
            refine rg_goto (tgt := 63) C dX6_holdsPlan_114 (by decide) ?_
            refine rG.plv [2, 3, 1, 0] rfl ?_
            exact ih (k + 1) ac hHP hsi (by omega) (stoM_0 h1.1 h3 (by first | exact Or.inl h_77 | exact Or.inr h_93)) (by omega)
          · refine rg_lload_n C 2 dX6_holdsPlan_96 rfl rfl ?_
            refine rg_aload_n C 0 dX6_holdsPlan_97 rfl rfl ?_
            refine rg_get C fX6_63 0 rfl rfl dX6_holdsPlan_98 ?_
            refine rg_iload C 3 dX6_holdsPlan_101 rfl ?_
            refine rg_iald C 18 rfl (by decide) (by omega) (by omega) dX6_holdsPlan_103 ?_
            refine rg_i2l C ⟨by omega, by omega⟩ dX6_holdsPlan_104 ?_
            refine rg_ladd C dX6_holdsPlan_105 ?_
            refine rg_goto (tgt := 110) C dX6_holdsPlan_106 (by decide) ?_
            refine rg_lstore_n (lv' := [(3, .long (lI (ac + (amt k.toNat)))), (0, .ref x0), (1, .int (iI i)), (5, .int (iI k))]) C dX6_holdsPlan_110 rfl (by decide) rfl ?_
            refine rg_iinc (k := 3) (lv' := [(5, .int (iI (k + 1))), (3, .long (lI (ac + (amt k.toNat)))), (0, .ref x0), (1, .int (iI i))]) C dX6_holdsPlan_111 rfl (by decide) rfl ?_
            refine rg_goto (tgt := 63) C dX6_holdsPlan_114 (by decide) ?_
            refine rG.plv [2, 3, 1, 0] rfl ?_
            exact ih (k + 1) (ac + (amt k.toNat)) hHP hsi (by omega) (stoM_1 h1.1 h3 h_77 h_93) (by omega)
  have L9 : ∀ (n : Nat) (k : Nat) (a : Int) (gd : Bool), (-1 ≤ a ∧ a < 32) → (pEnd dn k a) → (hpB (natM isR dn inf isG plc bck sto shr amt) dn 32 (plc i.toNat) = (gd && hpB (natM isR dn inf isG plc bck sto shr amt) dn k a)) → (k < n) → rG p l e rX6_holdsPlan s m args below meth c E A 6 0 0 Q [cO x0 6 [.int (iI thr), .ref x1, .ref x2, .ref x3, .ref x4, .ref x5, .ref x6, .ref x7, .ref x8, .ref x9, .ref x10, .ref x11, .ref x12, .ref x13, .ref x14, .ref x15, .ref x16, .int (iI dy), .ref x18, .ref x19, .ref x20, .ref x21, .int (iI rgs)], cZ E x1 32 isR, cI E x2 32 dn, cI E x3 32 inf, cZ E x4 8 isS, cI E x5 8 sR, cI E x6 8 cap, cI E x7 8 hol, cJ E x8 256 rls, cZ E x9 40 isG, cI E x10 40 plc, cI E x11 40 pri, cI E x12 40 rte, cI E x13 40 shr, cI E x14 40 bck, cI E x15 40 sto, cI E x16 40 wnt, cJ E x18 300 bks, cI E x19 40 amt, cI E x20 40 fst, cI E x21 40 ord] 9 [(0, .ref x0), (1, .int (iI i)), (2, .int (iI (bZ gd))), (3, .int (iI a))] [] := by
    intro n
    induction n with
    | zero => intro k a gd h2 hk h3 hm; exact absurd hm (Nat.not_lt_zero _)
    | succ n ih =>
      intro k a gd h2 hk h3 hm
      refine rg_iload_n C 3 dX6_holdsPlan_9 rfl rfl ?_
      refine rg_if_lt (tgt := 43) C ⟨by omega, by omega⟩ dX6_holdsPlan_10 (by decide) (fun h_10 => ?_) (fun h_10 => ?_)
      · have e9 : hpB (natM isR dn inf isG plc bck sto shr amt) dn 32 (plc i.toNat) = gd := by
          rw [h3]
          first
            | (rw [hpB_neg (by omega), Bool.and_true]; done)
            | (rw [bZ_F h_14, Bool.false_and]; done)
        refine rg_aload_n C 0 dX6_holdsPlan_43 rfl rfl ?_
        refine rg_get C fX6_54 0 rfl rfl dX6_holdsPlan_44 ?_
        refine rg_iload_n C 1 dX6_holdsPlan_47 rfl rfl ?_
        refine rg_iald C 15 rfl (by decide) (by omega) (by omega) dX6_holdsPlan_48 ?_
        refine rg_if_lt (tgt := 56) C ⟨by omega, by omega⟩ dX6_holdsPlan_49 (by decide) (fun h_49 => ?_) (fun h_49 => ?_)
        · refine rg_iload_n C 2 dX6_holdsPlan_56 rfl rfl ?_
          exact rg_zret C hA hQ hr hlk () rfl (by first | rfl | decide | exact (bZ_nar _) | (rw [h3]; exact bZ_nar _)) (by unfold hldM; rw [e9]; first | (rw [decide_eq_true (show sto i.toNat < 0 by omega), Bool.true_or, Bool.and_true]; done) | (rw [bZ_F h_53]; rfl)) dX6_holdsPlan_57
        · refine rg_iload_n C 2 dX6_holdsPlan_52 rfl rfl ?_
          refine rg_if_ne (tgt := 58) C (bZ_in _) dX6_holdsPlan_53 (by decide) (fun h_53 => ?_) (fun h_53 => ?_)
          · refine rg_lconst (z := 0) C dX6_holdsPlan_58 (by decide) ?_
            refine rg_lstore_n (lv' := [(3, .long (lI 0)), (0, .ref x0), (1, .int (iI i)), (2, .int (iI (bZ gd)))]) C dX6_holdsPlan_59 rfl (by decide) rfl ?_
            refine rg_iconst C dX6_holdsPlan_60 ?_
            refine rg_istore (lv' := [(5, .int (iI 0)), (3, .long (lI 0)), (0, .ref x0), (1, .int (iI i)), (2, .int (iI (bZ gd)))]) C dX6_holdsPlan_61 (by decide) rfl ?_
            refine rG.plv [2, 3, 1, 0] rfl ?_
            exact L63 _ 0 0 (e9.trans (bZ_T h_53)) h_49 (by omega) rfl (Nat.lt_succ_self _)
          · refine rg_iload_n C 2 dX6_holdsPlan_56 rfl rfl ?_
            exact rg_zret C hA hQ hr hlk () rfl (by first | rfl | decide | exact (bZ_nar _) | (rw [h3]; exact bZ_nar _)) (by unfold hldM; rw [e9]; first | (rw [decide_eq_true (show sto i.toNat < 0 by omega), Bool.true_or, Bool.and_true]; done) | (rw [bZ_F h_53]; rfl)) dX6_holdsPlan_57
      · refine rg_iload_n C 2 dX6_holdsPlan_13 rfl rfl ?_
        refine rg_if_eq (tgt := 43) C (bZ_in _) dX6_holdsPlan_14 (by decide) (fun h_14 => ?_) (fun h_14 => ?_)
        · have e9 : hpB (natM isR dn inf isG plc bck sto shr amt) dn 32 (plc i.toNat) = gd := by
            rw [h3]
            first
              | (rw [hpB_neg (by omega), Bool.and_true]; done)
              | (rw [bZ_F h_14, Bool.false_and]; done)
          refine rg_aload_n C 0 dX6_holdsPlan_43 rfl rfl ?_
          refine rg_get C fX6_54 0 rfl rfl dX6_holdsPlan_44 ?_
          refine rg_iload_n C 1 dX6_holdsPlan_47 rfl rfl ?_
          refine rg_iald C 15 rfl (by decide) (by omega) (by omega) dX6_holdsPlan_48 ?_
          refine rg_if_lt (tgt := 56) C ⟨by omega, by omega⟩ dX6_holdsPlan_49 (by decide) (fun h_49 => ?_) (fun h_49 => ?_)
          · refine rg_iload_n C 2 dX6_holdsPlan_56 rfl rfl ?_
            exact rg_zret C hA hQ hr hlk () rfl (by first | rfl | decide | exact (bZ_nar _) | (rw [h3]; exact bZ_nar _)) (by unfold hldM; rw [e9]; first | (rw [decide_eq_true (show sto i.toNat < 0 by omega), Bool.true_or, Bool.and_true]; done) | (rw [bZ_F h_53]; rfl)) dX6_holdsPlan_57
          · refine rg_iload_n C 2 dX6_holdsPlan_52 rfl rfl ?_
            refine rg_if_ne (tgt := 58) C (bZ_in _) dX6_holdsPlan_53 (by decide) (fun h_53 => ?_) (fun h_53 => ?_)
            · refine rg_lconst (z := 0) C dX6_holdsPlan_58 (by decide) ?_
              refine rg_lstore_n (lv' := [(3, .long (lI 0)), (0, .ref x0), (1, .int (iI i)), (2, .int (iI (bZ gd)))]) C dX6_holdsPlan_59 rfl (by decide) rfl ?_
              refine rg_iconst C dX6_holdsPlan_60 ?_
              refine rg_istore (lv' := [(5, .int (iI 0)), (3, .long (lI 0)), (0, .ref x0), (1, .int (iI i)), (2, .int (iI (bZ gd)))]) C dX6_holdsPlan_61 (by decide) rfl ?_
              refine rG.plv [2, 3, 1, 0] rfl ?_
              exact L63 _ 0 0 (e9.trans (bZ_T h_53)) h_49 (by omega) rfl (Nat.lt_succ_self _)
            · refine rg_iload_n C 2 dX6_holdsPlan_56 rfl rfl ?_
              exact rg_zret C hA hQ hr hlk () rfl (by first | rfl | decide | exact (bZ_nar _) | (rw [h3]; exact bZ_nar _)) (by unfold hldM; rw [e9]; first | (rw [decide_eq_true (show sto i.toNat < 0 by omega), Bool.true_or, Bool.and_true]; done) | (rw [bZ_F h_53]; rfl)) dX6_holdsPlan_57
        · have hb9 := hdn a.toNat (by omega)
          obtain ⟨k2, rfl, hk2, hp2⟩ := pEnd_pos hk (by omega)
          refine rg_aload_n C 0 dX6_holdsPlan_17 rfl rfl ?_
          refine rg_iload_n C 3 dX6_holdsPlan_18 rfl rfl ?_
          refine rg_callV (As := [.int (iI a)]) (rest := []) (wr := []) (w' := fun _ => [cO x0 6 [.int (iI thr), .ref x1, .ref x2, .ref x3, .ref x4, .ref x5, .ref x6, .ref x7, .ref x8, .ref x9, .ref x10, .ref x11, .ref x12, .ref x13, .ref x14, .ref x15, .ref x16, .int (iI dy), .ref x18, .ref x19, .ref x20, .ref x21, .int (iI rgs)], cZ E x1 32 isR, cI E x2 32 dn, cI E x3 32 inf, cZ E x4 8 isS, cI E x5 8 sR, cI E x6 8 cap, cI E x7 8 hol, cJ E x8 256 rls, cZ E x9 40 isG, cI E x10 40 plc, cI E x11 40 pri, cI E x12 40 rte, cI E x13 40 shr, cI E x14 40 bck, cI E x15 40 sto, cI E x16 40 wnt, cJ E x18 300 bks, cI E x19 40 amt, cI E x20 40 fst, cI E x21 40 ord]) C (kX6_natural l E x0 x1 x2 x3 x4 x5 x6 x7 x8 x9 x10 x11 x12 x13 x14 x15 x16 x18 x19 x20 x21 isR dn inf isS sR cap hol rls isG plc pri rte shr bck sto wnt bks amt fst ord thr dy rgs a (by first | omega | assumption) hpe (by first | omega | assumption) (by first | omega | assumption) (by first | omega | assumption) hrg hsto ham (by omega)) (rcwV C mX6_natural w_770 ⟨Nat.le_of_ble_eq_true rfl, Nat.le_of_ble_eq_true rfl⟩) [0, 1, 2, 3, 4, 5, 6, 7, 8, 9, 10, 11, 12, 13, 14, 15, 16, 17, 18, 19, 20] [] [0, 1, 2, 3, 4, 5, 6, 7, 8, 9, 10, 11, 12, 13, 14, 15, 16, 17, 18, 19, 20] rfl rfl (by decide) (by decide) (by decide) (fun _ => rfl) (by decide) 0 rfl rfl rfl rfl (Nat.le_of_ble_eq_true rfl) dX6_holdsPlan_19 ⟨Nat.le_of_ble_eq_true rfl, Nat.le_of_ble_eq_true rfl⟩ (fun _ => ?_)
          show rG p l e rX6_holdsPlan s m args below meth c E A 6 0 0 Q [cO x0 6 [.int (iI thr), .ref x1, .ref x2, .ref x3, .ref x4, .ref x5, .ref x6, .ref x7, .ref x8, .ref x9, .ref x10, .ref x11, .ref x12, .ref x13, .ref x14, .ref x15, .ref x16, .int (iI dy), .ref x18, .ref x19, .ref x20, .ref x21, .int (iI rgs)], cZ E x1 32 isR, cI E x2 32 dn, cI E x3 32 inf, cZ E x4 8 isS, cI E x5 8 sR, cI E x6 8 cap, cI E x7 8 hol, cJ E x8 256 rls, cZ E x9 40 isG, cI E x10 40 plc, cI E x11 40 pri, cI E x12 40 rte, cI E x13 40 shr, cI E x14 40 bck, cI E x15 40 sto, cI E x16 40 wnt, cJ E x18 300 bks, cI E x19 40 amt, cI E x20 40 fst, cI E x21 40 ord] 22 [(0, .ref x0), (1, .int (iI i)), (2, .int (iI (bZ gd))), (3, .int (iI a))] [.long (lI (natM isR dn inf isG plc bck sto shr amt a))]
          have hn9 := natM_in (isR := isR) (dn := dn) (plc := plc) (bck := bck) (r := a) hinf ham hss
          refine rg_lconst (z := 0) C dX6_holdsPlan_22 (by decide) ?_
          refine rg_lcmp_lt (tgt := 31) C ⟨by omega, by omega⟩ ⟨by decide, by decide⟩ dX6_holdsPlan_23 dX6_holdsPlan_24 (by decide) (fun h_23 => ?_) (fun h_23 => ?_)
          · refine rg_iconst C dX6_holdsPlan_31 ?_
            refine rg_istore_n (lv' := [(2, .int (iI 0)), (0, .ref x0), (1, .int (iI i)), (3, .int (iI a))]) C dX6_holdsPlan_32 rfl (by decide) rfl ?_
            refine rg_aload_n C 1 dX6_holdsPlan_33 rfl rfl ?_
            refine rg_get C fX6_13 0 rfl rfl dX6_holdsPlan_34 ?_
            refine rg_iload_n C 3 dX6_holdsPlan_37 rfl rfl ?_
            refine rg_iald C 2 rfl (by decide) (by omega) (by omega) dX6_holdsPlan_38 ?_
            refine rg_istore_n (lv' := [(3, .int (iI (dn a.toNat))), (2, .int (iI 0)), (0, .ref x0), (1, .int (iI i))]) C dX6_holdsPlan_39 rfl (by decide) rfl ?_
            refine rg_goto (tgt := 9) C dX6_holdsPlan_40 (by decide) ?_
            refine rG.plv [2, 3, 1, 0] rfl ?_
            exact ih k2 (dn a.toNat) false hb9 hk2 (by rw [h3, bZ_T h_14, hpB_f (by omega) h_23]; rfl) (by omega)
          · refine rg_iconst C dX6_holdsPlan_27 ?_
            refine rg_goto (tgt := 32) C dX6_holdsPlan_28 (by decide) ?_
            refine rg_istore_n (lv' := [(2, .int (iI 1)), (0, .ref x0), (1, .int (iI i)), (3, .int (iI a))]) C dX6_holdsPlan_32 rfl (by decide) rfl ?_
            refine rg_aload_n C 1 dX6_holdsPlan_33 rfl rfl ?_
            refine rg_get C fX6_13 0 rfl rfl dX6_holdsPlan_34 ?_
            refine rg_iload_n C 3 dX6_holdsPlan_37 rfl rfl ?_
            refine rg_iald C 2 rfl (by decide) (by omega) (by omega) dX6_holdsPlan_38 ?_
            refine rg_istore_n (lv' := [(3, .int (iI (dn a.toNat))), (2, .int (iI 1)), (0, .ref x0), (1, .int (iI i))]) C dX6_holdsPlan_39 rfl (by decide) rfl ?_
            refine rg_goto (tgt := 9) C dX6_holdsPlan_40 (by decide) ?_
            refine rG.plv [2, 3, 1, 0] rfl ?_
            exact ih k2 (dn a.toNat) true hb9 hk2 (by rw [h3, bZ_T h_14, hpB_t (by omega) h_23]) (by omega)
  show rG p l e rX6_holdsPlan s m args below meth c E A 6 0 0 Q [cO x0 6 [.int (iI thr), .ref x1, .ref x2, .ref x3, .ref x4, .ref x5, .ref x6, .ref x7, .ref x8, .ref x9, .ref x10, .ref x11, .ref x12, .ref x13, .ref x14, .ref x15, .ref x16, .int (iI dy), .ref x18, .ref x19, .ref x20, .ref x21, .int (iI rgs)], cZ E x1 32 isR, cI E x2 32 dn, cI E x3 32 inf, cZ E x4 8 isS, cI E x5 8 sR, cI E x6 8 cap, cI E x7 8 hol, cJ E x8 256 rls, cZ E x9 40 isG, cI E x10 40 plc, cI E x11 40 pri, cI E x12 40 rte, cI E x13 40 shr, cI E x14 40 bck, cI E x15 40 sto, cI E x16 40 wnt, cJ E x18 300 bks, cI E x19 40 amt, cI E x20 40 fst, cI E x21 40 ord] 0 [(0, .ref x0), (1, .int (iI i))] []
  refine rg_iconst C dX6_holdsPlan_0 ?_
  refine rg_istore_n (lv' := [(2, .int (iI 1)), (0, .ref x0), (1, .int (iI i))]) C dX6_holdsPlan_1 rfl (by decide) rfl ?_
  refine rg_aload_n C 1 dX6_holdsPlan_2 rfl rfl ?_
  refine rg_get C fX6_39 0 rfl rfl dX6_holdsPlan_3 ?_
  refine rg_iload_n C 2 dX6_holdsPlan_6 rfl rfl ?_
  refine rg_iald C 10 rfl (by decide) (by omega) (by omega) dX6_holdsPlan_7 ?_
  refine rg_istore_n (lv' := [(3, .int (iI (plc i.toNat))), (2, .int (iI 1)), (0, .ref x0), (1, .int (iI i))]) C dX6_holdsPlan_8 rfl (by decide) rfl ?_
  refine rG.plv [2, 3, 1, 0] rfl ?_
  exact L9 _ 32 (plc i.toNat) true (by omega) e3 ((Bool.true_and _).symm) (Nat.lt_succ_self _)
theorem bestP_keep {isG pri : Nat → Int} {la k b : Int} (hk : 0 ≤ k) (h : bestP isG pri la k b) (q : isG k.toNat = 0 ∨ pri k.toNat ≤ la ∨ (0 ≤ b ∧ pri b.toNat ≤ pri k.toNat)) : bestP isG pri la (k + 1) b := by
  rcases h with ⟨e, hn⟩ | ⟨b0, b1, b2, b3, b4⟩
  · refine Or.inl ⟨e, fun j hj hg => ?_⟩
    by_cases z : (j : Int) < k
    · exact hn j z hg
    · have ej : j = k.toNat := by omega
      rw [ej] at hg ⊢
      omega
  · refine Or.inr ⟨b0, by omega, b2, b3, fun j hj hg hl => ?_⟩
    by_cases z : (j : Int) < k
    · exact b4 j z hg hl
    · have ej : j = k.toNat := by omega
      rw [ej] at hg hl ⊢
      omega
theorem bestP_new {isG pri : Nat → Int} {la k b : Int} (hk : 0 ≤ k) (h : bestP isG pri la k b) (q : isG k.toNat ≠ 0) (q2 : la < pri k.toNat) (q3 : b < 0 ∨ pri k.toNat < pri b.toNat) : bestP isG pri la (k + 1) k := by
  refine Or.inr ⟨hk, by omega, q, q2, fun j hj hg hl => ?_⟩
  by_cases z : (j : Int) < k
  · rcases h with ⟨e, hn⟩ | ⟨b0, b1, b2, b3, b4⟩
    · have := hn j z hg
      omega
    · have := b4 j z hg hl
      omega
  · have ej : j = k.toNat := by omega
    rw [ej]; exact Int.le_refl _
theorem lastP_in {isG pri ag : Nat → Int} {cn c : Int} (ho : isOrd isG pri ag cn) (hp : ∀ i : Nat, i < 40 → inI (pri i)) (hc : 0 ≤ c) (hc2 : c ≤ cn) : inI (lastP pri ag c) := by
  unfold lastP
  split
  · exact inI_0
  · have := ho.2.1 (c - 1).toNat (by omega)
    exact hp _ (by omega)
theorem lastP_s (pri ag : Nat → Int) {c : Int} (hc : 0 ≤ c) : pri (ag c.toNat).toNat = lastP pri ag (c + 1) := by
  unfold lastP
  rw [if_neg (by omega), show c + 1 - 1 = c by omega]
abbrev rX6_age : Room := { frames := 0, cells := 0, slots := 0, locals := 0 }
set_option maxHeartbeats 4000000 in
set_option maxRecDepth 100000 in
/-- age -/
theorem kX6_age (l : Launch) (E : rE) (x0 : Nat) (x1 : Nat) (x2 : Nat) (x3 : Nat) (x4 : Nat) (x5 : Nat) (x6 : Nat) (x7 : Nat) (x8 : Nat) (x9 : Nat) (x10 : Nat) (x11 : Nat) (x12 : Nat) (x13 : Nat) (x14 : Nat) (x15 : Nat) (x16 : Nat) (x18 : Nat) (x19 : Nat) (x20 : Nat) (x21 : Nat) (isR : Nat → Int) (dn : Nat → Int) (inf : Nat → Int) (isS : Nat → Int) (sR : Nat → Int) (cap : Nat → Int) (hol : Nat → Int) (rls : Nat → Int) (isG : Nat → Int) (plc : Nat → Int) (pri : Nat → Int) (rte : Nat → Int) (shr : Nat → Int) (bck : Nat → Int) (sto : Nat → Int) (wnt : Nat → Int) (bks : Nat → Int) (amt : Nat → Int) (fst : Nat → Int) (ord : Nat → Int) (thr : Int) (dy : Int) (rgs : Int) (ag : Nat → Int) (cn : Int) (hig : ∀ r : Nat, r < 40 → isG r = 0 ∨ isG r = 1) (hord : isOrd isG pri ag cn) (hp1 : ∀ i : Nat, i < 40 → isG i ≠ 0 → 1 ≤ pri i) (hpri : ∀ i : Nat, i < 40 → inI (pri i)) : rM l yX6_age sX6_age rX6_age E [cO x0 6 [.int (iI thr), .ref x1, .ref x2, .ref x3, .ref x4, .ref x5, .ref x6, .ref x7, .ref x8, .ref x9, .ref x10, .ref x11, .ref x12, .ref x13, .ref x14, .ref x15, .ref x16, .int (iI dy), .ref x18, .ref x19, .ref x20, .ref x21, .int (iI rgs)], cZ E x1 32 isR, cI E x2 32 dn, cI E x3 32 inf, cZ E x4 8 isS, cI E x5 8 sR, cI E x6 8 cap, cI E x7 8 hol, cJ E x8 256 rls, cZ E x9 40 isG, cI E x10 40 plc, cI E x11 40 pri, cI E x12 40 rte, cI E x13 40 shr, cI E x14 40 bck, cI E x15 40 sto, cI E x16 40 wnt, cJ E x18 300 bks, cI E x19 40 amt, cI E x20 40 fst, cI E x21 40 ord] [.ref x0] none (fun _ : Unit => [cO x0 6 [.int (iI thr), .ref x1, .ref x2, .ref x3, .ref x4, .ref x5, .ref x6, .ref x7, .ref x8, .ref x9, .ref x10, .ref x11, .ref x12, .ref x13, .ref x14, .ref x15, .ref x16, .int (iI dy), .ref x18, .ref x19, .ref x20, .ref x21, .int (iI cn)], cZ E x1 32 isR, cI E x2 32 dn, cI E x3 32 inf, cZ E x4 8 isS, cI E x5 8 sR, cI E x6 8 cap, cI E x7 8 hol, cJ E x8 256 rls, cZ E x9 40 isG, cI E x10 40 plc, cI E x11 40 pri, cI E x12 40 rte, cI E x13 40 shr, cI E x14 40 bck, cI E x15 40 sto, cI E x16 40 wnt, cJ E x18 300 bks, cI E x19 40 amt, cI E x20 40 fst, cI E x21 40 (cpZ ag ord cn.toNat)]) := by
  refine rM.of (cc := cX6_age) (maxL := 5) (ret := none) (by decide) rfl (Nat.le_of_ble_eq_true rfl) (fun w h => List.mem_cons_of_mem _ h) ?_
  intro p e s m args below meth c A Q hA hQ C hr hlk hnm
  have C : rC p s m args c E A 5 cX6_age sX6_age RX6 := C
  obtain ⟨ho1, ho2, ho3, ho4⟩ := id hord
  have L18 : ∀ (n : Nat) (c0 : Int) (k : Int) (b : Int), (0 ≤ c0 ∧ c0 ≤ cn) → (0 ≤ k ∧ k ≤ 40) → (bestP isG pri (lastP pri ag c0) k b) → (∀ (b : Int), (bestP isG pri (lastP pri ag c0) 40 b) → rG p l e rX6_age s m args below meth c E A 5 0 0 Q [cO x0 6 [.int (iI thr), .ref x1, .ref x2, .ref x3, .ref x4, .ref x5, .ref x6, .ref x7, .ref x8, .ref x9, .ref x10, .ref x11, .ref x12, .ref x13, .ref x14, .ref x15, .ref x16, .int (iI dy), .ref x18, .ref x19, .ref x20, .ref x21, .int (iI c0)], cZ E x1 32 isR, cI E x2 32 dn, cI E x3 32 inf, cZ E x4 8 isS, cI E x5 8 sR, cI E x6 8 cap, cI E x7 8 hol, cJ E x8 256 rls, cZ E x9 40 isG, cI E x10 40 plc, cI E x11 40 pri, cI E x12 40 rte, cI E x13 40 shr, cI E x14 40 bck, cI E x15 40 sto, cI E x16 40 wnt, cJ E x18 300 bks, cI E x19 40 amt, cI E x20 40 fst, cI E x21 40 (cpZ ag ord c0.toNat)] 75 [(0, .ref x0), (1, .int (iI (lastP pri ag c0))), (3, .int (iI b))] []) → ((40 - k).toNat < n) → rG p l e rX6_age s m args below meth c E A 5 0 0 Q [cO x0 6 [.int (iI thr), .ref x1, .ref x2, .ref x3, .ref x4, .ref x5, .ref x6, .ref x7, .ref x8, .ref x9, .ref x10, .ref x11, .ref x12, .ref x13, .ref x14, .ref x15, .ref x16, .int (iI dy), .ref x18, .ref x19, .ref x20, .ref x21, .int (iI c0)], cZ E x1 32 isR, cI E x2 32 dn, cI E x3 32 inf, cZ E x4 8 isS, cI E x5 8 sR, cI E x6 8 cap, cI E x7 8 hol, cJ E x8 256 rls, cZ E x9 40 isG, cI E x10 40 plc, cI E x11 40 pri, cI E x12 40 rte, cI E x13 40 shr, cI E x14 40 bck, cI E x15 40 sto, cI E x16 40 wnt, cJ E x18 300 bks, cI E x19 40 amt, cI E x20 40 fst, cI E x21 40 (cpZ ag ord c0.toNat)] 18 [(0, .ref x0), (1, .int (iI (lastP pri ag c0))), (3, .int (iI b)), (4, .int (iI k))] [] := by
    intro n
    induction n with
    | zero => intro c0 k b h1 h5 h6 kK hm; exact absurd hm (Nat.not_lt_zero _)
    | succ n ih =>
      intro c0 k b h1 h5 h6 kK hm
      refine rg_iload C 3 dX6_age_18 rfl ?_
      refine rg_bipush (z := 40) C dX6_age_20 (by decide) ?_
      refine rg_icmp_ge (tgt := 75) C ⟨by omega, by omega⟩ ⟨by decide, by decide⟩ dX6_age_22 (by decide) (fun h_22 => ?_) (fun h_22 => ?_)
      · refine rG.plv [0, 1, 2] rfl ?_
        exact kK b (by rw [show (40 : Int) = k by omega]; exact h6)
      · have hb7 : -1 ≤ b ∧ b < 40 := by
          rcases h6 with q | q
          · omega
          · exact ⟨by omega, by omega⟩
        have hg9 := hig k.toNat (by omega)
        have hp9 := hpri k.toNat (by omega)
        have hl9 := lastP_in hord hpri h1.1 h1.2
        refine rg_aload_n C 0 dX6_age_25 rfl rfl ?_
        refine rg_get C fX6_36 0 rfl rfl dX6_age_26 ?_
        refine rg_iload C 3 dX6_age_29 rfl ?_
        refine rg_zald C 9 rfl (by decide) (by omega) (by omega) dX6_age_31 ?_
        refine rg_if_eq (tgt := 69) C ⟨by omega, by omega⟩ dX6_age_32 (by decide) (fun h_32 => ?_) (fun h_32 => ?_)
        · refine rg_iinc (k := 3) (lv' := [(4, .int (iI (k + 1))), (0, .ref x0), (1, .int (iI (lastP pri ag c0))), (3, .int (iI b))]) C dX6_age_69 rfl (by decide) rfl ?_
          refine rg_goto (tgt := 18) C dX6_age_72 (by decide) ?_
          refine rG.plv [1, 2, 3, 0] rfl ?_
          exact ih c0 (k + 1) b h1 (by omega) (bestP_keep h5.1 h6 (by omega)) kK (by omega)
        · refine rg_aload_n C 0 dX6_age_35 rfl rfl ?_
          refine rg_get C fX6_42 0 rfl rfl dX6_age_36 ?_
          refine rg_iload C 3 dX6_age_39 rfl ?_
          refine rg_iald C 11 rfl (by decide) (by omega) (by omega) dX6_age_41 ?_
          refine rg_iload_n C 1 dX6_age_42 rfl rfl ?_
          refine rg_icmp_le (tgt := 69) C ⟨by omega, by omega⟩ ⟨by omega, by omega⟩ dX6_age_43 (by decide) (fun h_43 => ?_) (fun h_43 => ?_)
          · refine rg_iinc (k := 3) (lv' := [(4, .int (iI (k + 1))), (0, .ref x0), (1, .int (iI (lastP pri ag c0))), (3, .int (iI b))]) C dX6_age_69 rfl (by decide) rfl ?_
            refine rg_goto (tgt := 18) C dX6_age_72 (by decide) ?_
            refine rG.plv [1, 2, 3, 0] rfl ?_
            exact ih c0 (k + 1) b h1 (by omega) (bestP_keep h5.1 h6 (by omega)) kK (by omega)
          · refine rg_iload_n C 2 dX6_age_46 rfl rfl ?_
            refine rg_if_lt (tgt := 66) C ⟨by omega, by omega⟩ dX6_age_47 (by decide) (fun h_47 => ?_) (fun h_47 => ?_)
            · refine rg_iload C 3 dX6_age_66 rfl ?_
              refine rg_istore_n (lv' := [(3, .int (iI k)), (0, .ref x0), (1, .int (iI (lastP pri ag c0))), (4, .int (iI k))]) C dX6_age_68 rfl (by decide) rfl ?_
              refine rg_iinc (k := 3) (lv' := [(4, .int (iI (k + 1))), (3, .int (iI k)), (0, .ref x0), (1, .int (iI (lastP pri ag c0)))]) C dX6_age_69 rfl (by decide) rfl ?_
              refine rg_goto (tgt := 18) C dX6_age_72 (by decide) ?_
              refine rG.plv [2, 3, 1, 0] rfl ?_
              exact ih c0 (k + 1) k h1 (by omega) (bestP_new h5.1 h6 h_32 (by omega) (by omega)) kK (by omega)
            · have hb8 : b < k := by
                rcases h6 with q | q
                · omega
                · exact q.2.1
              have hp8 := hpri b.toNat (by omega)
              refine rg_aload_n C 0 dX6_age_50 rfl rfl ?_
              refine rg_get C fX6_42 0 rfl rfl dX6_age_51 ?_
              refine rg_iload C 3 dX6_age_54 rfl ?_
              refine rg_iald C 11 rfl (by decide) (by omega) (by omega) dX6_age_56 ?_
              refine rg_aload_n C 0 dX6_age_57 rfl rfl ?_
              refine rg_get C fX6_42 0 rfl rfl dX6_age_58 ?_
              refine rg_iload_n C 2 dX6_age_61 rfl rfl ?_
              refine rg_iald C 11 rfl (by decide) (by omega) (by omega) dX6_age_62 ?_
              refine rg_icmp_ge (tgt := 69) C ⟨by omega, by omega⟩ ⟨by omega, by omega⟩ dX6_age_63 (by decide) (fun h_63 => ?_) (fun h_63 => ?_)
              · refine rg_iinc (k := 3) (lv' := [(4, .int (iI (k + 1))), (0, .ref x0), (1, .int (iI (lastP pri ag c0))), (3, .int (iI b))]) C dX6_age_69 rfl (by decide) rfl ?_
                refine rg_goto (tgt := 18) C dX6_age_72 (by decide) ?_
                refine rG.plv [1, 2, 3, 0] rfl ?_
                exact ih c0 (k + 1) b h1 (by omega) (bestP_keep h5.1 h6 (by omega)) kK (by omega)
              · refine rg_iload C 3 dX6_age_66 rfl ?_
                refine rg_istore_n (lv' := [(3, .int (iI k)), (0, .ref x0), (1, .int (iI (lastP pri ag c0))), (4, .int (iI k))]) C dX6_age_68 rfl (by decide) rfl ?_
                refine rg_iinc (k := 3) (lv' := [(4, .int (iI (k + 1))), (3, .int (iI k)), (0, .ref x0), (1, .int (iI (lastP pri ag c0)))]) C dX6_age_69 rfl (by decide) rfl ?_
                refine rg_goto (tgt := 18) C dX6_age_72 (by decide) ?_
                refine rG.plv [2, 3, 1, 0] rfl ?_
                exact ih c0 (k + 1) k h1 (by omega) (bestP_new h5.1 h6 h_32 (by omega) (by omega)) kK (by omega)
  have L9 : ∀ (n : Nat) (c0 : Int) (mo : Int), (0 ≤ c0 ∧ c0 ≤ cn) → (mo = 1 ∨ (mo = 0 ∧ c0 = cn)) → ((2 * (cn - c0) + mo).toNat < n) → rG p l e rX6_age s m args below meth c E A 5 0 0 Q [cO x0 6 [.int (iI thr), .ref x1, .ref x2, .ref x3, .ref x4, .ref x5, .ref x6, .ref x7, .ref x8, .ref x9, .ref x10, .ref x11, .ref x12, .ref x13, .ref x14, .ref x15, .ref x16, .int (iI dy), .ref x18, .ref x19, .ref x20, .ref x21, .int (iI c0)], cZ E x1 32 isR, cI E x2 32 dn, cI E x3 32 inf, cZ E x4 8 isS, cI E x5 8 sR, cI E x6 8 cap, cI E x7 8 hol, cJ E x8 256 rls, cZ E x9 40 isG, cI E x10 40 plc, cI E x11 40 pri, cI E x12 40 rte, cI E x13 40 shr, cI E x14 40 bck, cI E x15 40 sto, cI E x16 40 wnt, cJ E x18 300 bks, cI E x19 40 amt, cI E x20 40 fst, cI E x21 40 (cpZ ag ord c0.toNat)] 9 [(0, .ref x0), (1, .int (iI (lastP pri ag c0))), (2, .int (iI mo))] [] := by
    intro n
    induction n with
    | zero => intro c0 mo h1 h4 hm; exact absurd hm (Nat.not_lt_zero _)
    | succ n ih =>
      intro c0 mo h1 h4 hm
      refine rg_iload_n C 2 dX6_age_9 rfl rfl ?_
      refine rg_if_eq (tgt := 119) C ⟨by omega, by omega⟩ dX6_age_10 (by decide) (fun h_10 => ?_) (fun h_10 => ?_)
      · exact rg_vret C hA hQ hr hlk () (by rw [show c0 = cn by omega]) rfl dX6_age_119
      · refine rg_iconst C dX6_age_13 ?_
        refine rg_istore_n (lv' := [(3, .int (iI (-1))), (0, .ref x0), (1, .int (iI (lastP pri ag c0))), (2, .int (iI mo))]) C dX6_age_14 rfl (by decide) rfl ?_
        refine rg_iconst C dX6_age_15 ?_
        refine rg_istore (lv' := [(4, .int (iI 0)), (3, .int (iI (-1))), (0, .ref x0), (1, .int (iI (lastP pri ag c0))), (2, .int (iI mo))]) C dX6_age_16 (by decide) rfl ?_
        refine rG.plv [2, 3, 1, 0] rfl ?_
        refine L18 _ c0 0 (-1) h1 (by omega) (Or.inl ⟨rfl, fun j hj => absurd hj (by omega)⟩) (fun b hb9 => ?_) (Nat.lt_succ_self _)
        have hB9 := bestP_end hord hp1 h1.1 h1.2 hb9
        have hb7 : -1 ≤ b ∧ b < 40 := by
          rcases hb9 with q | q
          · omega
          · exact ⟨by omega, q.2.1⟩
        refine rg_iload_n C 2 dX6_age_75 rfl rfl ?_
        refine rg_if_lt (tgt := 83) C ⟨by omega, by omega⟩ dX6_age_76 (by decide) (fun h_76 => ?_) (fun h_76 => ?_)
        · refine rg_iconst C dX6_age_83 ?_
          refine rg_istore_n (lv' := [(2, .int (iI 0)), (0, .ref x0), (1, .int (iI (lastP pri ag c0))), (3, .int (iI b))]) C dX6_age_84 rfl (by decide) rfl ?_
          refine rg_iload_n C 0 dX6_age_85 rfl rfl ?_
          refine rg_if_eq (tgt := 116) C ⟨by decide, by decide⟩ dX6_age_86 (by decide) (fun h_86 => ?_) (fun h_86 => absurd h_86 (by omega))
          refine rg_goto (tgt := 9) C dX6_age_116 (by decide) ?_
          refine rG.plv [1, 2, 0] rfl ?_
          exact ih c0 0 (by omega) (Or.inr ⟨rfl, hB9.1 h_76⟩) (by omega)
        · refine rg_iconst C dX6_age_79 ?_
          refine rg_goto (tgt := 84) C dX6_age_80 (by decide) ?_
          refine rg_istore_n (lv' := [(2, .int (iI 1)), (0, .ref x0), (1, .int (iI (lastP pri ag c0))), (3, .int (iI b))]) C dX6_age_84 rfl (by decide) rfl ?_
          refine rg_iload_n C 0 dX6_age_85 rfl rfl ?_
          refine rg_if_eq (tgt := 116) C ⟨by decide, by decide⟩ dX6_age_86 (by decide) (fun h_86 => absurd h_86 (by omega)) (fun h_86 => ?_)
          obtain ⟨hlt9, hag9⟩ := hB9.2 (by omega)
          subst hag9
          refine rg_aload_n C 1 dX6_age_89 rfl rfl ?_
          refine rg_get C fX6_69 0 rfl rfl dX6_age_90 ?_
          refine rg_aload_n C 1 dX6_age_93 rfl rfl ?_
          refine rg_get C fX6_109 0 rfl rfl dX6_age_94 ?_
          refine rg_iload_n C 3 dX6_age_97 rfl rfl ?_
          refine rg_iast (ws' := [cO x0 6 [.int (iI thr), .ref x1, .ref x2, .ref x3, .ref x4, .ref x5, .ref x6, .ref x7, .ref x8, .ref x9, .ref x10, .ref x11, .ref x12, .ref x13, .ref x14, .ref x15, .ref x16, .int (iI dy), .ref x18, .ref x19, .ref x20, .ref x21, .int (iI c0)], cZ E x1 32 isR, cI E x2 32 dn, cI E x3 32 inf, cZ E x4 8 isS, cI E x5 8 sR, cI E x6 8 cap, cI E x7 8 hol, cJ E x8 256 rls, cZ E x9 40 isG, cI E x10 40 plc, cI E x11 40 pri, cI E x12 40 rte, cI E x13 40 shr, cI E x14 40 bck, cI E x15 40 sto, cI E x16 40 wnt, cJ E x18 300 bks, cI E x19 40 amt, cI E x20 40 fst, cI E x21 40 (uZ (cpZ ag ord c0.toNat) c0.toNat (ag c0.toNat))]) C 20 rfl (by decide) (by omega) (by omega) dX6_age_98 rfl ?_
          refine rg_aload_n C 1 dX6_age_99 rfl rfl ?_
          refine rg_dup C dX6_age_100 rfl ?_
          refine rg_get C fX6_109 0 rfl rfl dX6_age_101 ?_
          refine rg_iconst C dX6_age_104 ?_
          refine rg_iadd C dX6_age_105 ?_
          refine rg_put (ws' := [cO x0 6 [.int (iI thr), .ref x1, .ref x2, .ref x3, .ref x4, .ref x5, .ref x6, .ref x7, .ref x8, .ref x9, .ref x10, .ref x11, .ref x12, .ref x13, .ref x14, .ref x15, .ref x16, .int (iI dy), .ref x18, .ref x19, .ref x20, .ref x21, .int (iI (c0 + 1))], cZ E x1 32 isR, cI E x2 32 dn, cI E x3 32 inf, cZ E x4 8 isS, cI E x5 8 sR, cI E x6 8 cap, cI E x7 8 hol, cJ E x8 256 rls, cZ E x9 40 isG, cI E x10 40 plc, cI E x11 40 pri, cI E x12 40 rte, cI E x13 40 shr, cI E x14 40 bck, cI E x15 40 sto, cI E x16 40 wnt, cJ E x18 300 bks, cI E x19 40 amt, cI E x20 40 fst, cI E x21 40 (uZ (cpZ ag ord c0.toNat) c0.toNat (ag c0.toNat))]) C fX6_109 layX6 rfl 0 rfl rfl rfl (Nat.le_of_ble_eq_true rfl) dX6_age_106 rfl ?_
          refine rg_aload_n C 1 dX6_age_109 rfl rfl ?_
          refine rg_get C fX6_42 0 rfl rfl dX6_age_110 ?_
          refine rg_iload_n C 3 dX6_age_113 rfl rfl ?_
          refine rg_iald C 11 rfl (by decide) (by omega) (by omega) dX6_age_114 ?_
          refine rg_istore_n (lv' := [(1, .int (iI (pri (ag c0.toNat).toNat))), (2, .int (iI 1)), (0, .ref x0), (3, .int (iI (ag c0.toNat)))]) C dX6_age_115 rfl (by decide) rfl ?_
          rw [cpZ_s ag ord h1.1, lastP_s pri ag h1.1]
          refine rg_goto (tgt := 9) C dX6_age_116 (by decide) ?_
          refine rG.plv [2, 0, 1] rfl ?_
          exact ih (c0 + 1) 1 (by omega) (Or.inl rfl) (by omega)
  show rG p l e rX6_age s m args below meth c E A 5 0 0 Q [cO x0 6 [.int (iI thr), .ref x1, .ref x2, .ref x3, .ref x4, .ref x5, .ref x6, .ref x7, .ref x8, .ref x9, .ref x10, .ref x11, .ref x12, .ref x13, .ref x14, .ref x15, .ref x16, .int (iI dy), .ref x18, .ref x19, .ref x20, .ref x21, .int (iI rgs)], cZ E x1 32 isR, cI E x2 32 dn, cI E x3 32 inf, cZ E x4 8 isS, cI E x5 8 sR, cI E x6 8 cap, cI E x7 8 hol, cJ E x8 256 rls, cZ E x9 40 isG, cI E x10 40 plc, cI E x11 40 pri, cI E x12 40 rte, cI E x13 40 shr, cI E x14 40 bck, cI E x15 40 sto, cI E x16 40 wnt, cJ E x18 300 bks, cI E x19 40 amt, cI E x20 40 fst, cI E x21 40 ord] 0 [(0, .ref x0)] []
  refine rg_aload_n C 0 dX6_age_0 rfl rfl ?_
  refine rg_iconst C dX6_age_1 ?_
  refine rg_put (ws' := [cO x0 6 [.int (iI thr), .ref x1, .ref x2, .ref x3, .ref x4, .ref x5, .ref x6, .ref x7, .ref x8, .ref x9, .ref x10, .ref x11, .ref x12, .ref x13, .ref x14, .ref x15, .ref x16, .int (iI dy), .ref x18, .ref x19, .ref x20, .ref x21, .int (iI 0)], cZ E x1 32 isR, cI E x2 32 dn, cI E x3 32 inf, cZ E x4 8 isS, cI E x5 8 sR, cI E x6 8 cap, cI E x7 8 hol, cJ E x8 256 rls, cZ E x9 40 isG, cI E x10 40 plc, cI E x11 40 pri, cI E x12 40 rte, cI E x13 40 shr, cI E x14 40 bck, cI E x15 40 sto, cI E x16 40 wnt, cJ E x18 300 bks, cI E x19 40 amt, cI E x20 40 fst, cI E x21 40 ord]) C fX6_109 layX6 rfl 0 rfl rfl rfl (Nat.le_of_ble_eq_true rfl) dX6_age_2 rfl ?_
  refine rg_iconst C dX6_age_5 ?_
  refine rg_istore_n (lv' := [(1, .int (iI 0)), (0, .ref x0)]) C dX6_age_6 rfl (by decide) rfl ?_
  refine rg_iconst C dX6_age_7 ?_
  refine rg_istore_n (lv' := [(2, .int (iI 1)), (1, .int (iI 0)), (0, .ref x0)]) C dX6_age_8 rfl (by decide) rfl ?_
  refine rG.plv [2, 1, 0] rfl ?_
  exact L9 _ 0 1 (by omega) (Or.inl rfl) (Nat.lt_succ_self _)
