theorem useS_no {st sh ag get : Nat → Int} {k : Int} (hk : 0 ≤ k) (h : bZ (decide (st (ag k.toNat).toNat ≠ -1)) = 0) : sumTo (useS st sh ag get) (k + 1).toNat = sumTo (useS st sh ag get) k.toNat + (get (ag k.toNat).toNat - get (ag k.toNat).toNat * sh (ag k.toNat).toNat / 1000) ∧ sumTo (stoS st ag get) (k + 1).toNat = sumTo (stoS st ag get) k.toNat := by
  have h1 := dec0.mp h
  rw [sumTo_s _ hk, sumTo_s _ hk]
  unfold useS stoS
  rw [if_neg h1, if_neg h1]
  exact ⟨rfl, by omega⟩
theorem useS_yes {st sh ag get : Nat → Int} {k : Int} (hk : 0 ≤ k) (h : ¬ bZ (decide (st (ag k.toNat).toNat ≠ -1)) = 0) : sumTo (useS st sh ag get) (k + 1).toNat = sumTo (useS st sh ag get) k.toNat ∧ sumTo (stoS st ag get) (k + 1).toNat = sumTo (stoS st ag get) k.toNat + get (ag k.toNat).toNat := by
  have h1 : st (ag k.toNat).toNat ≠ -1 := Decidable.byContradiction fun q => h (dec0.mpr q)
  rw [sumTo_s _ hk, sumTo_s _ hk]
  unfold useS stoS
  rw [if_pos h1, if_pos h1]
  exact ⟨by omega, rfl⟩
abbrev rX0_pageOf : Room := { frames := 1, cells := 0, slots := 0, locals := 22 }
set_option maxHeartbeats 4000000 in
set_option maxRecDepth 100000 in
/-- Books.pageOf -/
theorem kX0_pageOf (l : Launch) (E : rE) (d : Int) (hd0 : 0 ≤ d ∧ d ≤ 2147483647) : rM l yX0_pageOf sX0_pageOf rX0_pageOf E [] [.int (iI d)] (some (.int (iI (d % 60 * 5)))) (fun _ : Unit => []) := by
  refine rM.of (cc := cX0_pageOf) (maxL := 1) (ret := (some FieldType.int)) (by decide) rfl (Nat.le_of_ble_eq_true rfl) (fun w h => List.mem_cons_of_mem _ h) ?_
  intro p e s m args below meth c A Q hA hQ C hr hlk hnm
  have C : rC p s m args c E A 1 cX0_pageOf sX0_pageOf RX0 := C
  show rG p l e rX0_pageOf s m args below meth c E A 1 0 0 Q [] 0 [(0, .int (iI d))] []
  refine rg_iload_n C 0 dX0_pageOf_0 rfl rfl ?_
  refine rg_bipush (z := 60) C dX0_pageOf_1 (by decide) ?_
  refine rg_callS (As := [.int (iI d), .int (iI 60)]) (rest := []) (wr := []) (w' := fun _ => []) C (kJM_floorMod l E d 60 (by first | assumption | omega) (⟨by decide, by decide⟩)) (rcwS C mJM_floorMod w_287 ⟨Nat.le_of_ble_eq_true rfl, Nat.le_of_ble_eq_true rfl⟩) [] [] [] rfl rfl (by decide) (by decide) (by decide) (fun _ => rfl) (by decide) rfl rfl (Nat.le_of_ble_eq_true rfl) dX0_pageOf_3 ⟨Nat.le_of_ble_eq_true rfl, Nat.le_of_ble_eq_true rfl⟩ (fun _ => ?_)
  show rG p l e rX0_pageOf s m args below meth c E A 1 0 0 Q [] 6 [(0, .int (iI d))] [.int (iI (d % 60))]
  refine rg_iconst C dX0_pageOf_6 ?_
  refine rg_imul C dX0_pageOf_7 ?_
  exact rg_iret C hA hQ hr hlk () rfl rfl dX0_pageOf_8
abbrev rX0_read : Room := { frames := 2, cells := 0, slots := 0, locals := 42 }
set_option maxHeartbeats 4000000 in
set_option maxRecDepth 100000 in
/-- Books.read -/
theorem kX0_read (l : Launch) (E : rE) (b0 : Nat) (b1 : Nat) (ent : Nat → Int) (day : Int) (d : Int) (w : Int) (hday : 0 ≤ day ∧ day ≤ 1000000) (hd0 : inI d) (hw0 : inI w) : rM l yX0_read sX0_read rX0_read E [cO b0 0 [.ref b1, .int (iI day)], cJ E b1 300 ent] [.ref b0, .int (iI d), .int (iI w)] (some (.long (lI (if d < 0 ∨ day ≤ d ∨ d < day - 60 ∨ w < 0 ∨ 5 ≤ w then -1 else ent (d % 60 * 5 + w).toNat)))) (fun _ : Unit => [cO b0 0 [.ref b1, .int (iI day)], cJ E b1 300 ent]) := by
  refine rM.of (cc := cX0_read) (maxL := 3) (ret := (some FieldType.long)) (by decide) rfl (Nat.le_of_ble_eq_true rfl) (fun w h => List.mem_cons_of_mem _ h) ?_
  intro p e s m args below meth c A Q hA hQ C hr hlk hnm
  have C : rC p s m args c E A 3 cX0_read sX0_read RX0 := C
  show rG p l e rX0_read s m args below meth c E A 3 0 0 Q [cO b0 0 [.ref b1, .int (iI day)], cJ E b1 300 ent] 0 [(0, .ref b0), (1, .int (iI d)), (2, .int (iI w))] []
  refine rg_iload_n C 1 dX0_read_0 rfl rfl ?_
  refine rg_if_lt (tgt := 32) C ⟨by omega, by omega⟩ dX0_read_1 (by decide) (fun h_1 => ?_) (fun h_1 => ?_)
  · refine rg_ldc2 (v := (-1)) (z := (-1)) C (by decide +kernel) (by decide) dX0_read_32 ?_
    exact rg_lret C hA hQ hr hlk () rfl (by rw [if_pos (by omega)]) dX0_read_35
  · refine rg_iload_n C 1 dX0_read_4 rfl rfl ?_
    refine rg_aload_n C 0 dX0_read_5 rfl rfl ?_
    refine rg_get C fX0_44 0 rfl rfl dX0_read_6 ?_
    refine rg_icmp_ge (tgt := 32) C ⟨by omega, by omega⟩ ⟨by omega, by omega⟩ dX0_read_9 (by decide) (fun h_9 => ?_) (fun h_9 => ?_)
    · refine rg_ldc2 (v := (-1)) (z := (-1)) C (by decide +kernel) (by decide) dX0_read_32 ?_
      exact rg_lret C hA hQ hr hlk () rfl (by rw [if_pos (by omega)]) dX0_read_35
    · refine rg_iload_n C 1 dX0_read_12 rfl rfl ?_
      refine rg_aload_n C 0 dX0_read_13 rfl rfl ?_
      refine rg_get C fX0_44 0 rfl rfl dX0_read_14 ?_
      refine rg_bipush (z := 60) C dX0_read_17 (by decide) ?_
      refine rg_isub C dX0_read_19 ?_
      refine rg_icmp_lt (tgt := 32) C ⟨by omega, by omega⟩ ⟨by omega, by omega⟩ dX0_read_20 (by decide) (fun h_20 => ?_) (fun h_20 => ?_)
      · refine rg_ldc2 (v := (-1)) (z := (-1)) C (by decide +kernel) (by decide) dX0_read_32 ?_
        exact rg_lret C hA hQ hr hlk () rfl (by rw [if_pos (by omega)]) dX0_read_35
      · refine rg_iload_n C 2 dX0_read_23 rfl rfl ?_
        refine rg_if_lt (tgt := 32) C ⟨by omega, by omega⟩ dX0_read_24 (by decide) (fun h_24 => ?_) (fun h_24 => ?_)
        · refine rg_ldc2 (v := (-1)) (z := (-1)) C (by decide +kernel) (by decide) dX0_read_32 ?_
          exact rg_lret C hA hQ hr hlk () rfl (by rw [if_pos (by omega)]) dX0_read_35
        · refine rg_iload_n C 2 dX0_read_27 rfl rfl ?_
          refine rg_iconst C dX0_read_28 ?_
          refine rg_icmp_lt (tgt := 36) C ⟨by omega, by omega⟩ ⟨by decide, by decide⟩ dX0_read_29 (by decide) (fun h_29 => ?_) (fun h_29 => ?_)
          · refine rg_aload_n C 0 dX0_read_36 rfl rfl ?_
            refine rg_get C fX0_11 0 rfl rfl dX0_read_37 ?_
            refine rg_iload_n C 1 dX0_read_40 rfl rfl ?_
            refine rg_callS (As := [.int (iI d)]) (rest := [.ref b1]) (wr := [cO b0 0 [.ref b1, .int (iI day)], cJ E b1 300 ent]) (w' := fun _ => [cO b0 0 [.ref b1, .int (iI day)], cJ E b1 300 ent]) C (kX0_pageOf l E d (by first | assumption | omega)) (rcwS C mX0_pageOf w_284 ⟨Nat.le_of_ble_eq_true rfl, Nat.le_of_ble_eq_true rfl⟩) [] [0, 1] [0, 1] rfl rfl (by decide) (by decide) (by decide) (fun _ => rfl) (by decide) rfl rfl (Nat.le_of_ble_eq_true rfl) dX0_read_41 ⟨Nat.le_of_ble_eq_true rfl, Nat.le_of_ble_eq_true rfl⟩ (fun _ => ?_)
            show rG p l e rX0_read s m args below meth c E A 3 0 0 Q [cO b0 0 [.ref b1, .int (iI day)], cJ E b1 300 ent] 44 [(0, .ref b0), (1, .int (iI d)), (2, .int (iI w))] [.int (iI (d % 60 * 5)), .ref b1]
            refine rg_iload_n C 2 dX0_read_44 rfl rfl ?_
            refine rg_iadd C dX0_read_45 ?_
            refine rg_lald C 1 rfl (by decide) (by omega) (by omega) dX0_read_46 ?_
            exact rg_lret C hA hQ hr hlk () rfl (by rw [if_neg (by omega)]) dX0_read_47
          · refine rg_ldc2 (v := (-1)) (z := (-1)) C (by decide +kernel) (by decide) dX0_read_32 ?_
            exact rg_lret C hA hQ hr hlk () rfl (by rw [if_pos (by omega)]) dX0_read_35
abbrev rX0_write : Room := { frames := 2, cells := 0, slots := 0, locals := 42 }
set_option maxHeartbeats 4000000 in
set_option maxRecDepth 100000 in
/-- Books.write -/
theorem kX0_write (l : Launch) (E : rE) (b0 : Nat) (b1 : Nat) (ent : Nat → Int) (day : Int) (v0 : Nat) (v1 : Nat) (v2 : Nat) (v3 : Nat) (v4 : Nat) (th : Nat → Int) (be : Nat → Int) (inf : Nat → Int) (snt : Nat → Int) (out : Int) (w0 : Nat) (w1 : Nat) (w2 : Nat) (w3 : Nat) (w4 : Nat) (sth : Nat → Int) (srch : Nat → Int) (cap : Nat → Int) (wat : Nat → Int) (rel : Int) (g0 : Nat) (g1 : Nat) (g2 : Nat) (g3 : Nat) (g4 : Nat) (g5 : Nat) (g6 : Nat) (g7 : Nat) (g8 : Nat) (g9 : Nat) (g : Nat → Int) (pl : Nat → Int) (pr : Nat → Int) (ra : Nat → Int) (wn : Nat → Int) (sh : Nat → Int) (rt : Nat → Int) (st : Nat → Int) (ag : Nat → Int) (cn : Int) (p0 : Nat) (p1 : Nat) (p2 : Nat) (p3 : Nat) (get : Nat → Int) (flo : Nat → Int) (roo : Nat → Int) (hin : ∀ r : Nat, r < 32 → inI (inf r)) (hst : ∀ i : Nat, i < 40 → -1 ≤ st i ∧ st i < 8) (hag : ∀ j : Nat, (j : Int) < cn → 0 ≤ ag j ∧ ag j < 40) (hcn : 0 ≤ cn ∧ cn ≤ 40) (hget : ∀ j : Nat, (j : Int) < cn → 0 ≤ get (ag j).toNat ∧ get (ag j).toNat ≤ 1000000000) (hshd : ∀ j : Nat, (j : Int) < cn → st (ag j).toNat = -1 → 0 ≤ sh (ag j).toNat ∧ sh (ag j).toNat ≤ 1000) (hday : 0 ≤ day ∧ day ≤ 1000000) (hout : -1 ≤ out ∧ out < 32) : rM l yX0_write sX0_write rX0_write E [cO b0 0 [.ref b1, .int (iI day)], cJ E b1 300 ent, cO v0 4 [.ref v1, .ref v2, .ref v3, .ref v4, .int (iI out)], cZ E v1 32 th, cI E v2 32 be, cI E v3 32 inf, cJ E v4 32 snt, cO w0 2 [.ref w1, .ref w2, .ref w3, .ref w4, .long (lI rel)], cZ E w1 8 sth, cI E w2 8 srch, cI E w3 8 cap, cI E w4 8 wat, cO g0 3 [.ref g1, .ref g2, .ref g3, .ref g4, .ref g5, .ref g6, .ref g7, .ref g8, .ref g9, .int (iI cn)], cZ E g1 40 g, cI E g2 40 pl, cI E g3 40 pr, cI E g4 40 ra, cI E g5 40 wn, cI E g6 40 sh, cI E g7 40 rt, cI E g8 40 st, cI E g9 40 ag, cO p0 1 [.ref p1, .ref p2, .ref p3], cI E p1 40 get, cJ E p2 32 flo, cI E p3 8 roo] [.ref b0, .ref v0, .ref w0, .ref g0, .ref p0] none (fun _ : Unit => [cO b0 0 [.ref b1, .int (iI (day + 1))], cJ E b1 300 (uZ (uZ (uZ (uZ (uZ ent (day % 60 * 5 + 0).toNat (sumTo inf 32)) (day % 60 * 5 + 1).toNat (if out = -1 then 0 else flo out.toNat)) (day % 60 * 5 + 2).toNat (rel + sumTo (useS st sh ag get) cn.toNat)) (day % 60 * 5 + 3).toNat (sumTo (stoS st ag get) cn.toNat)) (day % 60 * 5 + 4).toNat rel), cO v0 4 [.ref v1, .ref v2, .ref v3, .ref v4, .int (iI out)], cZ E v1 32 th, cI E v2 32 be, cI E v3 32 inf, cJ E v4 32 snt, cO w0 2 [.ref w1, .ref w2, .ref w3, .ref w4, .long (lI rel)], cZ E w1 8 sth, cI E w2 8 srch, cI E w3 8 cap, cI E w4 8 wat, cO g0 3 [.ref g1, .ref g2, .ref g3, .ref g4, .ref g5, .ref g6, .ref g7, .ref g8, .ref g9, .int (iI cn)], cZ E g1 40 g, cI E g2 40 pl, cI E g3 40 pr, cI E g4 40 ra, cI E g5 40 wn, cI E g6 40 sh, cI E g7 40 rt, cI E g8 40 st, cI E g9 40 ag, cO p0 1 [.ref p1, .ref p2, .ref p3], cI E p1 40 get, cJ E p2 32 flo, cI E p3 8 roo]) := by
  refine rM.of (cc := cX0_write) (maxL := 11) (ret := none) (by decide) rfl (Nat.le_of_ble_eq_true rfl) (fun w h => List.mem_cons_of_mem _ h) ?_
  intro p e s m args below meth c A Q hA hQ C hr hlk hnm
  have C : rC p s m args c E A 11 cX0_write sX0_write RX0 := C
  have L12 : ∀ (n : Nat) (k : Int) (us : Int) (so : Int), (0 ≤ k ∧ k ≤ cn) → (us = rel + sumTo (useS st sh ag get) k.toNat) → (so = sumTo (stoS st ag get) k.toNat) → ((cn - k).toNat < n) → rG p l e rX0_write s m args below meth c E A 11 0 0 Q [cO b0 0 [.ref b1, .int (iI day)], cJ E b1 300 ent, cO v0 4 [.ref v1, .ref v2, .ref v3, .ref v4, .int (iI out)], cZ E v1 32 th, cI E v2 32 be, cI E v3 32 inf, cJ E v4 32 snt, cO w0 2 [.ref w1, .ref w2, .ref w3, .ref w4, .long (lI rel)], cZ E w1 8 sth, cI E w2 8 srch, cI E w3 8 cap, cI E w4 8 wat, cO g0 3 [.ref g1, .ref g2, .ref g3, .ref g4, .ref g5, .ref g6, .ref g7, .ref g8, .ref g9, .int (iI cn)], cZ E g1 40 g, cI E g2 40 pl, cI E g3 40 pr, cI E g4 40 ra, cI E g5 40 wn, cI E g6 40 sh, cI E g7 40 rt, cI E g8 40 st, cI E g9 40 ag, cO p0 1 [.ref p1, .ref p2, .ref p3], cI E p1 40 get, cJ E p2 32 flo, cI E p3 8 roo] 12 [(0, .ref b0), (1, .ref v0), (2, .ref w0), (3, .ref g0), (4, .ref p0), (5, .long (lI us)), (7, .long (lI so)), (9, .int (iI k))] [] := by
    intro n
    induction n with
    | zero => intro k us so h1 h3 h4 hm; exact absurd hm (Nat.not_lt_zero _)
    | succ n ih =>
      intro k us so h1 h3 h4 hm
      refine rg_iload C 7 dX0_write_12 rfl ?_
      refine rg_aload_n C 3 dX0_write_14 rfl rfl ?_
      refine rg_get C fX0_21 12 rfl rfl dX0_write_15 ?_
      refine rg_icmp_ge (tgt := 81) C ⟨by omega, by omega⟩ ⟨by omega, by omega⟩ dX0_write_18 (by decide) (fun h_18 => ?_) (fun h_18 => ?_)
      · refine rg_aload_n C 0 dX0_write_81 rfl rfl ?_
        refine rg_get C fX0_44 0 rfl rfl dX0_write_82 ?_
        refine rg_callS (As := [.int (iI day)]) (rest := []) (wr := [cO b0 0 [.ref b1, .int (iI day)], cJ E b1 300 ent, cO v0 4 [.ref v1, .ref v2, .ref v3, .ref v4, .int (iI out)], cZ E v1 32 th, cI E v2 32 be, cI E v3 32 inf, cJ E v4 32 snt, cO w0 2 [.ref w1, .ref w2, .ref w3, .ref w4, .long (lI rel)], cZ E w1 8 sth, cI E w2 8 srch, cI E w3 8 cap, cI E w4 8 wat, cO g0 3 [.ref g1, .ref g2, .ref g3, .ref g4, .ref g5, .ref g6, .ref g7, .ref g8, .ref g9, .int (iI cn)], cZ E g1 40 g, cI E g2 40 pl, cI E g3 40 pr, cI E g4 40 ra, cI E g5 40 wn, cI E g6 40 sh, cI E g7 40 rt, cI E g8 40 st, cI E g9 40 ag, cO p0 1 [.ref p1, .ref p2, .ref p3], cI E p1 40 get, cJ E p2 32 flo, cI E p3 8 roo]) (w' := fun _ => [cO b0 0 [.ref b1, .int (iI day)], cJ E b1 300 ent, cO v0 4 [.ref v1, .ref v2, .ref v3, .ref v4, .int (iI out)], cZ E v1 32 th, cI E v2 32 be, cI E v3 32 inf, cJ E v4 32 snt, cO w0 2 [.ref w1, .ref w2, .ref w3, .ref w4, .long (lI rel)], cZ E w1 8 sth, cI E w2 8 srch, cI E w3 8 cap, cI E w4 8 wat, cO g0 3 [.ref g1, .ref g2, .ref g3, .ref g4, .ref g5, .ref g6, .ref g7, .ref g8, .ref g9, .int (iI cn)], cZ E g1 40 g, cI E g2 40 pl, cI E g3 40 pr, cI E g4 40 ra, cI E g5 40 wn, cI E g6 40 sh, cI E g7 40 rt, cI E g8 40 st, cI E g9 40 ag, cO p0 1 [.ref p1, .ref p2, .ref p3], cI E p1 40 get, cJ E p2 32 flo, cI E p3 8 roo]) C (kX0_pageOf l E day (by first | assumption | omega)) (rcwS C mX0_pageOf w_284 ⟨Nat.le_of_ble_eq_true rfl, Nat.le_of_ble_eq_true rfl⟩) [] [0, 1, 2, 3, 4, 5, 6, 7, 8, 9, 10, 11, 12, 13, 14, 15, 16, 17, 18, 19, 20, 21, 22, 23, 24, 25] [0, 1, 2, 3, 4, 5, 6, 7, 8, 9, 10, 11, 12, 13, 14, 15, 16, 17, 18, 19, 20, 21, 22, 23, 24, 25] rfl rfl (by decide) (by decide) (by decide) (fun _ => rfl) (by decide) rfl rfl (Nat.le_of_ble_eq_true rfl) dX0_write_85 ⟨Nat.le_of_ble_eq_true rfl, Nat.le_of_ble_eq_true rfl⟩ (fun _ => ?_)
        show rG p l e rX0_write s m args below meth c E A 11 0 0 Q [cO b0 0 [.ref b1, .int (iI day)], cJ E b1 300 ent, cO v0 4 [.ref v1, .ref v2, .ref v3, .ref v4, .int (iI out)], cZ E v1 32 th, cI E v2 32 be, cI E v3 32 inf, cJ E v4 32 snt, cO w0 2 [.ref w1, .ref w2, .ref w3, .ref w4, .long (lI rel)], cZ E w1 8 sth, cI E w2 8 srch, cI E w3 8 cap, cI E w4 8 wat, cO g0 3 [.ref g1, .ref g2, .ref g3, .ref g4, .ref g5, .ref g6, .ref g7, .ref g8, .ref g9, .int (iI cn)], cZ E g1 40 g, cI E g2 40 pl, cI E g3 40 pr, cI E g4 40 ra, cI E g5 40 wn, cI E g6 40 sh, cI E g7 40 rt, cI E g8 40 st, cI E g9 40 ag, cO p0 1 [.ref p1, .ref p2, .ref p3], cI E p1 40 get, cJ E p2 32 flo, cI E p3 8 roo] 88 [(0, .ref b0), (1, .ref v0), (2, .ref w0), (3, .ref g0), (4, .ref p0), (5, .long (lI us)), (7, .long (lI so)), (9, .int (iI k))] [.int (iI (day % 60 * 5))]
        refine rg_istore (lv' := [(9, .int (iI (day % 60 * 5))), (0, .ref b0), (1, .ref v0), (2, .ref w0), (3, .ref g0), (4, .ref p0), (5, .long (lI us)), (7, .long (lI so))]) C dX0_write_88 (by decide) rfl ?_
        refine rg_aload_n C 1 dX0_write_90 rfl rfl ?_
        refine rg_get C fX0_11 0 rfl rfl dX0_write_91 ?_
        refine rg_iload C 0 dX0_write_94 rfl ?_
        refine rg_iconst C dX0_write_96 ?_
        refine rg_iadd C dX0_write_97 ?_
        refine rg_aload_n C 2 dX0_write_98 rfl rfl ?_
        refine rg_callV (As := []) (rest := [.int (iI ((day % 60 * 5) + 0)), .ref b1]) (wr := [cO b0 0 [.ref b1, .int (iI day)], cJ E b1 300 ent, cO w0 2 [.ref w1, .ref w2, .ref w3, .ref w4, .long (lI rel)], cZ E w1 8 sth, cI E w2 8 srch, cI E w3 8 cap, cI E w4 8 wat, cO g0 3 [.ref g1, .ref g2, .ref g3, .ref g4, .ref g5, .ref g6, .ref g7, .ref g8, .ref g9, .int (iI cn)], cZ E g1 40 g, cI E g2 40 pl, cI E g3 40 pr, cI E g4 40 ra, cI E g5 40 wn, cI E g6 40 sh, cI E g7 40 rt, cI E g8 40 st, cI E g9 40 ag, cO p0 1 [.ref p1, .ref p2, .ref p3], cI E p1 40 get, cJ E p2 32 flo, cI E p3 8 roo]) (w' := fun _ => [cO b0 0 [.ref b1, .int (iI day)], cJ E b1 300 ent, cO v0 4 [.ref v1, .ref v2, .ref v3, .ref v4, .int (iI out)], cZ E v1 32 th, cI E v2 32 be, cI E v3 32 inf, cJ E v4 32 snt, cO w0 2 [.ref w1, .ref w2, .ref w3, .ref w4, .long (lI rel)], cZ E w1 8 sth, cI E w2 8 srch, cI E w3 8 cap, cI E w4 8 wat, cO g0 3 [.ref g1, .ref g2, .ref g3, .ref g4, .ref g5, .ref g6, .ref g7, .ref g8, .ref g9, .int (iI cn)], cZ E g1 40 g, cI E g2 40 pl, cI E g3 40 pr, cI E g4 40 ra, cI E g5 40 wn, cI E g6 40 sh, cI E g7 40 rt, cI E g8 40 st, cI E g9 40 ag, cO p0 1 [.ref p1, .ref p2, .ref p3], cI E p1 40 get, cJ E p2 32 flo, cI E p3 8 roo]) C (kX4_allInflow l E v0 v1 v2 v3 v4 th be inf snt out (by first | assumption | omega)) (rcwV C mX4_allInflow w_290 ⟨Nat.le_of_ble_eq_true rfl, Nat.le_of_ble_eq_true rfl⟩) [2, 3, 4, 5, 6] [0, 1, 7, 8, 9, 10, 11, 12, 13, 14, 15, 16, 17, 18, 19, 20, 21, 22, 23, 24, 25] [0, 1, 21, 22, 23, 24, 25, 2, 3, 4, 5, 6, 7, 8, 9, 10, 11, 12, 13, 14, 15, 16, 17, 18, 19, 20] rfl rfl (by decide) (by decide) (by decide) (fun _ => rfl) (by decide) 0 rfl rfl rfl rfl (Nat.le_of_ble_eq_true rfl) dX0_write_99 ⟨Nat.le_of_ble_eq_true rfl, Nat.le_of_ble_eq_true rfl⟩ (fun _ => ?_)
        show rG p l e rX0_write s m args below meth c E A 11 0 0 Q [cO b0 0 [.ref b1, .int (iI day)], cJ E b1 300 ent, cO v0 4 [.ref v1, .ref v2, .ref v3, .ref v4, .int (iI out)], cZ E v1 32 th, cI E v2 32 be, cI E v3 32 inf, cJ E v4 32 snt, cO w0 2 [.ref w1, .ref w2, .ref w3, .ref w4, .long (lI rel)], cZ E w1 8 sth, cI E w2 8 srch, cI E w3 8 cap, cI E w4 8 wat, cO g0 3 [.ref g1, .ref g2, .ref g3, .ref g4, .ref g5, .ref g6, .ref g7, .ref g8, .ref g9, .int (iI cn)], cZ E g1 40 g, cI E g2 40 pl, cI E g3 40 pr, cI E g4 40 ra, cI E g5 40 wn, cI E g6 40 sh, cI E g7 40 rt, cI E g8 40 st, cI E g9 40 ag, cO p0 1 [.ref p1, .ref p2, .ref p3], cI E p1 40 get, cJ E p2 32 flo, cI E p3 8 roo] 102 [(9, .int (iI (day % 60 * 5))), (0, .ref b0), (1, .ref v0), (2, .ref w0), (3, .ref g0), (4, .ref p0), (5, .long (lI us)), (7, .long (lI so))] [.long (lI (sumTo inf 32)), .int (iI ((day % 60 * 5) + 0)), .ref b1]
        refine rg_last (ws' := [cO b0 0 [.ref b1, .int (iI day)], cJ E b1 300 (uZ ent ((day % 60 * 5) + 0).toNat (sumTo inf 32)), cO v0 4 [.ref v1, .ref v2, .ref v3, .ref v4, .int (iI out)], cZ E v1 32 th, cI E v2 32 be, cI E v3 32 inf, cJ E v4 32 snt, cO w0 2 [.ref w1, .ref w2, .ref w3, .ref w4, .long (lI rel)], cZ E w1 8 sth, cI E w2 8 srch, cI E w3 8 cap, cI E w4 8 wat, cO g0 3 [.ref g1, .ref g2, .ref g3, .ref g4, .ref g5, .ref g6, .ref g7, .ref g8, .ref g9, .int (iI cn)], cZ E g1 40 g, cI E g2 40 pl, cI E g3 40 pr, cI E g4 40 ra, cI E g5 40 wn, cI E g6 40 sh, cI E g7 40 rt, cI E g8 40 st, cI E g9 40 ag, cO p0 1 [.ref p1, .ref p2, .ref p3], cI E p1 40 get, cJ E p2 32 flo, cI E p3 8 roo]) C 1 rfl (by decide) (by omega) (by omega) dX0_write_102 rfl ?_
        refine rg_aload_n C 1 dX0_write_103 rfl rfl ?_
        refine rg_get C fX0_11 0 rfl rfl dX0_write_104 ?_
        refine rg_iload C 0 dX0_write_107 rfl ?_
        refine rg_iconst C dX0_write_109 ?_
        refine rg_iadd C dX0_write_110 ?_
        refine rg_aload_n C 2 dX0_write_111 rfl rfl ?_
        refine rg_get C fX0_57 2 rfl rfl dX0_write_112 ?_
        refine rg_iconst C dX0_write_115 ?_
        refine rg_icmp_ne (tgt := 123) C ⟨by omega, by omega⟩ ⟨by decide, by decide⟩ dX0_write_116 (by decide) (fun h_116 => ?_) (fun h_116 => ?_)
        · refine rg_aload C 5 dX0_write_123 rfl ?_
          refine rg_get C fX0_60 22 rfl rfl dX0_write_125 ?_
          refine rg_aload_n C 2 dX0_write_128 rfl rfl ?_
          refine rg_get C fX0_57 2 rfl rfl dX0_write_129 ?_
          refine rg_lald C 24 rfl (by decide) (by omega) (by omega) dX0_write_132 ?_
          refine rg_last (ws' := [cO b0 0 [.ref b1, .int (iI day)], cJ E b1 300 (uZ (uZ ent ((day % 60 * 5) + 0).toNat (sumTo inf 32)) ((day % 60 * 5) + 1).toNat (flo out.toNat)), cO v0 4 [.ref v1, .ref v2, .ref v3, .ref v4, .int (iI out)], cZ E v1 32 th, cI E v2 32 be, cI E v3 32 inf, cJ E v4 32 snt, cO w0 2 [.ref w1, .ref w2, .ref w3, .ref w4, .long (lI rel)], cZ E w1 8 sth, cI E w2 8 srch, cI E w3 8 cap, cI E w4 8 wat, cO g0 3 [.ref g1, .ref g2, .ref g3, .ref g4, .ref g5, .ref g6, .ref g7, .ref g8, .ref g9, .int (iI cn)], cZ E g1 40 g, cI E g2 40 pl, cI E g3 40 pr, cI E g4 40 ra, cI E g5 40 wn, cI E g6 40 sh, cI E g7 40 rt, cI E g8 40 st, cI E g9 40 ag, cO p0 1 [.ref p1, .ref p2, .ref p3], cI E p1 40 get, cJ E p2 32 flo, cI E p3 8 roo]) C 1 rfl (by decide) (by omega) (by omega) dX0_write_133 rfl ?_
          refine rg_aload_n C 1 dX0_write_134 rfl rfl ?_
          refine rg_get C fX0_11 0 rfl rfl dX0_write_135 ?_
          refine rg_iload C 0 dX0_write_138 rfl ?_
          refine rg_iconst C dX0_write_140 ?_
          refine rg_iadd C dX0_write_141 ?_
          refine rg_lload C 6 dX0_write_142 rfl ?_
          refine rg_last (ws' := [cO b0 0 [.ref b1, .int (iI day)], cJ E b1 300 (uZ (uZ (uZ ent ((day % 60 * 5) + 0).toNat (sumTo inf 32)) ((day % 60 * 5) + 1).toNat (flo out.toNat)) ((day % 60 * 5) + 2).toNat us), cO v0 4 [.ref v1, .ref v2, .ref v3, .ref v4, .int (iI out)], cZ E v1 32 th, cI E v2 32 be, cI E v3 32 inf, cJ E v4 32 snt, cO w0 2 [.ref w1, .ref w2, .ref w3, .ref w4, .long (lI rel)], cZ E w1 8 sth, cI E w2 8 srch, cI E w3 8 cap, cI E w4 8 wat, cO g0 3 [.ref g1, .ref g2, .ref g3, .ref g4, .ref g5, .ref g6, .ref g7, .ref g8, .ref g9, .int (iI cn)], cZ E g1 40 g, cI E g2 40 pl, cI E g3 40 pr, cI E g4 40 ra, cI E g5 40 wn, cI E g6 40 sh, cI E g7 40 rt, cI E g8 40 st, cI E g9 40 ag, cO p0 1 [.ref p1, .ref p2, .ref p3], cI E p1 40 get, cJ E p2 32 flo, cI E p3 8 roo]) C 1 rfl (by decide) (by omega) (by omega) dX0_write_144 rfl ?_
          refine rg_aload_n C 1 dX0_write_145 rfl rfl ?_
          refine rg_get C fX0_11 0 rfl rfl dX0_write_146 ?_
          refine rg_iload C 0 dX0_write_149 rfl ?_
          refine rg_iconst C dX0_write_151 ?_
          refine rg_iadd C dX0_write_152 ?_
          refine rg_lload C 7 dX0_write_153 rfl ?_
          refine rg_last (ws' := [cO b0 0 [.ref b1, .int (iI day)], cJ E b1 300 (uZ (uZ (uZ (uZ ent ((day % 60 * 5) + 0).toNat (sumTo inf 32)) ((day % 60 * 5) + 1).toNat (flo out.toNat)) ((day % 60 * 5) + 2).toNat us) ((day % 60 * 5) + 3).toNat so), cO v0 4 [.ref v1, .ref v2, .ref v3, .ref v4, .int (iI out)], cZ E v1 32 th, cI E v2 32 be, cI E v3 32 inf, cJ E v4 32 snt, cO w0 2 [.ref w1, .ref w2, .ref w3, .ref w4, .long (lI rel)], cZ E w1 8 sth, cI E w2 8 srch, cI E w3 8 cap, cI E w4 8 wat, cO g0 3 [.ref g1, .ref g2, .ref g3, .ref g4, .ref g5, .ref g6, .ref g7, .ref g8, .ref g9, .int (iI cn)], cZ E g1 40 g, cI E g2 40 pl, cI E g3 40 pr, cI E g4 40 ra, cI E g5 40 wn, cI E g6 40 sh, cI E g7 40 rt, cI E g8 40 st, cI E g9 40 ag, cO p0 1 [.ref p1, .ref p2, .ref p3], cI E p1 40 get, cJ E p2 32 flo, cI E p3 8 roo]) C 1 rfl (by decide) (by omega) (by omega) dX0_write_155 rfl ?_
          refine rg_aload_n C 1 dX0_write_156 rfl rfl ?_
          refine rg_get C fX0_11 0 rfl rfl dX0_write_157 ?_
          refine rg_iload C 0 dX0_write_160 rfl ?_
          refine rg_iconst C dX0_write_162 ?_
          refine rg_iadd C dX0_write_163 ?_
          refine rg_aload_n C 3 dX0_write_164 rfl rfl ?_
          refine rg_get C fX0_15 7 rfl rfl dX0_write_165 ?_
          refine rg_last (ws' := [cO b0 0 [.ref b1, .int (iI day)], cJ E b1 300 (uZ (uZ (uZ (uZ (uZ ent ((day % 60 * 5) + 0).toNat (sumTo inf 32)) ((day % 60 * 5) + 1).toNat (flo out.toNat)) ((day % 60 * 5) + 2).toNat us) ((day % 60 * 5) + 3).toNat so) ((day % 60 * 5) + 4).toNat rel), cO v0 4 [.ref v1, .ref v2, .ref v3, .ref v4, .int (iI out)], cZ E v1 32 th, cI E v2 32 be, cI E v3 32 inf, cJ E v4 32 snt, cO w0 2 [.ref w1, .ref w2, .ref w3, .ref w4, .long (lI rel)], cZ E w1 8 sth, cI E w2 8 srch, cI E w3 8 cap, cI E w4 8 wat, cO g0 3 [.ref g1, .ref g2, .ref g3, .ref g4, .ref g5, .ref g6, .ref g7, .ref g8, .ref g9, .int (iI cn)], cZ E g1 40 g, cI E g2 40 pl, cI E g3 40 pr, cI E g4 40 ra, cI E g5 40 wn, cI E g6 40 sh, cI E g7 40 rt, cI E g8 40 st, cI E g9 40 ag, cO p0 1 [.ref p1, .ref p2, .ref p3], cI E p1 40 get, cJ E p2 32 flo, cI E p3 8 roo]) C 1 rfl (by decide) (by omega) (by omega) dX0_write_168 rfl ?_
          refine rg_aload_n C 1 dX0_write_169 rfl rfl ?_
          refine rg_dup C dX0_write_170 rfl ?_
          refine rg_get C fX0_44 0 rfl rfl dX0_write_171 ?_
          refine rg_iconst C dX0_write_174 ?_
          refine rg_iadd C dX0_write_175 ?_
          refine rg_put (ws' := [cO b0 0 [.ref b1, .int (iI (day + 1))], cJ E b1 300 (uZ (uZ (uZ (uZ (uZ ent ((day % 60 * 5) + 0).toNat (sumTo inf 32)) ((day % 60 * 5) + 1).toNat (flo out.toNat)) ((day % 60 * 5) + 2).toNat us) ((day % 60 * 5) + 3).toNat so) ((day % 60 * 5) + 4).toNat rel), cO v0 4 [.ref v1, .ref v2, .ref v3, .ref v4, .int (iI out)], cZ E v1 32 th, cI E v2 32 be, cI E v3 32 inf, cJ E v4 32 snt, cO w0 2 [.ref w1, .ref w2, .ref w3, .ref w4, .long (lI rel)], cZ E w1 8 sth, cI E w2 8 srch, cI E w3 8 cap, cI E w4 8 wat, cO g0 3 [.ref g1, .ref g2, .ref g3, .ref g4, .ref g5, .ref g6, .ref g7, .ref g8, .ref g9, .int (iI cn)], cZ E g1 40 g, cI E g2 40 pl, cI E g3 40 pr, cI E g4 40 ra, cI E g5 40 wn, cI E g6 40 sh, cI E g7 40 rt, cI E g8 40 st, cI E g9 40 ag, cO p0 1 [.ref p1, .ref p2, .ref p3], cI E p1 40 get, cJ E p2 32 flo, cI E p3 8 roo]) C fX0_44 layX0 rfl 0 rfl rfl rfl (Nat.le_of_ble_eq_true rfl) dX0_write_176 rfl ?_
          exact rg_vret C hA hQ hr hlk () (by rw [h3, h4, show k.toNat = cn.toNat by omega, if_neg h_116]) rfl dX0_write_179
        · refine rg_lconst (z := 0) C dX0_write_119 (by decide) ?_
          refine rg_goto (tgt := 133) C dX0_write_120 (by decide) ?_
          refine rg_last (ws' := [cO b0 0 [.ref b1, .int (iI day)], cJ E b1 300 (uZ (uZ ent ((day % 60 * 5) + 0).toNat (sumTo inf 32)) ((day % 60 * 5) + 1).toNat 0), cO v0 4 [.ref v1, .ref v2, .ref v3, .ref v4, .int (iI out)], cZ E v1 32 th, cI E v2 32 be, cI E v3 32 inf, cJ E v4 32 snt, cO w0 2 [.ref w1, .ref w2, .ref w3, .ref w4, .long (lI rel)], cZ E w1 8 sth, cI E w2 8 srch, cI E w3 8 cap, cI E w4 8 wat, cO g0 3 [.ref g1, .ref g2, .ref g3, .ref g4, .ref g5, .ref g6, .ref g7, .ref g8, .ref g9, .int (iI cn)], cZ E g1 40 g, cI E g2 40 pl, cI E g3 40 pr, cI E g4 40 ra, cI E g5 40 wn, cI E g6 40 sh, cI E g7 40 rt, cI E g8 40 st, cI E g9 40 ag, cO p0 1 [.ref p1, .ref p2, .ref p3], cI E p1 40 get, cJ E p2 32 flo, cI E p3 8 roo]) C 1 rfl (by decide) (by omega) (by omega) dX0_write_133 rfl ?_
          refine rg_aload_n C 1 dX0_write_134 rfl rfl ?_
          refine rg_get C fX0_11 0 rfl rfl dX0_write_135 ?_
          refine rg_iload C 0 dX0_write_138 rfl ?_
          refine rg_iconst C dX0_write_140 ?_
          refine rg_iadd C dX0_write_141 ?_
          refine rg_lload C 6 dX0_write_142 rfl ?_
          refine rg_last (ws' := [cO b0 0 [.ref b1, .int (iI day)], cJ E b1 300 (uZ (uZ (uZ ent ((day % 60 * 5) + 0).toNat (sumTo inf 32)) ((day % 60 * 5) + 1).toNat 0) ((day % 60 * 5) + 2).toNat us), cO v0 4 [.ref v1, .ref v2, .ref v3, .ref v4, .int (iI out)], cZ E v1 32 th, cI E v2 32 be, cI E v3 32 inf, cJ E v4 32 snt, cO w0 2 [.ref w1, .ref w2, .ref w3, .ref w4, .long (lI rel)], cZ E w1 8 sth, cI E w2 8 srch, cI E w3 8 cap, cI E w4 8 wat, cO g0 3 [.ref g1, .ref g2, .ref g3, .ref g4, .ref g5, .ref g6, .ref g7, .ref g8, .ref g9, .int (iI cn)], cZ E g1 40 g, cI E g2 40 pl, cI E g3 40 pr, cI E g4 40 ra, cI E g5 40 wn, cI E g6 40 sh, cI E g7 40 rt, cI E g8 40 st, cI E g9 40 ag, cO p0 1 [.ref p1, .ref p2, .ref p3], cI E p1 40 get, cJ E p2 32 flo, cI E p3 8 roo]) C 1 rfl (by decide) (by omega) (by omega) dX0_write_144 rfl ?_
          refine rg_aload_n C 1 dX0_write_145 rfl rfl ?_
          refine rg_get C fX0_11 0 rfl rfl dX0_write_146 ?_
          refine rg_iload C 0 dX0_write_149 rfl ?_
          refine rg_iconst C dX0_write_151 ?_
          refine rg_iadd C dX0_write_152 ?_
          refine rg_lload C 7 dX0_write_153 rfl ?_
          refine rg_last (ws' := [cO b0 0 [.ref b1, .int (iI day)], cJ E b1 300 (uZ (uZ (uZ (uZ ent ((day % 60 * 5) + 0).toNat (sumTo inf 32)) ((day % 60 * 5) + 1).toNat 0) ((day % 60 * 5) + 2).toNat us) ((day % 60 * 5) + 3).toNat so), cO v0 4 [.ref v1, .ref v2, .ref v3, .ref v4, .int (iI out)], cZ E v1 32 th, cI E v2 32 be, cI E v3 32 inf, cJ E v4 32 snt, cO w0 2 [.ref w1, .ref w2, .ref w3, .ref w4, .long (lI rel)], cZ E w1 8 sth, cI E w2 8 srch, cI E w3 8 cap, cI E w4 8 wat, cO g0 3 [.ref g1, .ref g2, .ref g3, .ref g4, .ref g5, .ref g6, .ref g7, .ref g8, .ref g9, .int (iI cn)], cZ E g1 40 g, cI E g2 40 pl, cI E g3 40 pr, cI E g4 40 ra, cI E g5 40 wn, cI E g6 40 sh, cI E g7 40 rt, cI E g8 40 st, cI E g9 40 ag, cO p0 1 [.ref p1, .ref p2, .ref p3], cI E p1 40 get, cJ E p2 32 flo, cI E p3 8 roo]) C 1 rfl (by decide) (by omega) (by omega) dX0_write_155 rfl ?_
          refine rg_aload_n C 1 dX0_write_156 rfl rfl ?_
          refine rg_get C fX0_11 0 rfl rfl dX0_write_157 ?_
          refine rg_iload C 0 dX0_write_160 rfl ?_
          refine rg_iconst C dX0_write_162 ?_
          refine rg_iadd C dX0_write_163 ?_
          refine rg_aload_n C 3 dX0_write_164 rfl rfl ?_
          refine rg_get C fX0_15 7 rfl rfl dX0_write_165 ?_
          refine rg_last (ws' := [cO b0 0 [.ref b1, .int (iI day)], cJ E b1 300 (uZ (uZ (uZ (uZ (uZ ent ((day % 60 * 5) + 0).toNat (sumTo inf 32)) ((day % 60 * 5) + 1).toNat 0) ((day % 60 * 5) + 2).toNat us) ((day % 60 * 5) + 3).toNat so) ((day % 60 * 5) + 4).toNat rel), cO v0 4 [.ref v1, .ref v2, .ref v3, .ref v4, .int (iI out)], cZ E v1 32 th, cI E v2 32 be, cI E v3 32 inf, cJ E v4 32 snt, cO w0 2 [.ref w1, .ref w2, .ref w3, .ref w4, .long (lI rel)], cZ E w1 8 sth, cI E w2 8 srch, cI E w3 8 cap, cI E w4 8 wat, cO g0 3 [.ref g1, .ref g2, .ref g3, .ref g4, .ref g5, .ref g6, .ref g7, .ref g8, .ref g9, .int (iI cn)], cZ E g1 40 g, cI E g2 40 pl, cI E g3 40 pr, cI E g4 40 ra, cI E g5 40 wn, cI E g6 40 sh, cI E g7 40 rt, cI E g8 40 st, cI E g9 40 ag, cO p0 1 [.ref p1, .ref p2, .ref p3], cI E p1 40 get, cJ E p2 32 flo, cI E p3 8 roo]) C 1 rfl (by decide) (by omega) (by omega) dX0_write_168 rfl ?_
          refine rg_aload_n C 1 dX0_write_169 rfl rfl ?_
          refine rg_dup C dX0_write_170 rfl ?_
          refine rg_get C fX0_44 0 rfl rfl dX0_write_171 ?_
          refine rg_iconst C dX0_write_174 ?_
          refine rg_iadd C dX0_write_175 ?_
          refine rg_put (ws' := [cO b0 0 [.ref b1, .int (iI (day + 1))], cJ E b1 300 (uZ (uZ (uZ (uZ (uZ ent ((day % 60 * 5) + 0).toNat (sumTo inf 32)) ((day % 60 * 5) + 1).toNat 0) ((day % 60 * 5) + 2).toNat us) ((day % 60 * 5) + 3).toNat so) ((day % 60 * 5) + 4).toNat rel), cO v0 4 [.ref v1, .ref v2, .ref v3, .ref v4, .int (iI out)], cZ E v1 32 th, cI E v2 32 be, cI E v3 32 inf, cJ E v4 32 snt, cO w0 2 [.ref w1, .ref w2, .ref w3, .ref w4, .long (lI rel)], cZ E w1 8 sth, cI E w2 8 srch, cI E w3 8 cap, cI E w4 8 wat, cO g0 3 [.ref g1, .ref g2, .ref g3, .ref g4, .ref g5, .ref g6, .ref g7, .ref g8, .ref g9, .int (iI cn)], cZ E g1 40 g, cI E g2 40 pl, cI E g3 40 pr, cI E g4 40 ra, cI E g5 40 wn, cI E g6 40 sh, cI E g7 40 rt, cI E g8 40 st, cI E g9 40 ag, cO p0 1 [.ref p1, .ref p2, .ref p3], cI E p1 40 get, cJ E p2 32 flo, cI E p3 8 roo]) C fX0_44 layX0 rfl 0 rfl rfl rfl (Nat.le_of_ble_eq_true rfl) dX0_write_176 rfl ?_
          exact rg_vret C hA hQ hr hlk () (by rw [h3, h4, show k.toNat = cn.toNat by omega, if_pos h_116]) rfl dX0_write_179
      · have ha9 := hag k.toNat (by omega)
        have hg9 := hget k.toNat (by omega)
        refine rg_aload_n C 3 dX0_write_21 rfl rfl ?_
        refine rg_get C fX0_27 12 rfl rfl dX0_write_22 ?_
        refine rg_iload C 7 dX0_write_25 rfl ?_
        refine rg_iald C 21 rfl (by decide) (by omega) (by omega) dX0_write_27 ?_
        refine rg_istore (lv' := [(10, .int (iI (ag k.toNat))), (0, .ref b0), (1, .ref v0), (2, .ref w0), (3, .ref g0), (4, .ref p0), (5, .long (lI us)), (7, .long (lI so)), (9, .int (iI k))]) C dX0_write_28 (by decide) rfl ?_
        refine rg_aload_n C 4 dX0_write_30 rfl rfl ?_
        refine rg_iload C 0 dX0_write_31 rfl ?_
        refine rg_callV (As := [.int (iI (ag k.toNat))]) (rest := []) (wr := [cO b0 0 [.ref b1, .int (iI day)], cJ E b1 300 ent, cO v0 4 [.ref v1, .ref v2, .ref v3, .ref v4, .int (iI out)], cZ E v1 32 th, cI E v2 32 be, cI E v3 32 inf, cJ E v4 32 snt, cO w0 2 [.ref w1, .ref w2, .ref w3, .ref w4, .long (lI rel)], cZ E w1 8 sth, cI E w2 8 srch, cI E w3 8 cap, cI E w4 8 wat, cO p0 1 [.ref p1, .ref p2, .ref p3], cI E p1 40 get, cJ E p2 32 flo, cI E p3 8 roo]) (w' := fun _ => [cO b0 0 [.ref b1, .int (iI day)], cJ E b1 300 ent, cO v0 4 [.ref v1, .ref v2, .ref v3, .ref v4, .int (iI out)], cZ E v1 32 th, cI E v2 32 be, cI E v3 32 inf, cJ E v4 32 snt, cO w0 2 [.ref w1, .ref w2, .ref w3, .ref w4, .long (lI rel)], cZ E w1 8 sth, cI E w2 8 srch, cI E w3 8 cap, cI E w4 8 wat, cO g0 3 [.ref g1, .ref g2, .ref g3, .ref g4, .ref g5, .ref g6, .ref g7, .ref g8, .ref g9, .int (iI cn)], cZ E g1 40 g, cI E g2 40 pl, cI E g3 40 pr, cI E g4 40 ra, cI E g5 40 wn, cI E g6 40 sh, cI E g7 40 rt, cI E g8 40 st, cI E g9 40 ag, cO p0 1 [.ref p1, .ref p2, .ref p3], cI E p1 40 get, cJ E p2 32 flo, cI E p3 8 roo]) C (kX3_isStorage l E g0 g1 g2 g3 g4 g5 g6 g7 g8 g9 g pl pr ra wn sh rt st ag cn (ag k.toNat) (by first | assumption | omega) (fun i hi => ⟨by have := hst i hi; omega, by have := hst i hi; omega⟩)) (rcwV C mX3_isStorage w_282 ⟨Nat.le_of_ble_eq_true rfl, Nat.le_of_ble_eq_true rfl⟩) [12, 13, 14, 15, 16, 17, 18, 19, 20, 21] [0, 1, 2, 3, 4, 5, 6, 7, 8, 9, 10, 11, 22, 23, 24, 25] [0, 1, 2, 3, 4, 5, 6, 7, 8, 9, 10, 11, 16, 17, 18, 19, 20, 21, 22, 23, 24, 25, 12, 13, 14, 15] rfl rfl (by decide) (by decide) (by decide) (fun _ => rfl) (by decide) 0 rfl rfl rfl rfl (Nat.le_of_ble_eq_true rfl) dX0_write_33 ⟨Nat.le_of_ble_eq_true rfl, Nat.le_of_ble_eq_true rfl⟩ (fun _ => ?_)
        show rG p l e rX0_write s m args below meth c E A 11 0 0 Q [cO b0 0 [.ref b1, .int (iI day)], cJ E b1 300 ent, cO v0 4 [.ref v1, .ref v2, .ref v3, .ref v4, .int (iI out)], cZ E v1 32 th, cI E v2 32 be, cI E v3 32 inf, cJ E v4 32 snt, cO w0 2 [.ref w1, .ref w2, .ref w3, .ref w4, .long (lI rel)], cZ E w1 8 sth, cI E w2 8 srch, cI E w3 8 cap, cI E w4 8 wat, cO g0 3 [.ref g1, .ref g2, .ref g3, .ref g4, .ref g5, .ref g6, .ref g7, .ref g8, .ref g9, .int (iI cn)], cZ E g1 40 g, cI E g2 40 pl, cI E g3 40 pr, cI E g4 40 ra, cI E g5 40 wn, cI E g6 40 sh, cI E g7 40 rt, cI E g8 40 st, cI E g9 40 ag, cO p0 1 [.ref p1, .ref p2, .ref p3], cI E p1 40 get, cJ E p2 32 flo, cI E p3 8 roo] 36 [(10, .int (iI (ag k.toNat))), (0, .ref b0), (1, .ref v0), (2, .ref w0), (3, .ref g0), (4, .ref p0), (5, .long (lI us)), (7, .long (lI so)), (9, .int (iI k))] [.int (iI (bZ (decide (st (ag k.toNat).toNat ≠ -1))))]
        refine rg_if_eq (tgt := 56) C (bZ_in _) dX0_write_36 (by decide) (fun h_36 => ?_) (fun h_36 => ?_)
        · have hs9 := hshd k.toNat (by omega) (Decidable.not_not.mp (dec0.mp h_36))
          refine rg_lload C 6 dX0_write_56 rfl ?_
          refine rg_aload_n C 4 dX0_write_58 rfl rfl ?_
          refine rg_iload C 0 dX0_write_59 rfl ?_
          refine rg_aload C 5 dX0_write_61 rfl ?_
          refine rg_get C fX0_35 22 rfl rfl dX0_write_63 ?_
          refine rg_iload C 0 dX0_write_66 rfl ?_
          refine rg_iald C 23 rfl (by decide) (by omega) (by omega) dX0_write_68 ?_
          refine rg_callV (As := [.int (iI (ag k.toNat)), .int (iI (get (ag k.toNat).toNat))]) (rest := [.long (lI us)]) (wr := [cO b0 0 [.ref b1, .int (iI day)], cJ E b1 300 ent, cO v0 4 [.ref v1, .ref v2, .ref v3, .ref v4, .int (iI out)], cZ E v1 32 th, cI E v2 32 be, cI E v3 32 inf, cJ E v4 32 snt, cO w0 2 [.ref w1, .ref w2, .ref w3, .ref w4, .long (lI rel)], cZ E w1 8 sth, cI E w2 8 srch, cI E w3 8 cap, cI E w4 8 wat, cO p0 1 [.ref p1, .ref p2, .ref p3], cI E p1 40 get, cJ E p2 32 flo, cI E p3 8 roo]) (w' := fun _ => [cO b0 0 [.ref b1, .int (iI day)], cJ E b1 300 ent, cO v0 4 [.ref v1, .ref v2, .ref v3, .ref v4, .int (iI out)], cZ E v1 32 th, cI E v2 32 be, cI E v3 32 inf, cJ E v4 32 snt, cO w0 2 [.ref w1, .ref w2, .ref w3, .ref w4, .long (lI rel)], cZ E w1 8 sth, cI E w2 8 srch, cI E w3 8 cap, cI E w4 8 wat, cO g0 3 [.ref g1, .ref g2, .ref g3, .ref g4, .ref g5, .ref g6, .ref g7, .ref g8, .ref g9, .int (iI cn)], cZ E g1 40 g, cI E g2 40 pl, cI E g3 40 pr, cI E g4 40 ra, cI E g5 40 wn, cI E g6 40 sh, cI E g7 40 rt, cI E g8 40 st, cI E g9 40 ag, cO p0 1 [.ref p1, .ref p2, .ref p3], cI E p1 40 get, cJ E p2 32 flo, cI E p3 8 roo]) C (kX3_usedOf l E g0 g1 g2 g3 g4 g5 g6 g7 g8 g9 g pl pr ra wn sh rt st ag cn (ag k.toNat) (get (ag k.toNat).toNat) (by first | assumption | omega) (by first | assumption | omega) (by first | assumption | omega)) (rcwV C mX3_usedOf w_283 ⟨Nat.le_of_ble_eq_true rfl, Nat.le_of_ble_eq_true rfl⟩) [12, 13, 14, 15, 16, 17, 18, 19, 20, 21] [0, 1, 2, 3, 4, 5, 6, 7, 8, 9, 10, 11, 22, 23, 24, 25] [0, 1, 2, 3, 4, 5, 6, 7, 8, 9, 10, 11, 16, 17, 18, 19, 20, 21, 22, 23, 24, 25, 12, 13, 14, 15] rfl rfl (by decide) (by decide) (by decide) (fun _ => rfl) (by decide) 0 rfl rfl rfl rfl (Nat.le_of_ble_eq_true rfl) dX0_write_69 ⟨Nat.le_of_ble_eq_true rfl, Nat.le_of_ble_eq_true rfl⟩ (fun _ => ?_)
          show rG p l e rX0_write s m args below meth c E A 11 0 0 Q [cO b0 0 [.ref b1, .int (iI day)], cJ E b1 300 ent, cO v0 4 [.ref v1, .ref v2, .ref v3, .ref v4, .int (iI out)], cZ E v1 32 th, cI E v2 32 be, cI E v3 32 inf, cJ E v4 32 snt, cO w0 2 [.ref w1, .ref w2, .ref w3, .ref w4, .long (lI rel)], cZ E w1 8 sth, cI E w2 8 srch, cI E w3 8 cap, cI E w4 8 wat, cO g0 3 [.ref g1, .ref g2, .ref g3, .ref g4, .ref g5, .ref g6, .ref g7, .ref g8, .ref g9, .int (iI cn)], cZ E g1 40 g, cI E g2 40 pl, cI E g3 40 pr, cI E g4 40 ra, cI E g5 40 wn, cI E g6 40 sh, cI E g7 40 rt, cI E g8 40 st, cI E g9 40 ag, cO p0 1 [.ref p1, .ref p2, .ref p3], cI E p1 40 get, cJ E p2 32 flo, cI E p3 8 roo] 72 [(10, .int (iI (ag k.toNat))), (0, .ref b0), (1, .ref v0), (2, .ref w0), (3, .ref g0), (4, .ref p0), (5, .long (lI us)), (7, .long (lI so)), (9, .int (iI k))] [.long (lI ((get (ag k.toNat).toNat) - (get (ag k.toNat).toNat) * sh (ag k.toNat).toNat / 1000)), .long (lI us)]
          refine rg_ladd C dX0_write_72 ?_
          refine rg_lstore (lv' := [(5, .long (lI (us + ((get (ag k.toNat).toNat) - (get (ag k.toNat).toNat) * sh (ag k.toNat).toNat / 1000)))), (10, .int (iI (ag k.toNat))), (0, .ref b0), (1, .ref v0), (2, .ref w0), (3, .ref g0), (4, .ref p0), (7, .long (lI so)), (9, .int (iI k))]) C dX0_write_73 (by decide) rfl ?_
          refine rg_iinc (k := 8) (lv' := [(9, .int (iI (k + 1))), (5, .long (lI (us + ((get (ag k.toNat).toNat) - (get (ag k.toNat).toNat) * sh (ag k.toNat).toNat / 1000)))), (10, .int (iI (ag k.toNat))), (0, .ref b0), (1, .ref v0), (2, .ref w0), (3, .ref g0), (4, .ref p0), (7, .long (lI so))]) C dX0_write_75 rfl (by decide) rfl ?_
          refine rg_goto (tgt := 12) C dX0_write_78 (by decide) ?_
          refine rG.plv [3, 4, 5, 6, 7, 1, 8, 0] rfl ?_
          exact ih (k + 1) (us + ((get (ag k.toNat).toNat) - (get (ag k.toNat).toNat) * sh (ag k.toNat).toNat / 1000)) so (by omega) (by rw [(useS_no h1.1 h_36).1, h3]; omega) (by rw [(useS_no (sh := sh) h1.1 h_36).2, h4]) (by omega)
        · refine rg_lload C 7 dX0_write_39 rfl ?_
          refine rg_aload C 5 dX0_write_41 rfl ?_
          refine rg_get C fX0_35 22 rfl rfl dX0_write_43 ?_
          refine rg_iload C 0 dX0_write_46 rfl ?_
          refine rg_iald C 23 rfl (by decide) (by omega) (by omega) dX0_write_48 ?_
          refine rg_i2l C ⟨by omega, by omega⟩ dX0_write_49 ?_
          refine rg_ladd C dX0_write_50 ?_
          refine rg_lstore (lv' := [(7, .long (lI (so + (get (ag k.toNat).toNat)))), (10, .int (iI (ag k.toNat))), (0, .ref b0), (1, .ref v0), (2, .ref w0), (3, .ref g0), (4, .ref p0), (5, .long (lI us)), (9, .int (iI k))]) C dX0_write_51 (by decide) rfl ?_
          refine rg_goto (tgt := 75) C dX0_write_53 (by decide) ?_
          refine rg_iinc (k := 8) (lv' := [(9, .int (iI (k + 1))), (7, .long (lI (so + (get (ag k.toNat).toNat)))), (10, .int (iI (ag k.toNat))), (0, .ref b0), (1, .ref v0), (2, .ref w0), (3, .ref g0), (4, .ref p0), (5, .long (lI us))]) C dX0_write_75 rfl (by decide) rfl ?_
          refine rg_goto (tgt := 12) C dX0_write_78 (by decide) ?_
          refine rG.plv [3, 4, 5, 6, 7, 8, 1, 0] rfl ?_
          exact ih (k + 1) us (so + (get (ag k.toNat).toNat)) (by omega) (by rw [(useS_yes h1.1 h_36).1, h3]) (by rw [(useS_yes (sh := sh) h1.1 h_36).2, h4]) (by omega)
  show rG p l e rX0_write s m args below meth c E A 11 0 0 Q [cO b0 0 [.ref b1, .int (iI day)], cJ E b1 300 ent, cO v0 4 [.ref v1, .ref v2, .ref v3, .ref v4, .int (iI out)], cZ E v1 32 th, cI E v2 32 be, cI E v3 32 inf, cJ E v4 32 snt, cO w0 2 [.ref w1, .ref w2, .ref w3, .ref w4, .long (lI rel)], cZ E w1 8 sth, cI E w2 8 srch, cI E w3 8 cap, cI E w4 8 wat, cO g0 3 [.ref g1, .ref g2, .ref g3, .ref g4, .ref g5, .ref g6, .ref g7, .ref g8, .ref g9, .int (iI cn)], cZ E g1 40 g, cI E g2 40 pl, cI E g3 40 pr, cI E g4 40 ra, cI E g5 40 wn, cI E g6 40 sh, cI E g7 40 rt, cI E g8 40 st, cI E g9 40 ag, cO p0 1 [.ref p1, .ref p2, .ref p3], cI E p1 40 get, cJ E p2 32 flo, cI E p3 8 roo] 0 [(0, .ref b0), (1, .ref v0), (2, .ref w0), (3, .ref g0), (4, .ref p0)] []
  refine rg_aload_n C 2 dX0_write_0 rfl rfl ?_
  refine rg_get C fX0_15 7 rfl rfl dX0_write_1 ?_
  refine rg_lstore (lv' := [(5, .long (lI rel)), (0, .ref b0), (1, .ref v0), (2, .ref w0), (3, .ref g0), (4, .ref p0)]) C dX0_write_4 (by decide) rfl ?_
  refine rg_lconst (z := 0) C dX0_write_6 (by decide) ?_
  refine rg_lstore (lv' := [(7, .long (lI 0)), (5, .long (lI rel)), (0, .ref b0), (1, .ref v0), (2, .ref w0), (3, .ref g0), (4, .ref p0)]) C dX0_write_7 (by decide) rfl ?_
  refine rg_iconst C dX0_write_9 ?_
  refine rg_istore (lv' := [(9, .int (iI 0)), (7, .long (lI 0)), (5, .long (lI rel)), (0, .ref b0), (1, .ref v0), (2, .ref w0), (3, .ref g0), (4, .ref p0)]) C dX0_write_10 (by decide) rfl ?_
  refine rG.plv [3, 4, 5, 6, 7, 2, 1, 0] rfl ?_
  exact L12 _ 0 rel 0 (by omega) (by show rel = rel + 0; omega) rfl (Nat.lt_succ_self _)
