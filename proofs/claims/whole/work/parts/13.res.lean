abbrev rX4_beginDay : Room := { frames := 1, cells := 0, slots := 0, locals := 24 }
set_option maxHeartbeats 4000000 in
set_option maxRecDepth 100000 in
/-- River.beginDay -/
theorem kX4_beginDay (l : Launch) (E : rE) (v0 : Nat) (v1 : Nat) (v2 : Nat) (v3 : Nat) (v4 : Nat) (th : Nat → Int) (be : Nat → Int) (inf : Nat → Int) (snt : Nat → Int) (out : Int)  : rM l yX4_beginDay sX4_beginDay rX4_beginDay E [cO v0 4 [.ref v1, .ref v2, .ref v3, .ref v4, .int (iI out)], cZ E v1 32 th, cI E v2 32 be, cI E v3 32 inf, cJ E v4 32 snt] [.ref v0] none (fun _ : Unit => [cO v0 4 [.ref v1, .ref v2, .ref v3, .ref v4, .int (iI out)], cZ E v1 32 th, cI E v2 32 be, cI E v3 32 (filZ inf 0 32), cJ E v4 32 (filZ snt 0 32)]) := by
  refine rM.of (cc := cX4_beginDay) (maxL := 1) (ret := none) (by decide) rfl (Nat.le_of_ble_eq_true rfl) (fun w h => List.mem_cons_of_mem _ h) ?_
  intro p e s m args below meth c A Q hA hQ C hr hlk hnm
  have C : rC p s m args c E A 1 cX4_beginDay sX4_beginDay RX4 := C
  show rG p l e rX4_beginDay s m args below meth c E A 1 0 0 Q [cO v0 4 [.ref v1, .ref v2, .ref v3, .ref v4, .int (iI out)], cZ E v1 32 th, cI E v2 32 be, cI E v3 32 inf, cJ E v4 32 snt] 0 [(0, .ref v0)] []
  refine rg_aload_n C 0 dX4_beginDay_0 rfl rfl ?_
  refine rg_get C fX4_19 0 rfl rfl dX4_beginDay_1 ?_
  refine rg_iconst C dX4_beginDay_4 ?_
  refine rg_callS (As := [.ref v3, .int (iI 0)]) (rest := []) (wr := [cO v0 4 [.ref v1, .ref v2, .ref v3, .ref v4, .int (iI out)], cZ E v1 32 th, cI E v2 32 be, cJ E v4 32 snt]) (w' := fun _ => [cO v0 4 [.ref v1, .ref v2, .ref v3, .ref v4, .int (iI out)], cZ E v1 32 th, cI E v2 32 be, cI E v3 32 (filZ inf 0 32), cJ E v4 32 snt]) C (kJA_fillI32 l E v3 inf 0) (rcwS C mJA_fillI w_303 ⟨Nat.le_of_ble_eq_true rfl, Nat.le_of_ble_eq_true rfl⟩) [3] [0, 1, 2, 4] [0, 1, 2, 4, 3] rfl rfl (by decide) (by decide) (by decide) (fun _ => rfl) (by decide) rfl rfl (Nat.le_of_ble_eq_true rfl) dX4_beginDay_5 ⟨Nat.le_of_ble_eq_true rfl, Nat.le_of_ble_eq_true rfl⟩ (fun _ => ?_)
  show rG p l e rX4_beginDay s m args below meth c E A 1 0 0 Q [cO v0 4 [.ref v1, .ref v2, .ref v3, .ref v4, .int (iI out)], cZ E v1 32 th, cI E v2 32 be, cI E v3 32 (filZ inf 0 32), cJ E v4 32 snt] 8 [(0, .ref v0)] []
  refine rg_aload_n C 0 dX4_beginDay_8 rfl rfl ?_
  refine rg_get C fX4_22 0 rfl rfl dX4_beginDay_9 ?_
  refine rg_lconst (z := 0) C dX4_beginDay_12 (by decide) ?_
  refine rg_callS (As := [.ref v4, .long (lI 0)]) (rest := []) (wr := [cO v0 4 [.ref v1, .ref v2, .ref v3, .ref v4, .int (iI out)], cZ E v1 32 th, cI E v2 32 be, cI E v3 32 (filZ inf 0 32)]) (w' := fun _ => [cO v0 4 [.ref v1, .ref v2, .ref v3, .ref v4, .int (iI out)], cZ E v1 32 th, cI E v2 32 be, cI E v3 32 (filZ inf 0 32), cJ E v4 32 (filZ snt 0 32)]) C (kJA_fillJ32 l E v4 snt 0) (rcwS C mJA_fillJ w_304 ⟨Nat.le_of_ble_eq_true rfl, Nat.le_of_ble_eq_true rfl⟩) [4] [0, 1, 2, 3] [0, 1, 2, 3, 4] rfl rfl (by decide) (by decide) (by decide) (fun _ => rfl) (by decide) rfl rfl (Nat.le_of_ble_eq_true rfl) dX4_beginDay_13 ⟨Nat.le_of_ble_eq_true rfl, Nat.le_of_ble_eq_true rfl⟩ (fun _ => ?_)
  show rG p l e rX4_beginDay s m args below meth c E A 1 0 0 Q [cO v0 4 [.ref v1, .ref v2, .ref v3, .ref v4, .int (iI out)], cZ E v1 32 th, cI E v2 32 be, cI E v3 32 (filZ inf 0 32), cJ E v4 32 (filZ snt 0 32)] 16 [(0, .ref v0)] []
  exact rg_vret C hA hQ hr hlk () rfl rfl dX4_beginDay_16
abbrev rX2_add : Room := { frames := 0, cells := 0, slots := 0, locals := 0 }
set_option maxHeartbeats 4000000 in
set_option maxRecDepth 100000 in
/-- Reservoirs.add -/
theorem kX2_add (l : Launch) (E : rE) (w0 : Nat) (w1 : Nat) (w2 : Nat) (w3 : Nat) (w4 : Nat) (sth : Nat → Int) (srch : Nat → Int) (cap : Nat → Int) (wat : Nat → Int) (rel : Int) (r : Int) (a : Int) (b : Int) (hri : 0 ≤ r ∧ r < 8) : rM l yX2_add sX2_add rX2_add E [cO w0 2 [.ref w1, .ref w2, .ref w3, .ref w4, .long (lI rel)], cZ E w1 8 sth, cI E w2 8 srch, cI E w3 8 cap, cI E w4 8 wat] [.ref w0, .int (iI r), .int (iI a), .int (iI b)] none (fun _ : Unit => [cO w0 2 [.ref w1, .ref w2, .ref w3, .ref w4, .long (lI rel)], cZ E w1 8 (uZ sth r.toNat 1), cI E w2 8 (uZ srch r.toNat a), cI E w3 8 (uZ cap r.toNat b), cI E w4 8 wat]) := by
  refine rM.of (cc := cX2_add) (maxL := 4) (ret := none) (by decide) rfl (Nat.le_of_ble_eq_true rfl) (fun w h => List.mem_cons_of_mem _ h) ?_
  intro p e s m args below meth c A Q hA hQ C hr hlk hnm
  have C : rC p s m args c E A 4 cX2_add sX2_add RX2 := C
  show rG p l e rX2_add s m args below meth c E A 4 0 0 Q [cO w0 2 [.ref w1, .ref w2, .ref w3, .ref w4, .long (lI rel)], cZ E w1 8 sth, cI E w2 8 srch, cI E w3 8 cap, cI E w4 8 wat] 0 [(0, .ref w0), (1, .int (iI r)), (2, .int (iI a)), (3, .int (iI b))] []
  refine rg_aload_n C 0 dX2_add_0 rfl rfl ?_
  refine rg_get C fX2_9 0 rfl rfl dX2_add_1 ?_
  refine rg_iload_n C 1 dX2_add_4 rfl rfl ?_
  refine rg_iconst C dX2_add_5 ?_
  refine rg_zast (ws' := [cO w0 2 [.ref w1, .ref w2, .ref w3, .ref w4, .long (lI rel)], cZ E w1 8 (uZ sth r.toNat 1), cI E w2 8 srch, cI E w3 8 cap, cI E w4 8 wat]) C 1 rfl (by decide) (by omega) (by omega) (by decide) dX2_add_6 rfl ?_
  refine rg_aload_n C 0 dX2_add_7 rfl rfl ?_
  refine rg_get C fX2_15 0 rfl rfl dX2_add_8 ?_
  refine rg_iload_n C 1 dX2_add_11 rfl rfl ?_
  refine rg_iload_n C 2 dX2_add_12 rfl rfl ?_
  refine rg_iast (ws' := [cO w0 2 [.ref w1, .ref w2, .ref w3, .ref w4, .long (lI rel)], cZ E w1 8 (uZ sth r.toNat 1), cI E w2 8 (uZ srch r.toNat a), cI E w3 8 cap, cI E w4 8 wat]) C 2 rfl (by decide) (by omega) (by omega) dX2_add_13 rfl ?_
  refine rg_aload_n C 0 dX2_add_14 rfl rfl ?_
  refine rg_get C fX2_19 0 rfl rfl dX2_add_15 ?_
  refine rg_iload_n C 1 dX2_add_18 rfl rfl ?_
  refine rg_iload_n C 3 dX2_add_19 rfl rfl ?_
  refine rg_iast (ws' := [cO w0 2 [.ref w1, .ref w2, .ref w3, .ref w4, .long (lI rel)], cZ E w1 8 (uZ sth r.toNat 1), cI E w2 8 (uZ srch r.toNat a), cI E w3 8 (uZ cap r.toNat b), cI E w4 8 wat]) C 3 rfl (by decide) (by omega) (by omega) dX2_add_20 rfl ?_
  exact rg_vret C hA hQ hr hlk () rfl rfl dX2_add_21
abbrev rX2_letOut : Room := { frames := 0, cells := 0, slots := 0, locals := 0 }
set_option maxHeartbeats 4000000 in
set_option maxRecDepth 100000 in
/-- Reservoirs.letOut -/
theorem kX2_letOut (l : Launch) (E : rE) (w0 : Nat) (w1 : Nat) (w2 : Nat) (w3 : Nat) (w4 : Nat) (sth : Nat → Int) (srch : Nat → Int) (cap : Nat → Int) (wat : Nat → Int) (rel : Int) (r : Int) (a : Int) (hri : 0 ≤ r ∧ r < 8) (ha : inI a) : rM l yX2_letOut sX2_letOut rX2_letOut E [cO w0 2 [.ref w1, .ref w2, .ref w3, .ref w4, .long (lI rel)], cZ E w1 8 sth, cI E w2 8 srch, cI E w3 8 cap, cI E w4 8 wat] [.ref w0, .int (iI r), .int (iI a)] none (fun _ : Unit => [cO w0 2 [.ref w1, .ref w2, .ref w3, .ref w4, .long (lI (rel + a))], cZ E w1 8 sth, cI E w2 8 srch, cI E w3 8 cap, cI E w4 8 (uZ wat r.toNat (wat r.toNat - a))]) := by
  refine rM.of (cc := cX2_letOut) (maxL := 3) (ret := none) (by decide) rfl (Nat.le_of_ble_eq_true rfl) (fun w h => List.mem_cons_of_mem _ h) ?_
  intro p e s m args below meth c A Q hA hQ C hr hlk hnm
  have C : rC p s m args c E A 3 cX2_letOut sX2_letOut RX2 := C
  show rG p l e rX2_letOut s m args below meth c E A 3 0 0 Q [cO w0 2 [.ref w1, .ref w2, .ref w3, .ref w4, .long (lI rel)], cZ E w1 8 sth, cI E w2 8 srch, cI E w3 8 cap, cI E w4 8 wat] 0 [(0, .ref w0), (1, .int (iI r)), (2, .int (iI a))] []
  refine rg_aload_n C 0 dX2_letOut_0 rfl rfl ?_
  refine rg_get C fX2_22 0 rfl rfl dX2_letOut_1 ?_
  refine rg_iload_n C 1 dX2_letOut_4 rfl rfl ?_
  refine rg_dup2 C dX2_letOut_5 rfl rfl ?_
  refine rg_iald C 4 rfl (by decide) (by omega) (by omega) dX2_letOut_6 ?_
  refine rg_iload_n C 2 dX2_letOut_7 rfl rfl ?_
  refine rg_isub C dX2_letOut_8 ?_
  refine rg_iast (ws' := [cO w0 2 [.ref w1, .ref w2, .ref w3, .ref w4, .long (lI rel)], cZ E w1 8 sth, cI E w2 8 srch, cI E w3 8 cap, cI E w4 8 (uZ wat r.toNat ((wat r.toNat) - a))]) C 4 rfl (by decide) (by omega) (by omega) dX2_letOut_9 rfl ?_
  refine rg_aload_n C 0 dX2_letOut_10 rfl rfl ?_
  refine rg_dup C dX2_letOut_11 rfl ?_
  refine rg_get C fX2_25 0 rfl rfl dX2_letOut_12 ?_
  refine rg_iload_n C 2 dX2_letOut_15 rfl rfl ?_
  refine rg_i2l C ha dX2_letOut_16 ?_
  refine rg_ladd C dX2_letOut_17 ?_
  refine rg_put (ws' := [cO w0 2 [.ref w1, .ref w2, .ref w3, .ref w4, .long (lI (rel + a))], cZ E w1 8 sth, cI E w2 8 srch, cI E w3 8 cap, cI E w4 8 (uZ wat r.toNat ((wat r.toNat) - a))]) C fX2_25 layX2 rfl 0 rfl rfl rfl (Nat.le_of_ble_eq_true rfl) dX2_letOut_18 rfl ?_
  exact rg_vret C hA hQ hr hlk () rfl rfl dX2_letOut_21
abbrev rX2_beginDay : Room := { frames := 1, cells := 0, slots := 0, locals := 21 }
set_option maxHeartbeats 4000000 in
set_option maxRecDepth 100000 in
/-- Reservoirs.beginDay -/
theorem kX2_beginDay (l : Launch) (E : rE) (w0 : Nat) (w1 : Nat) (w2 : Nat) (w3 : Nat) (w4 : Nat) (sth : Nat → Int) (srch : Nat → Int) (cap : Nat → Int) (wat : Nat → Int) (rel : Int) (g0 : Nat) (g1 : Nat) (g2 : Nat) (g3 : Nat) (g4 : Nat) (g5 : Nat) (g6 : Nat) (g7 : Nat) (g8 : Nat) (g9 : Nat) (g : Nat → Int) (pl : Nat → Int) (pr : Nat → Int) (ra : Nat → Int) (wn : Nat → Int) (sh : Nat → Int) (rt : Nat → Int) (st : Nat → Int) (ag : Nat → Int) (cn : Int) (p0 : Nat) (p1 : Nat) (p2 : Nat) (p3 : Nat) (get : Nat → Int) (flo : Nat → Int) (roo : Nat → Int) (hag : ∀ j : Nat, (j : Int) < cn → 0 ≤ ag j ∧ ag j < 40) (hst : ∀ i : Nat, i < 40 → -1 ≤ st i ∧ st i < 8) (hcn : 0 ≤ cn ∧ cn ≤ 40) : rM l yX2_beginDay sX2_beginDay rX2_beginDay E [cO w0 2 [.ref w1, .ref w2, .ref w3, .ref w4, .long (lI rel)], cZ E w1 8 sth, cI E w2 8 srch, cI E w3 8 cap, cI E w4 8 wat, cO g0 3 [.ref g1, .ref g2, .ref g3, .ref g4, .ref g5, .ref g6, .ref g7, .ref g8, .ref g9, .int (iI cn)], cZ E g1 40 g, cI E g2 40 pl, cI E g3 40 pr, cI E g4 40 ra, cI E g5 40 wn, cI E g6 40 sh, cI E g7 40 rt, cI E g8 40 st, cI E g9 40 ag, cO p0 1 [.ref p1, .ref p2, .ref p3], cI E p1 40 get, cJ E p2 32 flo, cI E p3 8 roo] [.ref w0, .ref g0, .ref p0] none (fun _ : Unit => [cO w0 2 [.ref w1, .ref w2, .ref w3, .ref w4, .long (lI 0)], cZ E w1 8 sth, cI E w2 8 srch, cI E w3 8 cap, cI E w4 8 (watZ st ag get wat cn.toNat), cO g0 3 [.ref g1, .ref g2, .ref g3, .ref g4, .ref g5, .ref g6, .ref g7, .ref g8, .ref g9, .int (iI cn)], cZ E g1 40 g, cI E g2 40 pl, cI E g3 40 pr, cI E g4 40 ra, cI E g5 40 wn, cI E g6 40 sh, cI E g7 40 rt, cI E g8 40 st, cI E g9 40 ag, cO p0 1 [.ref p1, .ref p2, .ref p3], cI E p1 40 get, cJ E p2 32 flo, cI E p3 8 roo]) := by
  refine rM.of (cc := cX2_beginDay) (maxL := 5) (ret := none) (by decide) rfl (Nat.le_of_ble_eq_true rfl) (fun w h => List.mem_cons_of_mem _ h) ?_
  intro p e s m args below meth c A Q hA hQ C hr hlk hnm
  have C : rC p s m args c E A 5 cX2_beginDay sX2_beginDay RX2 := C
  have L2 : ∀ (n : Nat) (k : Int) (w : Nat → Int), (0 ≤ k ∧ k ≤ cn) → (w = watZ st ag get wat k.toNat) → ((cn - k).toNat < n) → rG p l e rX2_beginDay s m args below meth c E A 5 0 0 Q [cO w0 2 [.ref w1, .ref w2, .ref w3, .ref w4, .long (lI rel)], cZ E w1 8 sth, cI E w2 8 srch, cI E w3 8 cap, cI E w4 8 w, cO g0 3 [.ref g1, .ref g2, .ref g3, .ref g4, .ref g5, .ref g6, .ref g7, .ref g8, .ref g9, .int (iI cn)], cZ E g1 40 g, cI E g2 40 pl, cI E g3 40 pr, cI E g4 40 ra, cI E g5 40 wn, cI E g6 40 sh, cI E g7 40 rt, cI E g8 40 st, cI E g9 40 ag, cO p0 1 [.ref p1, .ref p2, .ref p3], cI E p1 40 get, cJ E p2 32 flo, cI E p3 8 roo] 2 [(0, .ref w0), (1, .ref g0), (2, .ref p0), (3, .int (iI k))] [] := by
    intro n
    induction n with
    | zero => intro k w h1 h3 hm; exact absurd hm (Nat.not_lt_zero _)
    | succ n ih =>
      intro k w h1 h3 hm
      refine rg_iload_n C 3 dX2_beginDay_2 rfl rfl ?_
      refine rg_aload_n C 1 dX2_beginDay_3 rfl rfl ?_
      refine rg_get C fX2_29 5 rfl rfl dX2_beginDay_4 ?_
      refine rg_icmp_ge (tgt := 55) C ⟨by omega, by omega⟩ ⟨by omega, by omega⟩ dX2_beginDay_7 (by decide) (fun h_7 => ?_) (fun h_7 => ?_)
      · refine rg_aload_n C 0 dX2_beginDay_55 rfl rfl ?_
        refine rg_lconst (z := 0) C dX2_beginDay_56 (by decide) ?_
        refine rg_put (ws' := [cO w0 2 [.ref w1, .ref w2, .ref w3, .ref w4, .long (lI 0)], cZ E w1 8 sth, cI E w2 8 srch, cI E w3 8 cap, cI E w4 8 w, cO g0 3 [.ref g1, .ref g2, .ref g3, .ref g4, .ref g5, .ref g6, .ref g7, .ref g8, .ref g9, .int (iI cn)], cZ E g1 40 g, cI E g2 40 pl, cI E g3 40 pr, cI E g4 40 ra, cI E g5 40 wn, cI E g6 40 sh, cI E g7 40 rt, cI E g8 40 st, cI E g9 40 ag, cO p0 1 [.ref p1, .ref p2, .ref p3], cI E p1 40 get, cJ E p2 32 flo, cI E p3 8 roo]) C fX2_25 layX2 rfl 0 rfl rfl rfl (Nat.le_of_ble_eq_true rfl) dX2_beginDay_57 rfl ?_
        exact rg_vret C hA hQ hr hlk () (by rw [h3, show k.toNat = cn.toNat by omega]) rfl dX2_beginDay_60
      · refine rg_aload_n C 1 dX2_beginDay_10 rfl rfl ?_
        refine rg_get C fX2_35 5 rfl rfl dX2_beginDay_11 ?_
        refine rg_iload_n C 3 dX2_beginDay_14 rfl rfl ?_
        refine rg_iald C 14 rfl (by decide) (by omega) (by omega) dX2_beginDay_15 ?_
        refine rg_istore (lv' := [(4, .int (iI (ag k.toNat))), (0, .ref w0), (1, .ref g0), (2, .ref p0), (3, .int (iI k))]) C dX2_beginDay_16 (by decide) rfl ?_
        have ha9 := hag k.toNat (by omega)
        have hs9 := hst (ag k.toNat).toNat (by omega)
        refine rg_aload_n C 2 dX2_beginDay_18 rfl rfl ?_
        refine rg_iload C 0 dX2_beginDay_19 rfl ?_
        refine rg_callV (As := [.int (iI (ag k.toNat))]) (rest := []) (wr := [cO w0 2 [.ref w1, .ref w2, .ref w3, .ref w4, .long (lI rel)], cZ E w1 8 sth, cI E w2 8 srch, cI E w3 8 cap, cI E w4 8 w, cO p0 1 [.ref p1, .ref p2, .ref p3], cI E p1 40 get, cJ E p2 32 flo, cI E p3 8 roo]) (w' := fun _ => [cO w0 2 [.ref w1, .ref w2, .ref w3, .ref w4, .long (lI rel)], cZ E w1 8 sth, cI E w2 8 srch, cI E w3 8 cap, cI E w4 8 w, cO g0 3 [.ref g1, .ref g2, .ref g3, .ref g4, .ref g5, .ref g6, .ref g7, .ref g8, .ref g9, .int (iI cn)], cZ E g1 40 g, cI E g2 40 pl, cI E g3 40 pr, cI E g4 40 ra, cI E g5 40 wn, cI E g6 40 sh, cI E g7 40 rt, cI E g8 40 st, cI E g9 40 ag, cO p0 1 [.ref p1, .ref p2, .ref p3], cI E p1 40 get, cJ E p2 32 flo, cI E p3 8 roo]) C (kX3_isStorage l E g0 g1 g2 g3 g4 g5 g6 g7 g8 g9 g pl pr ra wn sh rt st ag cn (ag k.toNat) (by first | assumption | omega) (fun i hi => ⟨by have := hst i hi; omega, by have := hst i hi; omega⟩)) (rcwV C mX3_isStorage w_298 ⟨Nat.le_of_ble_eq_true rfl, Nat.le_of_ble_eq_true rfl⟩) [5, 6, 7, 8, 9, 10, 11, 12, 13, 14] [0, 1, 2, 3, 4, 15, 16, 17, 18] [0, 1, 2, 3, 4, 9, 10, 11, 12, 13, 14, 15, 16, 17, 18, 5, 6, 7, 8] rfl rfl (by decide) (by decide) (by decide) (fun _ => rfl) (by decide) 0 rfl rfl rfl rfl (Nat.le_of_ble_eq_true rfl) dX2_beginDay_21 ⟨Nat.le_of_ble_eq_true rfl, Nat.le_of_ble_eq_true rfl⟩ (fun _ => ?_)
        show rG p l e rX2_beginDay s m args below meth c E A 5 0 0 Q [cO w0 2 [.ref w1, .ref w2, .ref w3, .ref w4, .long (lI rel)], cZ E w1 8 sth, cI E w2 8 srch, cI E w3 8 cap, cI E w4 8 w, cO g0 3 [.ref g1, .ref g2, .ref g3, .ref g4, .ref g5, .ref g6, .ref g7, .ref g8, .ref g9, .int (iI cn)], cZ E g1 40 g, cI E g2 40 pl, cI E g3 40 pr, cI E g4 40 ra, cI E g5 40 wn, cI E g6 40 sh, cI E g7 40 rt, cI E g8 40 st, cI E g9 40 ag, cO p0 1 [.ref p1, .ref p2, .ref p3], cI E p1 40 get, cJ E p2 32 flo, cI E p3 8 roo] 24 [(4, .int (iI (ag k.toNat))), (0, .ref w0), (1, .ref g0), (2, .ref p0), (3, .int (iI k))] [.int (iI (bZ (decide (st (ag k.toNat).toNat ≠ -1))))]
        refine rg_if_eq (tgt := 49) C (bZ_in _) dX2_beginDay_24 (by decide) (fun h_24 => ?_) (fun h_24 => ?_)
        · refine rg_iinc (k := 4) (lv' := [(3, .int (iI (k + 1))), (4, .int (iI (ag k.toNat))), (0, .ref w0), (1, .ref g0), (2, .ref p0)]) C dX2_beginDay_49 rfl (by decide) rfl ?_
          refine rg_goto (tgt := 2) C dX2_beginDay_52 (by decide) ?_
          refine rG.plv [2, 3, 4, 0] rfl ?_
          exact ih (k + 1) w (by omega) (h3.trans (watZ_no h1.1 h_24).symm) (by omega)
        · have hs8 : st (ag k.toNat).toNat ≠ -1 := Decidable.byContradiction fun q => h_24 (dec0.mpr q)
          refine rg_aload_n C 1 dX2_beginDay_27 rfl rfl ?_
          refine rg_get C fX2_22 0 rfl rfl dX2_beginDay_28 ?_
          refine rg_aload_n C 2 dX2_beginDay_31 rfl rfl ?_
          refine rg_get C fX2_42 5 rfl rfl dX2_beginDay_32 ?_
          refine rg_iload C 0 dX2_beginDay_35 rfl ?_
          refine rg_iald C 13 rfl (by decide) (by omega) (by omega) dX2_beginDay_37 ?_
          refine rg_dup2 C dX2_beginDay_38 rfl rfl ?_
          refine rg_iald C 4 rfl (by decide) (by omega) (by omega) dX2_beginDay_39 ?_
          refine rg_aload_n C 3 dX2_beginDay_40 rfl rfl ?_
          refine rg_get C fX2_45 15 rfl rfl dX2_beginDay_41 ?_
          refine rg_iload C 0 dX2_beginDay_44 rfl ?_
          refine rg_iald C 16 rfl (by decide) (by omega) (by omega) dX2_beginDay_46 ?_
          refine rg_iadd C dX2_beginDay_47 ?_
          refine rg_iast (ws' := [cO w0 2 [.ref w1, .ref w2, .ref w3, .ref w4, .long (lI rel)], cZ E w1 8 sth, cI E w2 8 srch, cI E w3 8 cap, cI E w4 8 (uZ w (st (ag k.toNat).toNat).toNat ((w (st (ag k.toNat).toNat).toNat) + (get (ag k.toNat).toNat))), cO g0 3 [.ref g1, .ref g2, .ref g3, .ref g4, .ref g5, .ref g6, .ref g7, .ref g8, .ref g9, .int (iI cn)], cZ E g1 40 g, cI E g2 40 pl, cI E g3 40 pr, cI E g4 40 ra, cI E g5 40 wn, cI E g6 40 sh, cI E g7 40 rt, cI E g8 40 st, cI E g9 40 ag, cO p0 1 [.ref p1, .ref p2, .ref p3], cI E p1 40 get, cJ E p2 32 flo, cI E p3 8 roo]) C 4 rfl (by decide) (by omega) (by omega) dX2_beginDay_48 rfl ?_
          refine rg_iinc (k := 4) (lv' := [(3, .int (iI (k + 1))), (4, .int (iI (ag k.toNat))), (0, .ref w0), (1, .ref g0), (2, .ref p0)]) C dX2_beginDay_49 rfl (by decide) rfl ?_
          refine rg_goto (tgt := 2) C dX2_beginDay_52 (by decide) ?_
          refine rG.plv [2, 3, 4, 0] rfl ?_
          exact ih (k + 1) (uZ w (st (ag k.toNat).toNat).toNat ((w (st (ag k.toNat).toNat).toNat) + (get (ag k.toNat).toNat))) (by omega) (by rw [watZ_yes h1.1 h_24, ← h3]) (by omega)
  show rG p l e rX2_beginDay s m args below meth c E A 5 0 0 Q [cO w0 2 [.ref w1, .ref w2, .ref w3, .ref w4, .long (lI rel)], cZ E w1 8 sth, cI E w2 8 srch, cI E w3 8 cap, cI E w4 8 wat, cO g0 3 [.ref g1, .ref g2, .ref g3, .ref g4, .ref g5, .ref g6, .ref g7, .ref g8, .ref g9, .int (iI cn)], cZ E g1 40 g, cI E g2 40 pl, cI E g3 40 pr, cI E g4 40 ra, cI E g5 40 wn, cI E g6 40 sh, cI E g7 40 rt, cI E g8 40 st, cI E g9 40 ag, cO p0 1 [.ref p1, .ref p2, .ref p3], cI E p1 40 get, cJ E p2 32 flo, cI E p3 8 roo] 0 [(0, .ref w0), (1, .ref g0), (2, .ref p0)] []
  refine rg_iconst C dX2_beginDay_0 ?_
  refine rg_istore_n (lv' := [(3, .int (iI 0)), (0, .ref w0), (1, .ref g0), (2, .ref p0)]) C dX2_beginDay_1 rfl (by decide) rfl ?_
  refine rG.plv [1, 2, 3, 0] rfl ?_
  exact L2 _ 0 wat (by omega) rfl (Nat.lt_succ_self _)
