abbrev rX1_giveAllBut : Room := { frames := 2, cells := 0, slots := 0, locals := 52 }
set_option maxHeartbeats 4000000 in
set_option maxRecDepth 100000 in
/-- Plan.giveAllBut -/
theorem kX1_giveAllBut (l : Launch) (E : rE) (p0 : Nat) (p1 : Nat) (p2 : Nat) (p3 : Nat) (get : Nat → Int) (flo : Nat → Int) (roo : Nat → Int) (v0 : Nat) (v1 : Nat) (v2 : Nat) (v3 : Nat) (v4 : Nat) (th : Nat → Int) (be : Nat → Int) (inf : Nat → Int) (snt : Nat → Int) (out : Int) (g0 : Nat) (g1 : Nat) (g2 : Nat) (g3 : Nat) (g4 : Nat) (g5 : Nat) (g6 : Nat) (g7 : Nat) (g8 : Nat) (g9 : Nat) (g : Nat → Int) (pl : Nat → Int) (pr : Nat → Int) (ra : Nat → Int) (wn : Nat → Int) (sh : Nat → Int) (rt : Nat → Int) (st : Nat → Int) (ag : Nat → Int) (cn : Int) (po : Int) (hbe : ∀ r : Nat, r < 32 → -1 ≤ be r ∧ be r < 32) (hst : ∀ i : Nat, i < 40 → -1 ≤ st i ∧ st i < 8) (hag : ∀ j : Nat, (j : Int) < cn → 0 ≤ ag j ∧ ag j < 40) (hcn : 0 ≤ cn ∧ cn ≤ 40) (hrok : ∀ j : Nat, (j : Int) < cn → rOk be pl sh rt st wn (ag j).toNat) (hplo : plOk flo roo) (hpo : inI po) : rM l yX1_giveAllBut sX1_giveAllBut rX1_giveAllBut E [cO p0 1 [.ref p1, .ref p2, .ref p3], cI E p1 40 get, cJ E p2 32 flo, cI E p3 8 roo, cO v0 4 [.ref v1, .ref v2, .ref v3, .ref v4, .int (iI out)], cZ E v1 32 th, cI E v2 32 be, cI E v3 32 inf, cJ E v4 32 snt, cO g0 3 [.ref g1, .ref g2, .ref g3, .ref g4, .ref g5, .ref g6, .ref g7, .ref g8, .ref g9, .int (iI cn)], cZ E g1 40 g, cI E g2 40 pl, cI E g3 40 pr, cI E g4 40 ra, cI E g5 40 wn, cI E g6 40 sh, cI E g7 40 rt, cI E g8 40 st, cI E g9 40 ag] [.ref p0, .ref v0, .ref g0, .int (iI po)] none (fun _ : Unit => [cO p0 1 [.ref p1, .ref p2, .ref p3], cI E p1 40 ((gab be pl sh rt st wn ag po cn.toNat (get, flo, roo)).1), cJ E p2 32 ((gab be pl sh rt st wn ag po cn.toNat (get, flo, roo)).2.1), cI E p3 8 ((gab be pl sh rt st wn ag po cn.toNat (get, flo, roo)).2.2), cO v0 4 [.ref v1, .ref v2, .ref v3, .ref v4, .int (iI out)], cZ E v1 32 th, cI E v2 32 be, cI E v3 32 inf, cJ E v4 32 snt, cO g0 3 [.ref g1, .ref g2, .ref g3, .ref g4, .ref g5, .ref g6, .ref g7, .ref g8, .ref g9, .int (iI cn)], cZ E g1 40 g, cI E g2 40 pl, cI E g3 40 pr, cI E g4 40 ra, cI E g5 40 wn, cI E g6 40 sh, cI E g7 40 rt, cI E g8 40 st, cI E g9 40 ag]) := by
  refine rM.of (cc := cX1_giveAllBut) (maxL := 6) (ret := none) (by decide) rfl (Nat.le_of_ble_eq_true rfl) (fun w h => List.mem_cons_of_mem _ h) ?_
  intro p e s m args below meth c A Q hA hQ C hr hlk hnm
  have C : rC p s m args c E A 6 cX1_giveAllBut sX1_giveAllBut RX1 := C
  have L3 : ∀ (n : Nat) (k : Int) (x : T3), (0 ≤ k ∧ k ≤ cn) → (plOk x.2.1 x.2.2) → (x = gab be pl sh rt st wn ag po k.toNat (get, flo, roo)) → ((cn - k).toNat < n) → rG p l e rX1_giveAllBut s m args below meth c E A 6 0 0 Q [cO p0 1 [.ref p1, .ref p2, .ref p3], cI E p1 40 x.1, cJ E p2 32 x.2.1, cI E p3 8 x.2.2, cO v0 4 [.ref v1, .ref v2, .ref v3, .ref v4, .int (iI out)], cZ E v1 32 th, cI E v2 32 be, cI E v3 32 inf, cJ E v4 32 snt, cO g0 3 [.ref g1, .ref g2, .ref g3, .ref g4, .ref g5, .ref g6, .ref g7, .ref g8, .ref g9, .int (iI cn)], cZ E g1 40 g, cI E g2 40 pl, cI E g3 40 pr, cI E g4 40 ra, cI E g5 40 wn, cI E g6 40 sh, cI E g7 40 rt, cI E g8 40 st, cI E g9 40 ag] 3 [(0, .ref p0), (1, .ref v0), (2, .ref g0), (3, .int (iI po)), (4, .int (iI k))] [] := by
    intro n
    induction n with
    | zero => intro k x h1 h5 h3 hm; exact absurd hm (Nat.not_lt_zero _)
    | succ n ih =>
      intro k x h1 h5 h3 hm
      refine rg_iload C 4 dX1_giveAllBut_3 rfl ?_
      refine rg_aload_n C 2 dX1_giveAllBut_5 rfl rfl ?_
      refine rg_get C fX1_51 9 rfl rfl dX1_giveAllBut_6 ?_
      refine rg_icmp_ge (tgt := 49) C ⟨by omega, by omega⟩ ⟨by omega, by omega⟩ dX1_giveAllBut_9 (by decide) (fun h_9 => ?_) (fun h_9 => ?_)
      · exact rg_vret C hA hQ hr hlk () (by rw [h3, show k.toNat = cn.toNat by omega]) rfl dX1_giveAllBut_49
      · have ha9 := hag k.toNat (by omega)
        have hR := hrok k.toNat (by omega)
        obtain ⟨r1, r2, r3, r4, r5, r6⟩ := id hR
        refine rg_aload_n C 2 dX1_giveAllBut_12 rfl rfl ?_
        refine rg_get C fX1_57 9 rfl rfl dX1_giveAllBut_13 ?_
        refine rg_iload C 4 dX1_giveAllBut_16 rfl ?_
        refine rg_iald C 18 rfl (by decide) (by omega) (by omega) dX1_giveAllBut_18 ?_
        refine rg_istore (lv' := [(5, .int (iI (ag k.toNat))), (0, .ref p0), (1, .ref v0), (2, .ref g0), (3, .int (iI po)), (4, .int (iI k))]) C dX1_giveAllBut_19 (by decide) rfl ?_
        refine rg_iload C 0 dX1_giveAllBut_21 rfl ?_
        refine rg_iload_n C 4 dX1_giveAllBut_23 rfl rfl ?_
        refine rg_icmp_eq (tgt := 43) C ⟨by omega, by omega⟩ hpo dX1_giveAllBut_24 (by decide) (fun h_24 => ?_) (fun h_24 => ?_)
        · refine rg_iinc (k := 5) (lv' := [(4, .int (iI (k + 1))), (5, .int (iI (ag k.toNat))), (0, .ref p0), (1, .ref v0), (2, .ref g0), (3, .int (iI po))]) C dX1_giveAllBut_43 rfl (by decide) rfl ?_
          refine rg_goto (tgt := 3) C dX1_giveAllBut_46 (by decide) ?_
          refine rG.plv [2, 3, 4, 5, 0] rfl ?_
          exact ih (k + 1) x (by omega) h5 (h3.trans (gab_no h1.1 h_24).symm) (by omega)
        · refine rg_aload_n C 1 dX1_giveAllBut_27 rfl rfl ?_
          refine rg_aload_n C 2 dX1_giveAllBut_28 rfl rfl ?_
          refine rg_aload_n C 3 dX1_giveAllBut_29 rfl rfl ?_
          refine rg_iload C 0 dX1_giveAllBut_30 rfl ?_
          refine rg_aload_n C 1 dX1_giveAllBut_32 rfl rfl ?_
          refine rg_aload_n C 2 dX1_giveAllBut_33 rfl rfl ?_
          refine rg_aload_n C 3 dX1_giveAllBut_34 rfl rfl ?_
          refine rg_iload C 0 dX1_giveAllBut_35 rfl ?_
          refine rg_callV (As := [.ref v0, .ref g0, .int (iI (ag k.toNat))]) (rest := [.int (iI (ag k.toNat)), .ref g0, .ref v0, .ref p0]) (wr := []) (w' := fun _ => [cO p0 1 [.ref p1, .ref p2, .ref p3], cI E p1 40 x.1, cJ E p2 32 x.2.1, cI E p3 8 x.2.2, cO v0 4 [.ref v1, .ref v2, .ref v3, .ref v4, .int (iI out)], cZ E v1 32 th, cI E v2 32 be, cI E v3 32 inf, cJ E v4 32 snt, cO g0 3 [.ref g1, .ref g2, .ref g3, .ref g4, .ref g5, .ref g6, .ref g7, .ref g8, .ref g9, .int (iI cn)], cZ E g1 40 g, cI E g2 40 pl, cI E g3 40 pr, cI E g4 40 ra, cI E g5 40 wn, cI E g6 40 sh, cI E g7 40 rt, cI E g8 40 st, cI E g9 40 ag]) C (kX1_most l E p0 p1 p2 p3 x.1 x.2.1 x.2.2 v0 v1 v2 v3 v4 th be inf snt out g0 g1 g2 g3 g4 g5 g6 g7 g8 g9 g pl pr ra wn sh rt st ag cn (ag k.toNat) (by first | assumption | omega) (by first | assumption | omega) h5.1 h5.2 (by first | assumption | omega) r5 (by omega) r3 (fun q => (r4 q).1)) (rcwV C mX1_most w_245 ⟨Nat.le_of_ble_eq_true rfl, Nat.le_of_ble_eq_true rfl⟩) [0, 1, 2, 3, 4, 5, 6, 7, 8, 9, 10, 11, 12, 13, 14, 15, 16, 17, 18] [] [0, 1, 2, 3, 4, 5, 6, 7, 8, 9, 10, 11, 12, 13, 14, 15, 16, 17, 18] rfl rfl (by decide) (by decide) (by decide) (fun _ => rfl) (by decide) 0 rfl rfl rfl rfl (Nat.le_of_ble_eq_true rfl) dX1_giveAllBut_37 ⟨Nat.le_of_ble_eq_true rfl, Nat.le_of_ble_eq_true rfl⟩ (fun _ => ?_)
          show rG p l e rX1_giveAllBut s m args below meth c E A 6 0 0 Q [cO p0 1 [.ref p1, .ref p2, .ref p3], cI E p1 40 x.1, cJ E p2 32 x.2.1, cI E p3 8 x.2.2, cO v0 4 [.ref v1, .ref v2, .ref v3, .ref v4, .int (iI out)], cZ E v1 32 th, cI E v2 32 be, cI E v3 32 inf, cJ E v4 32 snt, cO g0 3 [.ref g1, .ref g2, .ref g3, .ref g4, .ref g5, .ref g6, .ref g7, .ref g8, .ref g9, .int (iI cn)], cZ E g1 40 g, cI E g2 40 pl, cI E g3 40 pr, cI E g4 40 ra, cI E g5 40 wn, cI E g6 40 sh, cI E g7 40 rt, cI E g8 40 st, cI E g9 40 ag] 40 [(5, .int (iI (ag k.toNat))), (0, .ref p0), (1, .ref v0), (2, .ref g0), (3, .int (iI po)), (4, .int (iI k))] [.int (iI (mosW be (sh (ag k.toNat).toNat) (rt (ag k.toNat).toNat) x.2.1 32 (pl (ag k.toNat).toNat) false (if st (ag k.toNat).toNat ≠ -1 then min (wn (ag k.toNat).toNat) (x.2.2 (st (ag k.toNat).toNat).toNat) else wn (ag k.toNat).toNat))), .int (iI (ag k.toNat)), .ref g0, .ref v0, .ref p0]
          refine rG.topi (fun am ham => ?_)
          have ham9 : am = amW be pl sh rt st wn x.2.1 x.2.2 (ag k.toNat).toNat := ham
          have hA9 := amW_in hbe hR h5
          rw [← ham9] at hA9
          refine rg_callV (As := [.ref v0, .ref g0, .int (iI (ag k.toNat)), .int (iI am)]) (rest := []) (wr := []) (w' := fun _ => [cO p0 1 [.ref p1, .ref p2, .ref p3], cI E p1 40 (uZ x.1 (ag k.toNat).toNat am), cJ E p2 32 (givW be (sh (ag k.toNat).toNat) (rt (ag k.toNat).toNat) am 32 (pl (ag k.toNat).toNat) false x.2.1), cI E p3 8 (if st (ag k.toNat).toNat ≠ -1 then uZ x.2.2 (st (ag k.toNat).toNat).toNat (x.2.2 (st (ag k.toNat).toNat).toNat - am) else x.2.2), cO v0 4 [.ref v1, .ref v2, .ref v3, .ref v4, .int (iI out)], cZ E v1 32 th, cI E v2 32 be, cI E v3 32 inf, cJ E v4 32 snt, cO g0 3 [.ref g1, .ref g2, .ref g3, .ref g4, .ref g5, .ref g6, .ref g7, .ref g8, .ref g9, .int (iI cn)], cZ E g1 40 g, cI E g2 40 pl, cI E g3 40 pr, cI E g4 40 ra, cI E g5 40 wn, cI E g6 40 sh, cI E g7 40 rt, cI E g8 40 st, cI E g9 40 ag]) C (kX1_give l E p0 p1 p2 p3 x.1 x.2.1 x.2.2 v0 v1 v2 v3 v4 th be inf snt out g0 g1 g2 g3 g4 g5 g6 g7 g8 g9 g pl pr ra wn sh rt st ag cn (ag k.toNat) am (by first | assumption | omega) (by first | assumption | omega) (by first | assumption | omega) (by omega) (by omega) r3 (fun q => (r4 q).1)) (rcwV C mX1_give w_262 ⟨Nat.le_of_ble_eq_true rfl, Nat.le_of_ble_eq_true rfl⟩) [0, 1, 2, 3, 4, 5, 6, 7, 8, 9, 10, 11, 12, 13, 14, 15, 16, 17, 18] [] [0, 1, 2, 3, 4, 5, 6, 7, 8, 9, 10, 11, 12, 13, 14, 15, 16, 17, 18] rfl rfl (by decide) (by decide) (by decide) (fun _ => rfl) (by decide) 0 rfl rfl rfl rfl (Nat.le_of_ble_eq_true rfl) dX1_giveAllBut_40 ⟨Nat.le_of_ble_eq_true rfl, Nat.le_of_ble_eq_true rfl⟩ (fun _ => ?_)
          show rG p l e rX1_giveAllBut s m args below meth c E A 6 0 0 Q [cO p0 1 [.ref p1, .ref p2, .ref p3], cI E p1 40 (uZ x.1 (ag k.toNat).toNat am), cJ E p2 32 (givW be (sh (ag k.toNat).toNat) (rt (ag k.toNat).toNat) am 32 (pl (ag k.toNat).toNat) false x.2.1), cI E p3 8 (if st (ag k.toNat).toNat ≠ -1 then uZ x.2.2 (st (ag k.toNat).toNat).toNat (x.2.2 (st (ag k.toNat).toNat).toNat - am) else x.2.2), cO v0 4 [.ref v1, .ref v2, .ref v3, .ref v4, .int (iI out)], cZ E v1 32 th, cI E v2 32 be, cI E v3 32 inf, cJ E v4 32 snt, cO g0 3 [.ref g1, .ref g2, .ref g3, .ref g4, .ref g5, .ref g6, .ref g7, .ref g8, .ref g9, .int (iI cn)], cZ E g1 40 g, cI E g2 40 pl, cI E g3 40 pr, cI E g4 40 ra, cI E g5 40 wn, cI E g6 40 sh, cI E g7 40 rt, cI E g8 40 st, cI E g9 40 ag] 43 [(5, .int (iI (ag k.toNat))), (0, .ref p0), (1, .ref v0), (2, .ref g0), (3, .int (iI po)), (4, .int (iI k))] []
          refine rg_iinc (k := 5) (lv' := [(4, .int (iI (k + 1))), (5, .int (iI (ag k.toNat))), (0, .ref p0), (1, .ref v0), (2, .ref g0), (3, .int (iI po))]) C dX1_giveAllBut_43 rfl (by decide) rfl ?_
          refine rg_goto (tgt := 3) C dX1_giveAllBut_46 (by decide) ?_
          refine rG.plv [2, 3, 4, 5, 0] rfl ?_
          exact ih (k + 1) (gst be pl sh rt st (ag k.toNat).toNat am x) (by omega) (step_ok hbe hR h5 am hA9.1 (Int.le_of_eq ham)) (by rw [gab_on h1.1 h_24 h3, ← ham9]) (by omega)
  show rG p l e rX1_giveAllBut s m args below meth c E A 6 0 0 Q [cO p0 1 [.ref p1, .ref p2, .ref p3], cI E p1 40 get, cJ E p2 32 flo, cI E p3 8 roo, cO v0 4 [.ref v1, .ref v2, .ref v3, .ref v4, .int (iI out)], cZ E v1 32 th, cI E v2 32 be, cI E v3 32 inf, cJ E v4 32 snt, cO g0 3 [.ref g1, .ref g2, .ref g3, .ref g4, .ref g5, .ref g6, .ref g7, .ref g8, .ref g9, .int (iI cn)], cZ E g1 40 g, cI E g2 40 pl, cI E g3 40 pr, cI E g4 40 ra, cI E g5 40 wn, cI E g6 40 sh, cI E g7 40 rt, cI E g8 40 st, cI E g9 40 ag] 0 [(0, .ref p0), (1, .ref v0), (2, .ref g0), (3, .int (iI po))] []
  refine rg_iconst C dX1_giveAllBut_0 ?_
  refine rg_istore (lv' := [(4, .int (iI 0)), (0, .ref p0), (1, .ref v0), (2, .ref g0), (3, .int (iI po))]) C dX1_giveAllBut_1 (by decide) rfl ?_
  refine rG.plv [1, 2, 3, 4, 0] rfl ?_
  exact L3 _ 0 (get, flo, roo) (by omega) hplo rfl (Nat.lt_succ_self _)
