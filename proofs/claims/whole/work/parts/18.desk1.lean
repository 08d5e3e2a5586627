/-- the plan of a day: gains, flows and rooms; po is passed over -/
def PT (be inf cap wat pl sh rt st wn ag : Nat → Int) (cn po : Int) (x : T3) : T3 := gab be pl sh rt st wn ag po cn.toNat (filZ x.1 0 40, begF be inf (filZ x.2.1 0 32) 32, begR cap wat x.2.2 8)
def tdy (be inf cap wat pl sh rt st wn ag : Nat → Int) (cn stale : Int) (x : T3) : T3 := if stale = 0 then x else PT be inf cap wat pl sh rt st wn ag cn (-1) x
theorem tdy_0 {be inf cap wat pl sh rt st wn ag : Nat → Int} {cn stale : Int} {x : T3} (h : stale = 0) : tdy be inf cap wat pl sh rt st wn ag cn stale x = x := if_pos h
theorem tdy_1 {be inf cap wat pl sh rt st wn ag : Nat → Int} {cn stale : Int} {x : T3} (h : ¬ stale = 0) : tdy be inf cap wat pl sh rt st wn ag cn stale x = PT be inf cap wat pl sh rt st wn ag cn (-1) x := if_neg h
/-- the oldest that would get less -/
def oldL (sget get ag : Nat → Int) : Nat → Nat → Int
  | 0, _ => -1
  | n + 1, k => if sget (ag k).toNat < get (ag k).toNat then ag k else oldL sget get ag n (k + 1)
theorem oldL_end {sget get ag : Nat → Int} {c k : Int} (h : c ≤ k) : oldL sget get ag (c - k).toNat k.toNat = -1 := by
  rw [show (c - k).toNat = 0 by omega]; rfl
theorem oldL_hit {sget get ag : Nat → Int} {c k : Int} (h0 : 0 ≤ k) (h : k < c) (q : sget (ag k.toNat).toNat < get (ag k.toNat).toNat) : oldL sget get ag (c - k).toNat k.toNat = ag k.toNat := by
  rw [show (c - k).toNat = (c - (k + 1)).toNat + 1 by omega]
  exact if_pos q
theorem oldL_on {sget get ag : Nat → Int} {c k : Int} (h0 : 0 ≤ k) (h : k < c) (q : ¬ sget (ag k.toNat).toNat < get (ag k.toNat).toNat) : oldL sget get ag (c - k).toNat k.toNat = oldL sget get ag (c - (k + 1)).toNat (k + 1).toNat := by
  rw [show (c - k).toNat = (c - (k + 1)).toNat + 1 by omega, show (k + 1).toNat = k.toNat + 1 by omega]
  exact if_neg q
abbrev rX5_checkNumber : Room := { frames := 6, cells := 0, slots := 0, locals := 90 }
set_option maxHeartbeats 4000000 in
set_option maxRecDepth 100000 in
/-- checkNumber, passed -/
theorem kX5_checkNumber (l : Launch) (E : rE) (a : Int) (n : Int) (h0 : 0 ≤ a ∧ a < n) (hn : n ≤ 1000) : rM l yX5_checkNumber sX5_checkNumber rX5_checkNumber E [] [.int (iI a), .int (iI n)] none (fun _ : Unit => []) := by
  refine rM.of (cc := cX5_checkNumber) (maxL := 2) (ret := none) (by decide) rfl (Nat.le_of_ble_eq_true rfl) (fun w h => List.mem_cons_of_mem _ h) ?_
  intro p e s m args below meth c A Q hA hQ C hr hlk hnm
  have C : rC p s m args c E A 2 cX5_checkNumber sX5_checkNumber RX5 := C
  show rG p l e rX5_checkNumber s m args below meth c E A 2 0 0 Q [] 0 [(0, .int (iI a)), (1, .int (iI n))] []
  refine rg_iload_n C 0 dX5_checkNumber_0 rfl rfl ?_
  refine rg_if_lt (tgt := 9) C ⟨by omega, by omega⟩ dX5_checkNumber_1 (by decide) (fun h_1 => absurd h_1 (by omega)) (fun h_1 => ?_)
  refine rg_iload_n C 0 dX5_checkNumber_4 rfl rfl ?_
  refine rg_iload_n C 1 dX5_checkNumber_5 rfl rfl ?_
  refine rg_icmp_lt (tgt := 19) C ⟨by omega, by omega⟩ ⟨by omega, by omega⟩ dX5_checkNumber_6 (by decide) (fun h_6 => ?_) (fun h_6 => absurd h_6 (by omega))
  exact rg_vret C hA hQ hr hlk () rfl rfl dX5_checkNumber_19
abbrev rX5_checkThere : Room := { frames := 6, cells := 0, slots := 0, locals := 90 }
set_option maxHeartbeats 4000000 in
set_option maxRecDepth 100000 in
/-- checkThere, passed -/
theorem kX5_checkThere (l : Launch) (E : rE) (a : Int) (h0 : a = 1) : rM l yX5_checkThere sX5_checkThere rX5_checkThere E [] [.int (iI a)] none (fun _ : Unit => []) := by
  refine rM.of (cc := cX5_checkThere) (maxL := 1) (ret := none) (by decide) rfl (Nat.le_of_ble_eq_true rfl) (fun w h => List.mem_cons_of_mem _ h) ?_
  intro p e s m args below meth c A Q hA hQ C hr hlk hnm
  have C : rC p s m args c E A 1 cX5_checkThere sX5_checkThere RX5 := C
  show rG p l e rX5_checkThere s m args below meth c E A 1 0 0 Q [] 0 [(0, .int (iI a))] []
  refine rg_iload_n C 0 dX5_checkThere_0 rfl rfl ?_
  refine rg_if_ne (tgt := 14) C ⟨by omega, by omega⟩ dX5_checkThere_1 (by decide) (fun h_1 => ?_) (fun h_1 => absurd h_1 (by omega))
  exact rg_vret C hA hQ hr hlk () rfl rfl dX5_checkThere_14
abbrev rX5_checkBetween : Room := { frames := 6, cells := 0, slots := 0, locals := 90 }
set_option maxHeartbeats 4000000 in
set_option maxRecDepth 100000 in
/-- checkBetween, passed -/
theorem kX5_checkBetween (l : Launch) (E : rE) (a : Int) (n : Int) (k : Int) (h0 : n ≤ a ∧ a ≤ k) (h1 : -2147483648 ≤ n ∧ k ≤ 2147483647) : rM l yX5_checkBetween sX5_checkBetween rX5_checkBetween E [] [.int (iI a), .int (iI n), .int (iI k)] none (fun _ : Unit => []) := by
  refine rM.of (cc := cX5_checkBetween) (maxL := 3) (ret := none) (by decide) rfl (Nat.le_of_ble_eq_true rfl) (fun w h => List.mem_cons_of_mem _ h) ?_
  intro p e s m args below meth c A Q hA hQ C hr hlk hnm
  have C : rC p s m args c E A 3 cX5_checkBetween sX5_checkBetween RX5 := C
  show rG p l e rX5_checkBetween s m args below meth c E A 3 0 0 Q [] 0 [(0, .int (iI a)), (1, .int (iI n)), (2, .int (iI k))] []
  refine rg_iload_n C 0 dX5_checkBetween_0 rfl rfl ?_
  refine rg_iload_n C 1 dX5_checkBetween_1 rfl rfl ?_
  refine rg_icmp_lt (tgt := 10) C ⟨by omega, by omega⟩ ⟨by omega, by omega⟩ dX5_checkBetween_2 (by decide) (fun h_2 => absurd h_2 (by omega)) (fun h_2 => ?_)
  refine rg_iload_n C 0 dX5_checkBetween_5 rfl rfl ?_
  refine rg_iload_n C 2 dX5_checkBetween_6 rfl rfl ?_
  refine rg_icmp_le (tgt := 20) C ⟨by omega, by omega⟩ ⟨by omega, by omega⟩ dX5_checkBetween_7 (by decide) (fun h_7 => ?_) (fun h_7 => absurd h_7 (by omega))
  exact rg_vret C hA hQ hr hlk () rfl rfl dX5_checkBetween_20
abbrev rX5_checkFree : Room := { frames := 6, cells := 0, slots := 0, locals := 90 }
set_option maxHeartbeats 4000000 in
set_option maxRecDepth 100000 in
/-- checkFree, passed -/
theorem kX5_checkFree (l : Launch) (E : rE) (a : Int) (h0 : a = 0) : rM l yX5_checkFree sX5_checkFree rX5_checkFree E [] [.int (iI a)] none (fun _ : Unit => []) := by
  refine rM.of (cc := cX5_checkFree) (maxL := 1) (ret := none) (by decide) rfl (Nat.le_of_ble_eq_true rfl) (fun w h => List.mem_cons_of_mem _ h) ?_
  intro p e s m args below meth c A Q hA hQ C hr hlk hnm
  have C : rC p s m args c E A 1 cX5_checkFree sX5_checkFree RX5 := C
  show rG p l e rX5_checkFree s m args below meth c E A 1 0 0 Q [] 0 [(0, .int (iI a))] []
  refine rg_iload_n C 0 dX5_checkFree_0 rfl rfl ?_
  refine rg_if_eq (tgt := 14) C ⟨by omega, by omega⟩ dX5_checkFree_1 (by decide) (fun h_1 => ?_) (fun h_1 => absurd h_1 (by omega))
  exact rg_vret C hA hQ hr hlk () rfl rfl dX5_checkFree_14
abbrev rX5_checkEnough : Room := { frames := 6, cells := 0, slots := 0, locals := 90 }
set_option maxHeartbeats 4000000 in
set_option maxRecDepth 100000 in
/-- checkEnough, passed -/
theorem kX5_checkEnough (l : Launch) (E : rE) (a : Int) (n : Int) (h0 : 0 ≤ n ∧ n ≤ a ∧ a ≤ 2147483647) : rM l yX5_checkEnough sX5_checkEnough rX5_checkEnough E [] [.int (iI a), .int (iI n)] none (fun _ : Unit => []) := by
  refine rM.of (cc := cX5_checkEnough) (maxL := 2) (ret := none) (by decide) rfl (Nat.le_of_ble_eq_true rfl) (fun w h => List.mem_cons_of_mem _ h) ?_
  intro p e s m args below meth c A Q hA hQ C hr hlk hnm
  have C : rC p s m args c E A 2 cX5_checkEnough sX5_checkEnough RX5 := C
  show rG p l e rX5_checkEnough s m args below meth c E A 2 0 0 Q [] 0 [(0, .int (iI a)), (1, .int (iI n))] []
  refine rg_iload_n C 0 dX5_checkEnough_0 rfl rfl ?_
  refine rg_iload_n C 1 dX5_checkEnough_1 rfl rfl ?_
  refine rg_icmp_ge (tgt := 15) C ⟨by omega, by omega⟩ ⟨by omega, by omega⟩ dX5_checkEnough_2 (by decide) (fun h_2 => ?_) (fun h_2 => absurd h_2 (by omega))
  exact rg_vret C hA hQ hr hlk () rfl rfl dX5_checkEnough_15
abbrev rX5_settleToday : Room := { frames := 3, cells := 0, slots := 0, locals := 90 }
set_option maxHeartbeats 4000000 in
set_option maxRecDepth 100000 in
/-- settleToday -/
theorem kX5_settleToday (l : Launch) (E : rE) (d0 : Nat) (v0 : Nat) (v1 : Nat) (v2 : Nat) (v3 : Nat) (v4 : Nat) (th : Nat → Int) (be : Nat → Int) (inf : Nat → Int) (snt : Nat → Int) (out : Int) (w0 : Nat) (w1 : Nat) (w2 : Nat) (w3 : Nat) (w4 : Nat) (sth : Nat → Int) (srch : Nat → Int) (cap : Nat → Int) (wat : Nat → Int) (rel : Int) (g0 : Nat) (g1 : Nat) (g2 : Nat) (g3 : Nat) (g4 : Nat) (g5 : Nat) (g6 : Nat) (g7 : Nat) (g8 : Nat) (g9 : Nat) (g : Nat → Int) (pl : Nat → Int) (pr : Nat → Int) (ra : Nat → Int) (wn : Nat → Int) (sh : Nat → Int) (rt : Nat → Int) (st : Nat → Int) (ag : Nat → Int) (cn : Int) (b0 : Nat) (b1 : Nat) (ent : Nat → Int) (day : Int) (p0 : Nat) (p1 : Nat) (p2 : Nat) (p3 : Nat) (get : Nat → Int) (flo : Nat → Int) (roo : Nat → Int) (s0 : Nat) (s1 : Nat) (s2 : Nat) (s3 : Nat) (sget : Nat → Int) (sflo : Nat → Int) (sroo : Nat → Int) (stale : Int) (hbe : ∀ r : Nat, r < 32 → -1 ≤ be r ∧ be r < 32) (hin : ∀ r : Nat, r < 32 → inI (inf r)) (hst : ∀ i : Nat, i < 40 → -1 ≤ st i ∧ st i < 8) (hag : ∀ j : Nat, (j : Int) < cn → 0 ≤ ag j ∧ ag j < 40) (hcn : 0 ≤ cn ∧ cn ≤ 40) (hrok : ∀ j : Nat, (j : Int) < cn → rOk be pl sh rt st wn (ag j).toNat) (hpl0 : plOk (begF be inf (filZ flo 0 32) 32) (begR cap wat roo 8)) (hstl : stale = 0 ∨ stale = 1) : rM l yX5_settleToday sX5_settleToday rX5_settleToday E [cO d0 5 [.ref v0, .ref w0, .ref g0, .ref b0, .ref p0, .ref s0, .int (iI stale)], cO v0 4 [.ref v1, .ref v2, .ref v3, .ref v4, .int (iI out)], cZ E v1 32 th, cI E v2 32 be, cI E v3 32 inf, cJ E v4 32 snt, cO w0 2 [.ref w1, .ref w2, .ref w3, .ref w4, .long (lI rel)], cZ E w1 8 sth, cI E w2 8 srch, cI E w3 8 cap, cI E w4 8 wat, cO g0 3 [.ref g1, .ref g2, .ref g3, .ref g4, .ref g5, .ref g6, .ref g7, .ref g8, .ref g9, .int (iI cn)], cZ E g1 40 g, cI E g2 40 pl, cI E g3 40 pr, cI E g4 40 ra, cI E g5 40 wn, cI E g6 40 sh, cI E g7 40 rt, cI E g8 40 st, cI E g9 40 ag, cO b0 0 [.ref b1, .int (iI day)], cJ E b1 300 ent, cO p0 1 [.ref p1, .ref p2, .ref p3], cI E p1 40 get, cJ E p2 32 flo, cI E p3 8 roo, cO s0 1 [.ref s1, .ref s2, .ref s3], cI E s1 40 sget, cJ E s2 32 sflo, cI E s3 8 sroo] [.ref d0] none (fun _ : Unit => [cO d0 5 [.ref v0, .ref w0, .ref g0, .ref b0, .ref p0, .ref s0, .int (iI 0)], cO v0 4 [.ref v1, .ref v2, .ref v3, .ref v4, .int (iI out)], cZ E v1 32 th, cI E v2 32 be, cI E v3 32 inf, cJ E v4 32 snt, cO w0 2 [.ref w1, .ref w2, .ref w3, .ref w4, .long (lI rel)], cZ E w1 8 sth, cI E w2 8 srch, cI E w3 8 cap, cI E w4 8 wat, cO g0 3 [.ref g1, .ref g2, .ref g3, .ref g4, .ref g5, .ref g6, .ref g7, .ref g8, .ref g9, .int (iI cn)], cZ E g1 40 g, cI E g2 40 pl, cI E g3 40 pr, cI E g4 40 ra, cI E g5 40 wn, cI E g6 40 sh, cI E g7 40 rt, cI E g8 40 st, cI E g9 40 ag, cO b0 0 [.ref b1, .int (iI day)], cJ E b1 300 ent, cO p0 1 [.ref p1, .ref p2, .ref p3], cI E p1 40 ((tdy be inf cap wat pl sh rt st wn ag cn stale (get, flo, roo)).1), cJ E p2 32 ((tdy be inf cap wat pl sh rt st wn ag cn stale (get, flo, roo)).2.1), cI E p3 8 ((tdy be inf cap wat pl sh rt st wn ag cn stale (get, flo, roo)).2.2), cO s0 1 [.ref s1, .ref s2, .ref s3], cI E s1 40 sget, cJ E s2 32 sflo, cI E s3 8 sroo]) := by
  refine rM.of (cc := cX5_settleToday) (maxL := 1) (ret := none) (by decide) rfl (Nat.le_of_ble_eq_true rfl) (fun w h => List.mem_cons_of_mem _ h) ?_
  intro p e s m args below meth c A Q hA hQ C hr hlk hnm
  have C : rC p s m args c E A 1 cX5_settleToday sX5_settleToday RX5 := C
  show rG p l e rX5_settleToday s m args below meth c E A 1 0 0 Q [cO d0 5 [.ref v0, .ref w0, .ref g0, .ref b0, .ref p0, .ref s0, .int (iI stale)], cO v0 4 [.ref v1, .ref v2, .ref v3, .ref v4, .int (iI out)], cZ E v1 32 th, cI E v2 32 be, cI E v3 32 inf, cJ E v4 32 snt, cO w0 2 [.ref w1, .ref w2, .ref w3, .ref w4, .long (lI rel)], cZ E w1 8 sth, cI E w2 8 srch, cI E w3 8 cap, cI E w4 8 wat, cO g0 3 [.ref g1, .ref g2, .ref g3, .ref g4, .ref g5, .ref g6, .ref g7, .ref g8, .ref g9, .int (iI cn)], cZ E g1 40 g, cI E g2 40 pl, cI E g3 40 pr, cI E g4 40 ra, cI E g5 40 wn, cI E g6 40 sh, cI E g7 40 rt, cI E g8 40 st, cI E g9 40 ag, cO b0 0 [.ref b1, .int (iI day)], cJ E b1 300 ent, cO p0 1 [.ref p1, .ref p2, .ref p3], cI E p1 40 get, cJ E p2 32 flo, cI E p3 8 roo, cO s0 1 [.ref s1, .ref s2, .ref s3], cI E s1 40 sget, cJ E s2 32 sflo, cI E s3 8 sroo] 0 [(0, .ref d0)] []
  refine rg_aload_n C 0 dX5_settleToday_0 rfl rfl ?_
  refine rg_get C fX5_47 0 rfl rfl dX5_settleToday_1 ?_
  refine rg_if_eq (tgt := 43) C ⟨by omega, by omega⟩ dX5_settleToday_4 (by decide) (fun h_4 => ?_) (fun h_4 => ?_)
  · exact rg_vret C hA hQ hr hlk () (by rw [tdy_0 h_4, h_4]) rfl dX5_settleToday_43
  · refine rg_aload_n C 0 dX5_settleToday_7 rfl rfl ?_
    refine rg_get C fX5_40 0 rfl rfl dX5_settleToday_8 ?_
    refine rg_aload_n C 0 dX5_settleToday_11 rfl rfl ?_
    refine rg_get C fX5_10 0 rfl rfl dX5_settleToday_12 ?_
    refine rg_aload_n C 0 dX5_settleToday_15 rfl rfl ?_
    refine rg_get C fX5_19 0 rfl rfl dX5_settleToday_16 ?_
    refine rg_callV (As := [.ref v0, .ref w0]) (rest := []) (wr := [cO d0 5 [.ref v0, .ref w0, .ref g0, .ref b0, .ref p0, .ref s0, .int (iI stale)], cO g0 3 [.ref g1, .ref g2, .ref g3, .ref g4, .ref g5, .ref g6, .ref g7, .ref g8, .ref g9, .int (iI cn)], cZ E g1 40 g, cI E g2 40 pl, cI E g3 40 pr, cI E g4 40 ra, cI E g5 40 wn, cI E g6 40 sh, cI E g7 40 rt, cI E g8 40 st, cI E g9 40 ag, cO b0 0 [.ref b1, .int (iI day)], cJ E b1 300 ent, cO s0 1 [.ref s1, .ref s2, .ref s3], cI E s1 40 sget, cJ E s2 32 sflo, cI E s3 8 sroo]) (w' := fun _ => [cO d0 5 [.ref v0, .ref w0, .ref g0, .ref b0, .ref p0, .ref s0, .int (iI stale)], cO v0 4 [.ref v1, .ref v2, .ref v3, .ref v4, .int (iI out)], cZ E v1 32 th, cI E v2 32 be, cI E v3 32 inf, cJ E v4 32 snt, cO w0 2 [.ref w1, .ref w2, .ref w3, .ref w4, .long (lI rel)], cZ E w1 8 sth, cI E w2 8 srch, cI E w3 8 cap, cI E w4 8 wat, cO g0 3 [.ref g1, .ref g2, .ref g3, .ref g4, .ref g5, .ref g6, .ref g7, .ref g8, .ref g9, .int (iI cn)], cZ E g1 40 g, cI E g2 40 pl, cI E g3 40 pr, cI E g4 40 ra, cI E g5 40 wn, cI E g6 40 sh, cI E g7 40 rt, cI E g8 40 st, cI E g9 40 ag, cO b0 0 [.ref b1, .int (iI day)], cJ E b1 300 ent, cO p0 1 [.ref p1, .ref p2, .ref p3], cI E p1 40 (filZ get 0 40), cJ E p2 32 (begF be inf (filZ flo 0 32) 32), cI E p3 8 (begR cap wat roo 8), cO s0 1 [.ref s1, .ref s2, .ref s3], cI E s1 40 sget, cJ E s2 32 sflo, cI E s3 8 sroo]) C (kX1_begin l E p0 p1 p2 p3 get flo roo v0 v1 v2 v3 v4 th be inf snt out w0 w1 w2 w3 w4 sth srch cap wat rel (by first | assumption | omega) (by first | assumption | omega)) (rcwV C mX1_begin w_227 ⟨Nat.le_of_ble_eq_true rfl, Nat.le_of_ble_eq_true rfl⟩) [23, 24, 25, 26, 1, 2, 3, 4, 5, 6, 7, 8, 9, 10] [0, 11, 12, 13, 14, 15, 16, 17, 18, 19, 20, 21, 22, 27, 28, 29, 30] [0, 21, 22, 23, 24, 25, 26, 27, 28, 29, 30, 1, 2, 3, 4, 5, 6, 7, 8, 9, 10, 11, 12, 17, 18, 19, 20, 13, 14, 15, 16] rfl rfl (by decide) (by decide) (by decide) (fun _ => rfl) (by decide) 0 rfl rfl rfl rfl (Nat.le_of_ble_eq_true rfl) dX5_settleToday_19 ⟨Nat.le_of_ble_eq_true rfl, Nat.le_of_ble_eq_true rfl⟩ (fun _ => ?_)
    show rG p l e rX5_settleToday s m args below meth c E A 1 0 0 Q [cO d0 5 [.ref v0, .ref w0, .ref g0, .ref b0, .ref p0, .ref s0, .int (iI stale)], cO v0 4 [.ref v1, .ref v2, .ref v3, .ref v4, .int (iI out)], cZ E v1 32 th, cI E v2 32 be, cI E v3 32 inf, cJ E v4 32 snt, cO w0 2 [.ref w1, .ref w2, .ref w3, .ref w4, .long (lI rel)], cZ E w1 8 sth, cI E w2 8 srch, cI E w3 8 cap, cI E w4 8 wat, cO g0 3 [.ref g1, .ref g2, .ref g3, .ref g4, .ref g5, .ref g6, .ref g7, .ref g8, .ref g9, .int (iI cn)], cZ E g1 40 g, cI E g2 40 pl, cI E g3 40 pr, cI E g4 40 ra, cI E g5 40 wn, cI E g6 40 sh, cI E g7 40 rt, cI E g8 40 st, cI E g9 40 ag, cO b0 0 [.ref b1, .int (iI day)], cJ E b1 300 ent, cO p0 1 [.ref p1, .ref p2, .ref p3], cI E p1 40 (filZ get 0 40), cJ E p2 32 (begF be inf (filZ flo 0 32) 32), cI E p3 8 (begR cap wat roo 8), cO s0 1 [.ref s1, .ref s2, .ref s3], cI E s1 40 sget, cJ E s2 32 sflo, cI E s3 8 sroo] 22 [(0, .ref d0)] []
    refine rg_aload_n C 0 dX5_settleToday_22 rfl rfl ?_
    refine rg_get C fX5_40 0 rfl rfl dX5_settleToday_23 ?_
    refine rg_aload_n C 0 dX5_settleToday_26 rfl rfl ?_
    refine rg_get C fX5_10 0 rfl rfl dX5_settleToday_27 ?_
    refine rg_aload_n C 0 dX5_settleToday_30 rfl rfl ?_
    refine rg_get C fX5_26 0 rfl rfl dX5_settleToday_31 ?_
    refine rg_iconst C dX5_settleToday_34 ?_
    refine rg_callV (As := [.ref v0, .ref g0, .int (iI (-1))]) (rest := []) (wr := [cO d0 5 [.ref v0, .ref w0, .ref g0, .ref b0, .ref p0, .ref s0, .int (iI stale)], cO w0 2 [.ref w1, .ref w2, .ref w3, .ref w4, .long (lI rel)], cZ E w1 8 sth, cI E w2 8 srch, cI E w3 8 cap, cI E w4 8 wat, cO b0 0 [.ref b1, .int (iI day)], cJ E b1 300 ent, cO s0 1 [.ref s1, .ref s2, .ref s3], cI E s1 40 sget, cJ E s2 32 sflo, cI E s3 8 sroo]) (w' := fun _ => [cO d0 5 [.ref v0, .ref w0, .ref g0, .ref b0, .ref p0, .ref s0, .int (iI stale)], cO v0 4 [.ref v1, .ref v2, .ref v3, .ref v4, .int (iI out)], cZ E v1 32 th, cI E v2 32 be, cI E v3 32 inf, cJ E v4 32 snt, cO w0 2 [.ref w1, .ref w2, .ref w3, .ref w4, .long (lI rel)], cZ E w1 8 sth, cI E w2 8 srch, cI E w3 8 cap, cI E w4 8 wat, cO g0 3 [.ref g1, .ref g2, .ref g3, .ref g4, .ref g5, .ref g6, .ref g7, .ref g8, .ref g9, .int (iI cn)], cZ E g1 40 g, cI E g2 40 pl, cI E g3 40 pr, cI E g4 40 ra, cI E g5 40 wn, cI E g6 40 sh, cI E g7 40 rt, cI E g8 40 st, cI E g9 40 ag, cO b0 0 [.ref b1, .int (iI day)], cJ E b1 300 ent, cO p0 1 [.ref p1, .ref p2, .ref p3], cI E p1 40 ((gab be pl sh rt st wn ag (-1) cn.toNat ((filZ get 0 40), (begF be inf (filZ flo 0 32) 32), (begR cap wat roo 8))).1), cJ E p2 32 ((gab be pl sh rt st wn ag (-1) cn.toNat ((filZ get 0 40), (begF be inf (filZ flo 0 32) 32), (begR cap wat roo 8))).2.1), cI E p3 8 ((gab be pl sh rt st wn ag (-1) cn.toNat ((filZ get 0 40), (begF be inf (filZ flo 0 32) 32), (begR cap wat roo 8))).2.2), cO s0 1 [.ref s1, .ref s2, .ref s3], cI E s1 40 sget, cJ E s2 32 sflo, cI E s3 8 sroo]) C (kX1_giveAllBut l E p0 p1 p2 p3 (filZ get 0 40) (begF be inf (filZ flo 0 32) 32) (begR cap wat roo 8) v0 v1 v2 v3 v4 th be inf snt out g0 g1 g2 g3 g4 g5 g6 g7 g8 g9 g pl pr ra wn sh rt st ag cn (-1) (by first | assumption | omega) (by first | assumption | omega) (by first | assumption | omega) (by first | assumption | omega) (by first | assumption | omega) (by first | assumption | omega) (⟨by decide, by decide⟩)) (rcwV C mX1_giveAllBut w_241 ⟨Nat.le_of_ble_eq_true rfl, Nat.le_of_ble_eq_true rfl⟩) [23, 24, 25, 26, 1, 2, 3, 4, 5, 11, 12, 13, 14, 15, 16, 17, 18, 19, 20] [0, 6, 7, 8, 9, 10, 21, 22, 27, 28, 29, 30] [0, 16, 17, 18, 19, 20, 1, 2, 3, 4, 5, 21, 22, 23, 24, 25, 26, 27, 28, 29, 30, 6, 7, 12, 13, 14, 15, 8, 9, 10, 11] rfl rfl (by decide) (by decide) (by decide) (fun _ => rfl) (by decide) 0 rfl rfl rfl rfl (Nat.le_of_ble_eq_true rfl) dX5_settleToday_35 ⟨Nat.le_of_ble_eq_true rfl, Nat.le_of_ble_eq_true rfl⟩ (fun _ => ?_)
    show rG p l e rX5_settleToday s m args below meth c E A 1 0 0 Q [cO d0 5 [.ref v0, .ref w0, .ref g0, .ref b0, .ref p0, .ref s0, .int (iI stale)], cO v0 4 [.ref v1, .ref v2, .ref v3, .ref v4, .int (iI out)], cZ E v1 32 th, cI E v2 32 be, cI E v3 32 inf, cJ E v4 32 snt, cO w0 2 [.ref w1, .ref w2, .ref w3, .ref w4, .long (lI rel)], cZ E w1 8 sth, cI E w2 8 srch, cI E w3 8 cap, cI E w4 8 wat, cO g0 3 [.ref g1, .ref g2, .ref g3, .ref g4, .ref g5, .ref g6, .ref g7, .ref g8, .ref g9, .int (iI cn)], cZ E g1 40 g, cI E g2 40 pl, cI E g3 40 pr, cI E g4 40 ra, cI E g5 40 wn, cI E g6 40 sh, cI E g7 40 rt, cI E g8 40 st, cI E g9 40 ag, cO b0 0 [.ref b1, .int (iI day)], cJ E b1 300 ent, cO p0 1 [.ref p1, .ref p2, .ref p3], cI E p1 40 ((gab be pl sh rt st wn ag (-1) cn.toNat ((filZ get 0 40), (begF be inf (filZ flo 0 32) 32), (begR cap wat roo 8))).1), cJ E p2 32 ((gab be pl sh rt st wn ag (-1) cn.toNat ((filZ get 0 40), (begF be inf (filZ flo 0 32) 32), (begR cap wat roo 8))).2.1), cI E p3 8 ((gab be pl sh rt st wn ag (-1) cn.toNat ((filZ get 0 40), (begF be inf (filZ flo 0 32) 32), (begR cap wat roo 8))).2.2), cO s0 1 [.ref s1, .ref s2, .ref s3], cI E s1 40 sget, cJ E s2 32 sflo, cI E s3 8 sroo] 38 [(0, .ref d0)] []
    refine rg_aload_n C 0 dX5_settleToday_38 rfl rfl ?_
    refine rg_iconst C dX5_settleToday_39 ?_
    refine rg_put (ws' := [cO d0 5 [.ref v0, .ref w0, .ref g0, .ref b0, .ref p0, .ref s0, .int (iI 0)], cO v0 4 [.ref v1, .ref v2, .ref v3, .ref v4, .int (iI out)], cZ E v1 32 th, cI E v2 32 be, cI E v3 32 inf, cJ E v4 32 snt, cO w0 2 [.ref w1, .ref w2, .ref w3, .ref w4, .long (lI rel)], cZ E w1 8 sth, cI E w2 8 srch, cI E w3 8 cap, cI E w4 8 wat, cO g0 3 [.ref g1, .ref g2, .ref g3, .ref g4, .ref g5, .ref g6, .ref g7, .ref g8, .ref g9, .int (iI cn)], cZ E g1 40 g, cI E g2 40 pl, cI E g3 40 pr, cI E g4 40 ra, cI E g5 40 wn, cI E g6 40 sh, cI E g7 40 rt, cI E g8 40 st, cI E g9 40 ag, cO b0 0 [.ref b1, .int (iI day)], cJ E b1 300 ent, cO p0 1 [.ref p1, .ref p2, .ref p3], cI E p1 40 ((gab be pl sh rt st wn ag (-1) cn.toNat ((filZ get 0 40), (begF be inf (filZ flo 0 32) 32), (begR cap wat roo 8))).1), cJ E p2 32 ((gab be pl sh rt st wn ag (-1) cn.toNat ((filZ get 0 40), (begF be inf (filZ flo 0 32) 32), (begR cap wat roo 8))).2.1), cI E p3 8 ((gab be pl sh rt st wn ag (-1) cn.toNat ((filZ get 0 40), (begF be inf (filZ flo 0 32) 32), (begR cap wat roo 8))).2.2), cO s0 1 [.ref s1, .ref s2, .ref s3], cI E s1 40 sget, cJ E s2 32 sflo, cI E s3 8 sroo]) C fX5_47 layX5 rfl 0 rfl rfl rfl (Nat.le_of_ble_eq_true rfl) dX5_settleToday_40 rfl ?_
    exact rg_vret C hA hQ hr hlk () (by rw [tdy_1 h_4]; rfl) rfl dX5_settleToday_43
abbrev rX5_isShort : Room := { frames := 0, cells := 0, slots := 0, locals := 0 }
set_option maxHeartbeats 4000000 in
set_option maxRecDepth 100000 in
/-- isShort -/
theorem kX5_isShort (l : Launch) (E : rE) (d0 : Nat) (v0 : Nat) (v1 : Nat) (v2 : Nat) (v3 : Nat) (v4 : Nat) (th : Nat → Int) (be : Nat → Int) (inf : Nat → Int) (snt : Nat → Int) (out : Int) (w0 : Nat) (w1 : Nat) (w2 : Nat) (w3 : Nat) (w4 : Nat) (sth : Nat → Int) (srch : Nat → Int) (cap : Nat → Int) (wat : Nat → Int) (rel : Int) (g0 : Nat) (g1 : Nat) (g2 : Nat) (g3 : Nat) (g4 : Nat) (g5 : Nat) (g6 : Nat) (g7 : Nat) (g8 : Nat) (g9 : Nat) (g : Nat → Int) (pl : Nat → Int) (pr : Nat → Int) (ra : Nat → Int) (wn : Nat → Int) (sh : Nat → Int) (rt : Nat → Int) (st : Nat → Int) (ag : Nat → Int) (cn : Int) (b0 : Nat) (b1 : Nat) (ent : Nat → Int) (day : Int) (p0 : Nat) (p1 : Nat) (p2 : Nat) (p3 : Nat) (get : Nat → Int) (flo : Nat → Int) (roo : Nat → Int) (s0 : Nat) (s1 : Nat) (s2 : Nat) (s3 : Nat) (sget : Nat → Int) (sflo : Nat → Int) (sroo : Nat → Int) (stale : Int) (r : Int) (hri : 0 ≤ r ∧ r < 40) (hgi : inI (get r.toNat)) (hwi : inI (wn r.toNat)) : rM l yX5_isShort sX5_isShort rX5_isShort E [cO d0 5 [.ref v0, .ref w0, .ref g0, .ref b0, .ref p0, .ref s0, .int (iI stale)], cO v0 4 [.ref v1, .ref v2, .ref v3, .ref v4, .int (iI out)], cZ E v1 32 th, cI E v2 32 be, cI E v3 32 inf, cJ E v4 32 snt, cO w0 2 [.ref w1, .ref w2, .ref w3, .ref w4, .long (lI rel)], cZ E w1 8 sth, cI E w2 8 srch, cI E w3 8 cap, cI E w4 8 wat, cO g0 3 [.ref g1, .ref g2, .ref g3, .ref g4, .ref g5, .ref g6, .ref g7, .ref g8, .ref g9, .int (iI cn)], cZ E g1 40 g, cI E g2 40 pl, cI E g3 40 pr, cI E g4 40 ra, cI E g5 40 wn, cI E g6 40 sh, cI E g7 40 rt, cI E g8 40 st, cI E g9 40 ag, cO b0 0 [.ref b1, .int (iI day)], cJ E b1 300 ent, cO p0 1 [.ref p1, .ref p2, .ref p3], cI E p1 40 get, cJ E p2 32 flo, cI E p3 8 roo, cO s0 1 [.ref s1, .ref s2, .ref s3], cI E s1 40 sget, cJ E s2 32 sflo, cI E s3 8 sroo] [.ref d0, .int (iI r)] (some (.int (iI (bZ (decide (get r.toNat < wn r.toNat)))))) (fun _ : Unit => [cO d0 5 [.ref v0, .ref w0, .ref g0, .ref b0, .ref p0, .ref s0, .int (iI stale)], cO v0 4 [.ref v1, .ref v2, .ref v3, .ref v4, .int (iI out)], cZ E v1 32 th, cI E v2 32 be, cI E v3 32 inf, cJ E v4 32 snt, cO w0 2 [.ref w1, .ref w2, .ref w3, .ref w4, .long (lI rel)], cZ E w1 8 sth, cI E w2 8 srch, cI E w3 8 cap, cI E w4 8 wat, cO g0 3 [.ref g1, .ref g2, .ref g3, .ref g4, .ref g5, .ref g6, .ref g7, .ref g8, .ref g9, .int (iI cn)], cZ E g1 40 g, cI E g2 40 pl, cI E g3 40 pr, cI E g4 40 ra, cI E g5 40 wn, cI E g6 40 sh, cI E g7 40 rt, cI E g8 40 st, cI E g9 40 ag, cO b0 0 [.ref b1, .int (iI day)], cJ E b1 300 ent, cO p0 1 [.ref p1, .ref p2, .ref p3], cI E p1 40 get, cJ E p2 32 flo, cI E p3 8 roo, cO s0 1 [.ref s1, .ref s2, .ref s3], cI E s1 40 sget, cJ E s2 32 sflo, cI E s3 8 sroo]) := by
  refine rM.of (cc := cX5_isShort) (maxL := 2) (ret := (some FieldType.boolean)) (by decide) rfl (Nat.le_of_ble_eq_true rfl) (fun w h => List.mem_cons_of_mem _ h) ?_
  intro p e s m args below meth c A Q hA hQ C hr hlk hnm
  have C : rC p s m args c E A 2 cX5_isShort sX5_isShort RX5 := C
  show rG p l e rX5_isShort s m args below meth c E A 2 0 0 Q [cO d0 5 [.ref v0, .ref w0, .ref g0, .ref b0, .ref p0, .ref s0, .int (iI stale)], cO v0 4 [.ref v1, .ref v2, .ref v3, .ref v4, .int (iI out)], cZ E v1 32 th, cI E v2 32 be, cI E v3 32 inf, cJ E v4 32 snt, cO w0 2 [.ref w1, .ref w2, .ref w3, .ref w4, .long (lI rel)], cZ E w1 8 sth, cI E w2 8 srch, cI E w3 8 cap, cI E w4 8 wat, cO g0 3 [.ref g1, .ref g2, .ref g3, .ref g4, .ref g5, .ref g6, .ref g7, .ref g8, .ref g9, .int (iI cn)], cZ E g1 40 g, cI E g2 40 pl, cI E g3 40 pr, cI E g4 40 ra, cI E g5 40 wn, cI E g6 40 sh, cI E g7 40 rt, cI E g8 40 st, cI E g9 40 ag, cO b0 0 [.ref b1, .int (iI day)], cJ E b1 300 ent, cO p0 1 [.ref p1, .ref p2, .ref p3], cI E p1 40 get, cJ E p2 32 flo, cI E p3 8 roo, cO s0 1 [.ref s1, .ref s2, .ref s3], cI E s1 40 sget, cJ E s2 32 sflo, cI E s3 8 sroo] 0 [(0, .ref d0), (1, .int (iI r))] []
  refine rg_aload_n C 0 dX5_isShort_0 rfl rfl ?_
  refine rg_get C fX5_40 0 rfl rfl dX5_isShort_1 ?_
  refine rg_get C fX5_149 23 rfl rfl dX5_isShort_4 ?_
  refine rg_iload_n C 1 dX5_isShort_7 rfl rfl ?_
  refine rg_iald C 24 rfl (by decide) (by omega) (by omega) dX5_isShort_8 ?_
  refine rg_aload_n C 0 dX5_isShort_9 rfl rfl ?_
  refine rg_get C fX5_26 0 rfl rfl dX5_isShort_10 ?_
  refine rg_get C fX5_110 11 rfl rfl dX5_isShort_13 ?_
  refine rg_iload_n C 1 dX5_isShort_16 rfl rfl ?_
  refine rg_iald C 16 rfl (by decide) (by omega) (by omega) dX5_isShort_17 ?_
  refine rg_icmp_ge (tgt := 25) C hgi hwi dX5_isShort_18 (by decide) (fun h_18 => ?_) (fun h_18 => ?_)
  · refine rg_iconst C dX5_isShort_25 ?_
    exact rg_zret C hA hQ hr hlk () rfl (by first | rfl | decide | exact (bZ_nar _)) (by rw [decide_eq_false (by omega)]; rfl) dX5_isShort_26
  · refine rg_iconst C dX5_isShort_21 ?_
    refine rg_goto (tgt := 26) C dX5_isShort_22 (by decide) ?_
    exact rg_zret C hA hQ hr hlk () rfl (by first | rfl | decide | exact (bZ_nar _)) (by rw [decide_eq_true (by omega)]; rfl) dX5_isShort_26
abbrev rX5_oldestThatWouldGetLess : Room := { frames := 0, cells := 0, slots := 0, locals := 0 }
set_option maxHeartbeats 4000000 in
set_option maxRecDepth 100000 in
/-- oldestThatWouldGetLess -/
theorem kX5_oldestThatWouldGetLess (l : Launch) (E : rE) (d0 : Nat) (v0 : Nat) (v1 : Nat) (v2 : Nat) (v3 : Nat) (v4 : Nat) (th : Nat → Int) (be : Nat → Int) (inf : Nat → Int) (snt : Nat → Int) (out : Int) (w0 : Nat) (w1 : Nat) (w2 : Nat) (w3 : Nat) (w4 : Nat) (sth : Nat → Int) (srch : Nat → Int) (cap : Nat → Int) (wat : Nat → Int) (rel : Int) (g0 : Nat) (g1 : Nat) (g2 : Nat) (g3 : Nat) (g4 : Nat) (g5 : Nat) (g6 : Nat) (g7 : Nat) (g8 : Nat) (g9 : Nat) (g : Nat → Int) (pl : Nat → Int) (pr : Nat → Int) (ra : Nat → Int) (wn : Nat → Int) (sh : Nat → Int) (rt : Nat → Int) (st : Nat → Int) (ag : Nat → Int) (cn : Int) (b0 : Nat) (b1 : Nat) (ent : Nat → Int) (day : Int) (p0 : Nat) (p1 : Nat) (p2 : Nat) (p3 : Nat) (get : Nat → Int) (flo : Nat → Int) (roo : Nat → Int) (s0 : Nat) (s1 : Nat) (s2 : Nat) (s3 : Nat) (sget : Nat → Int) (sflo : Nat → Int) (sroo : Nat → Int) (stale : Int) (hag : ∀ j : Nat, (j : Int) < cn → 0 ≤ ag j ∧ ag j < 40) (hcn : 0 ≤ cn ∧ cn ≤ 40) (hgi : ∀ i : Nat, i < 40 → inI (get i)) (hsi : ∀ i : Nat, i < 40 → inI (sget i)) : rM l yX5_oldestThatWouldGetLess sX5_oldestThatWouldGetLess rX5_oldestThatWouldGetLess E [cO d0 5 [.ref v0, .ref w0, .ref g0, .ref b0, .ref p0, .ref s0, .int (iI stale)], cO v0 4 [.ref v1, .ref v2, .ref v3, .ref v4, .int (iI out)], cZ E v1 32 th, cI E v2 32 be, cI E v3 32 inf, cJ E v4 32 snt, cO w0 2 [.ref w1, .ref w2, .ref w3, .ref w4, .long (lI rel)], cZ E w1 8 sth, cI E w2 8 srch, cI E w3 8 cap, cI E w4 8 wat, cO g0 3 [.ref g1, .ref g2, .ref g3, .ref g4, .ref g5, .ref g6, .ref g7, .ref g8, .ref g9, .int (iI cn)], cZ E g1 40 g, cI E g2 40 pl, cI E g3 40 pr, cI E g4 40 ra, cI E g5 40 wn, cI E g6 40 sh, cI E g7 40 rt, cI E g8 40 st, cI E g9 40 ag, cO b0 0 [.ref b1, .int (iI day)], cJ E b1 300 ent, cO p0 1 [.ref p1, .ref p2, .ref p3], cI E p1 40 get, cJ E p2 32 flo, cI E p3 8 roo, cO s0 1 [.ref s1, .ref s2, .ref s3], cI E s1 40 sget, cJ E s2 32 sflo, cI E s3 8 sroo] [.ref d0] (some (.int (iI (oldL sget get ag cn.toNat 0)))) (fun _ : Unit => [cO d0 5 [.ref v0, .ref w0, .ref g0, .ref b0, .ref p0, .ref s0, .int (iI stale)], cO v0 4 [.ref v1, .ref v2, .ref v3, .ref v4, .int (iI out)], cZ E v1 32 th, cI E v2 32 be, cI E v3 32 inf, cJ E v4 32 snt, cO w0 2 [.ref w1, .ref w2, .ref w3, .ref w4, .long (lI rel)], cZ E w1 8 sth, cI E w2 8 srch, cI E w3 8 cap, cI E w4 8 wat, cO g0 3 [.ref g1, .ref g2, .ref g3, .ref g4, .ref g5, .ref g6, .ref g7, .ref g8, .ref g9, .int (iI cn)], cZ E g1 40 g, cI E g2 40 pl, cI E g3 40 pr, cI E g4 40 ra, cI E g5 40 wn, cI E g6 40 sh, cI E g7 40 rt, cI E g8 40 st, cI E g9 40 ag, cO b0 0 [.ref b1, .int (iI day)], cJ E b1 300 ent, cO p0 1 [.ref p1, .ref p2, .ref p3], cI E p1 40 get, cJ E p2 32 flo, cI E p3 8 roo, cO s0 1 [.ref s1, .ref s2, .ref s3], cI E s1 40 sget, cJ E s2 32 sflo, cI E s3 8 sroo]) := by
  refine rM.of (cc := cX5_oldestThatWouldGetLess) (maxL := 3) (ret := (some FieldType.int)) (by decide) rfl (Nat.le_of_ble_eq_true rfl) (fun w h => List.mem_cons_of_mem _ h) ?_
  intro p e s m args below meth c A Q hA hQ C hr hlk hnm
  have C : rC p s m args c E A 3 cX5_oldestThatWouldGetLess sX5_oldestThatWouldGetLess RX5 := C
  have L2 : ∀ (n : Nat) (k : Int), (0 ≤ k ∧ k ≤ cn) → (oldL sget get ag cn.toNat 0 = oldL sget get ag (cn - k).toNat k.toNat) → ((cn - k).toNat < n) → rG p l e rX5_oldestThatWouldGetLess s m args below meth c E A 3 0 0 Q [cO d0 5 [.ref v0, .ref w0, .ref g0, .ref b0, .ref p0, .ref s0, .int (iI stale)], cO v0 4 [.ref v1, .ref v2, .ref v3, .ref v4, .int (iI out)], cZ E v1 32 th, cI E v2 32 be, cI E v3 32 inf, cJ E v4 32 snt, cO w0 2 [.ref w1, .ref w2, .ref w3, .ref w4, .long (lI rel)], cZ E w1 8 sth, cI E w2 8 srch, cI E w3 8 cap, cI E w4 8 wat, cO g0 3 [.ref g1, .ref g2, .ref g3, .ref g4, .ref g5, .ref g6, .ref g7, .ref g8, .ref g9, .int (iI cn)], cZ E g1 40 g, cI E g2 40 pl, cI E g3 40 pr, cI E g4 40 ra, cI E g5 40 wn, cI E g6 40 sh, cI E g7 40 rt, cI E g8 40 st, cI E g9 40 ag, cO b0 0 [.ref b1, .int (iI day)], cJ E b1 300 ent, cO p0 1 [.ref p1, .ref p2, .ref p3], cI E p1 40 get, cJ E p2 32 flo, cI E p3 8 roo, cO s0 1 [.ref s1, .ref s2, .ref s3], cI E s1 40 sget, cJ E s2 32 sflo, cI E s3 8 sroo] 2 [(0, .ref d0), (1, .int (iI k))] [] := by
    intro n
    induction n with
    | zero => intro k h1 h3 hm; exact absurd hm (Nat.not_lt_zero _)
    | succ n ih =>
      intro k h1 h3 hm
      refine rg_iload_n C 1 dX5_oldestThatWouldGetLess_2 rfl rfl ?_
      refine rg_aload_n C 0 dX5_oldestThatWouldGetLess_3 rfl rfl ?_
      refine rg_get C fX5_26 0 rfl rfl dX5_oldestThatWouldGetLess_4 ?_
      refine rg_get C fX5_140 11 rfl rfl dX5_oldestThatWouldGetLess_7 ?_
      refine rg_icmp_ge (tgt := 52) C ⟨by omega, by omega⟩ ⟨by omega, by omega⟩ dX5_oldestThatWouldGetLess_10 (by decide) (fun h_10 => ?_) (fun h_10 => ?_)
      · refine rg_iconst C dX5_oldestThatWouldGetLess_52 ?_
        exact rg_iret C hA hQ hr hlk () rfl (by rw [h3, oldL_end (by omega)]) dX5_oldestThatWouldGetLess_53
      · have ha9 := hag k.toNat (by omega)
        have hg9 := hgi (ag k.toNat).toNat (by omega)
        have hs9 := hsi (ag k.toNat).toNat (by omega)
        refine rg_aload_n C 0 dX5_oldestThatWouldGetLess_13 rfl rfl ?_
        refine rg_get C fX5_26 0 rfl rfl dX5_oldestThatWouldGetLess_14 ?_
        refine rg_get C fX5_143 11 rfl rfl dX5_oldestThatWouldGetLess_17 ?_
        refine rg_iload_n C 1 dX5_oldestThatWouldGetLess_20 rfl rfl ?_
        refine rg_iald C 20 rfl (by decide) (by omega) (by omega) dX5_oldestThatWouldGetLess_21 ?_
        refine rg_istore_n (lv' := [(2, .int (iI (ag k.toNat))), (0, .ref d0), (1, .int (iI k))]) C dX5_oldestThatWouldGetLess_22 rfl (by decide) rfl ?_
        refine rg_aload_n C 1 dX5_oldestThatWouldGetLess_23 rfl rfl ?_
        refine rg_get C fX5_44 0 rfl rfl dX5_oldestThatWouldGetLess_24 ?_
        refine rg_get C fX5_149 27 rfl rfl dX5_oldestThatWouldGetLess_27 ?_
        refine rg_iload_n C 0 dX5_oldestThatWouldGetLess_30 rfl rfl ?_
        refine rg_iald C 28 rfl (by decide) (by omega) (by omega) dX5_oldestThatWouldGetLess_31 ?_
        refine rg_aload_n C 1 dX5_oldestThatWouldGetLess_32 rfl rfl ?_
        refine rg_get C fX5_40 0 rfl rfl dX5_oldestThatWouldGetLess_33 ?_
        refine rg_get C fX5_149 23 rfl rfl dX5_oldestThatWouldGetLess_36 ?_
        refine rg_iload_n C 0 dX5_oldestThatWouldGetLess_39 rfl rfl ?_
        refine rg_iald C 24 rfl (by decide) (by omega) (by omega) dX5_oldestThatWouldGetLess_40 ?_
        refine rg_icmp_ge (tgt := 46) C hs9 hg9 dX5_oldestThatWouldGetLess_41 (by decide) (fun h_41 => ?_) (fun h_41 => ?_)
        · refine rg_iinc (k := 2) (lv' := [(1, .int (iI (k + 1))), (2, .int (iI (ag k.toNat))), (0, .ref d0)]) C dX5_oldestThatWouldGetLess_46 rfl (by decide) rfl ?_
          refine rg_goto (tgt := 2) C dX5_oldestThatWouldGetLess_49 (by decide) ?_
          refine rG.plv [2, 0] rfl ?_
          exact ih (k + 1) (by omega) (h3.trans (oldL_on h1.1 (by omega) (by omega))) (by omega)
        · refine rg_iload_n C 0 dX5_oldestThatWouldGetLess_44 rfl rfl ?_
          exact rg_iret C hA hQ hr hlk () rfl (by rw [h3, oldL_hit h1.1 (by omega) (by omega)]) dX5_oldestThatWouldGetLess_45
  show rG p l e rX5_oldestThatWouldGetLess s m args below meth c E A 3 0 0 Q [cO d0 5 [.ref v0, .ref w0, .ref g0, .ref b0, .ref p0, .ref s0, .int (iI stale)], cO v0 4 [.ref v1, .ref v2, .ref v3, .ref v4, .int (iI out)], cZ E v1 32 th, cI E v2 32 be, cI E v3 32 inf, cJ E v4 32 snt, cO w0 2 [.ref w1, .ref w2, .ref w3, .ref w4, .long (lI rel)], cZ E w1 8 sth, cI E w2 8 srch, cI E w3 8 cap, cI E w4 8 wat, cO g0 3 [.ref g1, .ref g2, .ref g3, .ref g4, .ref g5, .ref g6, .ref g7, .ref g8, .ref g9, .int (iI cn)], cZ E g1 40 g, cI E g2 40 pl, cI E g3 40 pr, cI E g4 40 ra, cI E g5 40 wn, cI E g6 40 sh, cI E g7 40 rt, cI E g8 40 st, cI E g9 40 ag, cO b0 0 [.ref b1, .int (iI day)], cJ E b1 300 ent, cO p0 1 [.ref p1, .ref p2, .ref p3], cI E p1 40 get, cJ E p2 32 flo, cI E p3 8 roo, cO s0 1 [.ref s1, .ref s2, .ref s3], cI E s1 40 sget, cJ E s2 32 sflo, cI E s3 8 sroo] 0 [(0, .ref d0)] []
  refine rg_iconst C dX5_oldestThatWouldGetLess_0 ?_
  refine rg_istore_n (lv' := [(1, .int (iI 0)), (0, .ref d0)]) C dX5_oldestThatWouldGetLess_1 rfl (by decide) rfl ?_
  refine rG.plv [1, 0] rfl ?_
  exact L2 _ 0 (by omega) (by rw [show (cn - 0).toNat = cn.toNat by omega]; rfl) (Nat.lt_succ_self _)
abbrev rX5_held : Room := { frames := 0, cells := 0, slots := 0, locals := 0 }
set_option maxHeartbeats 4000000 in
set_option maxRecDepth 100000 in
/-- held -/
theorem kX5_held (l : Launch) (E : rE) (d0 : Nat) (v0 : Nat) (v1 : Nat) (v2 : Nat) (v3 : Nat) (v4 : Nat) (th : Nat → Int) (be : Nat → Int) (inf : Nat → Int) (snt : Nat → Int) (out : Int) (w0 : Nat) (w1 : Nat) (w2 : Nat) (w3 : Nat) (w4 : Nat) (sth : Nat → Int) (srch : Nat → Int) (cap : Nat → Int) (wat : Nat → Int) (rel : Int) (g0 : Nat) (g1 : Nat) (g2 : Nat) (g3 : Nat) (g4 : Nat) (g5 : Nat) (g6 : Nat) (g7 : Nat) (g8 : Nat) (g9 : Nat) (g : Nat → Int) (pl : Nat → Int) (pr : Nat → Int) (ra : Nat → Int) (wn : Nat → Int) (sh : Nat → Int) (rt : Nat → Int) (st : Nat → Int) (ag : Nat → Int) (cn : Int) (b0 : Nat) (b1 : Nat) (ent : Nat → Int) (day : Int) (p0 : Nat) (p1 : Nat) (p2 : Nat) (p3 : Nat) (get : Nat → Int) (flo : Nat → Int) (roo : Nat → Int) (s0 : Nat) (s1 : Nat) (s2 : Nat) (s3 : Nat) (sget : Nat → Int) (sflo : Nat → Int) (sroo : Nat → Int) (stale : Int) (r : Int) (w : Int) (hsth : ∀ r : Nat, r < 8 → sth r = 0 ∨ sth r = 1) (hr0 : inI r) (hw0 : inI w) : rM l yX5_held sX5_held rX5_held E [cO d0 5 [.ref v0, .ref w0, .ref g0, .ref b0, .ref p0, .ref s0, .int (iI stale)], cO v0 4 [.ref v1, .ref v2, .ref v3, .ref v4, .int (iI out)], cZ E v1 32 th, cI E v2 32 be, cI E v3 32 inf, cJ E v4 32 snt, cO w0 2 [.ref w1, .ref w2, .ref w3, .ref w4, .long (lI rel)], cZ E w1 8 sth, cI E w2 8 srch, cI E w3 8 cap, cI E w4 8 wat, cO g0 3 [.ref g1, .ref g2, .ref g3, .ref g4, .ref g5, .ref g6, .ref g7, .ref g8, .ref g9, .int (iI cn)], cZ E g1 40 g, cI E g2 40 pl, cI E g3 40 pr, cI E g4 40 ra, cI E g5 40 wn, cI E g6 40 sh, cI E g7 40 rt, cI E g8 40 st, cI E g9 40 ag, cO b0 0 [.ref b1, .int (iI day)], cJ E b1 300 ent, cO p0 1 [.ref p1, .ref p2, .ref p3], cI E p1 40 get, cJ E p2 32 flo, cI E p3 8 roo, cO s0 1 [.ref s1, .ref s2, .ref s3], cI E s1 40 sget, cJ E s2 32 sflo, cI E s3 8 sroo] [.ref d0, .int (iI r), .int (iI w)] (some (.int (iI (if r < 0 ∨ 8 ≤ r ∨ sth r.toNat = 0 then -1 else if w = 0 then wat r.toNat else if w = 1 then cap r.toNat else if w = 2 then srch r.toNat else -1)))) (fun _ : Unit => [cO d0 5 [.ref v0, .ref w0, .ref g0, .ref b0, .ref p0, .ref s0, .int (iI stale)], cO v0 4 [.ref v1, .ref v2, .ref v3, .ref v4, .int (iI out)], cZ E v1 32 th, cI E v2 32 be, cI E v3 32 inf, cJ E v4 32 snt, cO w0 2 [.ref w1, .ref w2, .ref w3, .ref w4, .long (lI rel)], cZ E w1 8 sth, cI E w2 8 srch, cI E w3 8 cap, cI E w4 8 wat, cO g0 3 [.ref g1, .ref g2, .ref g3, .ref g4, .ref g5, .ref g6, .ref g7, .ref g8, .ref g9, .int (iI cn)], cZ E g1 40 g, cI E g2 40 pl, cI E g3 40 pr, cI E g4 40 ra, cI E g5 40 wn, cI E g6 40 sh, cI E g7 40 rt, cI E g8 40 st, cI E g9 40 ag, cO b0 0 [.ref b1, .int (iI day)], cJ E b1 300 ent, cO p0 1 [.ref p1, .ref p2, .ref p3], cI E p1 40 get, cJ E p2 32 flo, cI E p3 8 roo, cO s0 1 [.ref s1, .ref s2, .ref s3], cI E s1 40 sget, cJ E s2 32 sflo, cI E s3 8 sroo]) := by
  refine rM.of (cc := cX5_held) (maxL := 3) (ret := (some FieldType.int)) (by decide) rfl (Nat.le_of_ble_eq_true rfl) (fun w h => List.mem_cons_of_mem _ h) ?_
  intro p e s m args below meth c A Q hA hQ C hr hlk hnm
  have C : rC p s m args c E A 3 cX5_held sX5_held RX5 := C
  show rG p l e rX5_held s m args below meth c E A 3 0 0 Q [cO d0 5 [.ref v0, .ref w0, .ref g0, .ref b0, .ref p0, .ref s0, .int (iI stale)], cO v0 4 [.ref v1, .ref v2, .ref v3, .ref v4, .int (iI out)], cZ E v1 32 th, cI E v2 32 be, cI E v3 32 inf, cJ E v4 32 snt, cO w0 2 [.ref w1, .ref w2, .ref w3, .ref w4, .long (lI rel)], cZ E w1 8 sth, cI E w2 8 srch, cI E w3 8 cap, cI E w4 8 wat, cO g0 3 [.ref g1, .ref g2, .ref g3, .ref g4, .ref g5, .ref g6, .ref g7, .ref g8, .ref g9, .int (iI cn)], cZ E g1 40 g, cI E g2 40 pl, cI E g3 40 pr, cI E g4 40 ra, cI E g5 40 wn, cI E g6 40 sh, cI E g7 40 rt, cI E g8 40 st, cI E g9 40 ag, cO b0 0 [.ref b1, .int (iI day)], cJ E b1 300 ent, cO p0 1 [.ref p1, .ref p2, .ref p3], cI E p1 40 get, cJ E p2 32 flo, cI E p3 8 roo, cO s0 1 [.ref s1, .ref s2, .ref s3], cI E s1 40 sget, cJ E s2 32 sflo, cI E s3 8 sroo] 0 [(0, .ref d0), (1, .int (iI r)), (2, .int (iI w))] []
  refine rg_iload_n C 1 dX5_held_0 rfl rfl ?_
  refine rg_if_lt (tgt := 22) C ⟨by omega, by omega⟩ dX5_held_1 (by decide) (fun h_1 => ?_) (fun h_1 => ?_)
  · refine rg_iconst C dX5_held_22 ?_
    exact rg_iret C hA hQ hr hlk () rfl (by repeat (first | rw [if_pos (by omega)] | rw [if_neg (by omega)])) dX5_held_23
  · refine rg_iload_n C 1 dX5_held_4 rfl rfl ?_
    refine rg_bipush (z := 8) C dX5_held_5 (by decide) ?_
    refine rg_icmp_ge (tgt := 22) C ⟨by omega, by omega⟩ ⟨by decide, by decide⟩ dX5_held_7 (by decide) (fun h_7 => ?_) (fun h_7 => ?_)
    · refine rg_iconst C dX5_held_22 ?_
      exact rg_iret C hA hQ hr hlk () rfl (by repeat (first | rw [if_pos (by omega)] | rw [if_neg (by omega)])) dX5_held_23
    · have hs9 := hsth r.toNat (by omega)
      refine rg_aload_n C 0 dX5_held_10 rfl rfl ?_
      refine rg_get C fX5_19 0 rfl rfl dX5_held_11 ?_
      refine rg_get C fX5_78 6 rfl rfl dX5_held_14 ?_
      refine rg_iload_n C 1 dX5_held_17 rfl rfl ?_
      refine rg_zald C 7 rfl (by decide) (by omega) (by omega) dX5_held_18 ?_
      refine rg_if_ne (tgt := 24) C ⟨by omega, by omega⟩ dX5_held_19 (by decide) (fun h_19 => ?_) (fun h_19 => ?_)
      · refine rg_iload_n C 2 dX5_held_24 rfl rfl ?_
        rcases (show w < 0 ∨ 2 < w ∨ w = 0 ∨ w = 1 ∨ w = 2 by omega) with h_25 | h_25 | h_25 | h_25 | h_25
        · refine rg_tableOut (tgt := 82) C ⟨by omega, by omega⟩ dX5_held_25 (Or.inl h_25) (by decide) ?_
          refine rg_iconst C dX5_held_82 ?_
          exact rg_iret C hA hQ hr hlk () rfl (by repeat (first | rw [if_pos (by omega)] | rw [if_neg (by omega)])) dX5_held_83
        · refine rg_tableOut (tgt := 82) C ⟨by omega, by omega⟩ dX5_held_25 (Or.inr h_25) (by decide) ?_
          refine rg_iconst C dX5_held_82 ?_
          exact rg_iret C hA hQ hr hlk () rfl (by repeat (first | rw [if_pos (by omega)] | rw [if_neg (by omega)])) dX5_held_83
        · refine rg_tableIn (off := 27) (tgt := 52) C ⟨by omega, by omega⟩ dX5_held_25 (by omega) (by omega) (by rw [h_25]; rfl) (by decide) ?_
          refine rg_aload_n C 0 dX5_held_52 rfl rfl ?_
          refine rg_get C fX5_19 0 rfl rfl dX5_held_53 ?_
          refine rg_get C fX5_125 6 rfl rfl dX5_held_56 ?_
          refine rg_iload_n C 1 dX5_held_59 rfl rfl ?_
          refine rg_iald C 10 rfl (by decide) (by omega) (by omega) dX5_held_60 ?_
          exact rg_iret C hA hQ hr hlk () rfl (by repeat (first | rw [if_pos (by omega)] | rw [if_neg (by omega)])) dX5_held_61
        · refine rg_tableIn (off := 37) (tgt := 62) C ⟨by omega, by omega⟩ dX5_held_25 (by omega) (by omega) (by rw [h_25]; rfl) (by decide) ?_
          refine rg_aload_n C 0 dX5_held_62 rfl rfl ?_
          refine rg_get C fX5_19 0 rfl rfl dX5_held_63 ?_
          refine rg_get C fX5_195 6 rfl rfl dX5_held_66 ?_
          refine rg_iload_n C 1 dX5_held_69 rfl rfl ?_
          refine rg_iald C 9 rfl (by decide) (by omega) (by omega) dX5_held_70 ?_
          exact rg_iret C hA hQ hr hlk () rfl (by repeat (first | rw [if_pos (by omega)] | rw [if_neg (by omega)])) dX5_held_71
        · refine rg_tableIn (off := 47) (tgt := 72) C ⟨by omega, by omega⟩ dX5_held_25 (by omega) (by omega) (by rw [h_25]; rfl) (by decide) ?_
          refine rg_aload_n C 0 dX5_held_72 rfl rfl ?_
          refine rg_get C fX5_19 0 rfl rfl dX5_held_73 ?_
          refine rg_get C fX5_122 6 rfl rfl dX5_held_76 ?_
          refine rg_iload_n C 1 dX5_held_79 rfl rfl ?_
          refine rg_iald C 8 rfl (by decide) (by omega) (by omega) dX5_held_80 ?_
          exact rg_iret C hA hQ hr hlk () rfl (by repeat (first | rw [if_pos (by omega)] | rw [if_neg (by omega)])) dX5_held_81
      · refine rg_iconst C dX5_held_22 ?_
        exact rg_iret C hA hQ hr hlk () rfl (by repeat (first | rw [if_pos (by omega)] | rw [if_neg (by omega)])) dX5_held_23
abbrev rX5_book : Room := { frames := 3, cells := 0, slots := 0, locals := 70 }
set_option maxHeartbeats 4000000 in
set_option maxRecDepth 100000 in
/-- book -/
theorem kX5_book (l : Launch) (E : rE) (d0 : Nat) (v0 : Nat) (v1 : Nat) (v2 : Nat) (v3 : Nat) (v4 : Nat) (th : Nat → Int) (be : Nat → Int) (inf : Nat → Int) (snt : Nat → Int) (out : Int) (w0 : Nat) (w1 : Nat) (w2 : Nat) (w3 : Nat) (w4 : Nat) (sth : Nat → Int) (srch : Nat → Int) (cap : Nat → Int) (wat : Nat → Int) (rel : Int) (g0 : Nat) (g1 : Nat) (g2 : Nat) (g3 : Nat) (g4 : Nat) (g5 : Nat) (g6 : Nat) (g7 : Nat) (g8 : Nat) (g9 : Nat) (g : Nat → Int) (pl : Nat → Int) (pr : Nat → Int) (ra : Nat → Int) (wn : Nat → Int) (sh : Nat → Int) (rt : Nat → Int) (st : Nat → Int) (ag : Nat → Int) (cn : Int) (b0 : Nat) (b1 : Nat) (ent : Nat → Int) (day : Int) (p0 : Nat) (p1 : Nat) (p2 : Nat) (p3 : Nat) (get : Nat → Int) (flo : Nat → Int) (roo : Nat → Int) (s0 : Nat) (s1 : Nat) (s2 : Nat) (s3 : Nat) (sget : Nat → Int) (sflo : Nat → Int) (sroo : Nat → Int) (stale : Int) (d : Int) (w : Int) (hday : 0 ≤ day ∧ day ≤ 1000000) (hd0 : inI d) (hw0 : inI w) : rM l yX5_book sX5_book rX5_book E [cO d0 5 [.ref v0, .ref w0, .ref g0, .ref b0, .ref p0, .ref s0, .int (iI stale)], cO v0 4 [.ref v1, .ref v2, .ref v3, .ref v4, .int (iI out)], cZ E v1 32 th, cI E v2 32 be, cI E v3 32 inf, cJ E v4 32 snt, cO w0 2 [.ref w1, .ref w2, .ref w3, .ref w4, .long (lI rel)], cZ E w1 8 sth, cI E w2 8 srch, cI E w3 8 cap, cI E w4 8 wat, cO g0 3 [.ref g1, .ref g2, .ref g3, .ref g4, .ref g5, .ref g6, .ref g7, .ref g8, .ref g9, .int (iI cn)], cZ E g1 40 g, cI E g2 40 pl, cI E g3 40 pr, cI E g4 40 ra, cI E g5 40 wn, cI E g6 40 sh, cI E g7 40 rt, cI E g8 40 st, cI E g9 40 ag, cO b0 0 [.ref b1, .int (iI day)], cJ E b1 300 ent, cO p0 1 [.ref p1, .ref p2, .ref p3], cI E p1 40 get, cJ E p2 32 flo, cI E p3 8 roo, cO s0 1 [.ref s1, .ref s2, .ref s3], cI E s1 40 sget, cJ E s2 32 sflo, cI E s3 8 sroo] [.ref d0, .int (iI d), .int (iI w)] (some (.long (lI (if d < 0 ∨ day ≤ d ∨ d < day - 60 ∨ w < 0 ∨ 5 ≤ w then -1 else ent (d % 60 * 5 + w).toNat)))) (fun _ : Unit => [cO d0 5 [.ref v0, .ref w0, .ref g0, .ref b0, .ref p0, .ref s0, .int (iI stale)], cO v0 4 [.ref v1, .ref v2, .ref v3, .ref v4, .int (iI out)], cZ E v1 32 th, cI E v2 32 be, cI E v3 32 inf, cJ E v4 32 snt, cO w0 2 [.ref w1, .ref w2, .ref w3, .ref w4, .long (lI rel)], cZ E w1 8 sth, cI E w2 8 srch, cI E w3 8 cap, cI E w4 8 wat, cO g0 3 [.ref g1, .ref g2, .ref g3, .ref g4, .ref g5, .ref g6, .ref g7, .ref g8, .ref g9, .int (iI cn)], cZ E g1 40 g, cI E g2 40 pl, cI E g3 40 pr, cI E g4 40 ra, cI E g5 40 wn, cI E g6 40 sh, cI E g7 40 rt, cI E g8 40 st, cI E g9 40 ag, cO b0 0 [.ref b1, .int (iI day)], cJ E b1 300 ent, cO p0 1 [.ref p1, .ref p2, .ref p3], cI E p1 40 get, cJ E p2 32 flo, cI E p3 8 roo, cO s0 1 [.ref s1, .ref s2, .ref s3], cI E s1 40 sget, cJ E s2 32 sflo, cI E s3 8 sroo]) := by
  refine rM.of (cc := cX5_book) (maxL := 3) (ret := (some FieldType.long)) (by decide) rfl (Nat.le_of_ble_eq_true rfl) (fun w h => List.mem_cons_of_mem _ h) ?_
  intro p e s m args below meth c A Q hA hQ C hr hlk hnm
  have C : rC p s m args c E A 3 cX5_book sX5_book RX5 := C
  show rG p l e rX5_book s m args below meth c E A 3 0 0 Q [cO d0 5 [.ref v0, .ref w0, .ref g0, .ref b0, .ref p0, .ref s0, .int (iI stale)], cO v0 4 [.ref v1, .ref v2, .ref v3, .ref v4, .int (iI out)], cZ E v1 32 th, cI E v2 32 be, cI E v3 32 inf, cJ E v4 32 snt, cO w0 2 [.ref w1, .ref w2, .ref w3, .ref w4, .long (lI rel)], cZ E w1 8 sth, cI E w2 8 srch, cI E w3 8 cap, cI E w4 8 wat, cO g0 3 [.ref g1, .ref g2, .ref g3, .ref g4, .ref g5, .ref g6, .ref g7, .ref g8, .ref g9, .int (iI cn)], cZ E g1 40 g, cI E g2 40 pl, cI E g3 40 pr, cI E g4 40 ra, cI E g5 40 wn, cI E g6 40 sh, cI E g7 40 rt, cI E g8 40 st, cI E g9 40 ag, cO b0 0 [.ref b1, .int (iI day)], cJ E b1 300 ent, cO p0 1 [.ref p1, .ref p2, .ref p3], cI E p1 40 get, cJ E p2 32 flo, cI E p3 8 roo, cO s0 1 [.ref s1, .ref s2, .ref s3], cI E s1 40 sget, cJ E s2 32 sflo, cI E s3 8 sroo] 0 [(0, .ref d0), (1, .int (iI d)), (2, .int (iI w))] []
  refine rg_aload_n C 0 dX5_book_0 rfl rfl ?_
  refine rg_get C fX5_33 0 rfl rfl dX5_book_1 ?_
  refine rg_iload_n C 1 dX5_book_4 rfl rfl ?_
  refine rg_iload_n C 2 dX5_book_5 rfl rfl ?_
  refine rg_callV (As := [.int (iI d), .int (iI w)]) (rest := []) (wr := [cO d0 5 [.ref v0, .ref w0, .ref g0, .ref b0, .ref p0, .ref s0, .int (iI stale)], cO v0 4 [.ref v1, .ref v2, .ref v3, .ref v4, .int (iI out)], cZ E v1 32 th, cI E v2 32 be, cI E v3 32 inf, cJ E v4 32 snt, cO w0 2 [.ref w1, .ref w2, .ref w3, .ref w4, .long (lI rel)], cZ E w1 8 sth, cI E w2 8 srch, cI E w3 8 cap, cI E w4 8 wat, cO g0 3 [.ref g1, .ref g2, .ref g3, .ref g4, .ref g5, .ref g6, .ref g7, .ref g8, .ref g9, .int (iI cn)], cZ E g1 40 g, cI E g2 40 pl, cI E g3 40 pr, cI E g4 40 ra, cI E g5 40 wn, cI E g6 40 sh, cI E g7 40 rt, cI E g8 40 st, cI E g9 40 ag, cO p0 1 [.ref p1, .ref p2, .ref p3], cI E p1 40 get, cJ E p2 32 flo, cI E p3 8 roo, cO s0 1 [.ref s1, .ref s2, .ref s3], cI E s1 40 sget, cJ E s2 32 sflo, cI E s3 8 sroo]) (w' := fun _ => [cO d0 5 [.ref v0, .ref w0, .ref g0, .ref b0, .ref p0, .ref s0, .int (iI stale)], cO v0 4 [.ref v1, .ref v2, .ref v3, .ref v4, .int (iI out)], cZ E v1 32 th, cI E v2 32 be, cI E v3 32 inf, cJ E v4 32 snt, cO w0 2 [.ref w1, .ref w2, .ref w3, .ref w4, .long (lI rel)], cZ E w1 8 sth, cI E w2 8 srch, cI E w3 8 cap, cI E w4 8 wat, cO g0 3 [.ref g1, .ref g2, .ref g3, .ref g4, .ref g5, .ref g6, .ref g7, .ref g8, .ref g9, .int (iI cn)], cZ E g1 40 g, cI E g2 40 pl, cI E g3 40 pr, cI E g4 40 ra, cI E g5 40 wn, cI E g6 40 sh, cI E g7 40 rt, cI E g8 40 st, cI E g9 40 ag, cO b0 0 [.ref b1, .int (iI day)], cJ E b1 300 ent, cO p0 1 [.ref p1, .ref p2, .ref p3], cI E p1 40 get, cJ E p2 32 flo, cI E p3 8 roo, cO s0 1 [.ref s1, .ref s2, .ref s3], cI E s1 40 sget, cJ E s2 32 sflo, cI E s3 8 sroo]) C (kX0_read l E b0 b1 ent day d w (by first | assumption | omega) (by first | assumption | omega) (by first | assumption | omega)) (rcwV C mX0_read w_320 ⟨Nat.le_of_ble_eq_true rfl, Nat.le_of_ble_eq_true rfl⟩) [21, 22] [0, 1, 2, 3, 4, 5, 6, 7, 8, 9, 10, 11, 12, 13, 14, 15, 16, 17, 18, 19, 20, 23, 24, 25, 26, 27, 28, 29, 30] [0, 1, 2, 3, 4, 5, 6, 7, 8, 9, 10, 11, 12, 13, 14, 15, 16, 17, 18, 19, 20, 29, 30, 21, 22, 23, 24, 25, 26, 27, 28] rfl rfl (by decide) (by decide) (by decide) (fun _ => rfl) (by decide) 0 rfl rfl rfl rfl (Nat.le_of_ble_eq_true rfl) dX5_book_6 ⟨Nat.le_of_ble_eq_true rfl, Nat.le_of_ble_eq_true rfl⟩ (fun _ => ?_)
  show rG p l e rX5_book s m args below meth c E A 3 0 0 Q [cO d0 5 [.ref v0, .ref w0, .ref g0, .ref b0, .ref p0, .ref s0, .int (iI stale)], cO v0 4 [.ref v1, .ref v2, .ref v3, .ref v4, .int (iI out)], cZ E v1 32 th, cI E v2 32 be, cI E v3 32 inf, cJ E v4 32 snt, cO w0 2 [.ref w1, .ref w2, .ref w3, .ref w4, .long (lI rel)], cZ E w1 8 sth, cI E w2 8 srch, cI E w3 8 cap, cI E w4 8 wat, cO g0 3 [.ref g1, .ref g2, .ref g3, .ref g4, .ref g5, .ref g6, .ref g7, .ref g8, .ref g9, .int (iI cn)], cZ E g1 40 g, cI E g2 40 pl, cI E g3 40 pr, cI E g4 40 ra, cI E g5 40 wn, cI E g6 40 sh, cI E g7 40 rt, cI E g8 40 st, cI E g9 40 ag, cO b0 0 [.ref b1, .int (iI day)], cJ E b1 300 ent, cO p0 1 [.ref p1, .ref p2, .ref p3], cI E p1 40 get, cJ E p2 32 flo, cI E p3 8 roo, cO s0 1 [.ref s1, .ref s2, .ref s3], cI E s1 40 sget, cJ E s2 32 sflo, cI E s3 8 sroo] 9 [(0, .ref d0), (1, .int (iI d)), (2, .int (iI w))] [.long (lI (if d < 0 ∨ day ≤ d ∨ d < day - 60 ∨ w < 0 ∨ 5 ≤ w then -1 else ent (d % 60 * 5 + w).toNat))]
  exact rg_lret C hA hQ hr hlk () rfl rfl dX5_book_9
abbrev rX5_about : Room := { frames := 0, cells := 0, slots := 0, locals := 0 }
set_option maxHeartbeats 4000000 in
set_option maxRecDepth 100000 in
/-- about -/
theorem kX5_about (l : Launch) (E : rE) (d0 : Nat) (v0 : Nat) (v1 : Nat) (v2 : Nat) (v3 : Nat) (v4 : Nat) (th : Nat → Int) (be : Nat → Int) (inf : Nat → Int) (snt : Nat → Int) (out : Int) (w0 : Nat) (w1 : Nat) (w2 : Nat) (w3 : Nat) (w4 : Nat) (sth : Nat → Int) (srch : Nat → Int) (cap : Nat → Int) (wat : Nat → Int) (rel : Int) (g0 : Nat) (g1 : Nat) (g2 : Nat) (g3 : Nat) (g4 : Nat) (g5 : Nat) (g6 : Nat) (g7 : Nat) (g8 : Nat) (g9 : Nat) (g : Nat → Int) (pl : Nat → Int) (pr : Nat → Int) (ra : Nat → Int) (wn : Nat → Int) (sh : Nat → Int) (rt : Nat → Int) (st : Nat → Int) (ag : Nat → Int) (cn : Int) (b0 : Nat) (b1 : Nat) (ent : Nat → Int) (day : Int) (p0 : Nat) (p1 : Nat) (p2 : Nat) (p3 : Nat) (get : Nat → Int) (flo : Nat → Int) (roo : Nat → Int) (s0 : Nat) (s1 : Nat) (s2 : Nat) (s3 : Nat) (sget : Nat → Int) (sflo : Nat → Int) (sroo : Nat → Int) (stale : Int) (r : Int) (w : Int) (hgg : ∀ r : Nat, r < 40 → g r = 0 ∨ g r = 1) (hr0 : inI r) (hw0 : inI w) : rM l yX5_about sX5_about rX5_about E [cO d0 5 [.ref v0, .ref w0, .ref g0, .ref b0, .ref p0, .ref s0, .int (iI stale)], cO v0 4 [.ref v1, .ref v2, .ref v3, .ref v4, .int (iI out)], cZ E v1 32 th, cI E v2 32 be, cI E v3 32 inf, cJ E v4 32 snt, cO w0 2 [.ref w1, .ref w2, .ref w3, .ref w4, .long (lI rel)], cZ E w1 8 sth, cI E w2 8 srch, cI E w3 8 cap, cI E w4 8 wat, cO g0 3 [.ref g1, .ref g2, .ref g3, .ref g4, .ref g5, .ref g6, .ref g7, .ref g8, .ref g9, .int (iI cn)], cZ E g1 40 g, cI E g2 40 pl, cI E g3 40 pr, cI E g4 40 ra, cI E g5 40 wn, cI E g6 40 sh, cI E g7 40 rt, cI E g8 40 st, cI E g9 40 ag, cO b0 0 [.ref b1, .int (iI day)], cJ E b1 300 ent, cO p0 1 [.ref p1, .ref p2, .ref p3], cI E p1 40 get, cJ E p2 32 flo, cI E p3 8 roo, cO s0 1 [.ref s1, .ref s2, .ref s3], cI E s1 40 sget, cJ E s2 32 sflo, cI E s3 8 sroo] [.ref d0, .int (iI r), .int (iI w)] (some (.int (iI (if r < 0 ∨ 40 ≤ r ∨ g r.toNat = 0 then -1 else if w = 0 then pr r.toNat else if w = 1 then ra r.toNat else if w = 2 then wn r.toNat else if w = 3 then sh r.toNat else if w = 4 then st r.toNat else -1)))) (fun _ : Unit => [cO d0 5 [.ref v0, .ref w0, .ref g0, .ref b0, .ref p0, .ref s0, .int (iI stale)], cO v0 4 [.ref v1, .ref v2, .ref v3, .ref v4, .int (iI out)], cZ E v1 32 th, cI E v2 32 be, cI E v3 32 inf, cJ E v4 32 snt, cO w0 2 [.ref w1, .ref w2, .ref w3, .ref w4, .long (lI rel)], cZ E w1 8 sth, cI E w2 8 srch, cI E w3 8 cap, cI E w4 8 wat, cO g0 3 [.ref g1, .ref g2, .ref g3, .ref g4, .ref g5, .ref g6, .ref g7, .ref g8, .ref g9, .int (iI cn)], cZ E g1 40 g, cI E g2 40 pl, cI E g3 40 pr, cI E g4 40 ra, cI E g5 40 wn, cI E g6 40 sh, cI E g7 40 rt, cI E g8 40 st, cI E g9 40 ag, cO b0 0 [.ref b1, .int (iI day)], cJ E b1 300 ent, cO p0 1 [.ref p1, .ref p2, .ref p3], cI E p1 40 get, cJ E p2 32 flo, cI E p3 8 roo, cO s0 1 [.ref s1, .ref s2, .ref s3], cI E s1 40 sget, cJ E s2 32 sflo, cI E s3 8 sroo]) := by
  refine rM.of (cc := cX5_about) (maxL := 3) (ret := (some FieldType.int)) (by decide) rfl (Nat.le_of_ble_eq_true rfl) (fun w h => List.mem_cons_of_mem _ h) ?_
  intro p e s m args below meth c A Q hA hQ C hr hlk hnm
  have C : rC p s m args c E A 3 cX5_about sX5_about RX5 := C
  show rG p l e rX5_about s m args below meth c E A 3 0 0 Q [cO d0 5 [.ref v0, .ref w0, .ref g0, .ref b0, .ref p0, .ref s0, .int (iI stale)], cO v0 4 [.ref v1, .ref v2, .ref v3, .ref v4, .int (iI out)], cZ E v1 32 th, cI E v2 32 be, cI E v3 32 inf, cJ E v4 32 snt, cO w0 2 [.ref w1, .ref w2, .ref w3, .ref w4, .long (lI rel)], cZ E w1 8 sth, cI E w2 8 srch, cI E w3 8 cap, cI E w4 8 wat, cO g0 3 [.ref g1, .ref g2, .ref g3, .ref g4, .ref g5, .ref g6, .ref g7, .ref g8, .ref g9, .int (iI cn)], cZ E g1 40 g, cI E g2 40 pl, cI E g3 40 pr, cI E g4 40 ra, cI E g5 40 wn, cI E g6 40 sh, cI E g7 40 rt, cI E g8 40 st, cI E g9 40 ag, cO b0 0 [.ref b1, .int (iI day)], cJ E b1 300 ent, cO p0 1 [.ref p1, .ref p2, .ref p3], cI E p1 40 get, cJ E p2 32 flo, cI E p3 8 roo, cO s0 1 [.ref s1, .ref s2, .ref s3], cI E s1 40 sget, cJ E s2 32 sflo, cI E s3 8 sroo] 0 [(0, .ref d0), (1, .int (iI r)), (2, .int (iI w))] []
  refine rg_iload_n C 1 dX5_about_0 rfl rfl ?_
  refine rg_if_lt (tgt := 22) C ⟨by omega, by omega⟩ dX5_about_1 (by decide) (fun h_1 => ?_) (fun h_1 => ?_)
  · refine rg_iconst C dX5_about_22 ?_
    exact rg_iret C hA hQ hr hlk () rfl (by repeat (first | rw [if_pos (by omega)] | rw [if_neg (by omega)])) dX5_about_23
  · refine rg_iload_n C 1 dX5_about_4 rfl rfl ?_
    refine rg_bipush (z := 40) C dX5_about_5 (by decide) ?_
    refine rg_icmp_ge (tgt := 22) C ⟨by omega, by omega⟩ ⟨by decide, by decide⟩ dX5_about_7 (by decide) (fun h_7 => ?_) (fun h_7 => ?_)
    · refine rg_iconst C dX5_about_22 ?_
      exact rg_iret C hA hQ hr hlk () rfl (by repeat (first | rw [if_pos (by omega)] | rw [if_neg (by omega)])) dX5_about_23
    · have hs9 := hgg r.toNat (by omega)
      refine rg_aload_n C 0 dX5_about_10 rfl rfl ?_
      refine rg_get C fX5_26 0 rfl rfl dX5_about_11 ?_
      refine rg_get C fX5_85 11 rfl rfl dX5_about_14 ?_
      refine rg_iload_n C 1 dX5_about_17 rfl rfl ?_
      refine rg_zald C 12 rfl (by decide) (by omega) (by omega) dX5_about_18 ?_
      refine rg_if_ne (tgt := 24) C ⟨by omega, by omega⟩ dX5_about_19 (by decide) (fun h_19 => ?_) (fun h_19 => ?_)
      · refine rg_iload_n C 2 dX5_about_24 rfl rfl ?_
        rcases (show w < 0 ∨ 4 < w ∨ w = 0 ∨ w = 1 ∨ w = 2 ∨ w = 3 ∨ w = 4 by omega) with h_25 | h_25 | h_25 | h_25 | h_25 | h_25 | h_25
        · refine rg_tableOut (tgt := 110) C ⟨by omega, by omega⟩ dX5_about_25 (Or.inl h_25) (by decide) ?_
          refine rg_iconst C dX5_about_110 ?_
          exact rg_iret C hA hQ hr hlk () rfl (by repeat (first | rw [if_pos (by omega)] | rw [if_neg (by omega)])) dX5_about_111
        · refine rg_tableOut (tgt := 110) C ⟨by omega, by omega⟩ dX5_about_25 (Or.inr h_25) (by decide) ?_
          refine rg_iconst C dX5_about_110 ?_
          exact rg_iret C hA hQ hr hlk () rfl (by repeat (first | rw [if_pos (by omega)] | rw [if_neg (by omega)])) dX5_about_111
        · refine rg_tableIn (off := 35) (tgt := 60) C ⟨by omega, by omega⟩ dX5_about_25 (by omega) (by omega) (by rw [h_25]; rfl) (by decide) ?_
          refine rg_aload_n C 0 dX5_about_60 rfl rfl ?_
          refine rg_get C fX5_26 0 rfl rfl dX5_about_61 ?_
          refine rg_get C fX5_202 11 rfl rfl dX5_about_64 ?_
          refine rg_iload_n C 1 dX5_about_67 rfl rfl ?_
          refine rg_iald C 14 rfl (by decide) (by omega) (by omega) dX5_about_68 ?_
          exact rg_iret C hA hQ hr hlk () rfl (by repeat (first | rw [if_pos (by omega)] | rw [if_neg (by omega)])) dX5_about_69
        · refine rg_tableIn (off := 45) (tgt := 70) C ⟨by omega, by omega⟩ dX5_about_25 (by omega) (by omega) (by rw [h_25]; rfl) (by decide) ?_
          refine rg_aload_n C 0 dX5_about_70 rfl rfl ?_
          refine rg_get C fX5_26 0 rfl rfl dX5_about_71 ?_
          refine rg_get C fX5_106 11 rfl rfl dX5_about_74 ?_
          refine rg_iload_n C 1 dX5_about_77 rfl rfl ?_
          refine rg_iald C 15 rfl (by decide) (by omega) (by omega) dX5_about_78 ?_
          exact rg_iret C hA hQ hr hlk () rfl (by repeat (first | rw [if_pos (by omega)] | rw [if_neg (by omega)])) dX5_about_79
        · refine rg_tableIn (off := 55) (tgt := 80) C ⟨by omega, by omega⟩ dX5_about_25 (by omega) (by omega) (by rw [h_25]; rfl) (by decide) ?_
          refine rg_aload_n C 0 dX5_about_80 rfl rfl ?_
          refine rg_get C fX5_26 0 rfl rfl dX5_about_81 ?_
          refine rg_get C fX5_110 11 rfl rfl dX5_about_84 ?_
          refine rg_iload_n C 1 dX5_about_87 rfl rfl ?_
          refine rg_iald C 16 rfl (by decide) (by omega) (by omega) dX5_about_88 ?_
          exact rg_iret C hA hQ hr hlk () rfl (by repeat (first | rw [if_pos (by omega)] | rw [if_neg (by omega)])) dX5_about_89
        · refine rg_tableIn (off := 65) (tgt := 90) C ⟨by omega, by omega⟩ dX5_about_25 (by omega) (by omega) (by rw [h_25]; rfl) (by decide) ?_
          refine rg_aload_n C 0 dX5_about_90 rfl rfl ?_
          refine rg_get C fX5_26 0 rfl rfl dX5_about_91 ?_
          refine rg_get C fX5_205 11 rfl rfl dX5_about_94 ?_
          refine rg_iload_n C 1 dX5_about_97 rfl rfl ?_
          refine rg_iald C 17 rfl (by decide) (by omega) (by omega) dX5_about_98 ?_
          exact rg_iret C hA hQ hr hlk () rfl (by repeat (first | rw [if_pos (by omega)] | rw [if_neg (by omega)])) dX5_about_99
        · refine rg_tableIn (off := 75) (tgt := 100) C ⟨by omega, by omega⟩ dX5_about_25 (by omega) (by omega) (by rw [h_25]; rfl) (by decide) ?_
          refine rg_aload_n C 0 dX5_about_100 rfl rfl ?_
          refine rg_get C fX5_26 0 rfl rfl dX5_about_101 ?_
          refine rg_get C fX5_208 11 rfl rfl dX5_about_104 ?_
          refine rg_iload_n C 1 dX5_about_107 rfl rfl ?_
          refine rg_iald C 19 rfl (by decide) (by omega) (by omega) dX5_about_108 ?_
          exact rg_iret C hA hQ hr hlk () rfl (by repeat (first | rw [if_pos (by omega)] | rw [if_neg (by omega)])) dX5_about_109
      · refine rg_iconst C dX5_about_22 ?_
        exact rg_iret C hA hQ hr hlk () rfl (by repeat (first | rw [if_pos (by omega)] | rw [if_neg (by omega)])) dX5_about_23
abbrev rX5_aged : Room := { frames := 0, cells := 0, slots := 0, locals := 0 }
set_option maxHeartbeats 4000000 in
set_option maxRecDepth 100000 in
/-- aged -/
theorem kX5_aged (l : Launch) (E : rE) (d0 : Nat) (v0 : Nat) (v1 : Nat) (v2 : Nat) (v3 : Nat) (v4 : Nat) (th : Nat → Int) (be : Nat → Int) (inf : Nat → Int) (snt : Nat → Int) (out : Int) (w0 : Nat) (w1 : Nat) (w2 : Nat) (w3 : Nat) (w4 : Nat) (sth : Nat → Int) (srch : Nat → Int) (cap : Nat → Int) (wat : Nat → Int) (rel : Int) (g0 : Nat) (g1 : Nat) (g2 : Nat) (g3 : Nat) (g4 : Nat) (g5 : Nat) (g6 : Nat) (g7 : Nat) (g8 : Nat) (g9 : Nat) (g : Nat → Int) (pl : Nat → Int) (pr : Nat → Int) (ra : Nat → Int) (wn : Nat → Int) (sh : Nat → Int) (rt : Nat → Int) (st : Nat → Int) (ag : Nat → Int) (cn : Int) (b0 : Nat) (b1 : Nat) (ent : Nat → Int) (day : Int) (p0 : Nat) (p1 : Nat) (p2 : Nat) (p3 : Nat) (get : Nat → Int) (flo : Nat → Int) (roo : Nat → Int) (s0 : Nat) (s1 : Nat) (s2 : Nat) (s3 : Nat) (sget : Nat → Int) (sflo : Nat → Int) (sroo : Nat → Int) (stale : Int) (k : Int) (hcn : 0 ≤ cn ∧ cn ≤ 40) (hk0 : inI k) : rM l yX5_aged sX5_aged rX5_aged E [cO d0 5 [.ref v0, .ref w0, .ref g0, .ref b0, .ref p0, .ref s0, .int (iI stale)], cO v0 4 [.ref v1, .ref v2, .ref v3, .ref v4, .int (iI out)], cZ E v1 32 th, cI E v2 32 be, cI E v3 32 inf, cJ E v4 32 snt, cO w0 2 [.ref w1, .ref w2, .ref w3, .ref w4, .long (lI rel)], cZ E w1 8 sth, cI E w2 8 srch, cI E w3 8 cap, cI E w4 8 wat, cO g0 3 [.ref g1, .ref g2, .ref g3, .ref g4, .ref g5, .ref g6, .ref g7, .ref g8, .ref g9, .int (iI cn)], cZ E g1 40 g, cI E g2 40 pl, cI E g3 40 pr, cI E g4 40 ra, cI E g5 40 wn, cI E g6 40 sh, cI E g7 40 rt, cI E g8 40 st, cI E g9 40 ag, cO b0 0 [.ref b1, .int (iI day)], cJ E b1 300 ent, cO p0 1 [.ref p1, .ref p2, .ref p3], cI E p1 40 get, cJ E p2 32 flo, cI E p3 8 roo, cO s0 1 [.ref s1, .ref s2, .ref s3], cI E s1 40 sget, cJ E s2 32 sflo, cI E s3 8 sroo] [.ref d0, .int (iI k)] (some (.int (iI (if k < 0 ∨ cn ≤ k then -1 else ag k.toNat)))) (fun _ : Unit => [cO d0 5 [.ref v0, .ref w0, .ref g0, .ref b0, .ref p0, .ref s0, .int (iI stale)], cO v0 4 [.ref v1, .ref v2, .ref v3, .ref v4, .int (iI out)], cZ E v1 32 th, cI E v2 32 be, cI E v3 32 inf, cJ E v4 32 snt, cO w0 2 [.ref w1, .ref w2, .ref w3, .ref w4, .long (lI rel)], cZ E w1 8 sth, cI E w2 8 srch, cI E w3 8 cap, cI E w4 8 wat, cO g0 3 [.ref g1, .ref g2, .ref g3, .ref g4, .ref g5, .ref g6, .ref g7, .ref g8, .ref g9, .int (iI cn)], cZ E g1 40 g, cI E g2 40 pl, cI E g3 40 pr, cI E g4 40 ra, cI E g5 40 wn, cI E g6 40 sh, cI E g7 40 rt, cI E g8 40 st, cI E g9 40 ag, cO b0 0 [.ref b1, .int (iI day)], cJ E b1 300 ent, cO p0 1 [.ref p1, .ref p2, .ref p3], cI E p1 40 get, cJ E p2 32 flo, cI E p3 8 roo, cO s0 1 [.ref s1, .ref s2, .ref s3], cI E s1 40 sget, cJ E s2 32 sflo, cI E s3 8 sroo]) := by
  refine rM.of (cc := cX5_aged) (maxL := 2) (ret := (some FieldType.int)) (by decide) rfl (Nat.le_of_ble_eq_true rfl) (fun w h => List.mem_cons_of_mem _ h) ?_
  intro p e s m args below meth c A Q hA hQ C hr hlk hnm
  have C : rC p s m args c E A 2 cX5_aged sX5_aged RX5 := C
  show rG p l e rX5_aged s m args below meth c E A 2 0 0 Q [cO d0 5 [.ref v0, .ref w0, .ref g0, .ref b0, .ref p0, .ref s0, .int (iI stale)], cO v0 4 [.ref v1, .ref v2, .ref v3, .ref v4, .int (iI out)], cZ E v1 32 th, cI E v2 32 be, cI E v3 32 inf, cJ E v4 32 snt, cO w0 2 [.ref w1, .ref w2, .ref w3, .ref w4, .long (lI rel)], cZ E w1 8 sth, cI E w2 8 srch, cI E w3 8 cap, cI E w4 8 wat, cO g0 3 [.ref g1, .ref g2, .ref g3, .ref g4, .ref g5, .ref g6, .ref g7, .ref g8, .ref g9, .int (iI cn)], cZ E g1 40 g, cI E g2 40 pl, cI E g3 40 pr, cI E g4 40 ra, cI E g5 40 wn, cI E g6 40 sh, cI E g7 40 rt, cI E g8 40 st, cI E g9 40 ag, cO b0 0 [.ref b1, .int (iI day)], cJ E b1 300 ent, cO p0 1 [.ref p1, .ref p2, .ref p3], cI E p1 40 get, cJ E p2 32 flo, cI E p3 8 roo, cO s0 1 [.ref s1, .ref s2, .ref s3], cI E s1 40 sget, cJ E s2 32 sflo, cI E s3 8 sroo] 0 [(0, .ref d0), (1, .int (iI k))] []
  refine rg_iload_n C 1 dX5_aged_0 rfl rfl ?_
  refine rg_if_lt (tgt := 15) C ⟨by omega, by omega⟩ dX5_aged_1 (by decide) (fun h_1 => ?_) (fun h_1 => ?_)
  · refine rg_iconst C dX5_aged_15 ?_
    refine rg_goto (tgt := 28) C dX5_aged_16 (by decide) ?_
    exact rg_iret C hA hQ hr hlk () rfl (by repeat (first | rw [if_pos (by omega)] | rw [if_neg (by omega)])) dX5_aged_28
  · refine rg_iload_n C 1 dX5_aged_4 rfl rfl ?_
    refine rg_aload_n C 0 dX5_aged_5 rfl rfl ?_
    refine rg_get C fX5_26 0 rfl rfl dX5_aged_6 ?_
    refine rg_get C fX5_140 11 rfl rfl dX5_aged_9 ?_
    refine rg_icmp_lt (tgt := 19) C ⟨by omega, by omega⟩ ⟨by omega, by omega⟩ dX5_aged_12 (by decide) (fun h_12 => ?_) (fun h_12 => ?_)
    · refine rg_aload_n C 0 dX5_aged_19 rfl rfl ?_
      refine rg_get C fX5_26 0 rfl rfl dX5_aged_20 ?_
      refine rg_get C fX5_143 11 rfl rfl dX5_aged_23 ?_
      refine rg_iload_n C 1 dX5_aged_26 rfl rfl ?_
      refine rg_iald C 20 rfl (by decide) (by omega) (by omega) dX5_aged_27 ?_
      exact rg_iret C hA hQ hr hlk () rfl (by repeat (first | rw [if_pos (by omega)] | rw [if_neg (by omega)])) dX5_aged_28
    · refine rg_iconst C dX5_aged_15 ?_
      refine rg_goto (tgt := 28) C dX5_aged_16 (by decide) ?_
      exact rg_iret C hA hQ hr hlk () rfl (by repeat (first | rw [if_pos (by omega)] | rw [if_neg (by omega)])) dX5_aged_28
