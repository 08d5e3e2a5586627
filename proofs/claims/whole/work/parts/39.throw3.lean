def noTr (l : Launch) : Prop := ∀ e : Env, l.admits e → e.platform.stackTraces = false
/-- what a call that may throw needs of the state -/
def xZ (U : State) : Prop := xS U ∧ (∃ q, vk_R "RiverDesk" 223 "no such number" q U) ∧ (∃ q, vk_R "RiverDesk" 228 "nothing of that number is there" q U) ∧ (∃ q, vk_R "RiverDesk" 231 "the value is out of its bounds" q U) ∧ (∃ q, vk_R "RiverDesk" 235 "the place is taken" q U) ∧ (∃ q, vk_R "RiverDesk" 238 "the reservoir holds less" q U) ∧ (∃ q, vk_R "RiverDesk" 216 "the reach is not on the path" q U)
theorem xZ.go {s U : State} {E : rE} {cin : va_W} {A : Nat → Prop} {H : Heap} {locs : List Loc} (h : xZ s) (hP0 : va_P E.1 vwCl cin s.heap) (hA : A = va_A cin s.heap.size) (hS : va_S A s.heap H locs) (hU : U.heap = H) (hW : s.WarmedH U.vm) : xZ U := by
  obtain ⟨h0, ⟨q1, h1⟩, ⟨q2, h2⟩, ⟨q3, h3⟩, ⟨q4, h4⟩, ⟨q5, h5⟩, ⟨q6, h6⟩⟩ := h
  exact ⟨h0.go hP0 hA hS hU hW, ⟨q1, h1.warm hW⟩, ⟨q2, h2.warm hW⟩, ⟨q3, h3.warm hW⟩, ⟨q4, h4.warm hW⟩, ⟨q5, h5.warm hW⟩, ⟨q6, h6.warm hW⟩⟩
theorem xZ.calling {U : State} (h : xZ U) (g : JFrame) (mk : MethodId) (a : Array Value) : xZ (U.calling g mk a) := by
  obtain ⟨h0, ⟨q1, h1⟩, ⟨q2, h2⟩, ⟨q3, h3⟩, ⟨q4, h4⟩, ⟨q5, h5⟩, ⟨q6, h6⟩⟩ := h
  exact ⟨h0.calling g mk a, ⟨q1, h1.same rfl⟩, ⟨q2, h2.same rfl⟩, ⟨q3, h3.same rfl⟩, ⟨q4, h4.same rfl⟩, ⟨q5, h5.same rfl⟩, ⟨q6, h6.same rfl⟩⟩
abbrev rxX5_checkNumber : Room := { frames := 6, cells := 1, slots := 6, locals := 90 }
set_option maxHeartbeats 4000000 in
set_option maxRecDepth 100000 in
/-- checkNumber, refused -/
theorem xX5_checkNumber (l : Launch) (hl0 : noTr l) (E : rE) (v : Int) (n : Int) (hIv : inI v) (hIn : inI n) (h0 : v < 0 ∨ n ≤ v) : rX xZ l yX5_checkNumber sX5_checkNumber rxX5_checkNumber E [] [.int (iI v), .int (iI n)] xIo := by
  refine rX.of (cc := cX5_checkNumber) (maxL := 2) (ret := none) (by decide) rfl (Nat.le_of_ble_eq_true rfl) (fun w h => List.mem_cons_of_mem _ h) ?_
  intro p e s m args below meth c A Q hadm hz hP0 hA hQ C hlk hex
  have C : rC p s m args c E A 2 cX5_checkNumber sX5_checkNumber RX5 := C
  show rG p l e rxX5_checkNumber s m args below meth c E A 2 0 0 Q [] 0 [(0, .int (iI v)), (1, .int (iI n))] []
  refine rg_iload_n C 0 dX5_checkNumber_0 rfl rfl ?_
  refine rg_if_lt (tgt := 9) C hIv dX5_checkNumber_1 (by decide) (fun h_1 => ?_) (fun h_1 => ?_)
  · obtain ⟨qs, hqs⟩ := hz.2.1
    exact rg_throw C (hl0 e hadm) (xT_io C hz.1) w_346 w_347 w_30 hqs hP0 hA hlk hex hQ dX5_checkNumber_9 dX5_checkNumber_12 dX5_checkNumber_13 dX5_checkNumber_15 dX5_checkNumber_18 ⟨Nat.le_of_ble_eq_true rfl, Nat.le_of_ble_eq_true rfl, Nat.le_of_ble_eq_true rfl, Nat.le_of_ble_eq_true rfl⟩
  · refine rg_iload_n C 0 dX5_checkNumber_4 rfl rfl ?_
    refine rg_iload_n C 1 dX5_checkNumber_5 rfl rfl ?_
    refine rg_icmp_lt (tgt := 19) C hIv hIn dX5_checkNumber_6 (by decide) (fun h_6 => absurd h_6 (by omega)) (fun h_6 => ?_)
    obtain ⟨qs, hqs⟩ := hz.2.1
    exact rg_throw C (hl0 e hadm) (xT_io C hz.1) w_346 w_347 w_30 hqs hP0 hA hlk hex hQ dX5_checkNumber_9 dX5_checkNumber_12 dX5_checkNumber_13 dX5_checkNumber_15 dX5_checkNumber_18 ⟨Nat.le_of_ble_eq_true rfl, Nat.le_of_ble_eq_true rfl, Nat.le_of_ble_eq_true rfl, Nat.le_of_ble_eq_true rfl⟩
abbrev rxX5_checkThere : Room := { frames := 6, cells := 1, slots := 6, locals := 90 }
set_option maxHeartbeats 4000000 in
set_option maxRecDepth 100000 in
/-- checkThere, refused -/
theorem xX5_checkThere (l : Launch) (hl0 : noTr l) (E : rE) (v : Int) (h0 : v = 0) : rX xZ l yX5_checkThere sX5_checkThere rxX5_checkThere E [] [.int (iI v)] xNo := by
  refine rX.of (cc := cX5_checkThere) (maxL := 1) (ret := none) (by decide) rfl (Nat.le_of_ble_eq_true rfl) (fun w h => List.mem_cons_of_mem _ h) ?_
  intro p e s m args below meth c A Q hadm hz hP0 hA hQ C hlk hex
  have C : rC p s m args c E A 1 cX5_checkThere sX5_checkThere RX5 := C
  show rG p l e rxX5_checkThere s m args below meth c E A 1 0 0 Q [] 0 [(0, .int (iI v))] []
  refine rg_iload_n C 0 dX5_checkThere_0 rfl rfl ?_
  refine rg_if_ne (tgt := 14) C ⟨by omega, by omega⟩ dX5_checkThere_1 (by decide) (fun h_1 => absurd h_1 (by omega)) (fun h_1 => ?_)
  obtain ⟨qs, hqs⟩ := hz.2.2.1
  exact rg_throw C (hl0 e hadm) (xT_no C hz.1) w_418 w_419 w_31 hqs hP0 hA hlk hex hQ dX5_checkThere_4 dX5_checkThere_7 dX5_checkThere_8 dX5_checkThere_10 dX5_checkThere_13 ⟨Nat.le_of_ble_eq_true rfl, Nat.le_of_ble_eq_true rfl, Nat.le_of_ble_eq_true rfl, Nat.le_of_ble_eq_true rfl⟩
abbrev rxX5_checkBetween : Room := { frames := 6, cells := 1, slots := 6, locals := 90 }
set_option maxHeartbeats 4000000 in
set_option maxRecDepth 100000 in
/-- checkBetween, refused -/
theorem xX5_checkBetween (l : Launch) (hl0 : noTr l) (E : rE) (v : Int) (a : Int) (b : Int) (hIv : inI v) (hIa : inI a) (hIb : inI b) (h0 : v < a ∨ b < v) : rX xZ l yX5_checkBetween sX5_checkBetween rxX5_checkBetween E [] [.int (iI v), .int (iI a), .int (iI b)] xAr := by
  refine rX.of (cc := cX5_checkBetween) (maxL := 3) (ret := none) (by decide) rfl (Nat.le_of_ble_eq_true rfl) (fun w h => List.mem_cons_of_mem _ h) ?_
  intro p e s m args below meth c A Q hadm hz hP0 hA hQ C hlk hex
  have C : rC p s m args c E A 3 cX5_checkBetween sX5_checkBetween RX5 := C
  show rG p l e rxX5_checkBetween s m args below meth c E A 3 0 0 Q [] 0 [(0, .int (iI v)), (1, .int (iI a)), (2, .int (iI b))] []
  refine rg_iload_n C 0 dX5_checkBetween_0 rfl rfl ?_
  refine rg_iload_n C 1 dX5_checkBetween_1 rfl rfl ?_
  refine rg_icmp_lt (tgt := 10) C hIv hIa dX5_checkBetween_2 (by decide) (fun h_2 => ?_) (fun h_2 => ?_)
  · obtain ⟨qs, hqs⟩ := hz.2.2.2.1
    exact rg_throw C (hl0 e hadm) (xT_ar C hz.1) w_469 w_470 w_33 hqs hP0 hA hlk hex hQ dX5_checkBetween_10 dX5_checkBetween_13 dX5_checkBetween_14 dX5_checkBetween_16 dX5_checkBetween_19 ⟨Nat.le_of_ble_eq_true rfl, Nat.le_of_ble_eq_true rfl, Nat.le_of_ble_eq_true rfl, Nat.le_of_ble_eq_true rfl⟩
  · refine rg_iload_n C 0 dX5_checkBetween_5 rfl rfl ?_
    refine rg_iload_n C 2 dX5_checkBetween_6 rfl rfl ?_
    refine rg_icmp_le (tgt := 20) C hIv hIb dX5_checkBetween_7 (by decide) (fun h_7 => absurd h_7 (by omega)) (fun h_7 => ?_)
    obtain ⟨qs, hqs⟩ := hz.2.2.2.1
    exact rg_throw C (hl0 e hadm) (xT_ar C hz.1) w_469 w_470 w_33 hqs hP0 hA hlk hex hQ dX5_checkBetween_10 dX5_checkBetween_13 dX5_checkBetween_14 dX5_checkBetween_16 dX5_checkBetween_19 ⟨Nat.le_of_ble_eq_true rfl, Nat.le_of_ble_eq_true rfl, Nat.le_of_ble_eq_true rfl, Nat.le_of_ble_eq_true rfl⟩
abbrev rxX5_checkFree : Room := { frames := 6, cells := 1, slots := 6, locals := 90 }
set_option maxHeartbeats 4000000 in
set_option maxRecDepth 100000 in
/-- checkFree, refused -/
theorem xX5_checkFree (l : Launch) (hl0 : noTr l) (E : rE) (v : Int) (h0 : v = 1) : rX xZ l yX5_checkFree sX5_checkFree rxX5_checkFree E [] [.int (iI v)] xIl := by
  refine rX.of (cc := cX5_checkFree) (maxL := 1) (ret := none) (by decide) rfl (Nat.le_of_ble_eq_true rfl) (fun w h => List.mem_cons_of_mem _ h) ?_
  intro p e s m args below meth c A Q hadm hz hP0 hA hQ C hlk hex
  have C : rC p s m args c E A 1 cX5_checkFree sX5_checkFree RX5 := C
  show rG p l e rxX5_checkFree s m args below meth c E A 1 0 0 Q [] 0 [(0, .int (iI v))] []
  refine rg_iload_n C 0 dX5_checkFree_0 rfl rfl ?_
  refine rg_if_eq (tgt := 14) C ⟨by omega, by omega⟩ dX5_checkFree_1 (by decide) (fun h_1 => absurd h_1 (by omega)) (fun h_1 => ?_)
  obtain ⟨qs, hqs⟩ := hz.2.2.2.2.1
  exact rg_throw C (hl0 e hadm) (xT_il C hz.1) w_437 w_438 w_32 hqs hP0 hA hlk hex hQ dX5_checkFree_4 dX5_checkFree_7 dX5_checkFree_8 dX5_checkFree_10 dX5_checkFree_13 ⟨Nat.le_of_ble_eq_true rfl, Nat.le_of_ble_eq_true rfl, Nat.le_of_ble_eq_true rfl, Nat.le_of_ble_eq_true rfl⟩
abbrev rxX5_checkEnough : Room := { frames := 6, cells := 1, slots := 6, locals := 90 }
set_option maxHeartbeats 4000000 in
set_option maxRecDepth 100000 in
/-- checkEnough, refused -/
theorem xX5_checkEnough (l : Launch) (hl0 : noTr l) (E : rE) (v : Int) (a : Int) (hIv : inI v) (hIa : inI a) (h0 : v < a) : rX xZ l yX5_checkEnough sX5_checkEnough rxX5_checkEnough E [] [.int (iI v), .int (iI a)] xIl := by
  refine rX.of (cc := cX5_checkEnough) (maxL := 2) (ret := none) (by decide) rfl (Nat.le_of_ble_eq_true rfl) (fun w h => List.mem_cons_of_mem _ h) ?_
  intro p e s m args below meth c A Q hadm hz hP0 hA hQ C hlk hex
  have C : rC p s m args c E A 2 cX5_checkEnough sX5_checkEnough RX5 := C
  show rG p l e rxX5_checkEnough s m args below meth c E A 2 0 0 Q [] 0 [(0, .int (iI v)), (1, .int (iI a))] []
  refine rg_iload_n C 0 dX5_checkEnough_0 rfl rfl ?_
  refine rg_iload_n C 1 dX5_checkEnough_1 rfl rfl ?_
  refine rg_icmp_ge (tgt := 15) C hIv hIa dX5_checkEnough_2 (by decide) (fun h_2 => absurd h_2 (by omega)) (fun h_2 => ?_)
  obtain ⟨qs, hqs⟩ := hz.2.2.2.2.2.1
  exact rg_throw C (hl0 e hadm) (xT_il C hz.1) w_437 w_438 w_32 hqs hP0 hA hlk hex hQ dX5_checkEnough_5 dX5_checkEnough_8 dX5_checkEnough_9 dX5_checkEnough_11 dX5_checkEnough_14 ⟨Nat.le_of_ble_eq_true rfl, Nat.le_of_ble_eq_true rfl, Nat.le_of_ble_eq_true rfl, Nat.le_of_ble_eq_true rfl⟩
abbrev rxX5_checkPath : Room := { frames := 6, cells := 1, slots := 6, locals := 90 }
set_option maxHeartbeats 4000000 in
set_option maxRecDepth 100000 in
/-- checkPath, refused -/
theorem xX5_checkPath (l : Launch) (hl0 : noTr l) (E : rE) (d0 : Nat) (v0 : Nat) (v1 : Nat) (v2 : Nat) (v3 : Nat) (v4 : Nat) (th : Nat → Int) (be : Nat → Int) (inf : Nat → Int) (snt : Nat → Int) (out : Int) (w0 : Nat) (w1 : Nat) (w2 : Nat) (w3 : Nat) (w4 : Nat) (sth : Nat → Int) (srch : Nat → Int) (cap : Nat → Int) (wat : Nat → Int) (rel : Int) (g0 : Nat) (g1 : Nat) (g2 : Nat) (g3 : Nat) (g4 : Nat) (g5 : Nat) (g6 : Nat) (g7 : Nat) (g8 : Nat) (g9 : Nat) (g : Nat → Int) (pl : Nat → Int) (pr : Nat → Int) (ra : Nat → Int) (wn : Nat → Int) (sh : Nat → Int) (rt : Nat → Int) (st : Nat → Int) (ag : Nat → Int) (cn : Int) (b0 : Nat) (b1 : Nat) (ent : Nat → Int) (day : Int) (p0 : Nat) (p1 : Nat) (p2 : Nat) (p3 : Nat) (get : Nat → Int) (flo : Nat → Int) (roo : Nat → Int) (s0 : Nat) (s1 : Nat) (s2 : Nat) (s3 : Nat) (sget : Nat → Int) (sflo : Nat → Int) (sroo : Nat → Int) (stale : Int) (a : Int) (b : Int) (hbe : ∀ r : Nat, r < 32 → -1 ≤ be r ∧ be r < 32) (hf : -1 ≤ a ∧ a < 32) (ht : inI b) (ho : onP be a b = false) : rX xZ l yX5_checkPath sX5_checkPath rxX5_checkPath E [cO d0 5 [.ref v0, .ref w0, .ref g0, .ref b0, .ref p0, .ref s0, .int (iI stale)], cO v0 4 [.ref v1, .ref v2, .ref v3, .ref v4, .int (iI out)], cZ E v1 32 th, cI E v2 32 be, cI E v3 32 inf, cJ E v4 32 snt, cO w0 2 [.ref w1, .ref w2, .ref w3, .ref w4, .long (lI rel)], cZ E w1 8 sth, cI E w2 8 srch, cI E w3 8 cap, cI E w4 8 wat, cO g0 3 [.ref g1, .ref g2, .ref g3, .ref g4, .ref g5, .ref g6, .ref g7, .ref g8, .ref g9, .int (iI cn)], cZ E g1 40 g, cI E g2 40 pl, cI E g3 40 pr, cI E g4 40 ra, cI E g5 40 wn, cI E g6 40 sh, cI E g7 40 rt, cI E g8 40 st, cI E g9 40 ag, cO b0 0 [.ref b1, .int (iI day)], cJ E b1 300 ent, cO p0 1 [.ref p1, .ref p2, .ref p3], cI E p1 40 get, cJ E p2 32 flo, cI E p3 8 roo, cO s0 1 [.ref s1, .ref s2, .ref s3], cI E s1 40 sget, cJ E s2 32 sflo, cI E s3 8 sroo] [.ref d0, .int (iI a), .int (iI b)] xAr := by
  refine rX.of (cc := cX5_checkPath) (maxL := 3) (ret := none) (by decide) rfl (Nat.le_of_ble_eq_true rfl) (fun w h => List.mem_cons_of_mem _ h) ?_
  intro p e s m args below meth c A Q hadm hz hP0 hA hQ C hlk hex
  have C : rC p s m args c E A 3 cX5_checkPath sX5_checkPath RX5 := C
  show rG p l e rxX5_checkPath s m args below meth c E A 3 0 0 Q [cO d0 5 [.ref v0, .ref w0, .ref g0, .ref b0, .ref p0, .ref s0, .int (iI stale)], cO v0 4 [.ref v1, .ref v2, .ref v3, .ref v4, .int (iI out)], cZ E v1 32 th, cI E v2 32 be, cI E v3 32 inf, cJ E v4 32 snt, cO w0 2 [.ref w1, .ref w2, .ref w3, .ref w4, .long (lI rel)], cZ E w1 8 sth, cI E w2 8 srch, cI E w3 8 cap, cI E w4 8 wat, cO g0 3 [.ref g1, .ref g2, .ref g3, .ref g4, .ref g5, .ref g6, .ref g7, .ref g8, .ref g9, .int (iI cn)], cZ E g1 40 g, cI E g2 40 pl, cI E g3 40 pr, cI E g4 40 ra, cI E g5 40 wn, cI E g6 40 sh, cI E g7 40 rt, cI E g8 40 st, cI E g9 40 ag, cO b0 0 [.ref b1, .int (iI day)], cJ E b1 300 ent, cO p0 1 [.ref p1, .ref p2, .ref p3], cI E p1 40 get, cJ E p2 32 flo, cI E p3 8 roo, cO s0 1 [.ref s1, .ref s2, .ref s3], cI E s1 40 sget, cJ E s2 32 sflo, cI E s3 8 sroo] 0 [(0, .ref d0), (1, .int (iI a)), (2, .int (iI b))] []
  refine rg_aload_n C 0 dX5_checkPath_0 rfl rfl ?_
  refine rg_get C fX5_10 0 rfl rfl dX5_checkPath_1 ?_
  refine rg_iload_n C 1 dX5_checkPath_4 rfl rfl ?_
  refine rg_iload_n C 2 dX5_checkPath_5 rfl rfl ?_
  refine rg_callV (As := [.int (iI a), .int (iI b)]) (rest := []) (wr := [cO d0 5 [.ref v0, .ref w0, .ref g0, .ref b0, .ref p0, .ref s0, .int (iI stale)], cO w0 2 [.ref w1, .ref w2, .ref w3, .ref w4, .long (lI rel)], cZ E w1 8 sth, cI E w2 8 srch, cI E w3 8 cap, cI E w4 8 wat, cO g0 3 [.ref g1, .ref g2, .ref g3, .ref g4, .ref g5, .ref g6, .ref g7, .ref g8, .ref g9, .int (iI cn)], cZ E g1 40 g, cI E g2 40 pl, cI E g3 40 pr, cI E g4 40 ra, cI E g5 40 wn, cI E g6 40 sh, cI E g7 40 rt, cI E g8 40 st, cI E g9 40 ag, cO b0 0 [.ref b1, .int (iI day)], cJ E b1 300 ent, cO p0 1 [.ref p1, .ref p2, .ref p3], cI E p1 40 get, cJ E p2 32 flo, cI E p3 8 roo, cO s0 1 [.ref s1, .ref s2, .ref s3], cI E s1 40 sget, cJ E s2 32 sflo, cI E s3 8 sroo]) (w' := fun _ => [cO d0 5 [.ref v0, .ref w0, .ref g0, .ref b0, .ref p0, .ref s0, .int (iI stale)], cO v0 4 [.ref v1, .ref v2, .ref v3, .ref v4, .int (iI out)], cZ E v1 32 th, cI E v2 32 be, cI E v3 32 inf, cJ E v4 32 snt, cO w0 2 [.ref w1, .ref w2, .ref w3, .ref w4, .long (lI rel)], cZ E w1 8 sth, cI E w2 8 srch, cI E w3 8 cap, cI E w4 8 wat, cO g0 3 [.ref g1, .ref g2, .ref g3, .ref g4, .ref g5, .ref g6, .ref g7, .ref g8, .ref g9, .int (iI cn)], cZ E g1 40 g, cI E g2 40 pl, cI E g3 40 pr, cI E g4 40 ra, cI E g5 40 wn, cI E g6 40 sh, cI E g7 40 rt, cI E g8 40 st, cI E g9 40 ag, cO b0 0 [.ref b1, .int (iI day)], cJ E b1 300 ent, cO p0 1 [.ref p1, .ref p2, .ref p3], cI E p1 40 get, cJ E p2 32 flo, cI E p3 8 roo, cO s0 1 [.ref s1, .ref s2, .ref s3], cI E s1 40 sget, cJ E s2 32 sflo, cI E s3 8 sroo]) C (kX4_leadsTo l E v0 v1 v2 v3 v4 th be inf snt out a b hbe hf ht) (rcwV C mX4_leadsTo w_501 ⟨Nat.le_of_ble_eq_true rfl, Nat.le_of_ble_eq_true rfl⟩) [1, 2, 3, 4, 5] [0, 6, 7, 8, 9, 10, 11, 12, 13, 14, 15, 16, 17, 18, 19, 20, 21, 22, 23, 24, 25, 26, 27, 28, 29, 30] [0, 26, 27, 28, 29, 30, 1, 2, 3, 4, 5, 6, 7, 8, 9, 10, 11, 12, 13, 14, 15, 16, 17, 18, 19, 20, 21, 22, 23, 24, 25] rfl rfl (by decide) (by decide) (by decide) (fun _ => rfl) (by decide) 0 rfl rfl rfl rfl (Nat.le_of_ble_eq_true rfl) dX5_checkPath_6 ⟨Nat.le_of_ble_eq_true rfl, Nat.le_of_ble_eq_true rfl⟩ (fun _ => ?_)
  show rG p l e rxX5_checkPath s m args below meth c E A 3 0 0 Q [cO d0 5 [.ref v0, .ref w0, .ref g0, .ref b0, .ref p0, .ref s0, .int (iI stale)], cO v0 4 [.ref v1, .ref v2, .ref v3, .ref v4, .int (iI out)], cZ E v1 32 th, cI E v2 32 be, cI E v3 32 inf, cJ E v4 32 snt, cO w0 2 [.ref w1, .ref w2, .ref w3, .ref w4, .long (lI rel)], cZ E w1 8 sth, cI E w2 8 srch, cI E w3 8 cap, cI E w4 8 wat, cO g0 3 [.ref g1, .ref g2, .ref g3, .ref g4, .ref g5, .ref g6, .ref g7, .ref g8, .ref g9, .int (iI cn)], cZ E g1 40 g, cI E g2 40 pl, cI E g3 40 pr, cI E g4 40 ra, cI E g5 40 wn, cI E g6 40 sh, cI E g7 40 rt, cI E g8 40 st, cI E g9 40 ag, cO b0 0 [.ref b1, .int (iI day)], cJ E b1 300 ent, cO p0 1 [.ref p1, .ref p2, .ref p3], cI E p1 40 get, cJ E p2 32 flo, cI E p3 8 roo, cO s0 1 [.ref s1, .ref s2, .ref s3], cI E s1 40 sget, cJ E s2 32 sflo, cI E s3 8 sroo] 9 [(0, .ref d0), (1, .int (iI a)), (2, .int (iI b))] [.int (iI (bZ (onP be a b)))]
  refine rg_if_ne (tgt := 22) C (bZ_in _) dX5_checkPath_9 (by decide) (fun h_9 => absurd h_9 (by rw [ho]; decide)) (fun h_9 => ?_)
  obtain ⟨qs, hqs⟩ := hz.2.2.2.2.2.2
  exact rg_throw C (hl0 e hadm) (xT_ar C hz.1) w_469 w_470 w_33 hqs hP0 hA hlk hex hQ dX5_checkPath_12 dX5_checkPath_15 dX5_checkPath_16 dX5_checkPath_18 dX5_checkPath_21 ⟨Nat.le_of_ble_eq_true rfl, Nat.le_of_ble_eq_true rfl, Nat.le_of_ble_eq_true rfl, Nat.le_of_ble_eq_true rfl⟩
